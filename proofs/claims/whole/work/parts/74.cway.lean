/-! ===== the class's ways; network, arc, way ===== -/
theorem pigeon : ∀ (n : Nat) (w : Nat → Nat), (∀ i, i ≤ n → w i < n) → ∃ i j, i < j ∧ j ≤ n ∧ w i = w j
  | 0, w, h => absurd (h 0 (Nat.le_refl _)) (Nat.not_lt_zero _)
  | n + 1, w, h => Classical.byContradiction fun no => by
    have inj : ∀ i j, i < j → j ≤ n + 1 → w i ≠ w j := fun i j a b c => no ⟨i, j, a, b, c⟩
    obtain ⟨i, j, h1, h2, h3⟩ := pigeon n (fun i => if w i = n then w (n + 1) else w i) (fun i hi => by
      have h1 := h i (by omega)
      have h2 := h (n + 1) (Nat.le_refl _)
      have h3 := inj i (n + 1) (by omega) (Nat.le_refl _)
      split <;> omega)
    have a1 := inj i j h1 (by omega)
    have a2 := inj i (n + 1) (by omega) (Nat.le_refl _)
    have a3 := inj j (n + 1) (by omega) (Nat.le_refl _)
    split at h3
    · split at h3
      · rename_i y z; exact a1 (by rw [y, z])
      · exact a3 h3.symm
    · split at h3
      · exact a2 h3
      · exact a1 h3
theorem wsq_lt {T : tb} {t : tre} {n c i r : Nat} (h : wsq T t n c i = some r) : onC T n c r := by
  cases i with
  | zero =>
    rw [wsq] at h
    obtain ⟨q, _, _, h⟩ := fs_in _ _ h
    by_cases z : beg T t n c q
    · rw [cnd_t z] at h; cases h; exact z.1
    · rw [cnd_f z] at h; cases h
  | succ i =>
    rw [wsq] at h
    cases e : wsq T t n c i with
    | none => rw [e] at h; cases h
    | some p =>
      rw [e] at h
      obtain ⟨q, _, _, h⟩ := fs_in _ _ h
      by_cases z : onC T n c q ∧ lvA T t c q = rcA T t c p
      · rw [cnd_t z] at h; cases h; exact z.1
      · rw [cnd_f z] at h; cases h
theorem wsq_dn {T : tb} {t : tre} {n c i : Nat} : ∀ d, wsq T t n c i = none → wsq T t n c (i + d) = none
  | 0, h => h
  | d + 1, h => by
    rw [show i + (d + 1) = (i + d) + 1 by omega, wsq, wsq_dn d h]
theorem wsq_link {T : tb} {t : tre} {n c i r q : Nat} (h : wsq T t n c i = some r) (h2 : wsq T t n c (i + 1) = some q) : lvA T t c q = rcA T t c r := by
  rw [wsq, h] at h2
  obtain ⟨p, _, _, h2⟩ := fs_in _ _ h2
  by_cases z : onC T n c p ∧ lvA T t c p = rcA T t c r
  · rw [cnd_t z] at h2; cases h2; exact z.2
  · rw [cnd_f z] at h2; cases h2
theorem wsq_beg {T : tb} {t : tre} {n c r : Nat} (h : wsq T t n c 0 = some r) : beg T t n c r := by
  rw [wsq] at h
  obtain ⟨q, _, _, h⟩ := fs_in _ _ h
  by_cases z : beg T t n c q
  · rw [cnd_t z] at h; cases h; exact z
  · rw [cnd_f z] at h; cases h
theorem wsq_wk {T : tb} {t : tre} {n c : Nat} (hF : F2 t n) (hok : nodOK t n) {w : Nat → Nat} : ∀ k, (∀ i, i ≤ k → wsq T t n c i = some (w i)) → WK T t n c w k
  | 0, h => ⟨fun i hi => wsq_lt (h i hi), fun i j a b => absurd b (by omega), fun i hi => absurd hi (Nat.not_lt_zero _), wsq_beg (h 0 (Nat.le_refl _))⟩
  | k + 1, h => by
    have ih := wsq_wk hF hok k (fun i hi => h i (by omega))
    have lk := wsq_link (h k (by omega)) (h (k + 1) (Nat.le_refl _))
    refine ⟨fun i hi => wsq_lt (h i hi), fun i j a b e => ?_, fun i hi => (wsq_link (h i (by omega)) (h (i + 1) (by omega))).symm, ih.2.2.2⟩
    rcases (by omega : j ≤ k ∨ j = k + 1) with z | rfl
    · exact ih.2.1 i j a z e
    · exact ih.seg hF hok (i := i) (j := k) (by omega) (Nat.le_refl _) (by rw [← lk, e])
theorem wsq_end {T : tb} {t : tre} {n c : Nat} (hF : F2 t n) (hok : nodOK t n) : ∀ i, n ≤ i → wsq T t n c i = none := by
  intro i hi
  have first : wsq T t n c n = none := by
    cases e : wsq T t n c n with
    | none => rfl
    | some r =>
      exfalso
      have al : ∀ i, i ≤ n → ∃ q, wsq T t n c i = some q := fun i hi => by
        cases e2 : wsq T t n c i with
        | some q => exact ⟨q, rfl⟩
        | none =>
          have := wsq_dn (n - i) e2
          rw [show i + (n - i) = n by omega, e] at this
          cases this
      have wk := wsq_wk (T := T) (c := c) hF hok (w := fun i => (wsq T t n c i).getD 0) n (fun i hi => by obtain ⟨q, hq⟩ := al i hi; rw [hq]; rfl)
      obtain ⟨i, j, h1, h2, h3⟩ := pigeon n _ (fun i hi => (wk.1 i hi).1)
      exact wk.2.1 i j h1 h2 h3
  have := wsq_dn (i - n) first
  rwa [show n + (i - n) = i by omega] at this
theorem pcn_pow : ∀ u, u < 7 → pcn (2 ^ u - 1) 7 = u := by decide
theorem one_bit : ∀ S, S < 128 → pcn S 7 ≤ 1 → S = 0 ∨ ∃ u, u < 7 ∧ S = 2 ^ u := by decide +kernel
theorem q01 {q : Int32} (h : 0 ≤ q.toInt ∧ q.toInt ≤ 1) : q = 0 ∨ q = 1 := by
  obtain ⟨n, n2, rfl, _⟩ := side01 h
  rcases (by omega : n = 0 ∨ n = 1) with rfl | rfl
  · exact Or.inl rfl
  · exact Or.inr rfl
theorem c_arcOnWay {σ : sg} {x : aW} {b : Nat} {T : tb} (hD : DL b) (hk : CKt σ b T) (h0 : ¬ T.1 = 0) (ok : ∀ i j, i < T.1 → j < T.2.1 → sml (T.2.2 i j)) (c q : Int32) : Mt mX9_arcOnWay 2 0 0 [.ref b, .int c, .int q] (wd σ x) (QI (cnd ((0 ≤ c.toInt ∧ c.toInt < T.2.1) ∧ 0 ≤ q.toInt) (match treeR T with
    | some t => o2i (wsq T t T.1 c.toNatClampNeg q.toNatClampNeg)
    | none => -1) (-1)) (wd σ x)) := by
  refine Mt.of MI_X9_arcOnWay (Nat.le_of_ble_eq_true rfl) (fun X hC hR hT => ?_)
  obtain ⟨k1, k2, k3, k4, k5⟩ := hk.1
  have t1 := nI_toInt (n := T.1) (by omega)
  have t2 := nI_toInt (n := T.2.1) (by omega)
  generalize hv : cnd ((0 ≤ c.toInt ∧ c.toInt < T.2.1) ∧ 0 ≤ q.toInt) (match treeR T with
    | some t => o2i (wsq T t T.1 c.toNatClampNeg q.toNatClampNeg)
    | none => -1) (-1) = v at hT
  cases ht : treeR T with
  | none =>
    have e : v = -1 := by
      rw [← hv, ht]
      by_cases z : (0 ≤ c.toInt ∧ c.toInt < T.2.1) ∧ 0 ≤ q.toInt
      · rw [cnd_t z]
      · rw [cnd_f z]
    refine R_aload_n (i := 0) hC dX9_arcOnWay_0 rfl rfl (R_gI hC dX9_arcOnWay_1 fl_X9_37 hD.1 rfl ?_)
    refine R_top (y := 0) (hk.no ht) ?_
    refine R_if_eq hC 37 dX9_arcOnWay_4 (by decide) (fun _ => ?_) (fun h => absurd rfl h)
    refine R_iconst (v := (-1)) hC dX9_arcOnWay_37 (by decide) ?_
    exact R_iret hC hT dX9_arcOnWay_38 rfl ⟨by rw [e], rfl⟩
  | some t =>
    obtain ⟨f1, hA⟩ := hk.ac ht
    obtain ⟨y1, y2, y3⟩ := treeR_ok ht
    rw [ht] at hv
    simp only at hv
    have nq : q.toInt < 0 → v = -1 := fun z => by rw [← hv, cnd_f (by omega)]
    have nc : ¬ (0 ≤ c.toInt ∧ c.toInt < T.2.1) → v = -1 := fun z => by rw [← hv, cnd_f (fun y => z y.1)]
    have ng : T.1 ≤ q.toInt → v = -1 := fun z => by
      rw [← hv]
      by_cases yy : (0 ≤ c.toInt ∧ c.toInt < T.2.1) ∧ 0 ≤ q.toInt
      · rw [cnd_t yy]
        obtain ⟨j, rfl, j1, j2⟩ := i32_nI yy.2
        rw [nI_clamp j2, wsq_end y2 y1 j (by omega)]; rfl
      · rw [cnd_f yy]
    have bad : v = -1 → ∀ l3 l4 l5, Rw mX9_arcOnWay X 37 [some (.ref b), some (.int c), some (.int q), l3, l4, l5] [] (wd σ x) 0 0 := by
      intro e l3 l4 l5
      refine R_iconst (v := (-1)) hC dX9_arcOnWay_37 (by decide) ?_
      exact R_iret hC hT dX9_arcOnWay_38 rfl ⟨by rw [e], rfl⟩
    have main : ∀ i j : Nat, i < T.2.1 → j < T.1 → c = nI i → q = nI j → Rw mX9_arcOnWay X 39 [some (.ref b), some (.int (nI i)), some (.int (nI j)), none, none, none] [] (wd σ x) 0 0 := by
      intro i j hi hj ec eq
      have ev : v = o2i (wsq T t T.1 i j) := by
        rw [← hv, ec, eq, cnd_t ⟨⟨by rw [nI_toInt (by omega)]; omega, by rw [nI_toInt (by omega)]; omega⟩, by rw [nI_toInt (by omega)]; omega⟩, nI_clamp (by omega), nI_clamp (by omega)]
      have wy := y3 i hi
      obtain ⟨n', hn'⟩ : ∃ n', T.1 = n' + 1 := ⟨T.1 - 1, by omega⟩
      have lp : ∀ g, g ≤ j → ∀ l3 : Int32, Rw mX9_arcOnWay X 70 [some (.ref b), some (.int (nI i)), some (.int (nI j)), some (.int l3), some (.int (o2i (wsq T t T.1 i g))), some (.int (nI g))] [] (wd σ x) 0 0 := by
        refine up_loop j ?_ ?_
        · intro l3
          refine R_iload hC dX9_arcOnWay_70 rfl (R_iload_n (i := 2) hC dX9_arcOnWay_72 rfl rfl ?_)
          refine R_icmp_ge hC 118 dX9_arcOnWay_73 (by decide) (fun _ => ?_) (fun h => absurd (Int32.le_refl _) h)
          refine R_iload hC dX9_arcOnWay_118 rfl ?_
          exact R_iret hC hT dX9_arcOnWay_120 rfl ⟨by rw [ev], rfl⟩
        · intro g hg ih l3
          cases e : wsq T t T.1 i g with
          | none =>
            have z := wsq_dn (j - g) e
            rw [show g + (j - g) = j by omega] at z
            refine R_iload hC dX9_arcOnWay_70 rfl (R_iload_n (i := 2) hC dX9_arcOnWay_72 rfl rfl ?_)
            refine R_icmp_ge hC 118 dX9_arcOnWay_73 (by decide) (fun h => absurd h (nI_ge hg (by omega))) (fun _ => ?_)
            refine R_iload hC dX9_arcOnWay_76 rfl (R_bipush (v := 6) hC dX9_arcOnWay_78 (by decide) ?_)
            refine R_icmp_ge hC 118 dX9_arcOnWay_80 (by decide) (fun h => absurd h (nI_ge (show g < 6 by omega) (by decide))) (fun _ => ?_)
            refine R_iload hC dX9_arcOnWay_83 rfl (R_iconst (v := (-1)) hC dX9_arcOnWay_85 (by decide) ?_)
            refine R_icmp_eq hC 118 dX9_arcOnWay_86 (by decide) (fun _ => ?_) (fun h => absurd rfl h)
            refine R_iload hC dX9_arcOnWay_118 rfl ?_
            exact R_iret hC hT dX9_arcOnWay_120 rfl ⟨by rw [ev, z], rfl⟩
          | some a =>
            have oa := wsq_lt e
            obtain ⟨v1, v2⟩ := lv7 (T := T) (c := i) y1 oa.1
            have ih := ih l3
            rw [wsq, e] at ih
            simp only at ih
            refine R_iload hC dX9_arcOnWay_70 rfl (R_iload_n (i := 2) hC dX9_arcOnWay_72 rfl rfl ?_)
            refine R_icmp_ge hC 118 dX9_arcOnWay_73 (by decide) (fun h => absurd h (nI_ge hg (by omega))) (fun _ => ?_)
            refine R_iload hC dX9_arcOnWay_76 rfl (R_bipush (v := 6) hC dX9_arcOnWay_78 (by decide) ?_)
            refine R_icmp_ge hC 118 dX9_arcOnWay_80 (by decide) (fun h => absurd h (nI_ge (show g < 6 by omega) (by decide))) (fun _ => ?_)
            refine R_iload hC dX9_arcOnWay_83 rfl (R_iconst (v := (-1)) hC dX9_arcOnWay_85 (by decide) ?_)
            refine R_icmp_eq hC 118 dX9_arcOnWay_86 (by decide) (fun h => absurd h (nI_n1 (by have := oa.1; omega))) (fun _ => ?_)
            refine R_aload_n (i := 0) hC dX9_arcOnWay_89 rfl rfl (R_iload_n (i := 1) hC dX9_arcOnWay_90 rfl rfl (R_aload_n (i := 0) hC dX9_arcOnWay_91 rfl rfl (R_iload hC dX9_arcOnWay_92 rfl (R_aload_n (i := 0) hC dX9_arcOnWay_94 rfl rfl (R_gR hC dX9_arcOnWay_95 fl_X9_12 hD.1 rfl (R_iload hC dX9_arcOnWay_98 rfl (R_iload_n (i := 1) hC dX9_arcOnWay_100 rfl rfl ?_)))))))
            refine R_V2i hC hR dX9_arcOnWay_101 MV_X7_at ml_X9_79 hD.2.1.1 rfl (c_atN hD.2.1 hk.1 oa.1 hi) (by first | decide | omega) ⟨by decide, by decide⟩ (Nat.le_of_ble_eq_true rfl) ?_
            refine R_V2i hC hR dX9_arcOnWay_104 MV_X9_reaches ml_X9_85 hD.1 rfl (c_reaches hD hA (by omega) oa.1 (ok a i oa.1 hi)) (by first | decide | omega) ⟨by decide, by decide⟩ (Nat.le_of_ble_eq_true rfl) ?_
            refine R_V2i hC hR dX9_arcOnWay_107 MV_X9_arcFrom ml_X9_88 hD.1 rfl (c_arcFrom (node := rcA T t i a) hD hk.1 ok hA hi y1 (by omega)) (by first | decide | omega) ⟨by decide, by decide⟩ (Nat.le_of_ble_eq_true rfl) ?_
            refine R_istore hC dX9_arcOnWay_110 (by decide) rfl (R_iinc hC dX9_arcOnWay_112 rfl (inc1 _) (by decide) rfl (R_goto hC 70 dX9_arcOnWay_115 (by decide) ?_))
            exact ih
      have st : ∀ node, node ≤ 32 → nxA T t i node = wsq T t T.1 i 0 → Rw mX9_arcOnWay X 59 [some (.ref b), some (.int (nI i)), some (.int (nI j)), some (.int (nI node)), none, none] [] (wd σ x) 0 0 := by
        intro node hn e
        have l0 := lp 0 (Nat.zero_le _) (nI node)
        refine R_aload_n (i := 0) hC dX9_arcOnWay_59 rfl rfl (R_iload_n (i := 1) hC dX9_arcOnWay_60 rfl rfl (R_iload_n (i := 3) hC dX9_arcOnWay_61 rfl rfl ?_))
        refine R_V2i hC hR dX9_arcOnWay_62 MV_X9_arcFrom ml_X9_88 hD.1 rfl (c_arcFrom (node := node) hD hk.1 ok hA hi y1 hn) (by first | decide | omega) ⟨by decide, by decide⟩ (Nat.le_of_ble_eq_true rfl) ?_
        rw [e]
        refine R_istore hC dX9_arcOnWay_65 (by decide) rfl (R_iconst (v := 0) hC dX9_arcOnWay_67 (by decide) (R_istore hC dX9_arcOnWay_68 (by decide) rfl ?_))
        exact l0
      have hA' : AC σ b t (n' + 1) := by rw [← hn']; exact hA
      have y1' : nodOK t (n' + 1) := by rw [← hn']; exact y1
      have sub1 : nI T.1 - 1 = nI n' := by rw [nI_dec (by omega), hn']; rfl
      refine R_aload_n (i := 0) hC dX9_arcOnWay_39 rfl rfl (R_iload_n (i := 1) hC dX9_arcOnWay_40 rfl rfl (R_aload_n (i := 0) hC dX9_arcOnWay_41 rfl rfl (R_gR hC dX9_arcOnWay_42 fl_X9_12 hD.1 rfl (R_gI hC dX9_arcOnWay_45 fl_X9_41 hD.2.1.1 rfl ?_))))
      refine R_top (y := nI T.1) (k1) ?_
      refine R_iconst (v := 1) hC dX9_arcOnWay_48 (by decide) (R_isub hC dX9_arcOnWay_49 ?_)
      refine R_top (y := nI n') (sub1) ?_
      refine R_V2g hC hR dX9_arcOnWay_50 MV_X9_starts ml_X9_70 hD.1 rfl (c_starts hD hk.1 ok hA' (by omega) hi y1') (by first | decide | omega) ⟨by decide, by decide⟩ (Nat.le_of_ble_eq_true rfl) (fun r w1 hq => ?_)
      obtain ⟨rfl, u, rfl, sq⟩ := hq
      rw [← hn'] at sq
      have sw := (sq.way y1 k3).mpr wy
      skip
      rcases sq with ⟨S, S1, rfl, hI, hS⟩ | ⟨rfl, hI⟩
      · rw [bc_ok S S1] at sw
        have p7 : pcn S 7 ≤ 7 := pcn_le S 7
        have p1 : pcn S 7 ≤ 1 := by
          rw [i32_ge, nI_toInt (by omega)] at sw
          have : (1 : Int32).toInt = 1 := by decide
          omega
        rcases one_bit S S1 p1 with rfl | ⟨u, u7, rfl⟩
        · have nb : ∀ r, ¬ beg T t T.1 i r := fun r z => by
            have := (hS (lvA T t i r)).mpr ⟨r, z, rfl⟩
            rw [Nat.zero_testBit] at this; cases this
          have e1 : nxA T t i 32 = wsq T t T.1 i 0 := by
            rw [wsq]
            unfold nxA
            rw [fs_nn.mpr (fun r _ hr => cnd_f (fun z => by have := (lv7 (T := T) (c := i) y1 z.1.1).1; omega)), fs_nn.mpr (fun r _ _ => cnd_f (nb r))]
          refine R_iconst (v := 1) hC dX9_arcOnWay_53 (by decide) (R_isub hC dX9_arcOnWay_54 ?_)
          refine R_S1i hC hR dX9_arcOnWay_55 MS_J6_bitCount_0f7a4 ml_X9_73 (c_bitC _ _) (by first | decide | omega) ⟨by decide, by decide⟩ (Nat.le_of_ble_eq_true rfl) ?_
          refine R_top (y := nI 32) ((by decide +kernel)) ?_
          refine R_istore_n (i := 3) hC dX9_arcOnWay_58 rfl (by decide) rfl ?_
          exact st 32 (Nat.le_refl _) e1
        · obtain ⟨r, r1, r2⟩ := (hS u).mp (by rw [Nat.testBit_two_pow]; simp)
          have e1 : nxA T t i u = wsq T t T.1 i 0 := by
            rw [wsq]
            unfold nxA
            rw [fs_2 T.1 0 (Nat.zero_le _) (by have := r1.1.1; omega) (cnd_t ⟨r1.1, r2⟩) (fun k _ k2 => cnd_f (fun z => (hI k r z.1.1 r1.1.1 z.1 r1.1 (by omega)).1 (by rw [z.2, r2]))), fs_2 T.1 0 (Nat.zero_le _) (by have := r1.1.1; omega) (cnd_t r1) (fun k _ k2 => cnd_f (fun z => by have := wy.2 k r z r1; omega))]
          have pu : 2 ^ u ≤ 64 := Nat.pow_le_pow_right (n := 2) (by decide) (show u ≤ 6 by omega)
          have pp : 0 < 2 ^ u := Nat.two_pow_pos u
          refine R_iconst (v := 1) hC dX9_arcOnWay_53 (by decide) (R_isub hC dX9_arcOnWay_54 ?_)
          refine R_top (y := nI (2 ^ u - 1)) (nI_dec (by omega)) ?_
          refine R_S1i hC hR dX9_arcOnWay_55 MS_J6_bitCount_0f7a4 ml_X9_73 (c_bit7 (2 ^ u - 1) (by omega) _) (by first | decide | omega) ⟨by decide, by decide⟩ (Nat.le_of_ble_eq_true rfl) ?_
          refine R_top (y := nI u) ((by rw [pcn_pow u u7])) ?_
          refine R_istore_n (i := 3) hC dX9_arcOnWay_58 rfl (by decide) rfl ?_
          exact st u (by omega) e1
      · exact absurd (fun r q _ _ or oq ne => wy.1 r q or oq ne) hI
    refine R_aload_n (i := 0) hC dX9_arcOnWay_0 rfl rfl (R_gI hC dX9_arcOnWay_1 fl_X9_37 hD.1 rfl ?_)
    refine R_top (y := 1) (f1) ?_
    refine R_if_eq hC 37 dX9_arcOnWay_4 (by decide) (fun h => absurd h (by decide)) (fun _ => ?_)
    refine R_iload_n (i := 2) hC dX9_arcOnWay_7 rfl rfl ?_
    refine R_if_lt hC 37 dX9_arcOnWay_8 (by decide) (fun h8 => ?_) (fun h8 => ?_)
    · first
        | exact bad (nq (by simp only [i32_lt, Int32.toInt_zero] at h8; omega)) _ _ _
        | exact bad (ng (by simp only [i32_ge, t1] at h19; omega)) _ _ _
        | exact bad (nc (fun z => by simp only [i32_lt, Int32.toInt_zero] at h23; omega)) _ _ _
        | exact bad (nc (fun z => by simp only [i32_lt, t2] at h34; omega)) _ _ _
    · refine R_iload_n (i := 2) hC dX9_arcOnWay_11 rfl rfl (R_aload_n (i := 0) hC dX9_arcOnWay_12 rfl rfl (R_gR hC dX9_arcOnWay_13 fl_X9_12 hD.1 rfl (R_gI hC dX9_arcOnWay_16 fl_X9_41 hD.2.1.1 rfl ?_)))
      refine R_top (y := nI T.1) (k1) ?_
      refine R_icmp_ge hC 37 dX9_arcOnWay_19 (by decide) (fun h19 => ?_) (fun h19 => ?_)
      · first
          | exact bad (nq (by simp only [i32_lt, Int32.toInt_zero] at h8; omega)) _ _ _
          | exact bad (ng (by simp only [i32_ge, t1] at h19; omega)) _ _ _
          | exact bad (nc (fun z => by simp only [i32_lt, Int32.toInt_zero] at h23; omega)) _ _ _
          | exact bad (nc (fun z => by simp only [i32_lt, t2] at h34; omega)) _ _ _
      · refine R_iload_n (i := 1) hC dX9_arcOnWay_22 rfl rfl ?_
        refine R_if_lt hC 37 dX9_arcOnWay_23 (by decide) (fun h23 => ?_) (fun h23 => ?_)
        · first
            | exact bad (nq (by simp only [i32_lt, Int32.toInt_zero] at h8; omega)) _ _ _
            | exact bad (ng (by simp only [i32_ge, t1] at h19; omega)) _ _ _
            | exact bad (nc (fun z => by simp only [i32_lt, Int32.toInt_zero] at h23; omega)) _ _ _
            | exact bad (nc (fun z => by simp only [i32_lt, t2] at h34; omega)) _ _ _
        · refine R_iload_n (i := 1) hC dX9_arcOnWay_26 rfl rfl (R_aload_n (i := 0) hC dX9_arcOnWay_27 rfl rfl (R_gR hC dX9_arcOnWay_28 fl_X9_12 hD.1 rfl (R_gI hC dX9_arcOnWay_31 fl_X9_67 hD.2.1.1 rfl ?_)))
          refine R_top (y := nI T.2.1) (k2) ?_
          refine R_icmp_lt hC 39 dX9_arcOnWay_34 (by decide) (fun h34 => ?_) (fun h34 => ?_)
          · skip
            have cc : 0 ≤ c.toInt ∧ c.toInt < T.2.1 := by simp only [i32_lt, Int32.toInt_zero, t2] at h23 h34; omega
            have cq : 0 ≤ q.toInt ∧ q.toInt < T.1 := by simp only [i32_lt, i32_ge, Int32.toInt_zero, t1] at h8 h19; omega
            obtain ⟨i, ei, hi1, hi2⟩ := i32_nI cc.1
            obtain ⟨j, ej, hj1, hj2⟩ := i32_nI cq.1
            have z := main i j (by omega) (by omega) ei ej
            rw [← ei, ← ej] at z
            exact z
          · first
              | exact bad (nq (by simp only [i32_lt, Int32.toInt_zero] at h8; omega)) _ _ _
              | exact bad (ng (by simp only [i32_ge, t1] at h19; omega)) _ _ _
              | exact bad (nc (fun z => by simp only [i32_lt, Int32.toInt_zero] at h23; omega)) _ _ _
              | exact bad (nc (fun z => by simp only [i32_lt, t2] at h34; omega)) _ _ _
theorem c_hasSide {σ : sg} {x : aW} {α : aS} (h : CInv σ α) (s : Int32) : Mt mX10_hasSide 1 0 0 [.ref i_U, .int s] (wd σ x) (QI (b2i (¬ (tT α).1 = 0 ∧ 0 ≤ s.toInt ∧ s.toInt ≤ 1)) (wd σ x)) := by
  refine Mt.of MI_X10_hasSide (Nat.le_of_ble_eq_true rfl) (fun X hC hR hT => ?_)
  have i1 : (1 : Int32).toInt = 1 := by decide
  refine R_aload_n (i := 0) hC dX10_hasSide_0 rfl rfl (R_gR hC dX10_hasSide_1 fl_X10_19 L_U rfl ?_)
  refine R_V0i hC hR dX10_hasSide_4 MV_X7_isNone ml_X10_152 L_table rfl (c_isNone TL_table h.2.1) (by first | decide | omega) ⟨by decide, by decide⟩ (Nat.le_of_ble_eq_true rfl) ?_
  refine R_if_ne hC 23 dX10_hasSide_7 (by decide) (fun h7 => ?_) (fun h7 => ?_)
  · refine R_iconst (v := 0) hC dX10_hasSide_23 (by decide) ?_
    exact R_zret hC hT dX10_hasSide_24 rfl (by decide) ⟨by first
      | (rw [b2i_f (fun z => z.1 (b2i_ne h7))]; done)
      | (subst h11; rw [b2i_t ⟨b2i_0 h7, by decide, by decide⟩]; done)
      | (subst h16; rw [b2i_t ⟨b2i_0 h7, by decide, by decide⟩]; done)
      | (rw [b2i_f (fun z => by rcases q01 z.2 with y | y; exact h11 y; exact h16 y)]; done), rfl⟩
  · refine R_iload_n (i := 1) hC dX10_hasSide_10 rfl rfl ?_
    refine R_if_eq hC 19 dX10_hasSide_11 (by decide) (fun h11 => ?_) (fun h11 => ?_)
    · refine R_iconst (v := 1) hC dX10_hasSide_19 (by decide) (R_goto hC 24 dX10_hasSide_20 (by decide) ?_)
      exact R_zret hC hT dX10_hasSide_24 rfl (by decide) ⟨by first
        | (rw [b2i_f (fun z => z.1 (b2i_ne h7))]; done)
        | (subst h11; rw [b2i_t ⟨b2i_0 h7, by decide, by decide⟩]; done)
        | (subst h16; rw [b2i_t ⟨b2i_0 h7, by decide, by decide⟩]; done)
        | (rw [b2i_f (fun z => by rcases q01 z.2 with y | y; exact h11 y; exact h16 y)]; done), rfl⟩
    · refine R_iload_n (i := 1) hC dX10_hasSide_14 rfl rfl (R_iconst (v := 1) hC dX10_hasSide_15 (by decide) ?_)
      refine R_icmp_ne hC 23 dX10_hasSide_16 (by decide) (fun h16 => ?_) (fun h16 => ?_)
      · refine R_iconst (v := 0) hC dX10_hasSide_23 (by decide) ?_
        exact R_zret hC hT dX10_hasSide_24 rfl (by decide) ⟨by first
          | (rw [b2i_f (fun z => z.1 (b2i_ne h7))]; done)
          | (subst h11; rw [b2i_t ⟨b2i_0 h7, by decide, by decide⟩]; done)
          | (subst h16; rw [b2i_t ⟨b2i_0 h7, by decide, by decide⟩]; done)
          | (rw [b2i_f (fun z => by rcases q01 z.2 with y | y; exact h11 y; exact h16 y)]; done), rfl⟩
      · refine R_iconst (v := 1) hC dX10_hasSide_19 (by decide) (R_goto hC 24 dX10_hasSide_20 (by decide) ?_)
        exact R_zret hC hT dX10_hasSide_24 rfl (by decide) ⟨by first
          | (rw [b2i_f (fun z => z.1 (b2i_ne h7))]; done)
          | (subst h11; rw [b2i_t ⟨b2i_0 h7, by decide, by decide⟩]; done)
          | (subst h16; rw [b2i_t ⟨b2i_0 h7, by decide, by decide⟩]; done)
          | (rw [b2i_f (fun z => by rcases q01 z.2 with y | y; exact h11 y; exact h16 y)]; done), rfl⟩
def bS (s : Nat) : Nat := if s = 0 then i_tree else i_cotree
theorem bS_D {s : Nat} : DL (bS s) := by unfold bS; split; exact DL_tree; exact DL_cotree
theorem c_knownTree {σ : sg} {x : aW} {α : aS} (h : CInv σ α) (ok : aOK α) {s : Nat} (hs : s < 2) : Mt mX10_knownTree 16 0 0 [.ref i_U, .int (nI s)] (wd σ x) (fun r w => r = some (.ref (bS s)) ∧ ∃ τ, w = wd τ x ∧ CInv τ α ∧ CKt τ (bS s) (sdT (tT α) s) ∧ MEq σ τ) := by
  refine Mt.of MI_X10_knownTree (Nat.le_of_ble_eq_true rfl) (fun X hC hR hT => ?_)
  have sm : ∀ i j, i < (tT α).1 → j < (tT α).2.1 → sml ((tT α).2.2 i j) := ok.2.2.1.2.2.2
  have s4 := ok.2.2.2.2.1.1
  have h61 := ok.2.2.1.1
  rcases (by omega : s = 0 ∨ s = 1) with rfl | rfl
  · rcases h.2.2.2.2.2.2.2.2.2.1 with q | ⟨q, q2⟩
    · refine R_iload_n (i := 1) hC dX10_knownTree_0 rfl rfl ?_
      refine R_if_ne hC 11 dX10_knownTree_1 (by decide) (fun h => absurd rfl h) (fun _ => ?_)
      refine R_aload_n (i := 0) hC dX10_knownTree_4 rfl rfl (R_gR hC dX10_knownTree_5 fl_X10_63 L_U rfl (R_goto hC 15 dX10_knownTree_8 (by decide) (R_astore_n (i := 2) hC dX10_knownTree_15 rfl (by decide) rfl (R_aload_n (i := 2) hC dX10_knownTree_16 rfl rfl (R_gI hC dX10_knownTree_17 fl_X10_342 L_tree rfl ?_)))))
      refine R_top (y := 0) (q) ?_
      refine R_if_ne hC 53 dX10_knownTree_20 (by decide) (fun h => absurd rfl h) (fun _ => ?_)
      refine R_aload_n (i := 2) hC dX10_knownTree_23 rfl rfl (R_aload_n (i := 0) hC dX10_knownTree_24 rfl rfl (R_gR hC dX10_knownTree_25 fl_X10_19 L_U rfl (R_iload_n (i := 1) hC dX10_knownTree_28 rfl rfl (R_iconst (v := 1) hC dX10_knownTree_29 (by decide) ?_))))
      refine R_icmp_ne hC 37 dX10_knownTree_30 (by decide) (fun _ => ?_) (fun h => absurd h (by decide))
      refine R_iconst (v := 0) hC dX10_knownTree_37 (by decide) (R_aload_n (i := 0) hC dX10_knownTree_38 rfl rfl ?_)
      refine R_V0g hC hR dX10_knownTree_39 MV_X10_knownMinors ml_X10_190 L_U rfl (c_known h ok) (by first | decide | omega) ⟨by decide, by decide⟩ (Nat.le_of_ble_eq_true rfl) (fun r w1 hq => ?_)
      obtain ⟨rfl, τ, rfl, hi, hkm, kd, me, ae⟩ := hq
      refine R_V0i hC hR dX10_knownTree_42 MV_X1_allWithin ml_X10_200 L_minors rfl (c_allWithin h61 hkm) (by first | decide | omega) ⟨by decide, by decide⟩ (Nat.le_of_ble_eq_true rfl) ?_
      refine R_V3g hC hR dX10_knownTree_45 MV_X9_seek ml_X10_347 L_tree rfl (c_seek (s := 0) DL_tree (by decide) (by decide) hi.2.1 sm) (by first | decide | omega) ⟨by decide, by decide⟩ (Nat.le_of_ble_eq_true rfl) (fun r w1 hq => ?_)
      obtain ⟨rfl, υ, rfl, hg, hk⟩ := hq
      refine R_aload_n (i := 2) hC dX10_knownTree_48 rfl rfl (R_iconst (v := 1) hC dX10_knownTree_49 (by decide) (R_pZ hC dX10_knownTree_50 fl_X10_342 L_tree rfl (by first | exact Or.inl rfl | exact Or.inr rfl) (R_aload_n (i := 2) hC dX10_knownTree_53 rfl rfl ?_)))
      exact R_aret hC hT dX10_knownTree_54 rfl (by
      have ca : AE (L5 114) τ (sG υ i_tree 4 1) := hg.g (by decide)
      have ck : CKt (sG υ i_tree 4 1) 114 (tT α) := ⟨hk.1.of (by funext k; exact sG_ni (by decide)) rfl, hk.2⟩
      refine ⟨rfl, _, rfl, ?_, ck, me.tr (ca.meq (by decide))⟩
      obtain ⟨q1, q2, q3, q4, q5, q6, q7, q8, ⟨q9, q10, q11, q12⟩⟩ := hi
      refine ⟨q1.ae ca (by decide), q2.ae ca (by decide) (by decide), q3.ae ok.2.2.2.1.1 ca (by decide), q4.ae ca (by intro i z; simp [L5] at z; omega), q5.ae ca (by decide), q6.ae ca (by decide), q7.ae ca (by decide), q8.ae ca (by decide), ?_, Or.inr ⟨sG_eq _ _ _ _, ck⟩, ?_, ?_⟩
      · rw [(ca 112 (by decide)).1]; exact q9.imp id (fun z => ⟨z.1, z.2.ae ca (by decide)⟩)
      · rw [(ca 119 (by decide)).1]; exact q11.imp id (fun z => ⟨z.1, z.2.ae ca (by decide)⟩)
      · rw [(ca 124 (by decide)).1]; exact q12.imp id (fun z => ⟨z.1, z.2.ae ca (by decide) (by decide)⟩))
    · refine R_iload_n (i := 1) hC dX10_knownTree_0 rfl rfl ?_
      refine R_if_ne hC 11 dX10_knownTree_1 (by decide) (fun h => absurd rfl h) (fun _ => ?_)
      refine R_aload_n (i := 0) hC dX10_knownTree_4 rfl rfl (R_gR hC dX10_knownTree_5 fl_X10_63 L_U rfl (R_goto hC 15 dX10_knownTree_8 (by decide) (R_astore_n (i := 2) hC dX10_knownTree_15 rfl (by decide) rfl (R_aload_n (i := 2) hC dX10_knownTree_16 rfl rfl (R_gI hC dX10_knownTree_17 fl_X10_342 L_tree rfl ?_)))))
      refine R_top (y := 1) (q) ?_
      refine R_if_ne hC 53 dX10_knownTree_20 (by decide) (fun _ => ?_) (fun h => absurd h (by decide))
      refine R_aload_n (i := 2) hC dX10_knownTree_53 rfl rfl ?_
      exact R_aret hC hT dX10_knownTree_54 rfl ⟨rfl, σ, rfl, h, q2, MEq.rf _⟩
  · rcases h.2.2.2.2.2.2.2.2.2.2.1 with q | ⟨q, q2⟩
    · refine R_iload_n (i := 1) hC dX10_knownTree_0 rfl rfl ?_
      refine R_if_ne hC 11 dX10_knownTree_1 (by decide) (fun _ => ?_) (fun h => absurd h (by decide))
      refine R_aload_n (i := 0) hC dX10_knownTree_11 rfl rfl (R_gR hC dX10_knownTree_12 fl_X10_67 L_U rfl (R_astore_n (i := 2) hC dX10_knownTree_15 rfl (by decide) rfl (R_aload_n (i := 2) hC dX10_knownTree_16 rfl rfl (R_gI hC dX10_knownTree_17 fl_X10_342 L_cotree rfl ?_))))
      refine R_top (y := 0) (q) ?_
      refine R_if_ne hC 53 dX10_knownTree_20 (by decide) (fun h => absurd rfl h) (fun _ => ?_)
      refine R_aload_n (i := 2) hC dX10_knownTree_23 rfl rfl (R_aload_n (i := 0) hC dX10_knownTree_24 rfl rfl (R_gR hC dX10_knownTree_25 fl_X10_19 L_U rfl (R_iload_n (i := 1) hC dX10_knownTree_28 rfl rfl (R_iconst (v := 1) hC dX10_knownTree_29 (by decide) ?_))))
      refine R_icmp_ne hC 37 dX10_knownTree_30 (by decide) (fun h => absurd rfl h) (fun _ => ?_)
      refine R_iconst (v := 1) hC dX10_knownTree_33 (by decide) (R_goto hC 38 dX10_knownTree_34 (by decide) (R_aload_n (i := 0) hC dX10_knownTree_38 rfl rfl ?_))
      refine R_V0g hC hR dX10_knownTree_39 MV_X10_knownMinors ml_X10_190 L_U rfl (c_known h ok) (by first | decide | omega) ⟨by decide, by decide⟩ (Nat.le_of_ble_eq_true rfl) (fun r w1 hq => ?_)
      obtain ⟨rfl, τ, rfl, hi, hkm, kd, me, ae⟩ := hq
      refine R_V0i hC hR dX10_knownTree_42 MV_X1_allWithin ml_X10_200 L_minors rfl (c_allWithin h61 hkm) (by first | decide | omega) ⟨by decide, by decide⟩ (Nat.le_of_ble_eq_true rfl) ?_
      refine R_V3g hC hR dX10_knownTree_45 MV_X9_seek ml_X10_347 L_cotree rfl (c_seek (s := 1) DL_cotree (by decide) (by decide) hi.2.1 sm) (by first | decide | omega) ⟨by decide, by decide⟩ (Nat.le_of_ble_eq_true rfl) (fun r w1 hq => ?_)
      obtain ⟨rfl, υ, rfl, hg, hk⟩ := hq
      refine R_aload_n (i := 2) hC dX10_knownTree_48 rfl rfl (R_iconst (v := 1) hC dX10_knownTree_49 (by decide) (R_pZ hC dX10_knownTree_50 fl_X10_342 L_cotree rfl (by first | exact Or.inl rfl | exact Or.inr rfl) (R_aload_n (i := 2) hC dX10_knownTree_53 rfl rfl ?_)))
      exact R_aret hC hT dX10_knownTree_54 rfl (by
      have ca : AE (L5 119) τ (sG υ i_cotree 4 1) := hg.g (by decide)
      have ck : CKt (sG υ i_cotree 4 1) 119 (trT (tT α)) := ⟨hk.1.of (by funext k; exact sG_ni (by decide)) rfl, hk.2⟩
      refine ⟨rfl, _, rfl, ?_, ck, me.tr (ca.meq (by decide))⟩
      obtain ⟨q1, q2, q3, q4, q5, q6, q7, q8, ⟨q9, q10, q11, q12⟩⟩ := hi
      refine ⟨q1.ae ca (by decide), q2.ae ca (by decide) (by decide), q3.ae ok.2.2.2.1.1 ca (by decide), q4.ae ca (by intro i z; simp [L5] at z; omega), q5.ae ca (by decide), q6.ae ca (by decide), q7.ae ca (by decide), q8.ae ca (by decide), ?_, ?_, Or.inr ⟨sG_eq _ _ _ _, ck⟩, ?_⟩
      · rw [(ca 112 (by decide)).1]; exact q9.imp id (fun z => ⟨z.1, z.2.ae ca (by decide)⟩)
      · rw [(ca 114 (by decide)).1]; exact q10.imp id (fun z => ⟨z.1, z.2.ae ca (by decide)⟩)
      · rw [(ca 124 (by decide)).1]; exact q12.imp id (fun z => ⟨z.1, z.2.ae ca (by decide) (by decide)⟩))
    · refine R_iload_n (i := 1) hC dX10_knownTree_0 rfl rfl ?_
      refine R_if_ne hC 11 dX10_knownTree_1 (by decide) (fun _ => ?_) (fun h => absurd h (by decide))
      refine R_aload_n (i := 0) hC dX10_knownTree_11 rfl rfl (R_gR hC dX10_knownTree_12 fl_X10_67 L_U rfl (R_astore_n (i := 2) hC dX10_knownTree_15 rfl (by decide) rfl (R_aload_n (i := 2) hC dX10_knownTree_16 rfl rfl (R_gI hC dX10_knownTree_17 fl_X10_342 L_cotree rfl ?_))))
      refine R_top (y := 1) (q) ?_
      refine R_if_ne hC 53 dX10_knownTree_20 (by decide) (fun _ => ?_) (fun h => absurd h (by decide))
      refine R_aload_n (i := 2) hC dX10_knownTree_53 rfl rfl ?_
      exact R_aret hC hT dX10_knownTree_54 rfl ⟨rfl, σ, rfl, h, q2, MEq.rf _⟩
theorem co_network {σ : sg} {x : aW} {α : aS} (h : CInv σ α) (ok : aOK α) (s : Int32) : Mt mX10_network 17 0 0 [.ref i_U, .int s] (wd σ x) (CPost σ x (opNetwork α s) α) := by
  refine Mt.of MI_X10_network (Nat.le_of_ble_eq_true rfl) (fun X hC hR hT => ?_)
  refine R_aload_n (i := 0) hC dX10_network_0 rfl rfl (R_iload_n (i := 1) hC dX10_network_1 rfl rfl ?_)
  refine R_V1i hC hR dX10_network_2 MV_X10_hasSide ml_X10_212 L_U rfl (c_hasSide h s) (by first | decide | omega) ⟨by decide, by decide⟩ (Nat.le_of_ble_eq_true rfl) ?_
  refine R_if_ne hC 10 dX10_network_5 (by decide) (fun h5 => ?_) (fun h5 => ?_)
  · have cn := b2i_ne h5
    obtain ⟨n, n2, rfl, nc⟩ := side01 cn.2
    have ye : opNetwork α (nI n) = b2i (∃ t, treeR (sdT (tT α) n) = some t) := by unfold opNetwork; rw [cnd_t cn, nc]
    refine R_aload_n (i := 0) hC dX10_network_10 rfl rfl (R_iload_n (i := 1) hC dX10_network_11 rfl rfl ?_)
    refine R_V1g hC hR dX10_network_12 MV_X10_knownTree ml_X10_215 L_U rfl (c_knownTree h ok n2) (by first | decide | omega) ⟨by decide, by decide⟩ (Nat.le_of_ble_eq_true rfl) (fun r w1 hq => ?_)
    obtain ⟨rfl, τ, rfl, hi, hk, me⟩ := hq
    refine R_gI hC dX10_network_15 fl_X10_219 bS_D.1 rfl ?_
    refine R_if_eq hC 25 dX10_network_18 (by decide) (fun h18 => ?_) (fun h18 => ?_)
    · refine R_iconst (v := 0) hC dX10_network_25 (by decide) ?_
      exact R_iret hC hT dX10_network_26 rfl (by
      cases ht : treeR (sdT (tT α) n) with
      | none => first | (rw [ye, b2i_f (by rw [ht]; simp)]; exact CPost.i hi me) | exact absurd (hk.no ht) h18
      | some t => first | (rw [ye, b2i_t ⟨t, ht⟩]; exact CPost.i hi me) | (have z := (hk.ac ht).1; rw [z] at h18; exact absurd h18 (by decide)))
    · refine R_iconst (v := 1) hC dX10_network_21 (by decide) (R_goto hC 26 dX10_network_22 (by decide) ?_)
      exact R_iret hC hT dX10_network_26 rfl (by
      cases ht : treeR (sdT (tT α) n) with
      | none => first | (rw [ye, b2i_f (by rw [ht]; simp)]; exact CPost.i hi me) | exact absurd (hk.no ht) h18
      | some t => first | (rw [ye, b2i_t ⟨t, ht⟩]; exact CPost.i hi me) | (have z := (hk.ac ht).1; rw [z] at h18; exact absurd h18 (by decide)))
  · refine R_iconst (v := (-1)) hC dX10_network_8 (by decide) ?_
    exact R_iret hC hT dX10_network_9 rfl (by unfold opNetwork; rw [cnd_f (b2i_0 h5)]; exact CPost.i h (MEq.rf _))
theorem co_arc {σ : sg} {x : aW} {α : aS} (h : CInv σ α) (ok : aOK α) (s a q : Int32) : Mt mX10_arc 17 0 0 [.ref i_U, .int s, .int a, .int q] (wd σ x) (CPost σ x (opArc α s a q) α) := by
  refine Mt.of MI_X10_arc (Nat.le_of_ble_eq_true rfl) (fun X hC hR hT => ?_)
  refine R_aload_n (i := 0) hC dX10_arc_0 rfl rfl (R_iload_n (i := 1) hC dX10_arc_1 rfl rfl ?_)
  refine R_V1i hC hR dX10_arc_2 MV_X10_hasSide ml_X10_212 L_U rfl (c_hasSide h s) (by first | decide | omega) ⟨by decide, by decide⟩ (Nat.le_of_ble_eq_true rfl) ?_
  refine R_if_eq hC 21 dX10_arc_5 (by decide) (fun h5 => ?_) (fun h5 => ?_)
  · refine R_iconst (v := (-1)) hC dX10_arc_21 (by decide) ?_
    exact R_iret hC hT dX10_arc_22 rfl (by first | (rw [ye]; exact CPost.i hi me) | (unfold opArc; rw [cnd_f (fun z => b2i_0 h5 ⟨z.1, z.2.1⟩)]; exact CPost.i h (MEq.rf _)))
  · have cn := b2i_ne h5
    obtain ⟨n, n2, rfl, nc⟩ := side01 cn.2
    have ye : opArc α (nI n) a q = endZ (sdT (tT α) n) a q := by
      unfold opArc endZ
      rw [nc]
      by_cases z : (0 ≤ a.toInt ∧ a.toInt < (sdT (tT α) n).1) ∧ (0 ≤ q.toInt ∧ q.toInt ≤ 1)
      · rw [cnd_t z, cnd_t ⟨cn.1, cn.2, z⟩]; cases treeR (sdT (tT α) n) <;> rfl
      · rw [cnd_f z, cnd_f (fun y => z y.2.2)]
    refine R_aload_n (i := 0) hC dX10_arc_8 rfl rfl (R_iload_n (i := 1) hC dX10_arc_9 rfl rfl ?_)
    refine R_V1g hC hR dX10_arc_10 MV_X10_knownTree ml_X10_215 L_U rfl (c_knownTree h ok n2) (by first | decide | omega) ⟨by decide, by decide⟩ (Nat.le_of_ble_eq_true rfl) (fun r w1 hq => ?_)
    obtain ⟨rfl, τ, rfl, hi, hk, me⟩ := hq
    refine R_iload_n (i := 2) hC dX10_arc_13 rfl rfl (R_iload_n (i := 3) hC dX10_arc_14 rfl rfl ?_)
    refine R_V2i hC hR dX10_arc_15 MV_X9_endOf ml_X10_223 bS_D.1 rfl (c_endOf bS_D hk a q) (by first | decide | omega) ⟨by decide, by decide⟩ (Nat.le_of_ble_eq_true rfl) ?_
    refine R_goto hC 22 dX10_arc_18 (by decide) ?_
    exact R_iret hC hT dX10_arc_22 rfl (by first | (rw [ye]; exact CPost.i hi me) | (unfold opArc; rw [cnd_f (fun z => b2i_0 h5 ⟨z.1, z.2.1⟩)]; exact CPost.i h (MEq.rf _)))
theorem co_way {σ : sg} {x : aW} {α : aS} (h : CInv σ α) (ok : aOK α) (s c q : Int32) : Mt mX10_way 17 0 0 [.ref i_U, .int s, .int c, .int q] (wd σ x) (CPost σ x (opWay α s c q) α) := by
  refine Mt.of MI_X10_way (Nat.le_of_ble_eq_true rfl) (fun X hC hR hT => ?_)
  have sm : ∀ i j, i < (tT α).1 → j < (tT α).2.1 → sml ((tT α).2.2 i j) := ok.2.2.1.2.2.2
  have z0 := ok.2.2.1.2.2.1
  refine R_aload_n (i := 0) hC dX10_way_0 rfl rfl (R_iload_n (i := 1) hC dX10_way_1 rfl rfl ?_)
  refine R_V1i hC hR dX10_way_2 MV_X10_hasSide ml_X10_212 L_U rfl (c_hasSide h s) (by first | decide | omega) ⟨by decide, by decide⟩ (Nat.le_of_ble_eq_true rfl) ?_
  refine R_if_eq hC 21 dX10_way_5 (by decide) (fun h5 => ?_) (fun h5 => ?_)
  · refine R_iconst (v := (-1)) hC dX10_way_21 (by decide) ?_
    exact R_iret hC hT dX10_way_22 rfl (by first | exact CPost.i hi me | (unfold opWay; rw [cnd_f (fun z => b2i_0 h5 ⟨z.1, z.2.1⟩)]; exact CPost.i h (MEq.rf _)))
  · have cn := b2i_ne h5
    obtain ⟨n, n2, rfl, nc⟩ := side01 cn.2
    have sms : ∀ i j, i < (sdT (tT α) n).1 → j < (sdT (tT α) n).2.1 → sml ((sdT (tT α) n).2.2 i j) := by
      intro i j hi hj
      unfold sdT at *
      by_cases z : n = 0
      · rw [if_pos z] at *; exact sm i j hi hj
      · rw [if_neg z] at *; exact sm j i hj hi
    have h0 : ¬ (sdT (tT α) n).1 = 0 := by
      unfold sdT
      split
      · exact cn.1
      · exact fun z => cn.1 (z0.mpr z)
    have ye : opWay α (nI n) c q = cnd ((0 ≤ c.toInt ∧ c.toInt < (sdT (tT α) n).2.1) ∧ 0 ≤ q.toInt) (match treeR (sdT (tT α) n) with | some t => o2i (wsq (sdT (tT α) n) t (sdT (tT α) n).1 c.toNatClampNeg q.toNatClampNeg) | none => -1) (-1) := by
      unfold opWay
      rw [nc]
      by_cases z : (0 ≤ c.toInt ∧ c.toInt < (sdT (tT α) n).2.1) ∧ 0 ≤ q.toInt
      · rw [cnd_t z, cnd_t ⟨cn.1, cn.2, z⟩]; cases treeR (sdT (tT α) n) <;> rfl
      · rw [cnd_f z, cnd_f (fun y => z y.2.2)]
    refine R_aload_n (i := 0) hC dX10_way_8 rfl rfl (R_iload_n (i := 1) hC dX10_way_9 rfl rfl ?_)
    refine R_V1g hC hR dX10_way_10 MV_X10_knownTree ml_X10_215 L_U rfl (c_knownTree h ok n2) (by first | decide | omega) ⟨by decide, by decide⟩ (Nat.le_of_ble_eq_true rfl) (fun r w1 hq => ?_)
    obtain ⟨rfl, τ, rfl, hi, hk, me⟩ := hq
    refine R_iload_n (i := 2) hC dX10_way_13 rfl rfl (R_iload_n (i := 3) hC dX10_way_14 rfl rfl ?_)
    refine R_V2i hC hR dX10_way_15 MV_X9_arcOnWay ml_X10_226 bS_D.1 rfl (c_arcOnWay bS_D hk h0 sms c q) (by first | decide | omega) ⟨by decide, by decide⟩ (Nat.le_of_ble_eq_true rfl) ?_
    refine R_top ye.symm ?_
    refine R_goto hC 22 dX10_way_18 (by decide) ?_
    exact R_iret hC hT dX10_way_22 rfl (by first | exact CPost.i hi me | (unfold opWay; rw [cnd_f (fun z => b2i_0 h5 ⟨z.1, z.2.1⟩)]; exact CPost.i h (MEq.rf _)))
