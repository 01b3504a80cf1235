/-! ===== the model reads a script ===== -/
def PG (g0 g : Nat → Int32) (n : Nat) (S : Nat → Nat → Int32) : Prop := (∀ m, m < 192 → g m = g0 m) ∧ ∀ a j, a < n → j < 4 → g (4 * (48 + a) + j) = S a j
theorem PG.new {g0 g g2 : Nat → Int32} {n k : Nat} {S : Nat → Nat → Int32} (h : PG g0 g n S) (e : ∀ m, m < 4 * (48 + n) → g2 m = g m) (e0 : g2 (4 * (48 + n)) = nI k) (e1 : ∀ j, 1 ≤ j → j < 4 → g2 (4 * (48 + n) + j) = HID) : PG g0 g2 (n + 1) (stN S n k) := by
  refine ⟨fun m hm => by rw [e m (by omega)]; exact h.1 m hm, fun a j ha hj => ?_⟩
  unfold stN
  by_cases z : a = n
  · subst z
    rw [if_pos rfl]
    by_cases y : j = 0
    · subst y; rw [if_pos rfl, Nat.add_zero]; exact e0
    · rw [if_neg y]; exact e1 j (by omega) hj
  · rw [if_neg z, e _ (by omega)]; exact h.2 a j (by omega) hj
theorem PG.put {g0 g : Nat → Int32} {n j : Nat} {S : Nat → Nat → Int32} {v : Int32} (h : PG g0 g (n + 1) S) (hj : j < 4) : PG g0 (upd g (4 * (48 + n) + j) v) (n + 1) (stA S (n + 1 - 1) j v) := by
  refine ⟨fun m hm => by unfold upd; rw [if_neg (by omega)]; exact h.1 m hm, fun a b ha hb => ?_⟩
  unfold upd stA
  by_cases z : a = n ∧ b = j
  · rw [if_pos (by omega), if_pos (by omega)]
  · rw [if_neg (by omega), if_neg (by omega)]; exact h.2 a b ha hb
theorem rz_bad {t : tap} {q size k sn : Nat} {S : Nat → Nat → Int32} (hq : q ≤ t.1) (hb : q < t.1 → ¬ t.2 q = 32) (hd : ¬ DG t q) (h0 : ¬ sn = 0) (h3 : ¬ sn = 3) (hw : ¬ sn = sgK k) : RZ t q size k sn S = .inl q := by
  rcases (by omega : q = t.1 ∨ q < t.1) with rfl | z
  · rw [RZ_end, if_neg (fun y => hw y.2)]
  · exact RZ_d0 z (hb z) hw h0 h3 (fun y => hd ⟨z, y⟩)
/-- behind a step -/
def SPT (t : tap) (res : Nat ⊕ scr) (n : Nat) (g0 : Nat → Int32) (σ τ : sg) (p : Nat) (F : Int32) : Prop := RDS σ τ p F ∧ p ≤ t.1 ∧ ((F = nI p ∧ res = .inl p ∧ ∀ m, m < 192 → τ.2.2 i_m_plan m = g0 m) ∨ (F = -1 ∧ ∃ k S, k < 7 ∧ res = RZ t p (n + 1) k (sgK k) S ∧ PG g0 (τ.2.2 i_m_plan) (n + 1) S ∧ ∀ a, a < n + 1 → stepOK (S a)))
theorem nIm (a b : Nat) : nI a * nI b = nI (a * b) := (Int32.ofNat_mul a b).symm
theorem nIa (a b : Nat) : nI a + nI b = nI (a + b) := nI_add a b
theorem s_readStep {σ τ : sg} {x : aW} {t : tap} {i n k0 : Nat} {S : Nat → Nat → Int32} {g0 : Nat → Int32} {res : Nat ⊕ scr} (h : RDS σ τ i (-1)) (ht : HT σ t) (ok : tpOK t) (hi : i ≤ t.1) (hn : n < 12) (hg : PG g0 (τ.2.2 i_m_plan) n S) (hs : ∀ a, a < n → stepOK (S a)) (hres : res = RZ t i n k0 0 S) :
    Mt mX11_readStep 5 0 0 [.ref i_M, .int (nI (4 * (48 + n)))] (wd τ x) (fun r w => r = none ∧ ∃ υ p F, w = wd υ x ∧ SPT t res n g0 σ υ p F ∧ υ.2.2 i_m_planLong = τ.2.2 i_m_planLong) := by
  refine Mt.of MI_X11_readStep (Nat.le_of_ble_eq_true rfl) (fun X hC hR hT => ?_)
  have o1 := ok.1
  obtain ⟨k1, k2, k3⟩ := SK_ok t i hi
  have hres2 : res = RZ t (SK t i) n k0 0 S := by rw [hres, RZ_sk i hi]
  generalize hq0 : SK t i = q at *
  have hc := chA_256 ok k2
  have old : ∀ S2 : Nat → Nat → Int32, (∀ a, a < n → ∀ j, S2 a j = S a j) → stepOK (S2 n) → ∀ a, a < n + 1 → stepOK (S2 a) := fun S2 e e2 a ha => by
    rcases (by omega : a < n ∨ a = n) with z | rfl
    · have := hs a z
      unfold stepOK at this ⊢
      rw [e a z, e a z, e a z, e a z]; exact this
    · exact e2
  have oA : ∀ (S2 : Nat → Nat → Int32) j v, (∀ a, a < n → ∀ j, S2 a j = S a j) → ∀ a, a < n → ∀ b, stA S2 (n + 1 - 1) j v a b = S a b := fun S2 j v e a ha b => by
    unfold stA; rw [if_neg (by omega)]; exact e a ha b
  have oN : ∀ (S2 : Nat → Nat → Int32) j v b, ¬ b = j → stA S2 (n + 1 - 1) j v n b = S2 n b := fun S2 j v b hb => by unfold stA; rw [if_neg (fun z => hb z.2)]
  have oE : ∀ (S2 : Nat → Nat → Int32) j v, stA S2 (n + 1 - 1) j v n j = v := fun S2 j v => by unfold stA; rw [if_pos ⟨by omega, rfl⟩]
  have digN : ∀ p, DG t p → dig (nI (t.2 p - 48)) := fun p hd => ⟨t.2 p - 48, by have := hd.2; omega, rfl⟩
  -- the third sign
  have st3 : ∀ p S3 υ, RDS σ υ p (-1) → p ≤ t.1 → υ.2.2 i_m_planLong = τ.2.2 i_m_planLong → PG g0 (υ.2.2 i_m_plan) (n + 1) S3 → res = RZ t p (n + 1) 6 3 S3 → (∀ a, a < n → ∀ j, S3 a j = S a j) → S3 n 0 = nI 6 → dig (S3 n 1) → dig (S3 n 2) → ∀ l3, Rw mX11_readStep X 119 [some (.ref i_M), some (.int (nI (4 * (48 + n)))), some (.int (nI 6)), l3] [] (wd υ x) 0 0 := by
    intro p S3 υ hυ hp hpl pg hr on s0 d1 d2 l3
    obtain ⟨j1, j2, j3⟩ := SK_ok t p hp
    have hr2 : res = RZ t (SK t p) (n + 1) 6 3 S3 := by rw [hr, RZ_sk p hp]
    generalize hp0 : SK t p = e at *
    have bad : (e < t.1 → vsN (t.2 e) = none) → res = .inl e := fun z => by
      rcases (by omega : e = t.1 ∨ e < t.1) with rfl | y
      · rw [hr2, RZ_end, if_neg (by decide)]
      · rw [hr2, RZ_v0 y (j3 y) (by decide) (z y)]
    have no : (e < t.1 → vsN (t.2 e) = none) → ∀ φ, RDS σ φ e (-1) → φ.2.2 = υ.2.2 → Rw mX11_readStep X 134 [some (.ref i_M), some (.int (nI (4 * (48 + n)))), some (.int (nI 6)), some (.int (-1))] [] (wd φ x) 0 0 := by
      intro z φ hφ hφr
      refine R_aload_n (i := 0) hC dX11_readStep_134 rfl rfl ?_
      refine R_V0g hC hR dX11_readStep_135 MV_X11_fails ml_X11_125 L_M rfl (s_fails hφ) (by first | decide | omega) ⟨by decide, by decide⟩ (Nat.le_of_ble_eq_true rfl) (fun r w1 hq => ?_)
      obtain ⟨rfl, rfl, hf2⟩ := hq
      exact R_vret hC hT dX11_readStep_138 rfl ⟨rfl, _, e, nI e, rfl, ⟨hf2, j2, Or.inl ⟨rfl, bad z, fun m hm => (by show φ.2.2 i_m_plan m = _; rw [hφr]; exact pg.1 m hm)⟩⟩, by show φ.2.2 i_m_planLong = _; rw [hφr]; exact hpl⟩
    rcases chA_256 ok j2 with ⟨z1, z2, z3⟩ | ⟨z1, z3⟩
    · rcases vs_spt (t.2 e) z2 with ⟨v1, v2⟩ | ⟨v1, v2, v3⟩
      · refine R_ldS hC 3 (by decide) rfl dX11_readStep_119 (R_aload_n (i := 0) hC dX11_readStep_121 rfl rfl ?_)
        refine R_V0g hC hR dX11_readStep_122 MV_X11_look ml_X11_118 L_M rfl (s_look hυ ht ok hp) (by first | decide | omega) ⟨by decide, by decide⟩ (Nat.le_of_ble_eq_true rfl) (fun r w1 hq => ?_)
        obtain ⟨φ, rfl, hφ, hφr, rfl⟩ := hq
        rw [hp0] at hφ ⊢
        rw [z3]
        refine R_S2i hC hR dX11_readStep_125 MS_X11_spotOf ml_X11_121 (s_spotOf 3 (by decide) _ _) (by first | decide | omega) ⟨by decide, by decide⟩ (Nat.le_of_ble_eq_true rfl) ?_
        rw [v2]
        refine R_istore_n (i := 3) hC dX11_readStep_128 rfl (by decide) rfl (R_iload_n (i := 3) hC dX11_readStep_129 rfl rfl (R_iconst (v := (-1)) hC dX11_readStep_130 (by decide) ?_))
        refine R_icmp_ne hC 139 dX11_readStep_131 (by decide) (fun h => absurd rfl h) (fun _ => ?_)
        exact no (fun _ => v1) φ hφ hφr
      · refine R_ldS hC 3 (by decide) rfl dX11_readStep_119 (R_aload_n (i := 0) hC dX11_readStep_121 rfl rfl ?_)
        refine R_V0g hC hR dX11_readStep_122 MV_X11_look ml_X11_118 L_M rfl (s_look hυ ht ok hp) (by first | decide | omega) ⟨by decide, by decide⟩ (Nat.le_of_ble_eq_true rfl) (fun r w1 hq => ?_)
        obtain ⟨φ, rfl, hφ, hφr, rfl⟩ := hq
        rw [hp0] at hφ ⊢
        rw [z3]
        refine R_S2i hC hR dX11_readStep_125 MS_X11_spotOf ml_X11_121 (s_spotOf 3 (by decide) _ _) (by first | decide | omega) ⟨by decide, by decide⟩ (Nat.le_of_ble_eq_true rfl) ?_
        refine R_istore_n (i := 3) hC dX11_readStep_128 rfl (by decide) rfl (R_iload_n (i := 3) hC dX11_readStep_129 rfl rfl (R_iconst (v := (-1)) hC dX11_readStep_130 (by decide) ?_))
        refine R_icmp_ne hC 139 dX11_readStep_131 (by decide) (fun _ => ?_) (fun h => absurd h v2)
        refine R_aload_n (i := 0) hC dX11_readStep_139 rfl rfl (R_dup hC dX11_readStep_140 rfl (R_gI hC dX11_readStep_141 fl_X11_98 L_M rfl ?_))
        refine R_top (y := nI e) (hφ.2.2.2.1) ?_
        refine R_iconst (v := 1) hC dX11_readStep_144 (by decide) (R_iadd hC dX11_readStep_145 ?_)
        refine R_top (y := nI (e + 1)) (inc1 _) ?_
        refine R_pI hC dX11_readStep_146 fl_X11_98 L_M rfl (R_aload_n (i := 0) hC dX11_readStep_149 rfl rfl (R_gR hC dX11_readStep_150 fl_X11_26 L_M rfl (R_iload_n (i := 1) hC dX11_readStep_153 rfl rfl (R_iconst (v := 3) hC dX11_readStep_154 (by decide) (R_iadd hC dX11_readStep_155 ?_)))))
        refine R_top (y := nI (4 * (48 + n) + 3)) ((nIa _ 3)) ?_
        refine R_iload_n (i := 3) hC dX11_readStep_156 rfl rfl (R_iconst (v := 1) hC dX11_readStep_157 (by decide) (R_isub hC dX11_readStep_158 (R_sI hC dX11_readStep_159 L_m_plan (4 * (48 + n) + 3) rfl (by omega) (by decide) ?_)))
        exact R_vret hC hT dX11_readStep_160 rfl (by
        have ep : φ.2.2 i_m_plan = υ.2.2 i_m_plan := by rw [hφr]
        refine ⟨rfl, _, e + 1, -1, rfl, ⟨hφ.at.pl _, by omega, Or.inr ⟨rfl, 6, stA S3 (n + 1 - 1) 3 (o2i (spt 3 (nI (t.2 e))) - 1), by decide, by rw [hr2, RZ_v z1 (j3 z1) (by decide) v1]; rfl, ?_, old _ (oA _ _ _ on) ?_⟩⟩, ?_⟩
        · rw [sA_eq]; show PG g0 (upd (φ.2.2 i_m_plan) _ _) _ _; rw [ep]; exact pg.put (by decide)
        · exact ⟨6, by decide, by rw [oN _ _ _ _ (by decide)]; exact s0, Or.inr (by rw [oN _ _ _ _ (by decide)]; exact d1), Or.inr (Or.inr (by rw [oN _ _ _ _ (by decide)]; exact d2)), fun _ => by rw [oE]; exact v3⟩
        · rw [sA_ne (by decide)]; show φ.2.2 i_m_planLong = _; rw [hφr]; exact hpl)
    · refine R_ldS hC 3 (by decide) rfl dX11_readStep_119 (R_aload_n (i := 0) hC dX11_readStep_121 rfl rfl ?_)
      refine R_V0g hC hR dX11_readStep_122 MV_X11_look ml_X11_118 L_M rfl (s_look hυ ht ok hp) (by first | decide | omega) ⟨by decide, by decide⟩ (Nat.le_of_ble_eq_true rfl) (fun r w1 hq => ?_)
      obtain ⟨φ, rfl, hφ, hφr, rfl⟩ := hq
      rw [hp0] at hφ ⊢
      rw [z3]
      refine R_S2i hC hR dX11_readStep_125 MS_X11_spotOf ml_X11_121 (s_spotOf 3 (by decide) _ _) (by first | decide | omega) ⟨by decide, by decide⟩ (Nat.le_of_ble_eq_true rfl) ?_
      rw [vs_m1]
      refine R_istore_n (i := 3) hC dX11_readStep_128 rfl (by decide) rfl (R_iload_n (i := 3) hC dX11_readStep_129 rfl rfl (R_iconst (v := (-1)) hC dX11_readStep_130 (by decide) ?_))
      refine R_icmp_ne hC 139 dX11_readStep_131 (by decide) (fun h => absurd rfl h) (fun _ => ?_)
      exact no (fun y => absurd y (by omega)) φ hφ hφr
  -- the second
  have st2 : ∀ k p S2 υ, 2 ≤ k → k < 7 → ¬ k = 5 → RDS σ υ p (-1) → p ≤ t.1 → υ.2.2 i_m_planLong = τ.2.2 i_m_planLong → PG g0 (υ.2.2 i_m_plan) (n + 1) S2 → res = RZ t p (n + 1) k 2 S2 → (∀ a, a < n → ∀ j, S2 a j = S a j) → S2 n 0 = nI k → dig (S2 n 1) → ∀ l3, Rw mX11_readStep X 92 [some (.ref i_M), some (.int (nI (4 * (48 + n)))), some (.int (nI k)), l3] [] (wd υ x) 0 0 := by
    intro k p S2 υ kg k7 n5 hυ hp hpl pg hr on s0 d1 l3
    have hr2 : res = RZ t (SK t p) (n + 1) k 2 S2 := by rw [hr, RZ_sk p hp]
    have k6 := nI_eq (a := k) (b := 6) (by omega) (by decide)
    obtain ⟨j1, j2, j3⟩ := SK_ok t p hp
    have w2 : ¬ 2 = sgK k := by rcases (by omega : k = 2 ∨ k = 3 ∨ k = 4 ∨ k = 6) with rfl | rfl | rfl | rfl <;> decide
    refine R_aload_n (i := 0) hC dX11_readStep_92 rfl rfl (R_gR hC dX11_readStep_93 fl_X11_26 L_M rfl (R_iload_n (i := 1) hC dX11_readStep_96 rfl rfl (R_iconst (v := 2) hC dX11_readStep_97 (by decide) (R_iadd hC dX11_readStep_98 ?_))))
    refine R_top (y := nI (4 * (48 + n) + 2)) ((nIa _ 2)) ?_
    refine R_aload_n (i := 0) hC dX11_readStep_99 rfl rfl ?_
    refine R_V0g hC hR dX11_readStep_100 MV_X11_digit ml_X11_134 L_M rfl (s_digit hυ ht ok hp) (by first | decide | omega) ⟨by decide, by decide⟩ (Nat.le_of_ble_eq_true rfl) (fun r w1 hq => ?_)
    obtain ⟨φ, v, p2, F, rfl, rfl, hφr, hφ, hd⟩ := hq
    have ep : φ.2.2 i_m_plan = υ.2.2 i_m_plan := by rw [hφr]
    refine R_sI hC dX11_readStep_103 L_m_plan (4 * (48 + n) + 2) rfl (by omega) (by decide) ?_
    skip
    have pg2 : PG g0 (upd (φ.2.2 i_m_plan) (4 * (48 + n) + 2) v) (n + 1) (stA S2 (n + 1 - 1) 2 v) := by rw [ep]; exact pg.put (by decide)
    have pg3 : PG g0 ((sA φ i_m_plan (upd (φ.2.2 i_m_plan) (4 * (48 + n) + 2) v)).2.2 i_m_plan) (n + 1) (stA S2 (n + 1 - 1) 2 v) := by rw [sA_eq]; exact pg2
    have hφ2 := hφ.pl (upd (φ.2.2 i_m_plan) (4 * (48 + n) + 2) v)
    have hpl2 : (sA φ i_m_plan (upd (φ.2.2 i_m_plan) (4 * (48 + n) + 2) v)).2.2 i_m_planLong = τ.2.2 i_m_planLong := by rw [sA_ne (by decide), hφr]; exact hpl
    rcases hd with ⟨nd, rfl, rfl⟩ | ⟨yd, rfl, rfl, rfl⟩
    · have ne := nI_n1 (n := SK t p) (by omega)
      refine R_aload_n (i := 0) hC dX11_readStep_104 rfl rfl (R_gI hC dX11_readStep_105 fl_X11_105 L_M rfl ?_)
      refine R_top (y := nI (SK t p)) (hφ2.2.2.2.2) ?_
      refine R_iconst (v := (-1)) hC dX11_readStep_108 (by decide) ?_
      refine R_icmp_ne hC 118 dX11_readStep_109 (by decide) (fun _ => ?_) (fun h => absurd h ne)
      exact R_vret hC hT dX11_readStep_118 rfl ⟨rfl, _, _, _, rfl, ⟨hφ2, j2, Or.inl ⟨rfl, by rw [hr2, rz_bad j2 j3 nd (by decide) (by decide) w2], pg3.1⟩⟩, hpl2⟩
    · have r3 : res = RZ t (SK t p + 1) (n + 1) k 3 (stA S2 (n + 1 - 1) 2 (nI (t.2 (SK t p) - 48))) := by rw [hr2, RZ_d yd.1 (j3 yd.1) w2 (by decide) (by decide) yd.2]
      have f0 : stA S2 (n + 1 - 1) 2 (nI (t.2 (SK t p) - 48)) n 0 = nI k := by rw [oN _ _ _ _ (by decide)]; exact s0
      have f1 : dig (stA S2 (n + 1 - 1) 2 (nI (t.2 (SK t p) - 48)) n 1) := by rw [oN _ _ _ _ (by decide)]; exact d1
      have f2 : dig (stA S2 (n + 1 - 1) 2 (nI (t.2 (SK t p) - 48)) n 2) := by rw [oE]; exact digN _ yd
      have sl := yd.1
      refine R_aload_n (i := 0) hC dX11_readStep_104 rfl rfl (R_gI hC dX11_readStep_105 fl_X11_105 L_M rfl ?_)
      refine R_top (y := -1) (hφ2.2.2.2.2) ?_
      refine R_iconst (v := (-1)) hC dX11_readStep_108 (by decide) ?_
      refine R_icmp_ne hC 118 dX11_readStep_109 (by decide) (fun h => absurd rfl h) (fun _ => ?_)
      refine R_iload_n (i := 2) hC dX11_readStep_112 rfl rfl (R_bipush (v := 6) hC dX11_readStep_113 (by decide) ?_)
      refine R_icmp_eq hC 119 dX11_readStep_115 (by decide) (fun h115 => ?_) (fun h115 => ?_)
      · (have e6 := k6.mp h115; subst e6; exact st3 _ _ _ hφ2 (by omega) hpl2 pg3 r3 (oA _ _ _ on) f0 f1 f2 _)
      · exact R_vret hC hT dX11_readStep_118 rfl (by
        have n6 : ¬ k = 6 := fun z => h115 (k6.mpr z)
        have w3 : 3 = sgK k := by rcases (by omega : k = 2 ∨ k = 3 ∨ k = 4) with rfl | rfl | rfl <;> decide
        exact ⟨rfl, _, _, _, rfl, ⟨hφ2, by omega, Or.inr ⟨rfl, k, _, k7, by rw [← w3]; exact r3, pg3, old _ (oA _ _ _ on) ⟨k, by omega, f0, Or.inr f1, Or.inr (Or.inr f2), fun z => absurd z n6⟩⟩⟩, hpl2⟩)
  have fin1 : ∀ k, k < 7 → ¬ k = 5 → ¬ 1 = sgK k → q < t.1 → stN S n k n 0 = nI k → (∀ a, a < n → ∀ j, stN S n k a j = S a j) → res = RZ t (SK t (q + 1)) (n + 1) k 1 (stN S n k) → SK t (q + 1) ≤ t.1 → (SK t (q + 1) < t.1 → ¬ t.2 (SK t (q + 1)) = 32) → ∀ φ v p F, ((¬ DG t (SK t (q + 1)) ∧ F = nI (SK t (q + 1)) ∧ p = SK t (q + 1)) ∨ (DG t (SK t (q + 1)) ∧ F = -1 ∧ p = SK t (q + 1) + 1 ∧ v = nI (t.2 (SK t (q + 1)) - 48))) → RDS σ φ p F → PG g0 (φ.2.2 i_m_plan) (n + 1) (stA (stN S n k) (n + 1 - 1) 1 v) → φ.2.2 i_m_planLong = τ.2.2 i_m_planLong → ∀ l3, Rw mX11_readStep X 78 [some (.ref i_M), some (.int (nI (4 * (48 + n)))), some (.int (nI k)), l3] [] (wd φ x) 0 0 := by
    intro k k7 n5 w1 qt s0 on r2 j2 j3 _ v p F hd hφ2 pg3 hpl2 l3
    have kk2 : (2 : Int32) ≤ nI k ↔ 2 ≤ k := by rw [i32_ge, nI_toInt (by omega), show (2 : Int32).toInt = 2 by decide]; omega
    rcases hd with ⟨nd, rfl, rfl⟩ | ⟨yd, rfl, rfl, rfl⟩
    · have ne := nI_n1 (n := SK t (q + 1)) (by omega)
      refine R_aload_n (i := 0) hC dX11_readStep_78 rfl rfl (R_gI hC dX11_readStep_79 fl_X11_105 L_M rfl ?_)
      refine R_top (y := nI (SK t (q + 1))) (hφ2.2.2.2.2) ?_
      refine R_iconst (v := (-1)) hC dX11_readStep_82 (by decide) ?_
      refine R_icmp_ne hC 91 dX11_readStep_83 (by decide) (fun _ => ?_) (fun h => absurd h ne)
      exact R_vret hC hT dX11_readStep_91 rfl ⟨rfl, _, _, _, rfl, ⟨hφ2, j2, Or.inl ⟨rfl, by rw [r2, rz_bad j2 j3 nd (by decide) (by decide) w1], pg3.1⟩⟩, hpl2⟩
    · have r3 : res = RZ t (SK t (q + 1) + 1) (n + 1) k 2 (stA (stN S n k) (n + 1 - 1) 1 (nI (t.2 (SK t (q + 1)) - 48))) := by rw [r2, RZ_d yd.1 (j3 yd.1) w1 (by decide) (by decide) yd.2]
      have f0 : stA (stN S n k) (n + 1 - 1) 1 (nI (t.2 (SK t (q + 1)) - 48)) n 0 = nI k := by rw [oN _ _ _ _ (by decide)]; exact s0
      have f1 : dig (stA (stN S n k) (n + 1 - 1) 1 (nI (t.2 (SK t (q + 1)) - 48)) n 1) := by rw [oE]; exact digN _ yd
      have sl := yd.1
      refine R_aload_n (i := 0) hC dX11_readStep_78 rfl rfl (R_gI hC dX11_readStep_79 fl_X11_105 L_M rfl ?_)
      refine R_top (y := -1) (hφ2.2.2.2.2) ?_
      refine R_iconst (v := (-1)) hC dX11_readStep_82 (by decide) ?_
      refine R_icmp_ne hC 91 dX11_readStep_83 (by decide) (fun h => absurd rfl h) (fun _ => ?_)
      refine R_iload_n (i := 2) hC dX11_readStep_86 rfl rfl (R_iconst (v := 2) hC dX11_readStep_87 (by decide) ?_)
      refine R_icmp_ge hC 92 dX11_readStep_88 (by decide) (fun h88 => ?_) (fun h88 => ?_)
      · exact st2 k _ _ _ (kk2.mp h88) k7 n5 hφ2 (by omega) hpl2 pg3 r3 (oA _ _ _ on) f0 f1 _
      · exact R_vret hC hT dX11_readStep_91 rfl (by
        have l2 : k < 2 := by have := mt kk2.mpr h88; omega
        have w2 : 2 = sgK k := by rcases (by omega : k = 0 ∨ k = 1) with rfl | rfl <;> decide
        exact ⟨rfl, _, _, _, rfl, ⟨hφ2, by omega, Or.inr ⟨rfl, k, _, k7, by rw [← w2]; exact r3, pg3, old _ (oA _ _ _ on) ⟨k, by omega, f0, Or.inr f1, Or.inl l2, fun z => absurd z (by omega)⟩⟩⟩, hpl2⟩)
  have go : ∀ k, k < 7 → q < t.1 → kdN (t.2 q) = some k → ∀ υ, RDS σ υ (q + 1) (-1) → υ.2.2 i_m_planLong = τ.2.2 i_m_planLong → PG g0 (υ.2.2 i_m_plan) (n + 1) (stN S n k) → ∀ l3, Rw mX11_readStep X 60 [some (.ref i_M), some (.int (nI (4 * (48 + n)))), some (.int (nI k)), l3] [] (wd υ x) 0 0 := by
    intro k k7 qt kd υ hυ hpl pg l3
    have r1 : res = RZ t (q + 1) (n + 1) k 1 (stN S n k) := by rw [hres2, RZ_k qt (k3 qt) kd]
    have k5 := nI_eq (a := k) (b := 5) (by omega) (by decide)
    have kk2 : (2 : Int32) ≤ nI k ↔ 2 ≤ k := by rw [i32_ge, nI_toInt (by omega), show (2 : Int32).toInt = 2 by decide]; omega
    have s0 : stN S n k n 0 = nI k := by unfold stN; rw [if_pos rfl, if_pos rfl]
    have on : ∀ a, a < n → ∀ j, stN S n k a j = S a j := fun a ha j => by unfold stN; rw [if_neg (by omega)]
    obtain ⟨j1, j2, j3⟩ := SK_ok t (q + 1) (by omega)
    have r2 : res = RZ t (SK t (q + 1)) (n + 1) k 1 (stN S n k) := by rw [r1, RZ_sk (q + 1) (by omega)]
    refine R_iload_n (i := 2) hC dX11_readStep_60 rfl rfl (R_iconst (v := 5) hC dX11_readStep_61 (by decide) ?_)
    refine R_icmp_ne hC 66 dX11_readStep_62 (by decide) (fun h62 => ?_) (fun h62 => ?_)
    · have n5 : ¬ k = 5 := fun z => h62 (k5.mpr z)
      have w1 : ¬ 1 = sgK k := by rcases (by omega : k = 0 ∨ k = 1 ∨ k = 2 ∨ k = 3 ∨ k = 4 ∨ k = 6) with rfl | rfl | rfl | rfl | rfl | rfl <;> decide
      refine R_aload_n (i := 0) hC dX11_readStep_66 rfl rfl (R_gR hC dX11_readStep_67 fl_X11_26 L_M rfl (R_iload_n (i := 1) hC dX11_readStep_70 rfl rfl (R_iconst (v := 1) hC dX11_readStep_71 (by decide) (R_iadd hC dX11_readStep_72 ?_))))
      refine R_top (y := nI (4 * (48 + n) + 1)) ((nIa _ 1)) ?_
      refine R_aload_n (i := 0) hC dX11_readStep_73 rfl rfl ?_
      refine R_V0g hC hR dX11_readStep_74 MV_X11_digit ml_X11_134 L_M rfl (s_digit hυ ht ok (by omega)) (by first | decide | omega) ⟨by decide, by decide⟩ (Nat.le_of_ble_eq_true rfl) (fun r w1 hq => ?_)
      obtain ⟨φ, v, p, F, rfl, rfl, hφr, hφ, hd⟩ := hq
      have ep : φ.2.2 i_m_plan = υ.2.2 i_m_plan := by rw [hφr]
      refine R_sI hC dX11_readStep_77 L_m_plan (4 * (48 + n) + 1) rfl (by omega) (by decide) ?_
      skip
      have pg2 : PG g0 (upd (φ.2.2 i_m_plan) (4 * (48 + n) + 1) v) (n + 1) (stA (stN S n k) (n + 1 - 1) 1 v) := by rw [ep]; exact pg.put (by decide)
      have pg3 : PG g0 ((sA φ i_m_plan (upd (φ.2.2 i_m_plan) (4 * (48 + n) + 1) v)).2.2 i_m_plan) (n + 1) (stA (stN S n k) (n + 1 - 1) 1 v) := by rw [sA_eq]; exact pg2
      have hφ2 := hφ.pl (upd (φ.2.2 i_m_plan) (4 * (48 + n) + 1) v)
      have hpl2 : (sA φ i_m_plan (upd (φ.2.2 i_m_plan) (4 * (48 + n) + 1) v)).2.2 i_m_planLong = τ.2.2 i_m_planLong := by rw [sA_ne (by decide), hφr]; exact hpl
      exact fin1 k k7 n5 w1 qt s0 on r2 j2 j3 _ v p F hd hφ2 pg3 hpl2 l3
    · exact R_vret hC hT dX11_readStep_65 rfl (by
      have e5 := k5.mp h62
      subst e5
      exact ⟨rfl, υ, q + 1, -1, rfl, ⟨hυ, by omega, Or.inr ⟨rfl, 5, _, by decide, r1, pg, old _ on ⟨5, by decide, s0, Or.inl rfl, Or.inr (Or.inl rfl), fun z => absurd z (by decide)⟩⟩⟩, hpl⟩)
  have hid : ∀ k, k < 7 → q < t.1 → kdN (t.2 q) = some k → ∀ j, j ≤ 4 → 1 ≤ j → ∀ υ, RDS σ υ (q + 1) (-1) → υ.2.2 i_m_planLong = τ.2.2 i_m_planLong → (∀ m, m < 4 * (48 + n) → υ.2.2 i_m_plan m = τ.2.2 i_m_plan m) → υ.2.2 i_m_plan (4 * (48 + n)) = nI k → (∀ m, 1 ≤ m → m < j → υ.2.2 i_m_plan (4 * (48 + n) + m) = HID) → Rw mX11_readStep X 39 [some (.ref i_M), some (.int (nI (4 * (48 + n)))), some (.int (nI k)), some (.int (nI j))] [] (wd υ x) 0 0 := by
    intro k k7 qt kd
    refine up_loop 4 ?_ ?_
    · intro _ υ hυ hpl e e0 e1
      have z := go k k7 qt kd υ hυ hpl (hg.new e e0 e1) (some (.int (nI 4)))
      refine R_iload_n (i := 3) hC dX11_readStep_39 rfl rfl (R_iconst (v := 4) hC dX11_readStep_40 (by decide) ?_)
      refine R_icmp_ge hC 60 dX11_readStep_41 (by decide) (fun _ => ?_) (fun h => absurd (Int32.le_refl _) h)
      exact z
    · intro j hj ih j1 υ hυ hpl e e0 e1
      refine R_iload_n (i := 3) hC dX11_readStep_39 rfl rfl (R_iconst (v := 4) hC dX11_readStep_40 (by decide) ?_)
      refine R_icmp_ge hC 60 dX11_readStep_41 (by decide) (fun h => absurd h (nI_ge hj (by decide))) (fun _ => ?_)
      refine R_aload_n (i := 0) hC dX11_readStep_44 rfl rfl (R_gR hC dX11_readStep_45 fl_X11_26 L_M rfl (R_iload_n (i := 1) hC dX11_readStep_48 rfl rfl (R_iload_n (i := 3) hC dX11_readStep_49 rfl rfl (R_iadd hC dX11_readStep_50 ?_))))
      refine R_top (y := nI (4 * (48 + n) + j)) ((nIa _ j)) ?_
      refine R_ldc hC dX11_readStep_51 kc_X11_133 ?_
      refine R_top (y := HID) (rfl) ?_
      refine R_sI hC dX11_readStep_53 L_m_plan (4 * (48 + n) + j) rfl (by omega) (by decide) (R_iinc hC dX11_readStep_54 rfl (inc1 _) (by decide) rfl (R_goto hC 39 dX11_readStep_57 (by decide) ?_))
      refine ih (by omega) _ (hυ.pl _) (by rw [sA_ne (by decide)]; exact hpl) (fun m hm => ?_) ?_ (fun m m1 m2 => ?_)
      · rw [sA_eq]; unfold upd; rw [if_neg (by omega)]; exact e m hm
      · rw [sA_eq]; unfold upd; rw [if_neg (by omega)]; exact e0
      · rw [sA_eq]; unfold upd
        by_cases y : m = j
        · rw [if_pos (by omega)]
        · rw [if_neg (by omega)]; exact e1 m m1 (by omega)
  have no : (q < t.1 → kdN (t.2 q) = none) → ∀ φ, RDS σ φ q (-1) → φ.2.2 = τ.2.2 → Rw mX11_readStep X 15 [some (.ref i_M), some (.int (nI (4 * (48 + n)))), some (.int (-1)), none] [] (wd φ x) 0 0 := by
    intro z φ hφ hφr
    have bad : res = .inl q := by
      rcases (by omega : q = t.1 ∨ q < t.1) with rfl | y
      · rw [hres2, RZ_end, if_neg (by omega)]
      · rw [hres2, RZ_k0 y (k3 y) (z y)]
    refine R_aload_n (i := 0) hC dX11_readStep_15 rfl rfl ?_
    refine R_V0g hC hR dX11_readStep_16 MV_X11_fails ml_X11_125 L_M rfl (s_fails hφ) (by first | decide | omega) ⟨by decide, by decide⟩ (Nat.le_of_ble_eq_true rfl) (fun r w1 hq => ?_)
    obtain ⟨rfl, rfl, hf2⟩ := hq
    exact R_vret hC hT dX11_readStep_19 rfl ⟨rfl, _, q, nI q, rfl, ⟨hf2, k2, Or.inl ⟨rfl, bad, fun m hm => (by show φ.2.2 i_m_plan m = _; rw [hφr]; exact hg.1 m hm)⟩⟩, by show φ.2.2 i_m_planLong = _; rw [hφr]⟩
  rcases hc with ⟨z1, z2, z3⟩ | ⟨z1, z3⟩
  · rcases kd_ok (t.2 q) z2 with ⟨v1, v2⟩ | ⟨k, k7, v1, v2⟩
    · refine R_ldS hC 4 (by decide) rfl dX11_readStep_0 (R_aload_n (i := 0) hC dX11_readStep_2 rfl rfl ?_)
      refine R_V0g hC hR dX11_readStep_3 MV_X11_look ml_X11_118 L_M rfl (s_look h ht ok hi) (by first | decide | omega) ⟨by decide, by decide⟩ (Nat.le_of_ble_eq_true rfl) (fun r w1 hq => ?_)
      obtain ⟨φ, rfl, hφ, hφr, rfl⟩ := hq
      rw [hq0] at hφ ⊢
      rw [z3]
      refine R_S2i hC hR dX11_readStep_6 MS_X11_spotOf ml_X11_121 (s_spotOf 4 (by decide) _ _) (by first | decide | omega) ⟨by decide, by decide⟩ (Nat.le_of_ble_eq_true rfl) ?_
      rw [v2]
      refine R_istore_n (i := 2) hC dX11_readStep_9 rfl (by decide) rfl (R_iload_n (i := 2) hC dX11_readStep_10 rfl rfl (R_iconst (v := (-1)) hC dX11_readStep_11 (by decide) ?_))
      refine R_icmp_ne hC 20 dX11_readStep_12 (by decide) (fun h => absurd rfl h) (fun _ => ?_)
      exact no (fun _ => v1) φ hφ hφr
    · refine R_ldS hC 4 (by decide) rfl dX11_readStep_0 (R_aload_n (i := 0) hC dX11_readStep_2 rfl rfl ?_)
      refine R_V0g hC hR dX11_readStep_3 MV_X11_look ml_X11_118 L_M rfl (s_look h ht ok hi) (by first | decide | omega) ⟨by decide, by decide⟩ (Nat.le_of_ble_eq_true rfl) (fun r w1 hq => ?_)
      obtain ⟨φ, rfl, hφ, hφr, rfl⟩ := hq
      rw [hq0] at hφ ⊢
      rw [z3]
      refine R_S2i hC hR dX11_readStep_6 MS_X11_spotOf ml_X11_121 (s_spotOf 4 (by decide) _ _) (by first | decide | omega) ⟨by decide, by decide⟩ (Nat.le_of_ble_eq_true rfl) ?_
      rw [v2]
      refine R_istore_n (i := 2) hC dX11_readStep_9 rfl (by decide) rfl (R_iload_n (i := 2) hC dX11_readStep_10 rfl rfl (R_iconst (v := (-1)) hC dX11_readStep_11 (by decide) ?_))
      refine R_icmp_ne hC 20 dX11_readStep_12 (by decide) (fun _ => ?_) (fun h => absurd h (nI_n1 (by omega)))
      refine R_aload_n (i := 0) hC dX11_readStep_20 rfl rfl (R_dup hC dX11_readStep_21 rfl (R_gI hC dX11_readStep_22 fl_X11_98 L_M rfl ?_))
      refine R_top (y := nI q) (hφ.2.2.2.1) ?_
      refine R_iconst (v := 1) hC dX11_readStep_25 (by decide) (R_iadd hC dX11_readStep_26 ?_)
      refine R_top (y := nI (q + 1)) (inc1 _) ?_
      refine R_pI hC dX11_readStep_27 fl_X11_98 L_M rfl (R_aload_n (i := 0) hC dX11_readStep_30 rfl rfl (R_gR hC dX11_readStep_31 fl_X11_26 L_M rfl (R_iload_n (i := 1) hC dX11_readStep_34 rfl rfl (R_iload_n (i := 2) hC dX11_readStep_35 rfl rfl (R_sI hC dX11_readStep_36 L_m_plan (4 * (48 + n)) rfl (by omega) (by decide) (R_iconst (v := 1) hC dX11_readStep_37 (by decide) (R_istore_n (i := 3) hC dX11_readStep_38 rfl (by decide) rfl ?_)))))))
      skip
      have ep : φ.2.2 i_m_plan = τ.2.2 i_m_plan := by rw [hφr]
      refine hid k k7 z1 v1 1 (by decide) (by decide) _ (hφ.at.pl _) ?_ (fun m hm => ?_) ?_ (fun m m1 m2 => absurd m2 (by omega))
      · rw [sA_ne (by decide)]; show φ.2.2 i_m_planLong = _; rw [hφr]
      · rw [sA_eq]; unfold upd; rw [if_neg (by omega)]; show φ.2.2 i_m_plan m = _; rw [ep]
      · rw [sA_eq]; unfold upd; rw [if_pos rfl]
  · refine R_ldS hC 4 (by decide) rfl dX11_readStep_0 (R_aload_n (i := 0) hC dX11_readStep_2 rfl rfl ?_)
    refine R_V0g hC hR dX11_readStep_3 MV_X11_look ml_X11_118 L_M rfl (s_look h ht ok hi) (by first | decide | omega) ⟨by decide, by decide⟩ (Nat.le_of_ble_eq_true rfl) (fun r w1 hq => ?_)
    obtain ⟨φ, rfl, hφ, hφr, rfl⟩ := hq
    rw [hq0] at hφ ⊢
    rw [z3]
    refine R_S2i hC hR dX11_readStep_6 MS_X11_spotOf ml_X11_121 (s_spotOf 4 (by decide) _ _) (by first | decide | omega) ⟨by decide, by decide⟩ (Nat.le_of_ble_eq_true rfl) ?_
    rw [kd_m1]
    refine R_istore_n (i := 2) hC dX11_readStep_9 rfl (by decide) rfl (R_iload_n (i := 2) hC dX11_readStep_10 rfl rfl (R_iconst (v := (-1)) hC dX11_readStep_11 (by decide) ?_))
    refine R_icmp_ne hC 20 dX11_readStep_12 (by decide) (fun h => absurd rfl h) (fun _ => ?_)
    exact no (fun y => absurd y (by omega)) φ hφ hφr
theorem s_readPlan {σ τ : sg} {x : aW} {t : tap} {g0 : Nat → Int32} (h : RDS σ τ 0 (-1)) (ht : HT σ t) (ok : tpOK t) (hg : ∀ m, m < 192 → τ.2.2 i_m_plan m = g0 m) : Mt mX11_readPlan 6 0 0 [.ref i_M] (wd τ x) (fun r w => r = none ∧ ∃ υ p F, w = wd υ x ∧ RDS σ υ p F ∧ p ≤ t.1 ∧ (∀ m, m < 192 → υ.2.2 i_m_plan m = g0 m) ∧ (∀ m, m < 4 → υ.2.2 i_m_planLong m = τ.2.2 i_m_planLong m) ∧ ((F = nI p ∧ RZ t 0 0 0 0 (fun _ _ => 0) = .inl p) ∨ (F = -1 ∧ ∃ s, RZ t 0 0 0 0 (fun _ _ => 0) = .inr s ∧ 1 ≤ s.1 ∧ s.1 ≤ 12 ∧ υ.2.2 i_m_planLong 4 = nI s.1 ∧ (∀ a j, a < s.1 → j < 4 → υ.2.2 i_m_plan (4 * (48 + a) + j) = s.2 a j) ∧ ∀ a, a < s.1 → stepOK (s.2 a)))) := by
  refine Mt.of MI_X11_readPlan (Nat.le_of_ble_eq_true rfl) (fun X hC hR hT => ?_)
  have o1 := ok.1
  generalize hres : RZ t 0 0 0 0 (fun _ _ => 0) = res at hT
  have lp : ∀ n, n ≤ 11 → ∀ S k0 i υ, RDS σ υ i (-1) → i ≤ t.1 → PG g0 (υ.2.2 i_m_plan) n S → (∀ a, a < n → stepOK (S a)) → res = RZ t i n k0 0 S → υ.2.2 i_m_planLong = τ.2.2 i_m_planLong → Rw mX11_readPlan X 4 [some (.ref i_M), some (.int (nI n)), some (.int 1)] [] (wd υ x) 0 0 := by
    have body : ∀ n, n ≤ 11 → (n < 11 → ∀ S k0 i υ, RDS σ υ i (-1) → i ≤ t.1 → PG g0 (υ.2.2 i_m_plan) (n + 1) S → (∀ a, a < n + 1 → stepOK (S a)) → res = RZ t i (n + 1) k0 0 S → υ.2.2 i_m_planLong = τ.2.2 i_m_planLong → Rw mX11_readPlan X 4 [some (.ref i_M), some (.int (nI (n + 1))), some (.int 1)] [] (wd υ x) 0 0) → ∀ S k0 i υ, RDS σ υ i (-1) → i ≤ t.1 → PG g0 (υ.2.2 i_m_plan) n S → (∀ a, a < n → stepOK (S a)) → res = RZ t i n k0 0 S → υ.2.2 i_m_planLong = τ.2.2 i_m_planLong → Rw mX11_readPlan X 4 [some (.ref i_M), some (.int (nI n)), some (.int 1)] [] (wd υ x) 0 0 := by
      intro n hn ih S k0 i υ hυ hi pg hs hr hpl
      refine R_iload_n (i := 2) hC dX11_readPlan_4 rfl rfl ?_
      refine R_if_eq hC 77 dX11_readPlan_5 (by decide) (fun h => absurd h (by decide)) (fun _ => ?_)
      refine R_aload_n (i := 0) hC dX11_readPlan_8 rfl rfl (R_iconst (v := 4) hC dX11_readPlan_9 (by decide) (R_bipush (v := 48) hC dX11_readPlan_10 (by decide) (R_iload_n (i := 1) hC dX11_readPlan_12 rfl rfl (R_iadd hC dX11_readPlan_13 ?_))))
      refine R_top (y := nI (48 + n)) ((nIa 48 n)) ?_
      refine R_imul hC dX11_readPlan_14 ?_
      refine R_top (y := nI (4 * (48 + n))) ((nIm 4 (48 + n))) ?_
      refine R_V1g hC hR dX11_readPlan_15 MV_X11_readStep ml_X11_137 L_M rfl (s_readStep hυ ht ok hi (show n < 12 by omega) pg hs hr) (by first | decide | omega) ⟨by decide, by decide⟩ (Nat.le_of_ble_eq_true rfl) (fun r w1 hq => ?_)
      obtain ⟨rfl, φ, p, F, rfl, ⟨hφ, hp, hd⟩, hφl⟩ := hq
      skip
      rcases hd with ⟨rfl, hr2, hg2⟩ | ⟨rfl, k, S2, k7, hr2, pg2, hs2⟩
      · have ne := nI_n1 (n := p) (by omega)
        refine R_aload_n (i := 0) hC dX11_readPlan_18 rfl rfl (R_gI hC dX11_readPlan_19 fl_X11_105 L_M rfl ?_)
        refine R_top (y := nI p) (hφ.2.2.2.2) ?_
        refine R_iconst (v := (-1)) hC dX11_readPlan_22 (by decide) ?_
        refine R_icmp_eq hC 27 dX11_readPlan_23 (by decide) (fun h => absurd h ne) (fun _ => ?_)
        exact R_vret hC hT dX11_readPlan_26 rfl ⟨rfl, φ, p, nI p, rfl, hφ, hp, hg2, fun m hm => (by rw [hφl, hpl]), Or.inl ⟨rfl, hr2⟩⟩
      · obtain ⟨j1, j2, j3⟩ := SK_ok t p hp
        have hr3 : res = RZ t (SK t p) (n + 1) k (sgK k) S2 := by rw [hr2, RZ_sk p hp]
        have wh : 0 < sgK k ∧ sgK k = sgK k := ⟨by rcases (by omega : k = 0 ∨ k = 1 ∨ k = 2 ∨ k = 3 ∨ k = 4 ∨ k = 5 ∨ k = 6) with rfl | rfl | rfl | rfl | rfl | rfl | rfl <;> decide, rfl⟩
        have sk2 : SK t (SK t p) = SK t p := SK_nb j2 j3
        generalize hp0 : SK t p = e at *
        have n12 := nI_eq (a := n + 1) (b := 12) (by omega) (by decide)
        have pl0 : ∀ ψ : sg, ψ.2.2 = φ.2.2 → ψ.2.2 i_m_planLong = τ.2.2 i_m_planLong := fun ψ z => by rw [z, hφl, hpl]
        have plg : ∀ ψ : sg, ψ.2.2 = φ.2.2 → ψ.2.2 i_m_plan = φ.2.2 i_m_plan := fun ψ z => by rw [z]
        have out : ∀ ψ, RDS σ ψ e (-1) → ψ.2.2 = φ.2.2 → ¬ chA t e = 59 → Rw mX11_readPlan X 4 [some (.ref i_M), some (.int (nI (n + 1))), some (.int 0)] [] (wd ψ x) 0 0 := by
          intro ψ hψ hψr c59
          have q4 : ∀ m, m < 4 → upd (ψ.2.2 i_m_planLong) 4 (nI (n + 1)) m = τ.2.2 i_m_planLong m := fun m hm => by unfold upd; rw [if_neg (by omega), pl0 ψ hψr]
          rcases chA_256 ok j2 with ⟨z1, z2, z3⟩ | ⟨z1, z3⟩
          · have n59 : ¬ t.2 e = 59 := fun z => c59 (by rw [z3, z]; rfl)
            refine R_iload_n (i := 2) hC dX11_readPlan_4 rfl rfl ?_
            refine R_if_eq hC 77 dX11_readPlan_5 (by decide) (fun _ => ?_) (fun h => absurd rfl h)
            refine R_aload_n (i := 0) hC dX11_readPlan_77 rfl rfl (R_gR hC dX11_readPlan_78 fl_X11_29 L_M rfl (R_iconst (v := 4) hC dX11_readPlan_81 (by decide) (R_iload_n (i := 1) hC dX11_readPlan_82 rfl rfl (R_sI hC dX11_readPlan_83 L_m_planLong 4 rfl (by decide) (by decide) (R_aload_n (i := 0) hC dX11_readPlan_84 rfl rfl ?_)))))
            refine R_V0g hC hR dX11_readPlan_85 MV_X11_look ml_X11_118 L_M rfl (s_look (hψ.pn _) ht ok j2) (by first | decide | omega) ⟨by decide, by decide⟩ (Nat.le_of_ble_eq_true rfl) (fun r w1 hq => ?_)
            obtain ⟨ω, rfl, hω, hωr, rfl⟩ := hq
            rw [sk2] at hω ⊢
            rw [z3]
            refine R_iconst (v := (-1)) hC dX11_readPlan_88 (by decide) ?_
            refine R_icmp_eq hC 96 dX11_readPlan_89 (by decide) (fun h => absurd h (nI_n1 (by omega))) (fun _ => ?_)
            refine R_aload_n (i := 0) hC dX11_readPlan_92 rfl rfl ?_
            refine R_V0g hC hR dX11_readPlan_93 MV_X11_fails ml_X11_125 L_M rfl (s_fails hω) (by first | decide | omega) ⟨by decide, by decide⟩ (Nat.le_of_ble_eq_true rfl) (fun r w1 hq => ?_)
            obtain ⟨rfl, rfl, hf2⟩ := hq
            exact R_vret hC hT dX11_readPlan_96 rfl (by
            have w1 : ω.2.2 i_m_plan = φ.2.2 i_m_plan := by rw [hωr, sA_ne (by decide), plg ψ hψr]
            have w2 : ω.2.2 i_m_planLong = upd (ψ.2.2 i_m_planLong) 4 (nI (n + 1)) := by rw [hωr, sA_eq]
            exact ⟨rfl, _, e, nI e, rfl, hf2, j2, fun m hm => (by show ω.2.2 i_m_plan m = _; rw [w1]; exact pg2.1 m hm), fun m hm => (by show ω.2.2 i_m_planLong m = _; rw [w2]; exact q4 m hm), Or.inl ⟨rfl, by rw [hr3, RZ_w0 z1 (j3 z1) wh (fun z => n59 z.1)]⟩⟩)
          · refine R_iload_n (i := 2) hC dX11_readPlan_4 rfl rfl ?_
            refine R_if_eq hC 77 dX11_readPlan_5 (by decide) (fun _ => ?_) (fun h => absurd rfl h)
            refine R_aload_n (i := 0) hC dX11_readPlan_77 rfl rfl (R_gR hC dX11_readPlan_78 fl_X11_29 L_M rfl (R_iconst (v := 4) hC dX11_readPlan_81 (by decide) (R_iload_n (i := 1) hC dX11_readPlan_82 rfl rfl (R_sI hC dX11_readPlan_83 L_m_planLong 4 rfl (by decide) (by decide) (R_aload_n (i := 0) hC dX11_readPlan_84 rfl rfl ?_)))))
            refine R_V0g hC hR dX11_readPlan_85 MV_X11_look ml_X11_118 L_M rfl (s_look (hψ.pn _) ht ok j2) (by first | decide | omega) ⟨by decide, by decide⟩ (Nat.le_of_ble_eq_true rfl) (fun r w1 hq => ?_)
            obtain ⟨ω, rfl, hω, hωr, rfl⟩ := hq
            rw [sk2] at hω ⊢
            rw [z3]
            refine R_iconst (v := (-1)) hC dX11_readPlan_88 (by decide) ?_
            refine R_icmp_eq hC 96 dX11_readPlan_89 (by decide) (fun _ => ?_) (fun h => absurd rfl h)
            exact R_vret hC hT dX11_readPlan_96 rfl (by
            have w1 : ω.2.2 i_m_plan = φ.2.2 i_m_plan := by rw [hωr, sA_ne (by decide), plg ψ hψr]
            have w2 : ω.2.2 i_m_planLong = upd (ψ.2.2 i_m_planLong) 4 (nI (n + 1)) := by rw [hωr, sA_eq]
            exact ⟨rfl, ω, e, -1, rfl, hω, j2, fun m hm => (by rw [w1]; exact pg2.1 m hm), fun m hm => (by rw [w2]; exact q4 m hm), Or.inr ⟨rfl, (n + 1, S2), by rw [hr3, z1, RZ_end, if_pos wh], by show 1 ≤ n + 1; omega, by show n + 1 ≤ 12; omega, by rw [w2]; unfold upd; rw [if_pos rfl], fun a j ha hj => (by rw [w1]; exact pg2.2 a j ha hj), hs2⟩⟩)
        have c59 : chA t e = 59 → e < t.1 ∧ t.2 e = 59 := fun z => by
          rcases chA_256 ok j2 with ⟨z1, z2, z3⟩ | ⟨z1, z3⟩
          · rw [z3] at z; exact ⟨z1, (nI_eq (a := t.2 e) (b := 59) (by omega) (by decide)).mp z⟩
          · rw [z3] at z; exact absurd z (by decide)
        refine R_aload_n (i := 0) hC dX11_readPlan_18 rfl rfl (R_gI hC dX11_readPlan_19 fl_X11_105 L_M rfl ?_)
        refine R_top (y := -1) (hφ.2.2.2.2) ?_
        refine R_iconst (v := (-1)) hC dX11_readPlan_22 (by decide) ?_
        refine R_icmp_eq hC 27 dX11_readPlan_23 (by decide) (fun _ => ?_) (fun h => absurd rfl h)
        refine R_iinc hC dX11_readPlan_27 rfl (inc1 _) (by decide) rfl (R_aload_n (i := 0) hC dX11_readPlan_30 rfl rfl ?_)
        refine R_V0g hC hR dX11_readPlan_31 MV_X11_look ml_X11_118 L_M rfl (s_look hφ ht ok hp) (by first | decide | omega) ⟨by decide, by decide⟩ (Nat.le_of_ble_eq_true rfl) (fun r w1 hq => ?_)
        obtain ⟨ψ, rfl, hψ, hψr, rfl⟩ := hq
        rw [hp0] at hψ ⊢
        refine R_bipush (v := 59) hC dX11_readPlan_34 (by decide) ?_
        refine R_icmp_ne hC 43 dX11_readPlan_36 (by decide) (fun h36 => ?_) (fun h36 => ?_)
        · refine R_iconst (v := 0) hC dX11_readPlan_43 (by decide) (R_istore_n (i := 2) hC dX11_readPlan_44 rfl (by decide) rfl (R_iload_n (i := 2) hC dX11_readPlan_45 rfl rfl ?_))
          refine R_if_eq hC 60 dX11_readPlan_46 (by decide) (fun _ => ?_) (fun h => absurd (by decide) h)
          refine R_iload_n (i := 2) hC dX11_readPlan_60 rfl rfl ?_
          refine R_if_eq hC 4 dX11_readPlan_61 (by decide) (fun _ => ?_) (fun h => absurd (by decide) h)
          first
            | exact out ψ hψ hψr h36
            | (obtain ⟨c1, c2⟩ := c59 h36; have m12 : ¬ n + 1 = 12 := (fun z => h52 (n12.mpr z)); exact ih (by omega) S2 k (e + 1) _ hψ.at (by omega) (by show PG g0 (ψ.2.2 i_m_plan) _ _; rw [plg ψ hψr]; exact pg2) hs2 (by rw [hr3, RZ_w c1 (j3 c1) wh ⟨c2, m12⟩]) (by show ψ.2.2 i_m_planLong = _; rw [pl0 ψ hψr]))
        · refine R_iconst (v := 1) hC dX11_readPlan_39 (by decide) (R_goto hC 44 dX11_readPlan_40 (by decide) (R_istore_n (i := 2) hC dX11_readPlan_44 rfl (by decide) rfl (R_iload_n (i := 2) hC dX11_readPlan_45 rfl rfl ?_)))
          refine R_if_eq hC 60 dX11_readPlan_46 (by decide) (fun h => absurd h (by decide)) (fun _ => ?_)
          refine R_iload_n (i := 1) hC dX11_readPlan_49 rfl rfl (R_bipush (v := 12) hC dX11_readPlan_50 (by decide) ?_)
          refine R_icmp_ne hC 60 dX11_readPlan_52 (by decide) (fun h52 => ?_) (fun h52 => ?_)
          · refine R_iload_n (i := 2) hC dX11_readPlan_60 rfl rfl ?_
            refine R_if_eq hC 4 dX11_readPlan_61 (by decide) (fun h => absurd h (by decide)) (fun _ => ?_)
            refine R_aload_n (i := 0) hC dX11_readPlan_64 rfl rfl (R_dup hC dX11_readPlan_65 rfl (R_gI hC dX11_readPlan_66 fl_X11_98 L_M rfl ?_))
            refine R_top (y := nI e) (hψ.2.2.2.1) ?_
            refine R_iconst (v := 1) hC dX11_readPlan_69 (by decide) (R_iadd hC dX11_readPlan_70 ?_)
            refine R_top (y := nI (e + 1)) (inc1 _) ?_
            refine R_pI hC dX11_readPlan_71 fl_X11_98 L_M rfl (R_goto hC 4 dX11_readPlan_74 (by decide) ?_)
            first
              | exact out ψ hψ hψr h36
              | (obtain ⟨c1, c2⟩ := c59 h36; have m12 : ¬ n + 1 = 12 := (fun z => h52 (n12.mpr z)); exact ih (by omega) S2 k (e + 1) _ hψ.at (by omega) (by show PG g0 (ψ.2.2 i_m_plan) _ _; rw [plg ψ hψr]; exact pg2) hs2 (by rw [hr3, RZ_w c1 (j3 c1) wh ⟨c2, m12⟩]) (by show ψ.2.2 i_m_planLong = _; rw [pl0 ψ hψr]))
          · refine R_aload_n (i := 0) hC dX11_readPlan_55 rfl rfl ?_
            refine R_V0g hC hR dX11_readPlan_56 MV_X11_fails ml_X11_125 L_M rfl (s_fails hψ) (by first | decide | omega) ⟨by decide, by decide⟩ (Nat.le_of_ble_eq_true rfl) (fun r w1 hq => ?_)
            obtain ⟨rfl, rfl, hf2⟩ := hq
            exact R_vret hC hT dX11_readPlan_59 rfl (by
            obtain ⟨c1, c2⟩ := c59 h36
            exact ⟨rfl, _, e, nI e, rfl, hf2, j2, fun m hm => (by show ψ.2.2 i_m_plan m = _; rw [plg ψ hψr]; exact pg2.1 m hm), fun m hm => (by show ψ.2.2 i_m_planLong m = _; rw [pl0 ψ hψr]), Or.inl ⟨rfl, by rw [hr3, RZ_w0 c1 (j3 c1) wh (fun z => z.2 (n12.mp h52))]⟩⟩)
    refine up_loop 11 ?_ ?_
    · exact body 11 (Nat.le_refl _) (fun z => absurd z (by decide))
    · intro n hn ih
      exact body n (by omega) (fun _ => ih)
  refine R_iconst (v := 0) hC dX11_readPlan_0 (by decide) (R_istore_n (i := 1) hC dX11_readPlan_1 rfl (by decide) rfl (R_iconst (v := 1) hC dX11_readPlan_2 (by decide) (R_istore_n (i := 2) hC dX11_readPlan_3 rfl (by decide) rfl ?_)))
  exact lp 0 (by decide) (fun _ _ => 0) 0 0 τ h (Nat.zero_le _) ⟨hg, fun a j z => absurd z (Nat.not_lt_zero _)⟩ (fun a z => absurd z (Nat.not_lt_zero _)) hres.symm rfl
