/-! ===== the class's cycle ===== -/
theorem rch_par {T : tb} {g : Nat} (hg : g < 6) : ∀ n b, rch T g n b → ∃ m, m ≤ n ∧ rch T g m b ∧ (b < 6 → m % 2 = 0) ∧ (6 ≤ b → m % 2 = 1)
  | 0, b, h => by
    have e : b = g := h
    exact ⟨0, Nat.le_refl _, h, fun _ => rfl, fun z => by omega⟩
  | n + 1, b, h => by
    rcases h with h | ⟨a, h1, h2, h3⟩
    · obtain ⟨m, q1, q2, q3, q4⟩ := rch_par hg n b h
      exact ⟨m, by omega, q2, q3, q4⟩
    · obtain ⟨m, q1, q2, q3, q4⟩ := rch_par hg n a h2
      refine ⟨m + 1, by omega, Or.inr ⟨a, h1, q2, h3⟩, fun z => ?_, fun z => ?_⟩
      · rcases h3 with ⟨y1, y2, _⟩ | ⟨y1, y2, _⟩
        · omega
        · have := q4 y1; omega
      · rcases h3 with ⟨y1, y2, _⟩ | ⟨y1, y2, _⟩
        · have := q3 y1; omega
        · omega
theorem rch_last {T : tb} {g b : Nat} (hb : ¬ b = g) : ∀ n, rch T g (n + 1) b → ∃ a, a < 12 ∧ rch T g n a ∧ adj T a b
  | 0, h => by
    rcases h with h | h
    · exact absurd h hb
    · exact h
  | n + 1, h => by
    rcases h with h | h
    · obtain ⟨a, q1, q2, q3⟩ := rch_last hb n h
      exact ⟨a, q1, rch_s q2, q3⟩
    · exact h
/-- the columns that are reached -/
def RS (T : tb) (g n D : Nat) : Prop := D < 64 ∧ ∀ c, D.testBit c = true ↔ c < T.2.1 ∧ rch T g n (6 + c)
theorem bit_not : ∀ s, s < 64 → ∀ i, i < 6 → nI s &&& (nI (2 ^ i) ^^^ -1) = nI (clr s i) := and_clr2
theorem rs_step {T : tb} {r c k D : Nat} (h6 : T.1 ≤ 6) (h7 : T.2.1 ≤ 6) (hr : r < T.1) (hk : k % 2 = 1) (h : RS (tset T r c 0) r k D) : RS (tset T r c 0) r (k + 2) (D ||| cmet T (clr (rmet T D) r)) := by
  have lR := rmet64 T h6 D
  have lC := cmet64 T h7 (clr (rmet T D) r)
  refine ⟨or64 _ h.1 _ lC, fun q => ?_⟩
  have same : ∀ a b, a ≠ r → (tset T r c 0).2.2 a b = T.2.2 a b := fun a b ha => if_neg (fun z => ha z.1)
  have bR : ∀ a, a < 6 → ((clr (rmet T D) r).testBit a = true ↔ a ≠ r ∧ a < T.1 ∧ ∃ b, b < T.2.1 ∧ D.testBit b = true ∧ ¬ T.2.2 a b = 0) := fun a ha => by
    rw [clr_o _ lR r (by omega) a ha]
    unfold rmet
    rw [Bool.and_eq_true, mkm_bit]
    simp only [Bool.not_eq_true', beq_eq_false_iff_ne, ne_eq]
    constructor
    · rintro ⟨⟨y1, y2⟩, y3⟩; exact ⟨y3, y1, y2⟩
    · rintro ⟨y3, y1, y2⟩; exact ⟨⟨y1, y2⟩, y3⟩
  rw [Nat.testBit_or, Bool.or_eq_true, h.2 q]
  unfold cmet
  rw [mkm_bit]
  constructor
  · rintro (⟨y1, y2⟩ | ⟨y1, a, y2, y3, y4⟩)
    · exact ⟨y1, rch_mono y2 _ (by omega)⟩
    · obtain ⟨z1, z2, b, z3, z4, z5⟩ := (bR a (by omega)).mp y3
      have zb := ((h.2 b).mp z4).2
      refine ⟨y1, Or.inr ⟨a, by omega, Or.inr ⟨6 + b, by omega, zb, Or.inr ⟨by omega, by omega, ?_⟩⟩, Or.inl ⟨by omega, by omega, ?_⟩⟩⟩
      · rw [Nat.add_sub_cancel_left]; exact ⟨y2, z3, by rw [same a b z1]; exact z5⟩
      · rw [Nat.add_sub_cancel_left]; exact ⟨y2, y1, by rw [same a q z1]; exact y4⟩
  · rintro ⟨y1, y2⟩
    have old : rch (tset T r c 0) r k (6 + q) → (q < T.2.1 ∧ rch (tset T r c 0) r k (6 + q)) := fun z => ⟨y1, z⟩
    rcases y2 with y2 | ⟨a, a12, y3, y4⟩
    · obtain ⟨m, m1, m2, m3, m4⟩ := rch_par (by omega) _ _ y2
      have := m4 (by omega)
      exact Or.inl (old (rch_mono m2 k (by omega)))
    · rcases y4 with ⟨a6, _, t1, t2, t3⟩ | ⟨_, z, _⟩
      · rw [Nat.add_sub_cancel_left] at t2 t3
        by_cases ar : a = r
        · subst ar
          refine Or.inl (old (rch_mono (n := 1) (Or.inr ⟨a, by omega, rfl, Or.inl ⟨a6, by omega, ?_⟩⟩) k (by omega)))
          rw [Nat.add_sub_cancel_left]; exact ⟨t1, t2, t3⟩
        · obtain ⟨b, b12, w1, w2⟩ := rch_last ar k y3
          rcases w2 with ⟨_, w3, _⟩ | ⟨w3, _, w4, w5, w6⟩
          · omega
          · have hb : b = 6 + (b - 6) := by omega
            refine Or.inr ⟨y1, a, t1, (bR a a6).mpr ⟨ar, t1, b - 6, w5, (h.2 (b - 6)).mpr ⟨w5, by rw [← hb]; exact w1⟩, by rw [← same a _ ar]; exact w6⟩, by rw [← same a _ ar]; exact t3⟩
      · omega
noncomputable def rndV (T : tb) (r c : Nat) : Int32 := match dzO (tset T r c 0) r (6 + c) with
  | some k => nI (k + 1)
  | none => -1
theorem c_roundBy {σ : sg} {x : aW} {T : tb} (h : SH σ T) {r c : Nat} (hr : r < T.1) (hc : c < T.2.1) : Mt mX5_roundBy 2 0 0 [.ref i_shape, .int (nI r), .int (nI c)] (wd σ x) (QI (rndV T r c) (wd σ x)) := by
  refine Mt.of MI_X5_roundBy (Nat.le_of_ble_eq_true rfl) (fun X hC hR hT => ?_)
  obtain ⟨f1, f2, k3, k4, ha, hd⟩ := id h
  have r0 : RS (tset T r c 0) r 1 (clr (acr T r) c) := by
    refine ⟨clr_sub _ (acr64 T k4 r) c (by omega), fun q => ?_⟩
    have ts : (tset T r c 0).2.2 r q = if q = c then 0 else T.2.2 r q := by
      show (if r = r ∧ q = c then 0 else T.2.2 r q) = _
      by_cases z : q = c
      · rw [if_pos ⟨rfl, z⟩, if_pos z]
      · rw [if_neg (fun y => z y.2), if_neg z]
    have e1 : rch (tset T r c 0) r 1 (6 + q) ↔ (q < T.2.1 ∧ ¬ (tset T r c 0).2.2 r q = 0) := by
      constructor
      · rintro (z | ⟨a, a12, z, y⟩)
        · have z : 6 + q = r := z; omega
        · have z : a = r := z
          subst z
          rcases y with ⟨_, _, y1, y2, y3⟩ | ⟨y1, _⟩
          · rw [Nat.add_sub_cancel_left] at y2 y3; exact ⟨y2, y3⟩
          · omega
      · rintro ⟨z1, z2⟩
        exact Or.inr ⟨r, by omega, rfl, Or.inl ⟨by omega, by omega, by rw [Nat.add_sub_cancel_left]; exact ⟨hr, z1, z2⟩⟩⟩
    rw [e1, ts]
    by_cases q6 : q < 6
    · rw [clr_o _ (acr64 T k4 r) c (by omega) q q6]
      unfold acr
      rw [Bool.and_eq_true, mkm_bit]
      by_cases z : q = c
      · subst z; simp
      · simp [z]; exact fun a _ => a
    · have : (clr (acr T r) c).testBit q = false := Nat.testBit_lt_two_pow (Nat.lt_of_lt_of_le (clr_sub _ (acr64 T k4 r) c (by omega)) (Nat.pow_le_pow_right (n := 2) (by decide) (show 6 ≤ q by omega)))
      rw [this]; simp; omega
  have loop : ∀ i, i ≤ 5 → ∀ D, RS (tset T r c 0) r (2 * i + 1) D → ¬ rch (tset T r c 0) r (2 * i + 1) (6 + c) → ∀ u5, Rw mX5_roundBy X 16 [some (.ref i_shape), some (.int (nI r)), some (.int (nI c)), some (.int (nI D)), some (.int (nI (2 * i + 4))), u5] [] (wd σ x) 0 0 := by
    refine up_loop 5 ?_ ?_
    · intro D hD hn u5
      have e : rndV T r c = -1 := by
        unfold rndV
        rw [dzO_n (fun z => by
          obtain ⟨m, m1, m2, m3, m4⟩ := rch_par (by omega) _ _ z
          have := m4 (by omega)
          exact hn (rch_mono m2 _ (by omega)))]
      refine R_iload hC dX5_roundBy_16 rfl (R_bipush (v := 12) hC dX5_roundBy_18 (by decide) ?_)
      refine R_icmp_gt hC 62 dX5_roundBy_20 (by decide) (fun _ => ?_) (fun h => absurd (by decide) h)
      refine R_iconst (v := (-1)) hC dX5_roundBy_62 (by decide) ?_
      exact R_iret hC hT dX5_roundBy_63 rfl ⟨by rw [e], rfl⟩
    · intro i hi ih D hD hn u5
      have st := rs_step k3 k4 hr (by omega) hD
      have lR := rmet64 T k3 D
      have lC := clr_sub _ lR r (by omega)
      have bt := st.2 c
      refine R_iload hC dX5_roundBy_16 rfl (R_bipush (v := 12) hC dX5_roundBy_18 (by decide) ?_)
      refine R_icmp_gt hC 62 dX5_roundBy_20 (by decide) (fun h => absurd h (nI_nlt (a := 12) (by omega) (by decide))) (fun _ => ?_)
      refine R_aload_n (i := 0) hC dX5_roundBy_23 rfl rfl (R_iload_n (i := 3) hC dX5_roundBy_24 rfl rfl ?_)
      refine R_V1i hC hR dX5_roundBy_25 MV_X5_rowsMetBy ml_X5_57 L_shape rfl (c_rmet h D hD.1) (by first | decide | omega) ⟨by decide, by decide⟩ (Nat.le_of_ble_eq_true rfl) ?_
      refine R_iconst (v := 1) hC dX5_roundBy_28 (by decide) (R_iload_n (i := 1) hC dX5_roundBy_29 rfl rfl (R_ishl hC dX5_roundBy_30 ?_))
      refine R_top (y := nI (2 ^ r)) (shl1 r (by omega)) ?_
      refine R_iconst (v := (-1)) hC dX5_roundBy_31 (by decide) (R_ixor hC dX5_roundBy_32 (R_iand hC dX5_roundBy_33 ?_))
      refine R_top (y := nI (clr (rmet T D) r)) (and_clr2 _ lR r (by omega)) ?_
      refine R_istore hC dX5_roundBy_34 (by decide) rfl (R_iload_n (i := 3) hC dX5_roundBy_36 rfl rfl (R_aload_n (i := 0) hC dX5_roundBy_37 rfl rfl (R_iload hC dX5_roundBy_38 rfl ?_)))
      refine R_V1i hC hR dX5_roundBy_40 MV_X5_columnsMetBy ml_X5_50 L_shape rfl (c_cmet h _ lC) (by first | decide | omega) ⟨by decide, by decide⟩ (Nat.le_of_ble_eq_true rfl) ?_
      refine R_ior hC dX5_roundBy_43 ?_
      refine R_top (y := nI (D ||| cmet T (clr (rmet T D) r))) (nI_or _ hD.1 _ (cmet64 T k4 _)) ?_
      refine R_istore_n (i := 3) hC dX5_roundBy_44 rfl (by decide) rfl (R_iload_n (i := 3) hC dX5_roundBy_45 rfl rfl (R_iload_n (i := 2) hC dX5_roundBy_46 rfl rfl ?_))
      refine R_S2i hC hR dX5_roundBy_47 MS_X10_isIn ml_X5_39 (c_isIn _ c st.1 (by omega) _) (by first | decide | omega) ⟨by decide, by decide⟩ (Nat.le_of_ble_eq_true rfl) ?_
      refine R_if_eq hC 56 dX5_roundBy_50 (by decide) (fun h50 => ?_) (fun h50 => ?_)
      · refine R_iinc hC dX5_roundBy_56 rfl (show nI (2 * i + 4) + Int32.ofInt 2 = nI (2 * (i + 1) + 4) from by rw [show Int32.ofInt 2 = nI 2 from rfl, nI_add, show 2 * i + 4 + 2 = 2 * (i + 1) + 4 by omega]) (by decide) rfl (R_goto hC 16 dX5_roundBy_59 (by decide) ?_)
        exact ih _ st (fun y => tst0 h50 (bt.mpr ⟨hc, y⟩)) _
      · refine R_iload hC dX5_roundBy_53 rfl ?_
        exact R_iret hC hT dX5_roundBy_55 rfl ⟨by
          have y := (bt.mp (tst h50)).2
          have e : rndV T r c = nI (2 * i + 4) := by
            unfold rndV
            rw [dzO_y (k := 2 * i + 3) (by omega) ⟨y, fun m hm z => by
              obtain ⟨p, p1, p2, p3, p4⟩ := rch_par (by omega) _ _ z
              have := p4 (by omega)
              exact hn (rch_mono p2 _ (by omega))⟩]
          rw [e], rfl⟩
  refine R_aload_n (i := 0) hC dX5_roundBy_0 rfl rfl (R_gR hC dX5_roundBy_1 fl_X5_9 L_shape rfl (R_iload_n (i := 1) hC dX5_roundBy_4 rfl rfl (R_aI hC dX5_roundBy_5 L_across r rfl (by omega) (by decide) ?_)))
  refine R_top (y := nI (acr T r)) (ha r hr) ?_
  refine R_iconst (v := 1) hC dX5_roundBy_6 (by decide) (R_iload_n (i := 2) hC dX5_roundBy_7 rfl rfl (R_ishl hC dX5_roundBy_8 ?_))
  refine R_top (y := nI (2 ^ c)) (shl1 c (by omega)) ?_
  refine R_iconst (v := (-1)) hC dX5_roundBy_9 (by decide) (R_ixor hC dX5_roundBy_10 (R_iand hC dX5_roundBy_11 ?_))
  refine R_top (y := nI (clr (acr T r) c)) (and_clr2 _ (acr64 T k4 r) c (by omega)) ?_
  refine R_istore_n (i := 3) hC dX5_roundBy_12 rfl (by decide) rfl (R_iconst (v := 4) hC dX5_roundBy_13 (by decide) (R_istore hC dX5_roundBy_14 (by decide) rfl ?_))
  exact loop 0 (by decide) _ r0 (fun z => by
    have y := (r0.2 c).mpr ⟨hc, z⟩
    rw [clr_o _ (acr64 T k4 r) c (by omega) c (by omega)] at y
    simp at y) _
theorem c_round {σ : sg} {x : aW} {T : tb} (h : SH σ T) : Mt mX5_shortestRound 3 0 0 [.ref i_shape] (wd σ x) (QI (fo (fun r v => fo (cyH T r) 0 T.2.1 v) 0 T.1 (-1)) (wd σ x)) := by
  refine Mt.of MI_X5_shortestRound (Nat.le_of_ble_eq_true rfl) (fun X hC hR hT => ?_)
  obtain ⟨f1, f2, k3, k4, ha, hd⟩ := id h
  have outer : ∀ n, n ≤ T.1 → ∀ u3 u4, Rw mX5_shortestRound X 4 [some (.ref i_shape), some (.int (fo (fun r v => fo (cyH T r) 0 T.2.1 v) 0 n (-1))), some (.int (nI n)), u3, u4] [] (wd σ x) 0 0 := by
    refine up_loop T.1 ?_ ?_
    · intro u3 u4
      refine R_iload_n (i := 2) hC dX5_shortestRound_4 rfl rfl (R_aload_n (i := 0) hC dX5_shortestRound_5 rfl rfl (R_gI hC dX5_shortestRound_6 fl_X5_30 L_shape rfl ?_))
      refine R_top (y := nI T.1) (f1) ?_
      refine R_icmp_ge hC 79 dX5_shortestRound_9 (by decide) (fun _ => ?_) (fun h => absurd (Int32.le_refl _) h)
      refine R_iload_n (i := 1) hC dX5_shortestRound_79 rfl rfl ?_
      exact R_iret hC hT dX5_shortestRound_80 rfl ⟨rfl, rfl⟩
    · intro n hn ih u3 u4
      rw [fo_s _ (Nat.zero_le n)] at ih
      generalize fo (fun r v => fo (cyH T r) 0 T.2.1 v) 0 n (-1) = v0 at ih ⊢
      have inner : ∀ m, m ≤ T.2.1 → ∀ u4, Rw mX5_shortestRound X 14 [some (.ref i_shape), some (.int (fo (cyH T n) 0 m v0)), some (.int (nI n)), some (.int (nI m)), u4] [] (wd σ x) 0 0 := by
        refine up_loop T.2.1 ?_ ?_
        · intro u4
          refine R_iload_n (i := 3) hC dX5_shortestRound_14 rfl rfl (R_aload_n (i := 0) hC dX5_shortestRound_15 rfl rfl (R_gI hC dX5_shortestRound_16 fl_X5_34 L_shape rfl ?_))
          refine R_top (y := nI T.2.1) (f2) ?_
          refine R_icmp_ge hC 73 dX5_shortestRound_19 (by decide) (fun _ => ?_) (fun h => absurd (Int32.le_refl _) h)
          refine R_iinc hC dX5_shortestRound_73 rfl (inc1 _) (by decide) rfl (R_goto hC 4 dX5_shortestRound_76 (by decide) ?_)
          exact ih _ _
        · intro m hm ihm u4
          rw [fo_s _ (Nat.zero_le m)] at ihm
          generalize fo (cyH T n) 0 m v0 = v1 at ihm ⊢
          have keep : ∀ (e : cyH T n m v1 = v1) u4, Rw mX5_shortestRound X 67 [some (.ref i_shape), some (.int v1), some (.int (nI n)), some (.int (nI m)), u4] [] (wd σ x) 0 0 := by
            intro e u4
            rw [e] at ihm
            refine R_iinc hC dX5_shortestRound_67 rfl (inc1 _) (by decide) rfl (R_goto hC 14 dX5_shortestRound_70 (by decide) ?_)
            exact ihm _
          have take : ∀ v (e : cyH T n m v1 = v) , Rw mX5_shortestRound X 64 [some (.ref i_shape), some (.int v1), some (.int (nI n)), some (.int (nI m)), some (.int v)] [] (wd σ x) 0 0 := by
            intro v e
            rw [e] at ihm
            refine R_iload hC dX5_shortestRound_64 rfl (R_istore_n (i := 1) hC dX5_shortestRound_66 rfl (by decide) rfl (R_iinc hC dX5_shortestRound_67 rfl (inc1 _) (by decide) rfl (R_goto hC 14 dX5_shortestRound_70 (by decide) ?_)))
            exact ihm _
          by_cases hz : T.2.2 n m = 0
          · have nb : ¬ (acr T n).testBit m = true := by unfold acr; rw [mkm_bit]; exact fun z => z.2 hz
            have e : cyH T n m v1 = v1 := by unfold cyH; rw [if_pos hz]
            refine R_iload_n (i := 3) hC dX5_shortestRound_14 rfl rfl (R_aload_n (i := 0) hC dX5_shortestRound_15 rfl rfl (R_gI hC dX5_shortestRound_16 fl_X5_34 L_shape rfl ?_))
            refine R_top (y := nI T.2.1) (f2) ?_
            refine R_icmp_ge hC 73 dX5_shortestRound_19 (by decide) (fun h => absurd h (nI_ge hm (by omega))) (fun _ => ?_)
            refine R_aload_n (i := 0) hC dX5_shortestRound_22 rfl rfl (R_gR hC dX5_shortestRound_23 fl_X5_9 L_shape rfl (R_iload_n (i := 2) hC dX5_shortestRound_26 rfl rfl (R_aI hC dX5_shortestRound_27 L_across n rfl (by omega) (by decide) ?_)))
            refine R_top (y := nI (acr T n)) (ha n hn) ?_
            refine R_iload_n (i := 3) hC dX5_shortestRound_28 rfl rfl ?_
            refine R_S2i hC hR dX5_shortestRound_29 MS_X10_isIn ml_X5_39 (c_isIn _ m (acr64 T k4 n) (by omega) _) (by first | decide | omega) ⟨by decide, by decide⟩ (Nat.le_of_ble_eq_true rfl) ?_
            refine R_top (y := 0) (if_neg nb) ?_
            refine R_if_eq hC 44 dX5_shortestRound_32 (by decide) (fun _ => ?_) (fun h => absurd rfl h)
            refine R_iconst (v := (-1)) hC dX5_shortestRound_44 (by decide) (R_istore hC dX5_shortestRound_45 (by decide) rfl (R_iload hC dX5_shortestRound_47 rfl (R_iconst (v := (-1)) hC dX5_shortestRound_49 (by decide) ?_)))
            refine R_icmp_eq hC 67 dX5_shortestRound_50 (by decide) (fun _ => ?_) (fun h => absurd (by decide) h)
            exact keep e _
          · have yb : (acr T n).testBit m = true := by unfold acr; rw [mkm_bit]; exact ⟨hm, hz⟩
            have cy : ∀ o, dzO (tset T n m 0) n (6 + m) = o → cyH T n m v1 = match o with | some k => if v1 = -1 ∨ nI (k + 1) < v1 then nI (k + 1) else v1 | none => v1 := fun o ho => by unfold cyH; rw [if_neg hz, ho]; cases o <;> rfl
            have rv : ∀ o, dzO (tset T n m 0) n (6 + m) = o → rndV T n m = match o with | some k => nI (k + 1) | none => -1 := fun o ho => by unfold rndV; rw [ho]
            cases ho : dzO (tset T n m 0) n (6 + m) with
            | none =>
              have e : cyH T n m v1 = v1 := cy none ho
              have r1 : rndV T n m = -1 := rv none ho
              refine R_iload_n (i := 3) hC dX5_shortestRound_14 rfl rfl (R_aload_n (i := 0) hC dX5_shortestRound_15 rfl rfl (R_gI hC dX5_shortestRound_16 fl_X5_34 L_shape rfl ?_))
              refine R_top (y := nI T.2.1) (f2) ?_
              refine R_icmp_ge hC 73 dX5_shortestRound_19 (by decide) (fun h => absurd h (nI_ge hm (by omega))) (fun _ => ?_)
              refine R_aload_n (i := 0) hC dX5_shortestRound_22 rfl rfl (R_gR hC dX5_shortestRound_23 fl_X5_9 L_shape rfl (R_iload_n (i := 2) hC dX5_shortestRound_26 rfl rfl (R_aI hC dX5_shortestRound_27 L_across n rfl (by omega) (by decide) ?_)))
              refine R_top (y := nI (acr T n)) (ha n hn) ?_
              refine R_iload_n (i := 3) hC dX5_shortestRound_28 rfl rfl ?_
              refine R_S2i hC hR dX5_shortestRound_29 MS_X10_isIn ml_X5_39 (c_isIn _ m (acr64 T k4 n) (by omega) _) (by first | decide | omega) ⟨by decide, by decide⟩ (Nat.le_of_ble_eq_true rfl) ?_
              refine R_top (y := 1) (if_pos yb) ?_
              refine R_if_eq hC 44 dX5_shortestRound_32 (by decide) (fun h => absurd h (by decide)) (fun _ => ?_)
              refine R_aload_n (i := 0) hC dX5_shortestRound_35 rfl rfl (R_iload_n (i := 2) hC dX5_shortestRound_36 rfl rfl (R_iload_n (i := 3) hC dX5_shortestRound_37 rfl rfl ?_))
              refine R_V2i hC hR dX5_shortestRound_38 MV_X5_roundBy ml_X5_69 L_shape rfl (c_roundBy h hn hm) (by first | decide | omega) ⟨by decide, by decide⟩ (Nat.le_of_ble_eq_true rfl) ?_
              refine R_goto hC 45 dX5_shortestRound_41 (by decide) (R_istore hC dX5_shortestRound_45 (by decide) rfl (R_iload hC dX5_shortestRound_47 rfl (R_iconst (v := (-1)) hC dX5_shortestRound_49 (by decide) ?_)))
              refine R_icmp_eq hC 67 dX5_shortestRound_50 (by decide) (fun _ => ?_) (fun h => absurd r1 h)
              exact keep e _
            | some k =>
              have e : cyH T n m v1 = if v1 = -1 ∨ nI (k + 1) < v1 then nI (k + 1) else v1 := cy (some k) ho
              have r1 : rndV T n m = nI (k + 1) := rv (some k) ho
              have k12 : k ≤ 12 := by
                unfold dzO at ho
                split at ho
                · rename_i z; have := Classical.choose_spec z; cases ho; exact this.1
                · cases ho
              refine R_iload_n (i := 3) hC dX5_shortestRound_14 rfl rfl (R_aload_n (i := 0) hC dX5_shortestRound_15 rfl rfl (R_gI hC dX5_shortestRound_16 fl_X5_34 L_shape rfl ?_))
              refine R_top (y := nI T.2.1) (f2) ?_
              refine R_icmp_ge hC 73 dX5_shortestRound_19 (by decide) (fun h => absurd h (nI_ge hm (by omega))) (fun _ => ?_)
              refine R_aload_n (i := 0) hC dX5_shortestRound_22 rfl rfl (R_gR hC dX5_shortestRound_23 fl_X5_9 L_shape rfl (R_iload_n (i := 2) hC dX5_shortestRound_26 rfl rfl (R_aI hC dX5_shortestRound_27 L_across n rfl (by omega) (by decide) ?_)))
              refine R_top (y := nI (acr T n)) (ha n hn) ?_
              refine R_iload_n (i := 3) hC dX5_shortestRound_28 rfl rfl ?_
              refine R_S2i hC hR dX5_shortestRound_29 MS_X10_isIn ml_X5_39 (c_isIn _ m (acr64 T k4 n) (by omega) _) (by first | decide | omega) ⟨by decide, by decide⟩ (Nat.le_of_ble_eq_true rfl) ?_
              refine R_top (y := 1) (if_pos yb) ?_
              refine R_if_eq hC 44 dX5_shortestRound_32 (by decide) (fun h => absurd h (by decide)) (fun _ => ?_)
              refine R_aload_n (i := 0) hC dX5_shortestRound_35 rfl rfl (R_iload_n (i := 2) hC dX5_shortestRound_36 rfl rfl (R_iload_n (i := 3) hC dX5_shortestRound_37 rfl rfl ?_))
              refine R_V2i hC hR dX5_shortestRound_38 MV_X5_roundBy ml_X5_69 L_shape rfl (c_roundBy h hn hm) (by first | decide | omega) ⟨by decide, by decide⟩ (Nat.le_of_ble_eq_true rfl) ?_
              refine R_top (y := nI (k + 1)) (r1) ?_
              refine R_goto hC 45 dX5_shortestRound_41 (by decide) (R_istore hC dX5_shortestRound_45 (by decide) rfl (R_iload hC dX5_shortestRound_47 rfl (R_iconst (v := (-1)) hC dX5_shortestRound_49 (by decide) ?_)))
              refine R_icmp_eq hC 67 dX5_shortestRound_50 (by decide) (fun h => absurd h (nI_n1 (by omega))) (fun _ => ?_)
              refine R_iload_n (i := 1) hC dX5_shortestRound_53 rfl rfl (R_iconst (v := (-1)) hC dX5_shortestRound_54 (by decide) ?_)
              refine R_icmp_eq hC 64 dX5_shortestRound_55 (by decide) (fun h55 => ?_) (fun h55 => ?_)
              · first
                | (have z := h55; exact take _ (by rw [e, if_pos (Or.inl z)]))
                | (have z := Int32.not_le.mp h61; exact take _ (by rw [e, if_pos (Or.inr z)]))
              · refine R_iload hC dX5_shortestRound_58 rfl (R_iload_n (i := 1) hC dX5_shortestRound_60 rfl rfl ?_)
                refine R_icmp_ge hC 67 dX5_shortestRound_61 (by decide) (fun h61 => ?_) (fun h61 => ?_)
                · exact keep (by rw [e, if_neg (fun z => z.elim h55 (fun y => absurd h61 (Int32.not_le.mpr y)))]) _
                · first
                  | (have z := h55; exact take _ (by rw [e, if_pos (Or.inl z)]))
                  | (have z := Int32.not_le.mp h61; exact take _ (by rw [e, if_pos (Or.inr z)]))
      refine R_iload_n (i := 2) hC dX5_shortestRound_4 rfl rfl (R_aload_n (i := 0) hC dX5_shortestRound_5 rfl rfl (R_gI hC dX5_shortestRound_6 fl_X5_30 L_shape rfl ?_))
      refine R_top (y := nI T.1) (f1) ?_
      refine R_icmp_ge hC 79 dX5_shortestRound_9 (by decide) (fun h => absurd h (nI_ge hn (by omega))) (fun _ => ?_)
      refine R_iconst (v := 0) hC dX5_shortestRound_12 (by decide) (R_istore_n (i := 3) hC dX5_shortestRound_13 rfl (by decide) rfl ?_)
      exact inner 0 (Nat.zero_le _) _
  refine R_iconst (v := (-1)) hC dX5_shortestRound_0 (by decide) (R_istore_n (i := 1) hC dX5_shortestRound_1 rfl (by decide) rfl (R_iconst (v := 0) hC dX5_shortestRound_2 (by decide) (R_istore_n (i := 2) hC dX5_shortestRound_3 rfl (by decide) rfl ?_)))
  exact outer 0 (Nat.zero_le _) _ _
theorem co_cycle {σ : sg} {x : aW} {α : aS} (h : CInv σ α) (ok : aOK α) : Mt mX10_cycle 4 0 0 [.ref i_U] (wd σ x) (CPost σ x (opCycle α) α) := by
  refine Mt.of MI_X10_cycle (Nat.le_of_ble_eq_true rfl) (fun X hC hR hT => ?_)
  by_cases h0 : (tT α).1 = 0
  · have e : opCycle α = -1 := by unfold opCycle; rw [if_pos h0]
    refine R_aload_n (i := 0) hC dX10_cycle_0 rfl rfl (R_gR hC dX10_cycle_1 fl_X10_19 L_U rfl ?_)
    refine R_V0i hC hR dX10_cycle_4 MV_X7_isNone ml_X10_152 L_table rfl (c_isNone TL_table h.2.1) (by first | decide | omega) ⟨by decide, by decide⟩ (Nat.le_of_ble_eq_true rfl) ?_
    refine R_top (y := 1) (b2i_t h0) ?_
    refine R_if_eq hC 12 dX10_cycle_7 (by decide) (fun h => absurd h (by decide)) (fun _ => ?_)
    refine R_iconst (v := (-1)) hC dX10_cycle_10 (by decide) ?_
    exact R_iret hC hT dX10_cycle_11 rfl (by rw [e]; exact CPost.i h (MEq.rf _))
  · have e : opCycle α = fo (fun r v => fo (cyH (tT α) r) 0 (tT α).2.1 v) 0 (tT α).1 (-1) := by unfold opCycle; rw [if_neg h0]
    refine R_aload_n (i := 0) hC dX10_cycle_0 rfl rfl (R_gR hC dX10_cycle_1 fl_X10_19 L_U rfl ?_)
    refine R_V0i hC hR dX10_cycle_4 MV_X7_isNone ml_X10_152 L_table rfl (c_isNone TL_table h.2.1) (by first | decide | omega) ⟨by decide, by decide⟩ (Nat.le_of_ble_eq_true rfl) ?_
    refine R_top (y := 0) (b2i_f h0) ?_
    refine R_if_eq hC 12 dX10_cycle_7 (by decide) (fun _ => ?_) (fun h => absurd rfl h)
    refine R_aload_n (i := 0) hC dX10_cycle_12 rfl rfl (R_gR hC dX10_cycle_13 fl_X10_80 L_U rfl (R_aload_n (i := 0) hC dX10_cycle_16 rfl rfl (R_gR hC dX10_cycle_17 fl_X10_19 L_U rfl ?_)))
    refine R_V1g hC hR dX10_cycle_20 MV_X5_takeFrom ml_X10_248 L_shape rfl (c_takeFrom h.2.1) (by first | decide | omega) ⟨by decide, by decide⟩ (Nat.le_of_ble_eq_true rfl) (fun r w1 hq => ?_)
    obtain ⟨rfl, τ, rfl, c, hs⟩ := hq
    refine R_aload_n (i := 0) hC dX10_cycle_23 rfl rfl (R_gR hC dX10_cycle_24 fl_X10_80 L_U rfl ?_)
    refine R_V0i hC hR dX10_cycle_27 MV_X5_shortestRound ml_X10_282 L_shape rfl (c_round hs) (by first | decide | omega) ⟨by decide, by decide⟩ (Nat.le_of_ble_eq_true rfl) ?_
    exact R_iret hC hT dX10_cycle_30 rfl (by rw [e]; exact CPost.i (CInv.ae ok h c (by intro i q; unfold scq; simp at q; omega)) (c.meq (by decide)))
