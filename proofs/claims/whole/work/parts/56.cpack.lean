/-! ===== the class's pack, cycle ===== -/
theorem SH.ae {σ τ : sg} {T : tb} (h : SH σ T) {L : List Nat} (e : AE L σ τ) (d : ∀ i, i ∈ L → i ≠ 132 ∧ i ≠ 133 ∧ i ≠ 131) : SH τ T := by
  unfold SH; rw [(e 131 (fun q => (d _ q).2.2 rfl)).1, (e 132 (fun q => (d _ q).1 rfl)).2.2, (e 133 (fun q => (d _ q).2.1 rfl)).2.2]; exact h
theorem pc_two : ∀ s, s < 64 → (pc6 s ≤ 1 ↔ ∀ i, i < 6 → ∀ j, j < 6 → i < j → ¬ (s.testBit i = true ∧ s.testBit j = true)) := by decide +kernel
theorem c_areApart {σ : sg} {x : aW} {T : tb} (h : SH σ T) (S : Nat) (hS : S < 2 ^ T.2.1) : Mt mX5_areApart 1 0 0 [.ref i_shape, .int (nI S)] (wd σ x) (QI (b2i (apart T S)) (wd σ x)) := by
  refine Mt.of MI_X5_areApart (Nat.le_of_ble_eq_true rfl) (fun X hC hR hT => ?_)
  obtain ⟨f1, f2, k3, k4, ha, hd⟩ := h
  have p2 := pw6 k4
  have key : ∀ r, r < T.1 → (pc6 (acr T r &&& S) ≤ 1 ↔ ∀ c c', c < c' → c' < T.2.1 → S.testBit c = true → S.testBit c' = true → ¬ T.2.2 r c = 0 → T.2.2 r c' = 0) := fun r hr => by
    rw [pc_two _ (and64 _ (acr64 T k4 r) S (by omega))]
    have bt : ∀ i, (acr T r &&& S).testBit i = true ↔ (i < T.2.1 ∧ ¬ T.2.2 r i = 0) ∧ S.testBit i = true := fun i => by
      rw [Nat.testBit_and, Bool.and_eq_true]; unfold acr; rw [mkm_bit]
    constructor
    · intro z c c' h1 h2 h3 h4 h5
      refine Classical.byContradiction fun h6 => z c (by omega) c' (by omega) h1 ⟨(bt c).mpr ⟨⟨by omega, h5⟩, h3⟩, (bt c').mpr ⟨⟨h2, h6⟩, h4⟩⟩
    · rintro z i hi j hj hij ⟨q1, q2⟩
      have q1 := (bt i).mp q1
      have q2 := (bt j).mp q2
      exact q2.1.2 (z i j hij q2.1.1 q1.2 q2.2 q1.1.2)
  have loop : ∀ n, n ≤ T.1 → (∀ r, r < n → pc6 (acr T r &&& S) ≤ 1) → Rw mX5_areApart X 2 [some (.ref i_shape), some (.int (nI S)), some (.int (nI n))] [] (wd σ x) 0 0 := by
    refine up_loop T.1 ?_ ?_
    · intro hg
      refine R_iload_n (i := 2) hC dX5_areApart_2 rfl rfl (R_aload_n (i := 0) hC dX5_areApart_3 rfl rfl (R_gI hC dX5_areApart_4 fl_X5_30 L_shape rfl ?_))
      refine R_top (y := nI T.1) (f1) ?_
      refine R_icmp_ge hC 33 dX5_areApart_7 (by decide) (fun _ => ?_) (fun h => absurd (Int32.le_refl _) h)
      refine R_iconst (v := 1) hC dX5_areApart_33 (by decide) ?_
      exact R_zret hC hT dX5_areApart_34 rfl (by decide) ⟨by rw [b2i_t (show apart T S from fun r c c' hr h1 h2 h3 h4 h5 => (key r hr).mp (hg r hr) c c' h1 h2 h3 h4 h5)], rfl⟩
    · intro n hn ih hg
      have l := and64 _ (acr64 T k4 n) S (by omega)
      have em := nI_leI (a := pc6 (acr T n &&& S)) (b := 1) (by have := pc6_le _ l; omega) (by decide)
      refine R_iload_n (i := 2) hC dX5_areApart_2 rfl rfl (R_aload_n (i := 0) hC dX5_areApart_3 rfl rfl (R_gI hC dX5_areApart_4 fl_X5_30 L_shape rfl ?_))
      refine R_top (y := nI T.1) (f1) ?_
      refine R_icmp_ge hC 33 dX5_areApart_7 (by decide) (fun h => absurd h (nI_ge hn (by omega))) (fun _ => ?_)
      refine R_aload_n (i := 0) hC dX5_areApart_10 rfl rfl (R_gR hC dX5_areApart_11 fl_X5_9 L_shape rfl (R_iload_n (i := 2) hC dX5_areApart_14 rfl rfl (R_aI hC dX5_areApart_15 L_across n rfl (by omega) (by decide) ?_)))
      refine R_top (y := nI (acr T n)) (ha n hn) ?_
      refine R_iload_n (i := 1) hC dX5_areApart_16 rfl rfl (R_iand hC dX5_areApart_17 ?_)
      refine R_top (y := nI (acr T n &&& S)) (nI_and _ (acr64 T k4 n) _ (by omega)) ?_
      refine R_S1i hC hR dX5_areApart_18 MS_J6_bitCount_0f7a4 ml_X5_60 (c_bit _ l _) (by first | decide | omega) ⟨by decide, by decide⟩ (Nat.le_of_ble_eq_true rfl) ?_
      refine R_iconst (v := 1) hC dX5_areApart_21 (by decide) ?_
      refine R_icmp_le hC 27 dX5_areApart_22 (by decide) (fun h22 => ?_) (fun h22 => ?_)
      · refine R_iinc hC dX5_areApart_27 rfl (inc1 _) (by decide) rfl (R_goto hC 2 dX5_areApart_30 (by decide) ?_)
        exact ih (fun r hr => by rcases (by omega : r < n ∨ r = n) with z | rfl; exact hg r z; exact em.mp h22)
      · refine R_iconst (v := 0) hC dX5_areApart_25 (by decide) ?_
        exact R_zret hC hT dX5_areApart_26 rfl (by decide) ⟨by rw [b2i_f (fun z : apart T S => h22 (em.mpr ((key n hn).mpr (fun c c' h1 h2 h3 h4 h5 => z n c c' hn h1 h2 h3 h4 h5))))], rfl⟩
  refine R_iconst (v := 0) hC dX5_areApart_0 (by decide) (R_istore_n (i := 2) hC dX5_areApart_1 rfl (by decide) rfl ?_)
  exact loop 0 (Nat.zero_le _) (fun r hr => absurd hr (Nat.not_lt_zero _))
theorem c_mostApart {σ : sg} {x : aW} {T : tb} (h : SH σ T) : Mt mX5_mostApart 2 0 0 [.ref i_shape] (wd σ x) (QI (bstV (apart T) (fun s => 6 - pc6 s) (2 ^ T.2.1)) (wd σ x)) := by
  refine Mt.of MI_X5_mostApart (Nat.le_of_ble_eq_true rfl) (fun X hC hR hT => ?_)
  obtain ⟨f1, f2, k3, k4, ha, hd⟩ := id h
  have p2 := pw6 k4
  have a0 : apart T 0 := fun r c c' hr h1 h2 h3 => by simp at h3
  have b0 : bst (apart T) (fun s => 6 - pc6 s) 1 0 := ⟨by decide, a0, fun s' h1 h2 => by
    have q : s' = 0 := by omega
    subst q
    exact Or.inr ⟨rfl, Nat.le_refl _⟩⟩
  have loop : ∀ n, n ≤ 2 ^ T.2.1 → 1 ≤ n → ∀ s, bst (apart T) (fun s => 6 - pc6 s) n s → Rw mX5_mostApart X 4 [some (.ref i_shape), some (.int (nI s)), some (.int (nI n))] [] (wd σ x) 0 0 := by
    refine up_loop (2 ^ T.2.1) ?_ ?_
    · intro _ s hs
      refine R_iload_n (i := 2) hC dX5_mostApart_4 rfl rfl (R_iconst (v := 1) hC dX5_mostApart_5 (by decide) (R_aload_n (i := 0) hC dX5_mostApart_6 rfl rfl (R_gI hC dX5_mostApart_7 fl_X5_34 L_shape rfl ?_)))
      refine R_top (y := nI T.2.1) (f2) ?_
      refine R_ishl hC dX5_mostApart_10 ?_
      refine R_top (y := nI (2 ^ T.2.1)) (shl1 _ k4) ?_
      refine R_icmp_ge hC 41 dX5_mostApart_11 (by decide) (fun _ => ?_) (fun h => absurd (Int32.le_refl _) h)
      refine R_iload_n (i := 1) hC dX5_mostApart_41 rfl rfl ?_
      exact R_iret hC hT dX5_mostApart_42 rfl ⟨by rw [bstV_y hs], rfl⟩
    · intro n hn ih n1 s hs
      have sl := hs.1
      have l1 := pc6_le n (by omega)
      have l2 := pc6_le s (by omega)
      have em := nI_leI (a := pc6 n) (b := pc6 s) (by omega) (by omega)
      have st : (pc6 n ≤ pc6 s ∨ ¬ apart T n) → Rw mX5_mostApart X 35 [some (.ref i_shape), some (.int (nI s)), some (.int (nI n))] [] (wd σ x) 0 0 := by
        intro z
        have hb : bst (apart T) (fun s => 6 - pc6 s) (n + 1) s := by
          refine ⟨by omega, hs.2.1, fun s' h1 h2 => ?_⟩
          rcases (by omega : s' < n ∨ s' = n) with y | rfl
          · exact hs.2.2 s' y h2
          · rcases z with z | z
            · show 6 - pc6 s < 6 - pc6 s' ∨ (6 - pc6 s = 6 - pc6 s' ∧ s ≤ s'); omega
            · exact absurd h2 z
        refine R_iinc hC dX5_mostApart_35 rfl (inc1 _) (by decide) rfl (R_goto hC 4 dX5_mostApart_38 (by decide) ?_)
        exact ih (by omega) s hb
      refine R_iload_n (i := 2) hC dX5_mostApart_4 rfl rfl (R_iconst (v := 1) hC dX5_mostApart_5 (by decide) (R_aload_n (i := 0) hC dX5_mostApart_6 rfl rfl (R_gI hC dX5_mostApart_7 fl_X5_34 L_shape rfl ?_)))
      refine R_top (y := nI T.2.1) (f2) ?_
      refine R_ishl hC dX5_mostApart_10 ?_
      refine R_top (y := nI (2 ^ T.2.1)) (shl1 _ k4) ?_
      refine R_icmp_ge hC 41 dX5_mostApart_11 (by decide) (fun h => absurd h (nI_ge hn (by omega))) (fun _ => ?_)
      refine R_iload_n (i := 2) hC dX5_mostApart_14 rfl rfl ?_
      refine R_S1i hC hR dX5_mostApart_15 MS_J6_bitCount_0f7a4 ml_X5_60 (c_bit n (by omega) _) (by first | decide | omega) ⟨by decide, by decide⟩ (Nat.le_of_ble_eq_true rfl) ?_
      refine R_iload_n (i := 1) hC dX5_mostApart_18 rfl rfl ?_
      refine R_S1i hC hR dX5_mostApart_19 MS_J6_bitCount_0f7a4 ml_X5_60 (c_bit s (by omega) _) (by first | decide | omega) ⟨by decide, by decide⟩ (Nat.le_of_ble_eq_true rfl) ?_
      refine R_icmp_le hC 35 dX5_mostApart_22 (by decide) (fun h22 => ?_) (fun h22 => ?_)
      · first | (have z := em.mp h22; exact st (Or.inl z)) | (have z := b2i_0 h30; exact st (Or.inr z))
      · refine R_aload_n (i := 0) hC dX5_mostApart_25 rfl rfl (R_iload_n (i := 2) hC dX5_mostApart_26 rfl rfl ?_)
        refine R_V1i hC hR dX5_mostApart_27 MV_X5_areApart ml_X5_65 L_shape rfl (c_areApart h n hn) (by first | decide | omega) ⟨by decide, by decide⟩ (Nat.le_of_ble_eq_true rfl) ?_
        refine R_if_eq hC 35 dX5_mostApart_30 (by decide) (fun h30 => ?_) (fun h30 => ?_)
        · first | (have z := em.mp h22; exact st (Or.inl z)) | (have z := b2i_0 h30; exact st (Or.inr z))
        · (refine R_iload_n (i := 2) hC dX5_mostApart_33 rfl rfl (R_istore_n (i := 1) hC dX5_mostApart_34 rfl (by decide) rfl (R_iinc hC dX5_mostApart_35 rfl (inc1 _) (by decide) rfl (R_goto hC 4 dX5_mostApart_38 (by decide) ?_))); exact ih (by omega) n ⟨by omega, b2i_ne h30, fun s' h1 h2 => by
            have lt := mt em.mpr h22
            rcases (by omega : s' < n ∨ s' = n) with y | rfl
            · have := hs.2.2 s' y h2
              have this : 6 - pc6 s < 6 - pc6 s' ∨ (6 - pc6 s = 6 - pc6 s' ∧ s ≤ s') := this
              show 6 - pc6 n < 6 - pc6 s' ∨ (6 - pc6 n = 6 - pc6 s' ∧ n ≤ s'); omega
            · exact Or.inr ⟨rfl, Nat.le_refl _⟩⟩)
  refine R_iconst (v := 0) hC dX5_mostApart_0 (by decide) (R_istore_n (i := 1) hC dX5_mostApart_1 rfl (by decide) rfl (R_iconst (v := 1) hC dX5_mostApart_2 (by decide) (R_istore_n (i := 2) hC dX5_mostApart_3 rfl (by decide) rfl ?_)))
  exact loop 1 (Nat.one_le_two_pow) (Nat.le_refl _) 0 b0
theorem cover_iff {T : tb} (h7 : T.2.1 ≤ 6) (h6 : T.1 ≤ 6) (S : Nat) : cover T S ↔ cmet T S = cmet T (2 ^ T.1 - 1) := by
  have al : ∀ r, r < T.1 → (2 ^ T.1 - 1).testBit r = true := fun r hr => all_bit T.1 (by omega) r (by omega) hr
  constructor
  · intro z
    refine eq_bits (cmet64 T h7 S) (cmet64 T h7 _) (fun c hc => ?_)
    unfold cmet
    rw [mkm_bit, mkm_bit]
    constructor
    · rintro ⟨a, r, b1, b2, b3⟩; exact ⟨a, r, b1, al r b1, b3⟩
    · rintro ⟨a, r, b1, b2, b3⟩; exact ⟨a, z c a ⟨r, b1, b3⟩⟩
  · intro z c hc ⟨r, b1, b3⟩
    have : (cmet T (2 ^ T.1 - 1)).testBit c = true := by unfold cmet; rw [mkm_bit]; exact ⟨hc, r, b1, al r b1, b3⟩
    rw [← z] at this
    unfold cmet at this
    rw [mkm_bit] at this
    exact this.2
theorem pc_all : ∀ n, n ≤ 6 → ∀ s, s < 2 ^ n - 1 → pc6 s < pc6 (2 ^ n - 1) := by decide +kernel
theorem c_fewest {σ : sg} {x : aW} {T : tb} (h : SH σ T) : Mt mX5_fewestMeeting 2 0 0 [.ref i_shape] (wd σ x) (QI (bstV (cover T) pc6 (2 ^ T.1)) (wd σ x)) := by
  refine Mt.of MI_X5_fewestMeeting (Nat.le_of_ble_eq_true rfl) (fun X hC hR hT => ?_)
  obtain ⟨f1, f2, k3, k4, ha, hd⟩ := id h
  have p1 := pw6 k3
  have one1 : 1 ≤ 2 ^ T.1 := Nat.one_le_two_pow
  obtain ⟨al, al2⟩ := all_lt T.1 (by omega)
  have cv := fun S => cover_iff (T := T) k4 k3 S
  have ca : cover T (2 ^ T.1 - 1) := (cv _).mpr rfl
  have loop : ∀ n, n ≤ 2 ^ T.1 - 1 → ∀ b, ((b = 2 ^ T.1 - 1 ∧ ∀ s, s < n → ¬ cover T s) ∨ bst (cover T) pc6 n b) → Rw mX5_fewestMeeting X 13 [some (.ref i_shape), some (.int (nI (2 ^ T.1 - 1))), some (.int (nI b)), some (.int (nI n))] [] (wd σ x) 0 0 := by
    refine up_loop (2 ^ T.1 - 1) ?_ ?_
    · intro b hb
      have fin : bst (cover T) pc6 (2 ^ T.1) b := by
        rcases hb with ⟨rfl, z⟩ | z
        · refine ⟨by omega, ca, fun s' h1 h2 => ?_⟩
          rcases (by omega : s' < 2 ^ T.1 - 1 ∨ s' = 2 ^ T.1 - 1) with y | rfl
          · exact absurd h2 (z s' y)
          · exact Or.inr ⟨rfl, Nat.le_refl _⟩
        · refine ⟨by have := z.1; omega, z.2.1, fun s' h1 h2 => ?_⟩
          rcases (by omega : s' < 2 ^ T.1 - 1 ∨ s' = 2 ^ T.1 - 1) with y | rfl
          · exact z.2.2 s' y h2
          · exact Or.inl (pc_all T.1 k3 b z.1)
      refine R_iload_n (i := 3) hC dX5_fewestMeeting_13 rfl rfl (R_iload_n (i := 1) hC dX5_fewestMeeting_14 rfl rfl ?_)
      refine R_icmp_ge hC 50 dX5_fewestMeeting_15 (by decide) (fun _ => ?_) (fun h => absurd (Int32.le_refl _) h)
      refine R_iload_n (i := 2) hC dX5_fewestMeeting_50 rfl rfl ?_
      exact R_iret hC hT dX5_fewestMeeting_51 rfl ⟨by rw [bstV_y fin], rfl⟩
    · intro n hn ih b hb
      have bl : b < 64 := by rcases hb with ⟨rfl, _⟩ | z; exact al; have := z.1; omega
      have l1 := pc6_le n (by omega)
      have l2 := pc6_le b bl
      have em := nI_leI (a := pc6 b) (b := pc6 n) (by omega) (by omega)
      have eq1 := nI_eq (a := cmet T n) (b := cmet T (2 ^ T.1 - 1)) (by have := cmet64 T k4 n; omega) (by have := cmet64 T k4 (2 ^ T.1 - 1); omega)
      have st : (¬ cover T n ∨ pc6 b ≤ pc6 n) → Rw mX5_fewestMeeting X 44 [some (.ref i_shape), some (.int (nI (2 ^ T.1 - 1))), some (.int (nI b)), some (.int (nI n))] [] (wd σ x) 0 0 := by
        intro z
        have hb2 : ((b = 2 ^ T.1 - 1 ∧ ∀ s, s < n + 1 → ¬ cover T s) ∨ bst (cover T) pc6 (n + 1) b) := by
          rcases hb with ⟨y1, y2⟩ | y
          · rcases z with z | z
            · exact Or.inl ⟨y1, fun s hs => by rcases (by omega : s < n ∨ s = n) with q | rfl; exact y2 s q; exact z⟩
            · have := pc_all T.1 k3 n hn; rw [y1] at z; omega
          · refine Or.inr ⟨by have := y.1; omega, y.2.1, fun s' h1 h2 => ?_⟩
            rcases (by omega : s' < n ∨ s' = n) with q | rfl
            · exact y.2.2 s' q h2
            · rcases z with z | z
              · exact absurd h2 z
              · have := y.1; omega
        refine R_iinc hC dX5_fewestMeeting_44 rfl (inc1 _) (by decide) rfl (R_goto hC 13 dX5_fewestMeeting_47 (by decide) ?_)
        exact ih b hb2
      refine R_iload_n (i := 3) hC dX5_fewestMeeting_13 rfl rfl (R_iload_n (i := 1) hC dX5_fewestMeeting_14 rfl rfl ?_)
      refine R_icmp_ge hC 50 dX5_fewestMeeting_15 (by decide) (fun h => absurd h (nI_ge hn (by omega))) (fun _ => ?_)
      refine R_aload_n (i := 0) hC dX5_fewestMeeting_18 rfl rfl (R_iload_n (i := 3) hC dX5_fewestMeeting_19 rfl rfl ?_)
      refine R_V1i hC hR dX5_fewestMeeting_20 MV_X5_columnsMetBy ml_X5_50 L_shape rfl (c_cmet h n (by omega)) (by first | decide | omega) ⟨by decide, by decide⟩ (Nat.le_of_ble_eq_true rfl) ?_
      refine R_aload_n (i := 0) hC dX5_fewestMeeting_23 rfl rfl (R_iload_n (i := 1) hC dX5_fewestMeeting_24 rfl rfl ?_)
      refine R_V1i hC hR dX5_fewestMeeting_25 MV_X5_columnsMetBy ml_X5_50 L_shape rfl (c_cmet h (2 ^ T.1 - 1) al) (by first | decide | omega) ⟨by decide, by decide⟩ (Nat.le_of_ble_eq_true rfl) ?_
      refine R_icmp_ne hC 44 dX5_fewestMeeting_28 (by decide) (fun h28 => ?_) (fun h28 => ?_)
      · first | (have z := mt eq1.mpr h28; exact st (Or.inl (fun y => z ((cv n).mp y)))) | (have z := em.mp h39; exact st (Or.inr z))
      · refine R_iload_n (i := 3) hC dX5_fewestMeeting_31 rfl rfl ?_
        refine R_S1i hC hR dX5_fewestMeeting_32 MS_J6_bitCount_0f7a4 ml_X5_60 (c_bit n (by omega) _) (by first | decide | omega) ⟨by decide, by decide⟩ (Nat.le_of_ble_eq_true rfl) ?_
        refine R_iload_n (i := 2) hC dX5_fewestMeeting_35 rfl rfl ?_
        refine R_S1i hC hR dX5_fewestMeeting_36 MS_J6_bitCount_0f7a4 ml_X5_60 (c_bit b bl _) (by first | decide | omega) ⟨by decide, by decide⟩ (Nat.le_of_ble_eq_true rfl) ?_
        refine R_icmp_ge hC 44 dX5_fewestMeeting_39 (by decide) (fun h39 => ?_) (fun h39 => ?_)
        · first | (have z := mt eq1.mpr h28; exact st (Or.inl (fun y => z ((cv n).mp y)))) | (have z := em.mp h39; exact st (Or.inr z))
        · (refine R_iload_n (i := 3) hC dX5_fewestMeeting_42 rfl rfl (R_istore_n (i := 2) hC dX5_fewestMeeting_43 rfl (by decide) rfl (R_iinc hC dX5_fewestMeeting_44 rfl (inc1 _) (by decide) rfl (R_goto hC 13 dX5_fewestMeeting_47 (by decide) ?_))); exact ih n (Or.inr ⟨by omega, (cv n).mpr (eq1.mp h28), fun s' h1 h2 => by
            have lt := mt em.mpr h39
            rcases (by omega : s' < n ∨ s' = n) with q | rfl
            · rcases hb with ⟨_, y2⟩ | y
              · exact absurd h2 (y2 s' q)
              · have := y.2.2 s' q h2; omega
            · exact Or.inr ⟨rfl, Nat.le_refl _⟩⟩))
  refine R_iconst (v := 1) hC dX5_fewestMeeting_0 (by decide) (R_aload_n (i := 0) hC dX5_fewestMeeting_1 rfl rfl (R_gI hC dX5_fewestMeeting_2 fl_X5_30 L_shape rfl ?_))
  refine R_top (y := nI T.1) (f1) ?_
  refine R_ishl hC dX5_fewestMeeting_5 ?_
  refine R_top (y := nI (2 ^ T.1)) (shl1 _ k3) ?_
  refine R_iconst (v := 1) hC dX5_fewestMeeting_6 (by decide) (R_isub hC dX5_fewestMeeting_7 ?_)
  refine R_top (y := nI (2 ^ T.1 - 1)) (al2) ?_
  refine R_istore_n (i := 1) hC dX5_fewestMeeting_8 rfl (by decide) rfl (R_iload_n (i := 1) hC dX5_fewestMeeting_9 rfl rfl (R_istore_n (i := 2) hC dX5_fewestMeeting_10 rfl (by decide) rfl (R_iconst (v := 0) hC dX5_fewestMeeting_11 (by decide) (R_istore_n (i := 3) hC dX5_fewestMeeting_12 rfl (by decide) rfl ?_))))
  exact loop 0 (Nat.zero_le _) _ (Or.inl ⟨rfl, fun s hs => absurd hs (Nat.not_lt_zero _)⟩)
theorem co_pack {σ : sg} {x : aW} {α : aS} (h : CInv σ α) (ok : aOK α) (w : Int32) : Mt mX10_pack 3 0 0 [.ref i_U, .int w] (wd σ x) (CPost σ x (opPack α w) α) := by
  refine Mt.of MI_X10_pack (Nat.le_of_ble_eq_true rfl) (fun X hC hR hT => ?_)
  have e1 : (1 : Int32).toInt = 1 := by decide
  by_cases h0 : ¬ (tT α).1 = 0 ∧ (w = 0 ∨ w = 1)
  · have wr : 0 ≤ w.toInt ∧ w.toInt ≤ 1 := by rcases h0.2 with z | z <;> rw [z] <;> decide
    refine R_aload_n (i := 0) hC dX10_pack_0 rfl rfl (R_gR hC dX10_pack_1 fl_X10_19 L_U rfl ?_)
    refine R_V0i hC hR dX10_pack_4 MV_X7_isNone ml_X10_152 L_table rfl (c_isNone TL_table h.2.1) (by first | decide | omega) ⟨by decide, by decide⟩ (Nat.le_of_ble_eq_true rfl) ?_
    refine R_top (y := 0) (b2i_f h0.1) ?_
    refine R_if_ne hC 19 dX10_pack_7 (by decide) (fun h => absurd rfl h) (fun _ => ?_)
    refine R_iload_n (i := 1) hC dX10_pack_10 rfl rfl ?_
    refine R_if_lt hC 19 dX10_pack_11 (by decide) (fun h => absurd h (by simp only [i32_lt, Int32.toInt_zero]; omega)) (fun _ => ?_)
    refine R_iload_n (i := 1) hC dX10_pack_14 rfl rfl (R_iconst (v := 1) hC dX10_pack_15 (by decide) ?_)
    refine R_icmp_le hC 21 dX10_pack_16 (by decide) (fun _ => ?_) (fun h => absurd (by simp only [i32_ge, e1]; omega) h)
    refine R_aload_n (i := 0) hC dX10_pack_21 rfl rfl (R_gR hC dX10_pack_22 fl_X10_80 L_U rfl (R_aload_n (i := 0) hC dX10_pack_25 rfl rfl (R_gR hC dX10_pack_26 fl_X10_19 L_U rfl ?_)))
    refine R_V1g hC hR dX10_pack_29 MV_X5_takeFrom ml_X10_248 L_shape rfl (c_takeFrom h.2.1) (by first | decide | omega) ⟨by decide, by decide⟩ (Nat.le_of_ble_eq_true rfl) (fun r w1 hq => ?_)
    obtain ⟨rfl, τ, rfl, c, hs⟩ := hq
    have hτ : CInv τ α := CInv.ae ok h c (by intro i q; unfold scq; simp at q; omega)
    refine R_iload_n (i := 1) hC dX10_pack_32 rfl rfl ?_
    refine R_if_ne hC 46 dX10_pack_33 (by decide) (fun h33 => ?_) (fun h33 => ?_)
    · refine R_aload_n (i := 0) hC dX10_pack_46 rfl rfl (R_gR hC dX10_pack_47 fl_X10_80 L_U rfl ?_)
      refine R_V0i hC hR dX10_pack_50 MV_X5_fewestMeeting ml_X10_279 L_shape rfl (c_fewest hs) (by first | decide | omega) ⟨by decide, by decide⟩ (Nat.le_of_ble_eq_true rfl) ?_
      exact R_iret hC hT dX10_pack_53 rfl (by
      have eo : opPack α w = if w = 0 then bstV (apart (tT α)) (fun s => 6 - pc6 s) (2 ^ (tT α).2.1) else if w = 1 then bstV (cover (tT α)) pc6 (2 ^ (tT α).1) else -1 := by unfold opPack; rw [if_neg h0.1]
      rw [eo]
      first
      | (rw [if_pos h33]; exact CPost.i hτ (c.meq (by decide)))
      | (rw [if_neg h33, if_pos (h0.2.resolve_left h33)]; exact CPost.i hτ (c.meq (by decide))))
    · refine R_aload_n (i := 0) hC dX10_pack_36 rfl rfl (R_gR hC dX10_pack_37 fl_X10_80 L_U rfl ?_)
      refine R_V0i hC hR dX10_pack_40 MV_X5_mostApart ml_X10_276 L_shape rfl (c_mostApart hs) (by first | decide | omega) ⟨by decide, by decide⟩ (Nat.le_of_ble_eq_true rfl) ?_
      refine R_goto hC 53 dX10_pack_43 (by decide) ?_
      exact R_iret hC hT dX10_pack_53 rfl (by
      have eo : opPack α w = if w = 0 then bstV (apart (tT α)) (fun s => 6 - pc6 s) (2 ^ (tT α).2.1) else if w = 1 then bstV (cover (tT α)) pc6 (2 ^ (tT α).1) else -1 := by unfold opPack; rw [if_neg h0.1]
      rw [eo]
      first
      | (rw [if_pos h33]; exact CPost.i hτ (c.meq (by decide)))
      | (rw [if_neg h33, if_pos (h0.2.resolve_left h33)]; exact CPost.i hτ (c.meq (by decide))))
  · have e : opPack α w = -1 := by
      unfold opPack
      by_cases z : (tT α).1 = 0
      · rw [if_pos z]
      · rw [if_neg z, if_neg (fun y => h0 ⟨z, Or.inl y⟩), if_neg (fun y => h0 ⟨z, Or.inr y⟩)]
    refine R_aload_n (i := 0) hC dX10_pack_0 rfl rfl (R_gR hC dX10_pack_1 fl_X10_19 L_U rfl ?_)
    refine R_V0i hC hR dX10_pack_4 MV_X7_isNone ml_X10_152 L_table rfl (c_isNone TL_table h.2.1) (by first | decide | omega) ⟨by decide, by decide⟩ (Nat.le_of_ble_eq_true rfl) ?_
    refine R_if_ne hC 19 dX10_pack_7 (by decide) (fun h7 => ?_) (fun h7 => ?_)
    · refine R_iconst (v := (-1)) hC dX10_pack_19 (by decide) ?_
      exact R_iret hC hT dX10_pack_20 rfl (by rw [e]; exact CPost.i h (MEq.rf _))
    · refine R_iload_n (i := 1) hC dX10_pack_10 rfl rfl ?_
      refine R_if_lt hC 19 dX10_pack_11 (by decide) (fun h11 => ?_) (fun h11 => ?_)
      · refine R_iconst (v := (-1)) hC dX10_pack_19 (by decide) ?_
        exact R_iret hC hT dX10_pack_20 rfl (by rw [e]; exact CPost.i h (MEq.rf _))
      · refine R_iload_n (i := 1) hC dX10_pack_14 rfl rfl (R_iconst (v := 1) hC dX10_pack_15 (by decide) ?_)
        refine R_icmp_le hC 21 dX10_pack_16 (by decide) (fun h16 => ?_) (fun h16 => ?_)
        · exact absurd ⟨b2i_0 h7, by
            obtain ⟨n, rfl, hn, hn2⟩ := i32_nI (k := w) (by simp only [i32_lt, Int32.toInt_zero] at h11; omega)
            simp only [i32_ge, e1] at h16
            rcases (by omega : n = 0 ∨ n = 1) with rfl | rfl
            · exact Or.inl rfl
            · exact Or.inr rfl⟩ h0
        · refine R_iconst (v := (-1)) hC dX10_pack_19 (by decide) ?_
          exact R_iret hC hT dX10_pack_20 rfl (by rw [e]; exact CPost.i h (MEq.rf _))
