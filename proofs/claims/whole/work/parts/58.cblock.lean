/-! ===== the class's blocks ===== -/
theorem bm_bit (T : tb) (k w i : Nat) : ∀ n, (bmask T k w n).testBit i = true ↔ i < n ∧ there T (6 * w + i) ∧ rel T (6 * w + i) k
  | 0 => by simp [bmask]
  | n + 1 => by
    have ih := bm_bit T k w i n
    rw [bmask, Nat.testBit_or, Bool.or_eq_true, ih]
    by_cases q : there T (6 * w + n) ∧ rel T (6 * w + n) k
    · rw [if_pos q, Nat.testBit_two_pow]
      simp only [decide_eq_true_eq]
      constructor
      · rintro (⟨a, b⟩ | rfl)
        · exact ⟨by omega, b⟩
        · exact ⟨by omega, q⟩
      · rintro ⟨a, b⟩
        rcases (by omega : i < n ∨ n = i) with z | z
        · exact Or.inl ⟨z, b⟩
        · exact Or.inr z
    · rw [if_neg q]
      simp only [Nat.zero_testBit, Bool.false_eq_true, or_false]
      constructor
      · rintro ⟨a, b⟩; exact ⟨by omega, b⟩
      · rintro ⟨a, b⟩
        rcases (by omega : i < n ∨ n = i) with z | z
        · exact ⟨z, b⟩
        · subst z; exact absurd b q
theorem bm64 (T : tb) (k w : Nat) : bmask T k w 6 < 64 := bmask_lt T k w 6
noncomputable def jnd (T : tb) (r n : Nat) : Nat := mkm (fun q => rch T r n q) T.1
theorem jnd_step {T : tb} {r : Nat} (h6 : T.1 ≤ 6) (h7 : T.2.1 ≤ 6) (hr : r < T.1) (n : Nat) : jnd T r n ||| rmet T (cmet T (jnd T r n)) = jnd T r (n + 2) := by
  have l1 : jnd T r n < 64 := mkm64 _ h6
  refine eq_bits (or64 _ l1 _ (rmet64 T h6 _)) (mkm64 _ h6) (fun q hq => ?_)
  rw [Nat.testBit_or, Bool.or_eq_true]
  unfold jnd rmet
  rw [mkm_bit, mkm_bit, mkm_bit]
  have cb : ∀ c, (cmet T (mkm (fun q => rch T r n q) T.1)).testBit c = true ↔ c < T.2.1 ∧ ∃ a, a < T.1 ∧ rch T r n a ∧ ¬ T.2.2 a c = 0 := fun c => by
    unfold cmet
    rw [mkm_bit]
    constructor
    · rintro ⟨y1, a, y2, y3, y4⟩; rw [mkm_bit] at y3; exact ⟨y1, a, y2, y3.2, y4⟩
    · rintro ⟨y1, a, y2, y3, y4⟩; exact ⟨y1, a, y2, by rw [mkm_bit]; exact ⟨y2, y3⟩, y4⟩
  constructor
  · rintro (⟨y1, y2⟩ | ⟨y1, c, y2, y3, y4⟩)
    · exact ⟨y1, rch_mono y2 _ (by omega)⟩
    · obtain ⟨_, a, z1, z2, z3⟩ := (cb c).mp y3
      exact ⟨y1, Or.inr ⟨6 + c, by omega, Or.inr ⟨a, by omega, z2, Or.inl ⟨by omega, by omega, by rw [Nat.add_sub_cancel_left]; exact ⟨z1, y2, z3⟩⟩⟩, Or.inr ⟨by omega, by omega, by rw [Nat.add_sub_cancel_left]; exact ⟨y1, y2, y4⟩⟩⟩⟩
  · rintro ⟨y1, y2⟩
    by_cases e : q = r
    · subst e; exact Or.inl ⟨y1, rch_mono (n := 0) rfl _ (Nat.zero_le _)⟩
    · obtain ⟨b, b12, w1, w2⟩ := rch_last e (n + 1) y2
      rcases w2 with ⟨_, w3, _⟩ | ⟨w3, _, w4, w5, w6⟩
      · omega
      · obtain ⟨a, a12, v1, v2⟩ := rch_last (show ¬ b = r by omega) n w1
        rcases v2 with ⟨v3, _, v4, v5, v6⟩ | ⟨_, v3, _⟩
        · exact Or.inr ⟨y1, b - 6, w5, (cb _).mpr ⟨w5, a, v4, v1, v6⟩, w6⟩
        · omega
theorem jnd_end {T : tb} {r : Nat} (h6 : T.1 ≤ 6) (h7 : T.2.1 ≤ 6) (hr : r < T.1) : jnd T r 12 = bmask T r 0 6 := by
  refine eq_bits (mkm64 _ h6) (bm64 T r 0) (fun q hq => ?_)
  unfold jnd
  rw [mkm_bit, bm_bit, Nat.mul_zero, Nat.zero_add]
  have th : there T q ↔ q < T.1 := by unfold there; rw [if_pos hq]
  rw [th]
  constructor
  · rintro ⟨a, b⟩; exact ⟨hq, a, rel.sy (by omega) (by omega) ⟨12, b⟩⟩
  · rintro ⟨_, a, b⟩; exact ⟨a, rch_12 h6 h7 (by omega) (rel.sy (by omega) (by omega) b).choose_spec⟩
theorem cmet_bm {T : tb} {r : Nat} (h6 : T.1 ≤ 6) (h7 : T.2.1 ≤ 6) (hr : r < T.1) : cmet T (bmask T r 0 6) = bmask T r 1 6 := by
  refine eq_bits (cmet64 T h7 _) (bm64 T r 1) (fun c hc => ?_)
  unfold cmet
  rw [mkm_bit, bm_bit]
  have th : there T (6 * 1 + c) ↔ c < T.2.1 := by unfold there; rw [if_neg (by omega), show 6 * 1 + c - 6 = c by omega]
  rw [th]
  constructor
  · rintro ⟨a, q, y1, y2, y3⟩
    rw [bm_bit, Nat.mul_zero, Nat.zero_add] at y2
    exact ⟨hc, a, (rel.e (by omega) (Or.inr ⟨by omega, by omega, by rw [show 6 * 1 + c - 6 = c by omega]; exact ⟨y1, a, y3⟩⟩)).tr y2.2.2⟩
  · rintro ⟨_, a, n, b⟩
    refine ⟨a, ?_⟩
    -- the last entry ahead of the column
    have b2 := rch_sy (by omega) n r (by omega) b
    cases n with
    | zero => have : 6 * 1 + c = r := b2; omega
    | succ n =>
      obtain ⟨q, q12, v1, v2⟩ := rch_last (show ¬ 6 * 1 + c = r by omega) n b2
      rcases v2 with ⟨v3, _, v4, v5, v6⟩ | ⟨_, v3, _⟩
      · refine ⟨q, v4, ?_, by rw [show c = 6 * 1 + c - 6 by omega]; exact v6⟩
        rw [bm_bit, Nat.mul_zero, Nat.zero_add]
        exact ⟨v3, by unfold there; rw [if_pos v3]; exact v4, rel.sy (by omega) q12 ⟨n, v1⟩⟩
      · omega
theorem c_joinedTo {σ : sg} {x : aW} {T : tb} (h : SH σ T) {r : Nat} (hr : r < T.1) : Mt mX5_allJoinedTo 2 0 0 [.ref i_shape, .int (nI r)] (wd σ x) (QI (nI (bmask T r 0 6)) (wd σ x)) := by
  refine Mt.of MI_X5_allJoinedTo (Nat.le_of_ble_eq_true rfl) (fun X hC hR hT => ?_)
  obtain ⟨f1, f2, k3, k4, ha, hd⟩ := id h
  have loop : ∀ i, i ≤ 6 → Rw mX5_allJoinedTo X 6 [some (.ref i_shape), some (.int (nI r)), some (.int (nI (jnd T r (2 * i)))), some (.int (nI i))] [] (wd σ x) 0 0 := by
    refine up_loop 6 ?_ ?_
    · refine R_iload_n (i := 3) hC dX5_allJoinedTo_6 rfl rfl (R_bipush (v := 6) hC dX5_allJoinedTo_7 (by decide) ?_)
      refine R_icmp_ge hC 30 dX5_allJoinedTo_9 (by decide) (fun _ => ?_) (fun h => absurd (by decide) h)
      refine R_iload_n (i := 2) hC dX5_allJoinedTo_30 rfl rfl ?_
      exact R_iret hC hT dX5_allJoinedTo_31 rfl ⟨by rw [← jnd_end k3 k4 hr], rfl⟩
    · intro i hi ih
      have l1 : jnd T r (2 * i) < 64 := mkm64 _ k3
      refine R_iload_n (i := 3) hC dX5_allJoinedTo_6 rfl rfl (R_bipush (v := 6) hC dX5_allJoinedTo_7 (by decide) ?_)
      refine R_icmp_ge hC 30 dX5_allJoinedTo_9 (by decide) (fun h => absurd h (nI_ge (b := 6) hi (by decide))) (fun _ => ?_)
      refine R_iload_n (i := 2) hC dX5_allJoinedTo_12 rfl rfl (R_aload_n (i := 0) hC dX5_allJoinedTo_13 rfl rfl (R_aload_n (i := 0) hC dX5_allJoinedTo_14 rfl rfl (R_iload_n (i := 2) hC dX5_allJoinedTo_15 rfl rfl ?_)))
      refine R_V1i hC hR dX5_allJoinedTo_16 MV_X5_columnsMetBy ml_X5_50 L_shape rfl (c_cmet h _ l1) (by first | decide | omega) ⟨by decide, by decide⟩ (Nat.le_of_ble_eq_true rfl) ?_
      refine R_V1i hC hR dX5_allJoinedTo_19 MV_X5_rowsMetBy ml_X5_57 L_shape rfl (c_rmet h _ (cmet64 T k4 _)) (by first | decide | omega) ⟨by decide, by decide⟩ (Nat.le_of_ble_eq_true rfl) ?_
      refine R_ior hC dX5_allJoinedTo_22 ?_
      refine R_top (y := nI (jnd T r (2 * (i + 1)))) (by rw [nI_or _ l1 _ (rmet64 T k3 _), jnd_step k3 k4 hr, show 2 * (i + 1) = 2 * i + 2 by omega]) ?_
      refine R_istore_n (i := 2) hC dX5_allJoinedTo_23 rfl (by decide) rfl (R_iinc hC dX5_allJoinedTo_24 rfl (inc1 _) (by decide) rfl (R_goto hC 6 dX5_allJoinedTo_27 (by decide) ?_))
      exact ih
  have j0 : jnd T r (2 * 0) = 2 ^ r := by
    refine eq_bits (mkm64 _ k3) (Nat.pow_lt_pow_right (by decide) (show r < 6 by omega)) (fun q hq => ?_)
    unfold jnd
    rw [mkm_bit, Nat.testBit_two_pow]
    simp only [decide_eq_true_eq]
    constructor
    · rintro ⟨_, b⟩; have b : q = r := b; exact b.symm
    · rintro rfl; exact ⟨hr, rfl⟩
  have l0 := loop 0 (by decide)
  rw [j0] at l0
  refine R_iconst (v := 1) hC dX5_allJoinedTo_0 (by decide) (R_iload_n (i := 1) hC dX5_allJoinedTo_1 rfl rfl (R_ishl hC dX5_allJoinedTo_2 ?_))
  refine R_top (y := nI (2 ^ r)) (shl1 r (by omega)) ?_
  refine R_istore_n (i := 2) hC dX5_allJoinedTo_3 rfl (by decide) rfl (R_iconst (v := 0) hC dX5_allJoinedTo_4 (by decide) (R_istore_n (i := 3) hC dX5_allJoinedTo_5 rfl (by decide) rfl ?_))
  exact l0
theorem c_addPart (σ : sg) (x : aW) (m A B : Nat) (hm : m < 12) (h : σ.1 i_shape 4 = nI m) : Mt mX5_addPart 0 0 0 [.ref i_shape, .int (nI A), .int (nI B)] (wd σ x) (QV (wd (sG (sA (sA σ i_partRows (upd (σ.2.2 i_partRows) m (nI A))) i_partColumns (upd (σ.2.2 i_partColumns) m (nI B))) i_shape 4 (nI (m + 1))) x)) := by
  refine Mt.of MI_X5_addPart (Nat.le_of_ble_eq_true rfl) (fun X hC hR hT => ?_)
  refine R_aload_n (i := 0) hC dX5_addPart_0 rfl rfl (R_gI hC dX5_addPart_1 fl_X5_43 L_shape rfl ?_)
  refine R_top (y := nI m) (h) ?_
  refine R_bipush (v := 12) hC dX5_addPart_4 (by decide) ?_
  refine R_icmp_ge hC 39 dX5_addPart_6 (by decide) (fun h => absurd h (nI_ge (b := 12) hm (by decide))) (fun _ => ?_)
  refine R_aload_n (i := 0) hC dX5_addPart_9 rfl rfl (R_gR hC dX5_addPart_10 fl_X5_18 L_shape rfl (R_aload_n (i := 0) hC dX5_addPart_13 rfl rfl (R_gI hC dX5_addPart_14 fl_X5_43 L_shape rfl ?_)))
  refine R_top (y := nI m) (h) ?_
  refine R_iload_n (i := 1) hC dX5_addPart_17 rfl rfl (R_sI hC dX5_addPart_18 L_partRows m rfl hm (by decide) (R_aload_n (i := 0) hC dX5_addPart_19 rfl rfl (R_gR hC dX5_addPart_20 fl_X5_21 L_shape rfl (R_aload_n (i := 0) hC dX5_addPart_23 rfl rfl (R_gI hC dX5_addPart_24 fl_X5_43 L_shape rfl ?_)))))
  refine R_top (y := nI m) (h) ?_
  refine R_iload_n (i := 2) hC dX5_addPart_27 rfl rfl (R_sI hC dX5_addPart_28 L_partColumns m rfl hm (by decide) ?_)
  refine R_wd (τ := sA (sA σ i_partRows (upd (σ.2.2 i_partRows) m (nI A))) i_partColumns (upd (σ.2.2 i_partColumns) m (nI B))) (by rw [sA_ne (show i_partColumns ≠ i_partRows by decide)]) ?_
  refine R_aload_n (i := 0) hC dX5_addPart_29 rfl rfl (R_dup hC dX5_addPart_30 rfl (R_gI hC dX5_addPart_31 fl_X5_43 L_shape rfl ?_))
  refine R_top (y := nI m) (h) ?_
  refine R_iconst (v := 1) hC dX5_addPart_34 (by decide) (R_iadd hC dX5_addPart_35 ?_)
  refine R_top (y := nI (m + 1)) (nI_1 m) ?_
  refine R_pI hC dX5_addPart_36 fl_X5_43 L_shape rfl ?_
  exact R_vret hC hT dX5_addPart_39 rfl ⟨rfl, rfl⟩
/-- the parts that lead ahead of place n -/
def PT (σ : sg) (T : tb) (n : Nat) : Prop := σ.1 i_shape 4 = nI (cnO (ldr T) n) ∧ ∀ k, k < n → ldr T k → σ.2.2 i_partRows (cnO (ldr T) k) = nI (bmask T k 0 6) ∧ σ.2.2 i_partColumns (cnO (ldr T) k) = nI (bmask T k 1 6)
theorem PT.skip {σ : sg} {T : tb} {n : Nat} (h : PT σ T n) (hl : ¬ ldr T n) : PT σ T (n + 1) := by
  refine ⟨by rw [cnO_n hl]; exact h.1, fun k hk q => h.2 k ?_ q⟩
  rcases (by omega : k < n ∨ k = n) with z | rfl
  · exact z
  · exact absurd q hl
theorem PT.add {σ : sg} {T : tb} {n : Nat} (h : PT σ T n) (hl : ldr T n) : PT (sG (sA (sA σ i_partRows (upd (σ.2.2 i_partRows) (cnO (ldr T) n) (nI (bmask T n 0 6)))) i_partColumns (upd (σ.2.2 i_partColumns) (cnO (ldr T) n) (nI (bmask T n 1 6)))) i_shape 4 (nI (cnO (ldr T) n + 1))) T (n + 1) := by
  have lt : ∀ k, k < n → ldr T k → cnO (ldr T) k < cnO (ldr T) n := fun k hk q => by
    have h1 := cnO_y (p := ldr T) (n := k) q
    have h2 : ∀ m, k + 1 ≤ m → cnO (ldr T) (k + 1) ≤ cnO (ldr T) m := by
      intro m hm
      induction m with
      | zero => omega
      | succ m ih =>
        rcases (by omega : k + 1 ≤ m ∨ k + 1 = m + 1) with z | z
        · refine Nat.le_trans (ih z) ?_
          by_cases y : ldr T m
          · rw [cnO_y y]; omega
          · rw [cnO_n y]; omega
        · rw [z]; omega
    have := h2 n (by omega)
    omega
  refine ⟨by rw [cnO_y hl]; exact sG_eq _ _ _ _, fun k hk q => ?_⟩
  show (sA (sA σ i_partRows _) i_partColumns _).2.2 i_partRows _ = _ ∧ (sA (sA σ i_partRows _) i_partColumns _).2.2 i_partColumns _ = _
  rw [sA_ne (by decide), sA_eq, sA_eq]
  unfold upd
  rcases (by omega : k < n ∨ k = n) with z | rfl
  · have := lt k z q
    rw [if_neg (by omega), if_neg (by omega)]
    exact h.2 k z q
  · rw [if_pos rfl, if_pos rfl]; exact ⟨rfl, rfl⟩
theorem iso {T : tb} {c : Nat} (h : ∀ r, r < T.1 → T.2.2 r c = 0) : ∀ n b, rch T (6 + c) n b → b = 6 + c
  | 0, b, z => z
  | n + 1, b, z => by
    rcases z with z | ⟨a, a12, z, y⟩
    · exact iso h n b z
    · have := iso h n a z
      subst this
      rcases y with ⟨y1, _⟩ | ⟨_, _, y1, _, y3⟩
      · omega
      · rw [Nat.add_sub_cancel_left] at y3; exact absurd (h b y1) y3
theorem c_findParts {σ : sg} {x : aW} {T : tb} (h : SH σ T) : Mt mX5_findParts 3 0 0 [.ref i_shape] (wd σ x) (fun r w => r = none ∧ ∃ τ, w = wd τ x ∧ AE [131, 134, 135] σ τ ∧ PT τ T 12) := by
  refine Mt.of MI_X5_findParts (Nat.le_of_ble_eq_true rfl) (fun X hC hR hT => ?_)
  obtain ⟨f1, f2, k3, k4, ha, hd⟩ := id h
  have shx : ∀ τ, (τ.1 i_shape 0 = σ.1 i_shape 0 ∧ τ.1 i_shape 1 = σ.1 i_shape 1) → AE [131, 134, 135] σ τ → SH τ T := fun τ z e => by
    unfold SH; rw [z.1, z.2, (e 132 (by decide)).2.2, (e 133 (by decide)).2.2]; exact h
  have thR : ∀ n, n < 6 → (there T n ↔ n < T.1) := fun n hn => by unfold there; rw [if_pos hn]
  have thC : ∀ c, there T (6 + c) ↔ c < T.2.1 := fun c => by unfold there; rw [if_neg (by omega), Nat.add_sub_cancel_left]
  have cols : ∀ c, c ≤ T.2.1 → ∀ τ, AE [131, 134, 135] σ τ → (τ.1 i_shape 0 = σ.1 i_shape 0 ∧ τ.1 i_shape 1 = σ.1 i_shape 1) → PT τ T (6 + c) → ∀ (u1 : Int32) u3, Rw mX5_findParts X 53 [some (.ref i_shape), some (.int u1), some (.int (nI c)), u3] [] (wd τ x) 0 0 := by
    refine up_loop T.2.1 ?_ ?_
    · intro τ e sz hp u1 u3
      have full : PT τ T 12 := by
        have go : ∀ k, T.2.1 + k ≤ 6 → PT τ T (6 + T.2.1 + k) := by
          intro k
          induction k with
          | zero => intro _; exact hp
          | succ k ih => intro hk; exact (ih (by omega)).skip (fun z => by have := z.1; rw [Nat.add_assoc, thC] at this; omega)
        have := go (6 - T.2.1) (by omega)
        rwa [show 6 + T.2.1 + (6 - T.2.1) = 12 by omega] at this
      refine R_iload_n (i := 2) hC dX5_findParts_53 rfl rfl (R_aload_n (i := 0) hC dX5_findParts_54 rfl rfl (R_gI hC dX5_findParts_55 fl_X5_34 L_shape rfl ?_))
      refine R_top (y := nI T.2.1) (by rw [sz.2]; exact f2) ?_
      refine R_icmp_ge hC 84 dX5_findParts_58 (by decide) (fun _ => ?_) (fun h => absurd (Int32.le_refl _) h)
      exact R_vret hC hT dX5_findParts_84 rfl ⟨rfl, τ, rfl, e, full⟩
    · intro c hc ih τ e sz hp u1 u3
      have hs := shx τ sz e
      have ez : dwn T c = 0 ↔ ∀ r, r < T.1 → T.2.2 r c = 0 := by
        constructor
        · intro z r hr
          refine Classical.byContradiction fun y => ?_
          have : (dwn T c).testBit r = true := by unfold dwn; rw [mkm_bit]; exact ⟨hr, y⟩
          rw [z] at this; simp at this
        · intro z
          refine eq_bits (dwn64 T k3 c) (by decide) (fun i hi => ?_)
          unfold dwn; rw [mkm_bit]; simp
          exact fun y => z i y
      have eq0 := nI_eq (a := dwn T c) (b := 0) (by have := dwn64 T k3 c; omega) (by decide)
      by_cases hz : ∀ r, r < T.1 → T.2.2 r c = 0
      · have hl : ldr T (6 + c) := ⟨(thC c).mpr hc, fun j hj ⟨n, z⟩ => by have := iso hz n j z; omega⟩
        have b0 : bmask T (6 + c) 0 6 = 0 := eq_bits (bm64 _ _ _) (by decide) (fun i hi => by
          rw [bm_bit, Nat.mul_zero, Nat.zero_add]; simp
          intro _ _ z
          obtain ⟨n, y⟩ := rel.sy (by omega) (by omega) z
          have := iso hz n i y; omega)
        have b1 : bmask T (6 + c) 1 6 = 2 ^ c := eq_bits (bm64 _ _ _) (Nat.pow_lt_pow_right (by decide) (show c < 6 by omega)) (fun i hi => by
          rw [bm_bit, Nat.testBit_two_pow]
          simp only [decide_eq_true_eq, Nat.mul_one]
          constructor
          · rintro ⟨_, _, z⟩
            obtain ⟨n, y⟩ := rel.sy (by omega) (by omega) z
            have := iso hz n _ y; omega
          · rintro rfl; exact ⟨hi, (thC c).mpr hc, rel.rf _ _⟩)
        have ad := hp.add hl
        rw [b0, b1] at ad
        have m12 := cnO_le (p := ldr T) (6 + c)
        refine R_iload_n (i := 2) hC dX5_findParts_53 rfl rfl (R_aload_n (i := 0) hC dX5_findParts_54 rfl rfl (R_gI hC dX5_findParts_55 fl_X5_34 L_shape rfl ?_))
        refine R_top (y := nI T.2.1) (by rw [sz.2]; exact f2) ?_
        refine R_icmp_ge hC 84 dX5_findParts_58 (by decide) (fun h => absurd h (nI_ge hc (by omega))) (fun _ => ?_)
        refine R_aload_n (i := 0) hC dX5_findParts_61 rfl rfl (R_gR hC dX5_findParts_62 fl_X5_15 L_shape rfl (R_iload_n (i := 2) hC dX5_findParts_65 rfl rfl (R_aI hC dX5_findParts_66 L_down c rfl (by omega) (by decide) ?_)))
        refine R_top (y := nI (dwn T c)) (hs.2.2.2.2.2 c hc) ?_
        refine R_if_ne hC 78 dX5_findParts_67 (by decide) (fun h => absurd (eq0.mpr (ez.mpr hz)) h) (fun _ => ?_)
        refine R_aload_n (i := 0) hC dX5_findParts_70 rfl rfl (R_iconst (v := 0) hC dX5_findParts_71 (by decide) (R_iconst (v := 1) hC dX5_findParts_72 (by decide) (R_iload_n (i := 2) hC dX5_findParts_73 rfl rfl (R_ishl hC dX5_findParts_74 ?_))))
        refine R_top (y := nI (2 ^ c)) (shl1 c (by omega)) ?_
        refine R_V2v hC hR dX5_findParts_75 MV_X5_addPart ml_X5_53 L_shape rfl (c_addPart τ x _ 0 (2 ^ c) (by omega) hp.1) (by first | decide | omega) ⟨by decide, by decide⟩ (Nat.le_of_ble_eq_true rfl) ?_
        refine R_iinc hC dX5_findParts_78 rfl (inc1 _) (by decide) rfl (R_goto hC 53 dX5_findParts_81 (by decide) ?_)
        exact ih _ (((e.a (by decide)).a (by decide)).g (by decide)) ⟨(sG_nk (by decide)).trans sz.1, (sG_nk (by decide)).trans sz.2⟩ ad _ _
      · have hl : ¬ ldr T (6 + c) := fun z => hz (fun r hr => Classical.byContradiction fun y => z.2 r (by omega) (rel.e (by omega) (Or.inr ⟨by omega, by omega, by rw [Nat.add_sub_cancel_left]; exact ⟨hr, hc, y⟩⟩)))
        refine R_iload_n (i := 2) hC dX5_findParts_53 rfl rfl (R_aload_n (i := 0) hC dX5_findParts_54 rfl rfl (R_gI hC dX5_findParts_55 fl_X5_34 L_shape rfl ?_))
        refine R_top (y := nI T.2.1) (by rw [sz.2]; exact f2) ?_
        refine R_icmp_ge hC 84 dX5_findParts_58 (by decide) (fun h => absurd h (nI_ge hc (by omega))) (fun _ => ?_)
        refine R_aload_n (i := 0) hC dX5_findParts_61 rfl rfl (R_gR hC dX5_findParts_62 fl_X5_15 L_shape rfl (R_iload_n (i := 2) hC dX5_findParts_65 rfl rfl (R_aI hC dX5_findParts_66 L_down c rfl (by omega) (by decide) ?_)))
        refine R_top (y := nI (dwn T c)) (hs.2.2.2.2.2 c hc) ?_
        refine R_if_ne hC 78 dX5_findParts_67 (by decide) (fun _ => ?_) (fun h => absurd h (fun z => hz (ez.mp (eq0.mp z))))
        refine R_iinc hC dX5_findParts_78 rfl (inc1 _) (by decide) rfl (R_goto hC 53 dX5_findParts_81 (by decide) ?_)
        exact ih τ e sz (hp.skip hl) _ _
  have rows : ∀ n, n ≤ T.1 → ∀ τ, AE [131, 134, 135] σ τ → (τ.1 i_shape 0 = σ.1 i_shape 0 ∧ τ.1 i_shape 1 = σ.1 i_shape 1) → PT τ T n → ∀ S, S < 64 → (∀ q, q < T.1 → (S.testBit q = true ↔ ∃ j, j < n ∧ rel T j q)) → ∀ u3, Rw mX5_findParts X 9 [some (.ref i_shape), some (.int (nI S)), some (.int (nI n)), u3] [] (wd τ x) 0 0 := by
    refine up_loop T.1 ?_ ?_
    · intro τ e sz hp S hS hb u3
      have full : PT τ T (6 + 0) := by
        have go : ∀ k, T.1 + k ≤ 6 → PT τ T (T.1 + k) := by
          intro k
          induction k with
          | zero => intro _; exact hp
          | succ k ih => intro hk; exact (ih (by omega)).skip (fun z => by have := z.1; rw [thR _ (by omega)] at this; omega)
        have := go (6 - T.1) (by omega)
        rwa [show T.1 + (6 - T.1) = 6 + 0 by omega] at this
      refine R_iload_n (i := 2) hC dX5_findParts_9 rfl rfl (R_aload_n (i := 0) hC dX5_findParts_10 rfl rfl (R_gI hC dX5_findParts_11 fl_X5_30 L_shape rfl ?_))
      refine R_top (y := nI T.1) (by rw [sz.1]; exact f1) ?_
      refine R_icmp_ge hC 51 dX5_findParts_14 (by decide) (fun _ => ?_) (fun h => absurd (Int32.le_refl _) h)
      refine R_iconst (v := 0) hC dX5_findParts_51 (by decide) (R_istore_n (i := 2) hC dX5_findParts_52 rfl (by decide) rfl ?_)
      exact cols 0 (Nat.zero_le _) τ e sz full _ _
    · intro n hn ih τ e sz hp S hS hb u3
      have hs := shx τ sz e
      by_cases hl : ldr T n
      · have nb : ¬ S.testBit n = true := fun z => by
          obtain ⟨j, j1, j2⟩ := (hb n hn).mp z
          exact hl.2 j j1 (rel.sy (by omega) (by omega) j2)
        have ad := hp.add hl
        have m12 := cnO_le (p := ldr T) n
        have cm := cmet_bm (T := T) (r := n) k3 k4 hn
        refine R_iload_n (i := 2) hC dX5_findParts_9 rfl rfl (R_aload_n (i := 0) hC dX5_findParts_10 rfl rfl (R_gI hC dX5_findParts_11 fl_X5_30 L_shape rfl ?_))
        refine R_top (y := nI T.1) (by rw [sz.1]; exact f1) ?_
        refine R_icmp_ge hC 51 dX5_findParts_14 (by decide) (fun h => absurd h (nI_ge hn (by omega))) (fun _ => ?_)
        refine R_iload_n (i := 1) hC dX5_findParts_17 rfl rfl (R_iload_n (i := 2) hC dX5_findParts_18 rfl rfl ?_)
        refine R_S2i hC hR dX5_findParts_19 MS_X10_isIn ml_X5_39 (c_isIn S n hS (by omega) _) (by first | decide | omega) ⟨by decide, by decide⟩ (Nat.le_of_ble_eq_true rfl) ?_
        refine R_top (y := 0) (if_neg nb) ?_
        refine R_if_ne hC 45 dX5_findParts_22 (by decide) (fun h => absurd rfl h) (fun _ => ?_)
        refine R_aload_n (i := 0) hC dX5_findParts_25 rfl rfl (R_iload_n (i := 2) hC dX5_findParts_26 rfl rfl ?_)
        refine R_V1i hC hR dX5_findParts_27 MV_X5_allJoinedTo ml_X5_46 L_shape rfl (c_joinedTo hs hn) (by first | decide | omega) ⟨by decide, by decide⟩ (Nat.le_of_ble_eq_true rfl) ?_
        refine R_istore_n (i := 3) hC dX5_findParts_30 rfl (by decide) rfl (R_aload_n (i := 0) hC dX5_findParts_31 rfl rfl (R_iload_n (i := 3) hC dX5_findParts_32 rfl rfl (R_aload_n (i := 0) hC dX5_findParts_33 rfl rfl (R_iload_n (i := 3) hC dX5_findParts_34 rfl rfl ?_))))
        refine R_V1i hC hR dX5_findParts_35 MV_X5_columnsMetBy ml_X5_50 L_shape rfl (c_cmet hs _ (bm64 T n 0)) (by first | decide | omega) ⟨by decide, by decide⟩ (Nat.le_of_ble_eq_true rfl) ?_
        refine R_top (y := nI (bmask T n 1 6)) (by rw [cm]) ?_
        refine R_V2v hC hR dX5_findParts_38 MV_X5_addPart ml_X5_53 L_shape rfl (c_addPart τ x _ _ _ (by omega) hp.1) (by first | decide | omega) ⟨by decide, by decide⟩ (Nat.le_of_ble_eq_true rfl) ?_
        refine R_iload_n (i := 1) hC dX5_findParts_41 rfl rfl (R_iload_n (i := 3) hC dX5_findParts_42 rfl rfl (R_ior hC dX5_findParts_43 ?_))
        refine R_top (y := nI (S ||| bmask T n 0 6)) (nI_or _ hS _ (bm64 T n 0)) ?_
        refine R_istore_n (i := 1) hC dX5_findParts_44 rfl (by decide) rfl (R_iinc hC dX5_findParts_45 rfl (inc1 _) (by decide) rfl (R_goto hC 9 dX5_findParts_48 (by decide) ?_))
        exact ih _ (((e.a (by decide)).a (by decide)).g (by decide)) ⟨(sG_nk (by decide)).trans sz.1, (sG_nk (by decide)).trans sz.2⟩ ad _ (or64 _ hS _ (bm64 T n 0)) (fun q hq => by
          rw [Nat.testBit_or, Bool.or_eq_true, hb q hq, bm_bit, Nat.mul_zero, Nat.zero_add]
          constructor
          · rintro (⟨j, j1, j2⟩ | ⟨_, _, z⟩)
            · exact ⟨j, by omega, j2⟩
            · exact ⟨n, by omega, rel.sy (by omega) (by omega) z⟩
          · rintro ⟨j, j1, j2⟩
            rcases (by omega : j < n ∨ j = n) with y | rfl
            · exact Or.inl ⟨j, y, j2⟩
            · exact Or.inr ⟨by omega, (thR q (by omega)).mpr hq, rel.sy (by omega) (by omega) j2⟩) _
      · have ex : ∃ j, j < n ∧ rel T j n := Classical.byContradiction fun z => hl ⟨(thR n (by omega)).mpr hn, fun j hj y => z ⟨j, hj, rel.sy (by omega) (by omega) y⟩⟩
        have yb : S.testBit n = true := (hb n hn).mpr ex
        refine R_iload_n (i := 2) hC dX5_findParts_9 rfl rfl (R_aload_n (i := 0) hC dX5_findParts_10 rfl rfl (R_gI hC dX5_findParts_11 fl_X5_30 L_shape rfl ?_))
        refine R_top (y := nI T.1) (by rw [sz.1]; exact f1) ?_
        refine R_icmp_ge hC 51 dX5_findParts_14 (by decide) (fun h => absurd h (nI_ge hn (by omega))) (fun _ => ?_)
        refine R_iload_n (i := 1) hC dX5_findParts_17 rfl rfl (R_iload_n (i := 2) hC dX5_findParts_18 rfl rfl ?_)
        refine R_S2i hC hR dX5_findParts_19 MS_X10_isIn ml_X5_39 (c_isIn S n hS (by omega) _) (by first | decide | omega) ⟨by decide, by decide⟩ (Nat.le_of_ble_eq_true rfl) ?_
        refine R_top (y := 1) (if_pos yb) ?_
        refine R_if_ne hC 45 dX5_findParts_22 (by decide) (fun _ => ?_) (fun h => absurd h (by decide))
        refine R_iinc hC dX5_findParts_45 rfl (inc1 _) (by decide) rfl (R_goto hC 9 dX5_findParts_48 (by decide) ?_)
        exact ih τ e sz (hp.skip hl) S hS (fun q hq => by
          rw [hb q hq]
          constructor
          · rintro ⟨j, j1, j2⟩; exact ⟨j, by omega, j2⟩
          · rintro ⟨j, j1, j2⟩
            rcases (by omega : j < n ∨ j = n) with y | rfl
            · exact ⟨j, y, j2⟩
            · obtain ⟨i, i1, i2⟩ := ex; exact ⟨i, i1, i2.tr j2⟩) _
  refine R_aload_n (i := 0) hC dX5_findParts_0 rfl rfl (R_iconst (v := 0) hC dX5_findParts_1 (by decide) (R_pI hC dX5_findParts_2 fl_X5_43 L_shape rfl (R_iconst (v := 0) hC dX5_findParts_5 (by decide) (R_istore_n (i := 1) hC dX5_findParts_6 rfl (by decide) rfl (R_iconst (v := 0) hC dX5_findParts_7 (by decide) (R_istore_n (i := 2) hC dX5_findParts_8 rfl (by decide) rfl ?_))))))
  exact rows 0 (Nat.zero_le _) _ ((AE.rf _ σ).g (by decide)) ⟨sG_nk (by decide), sG_nk (by decide)⟩ ⟨sG_eq _ _ _ _, fun k hk => absurd hk (Nat.not_lt_zero _)⟩ 0 (by decide) (fun q hq => by simp) _
theorem cnO_ex {p : Nat → Prop} : ∀ n i, i < cnO p n → ∃ k, k < n ∧ p k ∧ cnO p k = i
  | 0, i, h => by rw [cnO_z 0 (fun k hk => absurd hk (Nat.not_lt_zero _))] at h; omega
  | n + 1, i, h => by
    by_cases q : p n
    · rw [cnO_y q] at h
      rcases (by omega : i < cnO p n ∨ i = cnO p n) with z | z
      · obtain ⟨k, a, b, c⟩ := cnO_ex n i z; exact ⟨k, by omega, b, c⟩
      · exact ⟨n, by omega, q, z.symm⟩
    · rw [cnO_n q] at h
      obtain ⟨k, a, b, c⟩ := cnO_ex n i h; exact ⟨k, by omega, b, c⟩
theorem cnO_lt2 {p : Nat → Prop} {k : Nat} (h : p k) : ∀ n, k < n → cnO p k < cnO p n
  | 0, z => absurd z (Nat.not_lt_zero _)
  | n + 1, z => by
    rcases (by omega : k < n ∨ k = n) with y | rfl
    · have := cnO_lt2 h n y
      by_cases q : p n
      · rw [cnO_y q]; omega
      · rw [cnO_n q]; omega
    · rw [cnO_y h]; omega
theorem co_block {σ : sg} {x : aW} {α : aS} (h : CInv σ α) (ok : aOK α) (i w : Int32) : Mt mX10_block 4 0 0 [.ref i_U, .int i, .int w] (wd σ x) (CPost σ x (opBlock α i w) α) := by
  refine Mt.of MI_X10_block (Nat.le_of_ble_eq_true rfl) (fun X hC hR hT => ?_)
  have e1 : (1 : Int32).toInt = 1 := by decide
  have em1 : (-1 : Int32).toInt = -1 := by decide
  by_cases h0 : (tT α).1 = 0
  · have e : opBlock α i w = -1 := by unfold opBlock; rw [if_pos (Or.inl h0)]
    refine R_aload_n (i := 0) hC dX10_block_0 rfl rfl (R_gR hC dX10_block_1 fl_X10_19 L_U rfl ?_)
    refine R_V0i hC hR dX10_block_4 MV_X7_isNone ml_X10_152 L_table rfl (c_isNone TL_table h.2.1) (by first | decide | omega) ⟨by decide, by decide⟩ (Nat.le_of_ble_eq_true rfl) ?_
    refine R_top (y := 1) (b2i_t h0) ?_
    refine R_if_eq hC 12 dX10_block_7 (by decide) (fun h => absurd h (by decide)) (fun _ => ?_)
    refine R_iconst (v := (-1)) hC dX10_block_10 (by decide) ?_
    exact R_iret hC hT dX10_block_11 rfl (by rw [e]; exact CPost.i h (MEq.rf _))
  · refine R_aload_n (i := 0) hC dX10_block_0 rfl rfl (R_gR hC dX10_block_1 fl_X10_19 L_U rfl ?_)
    refine R_V0i hC hR dX10_block_4 MV_X7_isNone ml_X10_152 L_table rfl (c_isNone TL_table h.2.1) (by first | decide | omega) ⟨by decide, by decide⟩ (Nat.le_of_ble_eq_true rfl) ?_
    refine R_top (y := 0) (b2i_f h0) ?_
    refine R_if_eq hC 12 dX10_block_7 (by decide) (fun _ => ?_) (fun h => absurd rfl h)
    refine R_aload_n (i := 0) hC dX10_block_12 rfl rfl (R_gR hC dX10_block_13 fl_X10_80 L_U rfl (R_aload_n (i := 0) hC dX10_block_16 rfl rfl (R_gR hC dX10_block_17 fl_X10_19 L_U rfl ?_)))
    refine R_V1g hC hR dX10_block_20 MV_X5_takeFrom ml_X10_248 L_shape rfl (c_takeFrom h.2.1) (by first | decide | omega) ⟨by decide, by decide⟩ (Nat.le_of_ble_eq_true rfl) (fun r w1 hq => ?_)
    obtain ⟨rfl, τ, rfl, c, hs⟩ := hq
    refine R_aload_n (i := 0) hC dX10_block_23 rfl rfl (R_gR hC dX10_block_24 fl_X10_80 L_U rfl ?_)
    refine R_V0g hC hR dX10_block_27 MV_X5_findParts ml_X10_251 L_shape rfl (c_findParts hs) (by first | decide | omega) ⟨by decide, by decide⟩ (Nat.le_of_ble_eq_true rfl) (fun r w1 hq => ?_)
    obtain ⟨rfl, υ, rfl, c2, hp⟩ := hq
    have hυ : CInv υ α := CInv.ae ok (CInv.ae ok h c (by intro i q; unfold scq; simp at q; omega)) c2 (by intro i q; unfold scq; simp at q; omega)
    have cm : MEq σ υ := (c.meq (by decide)).tr (c2.meq (by decide))
    skip
    by_cases hi : i = -1
    · have e : opBlock α i w = nI (cnO (ldr (tT α)) 12) := by
        unfold opBlock
        rw [if_neg (fun z => by rw [hi, em1] at z; omega), if_pos hi]
      refine R_iload_n (i := 1) hC dX10_block_30 rfl rfl (R_iconst (v := (-1)) hC dX10_block_31 (by decide) ?_)
      refine R_icmp_ne hC 45 dX10_block_32 (by decide) (fun h => absurd hi h) (fun _ => ?_)
      refine R_aload_n (i := 0) hC dX10_block_35 rfl rfl (R_gR hC dX10_block_36 fl_X10_80 L_U rfl (R_gI hC dX10_block_39 fl_X10_254 L_shape rfl (R_goto hC 54 dX10_block_42 (by decide) ?_)))
      exact R_iret hC hT dX10_block_54 rfl (by rw [e, hp.1]; exact CPost.i hυ cm)
    · have n1 : ¬ i.toInt = -1 := fun z => hi (Int32.toInt_inj.mp (by rw [z, em1]))
      have ep := nI_toInt (n := cnO (ldr (tT α)) 12) (by have := cnO_le (p := ldr (tT α)) 12; omega)
      have m12 := cnO_le (p := ldr (tT α)) 12
      -- what partOf answers
      have po : Mt mX5_partOf 0 0 0 [.ref i_shape, .int i, .int w] (wd υ x) (QI (opBlock α i w) (wd υ x)) := by
        refine Mt.of MI_X5_partOf (Nat.le_of_ble_eq_true rfl) (fun X hC hR hT => ?_)
        by_cases hin : (0 ≤ i.toInt ∧ i.toInt < cnO (ldr (tT α)) 12) ∧ (0 ≤ w.toInt ∧ w.toInt ≤ 1)
        · obtain ⟨k, rfl, hk, hk2⟩ := i32_nI hin.1.1
          obtain ⟨W, rfl, hW, hW2⟩ := i32_nI hin.2.1
          obtain ⟨q, q1, q2, q3⟩ := cnO_ex (p := ldr (tT α)) 12 k (by omega)
          have ex : ∃ q, ith (tT α) (nI k).toNatClampNeg q := ⟨q, q1, q2, by rw [nI_clamp hk2]; exact q3⟩
          have e : opBlock α (nI k) (nI W) = nI (bmask (tT α) (Classical.choose ex) W 6) := by
            unfold opBlock
            rw [if_neg (fun z => by omega), if_neg hi, dif_pos ex, nI_clamp hW2]
          have sp := Classical.choose_spec ex
          generalize Classical.choose ex = q' at e sp
          have pv := hp.2 q' sp.1 sp.2.1
          have s3 := sp.2.2
          rw [nI_clamp hk2] at s3
          rw [s3] at pv
          rcases (by omega : W = 0 ∨ W = 1) with rfl | rfl
          · refine R_iload_n (i := 1) hC dX5_partOf_0 rfl rfl ?_
            refine R_if_lt hC 21 dX5_partOf_1 (by decide) (fun h => absurd h (nI_pos hk2)) (fun _ => ?_)
            refine R_iload_n (i := 1) hC dX5_partOf_4 rfl rfl (R_aload_n (i := 0) hC dX5_partOf_5 rfl rfl (R_gI hC dX5_partOf_6 fl_X5_43 L_shape rfl ?_))
            refine R_top (y := nI (cnO (ldr (tT α)) 12)) (hp.1) ?_
            refine R_icmp_ge hC 21 dX5_partOf_9 (by decide) (fun h => absurd h (nI_ge (by omega) (by omega))) (fun _ => ?_)
            refine R_iload_n (i := 2) hC dX5_partOf_12 rfl rfl ?_
            refine R_if_lt hC 21 dX5_partOf_13 (by decide) (fun h => absurd h (by decide)) (fun _ => ?_)
            refine R_iload_n (i := 2) hC dX5_partOf_16 rfl rfl (R_iconst (v := 1) hC dX5_partOf_17 (by decide) ?_)
            refine R_icmp_le hC 23 dX5_partOf_18 (by decide) (fun _ => ?_) (fun h => absurd (by decide) h)
            refine R_iload_n (i := 2) hC dX5_partOf_23 rfl rfl ?_
            refine R_if_ne hC 36 dX5_partOf_24 (by decide) (fun h => absurd rfl h) (fun _ => ?_)
            refine R_aload_n (i := 0) hC dX5_partOf_27 rfl rfl (R_gR hC dX5_partOf_28 fl_X5_18 L_shape rfl (R_iload_n (i := 1) hC dX5_partOf_31 rfl rfl (R_aI hC dX5_partOf_32 L_partRows k rfl (by omega) (by decide) (R_goto hC 42 dX5_partOf_33 (by decide) ?_))))
            exact R_iret hC hT dX5_partOf_42 rfl ⟨by rw [e, pv.1], rfl⟩
          · refine R_iload_n (i := 1) hC dX5_partOf_0 rfl rfl ?_
            refine R_if_lt hC 21 dX5_partOf_1 (by decide) (fun h => absurd h (nI_pos hk2)) (fun _ => ?_)
            refine R_iload_n (i := 1) hC dX5_partOf_4 rfl rfl (R_aload_n (i := 0) hC dX5_partOf_5 rfl rfl (R_gI hC dX5_partOf_6 fl_X5_43 L_shape rfl ?_))
            refine R_top (y := nI (cnO (ldr (tT α)) 12)) (hp.1) ?_
            refine R_icmp_ge hC 21 dX5_partOf_9 (by decide) (fun h => absurd h (nI_ge (by omega) (by omega))) (fun _ => ?_)
            refine R_iload_n (i := 2) hC dX5_partOf_12 rfl rfl ?_
            refine R_if_lt hC 21 dX5_partOf_13 (by decide) (fun h => absurd h (by decide)) (fun _ => ?_)
            refine R_iload_n (i := 2) hC dX5_partOf_16 rfl rfl (R_iconst (v := 1) hC dX5_partOf_17 (by decide) ?_)
            refine R_icmp_le hC 23 dX5_partOf_18 (by decide) (fun _ => ?_) (fun h => absurd (by decide) h)
            refine R_iload_n (i := 2) hC dX5_partOf_23 rfl rfl ?_
            refine R_if_ne hC 36 dX5_partOf_24 (by decide) (fun _ => ?_) (fun h => absurd h (by decide))
            refine R_aload_n (i := 0) hC dX5_partOf_36 rfl rfl (R_gR hC dX5_partOf_37 fl_X5_21 L_shape rfl (R_iload_n (i := 1) hC dX5_partOf_40 rfl rfl (R_aI hC dX5_partOf_41 L_partColumns k rfl (by omega) (by decide) ?_)))
            exact R_iret hC hT dX5_partOf_42 rfl ⟨by rw [e, pv.2], rfl⟩
        · have e : opBlock α i w = -1 := by
            unfold opBlock
            by_cases q : ((tT α).1 = 0 ∨ i.toInt < -1 ∨ (0 ≤ i.toInt ∧ ¬ (0 ≤ w.toInt ∧ w.toInt ≤ 1)))
            · rw [if_pos q]
            · rw [if_neg q, if_neg hi, dif_neg]
              rintro ⟨k, k1, k2, k3⟩
              have lt := cnO_lt2 (p := ldr (tT α)) k2 12 k1
              obtain ⟨I, rfl, hI, hI2⟩ := i32_nI (k := i) (by omega)
              rw [nI_clamp hI2] at k3
              exact hin ⟨⟨by omega, by omega⟩, by omega⟩
          refine R_iload_n (i := 1) hC dX5_partOf_0 rfl rfl ?_
          refine R_if_lt hC 21 dX5_partOf_1 (by decide) (fun h1 => ?_) (fun h1 => ?_)
          · refine R_iconst (v := (-1)) hC dX5_partOf_21 (by decide) ?_
            exact R_iret hC hT dX5_partOf_22 rfl ⟨by rw [e], rfl⟩
          · refine R_iload_n (i := 1) hC dX5_partOf_4 rfl rfl (R_aload_n (i := 0) hC dX5_partOf_5 rfl rfl (R_gI hC dX5_partOf_6 fl_X5_43 L_shape rfl ?_))
            refine R_top (y := nI (cnO (ldr (tT α)) 12)) (hp.1) ?_
            refine R_icmp_ge hC 21 dX5_partOf_9 (by decide) (fun h9 => ?_) (fun h9 => ?_)
            · refine R_iconst (v := (-1)) hC dX5_partOf_21 (by decide) ?_
              exact R_iret hC hT dX5_partOf_22 rfl ⟨by rw [e], rfl⟩
            · refine R_iload_n (i := 2) hC dX5_partOf_12 rfl rfl ?_
              refine R_if_lt hC 21 dX5_partOf_13 (by decide) (fun h13 => ?_) (fun h13 => ?_)
              · refine R_iconst (v := (-1)) hC dX5_partOf_21 (by decide) ?_
                exact R_iret hC hT dX5_partOf_22 rfl ⟨by rw [e], rfl⟩
              · refine R_iload_n (i := 2) hC dX5_partOf_16 rfl rfl (R_iconst (v := 1) hC dX5_partOf_17 (by decide) ?_)
                refine R_icmp_le hC 23 dX5_partOf_18 (by decide) (fun h18 => ?_) (fun h18 => ?_)
                · exact absurd ⟨⟨by simp only [i32_lt, Int32.toInt_zero] at h1; omega, by simp only [i32_ge, ep] at h9; omega⟩, by simp only [i32_lt, Int32.toInt_zero] at h13; omega, by simp only [i32_ge, e1] at h18; omega⟩ hin
                · refine R_iconst (v := (-1)) hC dX5_partOf_21 (by decide) ?_
                  exact R_iret hC hT dX5_partOf_22 rfl ⟨by rw [e], rfl⟩
      refine R_iload_n (i := 1) hC dX10_block_30 rfl rfl (R_iconst (v := (-1)) hC dX10_block_31 (by decide) ?_)
      refine R_icmp_ne hC 45 dX10_block_32 (by decide) (fun _ => ?_) (fun h => absurd h hi)
      refine R_aload_n (i := 0) hC dX10_block_45 rfl rfl (R_gR hC dX10_block_46 fl_X10_80 L_U rfl (R_iload_n (i := 1) hC dX10_block_49 rfl rfl (R_iload_n (i := 2) hC dX10_block_50 rfl rfl ?_)))
      refine R_V2i hC hR dX10_block_51 MV_X5_partOf ml_X10_257 L_shape rfl (po) (by first | decide | omega) ⟨by decide, by decide⟩ (Nat.le_of_ble_eq_true rfl) ?_
      exact R_iret hC hT dX10_block_54 rfl (CPost.i hυ cm)
