/-! ===== the class's starts and ways ===== -/
theorem bt_and : ∀ L, L < 128 → ∀ a, a ≤ 6 → (nI L &&& nI (2 ^ a) = 0 ↔ L.testBit a = false) := by decide +kernel
theorem bt_or : ∀ L, L < 128 → ∀ a, a ≤ 6 → nI L ||| nI (2 ^ a) = nI (L ||| 2 ^ a) ∧ L ||| 2 ^ a < 128 := by decide +kernel
theorem bt_not : ∀ L, L < 128 → ∀ R, R < 128 → nI L &&& (nI R ^^^ (-1)) = nI (L &&& (127 - R)) := by decide +kernel
theorem bt_not_b {L R : Nat} (hR : R < 128) (hL : L < 128) (u : Nat) : (L &&& (127 - R)).testBit u = true ↔ L.testBit u = true ∧ ¬ R.testBit u = true := by
  rw [Nat.testBit_and, Bool.and_eq_true, show 127 - R = 2 ^ 7 - (R + 1) by omega, Nat.testBit_two_pow_sub_succ hR]
  constructor
  · rintro ⟨h1, h2⟩
    rw [Bool.and_eq_true] at h2
    exact ⟨h1, by have := h2.2; cases q : R.testBit u <;> simp [q] at this ⊢⟩
  · rintro ⟨h1, h2⟩
    refine ⟨h1, ?_⟩
    have u7 : u < 7 := Classical.byContradiction fun z => by
      rw [Nat.testBit_lt_two_pow (Nat.lt_of_lt_of_le hL (Nat.pow_le_pow_right (n := 2) (by decide) (show 7 ≤ u by omega)))] at h1; cases h1
    have : R.testBit u = false := Bool.eq_false_iff.mpr h2
    simp [u7, this]
theorem pc_one : ∀ S, S < 128 → (pcn S 7 ≤ 1 ↔ ∀ u, u < 7 → ∀ v, v < 7 → S.testBit u = true → S.testBit v = true → u = v) := by decide +kernel
def IJ (T : tb) (t : tre) (n c j : Nat) : Prop := ∀ r q, r < j → q < j → onC T n c r → onC T n c q → r ≠ q → lvA T t c r ≠ lvA T t c q ∧ rcA T t c r ≠ rcA T t c q
def LM (T : tb) (t : tre) (n c j L : Nat) : Prop := L < 128 ∧ ∀ u, L.testBit u = true ↔ ∃ r, r < j ∧ onC T n c r ∧ lvA T t c r = u
def RM (T : tb) (t : tre) (n c j L : Nat) : Prop := L < 128 ∧ ∀ u, L.testBit u = true ↔ ∃ r, r < j ∧ onC T n c r ∧ rcA T t c r = u
def SQ (T : tb) (t : tre) (n c : Nat) (v : Int32) : Prop := (∃ S, S < 128 ∧ v = nI S ∧ IJ T t n c n ∧ ∀ u, S.testBit u = true ↔ ∃ r, beg T t n c r ∧ lvA T t c r = u) ∨ (v = -1 ∧ ¬ IJ T t n c n)
theorem LM.s0 {T : tb} {t : tre} {n c j L : Nat} (h : LM T t n c j L) (z : ¬ onC T n c j) : LM T t n c (j + 1) L := ⟨h.1, fun u => by
  rw [h.2 u]
  constructor
  · rintro ⟨r, a, b⟩; exact ⟨r, by omega, b⟩
  · rintro ⟨r, a, b⟩
    refine ⟨r, ?_, b⟩
    rcases (by omega : r < j ∨ r = j) with y | rfl
    · exact y
    · exact absurd b.1 z⟩
theorem RM.s0 {T : tb} {t : tre} {n c j L : Nat} (h : RM T t n c j L) (z : ¬ onC T n c j) : RM T t n c (j + 1) L := ⟨h.1, fun u => by
  rw [h.2 u]
  constructor
  · rintro ⟨r, a, b⟩; exact ⟨r, by omega, b⟩
  · rintro ⟨r, a, b⟩
    refine ⟨r, ?_, b⟩
    rcases (by omega : r < j ∨ r = j) with y | rfl
    · exact y
    · exact absurd b.1 z⟩
theorem LM.s1 {T : tb} {t : tre} {n c j L : Nat} (h : LM T t n c j L) (z : onC T n c j) (h6 : lvA T t c j ≤ 6) : LM T t n c (j + 1) (L ||| 2 ^ lvA T t c j) := ⟨(bt_or L h.1 _ h6).2, fun u => by
  rw [Nat.testBit_or, Bool.or_eq_true, h.2 u, Nat.testBit_two_pow, decide_eq_true_iff]
  constructor
  · rintro (⟨r, a, b⟩ | e)
    · exact ⟨r, by omega, b⟩
    · exact ⟨j, by omega, z, e⟩
  · rintro ⟨r, a, b⟩
    rcases (by omega : r < j ∨ r = j) with y | rfl
    · exact Or.inl ⟨r, y, b⟩
    · exact Or.inr b.2⟩
theorem RM.s1 {T : tb} {t : tre} {n c j L : Nat} (h : RM T t n c j L) (z : onC T n c j) (h6 : rcA T t c j ≤ 6) : RM T t n c (j + 1) (L ||| 2 ^ rcA T t c j) := ⟨(bt_or L h.1 _ h6).2, fun u => by
  rw [Nat.testBit_or, Bool.or_eq_true, h.2 u, Nat.testBit_two_pow, decide_eq_true_iff]
  constructor
  · rintro (⟨r, a, b⟩ | e)
    · exact ⟨r, by omega, b⟩
    · exact ⟨j, by omega, z, e⟩
  · rintro ⟨r, a, b⟩
    rcases (by omega : r < j ∨ r = j) with y | rfl
    · exact Or.inl ⟨r, y, b⟩
    · exact Or.inr b.2⟩
theorem IJ.s0 {T : tb} {t : tre} {n c j : Nat} (h : IJ T t n c j) (z : ¬ onC T n c j) : IJ T t n c (j + 1) := fun r q hr hq or oq ne => by
  have r1 : r < j := by rcases (by omega : r < j ∨ r = j) with y | rfl; exact y; exact absurd or z
  have q1 : q < j := by rcases (by omega : q < j ∨ q = j) with y | rfl; exact y; exact absurd oq z
  exact h r q r1 q1 or oq ne
theorem IJ.s1 {T : tb} {t : tre} {n c j L R : Nat} (h : IJ T t n c j) (hL : LM T t n c j L) (hR : RM T t n c j R) (h1 : L.testBit (lvA T t c j) = false) (h2 : R.testBit (rcA T t c j) = false) : IJ T t n c (j + 1) := by
  have l1 : ∀ r, r < j → onC T n c r → lvA T t c r ≠ lvA T t c j := fun r hr or e => by
    have := (hL.2 _).mpr ⟨r, hr, or, e⟩; rw [h1] at this; cases this
  have r1 : ∀ r, r < j → onC T n c r → rcA T t c r ≠ rcA T t c j := fun r hr or e => by
    have := (hR.2 _).mpr ⟨r, hr, or, e⟩; rw [h2] at this; cases this
  intro r q hr hq or oq ne
  rcases (by omega : r < j ∨ r = j) with y | rfl
  · rcases (by omega : q < j ∨ q = j) with w | rfl
    · exact h r q y w or oq ne
    · exact ⟨l1 r y or, r1 r y or⟩
  · rcases (by omega : q < r ∨ q = r) with w | rfl
    · exact ⟨Ne.symm (l1 q w oq), Ne.symm (r1 q w oq)⟩
    · exact absurd rfl ne
theorem c_starts {σ : sg} {x : aW} {b m c : Nat} {T : tb} {t : tre} (hD : DL b) (hT0 : CT σ (b + 1) T) (ok : ∀ i j, i < T.1 → j < T.2.1 → sml (T.2.2 i j)) (ha : AC σ b t (m + 1)) (hm : m < T.1) (hc : c < T.2.1) (hok : nodOK t (m + 1)) : Mt mX9_starts 1 0 0 [.ref b, .int (nI c), .int (nI m)] (wd σ x) (fun r w => w = wd σ x ∧ ∃ v, r = some (.int v) ∧ SQ T t (m + 1) c v) := by
  refine Mt.of MI_X9_starts (Nat.le_of_ble_eq_true rfl) (fun X hC hR hT => ?_)
  have h6 := hT0.2.2.1
  have lp : ∀ j, j ≤ m + 1 → ∀ L R l6 l7 l8, LM T t (m + 1) c j L → RM T t (m + 1) c j R → IJ T t (m + 1) c j → Rw mX9_starts X 8 [some (.ref b), some (.int (nI c)), some (.int (nI m)), some (.int (nI L)), some (.int (nI R)), some (.int (nI j)), l6, l7, l8] [] (wd σ x) 0 0 := by
    refine up_loop (m + 1) ?_ ?_
    · intro L R l6 l7 l8 hL hM hI
      have fin : SQ T t (m + 1) c (nI (L &&& (127 - R))) := Or.inl ⟨L &&& (127 - R), Nat.lt_of_le_of_lt Nat.and_le_left hL.1, rfl, hI, fun u => by
        rw [bt_not_b hM.1 hL.1, hL.2, hM.2]
        constructor
        · rintro ⟨⟨r, _, r2, r3⟩, no⟩
          exact ⟨r, ⟨r2, fun q q1 q2 => no ⟨q, q1.1, q1, by rw [q2, r3]⟩⟩, r3⟩
        · rintro ⟨r, r1, r2⟩
          exact ⟨⟨r, r1.1.1, r1.1, r2⟩, fun ⟨q, _, q2, q3⟩ => r1.2 q q2 (by rw [q3, r2])⟩⟩
      refine R_iload hC dX9_starts_8 rfl (R_iload_n (i := 2) hC dX9_starts_10 rfl rfl ?_)
      refine R_icmp_gt hC 97 dX9_starts_11 (by decide) (fun _ => ?_) (fun h => absurd (nI_lt (by omega) (by omega)) h)
      refine R_iload_n (i := 3) hC dX9_starts_97 rfl rfl (R_iload hC dX9_starts_98 rfl (R_iconst (v := (-1)) hC dX9_starts_100 (by decide) (R_ixor hC dX9_starts_101 (R_iand hC dX9_starts_102 ?_))))
      refine R_top (y := nI (L &&& (127 - R))) (bt_not L hL.1 R hM.1) ?_
      exact R_iret hC hT dX9_starts_103 rfl ⟨rfl, _, rfl, fin⟩
    · intro j hj ih L R l6 l7 l8 hL hM hI
      have sj := ok j c (by omega) hc
      obtain ⟨v1, v2⟩ := lv7 (T := T) (c := c) hok hj
      have oj : ¬ T.2.2 j c = 0 → onC T (m + 1) c j := fun z => ⟨hj, z⟩
      have a1 := bt_and L hL.1 (lvA T t c j) (by omega)
      have a2 := bt_and R hM.1 (rcA T t c j) (by omega)
      have bad : ¬ IJ T t (m + 1) c (m + 1) → ∀ l7 l8, Rw mX9_starts X 77 [some (.ref b), some (.int (nI c)), some (.int (nI m)), some (.int (nI L)), some (.int (nI R)), some (.int (nI j)), some (.int (T.2.2 j c)), l7, l8] [] (wd σ x) 0 0 := by
        intro z l7 l8
        refine R_iconst (v := (-1)) hC dX9_starts_77 (by decide) ?_
        exact R_iret hC hT dX9_starts_78 rfl ⟨rfl, _, rfl, Or.inr ⟨rfl, z⟩⟩
      refine R_iload hC dX9_starts_8 rfl (R_iload_n (i := 2) hC dX9_starts_10 rfl rfl ?_)
      refine R_icmp_gt hC 97 dX9_starts_11 (by decide) (fun h => absurd h (fun z => absurd ((nI_ltI (by omega) (by omega)).mp z) (by omega))) (fun _ => ?_)
      refine R_iload hC dX9_starts_14 rfl (R_bipush (v := 6) hC dX9_starts_16 (by decide) ?_)
      refine R_icmp_ge hC 97 dX9_starts_18 (by decide) (fun h => absurd h (nI_ge (show j < 6 by omega) (by decide))) (fun _ => ?_)
      refine R_aload_n (i := 0) hC dX9_starts_21 rfl rfl (R_gR hC dX9_starts_22 fl_X9_12 hD.1 rfl (R_iload hC dX9_starts_25 rfl (R_iload_n (i := 1) hC dX9_starts_27 rfl rfl ?_)))
      refine R_V2i hC hR dX9_starts_28 MV_X7_at ml_X9_79 hD.2.1.1 rfl (c_atN hD.2.1 hT0 (i := j) (by omega) hc) (by first | decide | omega) ⟨by decide, by decide⟩ (Nat.le_of_ble_eq_true rfl) ?_
      refine R_istore hC dX9_starts_31 (by decide) rfl (R_iload hC dX9_starts_33 rfl ?_)
      refine R_if_eq hC 91 dX9_starts_35 (by decide) (fun h35 => ?_) (fun h35 => ?_)
      · refine R_iinc hC dX9_starts_91 rfl (inc1 _) (by decide) rfl (R_goto hC 8 dX9_starts_94 (by decide) ?_)
        first
          | exact ih _ _ _ _ _ (hL.s0 (fun z => z.2 h35)) (hM.s0 (fun z => z.2 h35)) (hI.s0 (fun z => z.2 h35))
          | exact ih _ _ _ _ _ (hL.s1 (oj h35) (by omega)) (hM.s1 (oj h35) (by omega)) (hI.s1 hL hM (a1.mp h66) (a2.mp h74))
      · refine R_iconst (v := 1) hC dX9_starts_38 (by decide) (R_aload_n (i := 0) hC dX9_starts_39 rfl rfl (R_iload hC dX9_starts_40 rfl (R_iload hC dX9_starts_42 rfl ?_)))
        refine R_V2i hC hR dX9_starts_44 MV_X9_leaves ml_X9_82 hD.1 rfl (c_leaves hD ha (by omega) hj sj) (by first | decide | omega) ⟨by decide, by decide⟩ (Nat.le_of_ble_eq_true rfl) ?_
        refine R_ishl hC dX9_starts_47 ?_
        refine R_top (y := nI (2 ^ lvA T t c j)) (shl1 (lvA T t c j) (by omega)) ?_
        refine R_istore hC dX9_starts_48 (by decide) rfl (R_iconst (v := 1) hC dX9_starts_50 (by decide) (R_aload_n (i := 0) hC dX9_starts_51 rfl rfl (R_iload hC dX9_starts_52 rfl (R_iload hC dX9_starts_54 rfl ?_))))
        refine R_V2i hC hR dX9_starts_56 MV_X9_reaches ml_X9_85 hD.1 rfl (c_reaches hD ha (by omega) hj sj) (by first | decide | omega) ⟨by decide, by decide⟩ (Nat.le_of_ble_eq_true rfl) ?_
        refine R_ishl hC dX9_starts_59 ?_
        refine R_top (y := nI (2 ^ rcA T t c j)) (shl1 (rcA T t c j) (by omega)) ?_
        refine R_istore hC dX9_starts_60 (by decide) rfl (R_iload_n (i := 3) hC dX9_starts_62 rfl rfl (R_iload hC dX9_starts_63 rfl (R_iand hC dX9_starts_65 ?_)))
        refine R_if_ne hC 77 dX9_starts_66 (by decide) (fun h66 => ?_) (fun h66 => ?_)
        · first
            | exact bad (fun z => h66 (a1.mpr (Bool.eq_false_iff.mpr (fun y => by obtain ⟨r, r1, r2, r3⟩ := (hL.2 _).mp y; exact (z r j (by omega) (by omega) r2 (oj h35) (by omega)).1 r3)))) _ _
            | exact bad (fun z => h74 (a2.mpr (Bool.eq_false_iff.mpr (fun y => by obtain ⟨r, r1, r2, r3⟩ := (hM.2 _).mp y; exact (z r j (by omega) (by omega) r2 (oj h35) (by omega)).2 r3)))) _ _
        · refine R_iload hC dX9_starts_69 rfl (R_iload hC dX9_starts_71 rfl (R_iand hC dX9_starts_73 ?_))
          refine R_if_eq hC 79 dX9_starts_74 (by decide) (fun h74 => ?_) (fun h74 => ?_)
          · refine R_iload_n (i := 3) hC dX9_starts_79 rfl rfl (R_iload hC dX9_starts_80 rfl (R_ior hC dX9_starts_82 ?_))
            refine R_top (y := nI (L ||| 2 ^ lvA T t c j)) ((bt_or L hL.1 _ (by omega)).1) ?_
            refine R_istore_n (i := 3) hC dX9_starts_83 rfl (by decide) rfl (R_iload hC dX9_starts_84 rfl (R_iload hC dX9_starts_86 rfl (R_ior hC dX9_starts_88 ?_)))
            refine R_top (y := nI (R ||| 2 ^ rcA T t c j)) ((bt_or R hM.1 _ (by omega)).1) ?_
            refine R_istore hC dX9_starts_89 (by decide) rfl (R_iinc hC dX9_starts_91 rfl (inc1 _) (by decide) rfl (R_goto hC 8 dX9_starts_94 (by decide) ?_))
            first
              | exact ih _ _ _ _ _ (hL.s0 (fun z => z.2 h35)) (hM.s0 (fun z => z.2 h35)) (hI.s0 (fun z => z.2 h35))
              | exact ih _ _ _ _ _ (hL.s1 (oj h35) (by omega)) (hM.s1 (oj h35) (by omega)) (hI.s1 hL hM (a1.mp h66) (a2.mp h74))
          · first
              | exact bad (fun z => h66 (a1.mpr (Bool.eq_false_iff.mpr (fun y => by obtain ⟨r, r1, r2, r3⟩ := (hL.2 _).mp y; exact (z r j (by omega) (by omega) r2 (oj h35) (by omega)).1 r3)))) _ _
              | exact bad (fun z => h74 (a2.mpr (Bool.eq_false_iff.mpr (fun y => by obtain ⟨r, r1, r2, r3⟩ := (hM.2 _).mp y; exact (z r j (by omega) (by omega) r2 (oj h35) (by omega)).2 r3)))) _ _
  refine R_iconst (v := 0) hC dX9_starts_0 (by decide) (R_istore_n (i := 3) hC dX9_starts_1 rfl (by decide) rfl (R_iconst (v := 0) hC dX9_starts_2 (by decide) (R_istore hC dX9_starts_3 (by decide) rfl (R_iconst (v := 0) hC dX9_starts_5 (by decide) (R_istore hC dX9_starts_6 (by decide) rfl ?_)))))
  exact lp 0 (Nat.zero_le _) 0 0 _ _ _ ⟨by decide, fun u => ⟨fun z => (by rw [Nat.zero_testBit] at z; cases z), fun ⟨r, z, _⟩ => absurd z (Nat.not_lt_zero _)⟩⟩ ⟨by decide, fun u => ⟨fun z => (by rw [Nat.zero_testBit] at z; cases z), fun ⟨r, z, _⟩ => absurd z (Nat.not_lt_zero _)⟩⟩ (fun r q z => absurd z (Nat.not_lt_zero _))
theorem SQ.way {T : tb} {t : tre} {n c : Nat} {v : Int32} (h : SQ T t n c v) (hok : nodOK t n) (hn : n ≤ 6) : (bc5 (bc4 (bc3 (bc2 (bc1 v)))) &&& 63) ≤ 1 ↔ WayP T t n c := by
  rcases h with ⟨S, S1, rfl, hI, hS⟩ | ⟨rfl, hI⟩
  · rw [bc_ok S S1]
    have p7 : pcn S 7 < 2 ^ 31 := by
      have : ∀ k, pcn S k ≤ k := fun k => by
        induction k with
        | zero => exact Nat.le_refl _
        | succ k ih => rw [pcn]; split <;> omega
      have := this 7
      omega
    have e : nI (pcn S 7) ≤ 1 ↔ pcn S 7 ≤ 1 := by
      rw [i32_ge, nI_toInt p7]
      have : (1 : Int32).toInt = 1 := by decide
      omega
    rw [e, pc_one S S1]
    constructor
    · intro z
      refine ⟨fun r q hr hq => hI r q hr.1 hq.1 hr hq, fun r q hr hq => ?_⟩
      have lr := (lv7 (T := T) (c := c) hok hr.1.1).1
      have lq := (lv7 (T := T) (c := c) hok hq.1.1).1
      have := z _ (by omega) _ (by omega) ((hS _).mpr ⟨r, hr, rfl⟩) ((hS _).mpr ⟨q, hq, rfl⟩)
      exact Classical.byContradiction fun ne => (hI r q hr.1.1 hq.1.1 hr.1 hq.1 ne).1 this
    · intro z u _ v _ hu hv
      obtain ⟨r, r1, rfl⟩ := (hS u).mp hu
      obtain ⟨q, q1, rfl⟩ := (hS v).mp hv
      rw [z.2 r q r1 q1]
  · rw [bc_m]
    exact ⟨fun z => absurd z (by decide), fun z => absurd (fun r q _ _ or oq ne => z.1 r q or oq ne) hI⟩
theorem c_areWays {σ : sg} {x : aW} {b m : Nat} {T : tb} {t : tre} (hD : DL b) (hT0 : CT σ (b + 1) T) (ok : ∀ i j, i < T.1 → j < T.2.1 → sml (T.2.2 i j)) (ha : AC σ b t (m + 1)) (hm : m < T.1) (hok : nodOK t (m + 1)) : Mt mX9_areWays 2 0 0 [.ref b, .int (nI m)] (wd σ x) (QI (b2i (WaysP T t (m + 1))) (wd σ x)) := by
  refine Mt.of MI_X9_areWays (Nat.le_of_ble_eq_true rfl) (fun X hC hR hT => ?_)
  obtain ⟨k1, k2, k3, k4, k5⟩ := id hT0
  have lp : ∀ c, c ≤ T.2.1 → (∀ d, d < c → WayP T t (m + 1) d) → Rw mX9_areWays X 2 [some (.ref b), some (.int (nI m)), some (.int (nI c))] [] (wd σ x) 0 0 := by
    refine up_loop T.2.1 ?_ ?_
    · intro hy
      refine R_iload_n (i := 2) hC dX9_areWays_2 rfl rfl (R_aload_n (i := 0) hC dX9_areWays_3 rfl rfl (R_gR hC dX9_areWays_4 fl_X9_12 hD.1 rfl (R_gI hC dX9_areWays_7 fl_X9_67 hD.2.1.1 rfl ?_)))
      refine R_top (y := nI T.2.1) (k2) ?_
      refine R_icmp_ge hC 34 dX9_areWays_10 (by decide) (fun _ => ?_) (fun h => absurd (Int32.le_refl _) h)
      refine R_iconst (v := 1) hC dX9_areWays_34 (by decide) ?_
      exact R_zret hC hT dX9_areWays_35 rfl (by decide) ⟨by rw [b2i_t (show WaysP T t (m + 1) from hy)], rfl⟩
    · intro c hc ih hy
      refine R_iload_n (i := 2) hC dX9_areWays_2 rfl rfl (R_aload_n (i := 0) hC dX9_areWays_3 rfl rfl (R_gR hC dX9_areWays_4 fl_X9_12 hD.1 rfl (R_gI hC dX9_areWays_7 fl_X9_67 hD.2.1.1 rfl ?_)))
      refine R_top (y := nI T.2.1) (k2) ?_
      refine R_icmp_ge hC 34 dX9_areWays_10 (by decide) (fun h => absurd h (nI_ge hc (by omega))) (fun _ => ?_)
      refine R_aload_n (i := 0) hC dX9_areWays_13 rfl rfl (R_iload_n (i := 2) hC dX9_areWays_14 rfl rfl (R_iload_n (i := 1) hC dX9_areWays_15 rfl rfl ?_))
      refine R_V2g hC hR dX9_areWays_16 MV_X9_starts ml_X9_70 hD.1 rfl (c_starts hD hT0 ok ha hm hc hok) (by first | decide | omega) ⟨by decide, by decide⟩ (Nat.le_of_ble_eq_true rfl) (fun r w1 hq => ?_)
      obtain ⟨rfl, v, rfl, sq⟩ := hq
      have sw := sq.way hok (by omega)
      refine R_S1i hC hR dX9_areWays_19 MS_J6_bitCount_0f7a4 ml_X9_73 (c_bitC v _) (by first | decide | omega) ⟨by decide, by decide⟩ (Nat.le_of_ble_eq_true rfl) ?_
      refine R_iconst (v := 1) hC dX9_areWays_22 (by decide) ?_
      refine R_icmp_le hC 28 dX9_areWays_23 (by decide) (fun h23 => ?_) (fun h23 => ?_)
      · refine R_iinc hC dX9_areWays_28 rfl (inc1 _) (by decide) rfl (R_goto hC 2 dX9_areWays_31 (by decide) ?_)
        exact ih (fun d hd => by rcases (by omega : d < c ∨ d = c) with w | rfl; exact hy d w; exact sw.mp h23)
      · refine R_iconst (v := 0) hC dX9_areWays_26 (by decide) ?_
        exact R_zret hC hT dX9_areWays_27 rfl (by decide) ⟨by rw [b2i_f (fun y : WaysP T t (m + 1) => h23 (sw.mpr (y c hc)))], rfl⟩
  refine R_iconst (v := 0) hC dX9_areWays_0 (by decide) (R_istore_n (i := 2) hC dX9_areWays_1 rfl (by decide) rfl ?_)
  exact lp 0 (Nat.zero_le _) (fun d hd => absurd hd (Nat.not_lt_zero _))
