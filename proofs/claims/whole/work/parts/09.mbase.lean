theorem R_top {m : mi} {X : aX} {pc : Nat} {ls : List (Option Value)} {st : List Value} {w : aW} {cl sl : Nat} {x y : Int32} (h : x = y) (k : Rw m X pc ls (.int y :: st) w cl sl) : Rw m X pc ls (.int x :: st) w cl sl := h ▸ k
/-- bits below i -/
def pcn (s : Nat) : Nat → Nat
  | 0 => 0
  | i + 1 => pcn s i + (if s.testBit i then 1 else 0)
def pc6 (s : Nat) : Nat := pcn s 6
theorem bit_at : ∀ s, s < 64 → ∀ i, i < 6 → (nI s >>> (nI i &&& 31)) &&& 1 = (if s.testBit i then 1 else 0) := by decide +kernel
theorem pcn_step {s i : Nat} (hs : s < 64) (hi : i < 6) : nI (pcn s i) + ((nI s >>> (nI i &&& 31)) &&& 1) = nI (pcn s (i + 1)) := by
  rw [bit_at s hs i hi, pcn]
  split
  · exact (nI_succ _).symm
  · simp
theorem dX11_isIn_0 : decode cX11_isIn 0 = .ok (.lload_n 0, 1) := by decide +kernel
theorem dX11_isIn_1 : decode cX11_isIn 1 = .ok (.lload_n 2, 1) := by decide +kernel
theorem dX11_isIn_2 : decode cX11_isIn 2 = .ok (.lcmp, 1) := by decide +kernel
theorem dX11_isIn_3 : decode cX11_isIn 3 = .ok (.ifCond .lt 14, 3) := by decide +kernel
theorem dX11_isIn_6 : decode cX11_isIn 6 = .ok (.lload_n 0, 1) := by decide +kernel
theorem dX11_isIn_7 : decode cX11_isIn 7 = .ok (.lload 4, 2) := by decide +kernel
theorem dX11_isIn_9 : decode cX11_isIn 9 = .ok (.lcmp, 1) := by decide +kernel
theorem dX11_isIn_10 : decode cX11_isIn 10 = .ok (.ifCond .gt 7, 3) := by decide +kernel
theorem dX11_isIn_13 : decode cX11_isIn 13 = .ok (.iconst 1, 1) := by decide +kernel
theorem dX11_isIn_14 : decode cX11_isIn 14 = .ok (.goto 4, 3) := by decide +kernel
theorem dX11_isIn_17 : decode cX11_isIn 17 = .ok (.iconst 0, 1) := by decide +kernel
theorem dX11_isIn_18 : decode cX11_isIn 18 = .ok (.ireturn, 1) := by decide +kernel
theorem dX11_has_0 : decode cX11_has 0 = .ok (.iload_n 0, 1) := by decide +kernel
theorem dX11_has_1 : decode cX11_has 1 = .ok (.iload_n 1, 1) := by decide +kernel
theorem dX11_has_2 : decode cX11_has 2 = .ok (.ishr, 1) := by decide +kernel
theorem dX11_has_3 : decode cX11_has 3 = .ok (.iconst 1, 1) := by decide +kernel
theorem dX11_has_4 : decode cX11_has 4 = .ok (.iand, 1) := by decide +kernel
theorem dX11_has_5 : decode cX11_has 5 = .ok (.iconst 1, 1) := by decide +kernel
theorem dX11_has_6 : decode cX11_has 6 = .ok (.if_icmp .ne 7, 3) := by decide +kernel
theorem dX11_has_9 : decode cX11_has 9 = .ok (.iconst 1, 1) := by decide +kernel
theorem dX11_has_10 : decode cX11_has 10 = .ok (.goto 4, 3) := by decide +kernel
theorem dX11_has_13 : decode cX11_has 13 = .ok (.iconst 0, 1) := by decide +kernel
theorem dX11_has_14 : decode cX11_has 14 = .ok (.ireturn, 1) := by decide +kernel
theorem dX11_sizeOf_0 : decode cX11_sizeOf 0 = .ok (.iconst 0, 1) := by decide +kernel
theorem dX11_sizeOf_1 : decode cX11_sizeOf 1 = .ok (.istore_n 1, 1) := by decide +kernel
theorem dX11_sizeOf_2 : decode cX11_sizeOf 2 = .ok (.iconst 0, 1) := by decide +kernel
theorem dX11_sizeOf_3 : decode cX11_sizeOf 3 = .ok (.istore_n 2, 1) := by decide +kernel
theorem dX11_sizeOf_4 : decode cX11_sizeOf 4 = .ok (.iload_n 2, 1) := by decide +kernel
theorem dX11_sizeOf_5 : decode cX11_sizeOf 5 = .ok (.bipush 6, 2) := by decide +kernel
theorem dX11_sizeOf_7 : decode cX11_sizeOf 7 = .ok (.if_icmp .ge 17, 3) := by decide +kernel
theorem dX11_sizeOf_10 : decode cX11_sizeOf 10 = .ok (.iload_n 1, 1) := by decide +kernel
theorem dX11_sizeOf_11 : decode cX11_sizeOf 11 = .ok (.iload_n 0, 1) := by decide +kernel
theorem dX11_sizeOf_12 : decode cX11_sizeOf 12 = .ok (.iload_n 2, 1) := by decide +kernel
theorem dX11_sizeOf_13 : decode cX11_sizeOf 13 = .ok (.ishr, 1) := by decide +kernel
theorem dX11_sizeOf_14 : decode cX11_sizeOf 14 = .ok (.iconst 1, 1) := by decide +kernel
theorem dX11_sizeOf_15 : decode cX11_sizeOf 15 = .ok (.iand, 1) := by decide +kernel
theorem dX11_sizeOf_16 : decode cX11_sizeOf 16 = .ok (.iadd, 1) := by decide +kernel
theorem dX11_sizeOf_17 : decode cX11_sizeOf 17 = .ok (.istore_n 1, 1) := by decide +kernel
theorem dX11_sizeOf_18 : decode cX11_sizeOf 18 = .ok (.iinc 2 1, 3) := by decide +kernel
theorem dX11_sizeOf_21 : decode cX11_sizeOf 21 = .ok (.goto (-17), 3) := by decide +kernel
theorem dX11_sizeOf_24 : decode cX11_sizeOf 24 = .ok (.iload_n 1, 1) := by decide +kernel
theorem dX11_sizeOf_25 : decode cX11_sizeOf 25 = .ok (.ireturn, 1) := by decide +kernel
theorem dX11_copy_0 : decode cX11_copy 0 = .ok (.iconst 0, 1) := by decide +kernel
theorem dX11_copy_1 : decode cX11_copy 1 = .ok (.istore_n 2, 1) := by decide +kernel
theorem dX11_copy_2 : decode cX11_copy 2 = .ok (.iload_n 2, 1) := by decide +kernel
theorem dX11_copy_3 : decode cX11_copy 3 = .ok (.bipush 38, 2) := by decide +kernel
theorem dX11_copy_5 : decode cX11_copy 5 = .ok (.if_icmp .ge 15, 3) := by decide +kernel
theorem dX11_copy_8 : decode cX11_copy 8 = .ok (.aload_n 1, 1) := by decide +kernel
theorem dX11_copy_9 : decode cX11_copy 9 = .ok (.iload_n 2, 1) := by decide +kernel
theorem dX11_copy_10 : decode cX11_copy 10 = .ok (.aload_n 0, 1) := by decide +kernel
theorem dX11_copy_11 : decode cX11_copy 11 = .ok (.iload_n 2, 1) := by decide +kernel
theorem dX11_copy_12 : decode cX11_copy 12 = .ok (.iaload, 1) := by decide +kernel
theorem dX11_copy_13 : decode cX11_copy 13 = .ok (.iastore, 1) := by decide +kernel
theorem dX11_copy_14 : decode cX11_copy 14 = .ok (.iinc 2 1, 3) := by decide +kernel
theorem dX11_copy_17 : decode cX11_copy 17 = .ok (.goto (-15), 3) := by decide +kernel
theorem dX11_copy_20 : decode cX11_copy 20 = .ok (.return_, 1) := by decide +kernel
theorem dX11_isCell_0 : decode cX11_isCell 0 = .ok (.iload_n 2, 1) := by decide +kernel
theorem dX11_isCell_1 : decode cX11_isCell 1 = .ok (.ifCond .lt 27, 3) := by decide +kernel
theorem dX11_isCell_4 : decode cX11_isCell 4 = .ok (.iload_n 2, 1) := by decide +kernel
theorem dX11_isCell_5 : decode cX11_isCell 5 = .ok (.aload_n 1, 1) := by decide +kernel
theorem dX11_isCell_6 : decode cX11_isCell 6 = .ok (.bipush 36, 2) := by decide +kernel
theorem dX11_isCell_8 : decode cX11_isCell 8 = .ok (.iaload, 1) := by decide +kernel
theorem dX11_isCell_9 : decode cX11_isCell 9 = .ok (.if_icmp .ge 19, 3) := by decide +kernel
theorem dX11_isCell_12 : decode cX11_isCell 12 = .ok (.iload_n 3, 1) := by decide +kernel
theorem dX11_isCell_13 : decode cX11_isCell 13 = .ok (.ifCond .lt 15, 3) := by decide +kernel
theorem dX11_isCell_16 : decode cX11_isCell 16 = .ok (.iload_n 3, 1) := by decide +kernel
theorem dX11_isCell_17 : decode cX11_isCell 17 = .ok (.aload_n 1, 1) := by decide +kernel
theorem dX11_isCell_18 : decode cX11_isCell 18 = .ok (.bipush 37, 2) := by decide +kernel
theorem dX11_isCell_20 : decode cX11_isCell 20 = .ok (.iaload, 1) := by decide +kernel
theorem dX11_isCell_21 : decode cX11_isCell 21 = .ok (.if_icmp .ge 7, 3) := by decide +kernel
theorem dX11_isCell_24 : decode cX11_isCell 24 = .ok (.iconst 1, 1) := by decide +kernel
theorem dX11_isCell_25 : decode cX11_isCell 25 = .ok (.goto 4, 3) := by decide +kernel
theorem dX11_isCell_28 : decode cX11_isCell 28 = .ok (.iconst 0, 1) := by decide +kernel
theorem dX11_isCell_29 : decode cX11_isCell 29 = .ok (.ireturn, 1) := by decide +kernel
theorem s_sizeOf (s : Nat) (hs : s < 64) (w : aW) : Mt mX11_sizeOf 0 0 0 [.int (nI s)] w (QI (nI (pc6 s)) w) := by
  refine Mt.of MI_X11_sizeOf (Nat.le_of_ble_eq_true rfl) (fun X hC hR hT => ?_)
  refine R_iconst (v := 0) hC dX11_sizeOf_0 (by decide) (R_istore_n (i := 1) hC dX11_sizeOf_1 rfl (by decide) rfl (R_iconst (v := 0) hC dX11_sizeOf_2 (by decide) (R_istore_n (i := 2) hC dX11_sizeOf_3 rfl (by decide) rfl ?_)))
  refine up_loop (P := fun i => Rw mX11_sizeOf X 4 [some (.int (nI s)), some (.int (nI (pcn s i))), some (.int (nI i))] [] w 0 0) 6 ?_ ?_ 0 (by decide)
  · refine R_iload_n (i := 2) hC dX11_sizeOf_4 rfl rfl (R_bipush (v := 6) hC dX11_sizeOf_5 (by decide) ?_)
    refine R_icmp_ge hC 24 dX11_sizeOf_7 (by decide) (fun _ => ?_) (fun h => absurd (by decide) h)
    refine R_iload_n (i := 1) hC dX11_sizeOf_24 rfl rfl ?_
    exact R_iret hC hT dX11_sizeOf_25 rfl ⟨rfl, rfl⟩
  · intro i hi ih
    refine R_iload_n (i := 2) hC dX11_sizeOf_4 rfl rfl (R_bipush (v := 6) hC dX11_sizeOf_5 (by decide) ?_)
    refine R_icmp_ge hC 24 dX11_sizeOf_7 (by decide) (fun h => absurd h (nI_ge (b := 6) hi (by decide))) (fun _ => ?_)
    refine R_iload_n (i := 1) hC dX11_sizeOf_10 rfl rfl (R_iload_n (i := 0) hC dX11_sizeOf_11 rfl rfl (R_iload_n (i := 2) hC dX11_sizeOf_12 rfl rfl (R_ishr hC dX11_sizeOf_13 (R_iconst (v := 1) hC dX11_sizeOf_14 (by decide) (R_iand hC dX11_sizeOf_15 ?_)))))
    refine R_iadd hC dX11_sizeOf_16 ?_
    refine R_top (pcn_step hs hi) ?_
    refine R_istore_n (i := 1) hC dX11_sizeOf_17 rfl (by decide) rfl (R_iinc hC dX11_sizeOf_18 rfl (inc1 _) (by decide) rfl (R_goto hC 4 dX11_sizeOf_21 (by decide) ?_))
    exact ih
theorem s_has (s i : Nat) (hs : s < 64) (hi : i < 6) (w : aW) : Mt mX11_has 0 0 0 [.int (nI s), .int (nI i)] w (QI (if s.testBit i then 1 else 0) w) := by
  refine Mt.of MI_X11_has (Nat.le_of_ble_eq_true rfl) (fun X hC hR hT => ?_)
  refine R_iload_n (i := 0) hC dX11_has_0 rfl rfl (R_iload_n (i := 1) hC dX11_has_1 rfl rfl (R_ishr hC dX11_has_2 (R_iconst (v := 1) hC dX11_has_3 (by decide) (R_iand hC dX11_has_4 ?_))))
  refine R_top (bit_at s hs i hi) ?_
  by_cases hb : s.testBit i = true
  · rw [if_pos hb]
    refine R_iconst (v := 1) hC dX11_has_5 (by decide) ?_
    refine R_icmp_ne hC 13 dX11_has_6 (by decide) (fun h => absurd (by decide) h) (fun _ => ?_)
    refine R_iconst (v := 1) hC dX11_has_9 (by decide) (R_goto hC 14 dX11_has_10 (by decide) ?_)
    exact R_zret hC hT dX11_has_14 rfl (by decide) ⟨by rw [if_pos hb], rfl⟩
  · rw [if_neg hb]
    refine R_iconst (v := 1) hC dX11_has_5 (by decide) ?_
    refine R_icmp_ne hC 13 dX11_has_6 (by decide) (fun _ => ?_) (fun h => absurd h (by decide))
    refine R_iconst (v := 0) hC dX11_has_13 (by decide) ?_
    exact R_zret hC hT dX11_has_14 rfl (by decide) ⟨by rw [if_neg hb], rfl⟩
theorem cmp_lt {x y : Int64} : lg_cmp x y < 0 ↔ x.toInt < y.toInt := (lg_cmp_lt x y).trans Int64.lt_iff_toInt_lt
theorem cmp_gt {x y : Int64} : 0 < lg_cmp x y ↔ y.toInt < x.toInt := (lg_cmp_gt x y).trans Int64.lt_iff_toInt_lt
theorem s_isIn (v a b : Int64) (w : aW) : Mt mX11_isIn 0 0 0 [.long v, .long a, .long b] w (QI (if a.toInt ≤ v.toInt ∧ v.toInt ≤ b.toInt then 1 else 0) w) := by
  refine Mt.of MI_X11_isIn (Nat.le_of_ble_eq_true rfl) (fun X hC hR hT => ?_)
  refine R_lload_n (i := 0) hC dX11_isIn_0 rfl rfl (R_lload_n (i := 2) hC dX11_isIn_1 rfl rfl (R_lcmp hC dX11_isIn_2 ?_))
  refine R_if_lt hC 17 dX11_isIn_3 (by decide) (fun h => ?_) (fun h => ?_)
  · have h := cmp_lt.mp h
    refine R_iconst (v := 0) hC dX11_isIn_17 (by decide) ?_
    exact R_zret hC hT dX11_isIn_18 rfl (by decide) ⟨by rw [if_neg (by omega)], rfl⟩
  · have h := mt cmp_lt.mpr h
    refine R_lload_n (i := 0) hC dX11_isIn_6 rfl rfl (R_lload hC dX11_isIn_7 rfl (R_lcmp hC dX11_isIn_9 ?_))
    refine R_if_gt hC 17 dX11_isIn_10 (by decide) (fun h2 => ?_) (fun h2 => ?_)
    · have h2 := cmp_gt.mp h2
      refine R_iconst (v := 0) hC dX11_isIn_17 (by decide) ?_
      exact R_zret hC hT dX11_isIn_18 rfl (by decide) ⟨by rw [if_neg (by omega)], rfl⟩
    · have h2 := mt cmp_gt.mpr h2
      refine R_iconst (v := 1) hC dX11_isIn_13 (by decide) (R_goto hC 18 dX11_isIn_14 (by decide) ?_)
      exact R_zret hC hT dX11_isIn_18 rfl (by decide) ⟨by rw [if_pos (by omega)], rfl⟩
/-- isIn of an int -/
theorem s_isInI (v : Int32) (a b : Int64) (w : aW) : Mt mX11_isIn 0 0 0 [.long v.toInt64, .long a, .long b] w (QI (if a.toInt ≤ v.toInt ∧ v.toInt ≤ b.toInt then 1 else 0) w) := by
  have h := s_isIn v.toInt64 a b w
  rwa [Int32.toInt_toInt64] at h
theorem R_wd {m : mi} {X : aX} {pc : Nat} {ls : List (Option Value)} {st : List Value} {σ τ : sg} {x : aW} {cl sl : Nat} (h : σ = τ) (k : Rw m X pc ls st (wd τ x) cl sl) : Rw m X pc ls st (wd σ x) cl sl := h ▸ k
theorem sA_sA (σ : sg) (i : Nat) (f g : Nat → Int32) : sA (sA σ i f) i g = sA σ i g := by
  unfold sA
  refine Prod.ext rfl (Prod.ext rfl (funext fun a => ?_))
  show (if a = i then g else if a = i then f else σ.2.2 a) = if a = i then g else σ.2.2 a
  split <;> rfl
theorem sA_eq (σ : sg) (i : Nat) (f : Nat → Int32) : (sA σ i f).2.2 i = f := if_pos rfl
theorem sA_ne {σ : sg} {i a : Nat} {f : Nat → Int32} (h : a ≠ i) : (sA σ i f).2.2 a = σ.2.2 a := if_neg h
theorem sA_self (σ : sg) (i : Nat) : sA σ i (σ.2.2 i) = σ := by
  unfold sA
  refine Prod.ext rfl (Prod.ext rfl (funext fun a => ?_))
  show (if a = i then σ.2.2 i else σ.2.2 a) = σ.2.2 a
  split
  · rename_i h; rw [h]
  · rfl
def cpy (f g : Nat → Int32) (n : Nat) : Nat → Int32 := fun k => if k < n then f k else g k
theorem cpy_0 (f g : Nat → Int32) : cpy f g 0 = g := by funext k; simp [cpy]
theorem cpy_s (f g : Nat → Int32) (n : Nat) : upd (cpy f g n) n (f n) = cpy f g (n + 1) := by
  funext k
  unfold upd cpy
  by_cases h : k = n
  · subst h; simp
  · rw [if_neg h]
    by_cases h2 : k < n
    · rw [if_pos h2, if_pos (by omega)]
    · rw [if_neg h2, if_neg (by omega)]
theorem s_copy (σ : sg) (x : aW) (i j : Nat) (hi : LY i (0, 38, [])) (hj : LY j (0, 38, [])) (hne : i ≠ j) : Mt mX11_copy 0 0 0 [.ref i, .ref j] (wd σ x) (QV (wd (sA σ j (cpy (σ.2.2 i) (σ.2.2 j) 38)) x)) := by
  refine Mt.of MI_X11_copy (Nat.le_of_ble_eq_true rfl) (fun X hC hR hT => ?_)
  refine R_iconst (v := 0) hC dX11_copy_0 (by decide) (R_istore_n (i := 2) hC dX11_copy_1 rfl (by decide) rfl ?_)
  refine R_wd (τ := sA σ j (cpy (σ.2.2 i) (σ.2.2 j) 0)) (by rw [cpy_0, sA_self]) ?_
  refine up_loop (P := fun n => Rw mX11_copy X 2 [some (.ref i), some (.ref j), some (.int (nI n))] [] (wd (sA σ j (cpy (σ.2.2 i) (σ.2.2 j) n)) x) 0 0) 38 ?_ ?_ 0 (by decide)
  · refine R_iload_n (i := 2) hC dX11_copy_2 rfl rfl (R_bipush (v := 38) hC dX11_copy_3 (by decide) ?_)
    refine R_icmp_ge hC 20 dX11_copy_5 (by decide) (fun _ => ?_) (fun h => absurd (by decide) h)
    exact R_vret hC hT dX11_copy_20 rfl ⟨rfl, rfl⟩
  · intro n hn ih
    refine R_iload_n (i := 2) hC dX11_copy_2 rfl rfl (R_bipush (v := 38) hC dX11_copy_3 (by decide) ?_)
    refine R_icmp_ge hC 20 dX11_copy_5 (by decide) (fun h => absurd h (nI_ge (b := 38) hn (by decide))) (fun _ => ?_)
    refine R_aload_n (i := 1) hC dX11_copy_8 rfl rfl (R_iload_n (i := 2) hC dX11_copy_9 rfl rfl (R_aload_n (i := 0) hC dX11_copy_10 rfl rfl (R_iload_n (i := 2) hC dX11_copy_11 rfl rfl (R_aI hC dX11_copy_12 hi _ rfl (by omega) (by decide) ?_))))
    refine R_top (y := σ.2.2 i n) (by rw [sA_ne hne]) ?_
    refine R_sI hC dX11_copy_13 hj _ rfl (by omega) (by decide) ?_
    refine R_wd (by rw [sA_eq, sA_sA, cpy_s]) ?_
    refine R_iinc hC dX11_copy_14 rfl (inc1 _) (by decide) rfl (R_goto hC 2 dX11_copy_17 (by decide) ?_)
    exact ih
/-- a row of 38: rows at 36, columns at 37 -/
def inT (f : Nat → Int32) (r c : Int32) : Prop := 0 ≤ r.toInt ∧ r.toInt < (f 36).toInt ∧ 0 ≤ c.toInt ∧ c.toInt < (f 37).toInt
theorem i32_ge {a b : Int32} : a ≤ b ↔ a.toInt ≤ b.toInt := Int32.le_iff_toInt_le
theorem i32_lt {a b : Int32} : a < b ↔ a.toInt < b.toInt := Int32.lt_iff_toInt_lt
noncomputable def b2i (p : Prop) : Int32 := by classical exact if p then 1 else 0
theorem b2i_t {p : Prop} (h : p) : b2i p = 1 := by unfold b2i; simp [h]
theorem b2i_f {p : Prop} (h : ¬ p) : b2i p = 0 := by unfold b2i; simp [h]
theorem s_isCell (σ : sg) (x : aW) (t : Nat) (ht : LY t (0, 38, [])) (r c : Int32) : Mt mX11_isCell 0 0 0 [.ref i_M, .ref t, .int r, .int c] (wd σ x) (QI (b2i (inT (σ.2.2 t) r c)) (wd σ x)) := by
  refine Mt.of MI_X11_isCell (Nat.le_of_ble_eq_true rfl) (fun X hC hR hT => ?_)
  refine R_iload_n (i := 2) hC dX11_isCell_0 rfl rfl ?_
  refine R_if_lt hC 28 dX11_isCell_1 (by decide) (fun h => ?_) (fun h => ?_)
  · have h := i32_lt.mp h
    refine R_iconst (v := 0) hC dX11_isCell_28 (by decide) ?_
    exact R_zret hC hT dX11_isCell_29 rfl (by decide) ⟨by rw [b2i_f]; intro q; have := q.1; simp at h; omega, rfl⟩
  · have h1 := mt i32_lt.mpr h
    refine R_iload_n (i := 2) hC dX11_isCell_4 rfl rfl (R_aload_n (i := 1) hC dX11_isCell_5 rfl rfl (R_bipush (v := 36) hC dX11_isCell_6 (by decide) (R_aI hC dX11_isCell_8 ht 36 rfl (by decide) (by decide) ?_)))
    refine R_icmp_ge hC 28 dX11_isCell_9 (by decide) (fun h => ?_) (fun h => ?_)
    · have h := i32_ge.mp h
      refine R_iconst (v := 0) hC dX11_isCell_28 (by decide) ?_
      exact R_zret hC hT dX11_isCell_29 rfl (by decide) ⟨by rw [b2i_f]; intro q; have := q.2.1; omega, rfl⟩
    · have h2 := mt i32_ge.mpr h
      refine R_iload_n (i := 3) hC dX11_isCell_12 rfl rfl ?_
      refine R_if_lt hC 28 dX11_isCell_13 (by decide) (fun h => ?_) (fun h => ?_)
      · have h := i32_lt.mp h
        refine R_iconst (v := 0) hC dX11_isCell_28 (by decide) ?_
        exact R_zret hC hT dX11_isCell_29 rfl (by decide) ⟨by rw [b2i_f]; intro q; have := q.2.2.1; simp at h; omega, rfl⟩
      · have h3 := mt i32_lt.mpr h
        refine R_iload_n (i := 3) hC dX11_isCell_16 rfl rfl (R_aload_n (i := 1) hC dX11_isCell_17 rfl rfl (R_bipush (v := 37) hC dX11_isCell_18 (by decide) (R_aI hC dX11_isCell_20 ht 37 rfl (by decide) (by decide) ?_)))
        refine R_icmp_ge hC 28 dX11_isCell_21 (by decide) (fun h => ?_) (fun h => ?_)
        · have h := i32_ge.mp h
          refine R_iconst (v := 0) hC dX11_isCell_28 (by decide) ?_
          exact R_zret hC hT dX11_isCell_29 rfl (by decide) ⟨by rw [b2i_f]; intro q; have := q.2.2.2; omega, rfl⟩
        · have h4 := mt i32_ge.mpr h
          refine R_iconst (v := 1) hC dX11_isCell_24 (by decide) (R_goto hC 29 dX11_isCell_25 (by decide) ?_)
          exact R_zret hC hT dX11_isCell_29 rfl (by decide) ⟨by rw [b2i_t]; simp at h1 h3; exact ⟨h1, by omega, h3, by omega⟩, rfl⟩
