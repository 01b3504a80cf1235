/-! ===== the class's cells: what stays, what a table's object holds ===== -/
def TL (a : Nat) : Prop := LY a (2, 7, [(0, 0), (0, 0), (2, a + 1)]) ∧ LY (a + 1) (0, 36, [])
def Sm (σ τ : sg) (i : Nat) : Prop := τ.1 i = σ.1 i ∧ τ.2.1 i = σ.2.1 i ∧ τ.2.2 i = σ.2.2 i
/-- all cells but those of L are the same -/
def AE (L : List Nat) (σ τ : sg) : Prop := ∀ i, i ∉ L → Sm σ τ i
theorem AE.rf (L : List Nat) (σ : sg) : AE L σ σ := fun _ _ => ⟨rfl, rfl, rfl⟩
theorem AE.tr {L : List Nat} {σ τ υ : sg} (h : AE L σ τ) (k : AE L τ υ) : AE L σ υ := fun i hi => ⟨(k i hi).1.trans (h i hi).1, (k i hi).2.1.trans (h i hi).2.1, (k i hi).2.2.trans (h i hi).2.2⟩
theorem AE.w {L M : List Nat} {σ τ : sg} (h : AE L σ τ) (s : ∀ i, i ∈ L → i ∈ M) : AE M σ τ := fun i hi => h i (fun q => hi (s i q))
theorem AE.g {L : List Nat} {σ τ : sg} {i k : Nat} {v : Int32} (h : AE L σ τ) (hi : i ∈ L) : AE L σ (sG τ i k v) := h.tr fun j hj => ⟨by funext b; exact sG_ni (fun e => hj (e ▸ hi)), rfl, rfl⟩
theorem AE.l {L : List Nat} {σ τ : sg} {i : Nat} {v : Int64} (h : AE L σ τ) (hi : i ∈ L) : AE L σ (sL τ i v) := h.tr fun j hj => ⟨rfl, if_neg (fun e : j = i => hj (e ▸ hi)), rfl⟩
theorem AE.a {L : List Nat} {σ τ : sg} {i : Nat} {f : Nat → Int32} (h : AE L σ τ) (hi : i ∈ L) : AE L σ (sA τ i f) := h.tr fun j hj => ⟨rfl, rfl, sA_ne (fun e => hj (e ▸ hi))⟩
theorem AE.cl {L M : List Nat} {σ τ υ : sg} (h : AE L σ τ) (k : AE M τ υ) (s : ∀ i, i ∈ M → i ∈ L) : AE L σ υ := h.tr (k.w s)
theorem m1 (a b : Nat) : a ∈ [a, b] := List.mem_cons_self
theorem m2 (a b : Nat) : b ∈ [a, b] := List.mem_cons_of_mem _ List.mem_cons_self
theorem sub0 {L : List Nat} {a b : Nat} (h1 : a ∈ L) (h2 : b ∈ L) : ∀ i, i ∈ [a, b] → i ∈ L := fun i hi => by
  rcases List.mem_cons.mp hi with rfl | hi
  · exact h1
  · rw [List.mem_singleton.mp hi]; exact h2
/-- the object at a holds a table -/
def CT (σ : sg) (a : Nat) (T : tb) : Prop := σ.1 a 0 = nI T.1 ∧ σ.1 a 1 = nI T.2.1 ∧ T.1 ≤ 6 ∧ T.2.1 ≤ 6 ∧ ∀ i j, i < T.1 → j < T.2.1 → σ.2.2 (a + 1) (6 * i + j) = T.2.2 i j
theorem CT.of {σ τ : sg} {a : Nat} {T : tb} (h : CT σ a T) (s0 : τ.1 a = σ.1 a) (s1 : τ.2.2 (a + 1) = σ.2.2 (a + 1)) : CT τ a T := by
  unfold CT; rw [s0, s1]; exact h
theorem CT.ae {L : List Nat} {σ τ : sg} {a : Nat} {T : tb} (h : CT σ a T) (k : AE L σ τ) (h1 : a ∉ L) (h2 : a + 1 ∉ L) : CT τ a T := h.of (k a h1).1 (k (a + 1) h2).2.2
theorem CT.cg {σ : sg} {a : Nat} {T : tb} {f : Nat → Nat → Int32} (h : CT σ a T) (e : ∀ i j, i < T.1 → j < T.2.1 → f i j = T.2.2 i j) : CT σ a (T.1, T.2.1, f) := ⟨h.1, h.2.1, h.2.2.1, h.2.2.2.1, fun i j hi hj => (h.2.2.2.2 i j hi hj).trans (e i j hi hj).symm⟩
theorem CT.put {σ : sg} {a : Nat} {T : tb} (h : CT σ a T) {i j : Nat} (hj : j < T.2.1) (v : Int32) : CT (sA σ (a + 1) (upd (σ.2.2 (a + 1)) (6 * i + j) v)) a (tset T i j v) := by
  obtain ⟨h1, h2, h3, h4, h5⟩ := h
  refine ⟨h1, h2, h3, h4, fun p q hp hq => ?_⟩
  have hp : p < T.1 := hp
  have hq : q < T.2.1 := hq
  rw [sA_eq]
  show upd _ _ _ _ = if p = i ∧ q = j then v else T.2.2 p q
  unfold upd
  by_cases e : p = i ∧ q = j
  · rw [if_pos e, if_pos (by rw [e.1, e.2])]
  · rw [if_neg e, if_neg (by omega)]; exact h5 p q hp hq
theorem TL.ne {a b : Nat} (h : TL a) (k : TL b) (e : a ≠ b) : a ≠ b + 1 ∧ a + 1 ≠ b ∧ a + 1 ≠ b + 1 := by
  refine ⟨fun q => ?_, fun q => ?_, by omega⟩
  · have h1 := h.1.2.2; have k1 := k.2.2.2; rw [q, k1] at h1; simp at h1
  · have h1 := h.2.2.2; have k1 := k.1.2.2; rw [q, k1] at h1; simp at h1
/-- the end of a method that works on the table at a alone -/
def TQ (σ : sg) (x : aW) (a : Nat) (T : tb) (v : Option Value) : Option Value → aW → Prop := fun r w => r = v ∧ ∃ τ, w = wd τ x ∧ AE [a, a + 1] σ τ ∧ CT τ a T
theorem n6b (r c : Nat) : nI r * (6 : Int32) + nI c = nI (6 * r + c) := by rw [Int32.mul_comm, n6]
noncomputable def atZ (T : tb) (r c : Int32) : Int32 := by classical exact if inR T.1 r ∧ inR T.2.1 c then T.2.2 r.toNatClampNeg c.toNatClampNeg else 0
theorem atZ_n {T : tb} {r c : Int32} (h : ¬ (inR T.1 r ∧ inR T.2.1 c)) : atZ T r c = 0 := by unfold atZ; rw [if_neg h]
theorem atZ_y {T : tb} {r c : Int32} (h : inR T.1 r ∧ inR T.2.1 c) : atZ T r c = T.2.2 r.toNatClampNeg c.toNatClampNeg := by unfold atZ; rw [if_pos h]
theorem atZ_i {T : tb} {i j : Nat} (h6 : T.1 ≤ 6) (h7 : T.2.1 ≤ 6) (hi : i < T.1) (hj : j < T.2.1) : atZ T (nI i) (nI j) = T.2.2 i j := by
  rw [atZ_y ⟨inR_n hi h6, inR_n hj h7⟩, nI_clamp (by omega), nI_clamp (by omega)]
theorem dX7_isNone_0 : decode cX7_isNone 0 = .ok (.aload_n 0, 1) := by decide +kernel
theorem dX7_isNone_1 : decode cX7_isNone 1 = .ok (.getfield 15, 3) := by decide +kernel
theorem dX7_isNone_4 : decode cX7_isNone 4 = .ok (.ifCond .ne 7, 3) := by decide +kernel
theorem dX7_isNone_7 : decode cX7_isNone 7 = .ok (.iconst 1, 1) := by decide +kernel
theorem dX7_isNone_8 : decode cX7_isNone 8 = .ok (.goto 4, 3) := by decide +kernel
theorem dX7_isNone_11 : decode cX7_isNone 11 = .ok (.iconst 0, 1) := by decide +kernel
theorem dX7_isNone_12 : decode cX7_isNone 12 = .ok (.ireturn, 1) := by decide +kernel
theorem dX7_has_0 : decode cX7_has 0 = .ok (.iload_n 1, 1) := by decide +kernel
theorem dX7_has_1 : decode cX7_has 1 = .ok (.ifCond .lt 27, 3) := by decide +kernel
theorem dX7_has_4 : decode cX7_has 4 = .ok (.iload_n 1, 1) := by decide +kernel
theorem dX7_has_5 : decode cX7_has 5 = .ok (.aload_n 0, 1) := by decide +kernel
theorem dX7_has_6 : decode cX7_has 6 = .ok (.getfield 15, 3) := by decide +kernel
theorem dX7_has_9 : decode cX7_has 9 = .ok (.if_icmp .ge 19, 3) := by decide +kernel
theorem dX7_has_12 : decode cX7_has 12 = .ok (.iload_n 2, 1) := by decide +kernel
theorem dX7_has_13 : decode cX7_has 13 = .ok (.ifCond .lt 15, 3) := by decide +kernel
theorem dX7_has_16 : decode cX7_has 16 = .ok (.iload_n 2, 1) := by decide +kernel
theorem dX7_has_17 : decode cX7_has 17 = .ok (.aload_n 0, 1) := by decide +kernel
theorem dX7_has_18 : decode cX7_has 18 = .ok (.getfield 19, 3) := by decide +kernel
theorem dX7_has_21 : decode cX7_has 21 = .ok (.if_icmp .ge 7, 3) := by decide +kernel
theorem dX7_has_24 : decode cX7_has 24 = .ok (.iconst 1, 1) := by decide +kernel
theorem dX7_has_25 : decode cX7_has 25 = .ok (.goto 4, 3) := by decide +kernel
theorem dX7_has_28 : decode cX7_has 28 = .ok (.iconst 0, 1) := by decide +kernel
theorem dX7_has_29 : decode cX7_has 29 = .ok (.ireturn, 1) := by decide +kernel
theorem dX7_hasRowSet_0 : decode cX7_hasRowSet 0 = .ok (.aload_n 0, 1) := by decide +kernel
theorem dX7_hasRowSet_1 : decode cX7_hasRowSet 1 = .ok (.getfield 15, 3) := by decide +kernel
theorem dX7_hasRowSet_4 : decode cX7_hasRowSet 4 = .ok (.ifCond .le 21, 3) := by decide +kernel
theorem dX7_hasRowSet_7 : decode cX7_hasRowSet 7 = .ok (.iload_n 1, 1) := by decide +kernel
theorem dX7_hasRowSet_8 : decode cX7_hasRowSet 8 = .ok (.ifCond .lt 17, 3) := by decide +kernel
theorem dX7_hasRowSet_11 : decode cX7_hasRowSet 11 = .ok (.iload_n 1, 1) := by decide +kernel
theorem dX7_hasRowSet_12 : decode cX7_hasRowSet 12 = .ok (.iconst 1, 1) := by decide +kernel
theorem dX7_hasRowSet_13 : decode cX7_hasRowSet 13 = .ok (.aload_n 0, 1) := by decide +kernel
theorem dX7_hasRowSet_14 : decode cX7_hasRowSet 14 = .ok (.getfield 15, 3) := by decide +kernel
theorem dX7_hasRowSet_17 : decode cX7_hasRowSet 17 = .ok (.ishl, 1) := by decide +kernel
theorem dX7_hasRowSet_18 : decode cX7_hasRowSet 18 = .ok (.if_icmp .ge 7, 3) := by decide +kernel
theorem dX7_hasRowSet_21 : decode cX7_hasRowSet 21 = .ok (.iconst 1, 1) := by decide +kernel
theorem dX7_hasRowSet_22 : decode cX7_hasRowSet 22 = .ok (.goto 4, 3) := by decide +kernel
theorem dX7_hasRowSet_25 : decode cX7_hasRowSet 25 = .ok (.iconst 0, 1) := by decide +kernel
theorem dX7_hasRowSet_26 : decode cX7_hasRowSet 26 = .ok (.ireturn, 1) := by decide +kernel
theorem dX7_hasColumnSet_0 : decode cX7_hasColumnSet 0 = .ok (.aload_n 0, 1) := by decide +kernel
theorem dX7_hasColumnSet_1 : decode cX7_hasColumnSet 1 = .ok (.getfield 19, 3) := by decide +kernel
theorem dX7_hasColumnSet_4 : decode cX7_hasColumnSet 4 = .ok (.ifCond .le 21, 3) := by decide +kernel
theorem dX7_hasColumnSet_7 : decode cX7_hasColumnSet 7 = .ok (.iload_n 1, 1) := by decide +kernel
theorem dX7_hasColumnSet_8 : decode cX7_hasColumnSet 8 = .ok (.ifCond .lt 17, 3) := by decide +kernel
theorem dX7_hasColumnSet_11 : decode cX7_hasColumnSet 11 = .ok (.iload_n 1, 1) := by decide +kernel
theorem dX7_hasColumnSet_12 : decode cX7_hasColumnSet 12 = .ok (.iconst 1, 1) := by decide +kernel
theorem dX7_hasColumnSet_13 : decode cX7_hasColumnSet 13 = .ok (.aload_n 0, 1) := by decide +kernel
theorem dX7_hasColumnSet_14 : decode cX7_hasColumnSet 14 = .ok (.getfield 19, 3) := by decide +kernel
theorem dX7_hasColumnSet_17 : decode cX7_hasColumnSet 17 = .ok (.ishl, 1) := by decide +kernel
theorem dX7_hasColumnSet_18 : decode cX7_hasColumnSet 18 = .ok (.if_icmp .ge 7, 3) := by decide +kernel
theorem dX7_hasColumnSet_21 : decode cX7_hasColumnSet 21 = .ok (.iconst 1, 1) := by decide +kernel
theorem dX7_hasColumnSet_22 : decode cX7_hasColumnSet 22 = .ok (.goto 4, 3) := by decide +kernel
theorem dX7_hasColumnSet_25 : decode cX7_hasColumnSet 25 = .ok (.iconst 0, 1) := by decide +kernel
theorem dX7_hasColumnSet_26 : decode cX7_hasColumnSet 26 = .ok (.ireturn, 1) := by decide +kernel
theorem dX7_at_0 : decode cX7_at 0 = .ok (.iload_n 1, 1) := by decide +kernel
theorem dX7_at_1 : decode cX7_at 1 = .ok (.ifCond .lt 23, 3) := by decide +kernel
theorem dX7_at_4 : decode cX7_at 4 = .ok (.iload_n 1, 1) := by decide +kernel
theorem dX7_at_5 : decode cX7_at 5 = .ok (.aload_n 0, 1) := by decide +kernel
theorem dX7_at_6 : decode cX7_at 6 = .ok (.getfield 15, 3) := by decide +kernel
theorem dX7_at_9 : decode cX7_at 9 = .ok (.if_icmp .ge 15, 3) := by decide +kernel
theorem dX7_at_12 : decode cX7_at 12 = .ok (.iload_n 2, 1) := by decide +kernel
theorem dX7_at_13 : decode cX7_at 13 = .ok (.ifCond .lt 11, 3) := by decide +kernel
theorem dX7_at_16 : decode cX7_at 16 = .ok (.iload_n 2, 1) := by decide +kernel
theorem dX7_at_17 : decode cX7_at 17 = .ok (.aload_n 0, 1) := by decide +kernel
theorem dX7_at_18 : decode cX7_at 18 = .ok (.getfield 19, 3) := by decide +kernel
theorem dX7_at_21 : decode cX7_at 21 = .ok (.if_icmp .lt 5, 3) := by decide +kernel
theorem dX7_at_24 : decode cX7_at 24 = .ok (.iconst 0, 1) := by decide +kernel
theorem dX7_at_25 : decode cX7_at 25 = .ok (.ireturn, 1) := by decide +kernel
theorem dX7_at_26 : decode cX7_at 26 = .ok (.aload_n 0, 1) := by decide +kernel
theorem dX7_at_27 : decode cX7_at 27 = .ok (.getfield 9, 3) := by decide +kernel
theorem dX7_at_30 : decode cX7_at 30 = .ok (.iload_n 1, 1) := by decide +kernel
theorem dX7_at_31 : decode cX7_at 31 = .ok (.bipush 6, 2) := by decide +kernel
theorem dX7_at_33 : decode cX7_at 33 = .ok (.imul, 1) := by decide +kernel
theorem dX7_at_34 : decode cX7_at 34 = .ok (.iload_n 2, 1) := by decide +kernel
theorem dX7_at_35 : decode cX7_at 35 = .ok (.iadd, 1) := by decide +kernel
theorem dX7_at_36 : decode cX7_at 36 = .ok (.iaload, 1) := by decide +kernel
theorem dX7_at_37 : decode cX7_at 37 = .ok (.ireturn, 1) := by decide +kernel
theorem dX7_put_0 : decode cX7_put 0 = .ok (.iload_n 1, 1) := by decide +kernel
theorem dX7_put_1 : decode cX7_put 1 = .ok (.ifCond .lt 35, 3) := by decide +kernel
theorem dX7_put_4 : decode cX7_put 4 = .ok (.iload_n 1, 1) := by decide +kernel
theorem dX7_put_5 : decode cX7_put 5 = .ok (.aload_n 0, 1) := by decide +kernel
theorem dX7_put_6 : decode cX7_put 6 = .ok (.getfield 15, 3) := by decide +kernel
theorem dX7_put_9 : decode cX7_put 9 = .ok (.if_icmp .ge 27, 3) := by decide +kernel
theorem dX7_put_12 : decode cX7_put 12 = .ok (.iload_n 2, 1) := by decide +kernel
theorem dX7_put_13 : decode cX7_put 13 = .ok (.ifCond .lt 23, 3) := by decide +kernel
theorem dX7_put_16 : decode cX7_put 16 = .ok (.iload_n 2, 1) := by decide +kernel
theorem dX7_put_17 : decode cX7_put 17 = .ok (.aload_n 0, 1) := by decide +kernel
theorem dX7_put_18 : decode cX7_put 18 = .ok (.getfield 19, 3) := by decide +kernel
theorem dX7_put_21 : decode cX7_put 21 = .ok (.if_icmp .ge 15, 3) := by decide +kernel
theorem dX7_put_24 : decode cX7_put 24 = .ok (.aload_n 0, 1) := by decide +kernel
theorem dX7_put_25 : decode cX7_put 25 = .ok (.getfield 9, 3) := by decide +kernel
theorem dX7_put_28 : decode cX7_put 28 = .ok (.iload_n 1, 1) := by decide +kernel
theorem dX7_put_29 : decode cX7_put 29 = .ok (.bipush 6, 2) := by decide +kernel
theorem dX7_put_31 : decode cX7_put 31 = .ok (.imul, 1) := by decide +kernel
theorem dX7_put_32 : decode cX7_put 32 = .ok (.iload_n 2, 1) := by decide +kernel
theorem dX7_put_33 : decode cX7_put 33 = .ok (.iadd, 1) := by decide +kernel
theorem dX7_put_34 : decode cX7_put 34 = .ok (.iload_n 3, 1) := by decide +kernel
theorem dX7_put_35 : decode cX7_put 35 = .ok (.iastore, 1) := by decide +kernel
theorem dX7_put_36 : decode cX7_put 36 = .ok (.return_, 1) := by decide +kernel
theorem dX7_copyFrom_0 : decode cX7_copyFrom 0 = .ok (.aload_n 0, 1) := by decide +kernel
theorem dX7_copyFrom_1 : decode cX7_copyFrom 1 = .ok (.aload_n 1, 1) := by decide +kernel
theorem dX7_copyFrom_2 : decode cX7_copyFrom 2 = .ok (.getfield 15, 3) := by decide +kernel
theorem dX7_copyFrom_5 : decode cX7_copyFrom 5 = .ok (.putfield 15, 3) := by decide +kernel
theorem dX7_copyFrom_8 : decode cX7_copyFrom 8 = .ok (.aload_n 0, 1) := by decide +kernel
theorem dX7_copyFrom_9 : decode cX7_copyFrom 9 = .ok (.aload_n 1, 1) := by decide +kernel
theorem dX7_copyFrom_10 : decode cX7_copyFrom 10 = .ok (.getfield 19, 3) := by decide +kernel
theorem dX7_copyFrom_13 : decode cX7_copyFrom 13 = .ok (.putfield 19, 3) := by decide +kernel
theorem dX7_copyFrom_16 : decode cX7_copyFrom 16 = .ok (.aload_n 1, 1) := by decide +kernel
theorem dX7_copyFrom_17 : decode cX7_copyFrom 17 = .ok (.getfield 9, 3) := by decide +kernel
theorem dX7_copyFrom_20 : decode cX7_copyFrom 20 = .ok (.iconst 0, 1) := by decide +kernel
theorem dX7_copyFrom_21 : decode cX7_copyFrom 21 = .ok (.aload_n 0, 1) := by decide +kernel
theorem dX7_copyFrom_22 : decode cX7_copyFrom 22 = .ok (.getfield 9, 3) := by decide +kernel
theorem dX7_copyFrom_25 : decode cX7_copyFrom 25 = .ok (.iconst 0, 1) := by decide +kernel
theorem dX7_copyFrom_26 : decode cX7_copyFrom 26 = .ok (.bipush 36, 2) := by decide +kernel
theorem dX7_copyFrom_28 : decode cX7_copyFrom 28 = .ok (.invokestatic 22, 3) := by decide +kernel
theorem dX7_copyFrom_31 : decode cX7_copyFrom 31 = .ok (.return_, 1) := by decide +kernel
theorem dX7_clear_0 : decode cX7_clear 0 = .ok (.aload_n 0, 1) := by decide +kernel
theorem dX7_clear_1 : decode cX7_clear 1 = .ok (.iload_n 1, 1) := by decide +kernel
theorem dX7_clear_2 : decode cX7_clear 2 = .ok (.putfield 15, 3) := by decide +kernel
theorem dX7_clear_5 : decode cX7_clear 5 = .ok (.aload_n 0, 1) := by decide +kernel
theorem dX7_clear_6 : decode cX7_clear 6 = .ok (.iload_n 2, 1) := by decide +kernel
theorem dX7_clear_7 : decode cX7_clear 7 = .ok (.putfield 19, 3) := by decide +kernel
theorem dX7_clear_10 : decode cX7_clear 10 = .ok (.iconst 0, 1) := by decide +kernel
theorem dX7_clear_11 : decode cX7_clear 11 = .ok (.istore_n 3, 1) := by decide +kernel
theorem dX7_clear_12 : decode cX7_clear 12 = .ok (.iload_n 3, 1) := by decide +kernel
theorem dX7_clear_13 : decode cX7_clear 13 = .ok (.bipush 36, 2) := by decide +kernel
theorem dX7_clear_15 : decode cX7_clear 15 = .ok (.if_icmp .ge 16, 3) := by decide +kernel
theorem dX7_clear_18 : decode cX7_clear 18 = .ok (.aload_n 0, 1) := by decide +kernel
theorem dX7_clear_19 : decode cX7_clear 19 = .ok (.getfield 9, 3) := by decide +kernel
theorem dX7_clear_22 : decode cX7_clear 22 = .ok (.iload_n 3, 1) := by decide +kernel
theorem dX7_clear_23 : decode cX7_clear 23 = .ok (.iconst 0, 1) := by decide +kernel
theorem dX7_clear_24 : decode cX7_clear 24 = .ok (.iastore, 1) := by decide +kernel
theorem dX7_clear_25 : decode cX7_clear 25 = .ok (.iinc 3 1, 3) := by decide +kernel
theorem dX7_clear_28 : decode cX7_clear 28 = .ok (.goto (-16), 3) := by decide +kernel
theorem dX7_clear_31 : decode cX7_clear 31 = .ok (.return_, 1) := by decide +kernel
theorem dX7_notNought_0 : decode cX7_notNought 0 = .ok (.iconst 0, 1) := by decide +kernel
theorem dX7_notNought_1 : decode cX7_notNought 1 = .ok (.istore_n 1, 1) := by decide +kernel
theorem dX7_notNought_2 : decode cX7_notNought 2 = .ok (.iconst 0, 1) := by decide +kernel
theorem dX7_notNought_3 : decode cX7_notNought 3 = .ok (.istore_n 2, 1) := by decide +kernel
theorem dX7_notNought_4 : decode cX7_notNought 4 = .ok (.iload_n 2, 1) := by decide +kernel
theorem dX7_notNought_5 : decode cX7_notNought 5 = .ok (.aload_n 0, 1) := by decide +kernel
theorem dX7_notNought_6 : decode cX7_notNought 6 = .ok (.getfield 15, 3) := by decide +kernel
theorem dX7_notNought_9 : decode cX7_notNought 9 = .ok (.if_icmp .ge 37, 3) := by decide +kernel
theorem dX7_notNought_12 : decode cX7_notNought 12 = .ok (.iconst 0, 1) := by decide +kernel
theorem dX7_notNought_13 : decode cX7_notNought 13 = .ok (.istore_n 3, 1) := by decide +kernel
theorem dX7_notNought_14 : decode cX7_notNought 14 = .ok (.iload_n 3, 1) := by decide +kernel
theorem dX7_notNought_15 : decode cX7_notNought 15 = .ok (.aload_n 0, 1) := by decide +kernel
theorem dX7_notNought_16 : decode cX7_notNought 16 = .ok (.getfield 19, 3) := by decide +kernel
theorem dX7_notNought_19 : decode cX7_notNought 19 = .ok (.if_icmp .ge 21, 3) := by decide +kernel
theorem dX7_notNought_22 : decode cX7_notNought 22 = .ok (.aload_n 0, 1) := by decide +kernel
theorem dX7_notNought_23 : decode cX7_notNought 23 = .ok (.iload_n 2, 1) := by decide +kernel
theorem dX7_notNought_24 : decode cX7_notNought 24 = .ok (.iload_n 3, 1) := by decide +kernel
theorem dX7_notNought_25 : decode cX7_notNought 25 = .ok (.invokevirtual 28, 3) := by decide +kernel
theorem dX7_notNought_28 : decode cX7_notNought 28 = .ok (.ifCond .eq 6, 3) := by decide +kernel
theorem dX7_notNought_31 : decode cX7_notNought 31 = .ok (.iinc 1 1, 3) := by decide +kernel
theorem dX7_notNought_34 : decode cX7_notNought 34 = .ok (.iinc 3 1, 3) := by decide +kernel
theorem dX7_notNought_37 : decode cX7_notNought 37 = .ok (.goto (-23), 3) := by decide +kernel
theorem dX7_notNought_40 : decode cX7_notNought 40 = .ok (.iinc 2 1, 3) := by decide +kernel
theorem dX7_notNought_43 : decode cX7_notNought 43 = .ok (.goto (-39), 3) := by decide +kernel
theorem dX7_notNought_46 : decode cX7_notNought 46 = .ok (.iload_n 1, 1) := by decide +kernel
theorem dX7_notNought_47 : decode cX7_notNought 47 = .ok (.ireturn, 1) := by decide +kernel
theorem dX7_transpose_0 : decode cX7_transpose 0 = .ok (.iconst 0, 1) := by decide +kernel
theorem dX7_transpose_1 : decode cX7_transpose 1 = .ok (.istore_n 1, 1) := by decide +kernel
theorem dX7_transpose_2 : decode cX7_transpose 2 = .ok (.iload_n 1, 1) := by decide +kernel
theorem dX7_transpose_3 : decode cX7_transpose 3 = .ok (.bipush 6, 2) := by decide +kernel
theorem dX7_transpose_5 : decode cX7_transpose 5 = .ok (.if_icmp .ge 68, 3) := by decide +kernel
theorem dX7_transpose_8 : decode cX7_transpose 8 = .ok (.iconst 0, 1) := by decide +kernel
theorem dX7_transpose_9 : decode cX7_transpose 9 = .ok (.istore_n 2, 1) := by decide +kernel
theorem dX7_transpose_10 : decode cX7_transpose 10 = .ok (.iload_n 2, 1) := by decide +kernel
theorem dX7_transpose_11 : decode cX7_transpose 11 = .ok (.iload_n 1, 1) := by decide +kernel
theorem dX7_transpose_12 : decode cX7_transpose 12 = .ok (.if_icmp .ge 55, 3) := by decide +kernel
theorem dX7_transpose_15 : decode cX7_transpose 15 = .ok (.aload_n 0, 1) := by decide +kernel
theorem dX7_transpose_16 : decode cX7_transpose 16 = .ok (.getfield 9, 3) := by decide +kernel
theorem dX7_transpose_19 : decode cX7_transpose 19 = .ok (.iload_n 1, 1) := by decide +kernel
theorem dX7_transpose_20 : decode cX7_transpose 20 = .ok (.bipush 6, 2) := by decide +kernel
theorem dX7_transpose_22 : decode cX7_transpose 22 = .ok (.imul, 1) := by decide +kernel
theorem dX7_transpose_23 : decode cX7_transpose 23 = .ok (.iload_n 2, 1) := by decide +kernel
theorem dX7_transpose_24 : decode cX7_transpose 24 = .ok (.iadd, 1) := by decide +kernel
theorem dX7_transpose_25 : decode cX7_transpose 25 = .ok (.iaload, 1) := by decide +kernel
theorem dX7_transpose_26 : decode cX7_transpose 26 = .ok (.istore_n 3, 1) := by decide +kernel
theorem dX7_transpose_27 : decode cX7_transpose 27 = .ok (.aload_n 0, 1) := by decide +kernel
theorem dX7_transpose_28 : decode cX7_transpose 28 = .ok (.getfield 9, 3) := by decide +kernel
theorem dX7_transpose_31 : decode cX7_transpose 31 = .ok (.iload_n 1, 1) := by decide +kernel
theorem dX7_transpose_32 : decode cX7_transpose 32 = .ok (.bipush 6, 2) := by decide +kernel
theorem dX7_transpose_34 : decode cX7_transpose 34 = .ok (.imul, 1) := by decide +kernel
theorem dX7_transpose_35 : decode cX7_transpose 35 = .ok (.iload_n 2, 1) := by decide +kernel
theorem dX7_transpose_36 : decode cX7_transpose 36 = .ok (.iadd, 1) := by decide +kernel
theorem dX7_transpose_37 : decode cX7_transpose 37 = .ok (.aload_n 0, 1) := by decide +kernel
theorem dX7_transpose_38 : decode cX7_transpose 38 = .ok (.getfield 9, 3) := by decide +kernel
theorem dX7_transpose_41 : decode cX7_transpose 41 = .ok (.iload_n 2, 1) := by decide +kernel
theorem dX7_transpose_42 : decode cX7_transpose 42 = .ok (.bipush 6, 2) := by decide +kernel
theorem dX7_transpose_44 : decode cX7_transpose 44 = .ok (.imul, 1) := by decide +kernel
theorem dX7_transpose_45 : decode cX7_transpose 45 = .ok (.iload_n 1, 1) := by decide +kernel
theorem dX7_transpose_46 : decode cX7_transpose 46 = .ok (.iadd, 1) := by decide +kernel
theorem dX7_transpose_47 : decode cX7_transpose 47 = .ok (.iaload, 1) := by decide +kernel
theorem dX7_transpose_48 : decode cX7_transpose 48 = .ok (.iastore, 1) := by decide +kernel
theorem dX7_transpose_49 : decode cX7_transpose 49 = .ok (.aload_n 0, 1) := by decide +kernel
theorem dX7_transpose_50 : decode cX7_transpose 50 = .ok (.getfield 9, 3) := by decide +kernel
theorem dX7_transpose_53 : decode cX7_transpose 53 = .ok (.iload_n 2, 1) := by decide +kernel
theorem dX7_transpose_54 : decode cX7_transpose 54 = .ok (.bipush 6, 2) := by decide +kernel
theorem dX7_transpose_56 : decode cX7_transpose 56 = .ok (.imul, 1) := by decide +kernel
theorem dX7_transpose_57 : decode cX7_transpose 57 = .ok (.iload_n 1, 1) := by decide +kernel
theorem dX7_transpose_58 : decode cX7_transpose 58 = .ok (.iadd, 1) := by decide +kernel
theorem dX7_transpose_59 : decode cX7_transpose 59 = .ok (.iload_n 3, 1) := by decide +kernel
theorem dX7_transpose_60 : decode cX7_transpose 60 = .ok (.iastore, 1) := by decide +kernel
theorem dX7_transpose_61 : decode cX7_transpose 61 = .ok (.iinc 2 1, 3) := by decide +kernel
theorem dX7_transpose_64 : decode cX7_transpose 64 = .ok (.goto (-54), 3) := by decide +kernel
theorem dX7_transpose_67 : decode cX7_transpose 67 = .ok (.iinc 1 1, 3) := by decide +kernel
theorem dX7_transpose_70 : decode cX7_transpose 70 = .ok (.goto (-68), 3) := by decide +kernel
theorem dX7_transpose_73 : decode cX7_transpose 73 = .ok (.aload_n 0, 1) := by decide +kernel
theorem dX7_transpose_74 : decode cX7_transpose 74 = .ok (.getfield 15, 3) := by decide +kernel
theorem dX7_transpose_77 : decode cX7_transpose 77 = .ok (.istore_n 1, 1) := by decide +kernel
theorem dX7_transpose_78 : decode cX7_transpose 78 = .ok (.aload_n 0, 1) := by decide +kernel
theorem dX7_transpose_79 : decode cX7_transpose 79 = .ok (.aload_n 0, 1) := by decide +kernel
theorem dX7_transpose_80 : decode cX7_transpose 80 = .ok (.getfield 19, 3) := by decide +kernel
theorem dX7_transpose_83 : decode cX7_transpose 83 = .ok (.putfield 15, 3) := by decide +kernel
theorem dX7_transpose_86 : decode cX7_transpose 86 = .ok (.aload_n 0, 1) := by decide +kernel
theorem dX7_transpose_87 : decode cX7_transpose 87 = .ok (.iload_n 1, 1) := by decide +kernel
theorem dX7_transpose_88 : decode cX7_transpose 88 = .ok (.putfield 19, 3) := by decide +kernel
theorem dX7_transpose_91 : decode cX7_transpose 91 = .ok (.iconst (-1), 1) := by decide +kernel
theorem dX7_transpose_92 : decode cX7_transpose 92 = .ok (.ireturn, 1) := by decide +kernel
theorem dX10_isBeyond_0 : decode cX10_isBeyond 0 = .ok (.iload_n 0, 1) := by decide +kernel
theorem dX10_isBeyond_1 : decode cX10_isBeyond 1 = .ok (.iconst (-1), 1) := by decide +kernel
theorem dX10_isBeyond_2 : decode cX10_isBeyond 2 = .ok (.if_icmp .lt 8, 3) := by decide +kernel
theorem dX10_isBeyond_5 : decode cX10_isBeyond 5 = .ok (.iload_n 0, 1) := by decide +kernel
theorem dX10_isBeyond_6 : decode cX10_isBeyond 6 = .ok (.iconst 1, 1) := by decide +kernel
theorem dX10_isBeyond_7 : decode cX10_isBeyond 7 = .ok (.if_icmp .le 7, 3) := by decide +kernel
theorem dX10_isBeyond_10 : decode cX10_isBeyond 10 = .ok (.iconst 1, 1) := by decide +kernel
theorem dX10_isBeyond_11 : decode cX10_isBeyond 11 = .ok (.goto 4, 3) := by decide +kernel
theorem dX10_isBeyond_14 : decode cX10_isBeyond 14 = .ok (.iconst 0, 1) := by decide +kernel
theorem dX10_isBeyond_15 : decode cX10_isBeyond 15 = .ok (.ireturn, 1) := by decide +kernel
theorem dX10_isIn_0 : decode cX10_isIn 0 = .ok (.iload_n 0, 1) := by decide +kernel
theorem dX10_isIn_1 : decode cX10_isIn 1 = .ok (.iload_n 1, 1) := by decide +kernel
theorem dX10_isIn_2 : decode cX10_isIn 2 = .ok (.ishr, 1) := by decide +kernel
theorem dX10_isIn_3 : decode cX10_isIn 3 = .ok (.iconst 1, 1) := by decide +kernel
theorem dX10_isIn_4 : decode cX10_isIn 4 = .ok (.iand, 1) := by decide +kernel
theorem dX10_isIn_5 : decode cX10_isIn 5 = .ok (.ifCond .eq 7, 3) := by decide +kernel
theorem dX10_isIn_8 : decode cX10_isIn 8 = .ok (.iconst 1, 1) := by decide +kernel
theorem dX10_isIn_9 : decode cX10_isIn 9 = .ok (.goto 4, 3) := by decide +kernel
theorem dX10_isIn_12 : decode cX10_isIn 12 = .ok (.iconst 0, 1) := by decide +kernel
theorem dX10_isIn_13 : decode cX10_isIn 13 = .ok (.ireturn, 1) := by decide +kernel
theorem dJ6_bitCount_0f7a4_0 : decode cJ6_bitCount_0f7a4 0 = .ok (.iload_n 0, 1) := by decide +kernel
theorem dJ6_bitCount_0f7a4_1 : decode cJ6_bitCount_0f7a4 1 = .ok (.iload_n 0, 1) := by decide +kernel
theorem dJ6_bitCount_0f7a4_2 : decode cJ6_bitCount_0f7a4 2 = .ok (.iconst 1, 1) := by decide +kernel
theorem dJ6_bitCount_0f7a4_3 : decode cJ6_bitCount_0f7a4 3 = .ok (.iushr, 1) := by decide +kernel
theorem dJ6_bitCount_0f7a4_4 : decode cJ6_bitCount_0f7a4 4 = .ok (.ldc_w 265, 3) := by decide +kernel
theorem dJ6_bitCount_0f7a4_7 : decode cJ6_bitCount_0f7a4 7 = .ok (.iand, 1) := by decide +kernel
theorem dJ6_bitCount_0f7a4_8 : decode cJ6_bitCount_0f7a4 8 = .ok (.isub, 1) := by decide +kernel
theorem dJ6_bitCount_0f7a4_9 : decode cJ6_bitCount_0f7a4 9 = .ok (.istore_n 0, 1) := by decide +kernel
theorem dJ6_bitCount_0f7a4_10 : decode cJ6_bitCount_0f7a4 10 = .ok (.iload_n 0, 1) := by decide +kernel
theorem dJ6_bitCount_0f7a4_11 : decode cJ6_bitCount_0f7a4 11 = .ok (.ldc_w 266, 3) := by decide +kernel
theorem dJ6_bitCount_0f7a4_14 : decode cJ6_bitCount_0f7a4 14 = .ok (.iand, 1) := by decide +kernel
theorem dJ6_bitCount_0f7a4_15 : decode cJ6_bitCount_0f7a4 15 = .ok (.iload_n 0, 1) := by decide +kernel
theorem dJ6_bitCount_0f7a4_16 : decode cJ6_bitCount_0f7a4 16 = .ok (.iconst 2, 1) := by decide +kernel
theorem dJ6_bitCount_0f7a4_17 : decode cJ6_bitCount_0f7a4 17 = .ok (.iushr, 1) := by decide +kernel
theorem dJ6_bitCount_0f7a4_18 : decode cJ6_bitCount_0f7a4 18 = .ok (.ldc_w 266, 3) := by decide +kernel
theorem dJ6_bitCount_0f7a4_21 : decode cJ6_bitCount_0f7a4 21 = .ok (.iand, 1) := by decide +kernel
theorem dJ6_bitCount_0f7a4_22 : decode cJ6_bitCount_0f7a4 22 = .ok (.iadd, 1) := by decide +kernel
theorem dJ6_bitCount_0f7a4_23 : decode cJ6_bitCount_0f7a4 23 = .ok (.istore_n 0, 1) := by decide +kernel
theorem dJ6_bitCount_0f7a4_24 : decode cJ6_bitCount_0f7a4 24 = .ok (.iload_n 0, 1) := by decide +kernel
theorem dJ6_bitCount_0f7a4_25 : decode cJ6_bitCount_0f7a4 25 = .ok (.iload_n 0, 1) := by decide +kernel
theorem dJ6_bitCount_0f7a4_26 : decode cJ6_bitCount_0f7a4 26 = .ok (.iconst 4, 1) := by decide +kernel
theorem dJ6_bitCount_0f7a4_27 : decode cJ6_bitCount_0f7a4 27 = .ok (.iushr, 1) := by decide +kernel
theorem dJ6_bitCount_0f7a4_28 : decode cJ6_bitCount_0f7a4 28 = .ok (.iadd, 1) := by decide +kernel
theorem dJ6_bitCount_0f7a4_29 : decode cJ6_bitCount_0f7a4 29 = .ok (.ldc_w 267, 3) := by decide +kernel
theorem dJ6_bitCount_0f7a4_32 : decode cJ6_bitCount_0f7a4 32 = .ok (.iand, 1) := by decide +kernel
theorem dJ6_bitCount_0f7a4_33 : decode cJ6_bitCount_0f7a4 33 = .ok (.istore_n 0, 1) := by decide +kernel
theorem dJ6_bitCount_0f7a4_34 : decode cJ6_bitCount_0f7a4 34 = .ok (.iload_n 0, 1) := by decide +kernel
theorem dJ6_bitCount_0f7a4_35 : decode cJ6_bitCount_0f7a4 35 = .ok (.iload_n 0, 1) := by decide +kernel
theorem dJ6_bitCount_0f7a4_36 : decode cJ6_bitCount_0f7a4 36 = .ok (.bipush 8, 2) := by decide +kernel
theorem dJ6_bitCount_0f7a4_38 : decode cJ6_bitCount_0f7a4 38 = .ok (.iushr, 1) := by decide +kernel
theorem dJ6_bitCount_0f7a4_39 : decode cJ6_bitCount_0f7a4 39 = .ok (.iadd, 1) := by decide +kernel
theorem dJ6_bitCount_0f7a4_40 : decode cJ6_bitCount_0f7a4 40 = .ok (.istore_n 0, 1) := by decide +kernel
theorem dJ6_bitCount_0f7a4_41 : decode cJ6_bitCount_0f7a4 41 = .ok (.iload_n 0, 1) := by decide +kernel
theorem dJ6_bitCount_0f7a4_42 : decode cJ6_bitCount_0f7a4 42 = .ok (.iload_n 0, 1) := by decide +kernel
theorem dJ6_bitCount_0f7a4_43 : decode cJ6_bitCount_0f7a4 43 = .ok (.bipush 16, 2) := by decide +kernel
theorem dJ6_bitCount_0f7a4_45 : decode cJ6_bitCount_0f7a4 45 = .ok (.iushr, 1) := by decide +kernel
theorem dJ6_bitCount_0f7a4_46 : decode cJ6_bitCount_0f7a4 46 = .ok (.iadd, 1) := by decide +kernel
theorem dJ6_bitCount_0f7a4_47 : decode cJ6_bitCount_0f7a4 47 = .ok (.istore_n 0, 1) := by decide +kernel
theorem dJ6_bitCount_0f7a4_48 : decode cJ6_bitCount_0f7a4 48 = .ok (.iload_n 0, 1) := by decide +kernel
theorem dJ6_bitCount_0f7a4_49 : decode cJ6_bitCount_0f7a4 49 = .ok (.bipush 63, 2) := by decide +kernel
theorem dJ6_bitCount_0f7a4_51 : decode cJ6_bitCount_0f7a4 51 = .ok (.iand, 1) := by decide +kernel
theorem dJ6_bitCount_0f7a4_52 : decode cJ6_bitCount_0f7a4 52 = .ok (.ireturn, 1) := by decide +kernel
theorem c_isNone {σ : sg} {x : aW} {a : Nat} {T : tb} (hT0 : TL a) (h : CT σ a T) : Mt mX7_isNone 0 0 0 [.ref a] (wd σ x) (QI (b2i (T.1 = 0)) (wd σ x)) := by
  refine Mt.of MI_X7_isNone (Nat.le_of_ble_eq_true rfl) (fun X hC hR hT => ?_)
  have e0 := nI_eq (a := T.1) (b := 0) (by have := h.2.2.1; omega) (by decide)
  refine R_aload_n (i := 0) hC dX7_isNone_0 rfl rfl (R_gI hC dX7_isNone_1 fl_X7_15 hT0.1 rfl ?_)
  refine R_top (y := nI T.1) (h.1) ?_
  refine R_if_ne hC 11 dX7_isNone_4 (by decide) (fun h4 => ?_) (fun h4 => ?_)
  · refine R_iconst (v := 0) hC dX7_isNone_11 (by decide) ?_
    exact R_zret hC hT dX7_isNone_12 rfl (by decide) ⟨by first | (rw [b2i_t (e0.mp (Classical.byContradiction h4))]; done) | (rw [b2i_t (e0.mp h4)]; done) | (rw [b2i_f (fun q => h4 (e0.mpr q))]; done), rfl⟩
  · refine R_iconst (v := 1) hC dX7_isNone_7 (by decide) (R_goto hC 12 dX7_isNone_8 (by decide) ?_)
    exact R_zret hC hT dX7_isNone_12 rfl (by decide) ⟨by first | (rw [b2i_t (e0.mp (Classical.byContradiction h4))]; done) | (rw [b2i_t (e0.mp h4)]; done) | (rw [b2i_f (fun q => h4 (e0.mpr q))]; done), rfl⟩
theorem c_has {σ : sg} {x : aW} {a : Nat} {T : tb} (hT0 : TL a) (h : CT σ a T) (r c : Int32) : Mt mX7_has 0 0 0 [.ref a, .int r, .int c] (wd σ x) (QI (b2i (inR T.1 r ∧ inR T.2.1 c)) (wd σ x)) := by
  unfold inR
  refine Mt.of MI_X7_has (Nat.le_of_ble_eq_true rfl) (fun X hC hR hT => ?_)
  obtain ⟨k1, k2, k3, k4, k5⟩ := id h
  have e1 := nI_toInt (n := T.1) (by omega)
  have e2 := nI_toInt (n := T.2.1) (by omega)
  refine R_iload_n (i := 1) hC dX7_has_0 rfl rfl ?_
  refine R_if_lt hC 28 dX7_has_1 (by decide) (fun h1 => ?_) (fun h1 => ?_)
  · refine R_iconst (v := 0) hC dX7_has_28 (by decide) ?_
    exact R_zret hC hT dX7_has_29 rfl (by decide) ⟨by simp only [i32_ge, i32_lt, Int32.toInt_zero, e1, e2] at *; first | (rw [b2i_t (by omega)]; done) | (rw [b2i_f (by omega)]; done), rfl⟩
  · refine R_iload_n (i := 1) hC dX7_has_4 rfl rfl (R_aload_n (i := 0) hC dX7_has_5 rfl rfl (R_gI hC dX7_has_6 fl_X7_15 hT0.1 rfl ?_))
    refine R_top (y := nI T.1) (k1) ?_
    refine R_icmp_ge hC 28 dX7_has_9 (by decide) (fun h9 => ?_) (fun h9 => ?_)
    · refine R_iconst (v := 0) hC dX7_has_28 (by decide) ?_
      exact R_zret hC hT dX7_has_29 rfl (by decide) ⟨by simp only [i32_ge, i32_lt, Int32.toInt_zero, e1, e2] at *; first | (rw [b2i_t (by omega)]; done) | (rw [b2i_f (by omega)]; done), rfl⟩
    · refine R_iload_n (i := 2) hC dX7_has_12 rfl rfl ?_
      refine R_if_lt hC 28 dX7_has_13 (by decide) (fun h13 => ?_) (fun h13 => ?_)
      · refine R_iconst (v := 0) hC dX7_has_28 (by decide) ?_
        exact R_zret hC hT dX7_has_29 rfl (by decide) ⟨by simp only [i32_ge, i32_lt, Int32.toInt_zero, e1, e2] at *; first | (rw [b2i_t (by omega)]; done) | (rw [b2i_f (by omega)]; done), rfl⟩
      · refine R_iload_n (i := 2) hC dX7_has_16 rfl rfl (R_aload_n (i := 0) hC dX7_has_17 rfl rfl (R_gI hC dX7_has_18 fl_X7_19 hT0.1 rfl ?_))
        refine R_top (y := nI T.2.1) (k2) ?_
        refine R_icmp_ge hC 28 dX7_has_21 (by decide) (fun h21 => ?_) (fun h21 => ?_)
        · refine R_iconst (v := 0) hC dX7_has_28 (by decide) ?_
          exact R_zret hC hT dX7_has_29 rfl (by decide) ⟨by simp only [i32_ge, i32_lt, Int32.toInt_zero, e1, e2] at *; first | (rw [b2i_t (by omega)]; done) | (rw [b2i_f (by omega)]; done), rfl⟩
        · refine R_iconst (v := 1) hC dX7_has_24 (by decide) (R_goto hC 29 dX7_has_25 (by decide) ?_)
          exact R_zret hC hT dX7_has_29 rfl (by decide) ⟨by simp only [i32_ge, i32_lt, Int32.toInt_zero, e1, e2] at *; first | (rw [b2i_t (by omega)]; done) | (rw [b2i_f (by omega)]; done), rfl⟩
theorem c_at {σ : sg} {x : aW} {a : Nat} {T : tb} (hT0 : TL a) (h : CT σ a T) (r c : Int32) : Mt mX7_at 0 0 0 [.ref a, .int r, .int c] (wd σ x) (QI (atZ T r c) (wd σ x)) := by
  refine Mt.of MI_X7_at (Nat.le_of_ble_eq_true rfl) (fun X hC hR hT => ?_)
  obtain ⟨k1, k2, k3, k4, k5⟩ := id h
  have e1 := nI_toInt (n := T.1) (by omega)
  have e2 := nI_toInt (n := T.2.1) (by omega)
  refine R_iload_n (i := 1) hC dX7_at_0 rfl rfl ?_
  refine R_if_lt hC 24 dX7_at_1 (by decide) (fun h1 => ?_) (fun h1 => ?_)
  · refine R_iconst (v := 0) hC dX7_at_24 (by decide) ?_
    exact R_iret hC hT dX7_at_25 rfl ⟨by rw [atZ_n]; rintro ⟨⟨q1, q2⟩, q3, q4⟩; simp only [i32_ge, i32_lt, Int32.toInt_zero, e1, e2] at *; omega, rfl⟩
  · refine R_iload_n (i := 1) hC dX7_at_4 rfl rfl (R_aload_n (i := 0) hC dX7_at_5 rfl rfl (R_gI hC dX7_at_6 fl_X7_15 hT0.1 rfl ?_))
    refine R_top (y := nI T.1) (k1) ?_
    refine R_icmp_ge hC 24 dX7_at_9 (by decide) (fun h9 => ?_) (fun h9 => ?_)
    · refine R_iconst (v := 0) hC dX7_at_24 (by decide) ?_
      exact R_iret hC hT dX7_at_25 rfl ⟨by rw [atZ_n]; rintro ⟨⟨q1, q2⟩, q3, q4⟩; simp only [i32_ge, i32_lt, Int32.toInt_zero, e1, e2] at *; omega, rfl⟩
    · refine R_iload_n (i := 2) hC dX7_at_12 rfl rfl ?_
      refine R_if_lt hC 24 dX7_at_13 (by decide) (fun h13 => ?_) (fun h13 => ?_)
      · refine R_iconst (v := 0) hC dX7_at_24 (by decide) ?_
        exact R_iret hC hT dX7_at_25 rfl ⟨by rw [atZ_n]; rintro ⟨⟨q1, q2⟩, q3, q4⟩; simp only [i32_ge, i32_lt, Int32.toInt_zero, e1, e2] at *; omega, rfl⟩
      · refine R_iload_n (i := 2) hC dX7_at_16 rfl rfl (R_aload_n (i := 0) hC dX7_at_17 rfl rfl (R_gI hC dX7_at_18 fl_X7_19 hT0.1 rfl ?_))
        refine R_top (y := nI T.2.1) (k2) ?_
        refine R_icmp_lt hC 26 dX7_at_21 (by decide) (fun h21 => ?_) (fun h21 => ?_)
        · have q : inR T.1 r ∧ inR T.2.1 c := ⟨⟨by simp only [i32_lt, Int32.toInt_zero] at h1; omega, by simp only [i32_ge, e1] at h9; omega⟩, by simp only [i32_lt, Int32.toInt_zero] at h13; omega, by simp only [i32_lt, e2] at h21; omega⟩
          have ev := atZ_y q
          obtain ⟨i, rfl, hi, hi2⟩ := inR_i q.1
          obtain ⟨j, rfl, hj, hj2⟩ := inR_i q.2
          rw [nI_clamp hi2, nI_clamp hj2] at ev
          refine R_aload_n (i := 0) hC dX7_at_26 rfl rfl (R_gR hC dX7_at_27 fl_X7_9 hT0.1 rfl (R_iload_n (i := 1) hC dX7_at_30 rfl rfl (R_bipush (v := 6) hC dX7_at_31 (by decide) (R_imul hC dX7_at_33 (R_iload_n (i := 2) hC dX7_at_34 rfl rfl (R_iadd hC dX7_at_35 (R_aI hC dX7_at_36 hT0.2 (6 * i + j) (n6b i j) (by omega) (by decide) ?_)))))))
          exact R_iret hC hT dX7_at_37 rfl ⟨by rw [ev, k5 i j hi hj], rfl⟩
        · refine R_iconst (v := 0) hC dX7_at_24 (by decide) ?_
          exact R_iret hC hT dX7_at_25 rfl ⟨by rw [atZ_n]; rintro ⟨⟨q1, q2⟩, q3, q4⟩; simp only [i32_ge, i32_lt, Int32.toInt_zero, e1, e2] at *; omega, rfl⟩
theorem c_atN {σ : sg} {x : aW} {a : Nat} {T : tb} (hT0 : TL a) (h : CT σ a T) {i j : Nat} (hi : i < T.1) (hj : j < T.2.1) : Mt mX7_at 0 0 0 [.ref a, .int (nI i), .int (nI j)] (wd σ x) (QI (T.2.2 i j) (wd σ x)) := by
  have q := c_at (x := x) hT0 h (nI i) (nI j)
  rwa [atZ_i h.2.2.1 h.2.2.2.1 hi hj] at q
theorem c_put {σ : sg} {x : aW} {a : Nat} {T : tb} (hT0 : TL a) (h : CT σ a T) {i j : Nat} (hi : i < T.1) (hj : j < T.2.1) (v : Int32) : Mt mX7_put 0 0 0 [.ref a, .int (nI i), .int (nI j), .int v] (wd σ x) (QV (wd (sA σ (a + 1) (upd (σ.2.2 (a + 1)) (6 * i + j) v)) x)) := by
  refine Mt.of MI_X7_put (Nat.le_of_ble_eq_true rfl) (fun X hC hR hT => ?_)
  obtain ⟨k1, k2, k3, k4, k5⟩ := id h
  refine R_iload_n (i := 1) hC dX7_put_0 rfl rfl ?_
  refine R_if_lt hC 36 dX7_put_1 (by decide) (fun h => absurd h (nI_pos (by omega))) (fun _ => ?_)
  refine R_iload_n (i := 1) hC dX7_put_4 rfl rfl (R_aload_n (i := 0) hC dX7_put_5 rfl rfl (R_gI hC dX7_put_6 fl_X7_15 hT0.1 rfl ?_))
  refine R_top (y := nI T.1) (k1) ?_
  refine R_icmp_ge hC 36 dX7_put_9 (by decide) (fun h => absurd h (nI_ge hi (by omega))) (fun _ => ?_)
  refine R_iload_n (i := 2) hC dX7_put_12 rfl rfl ?_
  refine R_if_lt hC 36 dX7_put_13 (by decide) (fun h => absurd h (nI_pos (by omega))) (fun _ => ?_)
  refine R_iload_n (i := 2) hC dX7_put_16 rfl rfl (R_aload_n (i := 0) hC dX7_put_17 rfl rfl (R_gI hC dX7_put_18 fl_X7_19 hT0.1 rfl ?_))
  refine R_top (y := nI T.2.1) (k2) ?_
  refine R_icmp_ge hC 36 dX7_put_21 (by decide) (fun h => absurd h (nI_ge hj (by omega))) (fun _ => ?_)
  refine R_aload_n (i := 0) hC dX7_put_24 rfl rfl (R_gR hC dX7_put_25 fl_X7_9 hT0.1 rfl (R_iload_n (i := 1) hC dX7_put_28 rfl rfl (R_bipush (v := 6) hC dX7_put_29 (by decide) (R_imul hC dX7_put_31 (R_iload_n (i := 2) hC dX7_put_32 rfl rfl (R_iadd hC dX7_put_33 (R_iload_n (i := 3) hC dX7_put_34 rfl rfl ?_)))))))
  refine R_sI hC dX7_put_35 hT0.2 (6 * i + j) (n6b i j) (by omega) (by decide) ?_
  exact R_vret hC hT dX7_put_36 rfl ⟨rfl, rfl⟩
theorem kl_X7_22 : Cond.methodLink RX7 22 arraycopyName ∈ lw_gl ∧ Cond.native arraycopyName ∈ lw_gl ∧ Cond.static arraycopyName ∈ lw_gl ∧ Cond.initialized "java/lang/System" ∈ lw_gl := ⟨gmt tc_3 12 rfl (by decide +kernel), gmt tc_3 14 rfl (by decide +kernel), gmt tc_3 13 rfl (by decide +kernel), gmt tc_1 19 rfl (by decide +kernel)⟩
theorem c_copyFrom {σ : sg} {x : aW} {a b : Nat} {T : tb} (hA : TL a) (hB : TL b) (hne : a ≠ b) (h : CT σ b T) : Mt mX7_copyFrom 1 0 0 [.ref a, .ref b] (wd σ x) (TQ σ x a T none) := by
  refine Mt.of MI_X7_copyFrom (Nat.le_of_ble_eq_true rfl) (fun X hC hR hT => ?_)
  obtain ⟨k1, k2, k3, k4, k5⟩ := id h
  obtain ⟨n1, n2, n3⟩ := hA.ne hB hne
  refine R_aload_n (i := 0) hC dX7_copyFrom_0 rfl rfl (R_aload_n (i := 1) hC dX7_copyFrom_1 rfl rfl (R_gI hC dX7_copyFrom_2 fl_X7_15 hB.1 rfl ?_))
  refine R_top (y := nI T.1) (k1) ?_
  refine R_pI hC dX7_copyFrom_5 fl_X7_15 hA.1 rfl (R_aload_n (i := 0) hC dX7_copyFrom_8 rfl rfl (R_aload_n (i := 1) hC dX7_copyFrom_9 rfl rfl (R_gI hC dX7_copyFrom_10 fl_X7_19 hB.1 rfl ?_)))
  refine R_top (y := nI T.2.1) (by rw [sG_ni (Ne.symm hne)]; exact k2) ?_
  refine R_pI hC dX7_copyFrom_13 fl_X7_19 hA.1 rfl (R_aload_n (i := 1) hC dX7_copyFrom_16 rfl rfl (R_gR hC dX7_copyFrom_17 fl_X7_9 hB.1 rfl (R_iconst (v := 0) hC dX7_copyFrom_20 (by decide) (R_aload_n (i := 0) hC dX7_copyFrom_21 rfl rfl (R_gR hC dX7_copyFrom_22 fl_X7_9 hA.1 rfl (R_iconst (v := 0) hC dX7_copyFrom_25 (by decide) (R_bipush (v := 36) hC dX7_copyFrom_26 (by decide) ?_)))))))
  refine R_copy hC hR dX7_copyFrom_28 kl_X7_22.1 kl_X7_22.2.1 kl_X7_22.2.2.1 kl_X7_22.2.2.2 (by decide) hA.2.1 (wd_at hB.2) (wd_at hA.2) (by decide) (by decide) (by decide) (by decide) (by decide) (Nat.le_of_ble_eq_true rfl) ?_
  rw [wd_putA hA.2]
  refine R_wd (τ := sA (sG (sG σ a 0 (nI T.1)) a 1 (nI T.2.1)) (a + 1) (cpy (σ.2.2 (b + 1)) (σ.2.2 (a + 1)) 36)) (by
    congr 1
    funext k
    unfold va_cpy cpy
    simp only [show (0 : Int32).toNatClampNeg = 0 from by decide, show (36 : Int32).toNatClampNeg = 36 from by decide, Nat.zero_add, Nat.zero_le, true_and, Nat.sub_zero]
    rfl) ?_
  exact R_vret hC hT dX7_copyFrom_31 rfl ⟨rfl, _, rfl, (((AE.rf _ σ).g (m1 _ _)).g (m1 _ _)).a (m2 _ _), by
    refine ⟨?_, ?_, k3, k4, fun i j hi hj => ?_⟩
    · show (sG (sG σ a 0 (nI T.1)) a 1 (nI T.2.1)).1 a 0 = _
      rw [sG_nk (by decide), sG_eq]
    · exact sG_eq _ _ _ _
    · rw [sA_eq]; unfold cpy; rw [if_pos (by omega)]; exact k5 i j hi hj⟩
/-- a table of noughts alone -/
theorem c_clear {σ : sg} {x : aW} {a : Nat} (hA : TL a) (R C : Nat) (hR6 : R ≤ 6) (hC6 : C ≤ 6) : Mt mX7_clear 0 0 0 [.ref a, .int (nI R), .int (nI C)] (wd σ x) (TQ σ x a (R, C, fun _ _ => 0) none) := by
  refine Mt.of MI_X7_clear (Nat.le_of_ble_eq_true rfl) (fun X hC hR hT => ?_)
  have loop : ∀ n, n ≤ 36 → ∀ g : Nat → Int32, (∀ k, k < n → g k = 0) → Rw mX7_clear X 12 [some (.ref a), some (.int (nI R)), some (.int (nI C)), some (.int (nI n))] [] (wd (sA (sG (sG σ a 0 (nI R)) a 1 (nI C)) (a + 1) g) x) 0 0 := by
    refine up_loop 36 ?_ ?_
    · intro g hg
      refine R_iload_n (i := 3) hC dX7_clear_12 rfl rfl (R_bipush (v := 36) hC dX7_clear_13 (by decide) ?_)
      refine R_icmp_ge hC 31 dX7_clear_15 (by decide) (fun _ => ?_) (fun h => absurd (by decide) h)
      exact R_vret hC hT dX7_clear_31 rfl ⟨rfl, _, rfl, (((AE.rf _ σ).g (m1 _ _)).g (m1 _ _)).a (m2 _ _), by
        refine ⟨?_, sG_eq _ _ _ _, hR6, hC6, fun i j hi hj => ?_⟩
        · show (sG (sG σ a 0 (nI R)) a 1 (nI C)).1 a 0 = _
          rw [sG_nk (by decide), sG_eq]
        · have hi : i < R := hi
          have hj : j < C := hj
          rw [sA_eq]; exact hg _ (by omega)⟩
    · intro n hn ih g hg
      refine R_iload_n (i := 3) hC dX7_clear_12 rfl rfl (R_bipush (v := 36) hC dX7_clear_13 (by decide) ?_)
      refine R_icmp_ge hC 31 dX7_clear_15 (by decide) (fun h => absurd h (nI_ge (b := 36) hn (by decide))) (fun _ => ?_)
      refine R_aload_n (i := 0) hC dX7_clear_18 rfl rfl (R_gR hC dX7_clear_19 fl_X7_9 hA.1 rfl (R_iload_n (i := 3) hC dX7_clear_22 rfl rfl (R_iconst (v := 0) hC dX7_clear_23 (by decide) (R_sI hC dX7_clear_24 hA.2 n rfl hn (by decide) ?_))))
      refine R_wd (by rw [sA_eq, sA_sA]) ?_
      refine R_iinc hC dX7_clear_25 rfl (inc1 _) (by decide) rfl (R_goto hC 12 dX7_clear_28 (by decide) ?_)
      exact ih _ (fun k hk => by unfold upd; split; rfl; exact hg k (by omega))
  refine R_aload_n (i := 0) hC dX7_clear_0 rfl rfl (R_iload_n (i := 1) hC dX7_clear_1 rfl rfl (R_pI hC dX7_clear_2 fl_X7_15 hA.1 rfl (R_aload_n (i := 0) hC dX7_clear_5 rfl rfl (R_iload_n (i := 2) hC dX7_clear_6 rfl rfl (R_pI hC dX7_clear_7 fl_X7_19 hA.1 rfl (R_iconst (v := 0) hC dX7_clear_10 (by decide) (R_istore_n (i := 3) hC dX7_clear_11 rfl (by decide) rfl ?_)))))))
  (refine R_wd (τ := sA (sG (sG σ a 0 (nI R)) a 1 (nI C)) (a + 1) (σ.2.2 (a + 1))) (by exact (sA_self (sG (sG σ a 0 (nI R)) a 1 (nI C)) (a + 1)).symm) ?_; exact loop 0 (by decide) _ (fun k hk => absurd hk (Nat.not_lt_zero _)))
theorem c_isBeyond (v : Int32) (w : aW) : Mt mX10_isBeyond 0 0 0 [.int v] w (QI (b2i (¬ sml v)) w) := by
  rw [show (¬ sml v) = ¬ (-1 ≤ v.toInt ∧ v.toInt ≤ 1) from by rw [sml_in]]
  refine Mt.of MI_X10_isBeyond (Nat.le_of_ble_eq_true rfl) (fun X hC hR hT => ?_)
  have e1 : (-1 : Int32).toInt = -1 := by decide
  have e2 : (1 : Int32).toInt = 1 := by decide
  refine R_iload_n (i := 0) hC dX10_isBeyond_0 rfl rfl (R_iconst (v := (-1)) hC dX10_isBeyond_1 (by decide) ?_)
  refine R_icmp_lt hC 10 dX10_isBeyond_2 (by decide) (fun h2 => ?_) (fun h2 => ?_)
  · refine R_iconst (v := 1) hC dX10_isBeyond_10 (by decide) (R_goto hC 15 dX10_isBeyond_11 (by decide) ?_)
    exact R_zret hC hT dX10_isBeyond_15 rfl (by decide) ⟨by simp only [i32_ge, i32_lt, e1, e2] at *; first | (rw [b2i_t (by omega)]; done) | (rw [b2i_f (by omega)]; done), rfl⟩
  · refine R_iload_n (i := 0) hC dX10_isBeyond_5 rfl rfl (R_iconst (v := 1) hC dX10_isBeyond_6 (by decide) ?_)
    refine R_icmp_le hC 14 dX10_isBeyond_7 (by decide) (fun h7 => ?_) (fun h7 => ?_)
    · refine R_iconst (v := 0) hC dX10_isBeyond_14 (by decide) ?_
      exact R_zret hC hT dX10_isBeyond_15 rfl (by decide) ⟨by simp only [i32_ge, i32_lt, e1, e2] at *; first | (rw [b2i_t (by omega)]; done) | (rw [b2i_f (by omega)]; done), rfl⟩
    · refine R_iconst (v := 1) hC dX10_isBeyond_10 (by decide) (R_goto hC 15 dX10_isBeyond_11 (by decide) ?_)
      exact R_zret hC hT dX10_isBeyond_15 rfl (by decide) ⟨by simp only [i32_ge, i32_lt, e1, e2] at *; first | (rw [b2i_t (by omega)]; done) | (rw [b2i_f (by omega)]; done), rfl⟩
theorem c_isIn (s i : Nat) (hs : s < 64) (hi : i < 6) (w : aW) : Mt mX10_isIn 0 0 0 [.int (nI s), .int (nI i)] w (QI (if s.testBit i then 1 else 0) w) := by
  refine Mt.of MI_X10_isIn (Nat.le_of_ble_eq_true rfl) (fun X hC hR hT => ?_)
  by_cases hb : s.testBit i = true
  · refine R_iload_n (i := 0) hC dX10_isIn_0 rfl rfl (R_iload_n (i := 1) hC dX10_isIn_1 rfl rfl (R_ishr hC dX10_isIn_2 (R_iconst (v := 1) hC dX10_isIn_3 (by decide) (R_iand hC dX10_isIn_4 ?_))))
    refine R_top (y := 1) (by rw [bit_at s hs i hi, if_pos hb]) ?_
    refine R_if_eq hC 12 dX10_isIn_5 (by decide) (fun h => absurd h (by decide)) (fun _ => ?_)
    refine R_iconst (v := 1) hC dX10_isIn_8 (by decide) (R_goto hC 13 dX10_isIn_9 (by decide) ?_)
    exact R_zret hC hT dX10_isIn_13 rfl (by decide) ⟨by rw [if_pos hb], rfl⟩
  · refine R_iload_n (i := 0) hC dX10_isIn_0 rfl rfl (R_iload_n (i := 1) hC dX10_isIn_1 rfl rfl (R_ishr hC dX10_isIn_2 (R_iconst (v := 1) hC dX10_isIn_3 (by decide) (R_iand hC dX10_isIn_4 ?_))))
    refine R_top (y := 0) (by rw [bit_at s hs i hi, if_neg hb]) ?_
    refine R_if_eq hC 12 dX10_isIn_5 (by decide) (fun _ => ?_) (fun h => absurd rfl h)
    refine R_iconst (v := 0) hC dX10_isIn_12 (by decide) ?_
    exact R_zret hC hT dX10_isIn_13 rfl (by decide) ⟨by rw [if_neg hb], rfl⟩
