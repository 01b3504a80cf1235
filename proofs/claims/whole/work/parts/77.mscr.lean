/-! ===== scripts: what a tape says; the model reads a step ===== -/
def kdN (b : Nat) : Option Nat := spt 4 (nI b)
def sgK (k : Nat) : Nat := ([2, 2, 3, 3, 3, 1, 4] : List Nat).getD k 0
def HID : Int32 := -1000000
def stA (S : Nat → Nat → Int32) (n j : Nat) (v : Int32) : Nat → Nat → Int32 := fun a b => if a = n ∧ b = j then v else S a b
def stN (S : Nat → Nat → Int32) (n k : Nat) : Nat → Nat → Int32 := fun a b => if a = n then (if b = 0 then nI k else HID) else S a b
def rdS (t : tap) : Nat → Nat → Nat → Nat → Nat → (Nat → Nat → Int32) → Nat ⊕ scr
  | 0, i, size, k, sn, S => if 0 < sn ∧ sn = sgK k then .inr (size, S) else .inl i
  | n + 1, i, size, k, sn, S =>
    if t.2 i = 32 then rdS t n (i + 1) size k sn S
    else if 0 < sn ∧ sn = sgK k then (if t.2 i = 59 ∧ ¬ size = 12 then rdS t n (i + 1) size k 0 S else .inl i)
    else if sn = 0 then (match kdN (t.2 i) with
      | some k2 => rdS t n (i + 1) (size + 1) k2 1 (stN S size k2)
      | none => .inl i)
    else if sn = 3 then (match vsN (t.2 i) with
      | some v => rdS t n (i + 1) size k 4 (stA S (size - 1) 3 v)
      | none => .inl i)
    else if 48 ≤ t.2 i ∧ t.2 i ≤ 57 then rdS t n (i + 1) size k (sn + 1) (stA S (size - 1) sn (nI (t.2 i - 48))) else .inl i
def RZ (t : tap) (i size k sn : Nat) (S : Nat → Nat → Int32) : Nat ⊕ scr := rdS t (t.1 - i) i size k sn S
section RZL
variable {t : tap} {i size k sn : Nat} {S : Nat → Nat → Int32}
theorem RZ_end : RZ t t.1 size k sn S = (if 0 < sn ∧ sn = sgK k then .inr (size, S) else .inl t.1) := by unfold RZ; rw [Nat.sub_self, rdS]
theorem RZ_1 (hi : i < t.1) : RZ t i size k sn S = (if t.2 i = 32 then RZ t (i + 1) size k sn S
    else if 0 < sn ∧ sn = sgK k then (if t.2 i = 59 ∧ ¬ size = 12 then RZ t (i + 1) size k 0 S else .inl i)
    else if sn = 0 then (match kdN (t.2 i) with
      | some k2 => RZ t (i + 1) (size + 1) k2 1 (stN S size k2)
      | none => .inl i)
    else if sn = 3 then (match vsN (t.2 i) with
      | some v => RZ t (i + 1) size k 4 (stA S (size - 1) 3 v)
      | none => .inl i)
    else if 48 ≤ t.2 i ∧ t.2 i ≤ 57 then RZ t (i + 1) size k (sn + 1) (stA S (size - 1) sn (nI (t.2 i - 48))) else .inl i) := by
  unfold RZ
  rw [show t.1 - i = (t.1 - (i + 1)) + 1 by omega, rdS]
theorem RZ_w (hi : i < t.1) (hb : ¬ t.2 i = 32) (hw : 0 < sn ∧ sn = sgK k) (hc : t.2 i = 59 ∧ ¬ size = 12) : RZ t i size k sn S = RZ t (i + 1) size k 0 S := by
  rw [RZ_1 hi, if_neg hb, if_pos hw, if_pos hc]
theorem RZ_w0 (hi : i < t.1) (hb : ¬ t.2 i = 32) (hw : 0 < sn ∧ sn = sgK k) (hc : ¬ (t.2 i = 59 ∧ ¬ size = 12)) : RZ t i size k sn S = .inl i := by
  rw [RZ_1 hi, if_neg hb, if_pos hw, if_neg hc]
theorem RZ_k {k2 : Nat} (hi : i < t.1) (hb : ¬ t.2 i = 32) (hc : kdN (t.2 i) = some k2) : RZ t i size k 0 S = RZ t (i + 1) (size + 1) k2 1 (stN S size k2) := by
  rw [RZ_1 hi, if_neg hb, if_neg (by omega), if_pos rfl, hc]
theorem RZ_k0 (hi : i < t.1) (hb : ¬ t.2 i = 32) (hc : kdN (t.2 i) = none) : RZ t i size k 0 S = .inl i := by
  rw [RZ_1 hi, if_neg hb, if_neg (by omega), if_pos rfl, hc]
theorem RZ_v {v : Int32} (hi : i < t.1) (hb : ¬ t.2 i = 32) (hw : ¬ 3 = sgK k) (hc : vsN (t.2 i) = some v) : RZ t i size k 3 S = RZ t (i + 1) size k 4 (stA S (size - 1) 3 v) := by
  rw [RZ_1 hi, if_neg hb, if_neg (fun z => hw z.2), if_neg (by decide), if_pos rfl, hc]
theorem RZ_v0 (hi : i < t.1) (hb : ¬ t.2 i = 32) (hw : ¬ 3 = sgK k) (hc : vsN (t.2 i) = none) : RZ t i size k 3 S = .inl i := by
  rw [RZ_1 hi, if_neg hb, if_neg (fun z => hw z.2), if_neg (by decide), if_pos rfl, hc]
theorem RZ_d (hi : i < t.1) (hb : ¬ t.2 i = 32) (hw : ¬ sn = sgK k) (h0 : ¬ sn = 0) (h3 : ¬ sn = 3) (hc : 48 ≤ t.2 i ∧ t.2 i ≤ 57) : RZ t i size k sn S = RZ t (i + 1) size k (sn + 1) (stA S (size - 1) sn (nI (t.2 i - 48))) := by
  rw [RZ_1 hi, if_neg hb, if_neg (fun z => hw z.2), if_neg h0, if_neg h3, if_pos hc]
theorem RZ_d0 (hi : i < t.1) (hb : ¬ t.2 i = 32) (hw : ¬ sn = sgK k) (h0 : ¬ sn = 0) (h3 : ¬ sn = 3) (hc : ¬ (48 ≤ t.2 i ∧ t.2 i ≤ 57)) : RZ t i size k sn S = .inl i := by
  rw [RZ_1 hi, if_neg hb, if_neg (fun z => hw z.2), if_neg h0, if_neg h3, if_neg hc]
end RZL
theorem RZ_sk {t : tap} {size k sn : Nat} {S : Nat → Nat → Int32} : ∀ i, i ≤ t.1 → RZ t i size k sn S = RZ t (SK t i) size k sn S := by
  refine up_loop t.1 ?_ ?_
  · rw [SK_e]
  · intro i hi ih
    by_cases h : t.2 i = 32
    · rw [SK_b hi h, RZ_1 hi, if_pos h]; exact ih
    · rw [SK_n hi h]
theorem kd_ok : ∀ b, b < 256 → (kdN b = none ∧ o2i (spt 4 (nI b)) = -1) ∨ ∃ k, k < 7 ∧ kdN b = some k ∧ o2i (spt 4 (nI b)) = nI k := by decide +kernel
theorem kd_m1 : o2i (spt 4 (-1)) = -1 := by decide +kernel
/-- behind a digit: at p it is none, or it is read -/
def DG (t : tap) (q : Nat) : Prop := q < t.1 ∧ 48 ≤ t.2 q ∧ t.2 q ≤ 57
theorem s_digit {σ τ : sg} {x : aW} {t : tap} {i : Nat} (h : RDS σ τ i (-1)) (ht : HT σ t) (ok : tpOK t) (hi : i ≤ t.1) : Mt mX11_digit 2 0 0 [.ref i_M] (wd τ x) (fun r w => ∃ υ v p F, w = wd υ x ∧ r = some (.int v) ∧ υ.2.2 = τ.2.2 ∧ RDS σ υ p F ∧ ((¬ DG t (SK t i) ∧ F = nI (SK t i) ∧ p = SK t i) ∨ (DG t (SK t i) ∧ F = -1 ∧ p = SK t i + 1 ∧ v = nI (t.2 (SK t i) - 48)))) := by
  refine Mt.of MI_X11_digit (Nat.le_of_ble_eq_true rfl) (fun X hC hR hT => ?_)
  have o1 := ok.1
  obtain ⟨k1, k2, k3⟩ := SK_ok t i hi
  generalize hq0 : SK t i = q at *
  have i48 : (48 : Int32).toInt = 48 := by decide
  have i57 : (57 : Int32).toInt = 57 := by decide
  have dg : DG t q ↔ ¬ chA t q < 48 ∧ chA t q ≤ 57 := by
    unfold DG
    rcases chA_256 ok k2 with ⟨z1, z2, z3⟩ | ⟨z1, z3⟩
    · rw [z3, i32_lt, i32_ge, nI_toInt (by omega), i48, i57]; omega
    · rw [z3]
      exact ⟨fun z => absurd z.1 (by omega), fun z => absurd (by decide) z.1⟩
  refine R_aload_n (i := 0) hC dX11_digit_0 rfl rfl ?_
  refine R_V0g hC hR dX11_digit_1 MV_X11_look ml_X11_118 L_M rfl (s_look h ht ok hi) (by first | decide | omega) ⟨by decide, by decide⟩ (Nat.le_of_ble_eq_true rfl) (fun r w1 hq => ?_)
  obtain ⟨φ, rfl, hφ, hφr, rfl⟩ := hq
  rw [hq0] at hφ ⊢
  refine R_istore_n (i := 1) hC dX11_digit_4 rfl (by decide) rfl (R_iload_n (i := 1) hC dX11_digit_5 rfl rfl (R_bipush (v := 48) hC dX11_digit_6 (by decide) ?_))
  refine R_icmp_lt hC 17 dX11_digit_8 (by decide) (fun h8 => ?_) (fun h8 => ?_)
  · refine R_aload_n (i := 0) hC dX11_digit_17 rfl rfl ?_
    refine R_V0g hC hR dX11_digit_18 MV_X11_fails ml_X11_125 L_M rfl (s_fails hφ) (by first | decide | omega) ⟨by decide, by decide⟩ (Nat.le_of_ble_eq_true rfl) (fun r w1 hq => ?_)
    obtain ⟨rfl, rfl, hf2⟩ := hq
    refine R_iconst (v := 0) hC dX11_digit_21 (by decide) ?_
    exact R_iret hC hT dX11_digit_22 rfl ⟨_, _, q, nI q, rfl, rfl, hφr, hf2, Or.inl ⟨fun z => by first | exact (dg.mp z).1 h8 | exact h14 (dg.mp z).2, rfl, rfl⟩⟩
  · refine R_iload_n (i := 1) hC dX11_digit_11 rfl rfl (R_bipush (v := 57) hC dX11_digit_12 (by decide) ?_)
    refine R_icmp_le hC 23 dX11_digit_14 (by decide) (fun h14 => ?_) (fun h14 => ?_)
    · refine R_aload_n (i := 0) hC dX11_digit_23 rfl rfl (R_dup hC dX11_digit_24 rfl (R_gI hC dX11_digit_25 fl_X11_98 L_M rfl ?_))
      refine R_top (y := nI q) (hφ.2.2.2.1) ?_
      refine R_iconst (v := 1) hC dX11_digit_28 (by decide) (R_iadd hC dX11_digit_29 ?_)
      refine R_top (y := nI (q + 1)) (inc1 _) ?_
      refine R_pI hC dX11_digit_30 fl_X11_98 L_M rfl (R_iload_n (i := 1) hC dX11_digit_33 rfl rfl (R_bipush (v := 48) hC dX11_digit_34 (by decide) (R_isub hC dX11_digit_36 ?_)))
      exact R_iret hC hT dX11_digit_37 rfl (by
      have d := dg.mpr ⟨h8, h14⟩
      refine ⟨_, _, q + 1, -1, rfl, rfl, hφr, hφ.at, Or.inr ⟨d, rfl, rfl, ?_⟩⟩
      rw [chA_y d.1]
      exact nI_sub d.2.1)
    · refine R_aload_n (i := 0) hC dX11_digit_17 rfl rfl ?_
      refine R_V0g hC hR dX11_digit_18 MV_X11_fails ml_X11_125 L_M rfl (s_fails hφ) (by first | decide | omega) ⟨by decide, by decide⟩ (Nat.le_of_ble_eq_true rfl) (fun r w1 hq => ?_)
      obtain ⟨rfl, rfl, hf2⟩ := hq
      refine R_iconst (v := 0) hC dX11_digit_21 (by decide) ?_
      exact R_iret hC hT dX11_digit_22 rfl ⟨_, _, q, nI q, rfl, rfl, hφr, hf2, Or.inl ⟨fun z => by first | exact (dg.mp z).1 h8 | exact h14 (dg.mp z).2, rfl, rfl⟩⟩
