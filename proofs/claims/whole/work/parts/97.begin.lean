/-! ===== the law's first rows ===== -/
def tb0 : tb := (0, 0, fun _ _ => 0)
def al0 : aS := ((0, fun _ => 0), tb0, (0, fun _ => tb0), (0, fun _ => (0, fun _ _ => 0)), (0, fun _ => tb0), fun _ => 0, (false, tb0, 0))
theorem no_lt {P : Prop} {k : Nat} (h : k < 0) : P := absurd h (Nat.not_lt_zero _)
theorem ct0 (a : Nat) : CT sg0 a tb0 := ⟨rfl, rfl, Nat.zero_le _, Nat.zero_le _, fun _ _ h => no_lt h⟩
theorem ok0 : aOK al0 := ⟨Nat.zero_le _, fun _ h => no_lt h, ⟨Nat.zero_le _, Nat.zero_le _, Iff.rfl, fun _ _ h => no_lt h⟩, ⟨Nat.zero_le _, fun _ h => no_lt h⟩, ⟨Nat.zero_le _, fun _ h => no_lt h⟩, ⟨Nat.zero_le _, fun _ h => no_lt h⟩, fun h => by cases h⟩
theorem ci0 : CInv sg0 al0 := by
  refine ⟨⟨rfl, fun _ h => no_lt h⟩, ct0 _, ⟨rfl, fun _ h => no_lt h⟩, ⟨rfl, fun _ h => no_lt h⟩, ⟨0, by decide, rfl, rfl, fun _ h => no_lt h⟩, fun _ _ => rfl, ⟨?_, fun h => by cases h⟩, fun _ _ _ _ _ => rfl, Or.inl rfl, Or.inl rfl, Or.inl rfl, Or.inl rfl⟩
  show CT sg0 i_pictured (if (false = true) then tb0 else (0, 0, fun _ _ => 0))
  rw [if_neg (by decide)]
  exact ct0 _
theorem mi0 : MInv sg0 al0 := ⟨⟨rfl, fun _ h => no_lt h⟩, ⟨rfl, rfl, fun _ _ h => no_lt h⟩, ⟨rfl, fun _ h => no_lt h⟩, ⟨rfl, fun _ h => no_lt h⟩, ⟨rfl, fun _ h => no_lt h⟩, fun _ _ => rfl, rfl, fun h => by cases h⟩
theorem dn_wd {w : aW} (h : DN w 202 []) : w = wd sg0 w := by
  obtain ⟨h1, h2, h3, h4, h5⟩ := h
  obtain ⟨a, f⟩ := w
  refine Prod.ext rfl (funext fun i => ?_)
  show f i = if i < 202 then wdc sg0 i else f i
  by_cases hi : i < 202
  · rw [if_pos hi]
    by_cases h16 : i < 16
    · refine (h3 i h16).trans ?_
      unfold wdc
      rw [if_pos h16]
    · exact h4 i (by omega) hi (by simp)
  · rw [if_neg hi]
theorem lw_begin {X : aX} {L : Nat} {xs : Nat → Int32} (hC : Cx mLaw X) (hR : Rd X 30 601024 7293034) (hS : SX X L xs) (hL : L ≤ 3072) (hX : lX X) (hF : ∀ ls w cl sl, cl ≤ 601024 → sl ≤ 7293034 → Rw mLaw X 1494 ls [] w cl sl) : Rw mLaw X 0 (ent [.ref BIG] 7) [] (16, fun _ => none) 0 0 := by
  have hD0 : DN (16, fun _ => none) 16 [] := ⟨rfl, ⟨by decide, by decide⟩, fun _ _ => rfl, fun i h1 h2 => absurd h2 (by omega), fun _ _ => rfl⟩
  refine B_obj (ci := 10) (n := 16) (fs := df10) hC hR dL_law_0 nl_L_8 in_X10 it_X10 rfl cw_X10 tyX10_ok df10_ok.1 df10_ok.2 hD0 (by decide) ⟨by decide, by decide⟩ (fun w1_ hD1 hn1 hz1 => ?_)
  refine R_dup hC dL_law_3 rfl ?_
  refine R_callI (As := []) hC hR dL_law_4 MN_X10_init ml_L_15 (b_X10 hD1 hn1) rfl (by decide) ⟨by decide, by decide⟩ (Nat.le_of_ble_eq_true rfl) (fun r w2_ hq => ?_)
  obtain ⟨rfl, hD2⟩ := hq
  refine R_astore_n (i := 1) hC dL_law_7 rfl (by decide) rfl ?_
  refine B_obj (ci := 11) (n := 176) (fs := df11) hC hR dL_law_8 nl_L_16 in_X11 it_X11 rfl cw_X11 tyX11_ok df11_ok.1 df11_ok.2 hD2 (by decide) ⟨by decide, by decide⟩ (fun w3_ hD3 hn3 hz3 => ?_)
  refine R_dup hC dL_law_11 rfl ?_
  refine R_callI (As := []) hC hR dL_law_12 MN_X11_init ml_L_18 (b_X11 hD3 hn3) rfl (by decide) ⟨by decide, by decide⟩ (Nat.le_of_ble_eq_true rfl) (fun r w4_ hq => ?_)
  obtain ⟨rfl, hD4, -⟩ := hq
  refine R_astore_n (i := 2) hC dL_law_15 rfl (by decide) rfl ?_
  refine R_iconst (v := nI 1) hC dL_law_16 (by decide) ?_
  refine B_long (n := 201) (N := 1) hC hR dL_law_17 hD4 (by decide) L_out (by decide) ⟨by decide, by decide⟩ (fun w5_ hD5 hz5 => ?_)
  refine R_astore_n (i := 3) hC dL_law_19 rfl (by decide) rfl (R_iconst (v := nI (6 * 0)) hC dL_law_20 (by decide) (R_istore hC dL_law_21 (by decide) rfl ?_))
  have h1 : w5_.1 = 202 := hD5.1
  rw [dn_wd hD5]
  exact lw_loop hC hR hS hL (lw_c4 hC hR hS hL hX) hF (L + 1) 0 sg0 w5_ al0 _ _ none none (by omega) (by omega) ci0 mi0 ok0 (by omega) (by decide) (by decide)
