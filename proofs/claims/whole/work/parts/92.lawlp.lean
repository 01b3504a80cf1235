/-! ===== the law's loop ===== -/
theorem lw_sub6 {L : Nat} (h : L ≤ 3072) : (nI L - 6).toInt = (L : Int) - 6 := by
  have e : (6 : Int32).toInt = 6 := by decide
  rw [Int32.toInt_sub, nI_toInt (by omega), e, Int.bmod_eq_of_le (by omega) (by omega)]
/-- what the law's own entry must give -/
def LE (X : aX) (L : Nat) (xs : Nat → Int32) : Prop := ∀ (σ : sg) (xw : aW) (α : aS) (i cl sl : Nat) (l5 l6 : Option Value), CInv σ α → MInv σ α → aOK α → i + 6 ≤ L → cl + 1 ≤ 601024 → sl + 6 ≤ 7293034 → xw.1 < 900000 → (∀ τ β xw2 cl2 sl2 m5 m6, CInv τ β → MInv τ β → aOK β → xw2.1 ≤ xw.1 + 1 → cl2 ≤ cl + 1 → sl2 ≤ sl + 6 → Rw mLaw X 1488 [some (.ref BIG), some (.ref 16), some (.ref 176), some (.ref 201), some (.int (nI i)), m5, m6] [] (wd τ xw2) cl2 sl2) → Rw mLaw X 368 [some (.ref BIG), some (.ref 16), some (.ref 176), some (.ref 201), some (.int (nI i)), l5, l6] [] (wd σ xw) cl sl
theorem lw_loop {X : aX} {L : Nat} {xs : Nat → Int32} (hC : Cx mLaw X) (hR : Rd X 30 601024 7293034) (hS : SX X L xs) (hL2 : L ≤ 3072) (hE : LE X L xs) (hF : ∀ ls w cl sl, cl ≤ 601024 → sl ≤ 7293034 → Rw mLaw X 1494 ls [] w cl sl) : ∀ (k t : Nat) (σ : sg) (xw : aW) (α : aS) (cl sl : Nat) (l5 l6 : Option Value), L < 6 * t + 6 * k → 6 * t ≤ L + 6 → CInv σ α → MInv σ α → aOK α → xw.1 ≤ 202 + t → cl ≤ 200 + t → sl ≤ 20000 + 6 * t → Rw mLaw X 23 [some (.ref BIG), some (.ref 16), some (.ref 176), some (.ref 201), some (.int (nI (6 * t))), l5, l6] [] (wd σ xw) cl sl := by
  intro k
  induction k with
  | zero =>
    intro t σ xw α cl sl l5 l6 h1 h2 hc hm ok b1 b2 b3
    have hlt : nI L - 6 < nI (6 * t) := by
      rw [i32_lt, lw_sub6 (by omega), nI_toInt (by omega)]
      omega
    refine R_iload hC dL_law_23 rfl (R_aload_n (i := 0) hC dL_law_25 rfl rfl (R_sln hC hS dL_law_26 (R_bipush (v := 6) hC dL_law_27 (by decide) (R_isub hC dL_law_29 ?_))))
    refine R_icmp_gt hC 1494 dL_law_30 (by decide) (fun _ => ?_) (fun h => absurd hlt h)
    exact hF _ _ _ _ (by omega) (by omega)
  | succ k ih =>
    intro t σ xw α cl sl l5 l6 h1 h2 hc hm ok b1 b2 b3
    have e6 : (nI L - 6).toInt = (L : Int) - 6 := by
      rw [lw_sub6 (by omega)]
    refine R_iload hC dL_law_23 rfl (R_aload_n (i := 0) hC dL_law_25 rfl rfl (R_sln hC hS dL_law_26 (R_bipush (v := 6) hC dL_law_27 (by decide) (R_isub hC dL_law_29 ?_))))
    refine R_icmp_gt hC 1494 dL_law_30 (by decide) (fun _ => hF _ _ _ _ (by omega) (by omega)) (fun h => ?_)
    have hi : 6 * t + 6 ≤ L := by
      rw [i32_lt, e6, nI_toInt (by omega)] at h
      omega
    have back : ∀ τ β xw2 cl2 sl2 m5 m6, CInv τ β → MInv τ β → aOK β → xw2.1 ≤ xw.1 + 1 → cl2 ≤ cl + 1 → sl2 ≤ sl + 6 → Rw mLaw X 1488 [some (.ref BIG), some (.ref 16), some (.ref 176), some (.ref 201), some (.int (nI (6 * t))), m5, m6] [] (wd τ xw2) cl2 sl2 := by
      intro τ β xw2 cl2 sl2 m5 m6 a1 a2 a3 a4 a5 a6
      have z := ih (t + 1) τ xw2 β cl2 sl2 m5 m6 (by omega) (by omega) a1 a2 a3 (by omega) (by omega) (by omega)
      rw [show 6 * (t + 1) = 6 * t + 6 by omega] at z
      refine R_iinc hC dL_law_1488 rfl (nIa (6 * t) 6) (by decide) rfl (R_goto hC 23 dL_law_1491 (by decide) ?_)
      exact z
    have bk : ∀ τ β, CInv τ β → MInv τ β → aOK β → Rw mLaw X 1488 [some (.ref BIG), some (.ref 16), some (.ref 176), some (.ref 201), some (.int (nI (6 * t))), l5, l6] [] (wd τ xw) cl sl := fun τ β a1 a2 a3 => back τ β xw cl sl l5 l6 a1 a2 a3 (by omega) (by omega) (by omega)
    obtain ⟨j, hj, ej⟩ := pk_andE (xs (6 * t)) (m := 63) 6 (by decide)
    have hcl : cl ≤ 601024 := by omega
    have hsl : sl ≤ 7293034 := by omega
    refine R_aload_n (i := 0) hC dL_law_33 rfl rfl (R_iload hC dL_law_34 rfl (R_scr hC hS dL_law_36 (6 * t) rfl (by omega) (R_bipush (v := 63) hC dL_law_37 (by decide) (R_iand hC dL_law_39 ?_))))
    refine R_top (y := nI j) ej ?_
    have tj := nI_toInt (n := j) (by omega)
    by_cases hj40 : 40 < j
    · exact R_tableOut hC 1488 dL_law_40 (Or.inr (by rw [tj]; omega)) (by decide) (bk σ α hc hm ok)
    · rcases (by omega : j = 0 ∨ j = 1 ∨ j = 2 ∨ j = 3 ∨ j = 4 ∨ j = 5 ∨ j = 6 ∨ j = 7 ∨ j = 8 ∨ j = 9 ∨ j = 10 ∨ j = 11 ∨ j = 12 ∨ j = 13 ∨ j = 14 ∨ j = 15 ∨ j = 16 ∨ j = 17 ∨ j = 18 ∨ j = 19 ∨ j = 20 ∨ j = 21 ∨ j = 22 ∨ j = 23 ∨ j = 24 ∨ j = 25 ∨ j = 26 ∨ j = 27 ∨ j = 28 ∨ j = 29 ∨ j = 30 ∨ j = 31 ∨ j = 32 ∨ j = 33 ∨ j = 34 ∨ j = 35 ∨ j = 36 ∨ j = 37 ∨ j = 38 ∨ j = 39 ∨ j = 40) with rfl | rfl | rfl | rfl | rfl | rfl | rfl | rfl | rfl | rfl | rfl | rfl | rfl | rfl | rfl | rfl | rfl | rfl | rfl | rfl | rfl | rfl | rfl | rfl | rfl | rfl | rfl | rfl | rfl | rfl | rfl | rfl | rfl | rfl | rfl | rfl | rfl | rfl | rfl | rfl | rfl
      · exact R_tableIn hC 220 dL_law_40 (by decide) (by decide) (off := 180) rfl (by decide) (lw_c0 hC hR hS hL2 hc hm ok hi hcl hsl bk)
      · exact R_tableIn hC 293 dL_law_40 (by decide) (by decide) (off := 253) rfl (by decide) (lw_c1 hC hR hS hL2 hc hm ok hi hcl hsl bk)
      · exact R_tableIn hC 318 dL_law_40 (by decide) (by decide) (off := 278) rfl (by decide) (lw_c2 hC hR hS hL2 hc hm ok hi hcl hsl bk)
      · exact R_tableIn hC 343 dL_law_40 (by decide) (by decide) (off := 303) rfl (by decide) (lw_c3 hC hR hS hL2 hc hm ok hi hcl hsl bk)
      · exact R_tableIn hC 368 dL_law_40 (by decide) (by decide) (off := 328) rfl (by decide) (hE σ xw α _ cl sl l5 l6 hc hm ok hi (by omega) (by omega) (by omega) back)
      · exact R_tableIn hC 436 dL_law_40 (by decide) (by decide) (off := 396) rfl (by decide) (lw_c5 hC hR hS hL2 hc hm ok hi hcl hsl bk)
      · exact R_tableIn hC 485 dL_law_40 (by decide) (by decide) (off := 445) rfl (by decide) (lw_c6 hC hR hS hL2 hc hm ok hi hcl hsl bk)
      · exact R_tableIn hC 534 dL_law_40 (by decide) (by decide) (off := 494) rfl (by decide) (lw_c7 hC hR hS hL2 hc hm ok hi hcl hsl bk)
      · exact R_tableIn hC 547 dL_law_40 (by decide) (by decide) (off := 507) rfl (by decide) (lw_c8 hC hR hS hL2 hc hm ok hi hcl hsl bk)
      · exact R_tableIn hC 596 dL_law_40 (by decide) (by decide) (off := 556) rfl (by decide) (lw_c9 hC hR hS hL2 hc hm ok hi hcl hsl bk)
      · exact R_tableIn hC 645 dL_law_40 (by decide) (by decide) (off := 605) rfl (by decide) (lw_c10 hC hR hS hL2 hc hm ok hi hcl hsl bk)
      · exact R_tableIn hC 658 dL_law_40 (by decide) (by decide) (off := 618) rfl (by decide) (lw_c11 hC hR hS hL2 hc hm ok hi hcl hsl bk)
      · exact R_tableIn hC 695 dL_law_40 (by decide) (by decide) (off := 655) rfl (by decide) (lw_c12 hC hR hS hL2 hc hm ok hi hcl hsl bk)
      · exact R_tableIn hC 732 dL_law_40 (by decide) (by decide) (off := 692) rfl (by decide) (lw_c13 hC hR hS hL2 hc hm ok hi hcl hsl bk)
      · exact R_tableIn hC 745 dL_law_40 (by decide) (by decide) (off := 705) rfl (by decide) (lw_c14 hC hR hS hL2 hc hm ok hi hcl hsl bk)
      · exact R_tableIn hC 770 dL_law_40 (by decide) (by decide) (off := 730) rfl (by decide) (lw_c15 hC hR hS hL2 hc hm ok hi hcl hsl bk)
      · exact R_tableIn hC 795 dL_law_40 (by decide) (by decide) (off := 755) rfl (by decide) (lw_c16 hC hR hS hL2 hc hm ok hi hcl hsl bk)
      · exact R_tableIn hC 808 dL_law_40 (by decide) (by decide) (off := 768) rfl (by decide) (lw_c17 hC hR hS hL2 hc hm ok hi hcl hsl bk)
      · exact R_tableIn hC 833 dL_law_40 (by decide) (by decide) (off := 793) rfl (by decide) (lw_c18 hC hR hS hL2 hc hm ok hi hcl hsl bk)
      · exact R_tableIn hC 882 dL_law_40 (by decide) (by decide) (off := 842) rfl (by decide) (lw_c19 hC hR hS hL2 hc hm ok hi hcl hsl bk)
      · exact R_tableIn hC 931 dL_law_40 (by decide) (by decide) (off := 891) rfl (by decide) (lw_c20 hC hR hS hL2 hc hm ok hi hcl hsl bk)
      · exact R_tableIn hC 968 dL_law_40 (by decide) (by decide) (off := 928) rfl (by decide) (lw_c21 hC hR hS hL2 hc hm ok hi hcl hsl bk)
      · exact R_tableIn hC 981 dL_law_40 (by decide) (by decide) (off := 941) rfl (by decide) (lw_c22 hC hR hS hL2 hc hm ok hi hcl hsl bk)
      · exact R_tableIn hC 1006 dL_law_40 (by decide) (by decide) (off := 966) rfl (by decide) (lw_c23 hC hR hS hL2 hc hm ok hi hcl hsl bk)
      · exact R_tableIn hC 1019 dL_law_40 (by decide) (by decide) (off := 979) rfl (by decide) (lw_c24 hC hR hS hL2 hc hm ok hi hcl hsl bk)
      · exact R_tableIn hC 1056 dL_law_40 (by decide) (by decide) (off := 1016) rfl (by decide) (lw_c25 hC hR hS hL2 hc hm ok hi hcl hsl bk)
      · exact R_tableIn hC 1081 dL_law_40 (by decide) (by decide) (off := 1041) rfl (by decide) (lw_c26 hC hR hS hL2 hc hm ok hi hcl hsl bk)
      · exact R_tableIn hC 1094 dL_law_40 (by decide) (by decide) (off := 1054) rfl (by decide) (lw_c27 hC hR hS hL2 hc hm ok hi hcl hsl bk)
      · exact R_tableIn hC 1107 dL_law_40 (by decide) (by decide) (off := 1067) rfl (by decide) (lw_c28 hC hR hS hL2 hc hm ok hi hcl hsl bk)
      · exact R_tableIn hC 1120 dL_law_40 (by decide) (by decide) (off := 1080) rfl (by decide) (lw_c29 hC hR hS hL2 hc hm ok hi hcl hsl bk)
      · exact R_tableIn hC 1157 dL_law_40 (by decide) (by decide) (off := 1117) rfl (by decide) (lw_c30 hC hR hS hL2 hc hm ok hi hcl hsl bk)
      · exact R_tableIn hC 1182 dL_law_40 (by decide) (by decide) (off := 1142) rfl (by decide) (lw_c31 hC hR hS hL2 hc hm ok hi hcl hsl bk)
      · exact R_tableIn hC 1219 dL_law_40 (by decide) (by decide) (off := 1179) rfl (by decide) (lw_c32 hC hR hS hL2 hc hm ok hi hcl hsl bk)
      · exact R_tableIn hC 1232 dL_law_40 (by decide) (by decide) (off := 1192) rfl (by decide) (lw_c33 hC hR hS hL2 hc hm ok hi hcl hsl bk)
      · exact R_tableIn hC 1281 dL_law_40 (by decide) (by decide) (off := 1241) rfl (by decide) (lw_c34 hC hR hS hL2 hc hm ok hi hcl hsl bk)
      · exact R_tableIn hC 1318 dL_law_40 (by decide) (by decide) (off := 1278) rfl (by decide) (lw_c35 hC hR hS hL2 hc hm ok hi hcl hsl bk)
      · exact R_tableIn hC 1343 dL_law_40 (by decide) (by decide) (off := 1303) rfl (by decide) (lw_c36 hC hR hS hL2 hc hm ok hi hcl hsl bk)
      · exact R_tableIn hC 1412 dL_law_40 (by decide) (by decide) (off := 1372) rfl (by decide) (lw_c37 hC hR hS hL2 hc hm ok hi hcl hsl bk)
      · exact R_tableIn hC 1437 dL_law_40 (by decide) (by decide) (off := 1397) rfl (by decide) (lw_c38 hC hR hS hL2 hc hm ok hi hcl hsl bk)
      · exact R_tableIn hC 1450 dL_law_40 (by decide) (by decide) (off := 1410) rfl (by decide) (lw_c39 hC hR hS hL2 hc hm ok hi hcl hsl bk)
      · exact R_tableIn hC 1463 dL_law_40 (by decide) (by decide) (off := 1423) rfl (by decide) (lw_c40 hC hR hS hL2 hc hm ok hi hcl hsl bk)
