/-! ===== the class's draws ===== -/
theorem att_dr {α : aS} (h0 : ¬ (tT α).1 = 0) {w a b : Nat} (hw : w < 5) (ha : a < 2 ^ 31) (hb : b < 2 ^ 31) (v : Int32) : (((attA α w (nI a) (nI b) 0).1 = -1 ∧ (drAct w a b v α).1 = 1) ∨ (¬ (attA α w (nI a) (nI b) 0).1 = -1 ∧ (drAct w a b v α).1 = 0)) ∧ (attA α w (nI a) (nI b) 0).2 = (drAct w a b v α).2 := by
  have e : attA α w (nI a) (nI b) 0 = (stopZ (tT α) w (nI a) (nI b), if stopZ (tT α) w (nI a) (nI b) = -1 then pushT α (actR (tT α) w (nI a) (nI b)).2 else α) := by
    unfold attA
    rw [if_neg h0, show actC (tT α) w (nI a) (nI b) 0 = actR (tT α) w (nI a) (nI b) from by unfold actC; rw [if_pos (by omega)]]
    rfl
  have ed : drAct w a b v α = if stopZ (tT α) w (nI a) (nI b) = -1 then (1, pushT α (doA w a b (tT α))) else (0, α) := by
    unfold drAct; rw [if_neg (show ¬ w = 5 by omega)]
  rw [e, ed]
  by_cases q : stopZ (tT α) w (nI a) (nI b) = -1
  · rw [q, if_pos rfl, if_pos rfl, actR_y q, nI_clamp ha, nI_clamp hb]
    exact ⟨Or.inl ⟨rfl, rfl⟩, rfl⟩
  · rw [if_neg q, if_neg q]
    exact ⟨Or.inr ⟨q, rfl⟩, rfl⟩
theorem att_dr5 {α : aS} (ok : aOK α) (h0 : ¬ (tT α).1 = 0) {a b : Nat} (ha : a < (tT α).1) (hb : b < (tT α).2.1) {v : Int32} (hv : sml v) : (((attA α 6 (nI a) (nI b) v).1 = -1 ∧ (drAct 5 a b v α).1 = 1) ∨ (¬ (attA α 6 (nI a) (nI b) v).1 = -1 ∧ (drAct 5 a b v α).1 = 0)) ∧ (attA α 6 (nI a) (nI b) v).2 = (drAct 5 a b v α).2 := by
  have r6 := ok.2.2.1.1
  have c6 := ok.2.2.1.2.1
  have e : attA α 6 (nI a) (nI b) v = ((setR (tT α) (nI a) (nI b) v).1, if (setR (tT α) (nI a) (nI b) v).1 = -1 then pushT α (setR (tT α) (nI a) (nI b) v).2 else α) := by
    unfold attA; rw [if_neg h0]; rfl
  have es : setR (tT α) (nI a) (nI b) v = if (tT α).2.2 a b = v then (2, tT α) else (-1, tset (tT α) a b v) := by
    unfold setR; rw [if_neg (fun z => z ⟨inR_n ha r6, inR_n hb c6, hv⟩), nI_clamp (by omega), nI_clamp (by omega)]
  rw [e, es]
  unfold drAct
  rw [if_pos rfl]
  by_cases q : (tT α).2.2 a b = v
  · rw [if_pos q, if_pos q]
    exact ⟨Or.inr ⟨fun z => absurd (show (2 : Int32) = -1 from z) (by decide), rfl⟩, if_neg (t := pushT α (tT α)) (show ¬ (2 : Int32) = -1 by decide)⟩
  · rw [if_neg q, if_neg q]
    exact ⟨Or.inl ⟨rfl, rfl⟩, if_pos (e := α) (show (-1 : Int32) = -1 from rfl)⟩
theorem aOf_lt {α : aS} (ok : aOK α) (h0 : ¬ (tT α).1 = 0) (s : Int64) : aOf s (tT α) < 2 ^ 31 := by
  have hI := tbI_of ok.2.2.1 h0
  have r6 := ok.2.2.1.1
  have c6 := ok.2.2.1.2.1
  unfold aOf
  split
  · have := dr_lt (x2 s) (m := (tT α).2.1) hI.2; omega
  · have := dr_lt (x2 s) (m := (tT α).1) hI.1; omega
theorem bOf_lt {α : aS} (ok : aOK α) (h0 : ¬ (tT α).1 = 0) (s : Int64) : bOf s (tT α) < 2 ^ 31 := by
  have hI := tbI_of ok.2.2.1 h0
  have r6 := ok.2.2.1.1
  have c6 := ok.2.2.1.2.1
  unfold bOf
  split
  · decide
  · split
    · have := dr_lt (x3 s) (m := (tT α).1) hI.1; omega
    · have := dr_lt (x3 s) (m := (tT α).2.1) hI.2; omega
theorem c_attDraw {σ : sg} {x : aW} {α : aS} (h : CInv σ α) (ok : aOK α) (h0 : ¬ (tT α).1 = 0) (s0 : Int64) (hs0 : σ.2.1 i_dice = s0) : Mt mX10_attemptDraw 5 0 0 [.ref i_U] (wd σ x) (fun r w => ∃ v τ, r = some (.int v) ∧ w = wd τ x ∧ CInv τ (drAct (wOf s0) (aOf s0 (tT α)) (bOf s0 (tT α)) (vOf s0) α).2 ∧ MEq σ τ ∧ τ.2.1 142 = x4 s0 ∧ ((v = -1 ∧ (drAct (wOf s0) (aOf s0 (tT α)) (bOf s0 (tT α)) (vOf s0) α).1 = 1) ∨ (¬ v = -1 ∧ (drAct (wOf s0) (aOf s0 (tT α)) (bOf s0 (tT α)) (vOf s0) α).1 = 0))) := by
  refine Mt.of MI_X10_attemptDraw (Nat.le_of_ble_eq_true rfl) (fun X hC hR hT => ?_)
  have r6 := ok.2.2.1.1
  have c6 := ok.2.2.1.2.1
  have hI := tbI_of ok.2.2.1 h0
  obtain ⟨i1, i2⟩ := hI
  have w6 := dr_lt (dx s0) (m := 6) (by decide)
  have lT : ∀ (x : Int64) (n : Nat), 1 ≤ n → n ≤ 6 → dr x n < n := fun x n q _ => dr_lt x q
  have lD : ∀ (τ : sg) (y : Int64), (sL τ i_dice y).2.1 i_dice = y := fun τ y => sL_eq τ i_dice y
  -- after the first draw
  have pre : ∀ (k : Nat), k < 6 → wOf s0 = k → (∀ τ, τ = sL σ i_dice (dx s0) → CInv τ α → MEq σ τ → τ.2.1 i_dice = dx s0 → Rw mX10_attemptDraw X 25 [some (.ref i_U), some (.int (nI (tT α).1)), some (.int (nI (tT α).2.1))] [.int (nI k)] (wd τ x) 0 0) → Rw mX10_attemptDraw X 0 [some (.ref i_U), none, none] [] (wd σ x) 0 0 := by
    intro k hk e kk
    refine R_aload_n (i := 0) hC dX10_attemptDraw_0 rfl rfl (R_gR hC dX10_attemptDraw_1 fl_X10_19 L_U rfl (R_gI hC dX10_attemptDraw_4 fl_X10_170 L_table rfl ?_))
    refine R_top (y := nI (tT α).1) (h.2.1.1) ?_
    refine R_istore_n (i := 1) hC dX10_attemptDraw_7 rfl (by decide) rfl (R_aload_n (i := 0) hC dX10_attemptDraw_8 rfl rfl (R_gR hC dX10_attemptDraw_9 fl_X10_19 L_U rfl (R_gI hC dX10_attemptDraw_12 fl_X10_269 L_table rfl ?_)))
    refine R_top (y := nI (tT α).2.1) (h.2.1.2.1) ?_
    refine R_istore_n (i := 2) hC dX10_attemptDraw_15 rfl (by decide) rfl (R_aload_n (i := 0) hC dX10_attemptDraw_16 rfl rfl (R_gR hC dX10_attemptDraw_17 fl_X10_94 L_U rfl (R_bipush (v := 6) hC dX10_attemptDraw_20 (by decide) ?_)))
    refine R_V1i hC hR dX10_attemptDraw_22 MV_X0_draw ml_X10_333 L_dice rfl (c_draw σ x 6 (by decide) (by decide)) (by first | decide | omega) ⟨by decide, by decide⟩ (Nat.le_of_ble_eq_true rfl) ?_
    (rw [hs0]; refine R_top (y := nI k) (by rw [← e]; rfl) ?_; exact kk _ rfl (CInv.l ok h _) ((MEq.rf _).l (by decide)) (lD _ _))
  have fin : ∀ (τ υ : sg) (v : Int32) (β : aS), CPost2 τ x v β (some (.int v)) (wd υ x) → (∃ ω, wd υ x = wd ω x ∧ CInv ω β ∧ MEq τ ω ∧ ω.2.1 142 = τ.2.1 142) := fun τ υ v β q => by
    obtain ⟨-, ω, e, q1, q2, q3⟩ := q
    exact ⟨ω, e, q1, q2, q3⟩
  rcases (by omega : dr (dx s0) 6 = 0 ∨ dr (dx s0) 6 = 1 ∨ dr (dx s0) 6 = 2 ∨ dr (dx s0) 6 = 3 ∨ dr (dx s0) 6 = 4 ∨ dr (dx s0) 6 = 5) with hw | hw | hw | hw | hw | hw
  · have hw : wOf s0 = 0 := hw
    have ea : aOf s0 (tT α) = dr (dx (dx s0)) (tT α).1 := by unfold aOf x2; rw [hw, if_neg (by decide)]
    have eb : bOf s0 (tT α) = 0 := by unfold bOf; rw [hw, if_pos (by decide)]
    have ex : x4 s0 = dx (dx s0) := by unfold x4 x3 x2; rw [hw, if_neg (by decide), if_pos (by decide)]
    rw [hw, ea, eb, ex] at hT
    have la := lT (dx (dx s0)) (tT α).1 i1 r6
    refine pre 0 (by decide) hw (fun τ _ hτ c1 d1 => ?_)
    refine R_tableIn hC 60 dX10_attemptDraw_25 (by decide) (by decide) rfl (by decide) ?_
    obtain ⟨z1, z2⟩ := att_dr h0 (w := 0) (a := dr (dx (dx s0)) (tT α).1) (b := 0) (by decide) (by omega) (by decide) (vOf s0)
    refine R_aload_n (i := 0) hC dX10_attemptDraw_60 rfl rfl (R_iconst (v := 0) hC dX10_attemptDraw_61 (by decide) (R_aload_n (i := 0) hC dX10_attemptDraw_62 rfl rfl (R_gR hC dX10_attemptDraw_63 fl_X10_94 L_U rfl (R_iload_n (i := 1) hC dX10_attemptDraw_66 rfl rfl ?_))))
    refine R_V1i hC hR dX10_attemptDraw_67 MV_X0_draw ml_X10_333 L_dice rfl (c_draw τ x (tT α).1 i1 (by omega)) (by first | decide | omega) ⟨by decide, by decide⟩ (Nat.le_of_ble_eq_true rfl) ?_
    rw [d1]
    refine R_iconst (v := 0) hC dX10_attemptDraw_70 (by decide) (R_iconst (v := 0) hC dX10_attemptDraw_71 (by decide) ?_)
    refine R_V4g hC hR dX10_attemptDraw_72 MV_X10_attempt ml_X10_137 L_U rfl (c_attemptD (CInv.l ok hτ (dx (dx s0))) ok 0 (by decide) (nI (dr (dx (dx s0)) (tT α).1)) 0 0) (by first | decide | omega) ⟨by decide, by decide⟩ (Nat.le_of_ble_eq_true rfl) (fun r w1 hq => ?_)
    obtain ⟨rfl, υ, rfl, hυ, c2, d2⟩ := hq
    exact R_iret hC hT dX10_attemptDraw_75 rfl ⟨_, υ, rfl, rfl, by rw [← z2]; exact hυ, (c1.l (by decide)).tr c2, by rw [d2]; exact lD _ _, z1⟩
  · have hw : wOf s0 = 1 := hw
    have ea : aOf s0 (tT α) = dr (dx (dx s0)) (tT α).2.1 := by unfold aOf x2; rw [hw, if_pos (by decide)]
    have eb : bOf s0 (tT α) = 0 := by unfold bOf; rw [hw, if_pos (by decide)]
    have ex : x4 s0 = dx (dx s0) := by unfold x4 x3 x2; rw [hw, if_neg (by decide), if_pos (by decide)]
    rw [hw, ea, eb, ex] at hT
    have la := lT (dx (dx s0)) (tT α).2.1 i2 c6
    refine pre 1 (by decide) hw (fun τ _ hτ c1 d1 => ?_)
    refine R_tableIn hC 76 dX10_attemptDraw_25 (by decide) (by decide) rfl (by decide) ?_
    obtain ⟨z1, z2⟩ := att_dr h0 (w := 1) (a := dr (dx (dx s0)) (tT α).2.1) (b := 0) (by decide) (by omega) (by decide) (vOf s0)
    refine R_aload_n (i := 0) hC dX10_attemptDraw_76 rfl rfl (R_iconst (v := 1) hC dX10_attemptDraw_77 (by decide) (R_aload_n (i := 0) hC dX10_attemptDraw_78 rfl rfl (R_gR hC dX10_attemptDraw_79 fl_X10_94 L_U rfl (R_iload_n (i := 2) hC dX10_attemptDraw_82 rfl rfl ?_))))
    refine R_V1i hC hR dX10_attemptDraw_83 MV_X0_draw ml_X10_333 L_dice rfl (c_draw τ x (tT α).2.1 i2 (by omega)) (by first | decide | omega) ⟨by decide, by decide⟩ (Nat.le_of_ble_eq_true rfl) ?_
    rw [d1]
    refine R_iconst (v := 0) hC dX10_attemptDraw_86 (by decide) (R_iconst (v := 0) hC dX10_attemptDraw_87 (by decide) ?_)
    refine R_V4g hC hR dX10_attemptDraw_88 MV_X10_attempt ml_X10_137 L_U rfl (c_attemptD (CInv.l ok hτ (dx (dx s0))) ok 1 (by decide) (nI (dr (dx (dx s0)) (tT α).2.1)) 0 0) (by first | decide | omega) ⟨by decide, by decide⟩ (Nat.le_of_ble_eq_true rfl) (fun r w1 hq => ?_)
    obtain ⟨rfl, υ, rfl, hυ, c2, d2⟩ := hq
    exact R_iret hC hT dX10_attemptDraw_91 rfl ⟨_, υ, rfl, rfl, by rw [← z2]; exact hυ, (c1.l (by decide)).tr c2, by rw [d2]; exact lD _ _, z1⟩
  · have hw : wOf s0 = 2 := hw
    have ea : aOf s0 (tT α) = dr (dx (dx s0)) (tT α).1 := by unfold aOf x2; rw [hw, if_neg (by decide)]
    have eb : bOf s0 (tT α) = dr (dx (dx (dx s0))) (tT α).1 := by unfold bOf x3 x2; rw [hw, if_neg (by decide), if_pos rfl, if_neg (by decide)]
    have ex : x4 s0 = dx (dx (dx s0)) := by unfold x4 x3 x2; rw [hw, if_neg (by decide), if_neg (by decide)]
    rw [hw, ea, eb, ex] at hT
    have la := lT (dx (dx s0)) (tT α).1 i1 r6
    have lb := lT (dx (dx (dx s0))) (tT α).1 i1 r6
    refine pre 2 (by decide) hw (fun τ _ hτ c1 d1 => ?_)
    refine R_tableIn hC 92 dX10_attemptDraw_25 (by decide) (by decide) rfl (by decide) ?_
    obtain ⟨z1, z2⟩ := att_dr h0 (w := 2) (a := dr (dx (dx s0)) (tT α).1) (b := dr (dx (dx (dx s0))) (tT α).1) (by decide) (by omega) (by omega) (vOf s0)
    refine R_aload_n (i := 0) hC dX10_attemptDraw_92 rfl rfl (R_iconst (v := 2) hC dX10_attemptDraw_93 (by decide) (R_aload_n (i := 0) hC dX10_attemptDraw_94 rfl rfl (R_gR hC dX10_attemptDraw_95 fl_X10_94 L_U rfl (R_iload_n (i := 1) hC dX10_attemptDraw_98 rfl rfl ?_))))
    refine R_V1i hC hR dX10_attemptDraw_99 MV_X0_draw ml_X10_333 L_dice rfl (c_draw τ x (tT α).1 i1 (by omega)) (by first | decide | omega) ⟨by decide, by decide⟩ (Nat.le_of_ble_eq_true rfl) ?_
    rw [d1]
    refine R_aload_n (i := 0) hC dX10_attemptDraw_102 rfl rfl (R_gR hC dX10_attemptDraw_103 fl_X10_94 L_U rfl (R_iload_n (i := 1) hC dX10_attemptDraw_106 rfl rfl ?_))
    refine R_V1i hC hR dX10_attemptDraw_107 MV_X0_draw ml_X10_333 L_dice rfl (c_draw (sL τ i_dice (dx (dx s0))) x (tT α).1 i1 (by omega)) (by first | decide | omega) ⟨by decide, by decide⟩ (Nat.le_of_ble_eq_true rfl) ?_
    rw [lD, sL_sL]
    refine R_iconst (v := 0) hC dX10_attemptDraw_110 (by decide) ?_
    refine R_V4g hC hR dX10_attemptDraw_111 MV_X10_attempt ml_X10_137 L_U rfl (c_attemptD (CInv.l ok hτ (dx (dx (dx s0)))) ok 2 (by decide) (nI (dr (dx (dx s0)) (tT α).1)) (nI (dr (dx (dx (dx s0))) (tT α).1)) 0) (by first | decide | omega) ⟨by decide, by decide⟩ (Nat.le_of_ble_eq_true rfl) (fun r w1 hq => ?_)
    obtain ⟨rfl, υ, rfl, hυ, c2, d2⟩ := hq
    exact R_iret hC hT dX10_attemptDraw_114 rfl ⟨_, υ, rfl, rfl, by rw [← z2]; exact hυ, (c1.l (by decide)).tr c2, by rw [d2]; exact lD _ _, z1⟩
  · have hw : wOf s0 = 3 := hw
    have ea : aOf s0 (tT α) = dr (dx (dx s0)) (tT α).2.1 := by unfold aOf x2; rw [hw, if_pos (by decide)]
    have eb : bOf s0 (tT α) = dr (dx (dx (dx s0))) (tT α).2.1 := by unfold bOf x3 x2; rw [hw, if_neg (by decide), if_neg (by decide), if_neg (by decide)]
    have ex : x4 s0 = dx (dx (dx s0)) := by unfold x4 x3 x2; rw [hw, if_neg (by decide), if_neg (by decide)]
    rw [hw, ea, eb, ex] at hT
    have la := lT (dx (dx s0)) (tT α).2.1 i2 c6
    have lb := lT (dx (dx (dx s0))) (tT α).2.1 i2 c6
    refine pre 3 (by decide) hw (fun τ _ hτ c1 d1 => ?_)
    refine R_tableIn hC 115 dX10_attemptDraw_25 (by decide) (by decide) rfl (by decide) ?_
    obtain ⟨z1, z2⟩ := att_dr h0 (w := 3) (a := dr (dx (dx s0)) (tT α).2.1) (b := dr (dx (dx (dx s0))) (tT α).2.1) (by decide) (by omega) (by omega) (vOf s0)
    refine R_aload_n (i := 0) hC dX10_attemptDraw_115 rfl rfl (R_iconst (v := 3) hC dX10_attemptDraw_116 (by decide) (R_aload_n (i := 0) hC dX10_attemptDraw_117 rfl rfl (R_gR hC dX10_attemptDraw_118 fl_X10_94 L_U rfl (R_iload_n (i := 2) hC dX10_attemptDraw_121 rfl rfl ?_))))
    refine R_V1i hC hR dX10_attemptDraw_122 MV_X0_draw ml_X10_333 L_dice rfl (c_draw τ x (tT α).2.1 i2 (by omega)) (by first | decide | omega) ⟨by decide, by decide⟩ (Nat.le_of_ble_eq_true rfl) ?_
    rw [d1]
    refine R_aload_n (i := 0) hC dX10_attemptDraw_125 rfl rfl (R_gR hC dX10_attemptDraw_126 fl_X10_94 L_U rfl (R_iload_n (i := 2) hC dX10_attemptDraw_129 rfl rfl ?_))
    refine R_V1i hC hR dX10_attemptDraw_130 MV_X0_draw ml_X10_333 L_dice rfl (c_draw (sL τ i_dice (dx (dx s0))) x (tT α).2.1 i2 (by omega)) (by first | decide | omega) ⟨by decide, by decide⟩ (Nat.le_of_ble_eq_true rfl) ?_
    rw [lD, sL_sL]
    refine R_iconst (v := 0) hC dX10_attemptDraw_133 (by decide) ?_
    refine R_V4g hC hR dX10_attemptDraw_134 MV_X10_attempt ml_X10_137 L_U rfl (c_attemptD (CInv.l ok hτ (dx (dx (dx s0)))) ok 3 (by decide) (nI (dr (dx (dx s0)) (tT α).2.1)) (nI (dr (dx (dx (dx s0))) (tT α).2.1)) 0) (by first | decide | omega) ⟨by decide, by decide⟩ (Nat.le_of_ble_eq_true rfl) (fun r w1 hq => ?_)
    obtain ⟨rfl, υ, rfl, hυ, c2, d2⟩ := hq
    exact R_iret hC hT dX10_attemptDraw_137 rfl ⟨_, υ, rfl, rfl, by rw [← z2]; exact hυ, (c1.l (by decide)).tr c2, by rw [d2]; exact lD _ _, z1⟩
  · have hw : wOf s0 = 4 := hw
    have ea : aOf s0 (tT α) = dr (dx (dx s0)) (tT α).1 := by unfold aOf x2; rw [hw, if_neg (by decide)]
    have eb : bOf s0 (tT α) = dr (dx (dx (dx s0))) (tT α).2.1 := by unfold bOf x3 x2; rw [hw, if_neg (by decide), if_neg (by decide), if_neg (by decide)]
    have ex : x4 s0 = dx (dx (dx s0)) := by unfold x4 x3 x2; rw [hw, if_neg (by decide), if_neg (by decide)]
    rw [hw, ea, eb, ex] at hT
    have la := lT (dx (dx s0)) (tT α).1 i1 r6
    have lb := lT (dx (dx (dx s0))) (tT α).2.1 i2 c6
    refine pre 4 (by decide) hw (fun τ _ hτ c1 d1 => ?_)
    refine R_tableIn hC 138 dX10_attemptDraw_25 (by decide) (by decide) rfl (by decide) ?_
    obtain ⟨z1, z2⟩ := att_dr h0 (w := 4) (a := dr (dx (dx s0)) (tT α).1) (b := dr (dx (dx (dx s0))) (tT α).2.1) (by decide) (by omega) (by omega) (vOf s0)
    refine R_aload_n (i := 0) hC dX10_attemptDraw_138 rfl rfl (R_iconst (v := 4) hC dX10_attemptDraw_139 (by decide) (R_aload_n (i := 0) hC dX10_attemptDraw_140 rfl rfl (R_gR hC dX10_attemptDraw_141 fl_X10_94 L_U rfl (R_iload_n (i := 1) hC dX10_attemptDraw_144 rfl rfl ?_))))
    refine R_V1i hC hR dX10_attemptDraw_145 MV_X0_draw ml_X10_333 L_dice rfl (c_draw τ x (tT α).1 i1 (by omega)) (by first | decide | omega) ⟨by decide, by decide⟩ (Nat.le_of_ble_eq_true rfl) ?_
    rw [d1]
    refine R_aload_n (i := 0) hC dX10_attemptDraw_148 rfl rfl (R_gR hC dX10_attemptDraw_149 fl_X10_94 L_U rfl (R_iload_n (i := 2) hC dX10_attemptDraw_152 rfl rfl ?_))
    refine R_V1i hC hR dX10_attemptDraw_153 MV_X0_draw ml_X10_333 L_dice rfl (c_draw (sL τ i_dice (dx (dx s0))) x (tT α).2.1 i2 (by omega)) (by first | decide | omega) ⟨by decide, by decide⟩ (Nat.le_of_ble_eq_true rfl) ?_
    rw [lD, sL_sL]
    refine R_iconst (v := 0) hC dX10_attemptDraw_156 (by decide) ?_
    refine R_V4g hC hR dX10_attemptDraw_157 MV_X10_attempt ml_X10_137 L_U rfl (c_attemptD (CInv.l ok hτ (dx (dx (dx s0)))) ok 4 (by decide) (nI (dr (dx (dx s0)) (tT α).1)) (nI (dr (dx (dx (dx s0))) (tT α).2.1)) 0) (by first | decide | omega) ⟨by decide, by decide⟩ (Nat.le_of_ble_eq_true rfl) (fun r w1 hq => ?_)
    obtain ⟨rfl, υ, rfl, hυ, c2, d2⟩ := hq
    exact R_iret hC hT dX10_attemptDraw_160 rfl ⟨_, υ, rfl, rfl, by rw [← z2]; exact hυ, (c1.l (by decide)).tr c2, by rw [d2]; exact lD _ _, z1⟩
  · have hw : wOf s0 = 5 := hw
    have ea : aOf s0 (tT α) = dr (dx (dx s0)) (tT α).1 := by unfold aOf x2; rw [hw, if_neg (by decide)]
    have eb : bOf s0 (tT α) = dr (dx (dx (dx s0))) (tT α).2.1 := by unfold bOf x3 x2; rw [hw, if_neg (by decide), if_neg (by decide), if_neg (by decide)]
    have ex : x4 s0 = dx (dx (dx (dx s0))) := by unfold x4 x3 x2; rw [hw, if_pos rfl, if_neg (by decide)]
    have ev : vOf s0 = nI (dr (dx (dx (dx (dx s0)))) 3) - 1 := by unfold vOf; rw [hw, if_pos rfl, ex]
    have hv := vOf_sml s0
    rw [hw, ea, eb, ex, ev] at hT
    rw [ev] at hv
    have la := lT (dx (dx s0)) (tT α).1 i1 r6
    have lb := lT (dx (dx (dx s0))) (tT α).2.1 i2 c6
    refine pre 5 (by decide) hw (fun τ _ hτ c1 d1 => ?_)
    refine R_tableOut hC 161 dX10_attemptDraw_25 (by decide) (by decide) ?_
    obtain ⟨z1, z2⟩ := att_dr5 ok h0 la lb hv
    refine R_aload_n (i := 0) hC dX10_attemptDraw_161 rfl rfl (R_bipush (v := 6) hC dX10_attemptDraw_162 (by decide) (R_aload_n (i := 0) hC dX10_attemptDraw_164 rfl rfl (R_gR hC dX10_attemptDraw_165 fl_X10_94 L_U rfl (R_iload_n (i := 1) hC dX10_attemptDraw_168 rfl rfl ?_))))
    refine R_V1i hC hR dX10_attemptDraw_169 MV_X0_draw ml_X10_333 L_dice rfl (c_draw τ x (tT α).1 i1 (by omega)) (by first | decide | omega) ⟨by decide, by decide⟩ (Nat.le_of_ble_eq_true rfl) ?_
    rw [d1]
    refine R_aload_n (i := 0) hC dX10_attemptDraw_172 rfl rfl (R_gR hC dX10_attemptDraw_173 fl_X10_94 L_U rfl (R_iload_n (i := 2) hC dX10_attemptDraw_176 rfl rfl ?_))
    refine R_V1i hC hR dX10_attemptDraw_177 MV_X0_draw ml_X10_333 L_dice rfl (c_draw (sL τ i_dice (dx (dx s0))) x (tT α).2.1 i2 (by omega)) (by first | decide | omega) ⟨by decide, by decide⟩ (Nat.le_of_ble_eq_true rfl) ?_
    rw [lD, sL_sL]
    refine R_aload_n (i := 0) hC dX10_attemptDraw_180 rfl rfl (R_gR hC dX10_attemptDraw_181 fl_X10_94 L_U rfl (R_iconst (v := 3) hC dX10_attemptDraw_184 (by decide) ?_))
    refine R_V1i hC hR dX10_attemptDraw_185 MV_X0_draw ml_X10_333 L_dice rfl (c_draw (sL τ i_dice (dx (dx (dx s0)))) x 3 (by decide) (by decide)) (by first | decide | omega) ⟨by decide, by decide⟩ (Nat.le_of_ble_eq_true rfl) ?_
    rw [lD, sL_sL]
    refine R_iconst (v := 1) hC dX10_attemptDraw_188 (by decide) (R_isub hC dX10_attemptDraw_189 ?_)
    refine R_V4g hC hR dX10_attemptDraw_190 MV_X10_attempt ml_X10_137 L_U rfl (c_attemptD (CInv.l ok hτ (dx (dx (dx (dx s0))))) ok 6 (by decide) (nI (dr (dx (dx s0)) (tT α).1)) (nI (dr (dx (dx (dx s0))) (tT α).2.1)) (nI (dr (dx (dx (dx (dx s0)))) 3) - 1)) (by first | decide | omega) ⟨by decide, by decide⟩ (Nat.le_of_ble_eq_true rfl) (fun r w1 hq => ?_)
    obtain ⟨rfl, υ, rfl, hυ, c2, d2⟩ := hq
    exact R_iret hC hT dX10_attemptDraw_193 rfl ⟨_, υ, rfl, rfl, by rw [← z2]; exact hυ, (c1.l (by decide)).tr c2, by rw [d2]; exact lD _ _, z1⟩
theorem drwN_s (n : Nat) (x : Int64) (α : aS) : drwN (n + 1) x α = ((drAct (wOf x) (aOf x (tT α)) (bOf x (tT α)) (vOf x) α).1 + (drwN n (x4 x) (drAct (wOf x) (aOf x (tT α)) (bOf x (tT α)) (vOf x) α).2).1, (drwN n (x4 x) (drAct (wOf x) (aOf x (tT α)) (bOf x (tT α)) (vOf x) α).2).2) := by rw [drwN]
theorem co_draws {σ : sg} {x : aW} {α : aS} (h : CInv σ α) (ok : aOK α) (n : Int32) (seed : Int64) : Mt mX10_draws 6 0 0 [.ref i_U, .int n, .long seed] (wd σ x) (CPost σ x (opDraws α n seed).1 (opDraws α n seed).2) := by
  refine Mt.of MI_X10_draws (Nat.le_of_ble_eq_true rfl) (fun X hC hR hT => ?_)
  have e1 : (1 : Int32).toInt = 1 := by decide
  have e30 : (30 : Int32).toInt = 30 := by decide
  by_cases h0 : ¬ (tT α).1 = 0 ∧ 1 ≤ n.toInt ∧ n.toInt ≤ 30
  · obtain ⟨N, rfl, hN, hN2⟩ := i32_nI (k := n) (by omega)
    have e : opDraws α (nI N) seed = (nI (drwN N seed α).1, (drwN N seed α).2) := by unfold opDraws; rw [if_pos h0, nI_clamp hN2]
    rw [e] at hT
    have loop : ∀ f i m τ (β : aS) (s0 : Int64), f + i = N → CInv τ β → aOK β → ¬ (tT β).1 = 0 → MEq σ τ → τ.2.1 i_dice = s0 → (drwN N seed α).1 = m + (drwN f s0 β).1 → (drwN N seed α).2 = (drwN f s0 β).2 → Rw mX10_draws X 37 [some (.ref i_U), some (.int (nI N)), some (.long seed), none, some (.int (nI m)), some (.int (nI i))] [] (wd τ x) 0 0 := by
      intro f
      induction f with
      | zero =>
        intro i m τ β s0 h1 hτ okβ hne c d p1 p2
        have ei : i = N := by omega
        subst ei
        refine R_iload hC dX10_draws_37 rfl (R_iload_n (i := 1) hC dX10_draws_39 rfl rfl ?_)
        refine R_icmp_ge hC 60 dX10_draws_40 (by decide) (fun _ => ?_) (fun h => absurd (Int32.le_refl _) h)
        refine R_iload hC dX10_draws_60 rfl ?_
        exact R_iret hC hT dX10_draws_62 rfl (by rw [p1, p2, show drwN 0 s0 β = (0, β) from by rw [drwN]]; exact CPost.i hτ c)
      | succ f ih =>
        intro i m τ β s0 h1 hτ okβ hne c d p1 p2
        have aok := drAct_ok (w := wOf s0) (a := aOf s0 (tT β)) (b := bOf s0 (tT β)) (v := vOf s0) okβ hne (vOf_sml s0) (dr_lt _ (by decide)) (aOf_lt okβ hne s0) (bOf_lt okβ hne s0)
        rw [drwN_s] at p1 p2
        refine R_iload hC dX10_draws_37 rfl (R_iload_n (i := 1) hC dX10_draws_39 rfl rfl ?_)
        refine R_icmp_ge hC 60 dX10_draws_40 (by decide) (fun h => absurd h (nI_ge (by omega) (by omega))) (fun _ => ?_)
        refine R_aload_n (i := 0) hC dX10_draws_43 rfl rfl ?_
        refine R_V0g hC hR dX10_draws_44 MV_X10_attemptDraw ml_X10_311 L_U rfl (c_attDraw hτ okβ hne s0 d) (by first | decide | omega) ⟨by decide, by decide⟩ (Nat.le_of_ble_eq_true rfl) (fun r w1 hq => ?_)
        obtain ⟨v, υ, rfl, rfl, hυ, c2, d2, z⟩ := hq
        skip
        rcases z with ⟨rfl, z⟩ | ⟨hv, z⟩
        · refine R_iconst (v := (-1)) hC dX10_draws_47 (by decide) ?_
          refine R_icmp_ne hC 54 dX10_draws_48 (by decide) (fun h => absurd rfl h) (fun _ => ?_)
          refine R_iinc hC dX10_draws_51 rfl (inc1 _) (by decide) rfl (R_iinc hC dX10_draws_54 rfl (inc1 _) (by decide) rfl (R_goto hC 37 dX10_draws_57 (by decide) ?_))
          exact ih (i + 1) (m + 1) υ _ (x4 s0) (by omega) hυ aok.1 aok.2 (c.tr c2) d2 (by rw [p1, z]; omega) p2
        · refine R_iconst (v := (-1)) hC dX10_draws_47 (by decide) ?_
          refine R_icmp_ne hC 54 dX10_draws_48 (by decide) (fun _ => ?_) (fun h => absurd h hv)
          refine R_iinc hC dX10_draws_54 rfl (inc1 _) (by decide) rfl (R_goto hC 37 dX10_draws_57 (by decide) ?_)
          exact ih (i + 1) m υ _ (x4 s0) (by omega) hυ aok.1 aok.2 (c.tr c2) d2 (by rw [p1, z]; omega) p2
    refine R_aload_n (i := 0) hC dX10_draws_0 rfl rfl (R_gR hC dX10_draws_1 fl_X10_19 L_U rfl ?_)
    refine R_V0i hC hR dX10_draws_4 MV_X7_isNone ml_X10_152 L_table rfl (c_isNone TL_table h.2.1) (by first | decide | omega) ⟨by decide, by decide⟩ (Nat.le_of_ble_eq_true rfl) ?_
    refine R_top (y := 0) (b2i_f h0.1) ?_
    refine R_if_ne hC 21 dX10_draws_7 (by decide) (fun h => absurd rfl h) (fun _ => ?_)
    refine R_iload_n (i := 1) hC dX10_draws_10 rfl rfl (R_iconst (v := 1) hC dX10_draws_11 (by decide) ?_)
    refine R_icmp_lt hC 21 dX10_draws_12 (by decide) (fun h => absurd h (nI_nlt (b := 1) (by omega) (by omega))) (fun _ => ?_)
    refine R_iload_n (i := 1) hC dX10_draws_15 rfl rfl (R_bipush (v := 30) hC dX10_draws_16 (by decide) ?_)
    refine R_icmp_le hC 23 dX10_draws_18 (by decide) (fun _ => ?_) (fun h => absurd (nI_le (b := 30) (by omega) (by decide)) h)
    refine R_aload_n (i := 0) hC dX10_draws_23 rfl rfl (R_gR hC dX10_draws_24 fl_X10_94 L_U rfl (R_lload_n (i := 2) hC dX10_draws_27 rfl rfl (R_pL hC dX10_draws_28 fl_X10_307 L_dice rfl (uL rfl) (R_iconst (v := 0) hC dX10_draws_31 (by decide) (R_istore hC dX10_draws_32 (by decide) rfl (R_iconst (v := 0) hC dX10_draws_34 (by decide) (R_istore hC dX10_draws_35 (by decide) rfl ?_)))))))
    exact loop N 0 0 _ α seed (by omega) (CInv.l ok h seed) ok h0.1 ((MEq.rf _).l (by decide)) (sL_eq _ _ _) (by omega) rfl
  · have e : opDraws α n seed = (-1, α) := by unfold opDraws; rw [if_neg h0]
    refine R_aload_n (i := 0) hC dX10_draws_0 rfl rfl (R_gR hC dX10_draws_1 fl_X10_19 L_U rfl ?_)
    refine R_V0i hC hR dX10_draws_4 MV_X7_isNone ml_X10_152 L_table rfl (c_isNone TL_table h.2.1) (by first | decide | omega) ⟨by decide, by decide⟩ (Nat.le_of_ble_eq_true rfl) ?_
    refine R_if_ne hC 21 dX10_draws_7 (by decide) (fun h7 => ?_) (fun h7 => ?_)
    · refine R_iconst (v := (-1)) hC dX10_draws_21 (by decide) ?_
      exact R_iret hC hT dX10_draws_22 rfl (by rw [e]; exact CPost.i h (MEq.rf _))
    · refine R_iload_n (i := 1) hC dX10_draws_10 rfl rfl (R_iconst (v := 1) hC dX10_draws_11 (by decide) ?_)
      refine R_icmp_lt hC 21 dX10_draws_12 (by decide) (fun h12 => ?_) (fun h12 => ?_)
      · refine R_iconst (v := (-1)) hC dX10_draws_21 (by decide) ?_
        exact R_iret hC hT dX10_draws_22 rfl (by rw [e]; exact CPost.i h (MEq.rf _))
      · refine R_iload_n (i := 1) hC dX10_draws_15 rfl rfl (R_bipush (v := 30) hC dX10_draws_16 (by decide) ?_)
        refine R_icmp_le hC 23 dX10_draws_18 (by decide) (fun h18 => ?_) (fun h18 => ?_)
        · exact absurd ⟨b2i_0 h7, by simp only [i32_ge, i32_lt, e1, e30] at *; omega⟩ h0
        · refine R_iconst (v := (-1)) hC dX10_draws_21 (by decide) ?_
          exact R_iret hC hT dX10_draws_22 rfl (by rw [e]; exact CPost.i h (MEq.rf _))
