/-! ===== the class's fault and text ===== -/
theorem cScr {σ τ : sg} {α : aS} (h : CInv σ α) (ok : aOK α) (e : AE (L5 (151 + 5 * (tS α).1)) σ τ) : CInv τ α := by
  obtain ⟨q1, q2, q3, q4, q5, q6, q7, q8, q9⟩ := h
  have s4 := ok.2.2.2.2.1.1
  have m : ∀ i, i ∈ L5 (151 + 5 * (tS α).1) → 151 + 5 * (tS α).1 ≤ i ∧ i ≤ 175 := fun i z => by simp [L5] at z; omega
  refine ⟨q1.ae e ?_, q2.ae e ?_ ?_, q3.ae ok.2.2.2.1.1 e ?_, q4.ae e ?_, q5.ae e ?_, q6.ae e ?_, q7.ae e ?_, q8.ae e ?_, q9.ae e ?_⟩
  all_goals first
    | (intro i z; have y := m i z; omega)
    | (intro z; have y := m 19 z; omega)
    | (intro z; have y := m 20 z; omega)
theorem co_fault {σ : sg} {x : aW} {α : aS} (h : CInv σ α) (ok : aOK α) (s : Int32) : Mt mX10_fault 6 0 0 [.ref i_U, .int s] (wd σ x) (CPost σ x (opFault α s) α) := by
  refine Mt.of MI_X10_fault (Nat.le_of_ble_eq_true rfl) (fun X hC hR hT => ?_)
  have s4 := ok.2.2.2.2.1.1
  have hS := SL_scr (tS α).1 (by omega)
  refine R_iload_n (i := 1) hC dX10_fault_0 rfl rfl ?_
  refine R_if_ne hC 16 dX10_fault_1 (by decide) (fun h1 => ?_) (fun h1 => ?_)
  · refine R_iload_n (i := 1) hC dX10_fault_16 rfl rfl (R_iconst (v := 1) hC dX10_fault_17 (by decide) ?_)
    refine R_icmp_ne hC 38 dX10_fault_18 (by decide) (fun h18 => ?_) (fun h18 => ?_)
    · refine R_bipush (v := (-2)) hC dX10_fault_38 (by decide) ?_
      exact R_iret hC hT dX10_fault_40 rfl (by unfold opFault; rw [if_neg h1, if_neg h18]; exact CPost.i h (MEq.rf _))
    · refine R_aload_n (i := 0) hC dX10_fault_21 rfl rfl (R_gR hC dX10_fault_22 fl_X10_42 L_U rfl (R_aload_n (i := 0) hC dX10_fault_25 rfl rfl (R_gI hC dX10_fault_26 fl_X10_115 L_U rfl ?_)))
      refine R_top (y := nI (tS α).1) (h.2.2.2.1.1) ?_
      refine R_aR hC dX10_fault_29 L_scr_a (Or.inr rfl) (tS α).1 rfl (by omega) (by decide) (fl_scr _ (by omega)) (R_aload_n (i := 0) hC dX10_fault_30 rfl rfl (R_gR hC dX10_fault_31 fl_X10_12 L_U rfl ?_))
      refine R_V1g hC hR dX10_fault_34 MV_X4_read ml_X10_118 hS.1 rfl (c_readZ hS (by omega) h.1 (tpOK_of ok)) (by first | decide | omega) ⟨by decide, by decide⟩ (Nat.le_of_ble_eq_true rfl) (fun r w1 hq => ?_)
      obtain ⟨τ, v, rfl, ae, rfl, hd⟩ := hq
      exact R_iret hC hT dX10_fault_37 rfl (by
      subst h18
      have e : opFault α 1 = v := by
        unfold opFault rZ
        rw [if_neg (by decide), if_pos rfl]
        rcases hd with ⟨p, _, e, rfl⟩ | ⟨T, e, rfl, _⟩ <;> rw [e]
      rw [e]
      exact CPost.i (cScr h ok ae) (ae.meq (by intro i z; simp [L5] at z; show i < 176; omega)))
  · refine R_aload_n (i := 0) hC dX10_fault_4 rfl rfl (R_gR hC dX10_fault_5 fl_X10_26 L_U rfl (R_aload_n (i := 0) hC dX10_fault_8 rfl rfl (R_gR hC dX10_fault_9 fl_X10_12 L_U rfl ?_)))
    refine R_V1g hC hR dX10_fault_12 MV_X7_read ml_X10_111 L_draft rfl (c_readT TL_draft (by decide) h.1 (tpOK_of ok)) (by first | decide | omega) ⟨by decide, by decide⟩ (Nat.le_of_ble_eq_true rfl) (fun r w1 hq => ?_)
    obtain ⟨τ, v, rfl, ae, rfl, hd⟩ := hq
    exact R_iret hC hT dX10_fault_15 rfl (by
    subst h1
    have e : opFault α 0 = v := by
      unfold opFault rT
      rw [if_pos rfl]
      rcases hd with ⟨p, _, e, rfl⟩ | ⟨T, e, rfl, _⟩ <;> rw [e]
    rw [e]
    exact CPost.i (h.ae ok ae (by intro i z; simp at z; unfold scq; rcases z with rfl | rfl <;> decide)) (ae.meq (by decide)))
theorem cText0 {σ τ υ : sg} {α : aS} {T : tb} (h : CInv σ α) (ok : aOK α) (e : AE [23, 24] σ τ) (e2 : AE [19, 20] τ υ) (ht : CT υ 19 T) : CInv (fgt (sG (sG υ i_tape 1 0) i_past 2 0)) ((0, (tp α).2), T, tK α, tS α, (0, (tP α).2), α.2.2.2.2.2) ∧ MEq σ (fgt (sG (sG υ i_tape 1 0) i_past 2 0)) := by
  have ca : AE [17, 19, 20, 23, 24, 25, 112, 114, 119, 124] σ (fgt (sG (sG υ i_tape 1 0) i_past 2 0)) := ((((e.w (by decide)).tr (e2.w (by decide))).g (by decide)).g (by decide)).tr ((fgt_ae _).w (by decide))
  have s4 := ok.2.2.2.2.1.1
  refine ⟨?_, ca.meq (by decide)⟩
  have fo : ∀ a b, a ≠ 112 → a ≠ 114 → a ≠ 119 → a ≠ 124 → (fgt (sG (sG υ i_tape 1 0) i_past 2 0)).1 a b = (sG (sG υ i_tape 1 0) i_past 2 0).1 a b := fun a b h1 h2 h3 h4 => (sG_ni h4).trans ((sG_ni h3).trans ((sG_ni h2).trans (sG_ni h1)))
  have f17 : (fgt (sG (sG υ i_tape 1 0) i_past 2 0)).1 17 1 = 0 := (fo 17 1 (by decide) (by decide) (by decide) (by decide)).trans ((sG_ni (by decide)).trans (sG_eq υ 17 1 0))
  have f25 : (fgt (sG (sG υ i_tape 1 0) i_past 2 0)).1 25 2 = 0 := (fo 25 2 (by decide) (by decide) (by decide) (by decide)).trans (sG_eq _ 25 2 0)
  have f251 : (fgt (sG (sG υ i_tape 1 0) i_past 2 0)).1 25 1 = σ.1 25 1 := (fo 25 1 (by decide) (by decide) (by decide) (by decide)).trans ((sG_nk (by decide)).trans ((sG_ni (by decide)).trans ((congrFun (e2 25 (by decide)).1 1).trans (congrFun (e 25 (by decide)).1 1))))
  have ft : CT (fgt (sG (sG υ i_tape 1 0) i_past 2 0)) 19 T := ht.of (by funext b; exact (fo 19 b (by decide) (by decide) (by decide) (by decide)).trans ((sG_ni (by decide)).trans (sG_ni (by decide)))) rfl
  obtain ⟨q1, q2, q3, q4, ⟨o, o1, o2, o3, o4⟩, q6, q7, q8, q9⟩ := h
  exact ⟨⟨f17, fun i hi => absurd hi (Nat.not_lt_zero _)⟩, ft, q3.ae ok.2.2.2.1.1 ca (by decide), q4.ae ca (by intro i z; simp at z; omega), ⟨o, o1, f251.trans o2, f25, fun k hk => absurd hk (Nat.not_lt_zero _)⟩, q6.ae ca (by decide), q7.ae ca (by decide), q8.ae ca (by decide), fgt_cc _ _⟩
theorem c_tabTape {σ : sg} {x : aW} {α : aS} (h : CInv σ α) (ok : aOK α) : Mt mX10_tableFromTape 2 0 0 [.ref i_U] (wd σ x) (CPost σ x (opText α 0).1 (opText α 0).2) := by
  refine Mt.of MI_X10_tableFromTape (Nat.le_of_ble_eq_true rfl) (fun X hC hR hT => ?_)
  refine R_aload_n (i := 0) hC dX10_tableFromTape_0 rfl rfl (R_gR hC dX10_tableFromTape_1 fl_X10_26 L_U rfl (R_aload_n (i := 0) hC dX10_tableFromTape_4 rfl rfl (R_gR hC dX10_tableFromTape_5 fl_X10_12 L_U rfl ?_)))
  refine R_V1g hC hR dX10_tableFromTape_8 MV_X7_read ml_X10_111 L_draft rfl (c_readT TL_draft (by decide) h.1 (tpOK_of ok)) (by first | decide | omega) ⟨by decide, by decide⟩ (Nat.le_of_ble_eq_true rfl) (fun r w1 hq => ?_)
  obtain ⟨τ, v, rfl, ae, rfl, hd⟩ := hq
  skip
  rcases hd with ⟨p, p2, e, rfl⟩ | ⟨T, e, rfl, hc⟩
  · have eo : opText α 0 = (-1, α) := by unfold opText rT; rw [if_pos rfl, e]
    refine R_iconst (v := (-1)) hC dX10_tableFromTape_11 (by decide) ?_
    refine R_icmp_eq hC 17 dX10_tableFromTape_12 (by decide) (fun h => absurd h (nI_n1 (by omega))) (fun _ => ?_)
    refine R_iconst (v := (-1)) hC dX10_tableFromTape_15 (by decide) ?_
    exact R_iret hC hT dX10_tableFromTape_16 rfl (by rw [eo]; exact CPost.i (h.ae ok ae (by intro i z; simp at z; unfold scq; rcases z with rfl | rfl <;> decide)) (ae.meq (by decide)))
  · have eo : opText α 0 = (nI T.1, (0, (tp α).2), T, tK α, tS α, (0, (tP α).2), α.2.2.2.2.2) := by unfold opText rT; rw [if_pos rfl, e]
    refine R_iconst (v := (-1)) hC dX10_tableFromTape_11 (by decide) ?_
    refine R_icmp_eq hC 17 dX10_tableFromTape_12 (by decide) (fun _ => ?_) (fun h => absurd rfl h)
    refine R_aload_n (i := 0) hC dX10_tableFromTape_17 rfl rfl (R_gR hC dX10_tableFromTape_18 fl_X10_19 L_U rfl (R_aload_n (i := 0) hC dX10_tableFromTape_21 rfl rfl (R_gR hC dX10_tableFromTape_22 fl_X10_26 L_U rfl ?_)))
    refine R_V1g hC hR dX10_tableFromTape_25 MV_X7_copyFrom ml_X10_159 L_table rfl (c_copyFrom TL_table TL_draft (by decide) hc) (by first | decide | omega) ⟨by decide, by decide⟩ (Nat.le_of_ble_eq_true rfl) (fun r w1 hq => ?_)
    obtain ⟨rfl, υ, rfl, ae2, ht⟩ := hq
    obtain ⟨ci, me⟩ := cText0 h ok ae ae2 ht
    refine R_aload_n (i := 0) hC dX10_tableFromTape_28 rfl rfl (R_gR hC dX10_tableFromTape_29 fl_X10_12 L_U rfl (R_iconst (v := 0) hC dX10_tableFromTape_32 (by decide) (R_pI hC dX10_tableFromTape_33 fl_X10_103 L_tape rfl (R_aload_n (i := 0) hC dX10_tableFromTape_36 rfl rfl (R_gR hC dX10_tableFromTape_37 fl_X10_32 L_U rfl ?_)))))
    refine R_V0v hC hR dX10_tableFromTape_40 MV_X2_clear ml_X10_317 L_past rfl (c_pclear _ _) (by first | decide | omega) ⟨by decide, by decide⟩ (Nat.le_of_ble_eq_true rfl) ?_
    refine R_aload_n (i := 0) hC dX10_tableFromTape_43 rfl rfl ?_
    refine R_V0v hC hR dX10_tableFromTape_44 MV_X10_forget ml_X10_176 L_U rfl (c_forget _ _) (by first | decide | omega) ⟨by decide, by decide⟩ (Nat.le_of_ble_eq_true rfl) ?_
    refine R_aload_n (i := 0) hC dX10_tableFromTape_47 rfl rfl (R_gR hC dX10_tableFromTape_48 fl_X10_19 L_U rfl (R_gI hC dX10_tableFromTape_51 fl_X10_170 L_table rfl ?_))
    refine R_top (y := nI T.1) (ci.2.1.1) ?_
    exact R_iret hC hT dX10_tableFromTape_54 rfl (by rw [eo]; exact CPost.i ci me)
theorem cText1 {σ τ : sg} {α : aS} {z : scr} (h : CInv σ α) (ok : aOK α) (h4 : (tS α).1 < 4) (e : AE (L5 (151 + 5 * (tS α).1)) σ τ) (hz : CS τ (151 + 5 * (tS α).1) z) : CInv (sG (sG τ i_tape 1 0) i_U 8 (nI ((tS α).1 + 1))) ((0, (tp α).2), tT α, tK α, ((tS α).1 + 1, fun k => if k = (tS α).1 then z else (tS α).2 k), α.2.2.2.2) := by
  have h2 := cScr h ok e
  have ca : AE [16, 17] τ (sG (sG τ i_tape 1 0) i_U 8 (nI ((tS α).1 + 1))) := ((AE.rf _ τ).g (by decide)).g (by decide)
  have f16 : ∀ b, b ≠ 8 → (sG (sG τ i_tape 1 0) i_U 8 (nI ((tS α).1 + 1))).1 16 b = τ.1 16 b := fun b hb => (sG_nk hb).trans (sG_ni (by decide))
  obtain ⟨q1, q2, q3, q4, q5, q6, q7, q8, q9⟩ := h2
  have k4 := ok.2.2.2.1.1
  refine ⟨⟨(sG_ni (by decide)).trans (sG_eq τ 17 1 0), fun i hi => absurd hi (Nat.not_lt_zero _)⟩, q2.ae ca (by decide) (by decide), ⟨(f16 6 (by decide)).trans q3.1, fun k hk => (q3.2 k hk).ae ca ?_ ?_⟩, ⟨sG_eq _ _ _ _, fun k hk => ?_⟩, q5.ae ca (by decide), q6.ae ca (by decide), ⟨q7.1.ae ca (by decide) (by decide), fun w => (f16 10 (by decide)).trans (q7.2 w)⟩, q8.ae ca (by decide), q9.ae ca (by decide)⟩
  · have hk : k < (tK α).1 := hk
    simp; omega
  · have hk : k < (tK α).1 := hk
    simp; omega
  · have hk : k < (tS α).1 + 1 := hk
    show CS _ (151 + 5 * k) (if k = (tS α).1 then z else (tS α).2 k)
    by_cases y : k = (tS α).1
    · rw [if_pos y, y]
      exact hz.ae ca (by intro i w; simp at w; omega)
    · rw [if_neg y]
      exact (q4.2 k (by show k < (tS α).1; omega)).ae ca (by intro i w; simp at w; omega)
theorem c_scrTape {σ : sg} {x : aW} {α : aS} (h : CInv σ α) (ok : aOK α) : Mt mX10_scriptFromTape 6 0 0 [.ref i_U] (wd σ x) (CPost σ x (opText α 1).1 (opText α 1).2) := by
  refine Mt.of MI_X10_scriptFromTape (Nat.le_of_ble_eq_true rfl) (fun X hC hR hT => ?_)
  have s4 := ok.2.2.2.2.1.1
  have hS := SL_scr (tS α).1 (by omega)
  by_cases f4 : (tS α).1 = 4
  · have eo : opText α 1 = (-1, α) := by unfold opText; rw [if_neg (by decide), if_pos rfl, if_pos f4]
    refine R_aload_n (i := 0) hC dX10_scriptFromTape_0 rfl rfl (R_gI hC dX10_scriptFromTape_1 fl_X10_115 L_U rfl ?_)
    refine R_top (y := nI (tS α).1) (h.2.2.2.1.1) ?_
    refine R_iconst (v := 4) hC dX10_scriptFromTape_4 (by decide) ?_
    refine R_icmp_ge hC 28 dX10_scriptFromTape_5 (by decide) (fun _ => ?_) (fun h => absurd (by rw [f4]; decide) h)
    refine R_iconst (v := (-1)) hC dX10_scriptFromTape_28 (by decide) ?_
    exact R_iret hC hT dX10_scriptFromTape_29 rfl (by rw [eo]; exact CPost.i h (MEq.rf _))
  · refine R_aload_n (i := 0) hC dX10_scriptFromTape_0 rfl rfl (R_gI hC dX10_scriptFromTape_1 fl_X10_115 L_U rfl ?_)
    refine R_top (y := nI (tS α).1) (h.2.2.2.1.1) ?_
    refine R_iconst (v := 4) hC dX10_scriptFromTape_4 (by decide) ?_
    refine R_icmp_ge hC 28 dX10_scriptFromTape_5 (by decide) (fun h => absurd h (nI_ge (b := 4) (by omega) (by decide))) (fun _ => ?_)
    refine R_aload_n (i := 0) hC dX10_scriptFromTape_8 rfl rfl (R_gR hC dX10_scriptFromTape_9 fl_X10_42 L_U rfl (R_aload_n (i := 0) hC dX10_scriptFromTape_12 rfl rfl (R_gI hC dX10_scriptFromTape_13 fl_X10_115 L_U rfl ?_)))
    refine R_top (y := nI (tS α).1) (h.2.2.2.1.1) ?_
    refine R_aR hC dX10_scriptFromTape_16 L_scr_a (Or.inr rfl) (tS α).1 rfl (by omega) (by decide) (fl_scr _ (by omega)) (R_aload_n (i := 0) hC dX10_scriptFromTape_17 rfl rfl (R_gR hC dX10_scriptFromTape_18 fl_X10_12 L_U rfl ?_))
    refine R_V1g hC hR dX10_scriptFromTape_21 MV_X4_read ml_X10_118 hS.1 rfl (c_readZ hS (by omega) h.1 (tpOK_of ok)) (by first | decide | omega) ⟨by decide, by decide⟩ (Nat.le_of_ble_eq_true rfl) (fun r w1 hq => ?_)
    obtain ⟨τ, v, rfl, ae, rfl, hd⟩ := hq
    skip
    rcases hd with ⟨p, p2, e, rfl⟩ | ⟨z, e, rfl, hc⟩
    · have eo : opText α 1 = (-1, α) := by unfold opText rZ; rw [if_neg (by decide), if_pos rfl, if_neg f4, e]
      refine R_iconst (v := (-1)) hC dX10_scriptFromTape_24 (by decide) ?_
      refine R_icmp_eq hC 30 dX10_scriptFromTape_25 (by decide) (fun h => absurd h (nI_n1 (by omega))) (fun _ => ?_)
      refine R_iconst (v := (-1)) hC dX10_scriptFromTape_28 (by decide) ?_
      exact R_iret hC hT dX10_scriptFromTape_29 rfl (by rw [eo]; exact CPost.i (cScr h ok ae) (ae.meq (by intro i z; simp [L5] at z; show i < 176; omega)))
    · have eo : opText α 1 = (nI (tS α).1, (0, (tp α).2), tT α, tK α, ((tS α).1 + 1, fun k => if k = (tS α).1 then z else (tS α).2 k), α.2.2.2.2) := by unfold opText rZ; rw [if_neg (by decide), if_pos rfl, if_neg f4, e]
      have f8 : τ.1 16 8 = nI (tS α).1 := (cScr h ok ae).2.2.2.1.1
      refine R_iconst (v := (-1)) hC dX10_scriptFromTape_24 (by decide) ?_
      refine R_icmp_eq hC 30 dX10_scriptFromTape_25 (by decide) (fun _ => ?_) (fun h => absurd rfl h)
      refine R_aload_n (i := 0) hC dX10_scriptFromTape_30 rfl rfl (R_gR hC dX10_scriptFromTape_31 fl_X10_12 L_U rfl (R_iconst (v := 0) hC dX10_scriptFromTape_34 (by decide) (R_pI hC dX10_scriptFromTape_35 fl_X10_103 L_tape rfl (R_aload_n (i := 0) hC dX10_scriptFromTape_38 rfl rfl (R_dup hC dX10_scriptFromTape_39 rfl (R_gI hC dX10_scriptFromTape_40 fl_X10_115 L_U rfl ?_))))))
      refine R_top (y := nI (tS α).1) (((sG_ni (by decide)).trans f8)) ?_
      refine R_iconst (v := 1) hC dX10_scriptFromTape_43 (by decide) (R_iadd hC dX10_scriptFromTape_44 ?_)
      refine R_top (y := nI ((tS α).1 + 1)) (inc1 _) ?_
      refine R_pI hC dX10_scriptFromTape_45 fl_X10_115 L_U rfl (R_aload_n (i := 0) hC dX10_scriptFromTape_48 rfl rfl (R_gI hC dX10_scriptFromTape_49 fl_X10_115 L_U rfl ?_))
      refine R_top (y := nI ((tS α).1 + 1)) (sG_eq _ _ _ _) ?_
      refine R_iconst (v := 1) hC dX10_scriptFromTape_52 (by decide) (R_isub hC dX10_scriptFromTape_53 ?_)
      refine R_top (y := nI (tS α).1) (nI_dec (Nat.succ_ne_zero _)) ?_
      exact R_iret hC hT dX10_scriptFromTape_54 rfl (by rw [eo]; exact CPost.i (cText1 h ok (by omega) ae hc) ((((ae.meq (by intro i z; simp [L5] at z; show i < 176; omega)).g (by decide)).g (by decide))))
theorem co_text {σ : sg} {x : aW} {α : aS} (h : CInv σ α) (ok : aOK α) (s : Int32) : Mt mX10_text 7 0 0 [.ref i_U, .int s] (wd σ x) (CPost σ x (opText α s).1 (opText α s).2) := by
  refine Mt.of MI_X10_text (Nat.le_of_ble_eq_true rfl) (fun X hC hR hT => ?_)
  refine R_iload_n (i := 1) hC dX10_text_0 rfl rfl ?_
  refine R_if_ne hC 9 dX10_text_1 (by decide) (fun h1 => ?_) (fun h1 => ?_)
  · refine R_iload_n (i := 1) hC dX10_text_9 rfl rfl (R_iconst (v := 1) hC dX10_text_10 (by decide) ?_)
    refine R_icmp_ne hC 19 dX10_text_11 (by decide) (fun h11 => ?_) (fun h11 => ?_)
    · refine R_iconst (v := (-1)) hC dX10_text_19 (by decide) ?_
      exact R_iret hC hT dX10_text_20 rfl (by unfold opText; rw [if_neg h1, if_neg h11]; exact CPost.i h (MEq.rf _))
    · refine R_aload_n (i := 0) hC dX10_text_14 rfl rfl ?_
      refine R_V0g hC hR dX10_text_15 MV_X10_scriptFromTape ml_X10_123 L_U rfl (c_scrTape h ok) (by first | decide | omega) ⟨by decide, by decide⟩ (Nat.le_of_ble_eq_true rfl) (fun r w1 hq => ?_)
      obtain ⟨rfl, τ, rfl, ci, me⟩ := hq
      exact R_iret hC hT dX10_text_18 rfl (by subst h11; exact CPost.i ci me)
  · refine R_aload_n (i := 0) hC dX10_text_4 rfl rfl ?_
    refine R_V0g hC hR dX10_text_5 MV_X10_tableFromTape ml_X10_119 L_U rfl (c_tabTape h ok) (by first | decide | omega) ⟨by decide, by decide⟩ (Nat.le_of_ble_eq_true rfl) (fun r w1 hq => ?_)
    obtain ⟨rfl, τ, rfl, ci, me⟩ := hq
    exact R_iret hC hT dX10_text_8 rfl (by subst h1; exact CPost.i ci me)
