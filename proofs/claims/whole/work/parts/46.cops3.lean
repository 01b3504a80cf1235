/-! ===== the class's keep, kept, undo, image, back, count, join ===== -/
theorem nj4 {j : Nat} (h : j < 4) : ¬ nI j = -1 := by rcases (by omega : j = 0 ∨ j = 1 ∨ j = 2 ∨ j = 3) with rfl | rfl | rfl | rfl <;> decide
theorem co_keep {σ : sg} {x : aW} {α : aS} (h : CInv σ α) (ok : aOK α) : Mt mX10_keep 2 0 0 [.ref i_U] (wd σ x) (CPost σ x (opKeep α).1 (opKeep α).2) := by
  refine Mt.of MI_X10_keep (Nat.le_of_ble_eq_true rfl) (fun X hC hR hT => ?_)
  have k4 := ok.2.2.2.1.1
  have s4 := ok.2.2.2.2.1.1
  by_cases h0 : (tT α).1 = 0 ∨ (tK α).1 = 4
  · have e : opKeep α = (-1, α) := by unfold opKeep; rw [if_pos h0]
    refine R_aload_n (i := 0) hC dX10_keep_0 rfl rfl (R_gR hC dX10_keep_1 fl_X10_19 L_U rfl ?_)
    refine R_V0i hC hR dX10_keep_4 MV_X7_isNone ml_X10_152 L_table rfl (c_isNone TL_table h.2.1) (by first | decide | omega) ⟨by decide, by decide⟩ (Nat.le_of_ble_eq_true rfl) ?_
    refine R_if_ne hC 18 dX10_keep_7 (by decide) (fun h7 => ?_) (fun h7 => ?_)
    · refine R_iconst (v := (-1)) hC dX10_keep_18 (by decide) ?_
      exact R_iret hC hT dX10_keep_19 rfl (by rw [e]; exact CPost.i h (MEq.rf _))
    · refine R_aload_n (i := 0) hC dX10_keep_10 rfl rfl (R_gI hC dX10_keep_11 fl_X10_156 L_U rfl ?_)
      refine R_top (y := nI (tK α).1) (h.2.2.1.1) ?_
      refine R_iconst (v := 4) hC dX10_keep_14 (by decide) ?_
      refine R_icmp_lt hC 20 dX10_keep_15 (by decide) (fun h15 => ?_) (fun h15 => ?_)
      · exact absurd h0 (by
          have q1 := b2i_0 h7
          have q2 := (nI_ltI (b := 4) (by omega) (by decide)).mp h15
          omega)
      · refine R_iconst (v := (-1)) hC dX10_keep_18 (by decide) ?_
        exact R_iret hC hT dX10_keep_19 rfl (by rw [e]; exact CPost.i h (MEq.rf _))
  · have e : opKeep α = (nI (tK α).1, α.1, α.2.1, ((tK α).1 + 1, fun k => if k = (tK α).1 then tT α else (tK α).2 k), α.2.2.2) := by unfold opKeep; rw [if_neg h0]
    have hk : (tK α).1 < 4 := by omega
    have hA := TL_kept (tK α).1 hk
    refine R_aload_n (i := 0) hC dX10_keep_0 rfl rfl (R_gR hC dX10_keep_1 fl_X10_19 L_U rfl ?_)
    refine R_V0i hC hR dX10_keep_4 MV_X7_isNone ml_X10_152 L_table rfl (c_isNone TL_table h.2.1) (by first | decide | omega) ⟨by decide, by decide⟩ (Nat.le_of_ble_eq_true rfl) ?_
    refine R_top (y := 0) (b2i_f (fun z => h0 (Or.inl z))) ?_
    refine R_if_ne hC 18 dX10_keep_7 (by decide) (fun h => absurd rfl h) (fun _ => ?_)
    refine R_aload_n (i := 0) hC dX10_keep_10 rfl rfl (R_gI hC dX10_keep_11 fl_X10_156 L_U rfl ?_)
    refine R_top (y := nI (tK α).1) (h.2.2.1.1) ?_
    refine R_iconst (v := 4) hC dX10_keep_14 (by decide) ?_
    refine R_icmp_lt hC 20 dX10_keep_15 (by decide) (fun _ => ?_) (fun h => absurd (nI_lt (b := 4) hk (by decide)) h)
    refine R_aload_n (i := 0) hC dX10_keep_20 rfl rfl (R_gR hC dX10_keep_21 fl_X10_36 L_U rfl (R_aload_n (i := 0) hC dX10_keep_24 rfl rfl (R_gI hC dX10_keep_25 fl_X10_156 L_U rfl ?_)))
    refine R_top (y := nI (tK α).1) (h.2.2.1.1) ?_
    refine R_aR hC dX10_keep_28 L_kept_a (Or.inl rfl) (tK α).1 rfl hk (by decide) (fl_kept _ hk) (R_aload_n (i := 0) hC dX10_keep_29 rfl rfl (R_gR hC dX10_keep_30 fl_X10_19 L_U rfl ?_))
    refine R_V1g hC hR dX10_keep_33 MV_X7_copyFrom ml_X10_159 hA.1 rfl (c_copyFrom hA TL_table (by show _ ≠ 19; omega) h.2.1) (by first | decide | omega) ⟨by decide, by decide⟩ (Nat.le_of_ble_eq_true rfl) (fun r w1 hq => ?_)
    obtain ⟨rfl, τ, rfl, c, ht⟩ := hq
    have e16 := (c 16 (by simp; omega)).1
    refine R_aload_n (i := 0) hC dX10_keep_36 rfl rfl (R_dup hC dX10_keep_37 rfl (R_gI hC dX10_keep_38 fl_X10_156 L_U rfl ?_))
    refine R_top (y := nI (tK α).1) (by rw [e16]; exact h.2.2.1.1) ?_
    refine R_iconst (v := 1) hC dX10_keep_41 (by decide) (R_iadd hC dX10_keep_42 ?_)
    refine R_top (y := nI ((tK α).1 + 1)) (nI_1 _) ?_
    refine R_pI hC dX10_keep_43 fl_X10_156 L_U rfl (R_aload_n (i := 0) hC dX10_keep_46 rfl rfl (R_gI hC dX10_keep_47 fl_X10_156 L_U rfl ?_))
    refine R_top (y := nI ((tK α).1 + 1)) (sG_eq _ _ _ _) ?_
    refine R_iconst (v := 1) hC dX10_keep_50 (by decide) (R_isub hC dX10_keep_51 ?_)
    refine R_top (y := nI (tK α).1) (nI_pred _) ?_
    exact R_iret hC hT dX10_keep_52 rfl (by
    rw [e]
    have ca : AE [16, 143 + 2 * (tK α).1, 143 + 2 * (tK α).1 + 1] σ (sG τ i_U 6 (nI ((tK α).1 + 1))) := (c.w (fun i q => List.mem_cons_of_mem _ q)).g List.mem_cons_self
    obtain ⟨q1, q2, q3, q4, q5, q6, q7, q8, q9⟩ := h
    refine CPost.i ⟨q1.ae ca (by intro i q; simp at q; omega), q2.ae ca (by show (19 : Nat) ∉ _; simp; omega) (by show (20 : Nat) ∉ _; simp; omega), ⟨sG_eq _ _ _ _, fun k hk2 => ?_⟩, ?_, q5.ae ca (by intro i q; simp at q; omega), q6.ae ca (by intro i q; simp at q; omega), ?_, q8.ae ca (by intro i q; simp at q; omega), q9.ae ca (by intro i q; simp at q; omega)⟩ (ca.meq (by intro i q; simp at q; show i < 176; omega))
    · have hk2 : k < (tK α).1 + 1 := hk2
      show CT _ _ (if k = (tK α).1 then tT α else (tK α).2 k)
      by_cases e2 : k = (tK α).1
      · subst e2; rw [if_pos rfl]; exact ht.of (by funext b; exact sG_ni (by show _ ≠ 16; omega)) rfl
      · rw [if_neg e2]; exact (q3.2 k (by omega)).ae ca (by simp; omega) (by simp; omega)
    · refine ⟨?_, fun k hk2 => (q4.2 k hk2).ae ca (by intro i q; simp at q; omega)⟩
      rw [sG_nk (by decide), e16]; exact q4.1
    · refine ⟨q7.1.ae ca (by show (109 : Nat) ∉ _; simp; omega) (by show (110 : Nat) ∉ _; simp; omega), ?_⟩
      rw [sG_nk (by decide), e16]; exact q7.2)
theorem co_kept {σ : sg} {x : aW} {α : aS} (h : CInv σ α) (ok : aOK α) (k r c : Int32) : Mt mX10_kept 1 0 0 [.ref i_U, .int k, .int r, .int c] (wd σ x) (CPost σ x (opKept α k r c) α) := by
  refine Mt.of MI_X10_kept (Nat.le_of_ble_eq_true rfl) (fun X hC hR hT => ?_)
  have k4 := ok.2.2.2.1.1
  by_cases h0 : inR (tK α).1 k
  · obtain ⟨j, rfl, hj, hj2⟩ := inR_i h0
    have hA := TL_kept j (by omega)
    have ht := h.2.2.1.2 j hj
    by_cases h1 : inR ((tK α).2 j).1 r ∧ inR ((tK α).2 j).2.1 c
    · have e : opKept α (nI j) r c = ((tK α).2 j).2.2 r.toNatClampNeg c.toNatClampNeg := by unfold opKept; rw [nI_clamp hj2, if_pos ⟨h0, h1⟩]
      refine R_aload_n (i := 0) hC dX10_kept_0 rfl rfl (R_iload_n (i := 1) hC dX10_kept_1 rfl rfl ?_)
      refine R_V1i hC hR dX10_kept_2 MV_X10_isKept ml_X10_163 L_U rfl (c_isKept h ok _) (by first | decide | omega) ⟨by decide, by decide⟩ (Nat.le_of_ble_eq_true rfl) ?_
      refine R_top (y := 1) (b2i_t h0) ?_
      refine R_if_eq hC 22 dX10_kept_5 (by decide) (fun h => absurd h (by decide)) (fun _ => ?_)
      refine R_aload_n (i := 0) hC dX10_kept_8 rfl rfl (R_gR hC dX10_kept_9 fl_X10_36 L_U rfl (R_iload_n (i := 1) hC dX10_kept_12 rfl rfl (R_aR hC dX10_kept_13 L_kept_a (Or.inl rfl) j rfl (by omega) (by decide) (fl_kept _ (by omega)) (R_iload_n (i := 2) hC dX10_kept_14 rfl rfl (R_iload_n (i := 3) hC dX10_kept_15 rfl rfl ?_)))))
      refine R_V2i hC hR dX10_kept_16 MV_X7_has ml_X10_126 hA.1 rfl (c_has hA ht r c) (by first | decide | omega) ⟨by decide, by decide⟩ (Nat.le_of_ble_eq_true rfl) ?_
      refine R_top (y := 1) (b2i_t h1) ?_
      refine R_if_ne hC 25 dX10_kept_19 (by decide) (fun _ => ?_) (fun h => absurd h (by decide))
      refine R_aload_n (i := 0) hC dX10_kept_25 rfl rfl (R_gR hC dX10_kept_26 fl_X10_36 L_U rfl (R_iload_n (i := 1) hC dX10_kept_29 rfl rfl (R_aR hC dX10_kept_30 L_kept_a (Or.inl rfl) j rfl (by omega) (by decide) (fl_kept _ (by omega)) (R_iload_n (i := 2) hC dX10_kept_31 rfl rfl (R_iload_n (i := 3) hC dX10_kept_32 rfl rfl ?_)))))
      refine R_V2i hC hR dX10_kept_33 MV_X7_at ml_X10_133 hA.1 rfl (c_at hA ht r c) (by first | decide | omega) ⟨by decide, by decide⟩ (Nat.le_of_ble_eq_true rfl) ?_
      exact R_iret hC hT dX10_kept_36 rfl (by rw [e, atZ_y h1]; exact CPost.i h (MEq.rf _))
    · have e : opKept α (nI j) r c = -1000000 := by unfold opKept; rw [nI_clamp hj2, if_neg (fun z => h1 z.2)]
      refine R_aload_n (i := 0) hC dX10_kept_0 rfl rfl (R_iload_n (i := 1) hC dX10_kept_1 rfl rfl ?_)
      refine R_V1i hC hR dX10_kept_2 MV_X10_isKept ml_X10_163 L_U rfl (c_isKept h ok _) (by first | decide | omega) ⟨by decide, by decide⟩ (Nat.le_of_ble_eq_true rfl) ?_
      refine R_top (y := 1) (b2i_t h0) ?_
      refine R_if_eq hC 22 dX10_kept_5 (by decide) (fun h => absurd h (by decide)) (fun _ => ?_)
      refine R_aload_n (i := 0) hC dX10_kept_8 rfl rfl (R_gR hC dX10_kept_9 fl_X10_36 L_U rfl (R_iload_n (i := 1) hC dX10_kept_12 rfl rfl (R_aR hC dX10_kept_13 L_kept_a (Or.inl rfl) j rfl (by omega) (by decide) (fl_kept _ (by omega)) (R_iload_n (i := 2) hC dX10_kept_14 rfl rfl (R_iload_n (i := 3) hC dX10_kept_15 rfl rfl ?_)))))
      refine R_V2i hC hR dX10_kept_16 MV_X7_has ml_X10_126 hA.1 rfl (c_has hA ht r c) (by first | decide | omega) ⟨by decide, by decide⟩ (Nat.le_of_ble_eq_true rfl) ?_
      refine R_top (y := 0) (b2i_f h1) ?_
      refine R_if_ne hC 25 dX10_kept_19 (by decide) (fun h => absurd rfl h) (fun _ => ?_)
      refine R_ldc hC dX10_kept_22 kc_X10_145 ?_
      exact R_iret hC hT dX10_kept_24 rfl (by rw [e]; exact CPost.i h (MEq.rf _))
  · have e : opKept α k r c = -1000000 := by unfold opKept; rw [if_neg (fun z => h0 z.1)]
    refine R_aload_n (i := 0) hC dX10_kept_0 rfl rfl (R_iload_n (i := 1) hC dX10_kept_1 rfl rfl ?_)
    refine R_V1i hC hR dX10_kept_2 MV_X10_isKept ml_X10_163 L_U rfl (c_isKept h ok _) (by first | decide | omega) ⟨by decide, by decide⟩ (Nat.le_of_ble_eq_true rfl) ?_
    refine R_top (y := 0) (b2i_f h0) ?_
    refine R_if_eq hC 22 dX10_kept_5 (by decide) (fun _ => ?_) (fun h => absurd rfl h)
    refine R_ldc hC dX10_kept_22 kc_X10_145 ?_
    exact R_iret hC hT dX10_kept_24 rfl (by rw [e]; exact CPost.i h (MEq.rf _))
theorem co_image {σ : sg} {x : aW} {α : aS} (h : CInv σ α) (ok : aOK α) : Mt mX10_image 2 0 0 [.ref i_U] (wd σ x) (CPost σ x (opImage α).1 (opImage α).2) := by
  refine Mt.of MI_X10_image (Nat.le_of_ble_eq_true rfl) (fun X hC hR hT => ?_)
  have s4 := ok.2.2.2.2.1.1
  by_cases h0 : (tT α).1 = 0
  · have e : opImage α = (-1, α) := if_pos h0
    refine R_aload_n (i := 0) hC dX10_image_0 rfl rfl (R_gR hC dX10_image_1 fl_X10_19 L_U rfl ?_)
    refine R_V0i hC hR dX10_image_4 MV_X7_isNone ml_X10_152 L_table rfl (c_isNone TL_table h.2.1) (by first | decide | omega) ⟨by decide, by decide⟩ (Nat.le_of_ble_eq_true rfl) ?_
    refine R_top (y := 1) (b2i_t h0) ?_
    refine R_if_eq hC 12 dX10_image_7 (by decide) (fun h => absurd h (by decide)) (fun _ => ?_)
    refine R_iconst (v := (-1)) hC dX10_image_10 (by decide) ?_
    exact R_iret hC hT dX10_image_11 rfl (by rw [e]; exact CPost.i h (MEq.rf _))
  · have e : opImage α = (nI (tK α).1, α.1, α.2.1, α.2.2.1, α.2.2.2.1, α.2.2.2.2.1, α.2.2.2.2.2.1, (true, tT α, (tK α).1)) := if_neg h0
    refine R_aload_n (i := 0) hC dX10_image_0 rfl rfl (R_gR hC dX10_image_1 fl_X10_19 L_U rfl ?_)
    refine R_V0i hC hR dX10_image_4 MV_X7_isNone ml_X10_152 L_table rfl (c_isNone TL_table h.2.1) (by first | decide | omega) ⟨by decide, by decide⟩ (Nat.le_of_ble_eq_true rfl) ?_
    refine R_top (y := 0) (b2i_f h0) ?_
    refine R_if_eq hC 12 dX10_image_7 (by decide) (fun _ => ?_) (fun h => absurd rfl h)
    refine R_aload_n (i := 0) hC dX10_image_12 rfl rfl (R_gR hC dX10_image_13 fl_X10_46 L_U rfl (R_aload_n (i := 0) hC dX10_image_16 rfl rfl (R_gR hC dX10_image_17 fl_X10_19 L_U rfl ?_)))
    refine R_V1g hC hR dX10_image_20 MV_X7_copyFrom ml_X10_159 L_pictured rfl (c_copyFrom TL_pic TL_table (by decide) h.2.1) (by first | decide | omega) ⟨by decide, by decide⟩ (Nat.le_of_ble_eq_true rfl) (fun r w1 hq => ?_)
    obtain ⟨rfl, τ, rfl, c, ht⟩ := hq
    have e16 := (c 16 (by decide)).1
    refine R_aload_n (i := 0) hC dX10_image_23 rfl rfl (R_aload_n (i := 0) hC dX10_image_24 rfl rfl (R_gI hC dX10_image_25 fl_X10_156 L_U rfl ?_))
    refine R_top (y := nI (tK α).1) (by rw [e16]; exact h.2.2.1.1) ?_
    refine R_pI hC dX10_image_28 fl_X10_314 L_U rfl (R_aload_n (i := 0) hC dX10_image_31 rfl rfl (R_gI hC dX10_image_32 fl_X10_156 L_U rfl ?_))
    refine R_top (y := nI (tK α).1) (by rw [sG_nk (by decide), e16]; exact h.2.2.1.1) ?_
    exact R_iret hC hT dX10_image_35 rfl (by
    rw [e]
    have ca : AE [16, 109, 110] σ (sG τ i_U 10 (nI (tK α).1)) := (c.w (by decide)).g (by decide)
    obtain ⟨q1, q2, q3, q4, q5, q6, q7, q8, q9⟩ := h
    refine CPost.i ⟨q1.ae ca (by decide), q2.ae ca (by decide) (by decide), ⟨?_, fun k hk => (q3.2 k hk).ae ca (by have := ok.2.2.2.1.1; simp; omega) (by have := ok.2.2.2.1.1; simp; omega)⟩, ⟨?_, fun k hk => (q4.2 k hk).ae ca (by intro i q; simp at q; omega)⟩, q5.ae ca (by intro i q; simp at q; omega), q6.ae ca (by decide), ⟨?_, fun _ => sG_eq _ _ _ _⟩, q8.ae ca (by decide), q9.ae ca (by decide)⟩ (ca.meq (by decide))
    · rw [sG_nk (by decide), e16]; exact q3.1
    · rw [sG_nk (by decide), e16]; exact q4.1
    · exact ht.of (by funext b; exact sG_ni (by decide)) rfl)
theorem co_back {σ : sg} {x : aW} {α : aS} (h : CInv σ α) (ok : aOK α) : Mt mX10_back 2 0 0 [.ref i_U] (wd σ x) (CPost σ x (opBack α).1 (opBack α).2) := by
  refine Mt.of MI_X10_back (Nat.le_of_ble_eq_true rfl) (fun X hC hR hT => ?_)
  have s4 := ok.2.2.2.2.1.1
  by_cases h0 : (tI α).1 = true
  · have e : opBack α = (nI (tI α).2.2, α.1, (tI α).2.1, ((tI α).2.2, (tK α).2), α.2.2.2.1, (0, (tP α).2), α.2.2.2.2.2) := if_neg (by rw [h0]; decide)
    have h7 := h.2.2.2.2.2.2.1
    unfold CI7 at h7
    rw [if_pos h0] at h7
    obtain ⟨i1, i2, i3⟩ := ok.2.2.2.2.2.2 h0
    refine R_aload_n (i := 0) hC dX10_back_0 rfl rfl (R_gR hC dX10_back_1 fl_X10_46 L_U rfl ?_)
    refine R_V0i hC hR dX10_back_4 MV_X7_isNone ml_X10_152 L_pictured rfl (c_isNone TL_pic h7.1) (by first | decide | omega) ⟨by decide, by decide⟩ (Nat.le_of_ble_eq_true rfl) ?_
    refine R_top (y := 0) (b2i_f (by omega)) ?_
    refine R_if_eq hC 12 dX10_back_7 (by decide) (fun _ => ?_) (fun h => absurd rfl h)
    refine R_aload_n (i := 0) hC dX10_back_12 rfl rfl (R_gR hC dX10_back_13 fl_X10_19 L_U rfl (R_aload_n (i := 0) hC dX10_back_16 rfl rfl (R_gR hC dX10_back_17 fl_X10_46 L_U rfl ?_)))
    refine R_V1g hC hR dX10_back_20 MV_X7_copyFrom ml_X10_159 L_table rfl (c_copyFrom TL_table TL_pic (by decide) h7.1) (by first | decide | omega) ⟨by decide, by decide⟩ (Nat.le_of_ble_eq_true rfl) (fun r w1 hq => ?_)
    obtain ⟨rfl, τ, rfl, c, ht⟩ := hq
    have e16 := (c 16 (by decide)).1
    refine R_aload_n (i := 0) hC dX10_back_23 rfl rfl (R_aload_n (i := 0) hC dX10_back_24 rfl rfl (R_gI hC dX10_back_25 fl_X10_314 L_U rfl ?_))
    refine R_top (y := nI (tI α).2.2) (by rw [e16]; exact h7.2 h0) ?_
    refine R_pI hC dX10_back_28 fl_X10_156 L_U rfl (R_aload_n (i := 0) hC dX10_back_31 rfl rfl (R_gR hC dX10_back_32 fl_X10_32 L_U rfl ?_))
    refine R_V0v hC hR dX10_back_35 MV_X2_clear ml_X10_317 L_past rfl (c_pclear _ _) (by first | decide | omega) ⟨by decide, by decide⟩ (Nat.le_of_ble_eq_true rfl) ?_
    refine R_aload_n (i := 0) hC dX10_back_38 rfl rfl ?_
    refine R_V0v hC hR dX10_back_39 MV_X10_forget ml_X10_176 L_U rfl (c_forget _ _) (by first | decide | omega) ⟨by decide, by decide⟩ (Nat.le_of_ble_eq_true rfl) ?_
    refine R_aload_n (i := 0) hC dX10_back_42 rfl rfl (R_gI hC dX10_back_43 fl_X10_156 L_U rfl ?_)
    refine R_top (y := nI (tI α).2.2) ((sG_ni (by decide)).trans ((sG_ni (by decide)).trans ((sG_ni (by decide)).trans ((sG_ni (by decide)).trans ((sG_ni (by decide)).trans (sG_eq τ 16 6 (nI (tI α).2.2))))))) ?_
    exact R_iret hC hT dX10_back_46 rfl (by
    rw [e]
    have ca : AE [16, 19, 20, 25, 112, 114, 119, 124] σ (fgt (sG (sG τ i_U 6 (nI (tI α).2.2)) i_past 2 0)) := (((c.w (by decide)).g (by decide)).g (by decide)).tr ((fgt_ae _).w (by decide))
    have f16 : ∀ b, b ≠ 6 → (fgt (sG (sG τ i_U 6 (nI (tI α).2.2)) i_past 2 0)).1 16 b = σ.1 16 b := fun b hb => (sG_ni (by decide)).trans ((sG_ni (by decide)).trans ((sG_ni (by decide)).trans ((sG_ni (by decide)).trans ((sG_ni (by decide)).trans ((sG_nk hb).trans (congrFun e16 b))))))
    have f6 : (fgt (sG (sG τ i_U 6 (nI (tI α).2.2)) i_past 2 0)).1 16 6 = nI (tI α).2.2 := (sG_ni (by decide)).trans ((sG_ni (by decide)).trans ((sG_ni (by decide)).trans ((sG_ni (by decide)).trans ((sG_ni (by decide)).trans (sG_eq τ 16 6 (nI (tI α).2.2))))))
    have ft : CT (fgt (sG (sG τ i_U 6 (nI (tI α).2.2)) i_past 2 0)) i_table (tI α).2.1 := ht.of (by funext b; exact (sG_ni (by decide)).trans ((sG_ni (by decide)).trans ((sG_ni (by decide)).trans ((sG_ni (by decide)).trans ((sG_ni (by decide)).trans (sG_ni (by decide))))))) rfl
    obtain ⟨q1, q2, q3, q4, ⟨o, o1, o2, o3, o4⟩, q6, q7, q8, q9⟩ := h
    refine CPost.i ⟨q1.ae ca (by decide), ft, ⟨f6, fun k hk => (q3.2 k (by have hk : k < (tI α).2.2 := hk; omega)).ae ca (by have := ok.2.2.2.1.1; have hk : k < (tI α).2.2 := hk; simp; omega) (by have := ok.2.2.2.1.1; have hk : k < (tI α).2.2 := hk; simp; omega)⟩, ⟨(f16 8 (by decide)).trans q4.1, fun k hk => (q4.2 k hk).ae ca (by intro i q; simp at q; omega)⟩, ⟨o, o1, ?_, ?_, fun k hk => absurd hk (Nat.not_lt_zero _)⟩, q6.ae ca (by decide), ⟨?_, fun z => (f16 10 (by decide)).trans (q7.2 z)⟩, q8.ae ca (by decide), fgt_cc _ _⟩ (ca.meq (by decide))
    · exact (sG_ni (by decide)).trans ((sG_ni (by decide)).trans ((sG_ni (by decide)).trans ((sG_ni (by decide)).trans ((sG_nk (by decide)).trans ((sG_ni (by decide)).trans ((congrFun (c 25 (by decide)).1 1).trans o2))))))
    · exact (sG_ni (by decide)).trans ((sG_ni (by decide)).trans ((sG_ni (by decide)).trans ((sG_ni (by decide)).trans (sG_eq _ 25 2 0))))
    · exact q7.1.ae ca (by decide) (by decide))
  · have h0' : (tI α).1 = false := by simpa using h0
    have e : opBack α = (-1, α) := if_pos h0'
    have h7 := h.2.2.2.2.2.2.1
    unfold CI7 at h7
    rw [if_neg h0] at h7
    refine R_aload_n (i := 0) hC dX10_back_0 rfl rfl (R_gR hC dX10_back_1 fl_X10_46 L_U rfl ?_)
    refine R_V0i hC hR dX10_back_4 MV_X7_isNone ml_X10_152 L_pictured rfl (c_isNone TL_pic h7.1) (by first | decide | omega) ⟨by decide, by decide⟩ (Nat.le_of_ble_eq_true rfl) ?_
    refine R_top (y := 1) (b2i_t rfl) ?_
    refine R_if_eq hC 12 dX10_back_7 (by decide) (fun h => absurd h (by decide)) (fun _ => ?_)
    refine R_iconst (v := (-1)) hC dX10_back_10 (by decide) ?_
    exact R_iret hC hT dX10_back_11 rfl (by rw [e]; exact CPost.i h (MEq.rf _))
theorem c_takeBack {σ : sg} {x : aW} {P : Nat × (Nat → tb)} (h : CI5 σ P) (h40 : P.1 ≤ 40) (h1 : 0 < P.1) : Mt mX2_takeBack 2 0 0 [.ref i_past, .ref i_table] (wd σ x) (fun r w => r = none ∧ ∃ τ, w = wd τ x ∧ AE [19, 20, 25] σ τ ∧ CT τ i_table (P.2 (P.1 - 1)) ∧ CI5 τ (P.1 - 1, P.2)) := by
  refine Mt.of MI_X2_takeBack (Nat.le_of_ble_eq_true rfl) (fun X hC hR hT => ?_)
  obtain ⟨o, o40, p1, p2, p3⟩ := h
  have hj : (o + (P.1 - 1)) % 40 < 40 := Nat.mod_lt _ (by decide)
  have hA := TL_past _ hj
  refine R_aload_n (i := 0) hC dX2_takeBack_0 rfl rfl (R_gI hC dX2_takeBack_1 fl_X2_18 L_past rfl ?_)
  refine R_top (y := nI P.1) (p2) ?_
  refine R_if_le hC 38 dX2_takeBack_4 (by decide) (fun h => absurd h (nI_nle h1 (by omega))) (fun _ => ?_)
  refine R_aload_n (i := 0) hC dX2_takeBack_7 rfl rfl (R_dup hC dX2_takeBack_8 rfl (R_gI hC dX2_takeBack_9 fl_X2_18 L_past rfl ?_))
  refine R_top (y := nI P.1) (p2) ?_
  refine R_iconst (v := 1) hC dX2_takeBack_12 (by decide) (R_isub hC dX2_takeBack_13 ?_)
  refine R_top (y := nI (P.1 - 1)) (nI_sub (b := 1) (by omega)) ?_
  refine R_pI hC dX2_takeBack_14 fl_X2_18 L_past rfl (R_aload_n (i := 1) hC dX2_takeBack_17 rfl rfl (R_aload_n (i := 0) hC dX2_takeBack_18 rfl rfl (R_gR hC dX2_takeBack_19 fl_X2_11 L_past rfl (R_aload_n (i := 0) hC dX2_takeBack_22 rfl rfl (R_gI hC dX2_takeBack_23 fl_X2_22 L_past rfl ?_)))))
  refine R_top (y := nI o) ((sG_nk (by decide)).trans p1) ?_
  refine R_aload_n (i := 0) hC dX2_takeBack_26 rfl rfl (R_gI hC dX2_takeBack_27 fl_X2_18 L_past rfl ?_)
  refine R_top (y := nI (P.1 - 1)) (sG_eq _ _ _ _) ?_
  refine R_iadd hC dX2_takeBack_30 ?_
  refine R_top (y := nI (o + (P.1 - 1))) (nI_add _ _) ?_
  refine R_bipush (v := 40) hC dX2_takeBack_31 (by decide) (R_irem hC dX2_takeBack_33 (by decide) (R_aR hC dX2_takeBack_34 L_past_a (Or.inl rfl) ((o + (P.1 - 1)) % 40) (rem40 _ (by omega)) hj (by decide) (fl_past _ hj) ?_))
  refine R_V1g hC hR dX2_takeBack_35 MV_X7_copyFrom ml_X2_25 L_table rfl (c_copyFrom TL_table hA (by show 19 ≠ _; omega) ((p3 (P.1 - 1) (by omega)).of (τ := sG σ i_past 2 (nI (P.1 - 1))) (by funext b; exact sG_ni (by show _ ≠ 25; omega)) rfl)) (by first | decide | omega) ⟨by decide, by decide⟩ (Nat.le_of_ble_eq_true rfl) (fun r w1 hq => ?_)
  obtain ⟨rfl, τ, rfl, c, ht⟩ := hq
  exact R_vret hC hT dX2_takeBack_38 rfl (by
  have ca : AE [19, 20, 25] σ τ := ((AE.rf _ σ).g (by decide)).tr (c.w (by decide))
  have e25 := (c 25 (by decide)).1
  refine ⟨rfl, τ, rfl, ca, ht, o, o40, ?_, ?_, fun k hk => (p3 k (by have hk : k < P.1 - 1 := hk; omega)).ae ca (by simp; omega) (by simp; omega)⟩
  · rw [e25]; exact (sG_nk (by decide)).trans p1
  · rw [e25]; exact sG_eq _ _ _ _)
theorem co_undo {σ : sg} {x : aW} {α : aS} (h : CInv σ α) (ok : aOK α) : Mt mX10_undo 3 0 0 [.ref i_U] (wd σ x) (CPost σ x (opUndo α).1 (opUndo α).2) := by
  refine Mt.of MI_X10_undo (Nat.le_of_ble_eq_true rfl) (fun X hC hR hT => ?_)
  have h40 := CI5.h40 ok
  have p2 : σ.1 i_past 2 = nI (tP α).1 := by obtain ⟨o, _, _, q, _⟩ := h.2.2.2.2.1; exact q
  by_cases h0 : (tP α).1 = 0
  · have e : opUndo α = (-1, α) := if_pos h0
    refine R_aload_n (i := 0) hC dX10_undo_0 rfl rfl (R_gR hC dX10_undo_1 fl_X10_32 L_U rfl (R_gI hC dX10_undo_4 fl_X10_149 L_past rfl ?_))
    refine R_top (y := nI 0) (by rw [p2, h0]) ?_
    refine R_if_ne hC 12 dX10_undo_7 (by decide) (fun h => absurd rfl h) (fun _ => ?_)
    refine R_iconst (v := (-1)) hC dX10_undo_10 (by decide) ?_
    exact R_iret hC hT dX10_undo_11 rfl (by rw [e]; exact CPost.i h (MEq.rf _))
  · have e : opUndo α = (nI ((tP α).1 - 1), α.1, (tP α).2 ((tP α).1 - 1), α.2.2.1, α.2.2.2.1, ((tP α).1 - 1, (tP α).2), α.2.2.2.2.2) := if_neg h0
    refine R_aload_n (i := 0) hC dX10_undo_0 rfl rfl (R_gR hC dX10_undo_1 fl_X10_32 L_U rfl (R_gI hC dX10_undo_4 fl_X10_149 L_past rfl ?_))
    refine R_top (y := nI (tP α).1) (p2) ?_
    refine R_if_ne hC 12 dX10_undo_7 (by decide) (fun _ => ?_) (fun h => absurd h (nI_ne0 (by omega) (by omega)))
    refine R_aload_n (i := 0) hC dX10_undo_12 rfl rfl (R_gR hC dX10_undo_13 fl_X10_32 L_U rfl (R_aload_n (i := 0) hC dX10_undo_16 rfl rfl (R_gR hC dX10_undo_17 fl_X10_19 L_U rfl ?_)))
    refine R_V1g hC hR dX10_undo_20 MV_X2_takeBack ml_X10_173 L_past rfl (c_takeBack h.2.2.2.2.1 h40 (by omega)) (by first | decide | omega) ⟨by decide, by decide⟩ (Nat.le_of_ble_eq_true rfl) (fun r w1 hq => ?_)
    obtain ⟨rfl, τ, rfl, c, ht, h5⟩ := hq
    refine R_aload_n (i := 0) hC dX10_undo_23 rfl rfl ?_
    refine R_V0v hC hR dX10_undo_24 MV_X10_forget ml_X10_176 L_U rfl (c_forget _ _) (by first | decide | omega) ⟨by decide, by decide⟩ (Nat.le_of_ble_eq_true rfl) ?_
    have p3 : (fgt τ).1 i_past 2 = nI ((tP α).1 - 1) := by obtain ⟨o, _, _, q, _⟩ := h5.ae (fgt_ae τ) (by decide); exact q
    refine R_aload_n (i := 0) hC dX10_undo_27 rfl rfl (R_gR hC dX10_undo_28 fl_X10_32 L_U rfl (R_gI hC dX10_undo_31 fl_X10_149 L_past rfl ?_))
    refine R_top (y := nI ((tP α).1 - 1)) (p3) ?_
    exact R_iret hC hT dX10_undo_34 rfl (by
    rw [e]
    have ca : AE [19, 20, 25, 112, 114, 119, 124] σ (fgt τ) := (c.w (by decide)).tr ((fgt_ae τ).w (by decide))
    exact CPost.i (CInv.push ok h ca (by intro i q; simp at q; unfold scP scT scq; omega) (ht.ae (fgt_ae τ) (by decide) (by decide)) (h5.ae (fgt_ae τ) (by decide)) (fgt_cc _ _)) (ca.meq (by decide)))
theorem co_count {σ : sg} {x : aW} {α : aS} (h : CInv σ α) (ok : aOK α) (w : Int32) : Mt mX10_count 2 0 0 [.ref i_U, .int w] (wd σ x) (CPost σ x (opCount α w) α) := by
  refine Mt.of MI_X10_count (Nat.le_of_ble_eq_true rfl) (fun X hC hR hT => ?_)
  have p2 : σ.1 i_past 2 = nI (tP α).1 := by obtain ⟨o, _, _, q, _⟩ := h.2.2.2.2.1; exact q
  by_cases hw : 0 ≤ w.toInt ∧ w.toInt ≤ 6
  · rcases sw7 hw.1 hw.2 with rfl | rfl | rfl | rfl | rfl | rfl | rfl
    · refine R_iload_n (i := 1) hC dX10_count_0 rfl rfl ?_
      refine R_tableIn hC 44 dX10_count_1 (by decide) (by decide) rfl (by decide) ?_
      refine R_aload_n (i := 0) hC dX10_count_44 rfl rfl (R_gR hC dX10_count_45 fl_X10_19 L_U rfl (R_gI hC dX10_count_48 fl_X10_170 L_table rfl ?_))
      exact R_iret hC hT dX10_count_51 rfl (by rw [h.2.1.1]; exact CPost.i h (MEq.rf _))
    · refine R_iload_n (i := 1) hC dX10_count_0 rfl rfl ?_
      refine R_tableIn hC 52 dX10_count_1 (by decide) (by decide) rfl (by decide) ?_
      refine R_aload_n (i := 0) hC dX10_count_52 rfl rfl (R_gR hC dX10_count_53 fl_X10_19 L_U rfl (R_gI hC dX10_count_56 fl_X10_269 L_table rfl ?_))
      exact R_iret hC hT dX10_count_59 rfl (by rw [h.2.1.2.1]; exact CPost.i h (MEq.rf _))
    · refine R_iload_n (i := 1) hC dX10_count_0 rfl rfl ?_
      refine R_tableIn hC 60 dX10_count_1 (by decide) (by decide) rfl (by decide) ?_
      refine R_aload_n (i := 0) hC dX10_count_60 rfl rfl (R_gI hC dX10_count_61 fl_X10_156 L_U rfl ?_)
      exact R_iret hC hT dX10_count_64 rfl (by rw [h.2.2.1.1]; exact CPost.i h (MEq.rf _))
    · refine R_iload_n (i := 1) hC dX10_count_0 rfl rfl ?_
      refine R_tableIn hC 65 dX10_count_1 (by decide) (by decide) rfl (by decide) ?_
      refine R_aload_n (i := 0) hC dX10_count_65 rfl rfl (R_gI hC dX10_count_66 fl_X10_115 L_U rfl ?_)
      exact R_iret hC hT dX10_count_69 rfl (by rw [h.2.2.2.1.1]; exact CPost.i h (MEq.rf _))
    · refine R_iload_n (i := 1) hC dX10_count_0 rfl rfl ?_
      refine R_tableIn hC 70 dX10_count_1 (by decide) (by decide) rfl (by decide) ?_
      refine R_aload_n (i := 0) hC dX10_count_70 rfl rfl (R_gR hC dX10_count_71 fl_X10_12 L_U rfl (R_gI hC dX10_count_74 fl_X10_103 L_tape rfl ?_))
      exact R_iret hC hT dX10_count_77 rfl (by rw [h.1.1]; exact CPost.i h (MEq.rf _))
    · refine R_iload_n (i := 1) hC dX10_count_0 rfl rfl ?_
      refine R_tableIn hC 78 dX10_count_1 (by decide) (by decide) rfl (by decide) ?_
      refine R_aload_n (i := 0) hC dX10_count_78 rfl rfl (R_gR hC dX10_count_79 fl_X10_32 L_U rfl (R_gI hC dX10_count_82 fl_X10_149 L_past rfl ?_))
      exact R_iret hC hT dX10_count_85 rfl (by rw [p2]; exact CPost.i h (MEq.rf _))
    · refine R_iload_n (i := 1) hC dX10_count_0 rfl rfl ?_
      refine R_tableIn hC 86 dX10_count_1 (by decide) (by decide) rfl (by decide) ?_
      refine R_aload_n (i := 0) hC dX10_count_86 rfl rfl (R_gR hC dX10_count_87 fl_X10_19 L_U rfl ?_)
      refine R_V0i hC hR dX10_count_90 MV_X7_notNought ml_X10_320 L_table rfl (c_notNought TL_table h.2.1) (by first | decide | omega) ⟨by decide, by decide⟩ (Nat.le_of_ble_eq_true rfl) ?_
      exact R_iret hC hT dX10_count_93 rfl (CPost.i h (MEq.rf _))
  · have e : opCount α w = -1000000 := by
      have n : ∀ k : Nat, k ≤ 6 → ¬ w = nI k := fun k hk z => hw (by rw [z, nI_toInt (by omega)]; omega)
      unfold opCount
      rw [if_neg (show ¬ w = 0 from n 0 (by decide)), if_neg (show ¬ w = 1 from n 1 (by decide)), if_neg (show ¬ w = 2 from n 2 (by decide)), if_neg (show ¬ w = 3 from n 3 (by decide)), if_neg (show ¬ w = 4 from n 4 (by decide)), if_neg (show ¬ w = 5 from n 5 (by decide)), if_neg (show ¬ w = 6 from n 6 (by decide))]
    refine R_iload_n (i := 1) hC dX10_count_0 rfl rfl ?_
    refine R_tableOut hC 94 dX10_count_1 (by omega) (by decide) ?_
    refine R_ldc hC dX10_count_94 kc_X10_145 ?_
    exact R_iret hC hT dX10_count_96 rfl (by rw [e]; exact CPost.i h (MEq.rf _))
noncomputable def attS (α : aS) (a b k : Int32) : Int32 × aS := cnd (inR (tK α).1 a ∧ inR (tK α).1 b) (cnd (0 ≤ k.toInt ∧ k.toInt ≤ 1) (cnd (canJ ((tK α).2 a.toNatClampNeg) ((tK α).2 b.toNatClampNeg) k.toNatClampNeg) (-1, pushT α (jnT ((tK α).2 a.toNatClampNeg) ((tK α).2 b.toNatClampNeg) k.toNatClampNeg)) (3, α)) (1, α)) (0, α)
theorem opJoin_att (α : aS) (a b k : Int32) : opJoin α a b k = if (attS α a b k).1 = -1 then (nI (tT (attS α a b k).2).1, (attS α a b k).2) else (-1, withZ α (attS α a b k).1.toNatClampNeg) := by
  unfold opJoin attS
  by_cases h1 : inR (tK α).1 a ∧ inR (tK α).1 b
  · rw [if_neg (fun z => z h1), cnd_t h1]
    by_cases h2 : 0 ≤ k.toInt ∧ k.toInt ≤ 1
    · rw [if_neg (fun z => z h2), cnd_t h2]
      by_cases h3 : canJ ((tK α).2 a.toNatClampNeg) ((tK α).2 b.toNatClampNeg) k.toNatClampNeg
      · rw [if_neg (fun z => z h3), cnd_t h3, if_pos rfl]
      · rw [if_pos h3, cnd_f h3, if_neg (show ¬ (3 : Int32) = -1 by decide)]; rfl
    · rw [if_pos h2, cnd_f h2, if_neg (show ¬ (1 : Int32) = -1 by decide)]; rfl
  · rw [if_pos h1, cnd_f h1, if_neg (show ¬ (0 : Int32) = -1 by decide)]; rfl
theorem c_attSum {σ : sg} {x : aW} {α : aS} (h : CInv σ α) (ok : aOK α) (a b k : Int32) : Mt mX10_attemptSum 4 0 0 [.ref i_U, .int a, .int b, .int k] (wd σ x) (CPost σ x (attS α a b k).1 (attS α a b k).2) := by
  refine Mt.of MI_X10_attemptSum (Nat.le_of_ble_eq_true rfl) (fun X hC hR hT => ?_)
  have k4 := ok.2.2.2.1.1
  by_cases h0 : inR (tK α).1 a ∧ inR (tK α).1 b
  · by_cases h1 : 0 ≤ k.toInt ∧ k.toInt ≤ 1
    · obtain ⟨i, rfl, hi, hi2⟩ := inR_i h0.1
      obtain ⟨j, rfl, hj, hj2⟩ := inR_i h0.2
      obtain ⟨n, rfl, hn, hn2⟩ := i32_nI h1.1
      have e : attS α (nI i) (nI j) (nI n) = cnd (canJ ((tK α).2 i) ((tK α).2 j) n) (-1, pushT α (jnT ((tK α).2 i) ((tK α).2 j) n)) (3, α) := by unfold attS; rw [cnd_t h0, cnd_t h1, nI_clamp hi2, nI_clamp hj2, nI_clamp hn2]
      have hA := TL_kept i (by omega)
      have hB := TL_kept j (by omega)
      have ia := tbI_of (ok.2.2.2.1.2 i hi).1 (by have := (ok.2.2.2.1.2 i hi).2; omega)
      have ib := tbI_of (ok.2.2.2.1.2 j hj).1 (by have := (ok.2.2.2.1.2 j hj).2; omega)
      have fin : ∀ (τ υ : sg) (v : Int32), AE [21, 22] σ τ → CT τ i_before (tT α) → ((canJ ((tK α).2 i) ((tK α).2 j) n ∧ v = -1 ∧ AE [19, 20] τ υ ∧ CT υ i_table (jnT ((tK α).2 i) ((tK α).2 j) n)) ∨ (¬ canJ ((tK α).2 i) ((tK α).2 j) n ∧ v = 3 ∧ υ = τ)) → Rw mX10_attemptSum X 86 [some (.ref i_U), some (.int (nI i)), some (.int (nI j)), some (.int (nI n)), some (.ref (143 + 2 * i)), some (.ref (143 + 2 * j))] [.int v, .ref i_U] (wd υ x) 0 0 := by
        intro τ υ v c hb hv
        rcases hv with ⟨hc, rfl, c2, ht⟩ | ⟨hc, rfl, rfl⟩
        · have c3 : AE [19, 20, 21, 22] σ υ := (c.w (by decide)).tr (c2.w (by decide))
          rw [e, cnd_t hc] at hT
          refine R_V1g hC hR dX10_attemptSum_86 MV_X10_settle ml_X10_323 L_U rfl (c_settleY (h.2.2.2.2.1.ae c3 (by decide)) (CI5.h40 ok) (hb.ae c2 (by decide) (by decide))) (by first | decide | omega) ⟨by decide, by decide⟩ (Nat.le_of_ble_eq_true rfl) (fun r w1 hq => ?_)
          obtain ⟨rfl, ω, L, rfl, c4, d4, h5, hcc⟩ := hq
          exact R_iret hC hT dX10_attemptSum_89 rfl (by
          have cc : AE ([19, 20, 21, 22] ++ L) σ ω := (c3.w (fun i q => List.mem_append_left _ q)).tr (c4.w (fun i q => List.mem_append_right _ q))
          have dd : ∀ i, i ∈ [19, 20, 21, 22] ++ L → scP i ∧ i < 176 := fun i q => by
            rcases List.mem_append.mp q with z | z
            · simp at z; unfold scP scT scq; omega
            · have := d4 i z; unfold scF scR at this; unfold scP scT scq; omega
          exact CPost.i (CInv.push ok h cc (fun i q => (dd i q).1) (ht.ae c4 (fun q => by have := d4 19 q; unfold scF scR at this; omega) (fun q => by have := d4 20 q; unfold scF scR at this; omega)) h5 (hcc _)) (cc.meq (fun i q => (dd i q).2)))
        · rw [e, cnd_f hc] at hT
          refine R_V1i hC hR dX10_attemptSum_86 MV_X10_settle ml_X10_323 L_U rfl (c_settleN _ _ _ (by decide)) (by first | decide | omega) ⟨by decide, by decide⟩ (Nat.le_of_ble_eq_true rfl) ?_
          exact R_iret hC hT dX10_attemptSum_89 rfl (CPost.i (CInv.ae ok h c (by intro i q; unfold scq; simp at q; omega)) (c.meq (by decide)))
      have c21 : ∀ m, m < 4 → (143 + 2 * m ∉ [21, 22] ∧ 143 + 2 * m + 1 ∉ [21, 22]) := fun m hm => ⟨by simp; omega, by simp; omega⟩
      rcases (by omega : n = 0 ∨ n = 1) with rfl | rfl
      · refine R_aload_n (i := 0) hC dX10_attemptSum_0 rfl rfl (R_iload_n (i := 1) hC dX10_attemptSum_1 rfl rfl ?_)
        refine R_V1i hC hR dX10_attemptSum_2 MV_X10_isKept ml_X10_163 L_U rfl (c_isKept h ok _) (by first | decide | omega) ⟨by decide, by decide⟩ (Nat.le_of_ble_eq_true rfl) ?_
        refine R_top (y := 1) (b2i_t h0.1) ?_
        refine R_if_eq hC 16 dX10_attemptSum_5 (by decide) (fun h => absurd h (by decide)) (fun _ => ?_)
        refine R_aload_n (i := 0) hC dX10_attemptSum_8 rfl rfl (R_iload_n (i := 2) hC dX10_attemptSum_9 rfl rfl ?_)
        refine R_V1i hC hR dX10_attemptSum_10 MV_X10_isKept ml_X10_163 L_U rfl (c_isKept h ok _) (by first | decide | omega) ⟨by decide, by decide⟩ (Nat.le_of_ble_eq_true rfl) ?_
        refine R_top (y := 1) (b2i_t h0.2) ?_
        refine R_if_ne hC 18 dX10_attemptSum_13 (by decide) (fun _ => ?_) (fun h => absurd h (by decide))
        refine R_iload_n (i := 3) hC dX10_attemptSum_18 rfl rfl ?_
        refine R_if_eq hC 29 dX10_attemptSum_19 (by decide) (fun _ => ?_) (fun h => absurd rfl h)
        refine R_aload_n (i := 0) hC dX10_attemptSum_29 rfl rfl (R_gR hC dX10_attemptSum_30 fl_X10_23 L_U rfl (R_aload_n (i := 0) hC dX10_attemptSum_33 rfl rfl (R_gR hC dX10_attemptSum_34 fl_X10_19 L_U rfl ?_)))
        refine R_V1g hC hR dX10_attemptSum_37 MV_X7_copyFrom ml_X10_159 L_before rfl (c_copyFrom TL_before TL_table (by decide) h.2.1) (by first | decide | omega) ⟨by decide, by decide⟩ (Nat.le_of_ble_eq_true rfl) (fun r w1 hq => ?_)
        obtain ⟨rfl, τ, rfl, c, ht⟩ := hq
        refine R_aload_n (i := 0) hC dX10_attemptSum_40 rfl rfl (R_gR hC dX10_attemptSum_41 fl_X10_36 L_U rfl (R_iload_n (i := 1) hC dX10_attemptSum_44 rfl rfl (R_aR hC dX10_attemptSum_45 L_kept_a (Or.inl rfl) i rfl (by omega) (by decide) (fl_kept _ (by omega)) (R_astore hC dX10_attemptSum_46 (by decide) rfl (R_aload_n (i := 0) hC dX10_attemptSum_48 rfl rfl (R_gR hC dX10_attemptSum_49 fl_X10_36 L_U rfl (R_iload_n (i := 2) hC dX10_attemptSum_52 rfl rfl ?_)))))))
        refine R_aR hC dX10_attemptSum_53 L_kept_a (Or.inl rfl) j rfl (by omega) (by decide) (fl_kept _ (by omega)) (R_astore hC dX10_attemptSum_54 (by decide) rfl (R_aload_n (i := 0) hC dX10_attemptSum_56 rfl rfl (R_iload_n (i := 3) hC dX10_attemptSum_57 rfl rfl ?_)))
        refine R_if_ne hC 75 dX10_attemptSum_58 (by decide) (fun h => absurd rfl h) (fun _ => ?_)
        refine R_aload_n (i := 0) hC dX10_attemptSum_61 rfl rfl (R_gR hC dX10_attemptSum_62 fl_X10_19 L_U rfl (R_aload hC dX10_attemptSum_65 rfl (R_aload hC dX10_attemptSum_67 rfl ?_)))
        refine R_V2g hC hR dX10_attemptSum_69 MV_X7_becomeJoined ml_X10_326 L_table rfl (c_joined TL_table hA hB (by show 19 ≠ _; omega) (by show 19 ≠ _; omega) ((h.2.2.1.2 i hi).ae c (c21 i (by omega)).1 (c21 i (by omega)).2) ((h.2.2.1.2 j hj).ae c (c21 j (by omega)).1 (c21 j (by omega)).2) ia ib) (by first | decide | omega) ⟨by decide, by decide⟩ (Nat.le_of_ble_eq_true rfl) (fun r w1 hq => ?_)
        skip
        rcases hq with ⟨hc, rfl, υ, rfl, c2, ht2⟩ | ⟨hc, rfl, rfl⟩
        · refine R_goto hC 86 dX10_attemptSum_72 (by decide) ?_
          exact fin τ υ (-1) c ht (Or.inl ⟨hc, rfl, c2, ht2⟩)
        · refine R_goto hC 86 dX10_attemptSum_72 (by decide) ?_
          exact fin τ τ 3 c ht (Or.inr ⟨hc, rfl, rfl⟩)
      · refine R_aload_n (i := 0) hC dX10_attemptSum_0 rfl rfl (R_iload_n (i := 1) hC dX10_attemptSum_1 rfl rfl ?_)
        refine R_V1i hC hR dX10_attemptSum_2 MV_X10_isKept ml_X10_163 L_U rfl (c_isKept h ok _) (by first | decide | omega) ⟨by decide, by decide⟩ (Nat.le_of_ble_eq_true rfl) ?_
        refine R_top (y := 1) (b2i_t h0.1) ?_
        refine R_if_eq hC 16 dX10_attemptSum_5 (by decide) (fun h => absurd h (by decide)) (fun _ => ?_)
        refine R_aload_n (i := 0) hC dX10_attemptSum_8 rfl rfl (R_iload_n (i := 2) hC dX10_attemptSum_9 rfl rfl ?_)
        refine R_V1i hC hR dX10_attemptSum_10 MV_X10_isKept ml_X10_163 L_U rfl (c_isKept h ok _) (by first | decide | omega) ⟨by decide, by decide⟩ (Nat.le_of_ble_eq_true rfl) ?_
        refine R_top (y := 1) (b2i_t h0.2) ?_
        refine R_if_ne hC 18 dX10_attemptSum_13 (by decide) (fun _ => ?_) (fun h => absurd h (by decide))
        refine R_iload_n (i := 3) hC dX10_attemptSum_18 rfl rfl ?_
        refine R_if_eq hC 29 dX10_attemptSum_19 (by decide) (fun h => absurd h (by decide)) (fun _ => ?_)
        refine R_iload_n (i := 3) hC dX10_attemptSum_22 rfl rfl (R_iconst (v := 1) hC dX10_attemptSum_23 (by decide) ?_)
        refine R_icmp_eq hC 29 dX10_attemptSum_24 (by decide) (fun _ => ?_) (fun h => absurd rfl h)
        refine R_aload_n (i := 0) hC dX10_attemptSum_29 rfl rfl (R_gR hC dX10_attemptSum_30 fl_X10_23 L_U rfl (R_aload_n (i := 0) hC dX10_attemptSum_33 rfl rfl (R_gR hC dX10_attemptSum_34 fl_X10_19 L_U rfl ?_)))
        refine R_V1g hC hR dX10_attemptSum_37 MV_X7_copyFrom ml_X10_159 L_before rfl (c_copyFrom TL_before TL_table (by decide) h.2.1) (by first | decide | omega) ⟨by decide, by decide⟩ (Nat.le_of_ble_eq_true rfl) (fun r w1 hq => ?_)
        obtain ⟨rfl, τ, rfl, c, ht⟩ := hq
        refine R_aload_n (i := 0) hC dX10_attemptSum_40 rfl rfl (R_gR hC dX10_attemptSum_41 fl_X10_36 L_U rfl (R_iload_n (i := 1) hC dX10_attemptSum_44 rfl rfl (R_aR hC dX10_attemptSum_45 L_kept_a (Or.inl rfl) i rfl (by omega) (by decide) (fl_kept _ (by omega)) (R_astore hC dX10_attemptSum_46 (by decide) rfl (R_aload_n (i := 0) hC dX10_attemptSum_48 rfl rfl (R_gR hC dX10_attemptSum_49 fl_X10_36 L_U rfl (R_iload_n (i := 2) hC dX10_attemptSum_52 rfl rfl ?_)))))))
        refine R_aR hC dX10_attemptSum_53 L_kept_a (Or.inl rfl) j rfl (by omega) (by decide) (fl_kept _ (by omega)) (R_astore hC dX10_attemptSum_54 (by decide) rfl (R_aload_n (i := 0) hC dX10_attemptSum_56 rfl rfl (R_iload_n (i := 3) hC dX10_attemptSum_57 rfl rfl ?_)))
        refine R_if_ne hC 75 dX10_attemptSum_58 (by decide) (fun _ => ?_) (fun h => absurd h (by decide))
        refine R_aload_n (i := 0) hC dX10_attemptSum_75 rfl rfl (R_gR hC dX10_attemptSum_76 fl_X10_19 L_U rfl (R_aload hC dX10_attemptSum_79 rfl (R_aload hC dX10_attemptSum_81 rfl ?_)))
        refine R_V2g hC hR dX10_attemptSum_83 MV_X7_becomeLinked ml_X10_330 L_table rfl (c_linkedT TL_table hA hB (by show 19 ≠ _; omega) (by show 19 ≠ _; omega) ((h.2.2.1.2 i hi).ae c (c21 i (by omega)).1 (c21 i (by omega)).2) ((h.2.2.1.2 j hj).ae c (c21 j (by omega)).1 (c21 j (by omega)).2) ia ib) (by first | decide | omega) ⟨by decide, by decide⟩ (Nat.le_of_ble_eq_true rfl) (fun r w1 hq => ?_)
        skip
        rcases hq with ⟨hc, rfl, υ, rfl, c2, ht2⟩ | ⟨hc, rfl, rfl⟩
        · exact fin τ υ (-1) c ht (Or.inl ⟨hc, rfl, c2, ht2⟩)
        · exact fin τ τ 3 c ht (Or.inr ⟨hc, rfl, rfl⟩)
    · have e : attS α a b k = (1, α) := by unfold attS; rw [cnd_t h0, cnd_f h1]
      have n0 : ¬ k = 0 := fun z => h1 (by rw [z]; decide)
      have n1 : ¬ k = 1 := fun z => h1 (by rw [z]; decide)
      refine R_aload_n (i := 0) hC dX10_attemptSum_0 rfl rfl (R_iload_n (i := 1) hC dX10_attemptSum_1 rfl rfl ?_)
      refine R_V1i hC hR dX10_attemptSum_2 MV_X10_isKept ml_X10_163 L_U rfl (c_isKept h ok _) (by first | decide | omega) ⟨by decide, by decide⟩ (Nat.le_of_ble_eq_true rfl) ?_
      refine R_top (y := 1) (b2i_t h0.1) ?_
      refine R_if_eq hC 16 dX10_attemptSum_5 (by decide) (fun h => absurd h (by decide)) (fun _ => ?_)
      refine R_aload_n (i := 0) hC dX10_attemptSum_8 rfl rfl (R_iload_n (i := 2) hC dX10_attemptSum_9 rfl rfl ?_)
      refine R_V1i hC hR dX10_attemptSum_10 MV_X10_isKept ml_X10_163 L_U rfl (c_isKept h ok _) (by first | decide | omega) ⟨by decide, by decide⟩ (Nat.le_of_ble_eq_true rfl) ?_
      refine R_top (y := 1) (b2i_t h0.2) ?_
      refine R_if_ne hC 18 dX10_attemptSum_13 (by decide) (fun _ => ?_) (fun h => absurd h (by decide))
      refine R_iload_n (i := 3) hC dX10_attemptSum_18 rfl rfl ?_
      refine R_if_eq hC 29 dX10_attemptSum_19 (by decide) (fun h => absurd h n0) (fun _ => ?_)
      refine R_iload_n (i := 3) hC dX10_attemptSum_22 rfl rfl (R_iconst (v := 1) hC dX10_attemptSum_23 (by decide) ?_)
      refine R_icmp_eq hC 29 dX10_attemptSum_24 (by decide) (fun h => absurd h n1) (fun _ => ?_)
      refine R_iconst (v := 1) hC dX10_attemptSum_27 (by decide) ?_
      exact R_iret hC hT dX10_attemptSum_28 rfl (by rw [e]; exact CPost.i h (MEq.rf _))
  · have e : attS α a b k = (0, α) := by unfold attS; rw [cnd_f h0]
    refine R_aload_n (i := 0) hC dX10_attemptSum_0 rfl rfl (R_iload_n (i := 1) hC dX10_attemptSum_1 rfl rfl ?_)
    refine R_V1i hC hR dX10_attemptSum_2 MV_X10_isKept ml_X10_163 L_U rfl (c_isKept h ok _) (by first | decide | omega) ⟨by decide, by decide⟩ (Nat.le_of_ble_eq_true rfl) ?_
    refine R_if_eq hC 16 dX10_attemptSum_5 (by decide) (fun h5 => ?_) (fun h5 => ?_)
    · refine R_iconst (v := 0) hC dX10_attemptSum_16 (by decide) ?_
      exact R_iret hC hT dX10_attemptSum_17 rfl (by rw [e]; exact CPost.i h (MEq.rf _))
    · refine R_aload_n (i := 0) hC dX10_attemptSum_8 rfl rfl (R_iload_n (i := 2) hC dX10_attemptSum_9 rfl rfl ?_)
      refine R_V1i hC hR dX10_attemptSum_10 MV_X10_isKept ml_X10_163 L_U rfl (c_isKept h ok _) (by first | decide | omega) ⟨by decide, by decide⟩ (Nat.le_of_ble_eq_true rfl) ?_
      refine R_if_ne hC 18 dX10_attemptSum_13 (by decide) (fun h13 => ?_) (fun h13 => ?_)
      · exact absurd ⟨b2i_ne h5, b2i_ne h13⟩ h0
      · refine R_iconst (v := 0) hC dX10_attemptSum_16 (by decide) ?_
        exact R_iret hC hT dX10_attemptSum_17 rfl (by rw [e]; exact CPost.i h (MEq.rf _))
theorem co_join {σ : sg} {x : aW} {α : aS} (h : CInv σ α) (ok : aOK α) (a b k : Int32) : Mt mX10_join 5 0 0 [.ref i_U, .int a, .int b, .int k] (wd σ x) (CPost σ x (opJoin α a b k).1 (opJoin α a b k).2) := by
  refine Mt.of MI_X10_join (Nat.le_of_ble_eq_true rfl) (fun X hC hR hT => ?_)
  rw [opJoin_att] at hT
  have val : (attS α a b k).1 = -1 ∨ ∃ j : Nat, j < 4 ∧ (attS α a b k).1 = nI j ∧ (attS α a b k).2 = α := by
    unfold attS
    by_cases h1 : inR (tK α).1 a ∧ inR (tK α).1 b
    · rw [cnd_t h1]
      by_cases h2 : 0 ≤ k.toInt ∧ k.toInt ≤ 1
      · rw [cnd_t h2]
        by_cases h3 : canJ ((tK α).2 a.toNatClampNeg) ((tK α).2 b.toNatClampNeg) k.toNatClampNeg
        · rw [cnd_t h3]; exact Or.inl rfl
        · rw [cnd_f h3]; exact Or.inr ⟨3, by decide, rfl, rfl⟩
      · rw [cnd_f h2]; exact Or.inr ⟨1, by decide, rfl, rfl⟩
    · rw [cnd_f h1]; exact Or.inr ⟨0, by decide, rfl, rfl⟩
  refine R_aload_n (i := 0) hC dX10_join_0 rfl rfl (R_aload_n (i := 0) hC dX10_join_1 rfl rfl (R_iload_n (i := 1) hC dX10_join_2 rfl rfl (R_iload_n (i := 2) hC dX10_join_3 rfl rfl (R_iload_n (i := 3) hC dX10_join_4 rfl rfl ?_))))
  refine R_V3g hC hR dX10_join_5 MV_X10_attemptSum ml_X10_166 L_U rfl (c_attSum h ok a b k) (by first | decide | omega) ⟨by decide, by decide⟩ (Nat.le_of_ble_eq_true rfl) (fun r w1 hq => ?_)
  obtain ⟨rfl, τ, rfl, hτ, c1⟩ := hq
  skip
  rcases val with q | ⟨j, hj, q, q2⟩
  · rw [if_pos q] at hT
    refine R_top (y := -1) q ?_
    refine R_V1i hC hR dX10_join_8 MV_X10_refused ml_X10_141 L_U rfl (c_refusedN _ _) (by first | decide | omega) ⟨by decide, by decide⟩ (Nat.le_of_ble_eq_true rfl) ?_
    refine R_if_eq hC 18 dX10_join_11 (by decide) (fun _ => ?_) (fun h => absurd rfl h)
    refine R_aload_n (i := 0) hC dX10_join_18 rfl rfl (R_gR hC dX10_join_19 fl_X10_19 L_U rfl (R_gI hC dX10_join_22 fl_X10_170 L_table rfl ?_))
    exact R_iret hC hT dX10_join_25 rfl (by rw [hτ.2.1.1]; exact CPost.i hτ c1)
  · rw [q, if_neg (nj4 hj), nI_clamp (by omega)] at hT
    rw [q2] at hτ
    refine R_top (y := nI j) q ?_
    refine R_V1i hC hR dX10_join_8 MV_X10_refused ml_X10_141 L_U rfl (c_refusedY _ _ j hj) (by first | decide | omega) ⟨by decide, by decide⟩ (Nat.le_of_ble_eq_true rfl) ?_
    refine R_if_eq hC 18 dX10_join_11 (by decide) (fun h => absurd h (by decide)) (fun _ => ?_)
    refine R_iconst (v := (-1)) hC dX10_join_14 (by decide) (R_goto hC 25 dX10_join_15 (by decide) ?_)
    exact R_iret hC hT dX10_join_25 rfl (CPost.i (CInv.stat ok hτ hj) (c1.a (by decide)))
