/-! ===== the class's run ===== -/
theorem c_isTotal {σ : sg} {x : aW} {α : aS} {b : Nat} {T : tb} (hB : TL b) (hb1 : b ≠ 112 ∧ b ≠ 113 ∧ b + 1 ≠ 112 ∧ b + 1 ≠ 113) (h : CInv σ α) (ok : aOK α) (ht : CT σ b T) : Mt mX10_isTotal 3 0 0 [.ref i_U, .ref b] (wd σ x) (CPost σ x (b2i (tot T)) α) := by
  refine Mt.of MI_X10_isTotal (Nat.le_of_ble_eq_true rfl) (fun X hC hR hT => ?_)
  refine R_aload_n (i := 0) hC dX10_isTotal_0 rfl rfl (R_gR hC dX10_isTotal_1 fl_X10_56 L_U rfl (R_aload_n (i := 1) hC dX10_isTotal_4 rfl rfl ?_))
  refine R_V1g hC hR dX10_isTotal_5 MV_X1_reckon ml_X10_344 L_minors rfl (c_reckon hB hb1 ht h.2.2.2.2.2.2.2.1) (by first | decide | omega) ⟨by decide, by decide⟩ (Nat.le_of_ble_eq_true rfl) (fun r w1 hq => ?_)
  obtain ⟨rfl, τ, rfl, c, hk, kd, h5⟩ := hq
  have e : ∀ b, b ≠ 5 → (sG τ i_minors 5 0).1 i_minors b = τ.1 i_minors b := fun b hb => sG_nk hb
  have k2 : CKm (sG τ i_minors 5 0) T := by
    unfold CKm at *
    rw [e 1 (by decide), e 2 (by decide), e 3 (by decide), e 4 (by decide)]
    exact hk
  refine R_aload_n (i := 0) hC dX10_isTotal_8 rfl rfl (R_gR hC dX10_isTotal_9 fl_X10_56 L_U rfl (R_iconst (v := 0) hC dX10_isTotal_12 (by decide) (R_pZ hC dX10_isTotal_13 fl_X10_339 L_minors rfl (by first | exact Or.inl rfl | exact Or.inr rfl) (R_aload_n (i := 0) hC dX10_isTotal_16 rfl rfl (R_gR hC dX10_isTotal_17 fl_X10_56 L_U rfl ?_)))))
  refine R_V0i hC hR dX10_isTotal_20 MV_X1_allWithin ml_X10_200 L_minors rfl (c_allWithin ht.2.2.1 k2) (by first | decide | omega) ⟨by decide, by decide⟩ (Nat.le_of_ble_eq_true rfl) ?_
  exact R_zret hC hT dX10_isTotal_23 rfl (b2i_z _) (by
  have ca : AE [112, 113] σ (sG τ i_minors 5 0) := c.g (by decide)
  refine CPost.i ?_ (ca.meq (by decide))
  obtain ⟨q1, q2, q3, q4, q5, q6, q7, q8, ⟨q9, q10, q11, q12⟩⟩ := h
  have s4 := ok.2.2.2.2.1.1
  refine ⟨q1.ae ca (by decide), q2.ae ca (by decide) (by decide), q3.ae ok.2.2.2.1.1 ca (by decide), q4.ae ca (by intro i z; simp at z; omega), q5.ae ca (by decide), q6.ae ca (by decide), q7.ae ca (by decide), kd, Or.inl (sG_eq _ _ _ _), ?_, ?_, ?_⟩
  · rw [(ca 114 (by decide)).1]; exact q10.imp id (fun z => ⟨z.1, z.2.ae ca (by decide)⟩)
  · rw [(ca 119 (by decide)).1]; exact q11.imp id (fun z => ⟨z.1, z.2.ae ca (by decide)⟩)
  · rw [(ca 124 (by decide)).1]; exact q12.imp id (fun z => ⟨z.1, z.2.ae ca (by decide) (by decide)⟩))
theorem co_run {σ : sg} {x : aW} {α : aS} (h : CInv σ α) (ok : aOK α) (k w : Int32) : Mt mX10_run 4 0 0 [.ref i_U, .int k, .int w] (wd σ x) (CPost σ x (opRun α k w) α) := by
  refine Mt.of MI_X10_run (Nat.le_of_ble_eq_true rfl) (fun X hC hR hT => ?_)
  have s4 := ok.2.2.2.2.1.1
  have e1 : (1 : Int32).toInt = 1 := by decide
  by_cases h0 : ¬ (tT α).1 = 0 ∧ inR (tS α).1 k ∧ (0 ≤ w.toInt ∧ w.toInt ≤ 1)
  · obtain ⟨j, rfl, hj, hj2⟩ := inR_i h0.2.1
    have hA := SL_scr j (by omega)
    obtain ⟨b1, b2, b4⟩ := ok.2.2.2.2.1.2 j hj
    have e : opRun α (nI j) w = (if w = 1 then b2i (tot (runT ((tS α).2 j) 13 0 (tT α)).2) else if (runT ((tS α).2 j) 13 0 (tT α)).1 = ((tS α).2 j).1 then -1 else nI (runT ((tS α).2 j) 13 0 (tT α)).1) := by unfold opRun; rw [if_pos h0, nI_clamp hj2]
    have fin : ∀ τ i U, AE [23, 24] σ τ → CT τ i_draft U → i ≤ 12 → runT ((tS α).2 j) 13 0 (tT α) = (i, U) → Rw mX10_run X 105 [some (.ref i_U), some (.int (nI j)), some (.int w), some (.ref (151 + 5 * j)), some (.int (nI i))] [] (wd τ x) 0 0 := by
      intro τ i U c ht hi ee
      rw [ee] at e
      have hτ : CInv τ α := CInv.ae ok h c (by intro i q; unfold scq; simp at q; omega)
      have hs := hτ.2.2.2.1.2 j hj
      have ceq := nI_eq (a := i) (b := ((tS α).2 j).1) (by omega) (by omega)
      by_cases hw : w = 1
      · rw [if_pos hw] at e
        refine R_iload_n (i := 2) hC dX10_run_105 rfl rfl (R_iconst (v := 1) hC dX10_run_106 (by decide) ?_)
        refine R_icmp_ne hC 127 dX10_run_107 (by decide) (fun h => absurd hw h) (fun _ => ?_)
        refine R_aload_n (i := 0) hC dX10_run_110 rfl rfl (R_aload_n (i := 0) hC dX10_run_111 rfl rfl (R_gR hC dX10_run_112 fl_X10_26 L_U rfl ?_))
        refine R_V1g hC hR dX10_run_115 MV_X10_isTotal ml_X10_233 L_U rfl (c_isTotal TL_draft (by decide) hτ ok ht) (by first | decide | omega) ⟨by decide, by decide⟩ (Nat.le_of_ble_eq_true rfl) (fun r w1 hq => ?_)
        obtain ⟨rfl, υ, rfl, hυ, c2⟩ := hq
        refine R_if_eq hC 125 dX10_run_118 (by decide) (fun h118 => ?_) (fun h118 => ?_)
        · refine R_iconst (v := 0) hC dX10_run_125 (by decide) ?_
          exact R_iret hC hT dX10_run_126 rfl (by rw [e]; first | (rw [b2i_t (b2i_ne h118)]; exact CPost.i hυ ((c.meq (by decide)).tr c2)) | (rw [b2i_f (b2i_0 h118)]; exact CPost.i hυ ((c.meq (by decide)).tr c2)))
        · refine R_iconst (v := 1) hC dX10_run_121 (by decide) (R_goto hC 126 dX10_run_122 (by decide) ?_)
          exact R_iret hC hT dX10_run_126 rfl (by rw [e]; first | (rw [b2i_t (b2i_ne h118)]; exact CPost.i hυ ((c.meq (by decide)).tr c2)) | (rw [b2i_f (b2i_0 h118)]; exact CPost.i hυ ((c.meq (by decide)).tr c2)))
      · rw [if_neg hw] at e
        refine R_iload_n (i := 2) hC dX10_run_105 rfl rfl (R_iconst (v := 1) hC dX10_run_106 (by decide) ?_)
        refine R_icmp_ne hC 127 dX10_run_107 (by decide) (fun _ => ?_) (fun h => absurd h hw)
        refine R_iload hC dX10_run_127 rfl (R_aload_n (i := 3) hC dX10_run_129 rfl rfl (R_gI hC dX10_run_130 fl_X10_291 hA.1 rfl ?_))
        refine R_top (y := nI ((tS α).2 j).1) (hs.1) ?_
        refine R_icmp_ne hC 140 dX10_run_133 (by decide) (fun h133 => ?_) (fun h133 => ?_)
        · refine R_iload hC dX10_run_140 rfl ?_
          exact R_iret hC hT dX10_run_142 rfl (by rw [e]; first | (have z := ceq.mp h133; rw [if_pos z]; exact CPost.i hτ (c.meq (by decide))) | (rw [if_neg (fun z => h133 (ceq.mpr z))]; exact CPost.i hτ (c.meq (by decide))))
        · refine R_iconst (v := (-1)) hC dX10_run_136 (by decide) (R_goto hC 142 dX10_run_137 (by decide) ?_)
          exact R_iret hC hT dX10_run_142 rfl (by rw [e]; first | (have z := ceq.mp h133; rw [if_pos z]; exact CPost.i hτ (c.meq (by decide))) | (rw [if_neg (fun z => h133 (ceq.mpr z))]; exact CPost.i hτ (c.meq (by decide))))
    have loop : ∀ f i τ (U : tb), f + i = 13 → i ≤ ((tS α).2 j).1 → AE [23, 24] σ τ → CT τ i_draft U → tbOK U → ¬ U.1 = 0 → runT ((tS α).2 j) 13 0 (tT α) = runT ((tS α).2 j) f i U → Rw mX10_run X 51 [some (.ref i_U), some (.int (nI j)), some (.int w), some (.ref (151 + 5 * j)), some (.int (nI i))] [] (wd τ x) 0 0 := by
      intro f
      induction f with
      | zero => intro i τ U h1 h2; omega
      | succ f ih =>
        intro i τ U h1 h2 c ht okU hne ep
        have hτ : CInv τ α := CInv.ae ok h c (by intro i q; unfold scq; simp at q; omega)
        have hs := hτ.2.2.2.1.2 j hj
        by_cases hi : i < ((tS α).2 j).1
        · obtain ⟨g1, g2, g3, g4⟩ := hs.2 i hi
          obtain ⟨kd, hk6, hk0, hk1⟩ := id (b4 i hi)
          have as := act_step (T := U) hk6 hk0 hk1.2.2
          refine R_iload hC dX10_run_51 rfl (R_aload_n (i := 3) hC dX10_run_53 rfl rfl (R_gI hC dX10_run_54 fl_X10_291 hA.1 rfl ?_))
          refine R_top (y := nI ((tS α).2 j).1) (hs.1) ?_
          refine R_icmp_ge hC 105 dX10_run_57 (by decide) (fun h => absurd h (nI_ge hi (by omega))) (fun _ => ?_)
          refine R_aload_n (i := 0) hC dX10_run_60 rfl rfl (R_gR hC dX10_run_61 fl_X10_26 L_U rfl (R_aload_n (i := 3) hC dX10_run_64 rfl rfl (R_gR hC dX10_run_65 fl_X10_292 hA.1 rfl (R_iload hC dX10_run_68 rfl (R_aI hC dX10_run_70 hA.2.1 i rfl (by omega) (by decide) ?_)))))
          refine R_top (y := nI kd) (g1.trans hk0) ?_
          refine R_aload_n (i := 3) hC dX10_run_71 rfl rfl (R_gR hC dX10_run_72 fl_X10_295 hA.1 rfl (R_iload hC dX10_run_75 rfl (R_aI hC dX10_run_77 hA.2.2.1 i rfl (by omega) (by decide) ?_)))
          refine R_top (y := ((tS α).2 j).2 i 1) (g2) ?_
          refine R_aload_n (i := 3) hC dX10_run_78 rfl rfl (R_gR hC dX10_run_79 fl_X10_298 hA.1 rfl (R_iload hC dX10_run_82 rfl (R_aI hC dX10_run_84 hA.2.2.2.1 i rfl (by omega) (by decide) ?_)))
          refine R_top (y := ((tS α).2 j).2 i 2) (g3) ?_
          refine R_aload_n (i := 3) hC dX10_run_85 rfl rfl (R_gR hC dX10_run_86 fl_X10_301 hA.1 rfl (R_iload hC dX10_run_89 rfl (R_aI hC dX10_run_91 hA.2.2.2.2 i rfl (by omega) (by decide) ?_)))
          refine R_top (y := ((tS α).2 j).2 i 3) (g4) ?_
          refine R_V4g hC hR dX10_run_92 MV_X7_act ml_X10_304 L_draft rfl (c_act TL_draft ht (tbI_of okU hne) okU.2.2.2 kd (by omega) _ _ _) (by first | decide | omega) ⟨by decide, by decide⟩ (Nat.le_of_ble_eq_true rfl) (fun r w1 hq => ?_)
          obtain ⟨rfl, υ, rfl, c2, hυ⟩ := hq
          skip
          by_cases hcan : stepCan U (((tS α).2 j).2 i)
          · have z := as.1.mpr hcan
            rw [as.2 z] at hυ
            refine R_top (y := -1) z ?_
            refine R_iconst (v := (-1)) hC dX10_run_95 (by decide) ?_
            refine R_icmp_ne hC 105 dX10_run_96 (by decide) (fun h => absurd rfl h) (fun _ => ?_)
            refine R_iinc hC dX10_run_99 rfl (inc1 _) (by decide) rfl (R_goto hC 51 dX10_run_102 (by decide) ?_)
            exact ih (i + 1) υ _ (by omega) (by omega) (c.tr c2) hυ (tbOK_step okU (b4 i hi) hcan) (stepA_pos okU hcan hne) (by rw [ep, runT_y ⟨hi, hcan⟩])
          · have z := mt as.1.mp hcan
            rw [actC_n z] at hυ
            refine R_iconst (v := (-1)) hC dX10_run_95 (by decide) ?_
            refine R_icmp_ne hC 105 dX10_run_96 (by decide) (fun _ => ?_) (fun h => absurd h z)
            exact fin υ i U (c.tr c2) hυ (by omega) (by rw [ep, runT_n (fun y => hcan y.2)])
        · have ei : i = ((tS α).2 j).1 := by omega
          refine R_iload hC dX10_run_51 rfl (R_aload_n (i := 3) hC dX10_run_53 rfl rfl (R_gI hC dX10_run_54 fl_X10_291 hA.1 rfl ?_))
          refine R_top (y := nI i) (by rw [hs.1, ei]) ?_
          refine R_icmp_ge hC 105 dX10_run_57 (by decide) (fun _ => ?_) (fun h => absurd (Int32.le_refl _) h)
          exact fin τ i U c ht (by omega) (by rw [ep, runT_n (fun y => hi y.1)])
    refine R_aload_n (i := 0) hC dX10_run_0 rfl rfl (R_gR hC dX10_run_1 fl_X10_19 L_U rfl ?_)
    refine R_V0i hC hR dX10_run_4 MV_X7_isNone ml_X10_152 L_table rfl (c_isNone TL_table h.2.1) (by first | decide | omega) ⟨by decide, by decide⟩ (Nat.le_of_ble_eq_true rfl) ?_
    refine R_top (y := 0) (b2i_f h0.1) ?_
    refine R_if_ne hC 27 dX10_run_7 (by decide) (fun h => absurd rfl h) (fun _ => ?_)
    refine R_aload_n (i := 0) hC dX10_run_10 rfl rfl (R_iload_n (i := 1) hC dX10_run_11 rfl rfl ?_)
    refine R_V1i hC hR dX10_run_12 MV_X10_isScript ml_X10_285 L_U rfl (c_isScript h ok _) (by first | decide | omega) ⟨by decide, by decide⟩ (Nat.le_of_ble_eq_true rfl) ?_
    refine R_top (y := 1) (b2i_t h0.2.1) ?_
    refine R_if_eq hC 27 dX10_run_15 (by decide) (fun h => absurd h (by decide)) (fun _ => ?_)
    refine R_iload_n (i := 2) hC dX10_run_18 rfl rfl ?_
    refine R_if_lt hC 27 dX10_run_19 (by decide) (fun h => absurd h (by simp only [i32_lt, Int32.toInt_zero]; omega)) (fun _ => ?_)
    refine R_iload_n (i := 2) hC dX10_run_22 rfl rfl (R_iconst (v := 1) hC dX10_run_23 (by decide) ?_)
    refine R_icmp_le hC 30 dX10_run_24 (by decide) (fun _ => ?_) (fun h => absurd (by simp only [i32_ge, e1]; omega) h)
    refine R_aload_n (i := 0) hC dX10_run_30 rfl rfl (R_gR hC dX10_run_31 fl_X10_42 L_U rfl (R_iload_n (i := 1) hC dX10_run_34 rfl rfl (R_aR hC dX10_run_35 L_scr_a (Or.inr rfl) j rfl (by omega) (by decide) (fl_scr _ (by omega)) (R_astore_n (i := 3) hC dX10_run_36 rfl (by decide) rfl (R_aload_n (i := 0) hC dX10_run_37 rfl rfl (R_gR hC dX10_run_38 fl_X10_26 L_U rfl (R_aload_n (i := 0) hC dX10_run_41 rfl rfl ?_)))))))
    refine R_gR hC dX10_run_42 fl_X10_19 L_U rfl ?_
    refine R_V1g hC hR dX10_run_45 MV_X7_copyFrom ml_X10_159 L_draft rfl (c_copyFrom TL_draft TL_table (by decide) h.2.1) (by first | decide | omega) ⟨by decide, by decide⟩ (Nat.le_of_ble_eq_true rfl) (fun r w1 hq => ?_)
    obtain ⟨rfl, τ, rfl, c, ht⟩ := hq
    refine R_iconst (v := 0) hC dX10_run_48 (by decide) (R_istore hC dX10_run_49 (by decide) rfl ?_)
    exact loop 13 0 τ (tT α) rfl (Nat.zero_le _) c ht ok.2.2.1 h0.1 rfl
  · have e : opRun α k w = -1000000 := by unfold opRun; rw [if_neg h0]
    refine R_aload_n (i := 0) hC dX10_run_0 rfl rfl (R_gR hC dX10_run_1 fl_X10_19 L_U rfl ?_)
    refine R_V0i hC hR dX10_run_4 MV_X7_isNone ml_X10_152 L_table rfl (c_isNone TL_table h.2.1) (by first | decide | omega) ⟨by decide, by decide⟩ (Nat.le_of_ble_eq_true rfl) ?_
    refine R_if_ne hC 27 dX10_run_7 (by decide) (fun h7 => ?_) (fun h7 => ?_)
    · refine R_ldc hC dX10_run_27 kc_X10_145 ?_
      exact R_iret hC hT dX10_run_29 rfl (by rw [e]; exact CPost.i h (MEq.rf _))
    · refine R_aload_n (i := 0) hC dX10_run_10 rfl rfl (R_iload_n (i := 1) hC dX10_run_11 rfl rfl ?_)
      refine R_V1i hC hR dX10_run_12 MV_X10_isScript ml_X10_285 L_U rfl (c_isScript h ok _) (by first | decide | omega) ⟨by decide, by decide⟩ (Nat.le_of_ble_eq_true rfl) ?_
      refine R_if_eq hC 27 dX10_run_15 (by decide) (fun h15 => ?_) (fun h15 => ?_)
      · refine R_ldc hC dX10_run_27 kc_X10_145 ?_
        exact R_iret hC hT dX10_run_29 rfl (by rw [e]; exact CPost.i h (MEq.rf _))
      · refine R_iload_n (i := 2) hC dX10_run_18 rfl rfl ?_
        refine R_if_lt hC 27 dX10_run_19 (by decide) (fun h19 => ?_) (fun h19 => ?_)
        · refine R_ldc hC dX10_run_27 kc_X10_145 ?_
          exact R_iret hC hT dX10_run_29 rfl (by rw [e]; exact CPost.i h (MEq.rf _))
        · refine R_iload_n (i := 2) hC dX10_run_22 rfl rfl (R_iconst (v := 1) hC dX10_run_23 (by decide) ?_)
          refine R_icmp_le hC 30 dX10_run_24 (by decide) (fun h24 => ?_) (fun h24 => ?_)
          · exact absurd ⟨b2i_0 h7, b2i_ne h15, by simp only [i32_ge, i32_lt, Int32.toInt_zero, e1] at *; omega⟩ h0
          · refine R_ldc hC dX10_run_27 kc_X10_145 ?_
            exact R_iret hC hT dX10_run_29 rfl (by rw [e]; exact CPost.i h (MEq.rf _))
