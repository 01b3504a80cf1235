/-! ===== the class's perform, draws ===== -/
theorem co_perform {σ : sg} {x : aW} {α : aS} (h : CInv σ α) (ok : aOK α) (k : Int32) : Mt mX10_perform 5 0 0 [.ref i_U, .int k] (wd σ x) (CPost σ x (opPerform α k).1 (opPerform α k).2) := by
  refine Mt.of MI_X10_perform (Nat.le_of_ble_eq_true rfl) (fun X hC hR hT => ?_)
  have s4 := ok.2.2.2.2.1.1
  by_cases h0 : ¬ (tT α).1 = 0 ∧ inR (tS α).1 k
  · obtain ⟨j, rfl, hj, hj2⟩ := inR_i h0.2
    have hA := SL_scr j (by omega)
    obtain ⟨b1, b2, b4⟩ := ok.2.2.2.2.1.2 j hj
    have e : opPerform α (nI j) = (nI (perfA ((tS α).2 j) 13 0 α).1, (perfA ((tS α).2 j) 13 0 α).2) := by unfold opPerform; rw [if_pos h0, nI_clamp hj2]
    rw [e] at hT
    have loop : ∀ f i τ (β : aS), f + i = 13 → i ≤ ((tS α).2 j).1 → CInv τ β → aOK β → (tS β) = tS α → ¬ (tT β).1 = 0 → MEq σ τ → perfA ((tS α).2 j) 13 0 α = perfA ((tS α).2 j) f i β → Rw mX10_perform X 29 [some (.ref i_U), some (.int (nI j)), some (.ref (151 + 5 * j)), some (.int (nI i))] [] (wd τ x) 0 0 := by
      intro f
      induction f with
      | zero => intro i τ β h1 h2; omega
      | succ f ih =>
        intro i τ β h1 h2 hτ okβ eS hne c ep
        have hs := hτ.2.2.2.1.2 j (by rw [eS]; exact hj)
        rw [eS] at hs
        by_cases hi : i < ((tS α).2 j).1
        · obtain ⟨g1, g2, g3, g4⟩ := hs.2 i hi
          obtain ⟨kd, hk6, hk0, hk1⟩ := id (b4 i hi)
          have as := act_step (T := tT β) hk6 hk0 hk1.2.2
          have ea : attA β kd (((tS α).2 j).2 i 1) (((tS α).2 j).2 i 2) (((tS α).2 j).2 i 3) = ((actC (tT β) kd (((tS α).2 j).2 i 1) (((tS α).2 j).2 i 2) (((tS α).2 j).2 i 3)).1, if (actC (tT β) kd (((tS α).2 j).2 i 1) (((tS α).2 j).2 i 2) (((tS α).2 j).2 i 3)).1 = -1 then pushT β (actC (tT β) kd (((tS α).2 j).2 i 1) (((tS α).2 j).2 i 2) (((tS α).2 j).2 i 3)).2 else β) := by unfold attA; rw [if_neg hne]
          refine R_iload_n (i := 3) hC dX10_perform_29 rfl rfl (R_aload_n (i := 2) hC dX10_perform_30 rfl rfl (R_gI hC dX10_perform_31 fl_X10_291 hA.1 rfl ?_))
          refine R_top (y := nI ((tS α).2 j).1) (hs.1) ?_
          refine R_icmp_ge hC 75 dX10_perform_34 (by decide) (fun h => absurd h (nI_ge hi (by omega))) (fun _ => ?_)
          refine R_aload_n (i := 0) hC dX10_perform_37 rfl rfl (R_aload_n (i := 2) hC dX10_perform_38 rfl rfl (R_gR hC dX10_perform_39 fl_X10_292 hA.1 rfl (R_iload_n (i := 3) hC dX10_perform_42 rfl rfl (R_aI hC dX10_perform_43 hA.2.1 i rfl (by omega) (by decide) ?_))))
          refine R_top (y := nI kd) (g1.trans hk0) ?_
          refine R_aload_n (i := 2) hC dX10_perform_44 rfl rfl (R_gR hC dX10_perform_45 fl_X10_295 hA.1 rfl (R_iload_n (i := 3) hC dX10_perform_48 rfl rfl (R_aI hC dX10_perform_49 hA.2.2.1 i rfl (by omega) (by decide) ?_)))
          refine R_top (y := ((tS α).2 j).2 i 1) (g2) ?_
          refine R_aload_n (i := 2) hC dX10_perform_50 rfl rfl (R_gR hC dX10_perform_51 fl_X10_298 hA.1 rfl (R_iload_n (i := 3) hC dX10_perform_54 rfl rfl (R_aI hC dX10_perform_55 hA.2.2.2.1 i rfl (by omega) (by decide) ?_)))
          refine R_top (y := ((tS α).2 j).2 i 2) (g3) ?_
          refine R_aload_n (i := 2) hC dX10_perform_56 rfl rfl (R_gR hC dX10_perform_57 fl_X10_301 hA.1 rfl (R_iload_n (i := 3) hC dX10_perform_60 rfl rfl (R_aI hC dX10_perform_61 hA.2.2.2.2 i rfl (by omega) (by decide) ?_)))
          refine R_top (y := ((tS α).2 j).2 i 3) (g4) ?_
          refine R_V4g hC hR dX10_perform_62 MV_X10_attempt ml_X10_137 L_U rfl (c_attempt hτ okβ kd (by omega) _ _ _) (by first | decide | omega) ⟨by decide, by decide⟩ (Nat.le_of_ble_eq_true rfl) (fun r w1 hq => ?_)
          obtain ⟨rfl, υ, rfl, hυ, c2⟩ := hq
          rw [ea] at hυ ⊢
          skip
          by_cases hcan : stepCan (tT β) (((tS α).2 j).2 i)
          · have z := as.1.mpr hcan
            rw [if_pos z, as.2 z] at hυ
            refine R_top (y := -1) z ?_
            refine R_iconst (v := (-1)) hC dX10_perform_65 (by decide) ?_
            refine R_icmp_ne hC 75 dX10_perform_66 (by decide) (fun h => absurd rfl h) (fun _ => ?_)
            refine R_iinc hC dX10_perform_69 rfl (inc1 _) (by decide) rfl (R_goto hC 29 dX10_perform_72 (by decide) ?_)
            exact ih (i + 1) υ _ (by omega) (by omega) hυ (aOK_push okβ (tbOK_step okβ.2.2.1 (b4 i hi) hcan)) eS (stepA_pos okβ.2.2.1 hcan hne) (c.tr c2) (by rw [ep, perfA_y ⟨hi, hcan⟩])
          · have z := mt as.1.mp hcan
            rw [if_neg z] at hυ
            refine R_iconst (v := (-1)) hC dX10_perform_65 (by decide) ?_
            refine R_icmp_ne hC 75 dX10_perform_66 (by decide) (fun _ => ?_) (fun h => absurd h z)
            refine R_iload_n (i := 3) hC dX10_perform_75 rfl rfl ?_
            exact R_iret hC hT dX10_perform_76 rfl (by rw [ep, perfA_n (fun y => hcan y.2)]; exact CPost.i hυ (c.tr c2))
        · have ei : i = ((tS α).2 j).1 := by omega
          refine R_iload_n (i := 3) hC dX10_perform_29 rfl rfl (R_aload_n (i := 2) hC dX10_perform_30 rfl rfl (R_gI hC dX10_perform_31 fl_X10_291 hA.1 rfl ?_))
          refine R_top (y := nI i) (by rw [hs.1, ei]) ?_
          refine R_icmp_ge hC 75 dX10_perform_34 (by decide) (fun _ => ?_) (fun h => absurd (Int32.le_refl _) h)
          refine R_iload_n (i := 3) hC dX10_perform_75 rfl rfl ?_
          exact R_iret hC hT dX10_perform_76 rfl (by rw [ep, perfA_n (fun y => hi y.1)]; exact CPost.i hτ c)
    refine R_aload_n (i := 0) hC dX10_perform_0 rfl rfl (R_gR hC dX10_perform_1 fl_X10_19 L_U rfl ?_)
    refine R_V0i hC hR dX10_perform_4 MV_X7_isNone ml_X10_152 L_table rfl (c_isNone TL_table h.2.1) (by first | decide | omega) ⟨by decide, by decide⟩ (Nat.le_of_ble_eq_true rfl) ?_
    refine R_top (y := 0) (b2i_f h0.1) ?_
    refine R_if_ne hC 18 dX10_perform_7 (by decide) (fun h => absurd rfl h) (fun _ => ?_)
    refine R_aload_n (i := 0) hC dX10_perform_10 rfl rfl (R_iload_n (i := 1) hC dX10_perform_11 rfl rfl ?_)
    refine R_V1i hC hR dX10_perform_12 MV_X10_isScript ml_X10_285 L_U rfl (c_isScript h ok _) (by first | decide | omega) ⟨by decide, by decide⟩ (Nat.le_of_ble_eq_true rfl) ?_
    refine R_top (y := 1) (b2i_t h0.2) ?_
    refine R_if_ne hC 20 dX10_perform_15 (by decide) (fun _ => ?_) (fun h => absurd h (by decide))
    refine R_aload_n (i := 0) hC dX10_perform_20 rfl rfl (R_gR hC dX10_perform_21 fl_X10_42 L_U rfl (R_iload_n (i := 1) hC dX10_perform_24 rfl rfl (R_aR hC dX10_perform_25 L_scr_a (Or.inr rfl) j rfl (by omega) (by decide) (fl_scr _ (by omega)) (R_astore_n (i := 2) hC dX10_perform_26 rfl (by decide) rfl (R_iconst (v := 0) hC dX10_perform_27 (by decide) (R_istore_n (i := 3) hC dX10_perform_28 rfl (by decide) rfl ?_))))))
    exact loop 13 0 σ α rfl (Nat.zero_le _) h ok rfl h0.1 (MEq.rf _) rfl
  · have e : opPerform α k = (-1, α) := by unfold opPerform; rw [if_neg h0]
    refine R_aload_n (i := 0) hC dX10_perform_0 rfl rfl (R_gR hC dX10_perform_1 fl_X10_19 L_U rfl ?_)
    refine R_V0i hC hR dX10_perform_4 MV_X7_isNone ml_X10_152 L_table rfl (c_isNone TL_table h.2.1) (by first | decide | omega) ⟨by decide, by decide⟩ (Nat.le_of_ble_eq_true rfl) ?_
    refine R_if_ne hC 18 dX10_perform_7 (by decide) (fun h7 => ?_) (fun h7 => ?_)
    · refine R_iconst (v := (-1)) hC dX10_perform_18 (by decide) ?_
      exact R_iret hC hT dX10_perform_19 rfl (by rw [e]; exact CPost.i h (MEq.rf _))
    · refine R_aload_n (i := 0) hC dX10_perform_10 rfl rfl (R_iload_n (i := 1) hC dX10_perform_11 rfl rfl ?_)
      refine R_V1i hC hR dX10_perform_12 MV_X10_isScript ml_X10_285 L_U rfl (c_isScript h ok _) (by first | decide | omega) ⟨by decide, by decide⟩ (Nat.le_of_ble_eq_true rfl) ?_
      refine R_if_ne hC 20 dX10_perform_15 (by decide) (fun h15 => ?_) (fun h15 => ?_)
      · exact absurd ⟨b2i_0 h7, b2i_ne h15⟩ h0
      · refine R_iconst (v := (-1)) hC dX10_perform_18 (by decide) ?_
        exact R_iret hC hT dX10_perform_19 rfl (by rw [e]; exact CPost.i h (MEq.rf _))
theorem c_draw (σ : sg) (x : aW) (n : Nat) (h0 : 0 < n) (hn : n < 2 ^ 31) : Mt mX0_draw 0 0 0 [.ref i_dice, .int (nI n)] (wd σ x) (QI (nI (dr (dx (σ.2.1 i_dice)) n)) (wd (sL σ i_dice (dx (σ.2.1 i_dice))) x)) := by
  refine Mt.of MI_X0_draw (Nat.le_of_ble_eq_true rfl) (fun X hC hR hT => ?_)
  refine R_aload_n (i := 0) hC dX0_draw_0 rfl rfl (R_aload_n (i := 0) hC dX0_draw_1 rfl rfl (R_gL hC dX0_draw_2 fl_X0_7 L_dice rfl (R_ldc2 hC dX0_draw_5 kc_X0_13 (R_lmul hC dX0_draw_8 (R_ldc2 hC dX0_draw_9 kc_X0_15 (R_ladd hC dX0_draw_12 (R_pL hC dX0_draw_13 fl_X0_7 L_dice rfl (uL rfl) ?_)))))))
  refine R_iload_n (i := 1) hC dX0_draw_16 rfl rfl ?_
  refine R_if_le hC 34 dX0_draw_17 (by decide) (fun h => absurd h (nI_nle h0 hn)) (fun _ => ?_)
  refine R_aload_n (i := 0) hC dX0_draw_20 rfl rfl (R_gL hC dX0_draw_21 fl_X0_7 L_dice rfl (R_bipush (v := 33) hC dX0_draw_24 (by decide) (R_lushr hC dX0_draw_26 (R_iload_n (i := 1) hC dX0_draw_27 rfl rfl (R_i2l hC dX0_draw_28 (R_lrem hC dX0_draw_29 (by rw [nI_l hn]; intro z; have := congrArg Int64.toInt z; rw [lN_toInt hn] at this; simp at this; omega) (R_l2i hC dX0_draw_30 ?_)))))))
  refine R_goto hC 35 dX0_draw_31 (by decide) ?_
  exact R_iret hC hT dX0_draw_35 rfl ⟨by rw [show (sL σ i_dice (σ.2.1 i_dice * 6364136223846793005 + 1442695040888963407)).2.1 i_dice = dx (σ.2.1 i_dice) from sL_eq _ _ _]; exact congrArg (fun v => some (Value.int v)) (drawZ (dx (σ.2.1 i_dice)) h0 hn).symm.symm, rfl⟩
theorem CInv.l {σ : sg} {α : aS} (ok : aOK α) (h : CInv σ α) (v : Int64) : CInv (sL σ i_dice v) α := CInv.ae (L := [142]) ok h ((AE.rf _ σ).l List.mem_cons_self) (by intro i q; rw [List.mem_singleton] at q; unfold scq; omega)
