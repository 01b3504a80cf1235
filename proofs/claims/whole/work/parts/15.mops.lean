-- end
noncomputable def opEnd (α : aS) (n : Int32) : Int32 × aS := by classical exact if 0 ≤ n.toInt ∧ n.toInt ≤ (tp α).1 then (1, (n.toNatClampNeg, (tp α).2), α.2) else (0, α)
theorem mo_end {σ : sg} {x : aW} {α : aS} (h : MInv σ α) (ok : aOK α) (n : Int32) : Mt mX11_end 0 0 0 [.ref i_M, .int n] (wd σ x) (MPost σ x (opEnd α n).1 (opEnd α n).2) := by
  refine (s_end σ x n).mono ?_
  have e : (σ.1 i_M 2).toInt = (tp α).1 := by rw [h.1.1, nI_toInt (by have := ok.1; omega)]
  rintro r w (⟨h1, h2, rfl, rfl⟩ | ⟨h1, rfl, rfl⟩)
  · rw [e] at h2
    have e2 : opEnd α n = (1, (n.toNatClampNeg, (tp α).2), α.2) := by unfold opEnd; rw [if_pos ⟨h1, h2⟩]
    rw [e2]
    obtain ⟨j, rfl, hj, hj2⟩ := i32_nI h1
    refine MPost.i ?_ ((CEq.rf σ).g (Nat.le_refl _) |>.g (Nat.le_refl _))
    obtain ⟨⟨q1, q2⟩, q3, q4, q5, q6, q7, q8⟩ := h
    refine ⟨⟨?_, fun i hi => ?_⟩, q3, ?_, ?_, ?_, q7, ?_⟩
    · rw [sG_eq]; show nI j = nI (nI j).toNatClampNeg; rw [nI_clamp hj2]
    · have hi : i < (nI j).toNatClampNeg := hi
      rw [nI_clamp hj2] at hi
      exact q2 i (by omega)
    · rw [sG_nk (by decide), sG_nk (by decide)]; exact q4
    · rw [sG_nk (by decide), sG_nk (by decide)]; exact q5
    · rw [sG_nk (by decide), sG_nk (by decide)]; exact q6
    · rw [sG_nk (by decide), sG_nk (by decide), sG_nk (by decide), sG_nk (by decide)]; exact q8
  · rw [e] at h1
    have e2 : opEnd α n = (0, α) := by unfold opEnd; rw [if_neg h1]
    rw [e2]
    exact MPost.i (M_thr h 0) ((CEq.rf σ).g (Nat.le_refl _))
-- status
noncomputable def opStatus (α : aS) (k : Int32) : Int32 := by classical exact if 0 ≤ k.toInt ∧ k.toInt ≤ 3 then tZ α k.toNatClampNeg else -1
theorem mo_status {σ : sg} {x : aW} {α : aS} (h : MInv σ α) (k : Int32) : Mt mX11_status 1 0 0 [.ref i_M, .int k] (wd σ x) (MPost σ x (opStatus α k) α) := by
  refine (s_status σ x k).mono ?_
  rintro r w ⟨rfl, ⟨j, hj, rfl, rfl⟩ | ⟨h1, rfl⟩⟩
  · have e2 : opStatus α (nI j) = σ.2.2 i_m_status j := by
      unfold opStatus
      rw [if_pos (by rw [nI_toInt (by omega)]; omega), nI_clamp (by omega), h.2.2.2.2.2.1 j hj]
    rw [e2]; exact MPost.i (M_thr h 0) ((CEq.rf σ).g (Nat.le_refl _))
  · have e2 : opStatus α k = -1 := by unfold opStatus; rw [if_neg h1]
    rw [e2]; exact MPost.i (M_thr h 0) ((CEq.rf σ).g (Nat.le_refl _))
theorem dX11_keep_0 : decode cX11_keep 0 = .ok (.aload_n 0, 1) := by decide +kernel
theorem dX11_keep_1 : decode cX11_keep 1 = .ok (.iconst 0, 1) := by decide +kernel
theorem dX11_keep_2 : decode cX11_keep 2 = .ok (.putfield 83, 3) := by decide +kernel
theorem dX11_keep_5 : decode cX11_keep 5 = .ok (.aload_n 0, 1) := by decide +kernel
theorem dX11_keep_6 : decode cX11_keep 6 = .ok (.getfield 13, 3) := by decide +kernel
theorem dX11_keep_9 : decode cX11_keep 9 = .ok (.bipush 36, 2) := by decide +kernel
theorem dX11_keep_11 : decode cX11_keep 11 = .ok (.iaload, 1) := by decide +kernel
theorem dX11_keep_12 : decode cX11_keep 12 = .ok (.ifCond .eq 11, 3) := by decide +kernel
theorem dX11_keep_15 : decode cX11_keep 15 = .ok (.aload_n 0, 1) := by decide +kernel
theorem dX11_keep_16 : decode cX11_keep 16 = .ok (.getfield 189, 3) := by decide +kernel
theorem dX11_keep_19 : decode cX11_keep 19 = .ok (.iconst 4, 1) := by decide +kernel
theorem dX11_keep_20 : decode cX11_keep 20 = .ok (.if_icmp .ne 5, 3) := by decide +kernel
theorem dX11_keep_23 : decode cX11_keep 23 = .ok (.iconst (-1), 1) := by decide +kernel
theorem dX11_keep_24 : decode cX11_keep 24 = .ok (.ireturn, 1) := by decide +kernel
theorem dX11_keep_25 : decode cX11_keep 25 = .ok (.iconst 0, 1) := by decide +kernel
theorem dX11_keep_26 : decode cX11_keep 26 = .ok (.istore_n 1, 1) := by decide +kernel
theorem dX11_keep_27 : decode cX11_keep 27 = .ok (.iload_n 1, 1) := by decide +kernel
theorem dX11_keep_28 : decode cX11_keep 28 = .ok (.bipush 38, 2) := by decide +kernel
theorem dX11_keep_30 : decode cX11_keep 30 = .ok (.if_icmp .ge 29, 3) := by decide +kernel
theorem dX11_keep_33 : decode cX11_keep 33 = .ok (.aload_n 0, 1) := by decide +kernel
theorem dX11_keep_34 : decode cX11_keep 34 = .ok (.getfield 23, 3) := by decide +kernel
theorem dX11_keep_37 : decode cX11_keep 37 = .ok (.bipush 38, 2) := by decide +kernel
theorem dX11_keep_39 : decode cX11_keep 39 = .ok (.aload_n 0, 1) := by decide +kernel
theorem dX11_keep_40 : decode cX11_keep 40 = .ok (.getfield 189, 3) := by decide +kernel
theorem dX11_keep_43 : decode cX11_keep 43 = .ok (.imul, 1) := by decide +kernel
theorem dX11_keep_44 : decode cX11_keep 44 = .ok (.iload_n 1, 1) := by decide +kernel
theorem dX11_keep_45 : decode cX11_keep 45 = .ok (.iadd, 1) := by decide +kernel
theorem dX11_keep_46 : decode cX11_keep 46 = .ok (.aload_n 0, 1) := by decide +kernel
theorem dX11_keep_47 : decode cX11_keep 47 = .ok (.getfield 13, 3) := by decide +kernel
theorem dX11_keep_50 : decode cX11_keep 50 = .ok (.iload_n 1, 1) := by decide +kernel
theorem dX11_keep_51 : decode cX11_keep 51 = .ok (.iaload, 1) := by decide +kernel
theorem dX11_keep_52 : decode cX11_keep 52 = .ok (.iastore, 1) := by decide +kernel
theorem dX11_keep_53 : decode cX11_keep 53 = .ok (.iinc 1 1, 3) := by decide +kernel
theorem dX11_keep_56 : decode cX11_keep 56 = .ok (.goto (-29), 3) := by decide +kernel
theorem dX11_keep_59 : decode cX11_keep 59 = .ok (.aload_n 0, 1) := by decide +kernel
theorem dX11_keep_60 : decode cX11_keep 60 = .ok (.dup, 1) := by decide +kernel
theorem dX11_keep_61 : decode cX11_keep 61 = .ok (.getfield 189, 3) := by decide +kernel
theorem dX11_keep_64 : decode cX11_keep 64 = .ok (.iconst 1, 1) := by decide +kernel
theorem dX11_keep_65 : decode cX11_keep 65 = .ok (.iadd, 1) := by decide +kernel
theorem dX11_keep_66 : decode cX11_keep 66 = .ok (.putfield 189, 3) := by decide +kernel
theorem dX11_keep_69 : decode cX11_keep 69 = .ok (.aload_n 0, 1) := by decide +kernel
theorem dX11_keep_70 : decode cX11_keep 70 = .ok (.getfield 189, 3) := by decide +kernel
theorem dX11_keep_73 : decode cX11_keep 73 = .ok (.iconst 1, 1) := by decide +kernel
theorem dX11_keep_74 : decode cX11_keep 74 = .ok (.isub, 1) := by decide +kernel
theorem dX11_keep_75 : decode cX11_keep 75 = .ok (.ireturn, 1) := by decide +kernel
theorem dX11_undo_0 : decode cX11_undo 0 = .ok (.aload_n 0, 1) := by decide +kernel
theorem dX11_undo_1 : decode cX11_undo 1 = .ok (.iconst 0, 1) := by decide +kernel
theorem dX11_undo_2 : decode cX11_undo 2 = .ok (.putfield 83, 3) := by decide +kernel
theorem dX11_undo_5 : decode cX11_undo 5 = .ok (.aload_n 0, 1) := by decide +kernel
theorem dX11_undo_6 : decode cX11_undo 6 = .ok (.getfield 155, 3) := by decide +kernel
theorem dX11_undo_9 : decode cX11_undo 9 = .ok (.ifCond .ne 5, 3) := by decide +kernel
theorem dX11_undo_12 : decode cX11_undo 12 = .ok (.iconst (-1), 1) := by decide +kernel
theorem dX11_undo_13 : decode cX11_undo 13 = .ok (.ireturn, 1) := by decide +kernel
theorem dX11_undo_14 : decode cX11_undo 14 = .ok (.aload_n 0, 1) := by decide +kernel
theorem dX11_undo_15 : decode cX11_undo 15 = .ok (.dup, 1) := by decide +kernel
theorem dX11_undo_16 : decode cX11_undo 16 = .ok (.getfield 155, 3) := by decide +kernel
theorem dX11_undo_19 : decode cX11_undo 19 = .ok (.iconst 1, 1) := by decide +kernel
theorem dX11_undo_20 : decode cX11_undo 20 = .ok (.isub, 1) := by decide +kernel
theorem dX11_undo_21 : decode cX11_undo 21 = .ok (.putfield 155, 3) := by decide +kernel
theorem dX11_undo_24 : decode cX11_undo 24 = .ok (.iconst 0, 1) := by decide +kernel
theorem dX11_undo_25 : decode cX11_undo 25 = .ok (.istore_n 1, 1) := by decide +kernel
theorem dX11_undo_26 : decode cX11_undo 26 = .ok (.iload_n 1, 1) := by decide +kernel
theorem dX11_undo_27 : decode cX11_undo 27 = .ok (.bipush 38, 2) := by decide +kernel
theorem dX11_undo_29 : decode cX11_undo 29 = .ok (.if_icmp .ge 29, 3) := by decide +kernel
theorem dX11_undo_32 : decode cX11_undo 32 = .ok (.aload_n 0, 1) := by decide +kernel
theorem dX11_undo_33 : decode cX11_undo 33 = .ok (.getfield 13, 3) := by decide +kernel
theorem dX11_undo_36 : decode cX11_undo 36 = .ok (.iload_n 1, 1) := by decide +kernel
theorem dX11_undo_37 : decode cX11_undo 37 = .ok (.aload_n 0, 1) := by decide +kernel
theorem dX11_undo_38 : decode cX11_undo 38 = .ok (.getfield 35, 3) := by decide +kernel
theorem dX11_undo_41 : decode cX11_undo 41 = .ok (.bipush 38, 2) := by decide +kernel
theorem dX11_undo_43 : decode cX11_undo 43 = .ok (.aload_n 0, 1) := by decide +kernel
theorem dX11_undo_44 : decode cX11_undo 44 = .ok (.getfield 155, 3) := by decide +kernel
theorem dX11_undo_47 : decode cX11_undo 47 = .ok (.imul, 1) := by decide +kernel
theorem dX11_undo_48 : decode cX11_undo 48 = .ok (.iload_n 1, 1) := by decide +kernel
theorem dX11_undo_49 : decode cX11_undo 49 = .ok (.iadd, 1) := by decide +kernel
theorem dX11_undo_50 : decode cX11_undo 50 = .ok (.iaload, 1) := by decide +kernel
theorem dX11_undo_51 : decode cX11_undo 51 = .ok (.iastore, 1) := by decide +kernel
theorem dX11_undo_52 : decode cX11_undo 52 = .ok (.iinc 1 1, 3) := by decide +kernel
theorem dX11_undo_55 : decode cX11_undo 55 = .ok (.goto (-29), 3) := by decide +kernel
theorem dX11_undo_58 : decode cX11_undo 58 = .ok (.aload_n 0, 1) := by decide +kernel
theorem dX11_undo_59 : decode cX11_undo 59 = .ok (.getfield 155, 3) := by decide +kernel
theorem dX11_undo_62 : decode cX11_undo 62 = .ok (.ireturn, 1) := by decide +kernel
theorem dX11_remember_0 : decode cX11_remember 0 = .ok (.aload_n 0, 1) := by decide +kernel
theorem dX11_remember_1 : decode cX11_remember 1 = .ok (.getfield 155, 3) := by decide +kernel
theorem dX11_remember_4 : decode cX11_remember 4 = .ok (.bipush 40, 2) := by decide +kernel
theorem dX11_remember_6 : decode cX11_remember 6 = .ok (.if_icmp .ne 43, 3) := by decide +kernel
theorem dX11_remember_9 : decode cX11_remember 9 = .ok (.iconst 0, 1) := by decide +kernel
theorem dX11_remember_10 : decode cX11_remember 10 = .ok (.istore_n 1, 1) := by decide +kernel
theorem dX11_remember_11 : decode cX11_remember 11 = .ok (.iload_n 1, 1) := by decide +kernel
theorem dX11_remember_12 : decode cX11_remember 12 = .ok (.sipush 1482, 3) := by decide +kernel
theorem dX11_remember_15 : decode cX11_remember 15 = .ok (.if_icmp .ge 24, 3) := by decide +kernel
theorem dX11_remember_18 : decode cX11_remember 18 = .ok (.aload_n 0, 1) := by decide +kernel
theorem dX11_remember_19 : decode cX11_remember 19 = .ok (.getfield 35, 3) := by decide +kernel
theorem dX11_remember_22 : decode cX11_remember 22 = .ok (.iload_n 1, 1) := by decide +kernel
theorem dX11_remember_23 : decode cX11_remember 23 = .ok (.aload_n 0, 1) := by decide +kernel
theorem dX11_remember_24 : decode cX11_remember 24 = .ok (.getfield 35, 3) := by decide +kernel
theorem dX11_remember_27 : decode cX11_remember 27 = .ok (.iload_n 1, 1) := by decide +kernel
theorem dX11_remember_28 : decode cX11_remember 28 = .ok (.bipush 38, 2) := by decide +kernel
theorem dX11_remember_30 : decode cX11_remember 30 = .ok (.iadd, 1) := by decide +kernel
theorem dX11_remember_31 : decode cX11_remember 31 = .ok (.iaload, 1) := by decide +kernel
theorem dX11_remember_32 : decode cX11_remember 32 = .ok (.iastore, 1) := by decide +kernel
theorem dX11_remember_33 : decode cX11_remember 33 = .ok (.iinc 1 1, 3) := by decide +kernel
theorem dX11_remember_36 : decode cX11_remember 36 = .ok (.goto (-25), 3) := by decide +kernel
theorem dX11_remember_39 : decode cX11_remember 39 = .ok (.aload_n 0, 1) := by decide +kernel
theorem dX11_remember_40 : decode cX11_remember 40 = .ok (.dup, 1) := by decide +kernel
theorem dX11_remember_41 : decode cX11_remember 41 = .ok (.getfield 155, 3) := by decide +kernel
theorem dX11_remember_44 : decode cX11_remember 44 = .ok (.iconst 1, 1) := by decide +kernel
theorem dX11_remember_45 : decode cX11_remember 45 = .ok (.isub, 1) := by decide +kernel
theorem dX11_remember_46 : decode cX11_remember 46 = .ok (.putfield 155, 3) := by decide +kernel
theorem dX11_remember_49 : decode cX11_remember 49 = .ok (.iconst 0, 1) := by decide +kernel
theorem dX11_remember_50 : decode cX11_remember 50 = .ok (.istore_n 1, 1) := by decide +kernel
theorem dX11_remember_51 : decode cX11_remember 51 = .ok (.iload_n 1, 1) := by decide +kernel
theorem dX11_remember_52 : decode cX11_remember 52 = .ok (.bipush 38, 2) := by decide +kernel
theorem dX11_remember_54 : decode cX11_remember 54 = .ok (.if_icmp .ge 29, 3) := by decide +kernel
theorem dX11_remember_57 : decode cX11_remember 57 = .ok (.aload_n 0, 1) := by decide +kernel
theorem dX11_remember_58 : decode cX11_remember 58 = .ok (.getfield 35, 3) := by decide +kernel
theorem dX11_remember_61 : decode cX11_remember 61 = .ok (.bipush 38, 2) := by decide +kernel
theorem dX11_remember_63 : decode cX11_remember 63 = .ok (.aload_n 0, 1) := by decide +kernel
theorem dX11_remember_64 : decode cX11_remember 64 = .ok (.getfield 155, 3) := by decide +kernel
theorem dX11_remember_67 : decode cX11_remember 67 = .ok (.imul, 1) := by decide +kernel
theorem dX11_remember_68 : decode cX11_remember 68 = .ok (.iload_n 1, 1) := by decide +kernel
theorem dX11_remember_69 : decode cX11_remember 69 = .ok (.iadd, 1) := by decide +kernel
theorem dX11_remember_70 : decode cX11_remember 70 = .ok (.aload_n 0, 1) := by decide +kernel
theorem dX11_remember_71 : decode cX11_remember 71 = .ok (.getfield 13, 3) := by decide +kernel
theorem dX11_remember_74 : decode cX11_remember 74 = .ok (.iload_n 1, 1) := by decide +kernel
theorem dX11_remember_75 : decode cX11_remember 75 = .ok (.iaload, 1) := by decide +kernel
theorem dX11_remember_76 : decode cX11_remember 76 = .ok (.iastore, 1) := by decide +kernel
theorem dX11_remember_77 : decode cX11_remember 77 = .ok (.iinc 1 1, 3) := by decide +kernel
theorem dX11_remember_80 : decode cX11_remember 80 = .ok (.goto (-29), 3) := by decide +kernel
theorem dX11_remember_83 : decode cX11_remember 83 = .ok (.aload_n 0, 1) := by decide +kernel
theorem dX11_remember_84 : decode cX11_remember 84 = .ok (.dup, 1) := by decide +kernel
theorem dX11_remember_85 : decode cX11_remember 85 = .ok (.getfield 155, 3) := by decide +kernel
theorem dX11_remember_88 : decode cX11_remember 88 = .ok (.iconst 1, 1) := by decide +kernel
theorem dX11_remember_89 : decode cX11_remember 89 = .ok (.iadd, 1) := by decide +kernel
theorem dX11_remember_90 : decode cX11_remember 90 = .ok (.putfield 155, 3) := by decide +kernel
theorem dX11_remember_93 : decode cX11_remember 93 = .ok (.return_, 1) := by decide +kernel
theorem dX11_image_0 : decode cX11_image 0 = .ok (.aload_n 0, 1) := by decide +kernel
theorem dX11_image_1 : decode cX11_image 1 = .ok (.iconst 0, 1) := by decide +kernel
theorem dX11_image_2 : decode cX11_image 2 = .ok (.putfield 83, 3) := by decide +kernel
theorem dX11_image_5 : decode cX11_image 5 = .ok (.aload_n 0, 1) := by decide +kernel
theorem dX11_image_6 : decode cX11_image 6 = .ok (.getfield 13, 3) := by decide +kernel
theorem dX11_image_9 : decode cX11_image 9 = .ok (.bipush 36, 2) := by decide +kernel
theorem dX11_image_11 : decode cX11_image 11 = .ok (.iaload, 1) := by decide +kernel
theorem dX11_image_12 : decode cX11_image 12 = .ok (.ifCond .ne 5, 3) := by decide +kernel
theorem dX11_image_15 : decode cX11_image 15 = .ok (.iconst (-1), 1) := by decide +kernel
theorem dX11_image_16 : decode cX11_image 16 = .ok (.ireturn, 1) := by decide +kernel
theorem dX11_image_17 : decode cX11_image 17 = .ok (.aload_n 0, 1) := by decide +kernel
theorem dX11_image_18 : decode cX11_image 18 = .ok (.getfield 13, 3) := by decide +kernel
theorem dX11_image_21 : decode cX11_image 21 = .ok (.aload_n 0, 1) := by decide +kernel
theorem dX11_image_22 : decode cX11_image 22 = .ok (.getfield 80, 3) := by decide +kernel
theorem dX11_image_25 : decode cX11_image 25 = .ok (.invokestatic 170, 3) := by decide +kernel
theorem dX11_image_28 : decode cX11_image 28 = .ok (.aload_n 0, 1) := by decide +kernel
theorem dX11_image_29 : decode cX11_image 29 = .ok (.aload_n 0, 1) := by decide +kernel
theorem dX11_image_30 : decode cX11_image 30 = .ok (.getfield 189, 3) := by decide +kernel
theorem dX11_image_33 : decode cX11_image 33 = .ok (.putfield 349, 3) := by decide +kernel
theorem dX11_image_36 : decode cX11_image 36 = .ok (.aload_n 0, 1) := by decide +kernel
theorem dX11_image_37 : decode cX11_image 37 = .ok (.iconst 1, 1) := by decide +kernel
theorem dX11_image_38 : decode cX11_image 38 = .ok (.putfield 352, 3) := by decide +kernel
theorem dX11_image_41 : decode cX11_image 41 = .ok (.aload_n 0, 1) := by decide +kernel
theorem dX11_image_42 : decode cX11_image 42 = .ok (.getfield 189, 3) := by decide +kernel
theorem dX11_image_45 : decode cX11_image 45 = .ok (.ireturn, 1) := by decide +kernel
theorem dX11_back_0 : decode cX11_back 0 = .ok (.aload_n 0, 1) := by decide +kernel
theorem dX11_back_1 : decode cX11_back 1 = .ok (.iconst 0, 1) := by decide +kernel
theorem dX11_back_2 : decode cX11_back 2 = .ok (.putfield 83, 3) := by decide +kernel
theorem dX11_back_5 : decode cX11_back 5 = .ok (.aload_n 0, 1) := by decide +kernel
theorem dX11_back_6 : decode cX11_back 6 = .ok (.getfield 352, 3) := by decide +kernel
theorem dX11_back_9 : decode cX11_back 9 = .ok (.ifCond .ne 5, 3) := by decide +kernel
theorem dX11_back_12 : decode cX11_back 12 = .ok (.iconst (-1), 1) := by decide +kernel
theorem dX11_back_13 : decode cX11_back 13 = .ok (.ireturn, 1) := by decide +kernel
theorem dX11_back_14 : decode cX11_back 14 = .ok (.aload_n 0, 1) := by decide +kernel
theorem dX11_back_15 : decode cX11_back 15 = .ok (.getfield 80, 3) := by decide +kernel
theorem dX11_back_18 : decode cX11_back 18 = .ok (.aload_n 0, 1) := by decide +kernel
theorem dX11_back_19 : decode cX11_back 19 = .ok (.getfield 13, 3) := by decide +kernel
theorem dX11_back_22 : decode cX11_back 22 = .ok (.invokestatic 170, 3) := by decide +kernel
theorem dX11_back_25 : decode cX11_back 25 = .ok (.aload_n 0, 1) := by decide +kernel
theorem dX11_back_26 : decode cX11_back 26 = .ok (.aload_n 0, 1) := by decide +kernel
theorem dX11_back_27 : decode cX11_back 27 = .ok (.getfield 349, 3) := by decide +kernel
theorem dX11_back_30 : decode cX11_back 30 = .ok (.putfield 189, 3) := by decide +kernel
theorem dX11_back_33 : decode cX11_back 33 = .ok (.aload_n 0, 1) := by decide +kernel
theorem dX11_back_34 : decode cX11_back 34 = .ok (.iconst 0, 1) := by decide +kernel
theorem dX11_back_35 : decode cX11_back 35 = .ok (.putfield 155, 3) := by decide +kernel
theorem dX11_back_38 : decode cX11_back 38 = .ok (.aload_n 0, 1) := by decide +kernel
theorem dX11_back_39 : decode cX11_back 39 = .ok (.getfield 189, 3) := by decide +kernel
theorem dX11_back_42 : decode cX11_back 42 = .ok (.ireturn, 1) := by decide +kernel
-- keep
def opKeep (α : aS) : Int32 × aS := if (tT α).1 = 0 ∨ (tK α).1 = 4 then (-1, α) else (nI (tK α).1, α.1, α.2.1, ((tK α).1 + 1, fun k => if k = (tK α).1 then tT α else (tK α).2 k), α.2.2.2)
theorem mo_keep {σ : sg} {x : aW} {α : aS} (h : MInv σ α) (ok : aOK α) : Mt mX11_keep 0 0 0 [.ref i_M] (wd σ x) (MPost σ x (opKeep α).1 (opKeep α).2) := by
  refine Mt.of MI_X11_keep (Nat.le_of_ble_eq_true rfl) (fun X hC hR hT => ?_)
  have hT1 : σ.2.2 i_m_now 36 = nI (tT α).1 := h.2.1.1
  have hK1 : σ.1 i_M 12 = nI (tK α).1 := h.2.2.1.1
  have hK4 : (tK α).1 ≤ 4 := ok.2.2.2.1.1
  have key : ¬ ((tT α).1 = 0 ∨ (tK α).1 = 4) → ∀ n, n ≤ 38 → ∀ g : Nat → Int32, (∀ q, g q = if 38 * (tK α).1 ≤ q ∧ q < 38 * (tK α).1 + n then σ.2.2 i_m_now (q - 38 * (tK α).1) else σ.2.2 i_m_kept q) → Rw mX11_keep X 27 [some (.ref i_M), some (.int (nI n))] [] (wd (sA (sG σ i_M 0 0) i_m_kept g) x) 0 0 := by
    intro hne
    refine up_loop 38 ?_ ?_
    · intro g hg
      refine R_iload_n (i := 1) hC dX11_keep_27 rfl rfl (R_bipush (v := 38) hC dX11_keep_28 (by decide) ?_)
      refine R_icmp_ge hC 59 dX11_keep_30 (by decide) (fun _ => ?_) (fun h => absurd (by decide) h)
      refine R_aload_n (i := 0) hC dX11_keep_59 rfl rfl (R_dup hC dX11_keep_60 rfl (R_gI hC dX11_keep_61 fl_X11_189 L_M rfl (R_iconst (v := 1) hC dX11_keep_64 (by decide) (R_iadd hC dX11_keep_65 (R_pI hC dX11_keep_66 fl_X11_189 L_M rfl (R_aload_n (i := 0) hC dX11_keep_69 rfl rfl (R_gI hC dX11_keep_70 fl_X11_189 L_M rfl ?_)))))))
      refine R_iconst (v := 1) hC dX11_keep_73 (by decide) (R_isub hC dX11_keep_74 ?_)
      exact R_iret hC hT dX11_keep_75 rfl (by
      have e2 : opKeep α = (nI (tK α).1, α.1, α.2.1, ((tK α).1 + 1, fun k => if k = (tK α).1 then tT α else (tK α).2 k), α.2.2.2) := if_neg hne
      have ev : (sG (sA (sG σ i_M 0 0) i_m_kept g) i_M 12 ((sA (sG σ i_M 0 0) i_m_kept g).1 i_M 12 + 1)).1 i_M 12 - 1 = nI (tK α).1 := by
        rw [sG_eq]
        show (sG σ i_M 0 0).1 i_M 12 + 1 - 1 = _
        rw [sG_nk (by decide), hK1, Int32.add_sub_cancel]
      rw [ev, e2]
      refine MPost.i ?_ (((CEq.rf σ).g (Nat.le_refl _)).a (by decide) |>.g (Nat.le_refl _))
      obtain ⟨q1, q3, ⟨q4, q4b⟩, q5, q6, q7, q8⟩ := h
      refine ⟨?_, ?_, ⟨?_, fun k hk => ?_⟩, ?_, ?_, ?_, ?_⟩
      · rw [sG_nk (by decide)]; exact q1
      · exact q3
      · rw [sG_eq]; show (sG σ i_M 0 0).1 i_M 12 + 1 = _; rw [sG_nk (by decide), hK1]; exact (nI_succ _).symm
      · have hk : k < (tK α).1 + 1 := hk
        by_cases e : k = (tK α).1
        · subst e
          show TR (fun q => (sA (sG σ i_M 0 0) i_m_kept g).2.2 i_m_kept (38 * (tK α).1 + q)) (if (tK α).1 = (tK α).1 then tT α else _)
          rw [if_pos rfl, sA_eq]
          exact q3.congr ok.2.2.1 (fun z hz => by rw [hg, if_pos (by omega), Nat.add_sub_cancel_left])
        · show TR (fun q => (sA (sG σ i_M 0 0) i_m_kept g).2.2 i_m_kept (38 * k + q)) (if k = (tK α).1 then tT α else (tK α).2 k)
          rw [if_neg e, sA_eq]
          exact (q4b k (by omega)).congr (ok.2.2.2.1.2 k (by omega)).1 (fun z hz => by rw [hg, if_neg (by omega)])
      · rw [sG_nk (by decide)]; exact q5
      · rw [sG_nk (by decide)]; exact q6
      · exact q7
      · rw [sG_nk (by decide), sG_nk (by decide)]; exact q8)
    · intro n hn ih g hg
      refine R_iload_n (i := 1) hC dX11_keep_27 rfl rfl (R_bipush (v := 38) hC dX11_keep_28 (by decide) ?_)
      refine R_icmp_ge hC 59 dX11_keep_30 (by decide) (fun h => absurd h (nI_ge (b := 38) hn (by decide))) (fun _ => ?_)
      refine R_aload_n (i := 0) hC dX11_keep_33 rfl rfl (R_gR hC dX11_keep_34 fl_X11_23 L_M rfl (R_bipush (v := 38) hC dX11_keep_37 (by decide) (R_aload_n (i := 0) hC dX11_keep_39 rfl rfl (R_gI hC dX11_keep_40 fl_X11_189 L_M rfl ?_))))
      refine R_top (y := nI (tK α).1) (by show (sG σ i_M 0 0).1 i_M 12 = _; rw [sG_nk (by decide), hK1]) ?_
      refine R_imul hC dX11_keep_43 (R_iload_n (i := 1) hC dX11_keep_44 rfl rfl (R_iadd hC dX11_keep_45 (R_aload_n (i := 0) hC dX11_keep_46 rfl rfl (R_gR hC dX11_keep_47 fl_X11_13 L_M rfl (R_iload_n (i := 1) hC dX11_keep_50 rfl rfl (R_aI hC dX11_keep_51 L_m_now _ rfl (by omega) (by decide) ?_))))))
      refine R_top (y := σ.2.2 i_m_now n) (by rw [sA_ne (by decide)]; rfl) ?_
      refine R_sI hC dX11_keep_52 L_m_kept (38 * (tK α).1 + n) (n38 _ n) (by omega) (by decide) ?_
      refine R_wd (by rw [sA_eq, sA_sA]) ?_
      refine R_iinc hC dX11_keep_53 rfl (inc1 _) (by decide) rfl (R_goto hC 27 dX11_keep_56 (by decide) ?_)
      exact ih _ (fun q => by
      unfold upd
      by_cases e : q = 38 * (tK α).1 + n
      · rw [if_pos e, if_pos (by omega), e, Nat.add_sub_cancel_left]
      · rw [if_neg e, hg]
        by_cases e2 : 38 * (tK α).1 ≤ q ∧ q < 38 * (tK α).1 + n
        · rw [if_pos e2, if_pos (by omega)]
        · rw [if_neg e2, if_neg (by omega)])
  refine R_aload_n (i := 0) hC dX11_keep_0 rfl rfl (R_iconst (v := 0) hC dX11_keep_1 (by decide) (R_pI hC dX11_keep_2 fl_X11_83 L_M rfl (R_aload_n (i := 0) hC dX11_keep_5 rfl rfl (R_gR hC dX11_keep_6 fl_X11_13 L_M rfl (R_bipush (v := 36) hC dX11_keep_9 (by decide) (R_aI hC dX11_keep_11 L_m_now 36 rfl (by decide) (by decide) ?_))))))
  refine R_top (y := nI (tT α).1) hT1 ?_
  refine R_if_eq hC 23 dX11_keep_12 (by decide) (fun h12 => ?_) (fun h12 => ?_)
  · refine R_iconst (v := (-1)) hC dX11_keep_23 (by decide) ?_
    exact R_iret hC hT dX11_keep_24 rfl (by
    have e2 : opKeep α = (-1, α) := if_pos (by first | exact Or.inl ((T0_iff ok).mp h12) | exact Or.inr ((nI_eq (b := 4) (by omega) (by decide)).mp h20))
    rw [e2]; exact MPost.i (M_thr h 0) ((CEq.rf σ).g (Nat.le_refl _)))
  · refine R_aload_n (i := 0) hC dX11_keep_15 rfl rfl (R_gI hC dX11_keep_16 fl_X11_189 L_M rfl ?_)
    refine R_top (y := nI (tK α).1) (by rw [sG_nk (by decide)]; exact hK1) ?_
    refine R_iconst (v := 4) hC dX11_keep_19 (by decide) ?_
    refine R_icmp_ne hC 25 dX11_keep_20 (by decide) (fun h20 => ?_) (fun h20 => ?_)
    · refine R_iconst (v := 0) hC dX11_keep_25 (by decide) (R_istore_n (i := 1) hC dX11_keep_26 rfl (by decide) rfl ?_)
      (refine R_wd (τ := sA (sG σ i_M 0 0) i_m_kept (σ.2.2 i_m_kept)) (by exact (sA_self (sG σ i_M 0 0) i_m_kept).symm) ?_; exact key (fun q => q.elim (fun q => h12 ((T0_iff ok).mpr q)) (fun q => h20 (by rw [q]; rfl))) 0 (by decide) _ (fun q => by rw [if_neg (by omega)]))
    · refine R_iconst (v := (-1)) hC dX11_keep_23 (by decide) ?_
      exact R_iret hC hT dX11_keep_24 rfl (by
      have e2 : opKeep α = (-1, α) := if_pos (by first | exact Or.inl ((T0_iff ok).mp h12) | exact Or.inr ((nI_eq (b := 4) (by omega) (by decide)).mp h20))
      rw [e2]; exact MPost.i (M_thr h 0) ((CEq.rf σ).g (Nat.le_refl _)))
-- undo
def opUndo (α : aS) : Int32 × aS := if (tP α).1 = 0 then (-1, α) else (nI ((tP α).1 - 1), α.1, (tP α).2 ((tP α).1 - 1), α.2.2.1, α.2.2.2.1, ((tP α).1 - 1, (tP α).2), α.2.2.2.2.2)
theorem nI_dec {n : Nat} (h : n ≠ 0) : nI n - 1 = nI (n - 1) := by
  have q := nI_pred (n - 1)
  rwa [show n - 1 + 1 = n by omega] at q
theorem mo_undo {σ : sg} {x : aW} {α : aS} (h : MInv σ α) (ok : aOK α) : Mt mX11_undo 0 0 0 [.ref i_M] (wd σ x) (MPost σ x (opUndo α).1 (opUndo α).2) := by
  refine Mt.of MI_X11_undo (Nat.le_of_ble_eq_true rfl) (fun X hC hR hT => ?_)
  have hP1 : σ.1 i_M 15 = nI (tP α).1 := h.2.2.2.2.1.1
  have hP4 : (tP α).1 ≤ 40 := ok.2.2.2.2.2.1.1
  have key : ∀ p, (tP α).1 = p + 1 → ∀ n, n ≤ 38 → Rw mX11_undo X 26 [some (.ref i_M), some (.int (nI n))] [] (wd (sA (sG (sG σ i_M 0 0) i_M 15 (nI p)) i_m_now (cpy (fun q => σ.2.2 i_m_undoRow (38 * p + q)) (σ.2.2 i_m_now) n)) x) 0 0 := by
    intro p hp
    refine up_loop 38 ?_ ?_
    · refine R_iload_n (i := 1) hC dX11_undo_26 rfl rfl (R_bipush (v := 38) hC dX11_undo_27 (by decide) ?_)
      refine R_icmp_ge hC 58 dX11_undo_29 (by decide) (fun _ => ?_) (fun h => absurd (by decide) h)
      refine R_aload_n (i := 0) hC dX11_undo_58 rfl rfl (R_gI hC dX11_undo_59 fl_X11_155 L_M rfl ?_)
      exact R_iret hC hT dX11_undo_62 rfl (by
      have e2 : opUndo α = (nI p, α.1, (tP α).2 p, α.2.2.1, α.2.2.2.1, (p, (tP α).2), α.2.2.2.2.2) := by
        unfold opUndo; rw [if_neg (by omega), show (tP α).1 - 1 = p by omega]
      have ev : (sA (sG (sG σ i_M 0 0) i_M 15 (nI p)) i_m_now (cpy (fun q => σ.2.2 i_m_undoRow (38 * p + q)) (σ.2.2 i_m_now) 38)).1 i_M 15 = nI p := sG_eq (sG σ i_M 0 0) i_M 15 (nI p)
      rw [ev, e2]
      refine MPost.i ?_ ((((CEq.rf σ).g (Nat.le_refl _)).g (Nat.le_refl _)).a (by decide))
      obtain ⟨q1, q3, q4, q5, ⟨q6, q6b⟩, q7, q8⟩ := h
      refine ⟨⟨?_, q1.2⟩, ?_, ⟨?_, q4.2⟩, ⟨?_, q5.2⟩, ⟨sG_eq (sG σ i_M 0 0) i_M 15 (nI p), fun k hk => q6b k (by have hk : k < p := hk; omega)⟩, q7, ?_⟩
      · show (sG (sG σ i_M 0 0) i_M 15 (nI p)).1 i_M 2 = _; rw [sG_nk (by decide), sG_nk (by decide)]; exact q1.1
      · rw [sA_eq]; exact (q6b p (by omega)).congr (ok.2.2.2.2.2.1.2 p (by omega)) (fun z hz => by unfold cpy; rw [if_pos hz])
      · show (sG (sG σ i_M 0 0) i_M 15 (nI p)).1 i_M 12 = _; rw [sG_nk (by decide), sG_nk (by decide)]; exact q4.1
      · show (sG (sG σ i_M 0 0) i_M 15 (nI p)).1 i_M 13 = _; rw [sG_nk (by decide), sG_nk (by decide)]; exact q5.1
      · show (sG (sG σ i_M 0 0) i_M 15 (nI p)).1 i_M 34 = _ ∧ (_ → _ ∧ (sG (sG σ i_M 0 0) i_M 15 (nI p)).1 i_M 33 = _); rw [sG_nk (by decide), sG_nk (by decide), sG_nk (by decide), sG_nk (by decide)]; exact q8)
    · intro n hn ih
      refine R_iload_n (i := 1) hC dX11_undo_26 rfl rfl (R_bipush (v := 38) hC dX11_undo_27 (by decide) ?_)
      refine R_icmp_ge hC 58 dX11_undo_29 (by decide) (fun h => absurd h (nI_ge (b := 38) hn (by decide))) (fun _ => ?_)
      refine R_aload_n (i := 0) hC dX11_undo_32 rfl rfl (R_gR hC dX11_undo_33 fl_X11_13 L_M rfl (R_iload_n (i := 1) hC dX11_undo_36 rfl rfl (R_aload_n (i := 0) hC dX11_undo_37 rfl rfl (R_gR hC dX11_undo_38 fl_X11_35 L_M rfl (R_bipush (v := 38) hC dX11_undo_41 (by decide) (R_aload_n (i := 0) hC dX11_undo_43 rfl rfl (R_gI hC dX11_undo_44 fl_X11_155 L_M rfl ?_)))))))
      refine R_top (y := nI p) (sG_eq (sG σ i_M 0 0) i_M 15 (nI p)) ?_
      refine R_imul hC dX11_undo_47 (R_iload_n (i := 1) hC dX11_undo_48 rfl rfl (R_iadd hC dX11_undo_49 (R_aI hC dX11_undo_50 L_m_undoRow (38 * p + n) (n38 p n) (by omega) (by decide) ?_)))
      refine R_top (y := σ.2.2 i_m_undoRow (38 * p + n)) (by rw [sA_ne (by decide)]; rfl) ?_
      refine R_sI hC dX11_undo_51 L_m_now _ rfl (by omega) (by decide) ?_
      refine R_wd (τ := sA (sG (sG σ i_M 0 0) i_M 15 (nI p)) i_m_now (cpy (fun q => σ.2.2 i_m_undoRow (38 * p + q)) (σ.2.2 i_m_now) (n + 1))) (by rw [sA_eq, sA_sA]; exact congrArg _ (cpy_s (fun q => σ.2.2 i_m_undoRow (38 * p + q)) _ n)) ?_
      refine R_iinc hC dX11_undo_52 rfl (inc1 _) (by decide) rfl (R_goto hC 26 dX11_undo_55 (by decide) ?_)
      exact ih
  refine R_aload_n (i := 0) hC dX11_undo_0 rfl rfl (R_iconst (v := 0) hC dX11_undo_1 (by decide) (R_pI hC dX11_undo_2 fl_X11_83 L_M rfl (R_aload_n (i := 0) hC dX11_undo_5 rfl rfl (R_gI hC dX11_undo_6 fl_X11_155 L_M rfl ?_))))
  refine R_top (y := nI (tP α).1) (by rw [sG_nk (by decide)]; exact hP1) ?_
  refine R_if_ne hC 14 dX11_undo_9 (by decide) (fun h9 => ?_) (fun h9 => ?_)
  · refine R_aload_n (i := 0) hC dX11_undo_14 rfl rfl (R_dup hC dX11_undo_15 rfl (R_gI hC dX11_undo_16 fl_X11_155 L_M rfl (R_iconst (v := 1) hC dX11_undo_19 (by decide) (R_isub hC dX11_undo_20 ?_))))
    have h0 : (tP α).1 ≠ 0 := fun q => h9 (by rw [q]; rfl)
    refine R_top (y := nI ((tP α).1 - 1)) (by rw [sG_nk (by decide), hP1]; exact nI_dec h0) ?_
    refine R_pI hC dX11_undo_21 fl_X11_155 L_M rfl (R_iconst (v := 0) hC dX11_undo_24 (by decide) (R_istore_n (i := 1) hC dX11_undo_25 rfl (by decide) rfl ?_))
    (refine R_wd (τ := sA (sG (sG σ i_M 0 0) i_M 15 (nI ((tP α).1 - 1))) i_m_now (cpy (fun q => σ.2.2 i_m_undoRow (38 * ((tP α).1 - 1) + q)) (σ.2.2 i_m_now) 0)) (by rw [cpy_0]; exact (sA_self (sG (sG σ i_M 0 0) i_M 15 (nI ((tP α).1 - 1))) i_m_now).symm) ?_; exact key _ (by omega) 0 (by decide))
  · refine R_iconst (v := (-1)) hC dX11_undo_12 (by decide) ?_
    exact R_iret hC hT dX11_undo_13 rfl (by
    have h0 : (tP α).1 = 0 := (nI_eq (b := 0) (by omega) (by decide)).mp h9
    have e2 : opUndo α = (-1, α) := if_pos h0
    rw [e2]; exact MPost.i (M_thr h 0) ((CEq.rf σ).g (Nat.le_refl _)))
-- image, back
def opImage (α : aS) : Int32 × aS := if (tT α).1 = 0 then (-1, α) else (nI (tK α).1, α.1, α.2.1, α.2.2.1, α.2.2.2.1, α.2.2.2.2.1, α.2.2.2.2.2.1, (true, tT α, (tK α).1))
theorem mo_image {σ : sg} {x : aW} {α : aS} (h : MInv σ α) (ok : aOK α) : Mt mX11_image 1 0 0 [.ref i_M] (wd σ x) (MPost σ x (opImage α).1 (opImage α).2) := by
  refine Mt.of MI_X11_image (Nat.le_of_ble_eq_true rfl) (fun X hC hR hT => ?_)
  have hT1 : σ.2.2 i_m_now 36 = nI (tT α).1 := h.2.1.1
  refine R_aload_n (i := 0) hC dX11_image_0 rfl rfl (R_iconst (v := 0) hC dX11_image_1 (by decide) (R_pI hC dX11_image_2 fl_X11_83 L_M rfl (R_aload_n (i := 0) hC dX11_image_5 rfl rfl (R_gR hC dX11_image_6 fl_X11_13 L_M rfl (R_bipush (v := 36) hC dX11_image_9 (by decide) (R_aI hC dX11_image_11 L_m_now 36 rfl (by decide) (by decide) ?_))))))
  refine R_top (y := nI (tT α).1) hT1 ?_
  refine R_if_ne hC 17 dX11_image_12 (by decide) (fun h12 => ?_) (fun h12 => ?_)
  · refine R_aload_n (i := 0) hC dX11_image_17 rfl rfl (R_gR hC dX11_image_18 fl_X11_13 L_M rfl (R_aload_n (i := 0) hC dX11_image_21 rfl rfl (R_gR hC dX11_image_22 fl_X11_80 L_M rfl ?_)))
    refine R_S2v hC hR dX11_image_25 MS_X11_copy ml_X11_170 (s_copy _ _ _ _ L_m_now L_m_imageRow (by decide)) (by decide) ⟨by decide, by decide⟩ (Nat.le_of_ble_eq_true rfl) ?_
    refine R_aload_n (i := 0) hC dX11_image_28 rfl rfl (R_aload_n (i := 0) hC dX11_image_29 rfl rfl (R_gI hC dX11_image_30 fl_X11_189 L_M rfl (R_pI hC dX11_image_33 fl_X11_349 L_M rfl (R_aload_n (i := 0) hC dX11_image_36 rfl rfl (R_iconst (v := 1) hC dX11_image_37 (by decide) (R_pZ hC dX11_image_38 fl_X11_352 L_M rfl (by first | exact Or.inl rfl | exact Or.inr rfl) (R_aload_n (i := 0) hC dX11_image_41 rfl rfl ?_)))))))
    refine R_gI hC dX11_image_42 fl_X11_189 L_M rfl ?_
    exact R_iret hC hT dX11_image_45 rfl (by
    have e2 : opImage α = (nI (tK α).1, α.1, α.2.1, α.2.2.1, α.2.2.2.1, α.2.2.2.2.1, α.2.2.2.2.2.1, (true, tT α, (tK α).1)) := if_neg (fun q => h12 ((T0_iff ok).mpr q))
    obtain ⟨q1, q3, q4, q5, q6, q7, q8⟩ := h
    have ev : (sG (sG (sA (sG σ i_M 0 0) i_m_imageRow (cpy ((sG σ i_M 0 0).2.2 i_m_now) ((sG σ i_M 0 0).2.2 i_m_imageRow) 38)) i_M 33 ((sA (sG σ i_M 0 0) i_m_imageRow (cpy ((sG σ i_M 0 0).2.2 i_m_now) ((sG σ i_M 0 0).2.2 i_m_imageRow) 38)).1 i_M 12)) i_M 34 1).1 i_M 12 = nI (tK α).1 := by
      rw [sG_nk (by decide), sG_nk (by decide)]; show (sG σ i_M 0 0).1 i_M 12 = _; rw [sG_nk (by decide)]; exact q4.1
    rw [ev, e2]
    refine MPost.i ?_ (((((CEq.rf σ).g (Nat.le_refl _)).a (by decide)).g (Nat.le_refl _)).g (Nat.le_refl _))
    have e3 : (sA (sG σ i_M 0 0) i_m_imageRow (cpy ((sG σ i_M 0 0).2.2 i_m_now) ((sG σ i_M 0 0).2.2 i_m_imageRow) 38)).1 i_M 12 = nI (tK α).1 := by
      show (sG σ i_M 0 0).1 i_M 12 = _; rw [sG_nk (by decide)]; exact q4.1
    refine ⟨⟨?_, q1.2⟩, q3, ⟨?_, q4.2⟩, ⟨?_, q5.2⟩, ⟨?_, q6.2⟩, q7, sG_eq _ _ _ _, fun _ => ⟨?_, ?_⟩⟩
    · rw [sG_nk (by decide), sG_nk (by decide)]; show (sG σ i_M 0 0).1 i_M 2 = _; rw [sG_nk (by decide)]; exact q1.1
    · rw [sG_nk (by decide), sG_nk (by decide)]; exact e3
    · rw [sG_nk (by decide), sG_nk (by decide)]; show (sG σ i_M 0 0).1 i_M 13 = _; rw [sG_nk (by decide)]; exact q5.1
    · rw [sG_nk (by decide), sG_nk (by decide)]; show (sG σ i_M 0 0).1 i_M 15 = _; rw [sG_nk (by decide)]; exact q6.1
    · show TR ((sA (sG σ i_M 0 0) i_m_imageRow _).2.2 i_m_imageRow) (tT α)
      rw [sA_eq]; exact q3.congr ok.2.2.1 (fun z hz => by unfold cpy; rw [if_pos hz]; rfl)
    · rw [sG_nk (by decide), sG_eq]; exact e3)
  · refine R_iconst (v := (-1)) hC dX11_image_15 (by decide) ?_
    exact R_iret hC hT dX11_image_16 rfl (by
    have e2 : opImage α = (-1, α) := if_pos ((T0_iff ok).mp h12)
    rw [e2]; exact MPost.i (M_thr h 0) ((CEq.rf σ).g (Nat.le_refl _)))
def opBack (α : aS) : Int32 × aS := if (tI α).1 = false then (-1, α) else (nI (tI α).2.2, α.1, (tI α).2.1, ((tI α).2.2, (tK α).2), α.2.2.2.1, (0, (tP α).2), α.2.2.2.2.2)
theorem mo_back {σ : sg} {x : aW} {α : aS} (h : MInv σ α) (ok : aOK α) : Mt mX11_back 1 0 0 [.ref i_M] (wd σ x) (MPost σ x (opBack α).1 (opBack α).2) := by
  refine Mt.of MI_X11_back (Nat.le_of_ble_eq_true rfl) (fun X hC hR hT => ?_)
  have hI : σ.1 i_M 34 = (if (tI α).1 then 1 else 0) := h.2.2.2.2.2.2.1
  by_cases hi : (tI α).1 = true
  · rw [hi, if_pos rfl] at hI
    refine R_aload_n (i := 0) hC dX11_back_0 rfl rfl (R_iconst (v := 0) hC dX11_back_1 (by decide) (R_pI hC dX11_back_2 fl_X11_83 L_M rfl (R_aload_n (i := 0) hC dX11_back_5 rfl rfl (R_gI hC dX11_back_6 fl_X11_352 L_M rfl ?_))))
    refine R_top (y := 1) (by rw [sG_nk (by decide)]; exact hI) ?_
    refine R_if_ne hC 14 dX11_back_9 (by decide) (fun _ => ?_) (fun h => absurd h (by decide))
    refine R_aload_n (i := 0) hC dX11_back_14 rfl rfl (R_gR hC dX11_back_15 fl_X11_80 L_M rfl (R_aload_n (i := 0) hC dX11_back_18 rfl rfl (R_gR hC dX11_back_19 fl_X11_13 L_M rfl ?_)))
    refine R_S2v hC hR dX11_back_22 MS_X11_copy ml_X11_170 (s_copy _ _ _ _ L_m_imageRow L_m_now (by decide)) (by decide) ⟨by decide, by decide⟩ (Nat.le_of_ble_eq_true rfl) ?_
    refine R_aload_n (i := 0) hC dX11_back_25 rfl rfl (R_aload_n (i := 0) hC dX11_back_26 rfl rfl (R_gI hC dX11_back_27 fl_X11_349 L_M rfl (R_pI hC dX11_back_30 fl_X11_189 L_M rfl (R_aload_n (i := 0) hC dX11_back_33 rfl rfl (R_iconst (v := 0) hC dX11_back_34 (by decide) (R_pI hC dX11_back_35 fl_X11_155 L_M rfl (R_aload_n (i := 0) hC dX11_back_38 rfl rfl ?_)))))))
    refine R_gI hC dX11_back_39 fl_X11_189 L_M rfl ?_
    exact R_iret hC hT dX11_back_42 rfl (by
    have e2 : opBack α = (nI (tI α).2.2, α.1, (tI α).2.1, ((tI α).2.2, (tK α).2), α.2.2.2.1, (0, (tP α).2), α.2.2.2.2.2) := if_neg (by rw [hi]; decide)
    obtain ⟨q1, q3, q4, q5, q6, q7, q8⟩ := h
    obtain ⟨i1, i2⟩ := q8.2 hi
    have e3 : (sA (sG σ i_M 0 0) i_m_now (cpy ((sG σ i_M 0 0).2.2 i_m_imageRow) ((sG σ i_M 0 0).2.2 i_m_now) 38)).1 i_M 33 = nI (tI α).2.2 := by
      show (sG σ i_M 0 0).1 i_M 33 = _; rw [sG_nk (by decide)]; exact i2
    rw [sG_nk (by decide), sG_eq, e3, e2]
    refine MPost.i ?_ (((((CEq.rf σ).g (Nat.le_refl _)).a (by decide)).g (Nat.le_refl _)).g (Nat.le_refl _))
    have ik := (ok.2.2.2.2.2.2 hi).2.2
    refine ⟨⟨?_, q1.2⟩, ?_, ⟨?_, fun k hk => q4.2 k (by have hk : k < (tI α).2.2 := hk; omega)⟩, ⟨?_, q5.2⟩, ⟨sG_eq _ _ _ _, fun k hk => absurd hk (Nat.not_lt_zero _)⟩, q7, ?_⟩
    · rw [sG_nk (by decide), sG_nk (by decide)]; show (sG σ i_M 0 0).1 i_M 2 = _; rw [sG_nk (by decide)]; exact q1.1
    · show TR ((sA (sG σ i_M 0 0) i_m_now _).2.2 i_m_now) (tI α).2.1
      rw [sA_eq]; exact i1.congr (ok.2.2.2.2.2.2 hi).1 (fun z hz => by unfold cpy; rw [if_pos hz]; rfl)
    · rw [sG_nk (by decide), sG_eq]
    · rw [sG_nk (by decide), sG_nk (by decide)]; show (sG σ i_M 0 0).1 i_M 13 = _; rw [sG_nk (by decide)]; exact q5.1
    · rw [sG_nk (by decide), sG_nk (by decide), sG_nk (by decide), sG_nk (by decide)]; show (sG σ i_M 0 0).1 i_M 34 = _ ∧ (_ → _ ∧ (sG σ i_M 0 0).1 i_M 33 = _); rw [sG_nk (by decide), sG_nk (by decide)]; exact q8)
  · have hi : (tI α).1 = false := by simpa using hi
    rw [hi, if_neg (by decide)] at hI
    refine R_aload_n (i := 0) hC dX11_back_0 rfl rfl (R_iconst (v := 0) hC dX11_back_1 (by decide) (R_pI hC dX11_back_2 fl_X11_83 L_M rfl (R_aload_n (i := 0) hC dX11_back_5 rfl rfl (R_gI hC dX11_back_6 fl_X11_352 L_M rfl ?_))))
    refine R_top (y := 0) (by rw [sG_nk (by decide)]; exact hI) ?_
    refine R_if_ne hC 14 dX11_back_9 (by decide) (fun h => absurd rfl h) (fun _ => ?_)
    refine R_iconst (v := (-1)) hC dX11_back_12 (by decide) ?_
    exact R_iret hC hT dX11_back_13 rfl (by
    have e2 : opBack α = (-1, α) := if_pos hi
    rw [e2]; exact MPost.i (M_thr h 0) ((CEq.rf σ).g (Nat.le_refl _)))
-- remember
def pushP (P : Nat × (Nat → tb)) (T : tb) : Nat × (Nat → tb) := if P.1 = 40 then (40, fun k => if k = 39 then T else P.2 (k + 1)) else (P.1 + 1, fun k => if k = P.1 then T else P.2 k)
/-- remember: the table comes to those that can be had back -/
theorem s_remember {σ : sg} {x : aW} {α : aS} (h : MInv σ α) (ok : aOK α) : Mt mX11_remember 0 0 0 [.ref i_M] (wd σ x) (fun r w => r = none ∧ ∃ p g, w = wd (sA (sG σ i_M 15 p) i_m_undoRow g) x ∧ MInv (sA (sG σ i_M 15 p) i_m_undoRow g) (α.1, α.2.1, α.2.2.1, α.2.2.2.1, pushP (tP α) (tT α), α.2.2.2.2.2)) := by
  refine Mt.of MI_X11_remember (Nat.le_of_ble_eq_true rfl) (fun X hC hR hT => ?_)
  have hP1 : σ.1 i_M 15 = nI (tP α).1 := h.2.2.2.2.1.1
  have hP4 : (tP α).1 ≤ 40 := ok.2.2.2.2.2.1.1
  -- the second loop: from p tables in the row g0
  have put : ∀ (p : Nat) (g0 : Nat → Int32), p ≤ 39 → (∀ τ g, τ = sA (sG σ i_M 15 (nI (p + 1))) i_m_undoRow g → (∀ q, g q = if 38 * p ≤ q ∧ q < 38 * p + 38 then σ.2.2 i_m_now (q - 38 * p) else g0 q) → MInv τ (α.1, α.2.1, α.2.2.1, α.2.2.2.1, pushP (tP α) (tT α), α.2.2.2.2.2)) →
      ∀ n, n ≤ 38 → ∀ g : Nat → Int32, (∀ q, g q = if 38 * p ≤ q ∧ q < 38 * p + n then σ.2.2 i_m_now (q - 38 * p) else g0 q) → Rw mX11_remember X 51 [some (.ref i_M), some (.int (nI n))] [] (wd (sA (sG σ i_M 15 (nI p)) i_m_undoRow g) x) 0 0 := by
    intro p g0 hp fin
    refine up_loop 38 ?_ ?_
    · intro g hg
      refine R_iload_n (i := 1) hC dX11_remember_51 rfl rfl (R_bipush (v := 38) hC dX11_remember_52 (by decide) ?_)
      refine R_icmp_ge hC 83 dX11_remember_54 (by decide) (fun _ => ?_) (fun h => absurd (by decide) h)
      refine R_aload_n (i := 0) hC dX11_remember_83 rfl rfl (R_dup hC dX11_remember_84 rfl (R_gI hC dX11_remember_85 fl_X11_155 L_M rfl (R_iconst (v := 1) hC dX11_remember_88 (by decide) (R_iadd hC dX11_remember_89 ?_))))
      refine R_top (y := nI (p + 1)) (by rw [show (sA (sG σ i_M 15 (nI p)) i_m_undoRow g).1 i_M 15 = nI p from sG_eq σ i_M 15 (nI p)]; exact (nI_succ p).symm) ?_
      refine R_pI hC dX11_remember_90 fl_X11_155 L_M rfl ?_
      refine R_wd (τ := sA (sG σ i_M 15 (nI (p + 1))) i_m_undoRow g) (by
        refine Prod.ext (funext fun a => funext fun b => ?_) rfl
        show (if a = i_M then (if b = 15 then nI (p + 1) else (if a = i_M then (if b = 15 then nI p else σ.1 a b) else σ.1 a b)) else (if a = i_M then (if b = 15 then nI p else σ.1 a b) else σ.1 a b)) = (if a = i_M then (if b = 15 then nI (p + 1) else σ.1 a b) else σ.1 a b)
        split
        · split <;> rfl
        · rfl) ?_
      exact R_vret hC hT dX11_remember_93 rfl ⟨rfl, _, g, rfl, fin _ g rfl hg⟩
    · intro n hn ih g hg
      refine R_iload_n (i := 1) hC dX11_remember_51 rfl rfl (R_bipush (v := 38) hC dX11_remember_52 (by decide) ?_)
      refine R_icmp_ge hC 83 dX11_remember_54 (by decide) (fun h => absurd h (nI_ge (b := 38) hn (by decide))) (fun _ => ?_)
      refine R_aload_n (i := 0) hC dX11_remember_57 rfl rfl (R_gR hC dX11_remember_58 fl_X11_35 L_M rfl (R_bipush (v := 38) hC dX11_remember_61 (by decide) (R_aload_n (i := 0) hC dX11_remember_63 rfl rfl (R_gI hC dX11_remember_64 fl_X11_155 L_M rfl ?_))))
      refine R_top (y := nI p) (sG_eq σ i_M 15 (nI p)) ?_
      refine R_imul hC dX11_remember_67 (R_iload_n (i := 1) hC dX11_remember_68 rfl rfl (R_iadd hC dX11_remember_69 (R_aload_n (i := 0) hC dX11_remember_70 rfl rfl (R_gR hC dX11_remember_71 fl_X11_13 L_M rfl (R_iload_n (i := 1) hC dX11_remember_74 rfl rfl (R_aI hC dX11_remember_75 L_m_now _ rfl (by omega) (by decide) ?_))))))
      refine R_top (y := σ.2.2 i_m_now n) (by rw [sA_ne (by decide)]; rfl) ?_
      refine R_sI hC dX11_remember_76 L_m_undoRow (38 * p + n) (n38 p n) (by omega) (by decide) ?_
      refine R_wd (by rw [sA_eq, sA_sA]) ?_
      refine R_iinc hC dX11_remember_77 rfl (inc1 _) (by decide) rfl (R_goto hC 51 dX11_remember_80 (by decide) ?_)
      exact ih _ (fun q => by
      unfold upd
      by_cases e : q = 38 * p + n
      · rw [if_pos e, if_pos (by omega), e, Nat.add_sub_cancel_left]
      · rw [if_neg e, hg]
        by_cases e2 : 38 * p ≤ q ∧ q < 38 * p + n
        · rw [if_pos e2, if_pos (by omega)]
        · rw [if_neg e2, if_neg (by omega)])
  have inv : ∀ (p : Nat) (Pt : Nat → tb) (τ : sg) (g : Nat → Int32), τ = sA (sG σ i_M 15 (nI p)) i_m_undoRow g → pushP (tP α) (tT α) = (p, Pt) → (∀ k, k < p → TR (fun q => g (38 * k + q)) (Pt k)) → MInv τ (α.1, α.2.1, α.2.2.1, α.2.2.2.1, pushP (tP α) (tT α), α.2.2.2.2.2) := by
    rintro p Pt τ g rfl e hg
    rw [e]
    obtain ⟨q1, q3, q4, q5, q6, q7, q8⟩ := h
    have nk : ∀ b, b ≠ 15 → (sA (sG σ i_M 15 (nI p)) i_m_undoRow g).1 i_M b = σ.1 i_M b := fun b hb => sG_nk (σ := σ) (i := i_M) (a := i_M) (v := nI p) hb
    refine ⟨⟨?_, q1.2⟩, q3, ⟨?_, q4.2⟩, ⟨?_, q5.2⟩, ⟨sG_eq σ i_M 15 (nI p), fun k hk => ?_⟩, q7, ?_⟩
    · exact (nk 2 (by decide)).trans q1.1
    · exact (nk 12 (by decide)).trans q4.1
    · exact (nk 13 (by decide)).trans q5.1
    · rw [sA_eq]; exact hg k hk
    · exact ⟨(nk 34 (by decide)).trans q8.1, fun z => ⟨(q8.2 z).1, (nk 33 (by decide)).trans (q8.2 z).2⟩⟩
  by_cases h40 : (tP α).1 = 40
  · have shift : ∀ n, n ≤ 1482 → ∀ g : Nat → Int32, (∀ q, g q = if q < n then σ.2.2 i_m_undoRow (q + 38) else σ.2.2 i_m_undoRow q) → Rw mX11_remember X 11 [some (.ref i_M), some (.int (nI n))] [] (wd (sA σ i_m_undoRow g) x) 0 0 := by
      refine up_loop 1482 ?_ ?_
      · intro g hg
        refine R_iload_n (i := 1) hC dX11_remember_11 rfl rfl (R_sipush (v := 1482) hC dX11_remember_12 (by decide) ?_)
        refine R_icmp_ge hC 39 dX11_remember_15 (by decide) (fun _ => ?_) (fun h => absurd (by decide) h)
        refine R_aload_n (i := 0) hC dX11_remember_39 rfl rfl (R_dup hC dX11_remember_40 rfl (R_gI hC dX11_remember_41 fl_X11_155 L_M rfl (R_iconst (v := 1) hC dX11_remember_44 (by decide) (R_isub hC dX11_remember_45 ?_))))
        refine R_top (y := nI 39) (by rw [show (sA σ i_m_undoRow g).1 i_M 15 = nI 40 from by rw [← h40]; exact hP1]; decide) ?_
        refine R_pI hC dX11_remember_46 fl_X11_155 L_M rfl (R_iconst (v := 0) hC dX11_remember_49 (by decide) (R_istore_n (i := 1) hC dX11_remember_50 rfl (by decide) rfl ?_))
        exact put 39 g (by decide) (fun τ g2 e1 hg2 => inv 40 _ τ g2 e1 (if_pos h40) (fun k hk => by
        show TR _ (if k = 39 then tT α else (tP α).2 (k + 1))
        by_cases e : k = 39
        · subst e
          rw [if_pos rfl]
          exact h.2.1.congr ok.2.2.1 (fun z hz => by rw [hg2, if_pos (by omega), Nat.add_sub_cancel_left])
        · rw [if_neg e]
          exact (h.2.2.2.2.1.2 (k + 1) (by omega)).congr (ok.2.2.2.2.2.1.2 (k + 1) (by omega)) (fun z hz => by
            rw [hg2, if_neg (by omega), hg, if_pos (by omega), show 38 * k + z + 38 = 38 * (k + 1) + z by omega]))) 0 (by decide) g (fun q => by rw [if_neg (by omega)])
      · intro n hn ih g hg
        refine R_iload_n (i := 1) hC dX11_remember_11 rfl rfl (R_sipush (v := 1482) hC dX11_remember_12 (by decide) ?_)
        refine R_icmp_ge hC 39 dX11_remember_15 (by decide) (fun h => absurd h (nI_ge (b := 1482) hn (by decide))) (fun _ => ?_)
        refine R_aload_n (i := 0) hC dX11_remember_18 rfl rfl (R_gR hC dX11_remember_19 fl_X11_35 L_M rfl (R_iload_n (i := 1) hC dX11_remember_22 rfl rfl (R_aload_n (i := 0) hC dX11_remember_23 rfl rfl (R_gR hC dX11_remember_24 fl_X11_35 L_M rfl (R_iload_n (i := 1) hC dX11_remember_27 rfl rfl (R_bipush (v := 38) hC dX11_remember_28 (by decide) (R_iadd hC dX11_remember_30 ?_)))))))
        refine R_aI hC dX11_remember_31 L_m_undoRow (n + 38) (by rw [show (38 : Int32) = nI 38 from rfl, nI_add]) (by omega) (by decide) ?_
        refine R_top (y := σ.2.2 i_m_undoRow (n + 38)) (by rw [sA_eq, hg, if_neg (by omega)]) ?_
        refine R_sI hC dX11_remember_32 L_m_undoRow n rfl (by omega) (by decide) ?_
        refine R_wd (by rw [sA_eq, sA_sA]) ?_
        refine R_iinc hC dX11_remember_33 rfl (inc1 _) (by decide) rfl (R_goto hC 11 dX11_remember_36 (by decide) ?_)
        exact ih _ (fun q => by
        unfold upd
        by_cases e : q = n
        · rw [if_pos e, if_pos (by omega), e]
        · rw [if_neg e, hg]
          by_cases e2 : q < n
          · rw [if_pos e2, if_pos (by omega)]
          · rw [if_neg e2, if_neg (by omega)])
    refine R_aload_n (i := 0) hC dX11_remember_0 rfl rfl (R_gI hC dX11_remember_1 fl_X11_155 L_M rfl ?_)
    refine R_top (y := nI 40) (by rw [hP1, h40]) ?_
    refine R_bipush (v := 40) hC dX11_remember_4 (by decide) ?_
    skip
    refine R_icmp_ne hC 49 dX11_remember_6 (by decide) (fun h => absurd rfl h) (fun _ => ?_)
    refine R_iconst (v := 0) hC dX11_remember_9 (by decide) (R_istore_n (i := 1) hC dX11_remember_10 rfl (by decide) rfl ?_)
    (refine R_wd (τ := sA σ i_m_undoRow (σ.2.2 i_m_undoRow)) (by rw [sA_self]) ?_; exact shift 0 (by decide) _ (fun q => by rw [if_neg (by omega)]))
  · refine R_aload_n (i := 0) hC dX11_remember_0 rfl rfl (R_gI hC dX11_remember_1 fl_X11_155 L_M rfl ?_)
    refine R_top (y := nI (tP α).1) hP1 ?_
    refine R_bipush (v := 40) hC dX11_remember_4 (by decide) ?_
    refine R_icmp_ne hC 49 dX11_remember_6 (by decide) (fun _ => ?_) (fun h => absurd h (fun q => h40 ((nI_eq (b := 40) (by omega) (by decide)).mp q)))
    refine R_iconst (v := 0) hC dX11_remember_49 (by decide) (R_istore_n (i := 1) hC dX11_remember_50 rfl (by decide) rfl ?_)
    refine R_wd (τ := sA (sG σ i_M 15 (nI (tP α).1)) i_m_undoRow (σ.2.2 i_m_undoRow)) (by
      have e1 : sG σ i_M 15 (nI (tP α).1) = σ := by
        refine Prod.ext (funext fun a => funext fun b => ?_) rfl
        show (if a = i_M then (if b = 15 then nI (tP α).1 else σ.1 a b) else σ.1 a b) = σ.1 a b
        split
        · rename_i ea; split
          · rename_i eb; rw [ea, eb, hP1]
          · rfl
        · rfl
      rw [e1, sA_self]) ?_
    exact put (tP α).1 (σ.2.2 i_m_undoRow) (by omega) (fun τ g2 e1 hg2 => inv ((tP α).1 + 1) _ τ g2 e1 (if_neg h40) (fun k hk => by
      show TR _ (if k = (tP α).1 then tT α else (tP α).2 k)
      by_cases e : k = (tP α).1
      · subst e
        rw [if_pos rfl]
        exact h.2.1.congr ok.2.2.1 (fun z hz => by rw [hg2, if_pos (by omega), Nat.add_sub_cancel_left])
      · rw [if_neg e]
        exact (h.2.2.2.2.1.2 k (by omega)).congr (ok.2.2.2.2.2.1.2 k (by omega)) (fun z hz => by rw [hg2, if_neg (by omega)]))) 0 (by decide) _ (fun q => by rw [if_neg (by omega)])
