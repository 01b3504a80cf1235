/-! ===== indexOf on the letters ===== -/
theorem dJ0_indexOf_0f7a4_0 : decode cJ0_indexOf_0f7a4 0 = .ok (.aload_n 0, 1) := by decide +kernel
theorem dJ0_indexOf_0f7a4_1 : decode cJ0_indexOf_0f7a4 1 = .ok (.iload_n 1, 1) := by decide +kernel
theorem dJ0_indexOf_0f7a4_2 : decode cJ0_indexOf_0f7a4 2 = .ok (.iconst 0, 1) := by decide +kernel
theorem dJ0_indexOf_0f7a4_3 : decode cJ0_indexOf_0f7a4 3 = .ok (.invokevirtual 633, 3) := by decide +kernel
theorem dJ0_indexOf_0f7a4_6 : decode cJ0_indexOf_0f7a4 6 = .ok (.ireturn, 1) := by decide +kernel
theorem dJ0_indexOf_7cf53_0 : decode cJ0_indexOf_7cf53 0 = .ok (.aload_n 0, 1) := by decide +kernel
theorem dJ0_indexOf_7cf53_1 : decode cJ0_indexOf_7cf53 1 = .ok (.invokevirtual 492, 3) := by decide +kernel
theorem dJ0_indexOf_7cf53_4 : decode cJ0_indexOf_7cf53 4 = .ok (.ifCond .eq 19, 3) := by decide +kernel
theorem dJ0_indexOf_7cf53_7 : decode cJ0_indexOf_7cf53 7 = .ok (.aload_n 0, 1) := by decide +kernel
theorem dJ0_indexOf_7cf53_8 : decode cJ0_indexOf_7cf53 8 = .ok (.getfield 9, 3) := by decide +kernel
theorem dJ0_indexOf_7cf53_11 : decode cJ0_indexOf_7cf53 11 = .ok (.iload_n 1, 1) := by decide +kernel
theorem dJ0_indexOf_7cf53_12 : decode cJ0_indexOf_7cf53 12 = .ok (.iload_n 2, 1) := by decide +kernel
theorem dJ0_indexOf_7cf53_13 : decode cJ0_indexOf_7cf53 13 = .ok (.aload_n 0, 1) := by decide +kernel
theorem dJ0_indexOf_7cf53_14 : decode cJ0_indexOf_7cf53 14 = .ok (.invokevirtual 505, 3) := by decide +kernel
theorem dJ0_indexOf_7cf53_17 : decode cJ0_indexOf_7cf53 17 = .ok (.invokestatic 637, 3) := by decide +kernel
theorem dJ0_indexOf_7cf53_20 : decode cJ0_indexOf_7cf53 20 = .ok (.goto 16, 3) := by decide +kernel
theorem dJ0_indexOf_7cf53_23 : decode cJ0_indexOf_7cf53 23 = .ok (.aload_n 0, 1) := by decide +kernel
theorem dJ0_indexOf_7cf53_24 : decode cJ0_indexOf_7cf53 24 = .ok (.getfield 9, 3) := by decide +kernel
theorem dJ0_indexOf_7cf53_27 : decode cJ0_indexOf_7cf53 27 = .ok (.iload_n 1, 1) := by decide +kernel
theorem dJ0_indexOf_7cf53_28 : decode cJ0_indexOf_7cf53 28 = .ok (.iload_n 2, 1) := by decide +kernel
theorem dJ0_indexOf_7cf53_29 : decode cJ0_indexOf_7cf53 29 = .ok (.aload_n 0, 1) := by decide +kernel
theorem dJ0_indexOf_7cf53_30 : decode cJ0_indexOf_7cf53 30 = .ok (.invokevirtual 505, 3) := by decide +kernel
theorem dJ0_indexOf_7cf53_33 : decode cJ0_indexOf_7cf53 33 = .ok (.invokestatic 640, 3) := by decide +kernel
theorem dJ0_indexOf_7cf53_36 : decode cJ0_indexOf_7cf53 36 = .ok (.ireturn, 1) := by decide +kernel
theorem dJ1_indexOf_4cfef_0 : decode cJ1_indexOf_4cfef 0 = .ok (.iload_n 1, 1) := by decide +kernel
theorem dJ1_indexOf_4cfef_1 : decode cJ1_indexOf_4cfef 1 = .ok (.invokestatic 88, 3) := by decide +kernel
theorem dJ1_indexOf_4cfef_4 : decode cJ1_indexOf_4cfef 4 = .ok (.ifCond .ne 5, 3) := by decide +kernel
theorem dJ1_indexOf_4cfef_7 : decode cJ1_indexOf_4cfef 7 = .ok (.iconst (-1), 1) := by decide +kernel
theorem dJ1_indexOf_4cfef_8 : decode cJ1_indexOf_4cfef 8 = .ok (.ireturn, 1) := by decide +kernel
theorem dJ1_indexOf_4cfef_9 : decode cJ1_indexOf_4cfef 9 = .ok (.iload_n 2, 1) := by decide +kernel
theorem dJ1_indexOf_4cfef_10 : decode cJ1_indexOf_4cfef 10 = .ok (.iconst 0, 1) := by decide +kernel
theorem dJ1_indexOf_4cfef_11 : decode cJ1_indexOf_4cfef 11 = .ok (.invokestatic 92, 3) := by decide +kernel
theorem dJ1_indexOf_4cfef_14 : decode cJ1_indexOf_4cfef 14 = .ok (.istore_n 2, 1) := by decide +kernel
theorem dJ1_indexOf_4cfef_15 : decode cJ1_indexOf_4cfef 15 = .ok (.iload_n 3, 1) := by decide +kernel
theorem dJ1_indexOf_4cfef_16 : decode cJ1_indexOf_4cfef 16 = .ok (.aload_n 0, 1) := by decide +kernel
theorem dJ1_indexOf_4cfef_17 : decode cJ1_indexOf_4cfef 17 = .ok (.arraylength, 1) := by decide +kernel
theorem dJ1_indexOf_4cfef_18 : decode cJ1_indexOf_4cfef 18 = .ok (.invokestatic 38, 3) := by decide +kernel
theorem dJ1_indexOf_4cfef_21 : decode cJ1_indexOf_4cfef 21 = .ok (.istore_n 3, 1) := by decide +kernel
theorem dJ1_indexOf_4cfef_22 : decode cJ1_indexOf_4cfef 22 = .ok (.iload_n 2, 1) := by decide +kernel
theorem dJ1_indexOf_4cfef_23 : decode cJ1_indexOf_4cfef 23 = .ok (.iload_n 3, 1) := by decide +kernel
theorem dJ1_indexOf_4cfef_24 : decode cJ1_indexOf_4cfef 24 = .ok (.if_icmp .lt 5, 3) := by decide +kernel
theorem dJ1_indexOf_4cfef_27 : decode cJ1_indexOf_4cfef 27 = .ok (.iconst (-1), 1) := by decide +kernel
theorem dJ1_indexOf_4cfef_28 : decode cJ1_indexOf_4cfef 28 = .ok (.ireturn, 1) := by decide +kernel
theorem dJ1_indexOf_4cfef_29 : decode cJ1_indexOf_4cfef 29 = .ok (.aload_n 0, 1) := by decide +kernel
theorem dJ1_indexOf_4cfef_30 : decode cJ1_indexOf_4cfef 30 = .ok (.iload_n 1, 1) := by decide +kernel
theorem dJ1_indexOf_4cfef_31 : decode cJ1_indexOf_4cfef 31 = .ok (.iload_n 2, 1) := by decide +kernel
theorem dJ1_indexOf_4cfef_32 : decode cJ1_indexOf_4cfef 32 = .ok (.iload_n 3, 1) := by decide +kernel
theorem dJ1_indexOf_4cfef_33 : decode cJ1_indexOf_4cfef 33 = .ok (.invokestatic 95, 3) := by decide +kernel
theorem dJ1_indexOf_4cfef_36 : decode cJ1_indexOf_4cfef 36 = .ok (.ireturn, 1) := by decide +kernel
theorem dJ1_indexOfChar_4cfef_0 : decode cJ1_indexOfChar_4cfef 0 = .ok (.iload_n 1, 1) := by decide +kernel
theorem dJ1_indexOfChar_4cfef_1 : decode cJ1_indexOfChar_4cfef 1 = .ok (.i2b, 1) := by decide +kernel
theorem dJ1_indexOfChar_4cfef_2 : decode cJ1_indexOfChar_4cfef 2 = .ok (.istore 4, 2) := by decide +kernel
theorem dJ1_indexOfChar_4cfef_4 : decode cJ1_indexOfChar_4cfef 4 = .ok (.iload_n 2, 1) := by decide +kernel
theorem dJ1_indexOfChar_4cfef_5 : decode cJ1_indexOfChar_4cfef 5 = .ok (.istore 5, 2) := by decide +kernel
theorem dJ1_indexOfChar_4cfef_7 : decode cJ1_indexOfChar_4cfef 7 = .ok (.iload 5, 2) := by decide +kernel
theorem dJ1_indexOfChar_4cfef_9 : decode cJ1_indexOfChar_4cfef 9 = .ok (.iload_n 3, 1) := by decide +kernel
theorem dJ1_indexOfChar_4cfef_10 : decode cJ1_indexOfChar_4cfef 10 = .ok (.if_icmp .ge 21, 3) := by decide +kernel
theorem dJ1_indexOfChar_4cfef_13 : decode cJ1_indexOfChar_4cfef 13 = .ok (.aload_n 0, 1) := by decide +kernel
theorem dJ1_indexOfChar_4cfef_14 : decode cJ1_indexOfChar_4cfef 14 = .ok (.iload 5, 2) := by decide +kernel
theorem dJ1_indexOfChar_4cfef_16 : decode cJ1_indexOfChar_4cfef 16 = .ok (.baload, 1) := by decide +kernel
theorem dJ1_indexOfChar_4cfef_17 : decode cJ1_indexOfChar_4cfef 17 = .ok (.iload 4, 2) := by decide +kernel
theorem dJ1_indexOfChar_4cfef_19 : decode cJ1_indexOfChar_4cfef 19 = .ok (.if_icmp .ne 6, 3) := by decide +kernel
theorem dJ1_indexOfChar_4cfef_22 : decode cJ1_indexOfChar_4cfef 22 = .ok (.iload 5, 2) := by decide +kernel
theorem dJ1_indexOfChar_4cfef_24 : decode cJ1_indexOfChar_4cfef 24 = .ok (.ireturn, 1) := by decide +kernel
theorem dJ1_indexOfChar_4cfef_25 : decode cJ1_indexOfChar_4cfef 25 = .ok (.iinc 5 1, 3) := by decide +kernel
theorem dJ1_indexOfChar_4cfef_28 : decode cJ1_indexOfChar_4cfef 28 = .ok (.goto (-21), 3) := by decide +kernel
theorem dJ1_indexOfChar_4cfef_31 : decode cJ1_indexOfChar_4cfef 31 = .ok (.iconst (-1), 1) := by decide +kernel
theorem dJ1_indexOfChar_4cfef_32 : decode cJ1_indexOfChar_4cfef 32 = .ok (.ireturn, 1) := by decide +kernel
theorem dJ1_canEncode_9a6ad_0 : decode cJ1_canEncode_9a6ad 0 = .ok (.iload_n 0, 1) := by decide +kernel
theorem dJ1_canEncode_9a6ad_1 : decode cJ1_canEncode_9a6ad 1 = .ok (.ifCond .lt 14, 3) := by decide +kernel
theorem dJ1_canEncode_9a6ad_4 : decode cJ1_canEncode_9a6ad 4 = .ok (.iload_n 0, 1) := by decide +kernel
theorem dJ1_canEncode_9a6ad_5 : decode cJ1_canEncode_9a6ad 5 = .ok (.sipush 255, 3) := by decide +kernel
theorem dJ1_canEncode_9a6ad_8 : decode cJ1_canEncode_9a6ad 8 = .ok (.if_icmp .gt 7, 3) := by decide +kernel
theorem dJ1_canEncode_9a6ad_11 : decode cJ1_canEncode_9a6ad 11 = .ok (.iconst 1, 1) := by decide +kernel
theorem dJ1_canEncode_9a6ad_12 : decode cJ1_canEncode_9a6ad 12 = .ok (.goto 4, 3) := by decide +kernel
theorem dJ1_canEncode_9a6ad_15 : decode cJ1_canEncode_9a6ad 15 = .ok (.iconst 0, 1) := by decide +kernel
theorem dJ1_canEncode_9a6ad_16 : decode cJ1_canEncode_9a6ad 16 = .ok (.ireturn, 1) := by decide +kernel
theorem kl_J1_92 : Cond.methodLink RJ1 92 Lib.Math.max.name ∈ lw_gl := gmt tc_2 175 rfl (by decide +kernel)
theorem kl_J1_38 : Cond.methodLink RJ1 38 Lib.Math.min.name ∈ lw_gl := gmt tc_2 178 rfl (by decide +kernel)
theorem kb0 : ∀ k, k < 7 → ∀ b, b < 256 → ((kby 0).getD k 0 = (nI b).toInt8.toInt32 ↔ (kby 0).getD k 0 = nI b) := by decide +kernel
theorem kb04 : ∀ b, b < 256 → o2i (spt 0 (nI b)) = o2i (spt 4 (nI b)) := by decide +kernel
theorem kl0 : (kby 0).length = 7 := by decide
theorem k_canEnc (b : Nat) (hb : b < 256) (w : aW) : Mt mJ1_canEncode_9a6ad 0 0 0 [.int (nI b)] w (QI 1 w) := by
  refine Mt.of MI_J1_canEncode_9a6ad (Nat.le_of_ble_eq_true rfl) (fun X hC hR hT => ?_)
  refine R_iload_n (i := 0) hC dJ1_canEncode_9a6ad_0 rfl rfl ?_
  refine R_if_lt hC 15 dJ1_canEncode_9a6ad_1 (by decide) (fun h => absurd h (nI_pos (by omega))) (fun _ => ?_)
  refine R_iload_n (i := 0) hC dJ1_canEncode_9a6ad_4 rfl rfl (R_sipush (v := 255) hC dJ1_canEncode_9a6ad_5 (by decide) ?_)
  refine R_icmp_gt hC 15 dJ1_canEncode_9a6ad_8 (by decide) (fun h => absurd h (fun z => absurd ((nI_ltI (a := 255) (b := b) (by decide) (by omega)).mp z) (by omega))) (fun _ => ?_)
  refine R_iconst (v := 1) hC dJ1_canEncode_9a6ad_11 (by decide) (R_goto hC 16 dJ1_canEncode_9a6ad_12 (by decide) ?_)
  exact R_zret hC hT dJ1_canEncode_9a6ad_16 rfl (by decide) ⟨rfl, rfl⟩
theorem k_idxChar (b : Nat) (hb : b < 256) (w : aW) : Mt mJ1_indexOfChar_4cfef 0 0 0 [.ref 9, .int (nI b), .int 0, .int (nI 7)] w (QI (o2i (spt 0 (nI b))) w) := by
  refine Mt.of MI_J1_indexOfChar_4cfef (Nat.le_of_ble_eq_true rfl) (fun X hC hR hT => ?_)
  have loop : ∀ k, k ≤ 7 → spt 0 (nI b) = fs (sptH 0 (nI b)) k (7 - k) → Rw mJ1_indexOfChar_4cfef X 7 [some (.ref 9), some (.int (nI b)), some (.int 0), some (.int (nI 7)), some (.int (nI b).toInt8.toInt32), some (.int (nI k))] [] w 0 0 := by
    refine up_loop 7 ?_ ?_
    · intro e
      rw [fs_0 (Nat.le_refl _)] at e
      refine R_iload hC dJ1_indexOfChar_4cfef_7 rfl (R_iload_n (i := 3) hC dJ1_indexOfChar_4cfef_9 rfl rfl ?_)
      refine R_icmp_ge hC 31 dJ1_indexOfChar_4cfef_10 (by decide) (fun _ => ?_) (fun h => absurd (Int32.le_refl _) h)
      refine R_iconst (v := (-1)) hC dJ1_indexOfChar_4cfef_31 (by decide) ?_
      exact R_iret hC hT dJ1_indexOfChar_4cfef_32 rfl ⟨by rw [e]; rfl, rfl⟩
    · intro k hk ih e
      refine R_iload hC dJ1_indexOfChar_4cfef_7 rfl (R_iload_n (i := 3) hC dJ1_indexOfChar_4cfef_9 rfl rfl ?_)
      refine R_icmp_ge hC 31 dJ1_indexOfChar_4cfef_10 (by decide) (fun h => absurd h (nI_ge hk (by decide))) (fun _ => ?_)
      refine R_aload_n (i := 0) hC dJ1_indexOfChar_4cfef_13 rfl rfl (R_iload hC dJ1_indexOfChar_4cfef_14 rfl ?_)
      refine R_sbal (i := 0) hC (by decide) k rfl (by rw [kl0]; exact hk) (by decide) dJ1_indexOfChar_4cfef_16 ?_
      refine R_iload hC dJ1_indexOfChar_4cfef_17 rfl ?_
      refine R_icmp_ne hC 25 dJ1_indexOfChar_4cfef_19 (by decide) (fun h => ?_) (fun h => ?_)
      · refine R_iinc hC dJ1_indexOfChar_4cfef_25 rfl (inc1 _) (by decide) rfl (R_goto hC 7 dJ1_indexOfChar_4cfef_28 (by decide) ?_)
        exact ih (by rw [e, fs_n hk (by unfold sptH; rw [if_neg (fun z => h ((kb0 k hk b hb).mpr z))])])
      · refine R_iload hC dJ1_indexOfChar_4cfef_22 rfl ?_
        exact R_iret hC hT dJ1_indexOfChar_4cfef_24 rfl ⟨by rw [e, fs_y hk (v := k) (by unfold sptH; rw [if_pos ((kb0 k hk b hb).mp h)])]; rfl, rfl⟩
  refine R_iload_n (i := 1) hC dJ1_indexOfChar_4cfef_0 rfl rfl (R_i2b hC dJ1_indexOfChar_4cfef_1 ?_)
  refine R_istore hC dJ1_indexOfChar_4cfef_2 (by decide) rfl (R_iload_n (i := 2) hC dJ1_indexOfChar_4cfef_4 rfl rfl (R_istore hC dJ1_indexOfChar_4cfef_5 (by decide) rfl ?_))
  exact loop 0 (Nat.zero_le _) rfl
theorem k_idx4 (b : Nat) (hb : b < 256) (w : aW) : Mt mJ1_indexOf_4cfef 1 0 0 [.ref 9, .int (nI b), .int 0, .int (nI 7)] w (QI (o2i (spt 0 (nI b))) w) := by
  refine Mt.of MI_J1_indexOf_4cfef (Nat.le_of_ble_eq_true rfl) (fun X hC hR hT => ?_)
  refine R_iload_n (i := 1) hC dJ1_indexOf_4cfef_0 rfl rfl ?_
  refine R_S1i hC hR dJ1_indexOf_4cfef_1 MS_J1_canEncode_9a6ad ml_J1_88 (k_canEnc b hb w) (by decide) ⟨by decide, by decide⟩ (Nat.le_of_ble_eq_true rfl) ?_
  refine R_if_ne hC 9 dJ1_indexOf_4cfef_4 (by decide) (fun _ => ?_) (fun h => absurd h (by decide))
  refine R_iload_n (i := 2) hC dJ1_indexOf_4cfef_9 rfl rfl (R_iconst (v := 0) hC dJ1_indexOf_4cfef_10 (by decide) ?_)
  refine R_max hC hR dJ1_indexOf_4cfef_11 kl_J1_92 (by decide) ⟨by decide, by decide⟩ (Nat.le_of_ble_eq_true rfl) ?_
  refine R_top (y := 0) (by decide) ?_
  refine R_istore_n (i := 2) hC dJ1_indexOf_4cfef_14 rfl (by decide) rfl (R_iload_n (i := 3) hC dJ1_indexOf_4cfef_15 rfl rfl (R_aload_n (i := 0) hC dJ1_indexOf_4cfef_16 rfl rfl ?_))
  refine R_slen (i := 0) hC (by decide) dJ1_indexOf_4cfef_17 ?_
  refine R_min hC hR dJ1_indexOf_4cfef_18 kl_J1_38 (by decide) ⟨by decide, by decide⟩ (Nat.le_of_ble_eq_true rfl) ?_
  refine R_top (y := nI 7) (by decide) ?_
  refine R_istore_n (i := 3) hC dJ1_indexOf_4cfef_21 rfl (by decide) rfl (R_iload_n (i := 2) hC dJ1_indexOf_4cfef_22 rfl rfl (R_iload_n (i := 3) hC dJ1_indexOf_4cfef_23 rfl rfl ?_))
  refine R_icmp_lt hC 29 dJ1_indexOf_4cfef_24 (by decide) (fun _ => ?_) (fun h => absurd (by decide) h)
  refine R_aload_n (i := 0) hC dJ1_indexOf_4cfef_29 rfl rfl (R_iload_n (i := 1) hC dJ1_indexOf_4cfef_30 rfl rfl (R_iload_n (i := 2) hC dJ1_indexOf_4cfef_31 rfl rfl (R_iload_n (i := 3) hC dJ1_indexOf_4cfef_32 rfl rfl ?_)))
  refine R_S4i hC hR dJ1_indexOf_4cfef_33 MS_J1_indexOfChar_4cfef ml_J1_95 (k_idxChar b hb w) (by decide) ⟨by decide, by decide⟩ (Nat.le_of_ble_eq_true rfl) ?_
  exact R_iret hC hT dJ1_indexOf_4cfef_36 rfl ⟨rfl, rfl⟩
theorem k_idx2 (b : Nat) (hb : b < 256) (w : aW) : Mt mJ0_indexOf_7cf53 2 0 0 [.ref (2 + 0), .int (nI b), .int 0] w (QI (o2i (spt 0 (nI b))) w) := by
  refine Mt.of MI_J0_indexOf_7cf53 (Nat.le_of_ble_eq_true rfl) (fun X hC hR hT => ?_)
  refine R_aload_n (i := 0) hC dJ0_indexOf_7cf53_0 rfl rfl ?_
  refine R_K0 (i := 0) hC hR (by decide) dJ0_indexOf_7cf53_1 MV_J0_isLatin1_aae02 rfl ml_J0_492 (k_isLatin1 0 (by decide) w) (by decide) ⟨by decide, by decide⟩ (Nat.le_of_ble_eq_true rfl) ?_
  refine R_if_eq hC 23 dJ0_indexOf_7cf53_4 (by decide) (fun h => absurd h (by decide)) (fun _ => ?_)
  refine R_aload_n (i := 0) hC dJ0_indexOf_7cf53_7 rfl rfl ?_
  refine R_sval (i := 0) hC (by decide) rfl dJ0_indexOf_7cf53_8 ?_
  refine R_iload_n (i := 1) hC dJ0_indexOf_7cf53_11 rfl rfl (R_iload_n (i := 2) hC dJ0_indexOf_7cf53_12 rfl rfl (R_aload_n (i := 0) hC dJ0_indexOf_7cf53_13 rfl rfl ?_))
  refine R_K0 (i := 0) hC hR (by decide) dJ0_indexOf_7cf53_14 MV_J0_length_8abf5 rfl ml_J0_505 (k_length 0 (by decide) w) (by decide) ⟨by decide, by decide⟩ (Nat.le_of_ble_eq_true rfl) ?_
  refine R_top (y := nI 7) (by rw [kl0]) ?_
  refine R_S4i hC hR dJ0_indexOf_7cf53_17 MS_J1_indexOf_4cfef ml_J0_637 (k_idx4 b hb w) (by decide) ⟨by decide, by decide⟩ (Nat.le_of_ble_eq_true rfl) ?_
  refine R_goto hC 36 dJ0_indexOf_7cf53_20 (by decide) ?_
  exact R_iret hC hT dJ0_indexOf_7cf53_36 rfl ⟨rfl, rfl⟩
theorem k_indexOf (b : Nat) (hb : b < 256) (w : aW) : Mt mJ0_indexOf_0f7a4 3 0 0 [.ref (2 + 0), .int (nI b)] w (QI (o2i (spt 0 (nI b))) w) := by
  refine Mt.of MI_J0_indexOf_0f7a4 (Nat.le_of_ble_eq_true rfl) (fun X hC hR hT => ?_)
  refine R_aload_n (i := 0) hC dJ0_indexOf_0f7a4_0 rfl rfl (R_iload_n (i := 1) hC dJ0_indexOf_0f7a4_1 rfl rfl (R_iconst (v := 0) hC dJ0_indexOf_0f7a4_2 (by decide) ?_))
  refine R_K2 (i := 0) hC hR (by decide) dJ0_indexOf_0f7a4_3 MV_J0_indexOf_7cf53 rfl ml_J0_633 (k_idx2 b hb w) (by decide) ⟨by decide, by decide⟩ (Nat.le_of_ble_eq_true rfl) ?_
  exact R_iret hC hT dJ0_indexOf_0f7a4_6 rfl ⟨rfl, rfl⟩
