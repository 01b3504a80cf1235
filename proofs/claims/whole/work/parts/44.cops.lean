/-! ===== the class's small calls, what can be had back, acts ===== -/
theorem dX10_end_0 : decode cX10_end 0 = .ok (.iload_n 1, 1) := by decide +kernel
theorem dX10_end_1 : decode cX10_end 1 = .ok (.ifCond .lt 14, 3) := by decide +kernel
theorem dX10_end_4 : decode cX10_end 4 = .ok (.iload_n 1, 1) := by decide +kernel
theorem dX10_end_5 : decode cX10_end 5 = .ok (.aload_n 0, 1) := by decide +kernel
theorem dX10_end_6 : decode cX10_end 6 = .ok (.getfield 12, 3) := by decide +kernel
theorem dX10_end_9 : decode cX10_end 9 = .ok (.getfield 103, 3) := by decide +kernel
theorem dX10_end_12 : decode cX10_end 12 = .ok (.if_icmp .le 5, 3) := by decide +kernel
theorem dX10_end_15 : decode cX10_end 15 = .ok (.iconst 0, 1) := by decide +kernel
theorem dX10_end_16 : decode cX10_end 16 = .ok (.ireturn, 1) := by decide +kernel
theorem dX10_end_17 : decode cX10_end 17 = .ok (.aload_n 0, 1) := by decide +kernel
theorem dX10_end_18 : decode cX10_end 18 = .ok (.getfield 12, 3) := by decide +kernel
theorem dX10_end_21 : decode cX10_end 21 = .ok (.iload_n 1, 1) := by decide +kernel
theorem dX10_end_22 : decode cX10_end 22 = .ok (.putfield 103, 3) := by decide +kernel
theorem dX10_end_25 : decode cX10_end 25 = .ok (.iconst 1, 1) := by decide +kernel
theorem dX10_end_26 : decode cX10_end 26 = .ok (.ireturn, 1) := by decide +kernel
theorem dX10_status_0 : decode cX10_status 0 = .ok (.iload_n 1, 1) := by decide +kernel
theorem dX10_status_1 : decode cX10_status 1 = .ok (.ifCond .lt 17, 3) := by decide +kernel
theorem dX10_status_4 : decode cX10_status 4 = .ok (.iload_n 1, 1) := by decide +kernel
theorem dX10_status_5 : decode cX10_status 5 = .ok (.iconst 4, 1) := by decide +kernel
theorem dX10_status_6 : decode cX10_status 6 = .ok (.if_icmp .ge 12, 3) := by decide +kernel
theorem dX10_status_9 : decode cX10_status 9 = .ok (.aload_n 0, 1) := by decide +kernel
theorem dX10_status_10 : decode cX10_status 10 = .ok (.getfield 49, 3) := by decide +kernel
theorem dX10_status_13 : decode cX10_status 13 = .ok (.iload_n 1, 1) := by decide +kernel
theorem dX10_status_14 : decode cX10_status 14 = .ok (.iaload, 1) := by decide +kernel
theorem dX10_status_15 : decode cX10_status 15 = .ok (.goto 4, 3) := by decide +kernel
theorem dX10_status_18 : decode cX10_status 18 = .ok (.iconst (-1), 1) := by decide +kernel
theorem dX10_status_19 : decode cX10_status 19 = .ok (.ireturn, 1) := by decide +kernel
theorem dX10_isKept_0 : decode cX10_isKept 0 = .ok (.iload_n 1, 1) := by decide +kernel
theorem dX10_isKept_1 : decode cX10_isKept 1 = .ok (.ifCond .lt 15, 3) := by decide +kernel
theorem dX10_isKept_4 : decode cX10_isKept 4 = .ok (.iload_n 1, 1) := by decide +kernel
theorem dX10_isKept_5 : decode cX10_isKept 5 = .ok (.aload_n 0, 1) := by decide +kernel
theorem dX10_isKept_6 : decode cX10_isKept 6 = .ok (.getfield 156, 3) := by decide +kernel
theorem dX10_isKept_9 : decode cX10_isKept 9 = .ok (.if_icmp .ge 7, 3) := by decide +kernel
theorem dX10_isKept_12 : decode cX10_isKept 12 = .ok (.iconst 1, 1) := by decide +kernel
theorem dX10_isKept_13 : decode cX10_isKept 13 = .ok (.goto 4, 3) := by decide +kernel
theorem dX10_isKept_16 : decode cX10_isKept 16 = .ok (.iconst 0, 1) := by decide +kernel
theorem dX10_isKept_17 : decode cX10_isKept 17 = .ok (.ireturn, 1) := by decide +kernel
theorem dX10_isScript_0 : decode cX10_isScript 0 = .ok (.iload_n 1, 1) := by decide +kernel
theorem dX10_isScript_1 : decode cX10_isScript 1 = .ok (.ifCond .lt 15, 3) := by decide +kernel
theorem dX10_isScript_4 : decode cX10_isScript 4 = .ok (.iload_n 1, 1) := by decide +kernel
theorem dX10_isScript_5 : decode cX10_isScript 5 = .ok (.aload_n 0, 1) := by decide +kernel
theorem dX10_isScript_6 : decode cX10_isScript 6 = .ok (.getfield 115, 3) := by decide +kernel
theorem dX10_isScript_9 : decode cX10_isScript 9 = .ok (.if_icmp .ge 7, 3) := by decide +kernel
theorem dX10_isScript_12 : decode cX10_isScript 12 = .ok (.iconst 1, 1) := by decide +kernel
theorem dX10_isScript_13 : decode cX10_isScript 13 = .ok (.goto 4, 3) := by decide +kernel
theorem dX10_isScript_16 : decode cX10_isScript 16 = .ok (.iconst 0, 1) := by decide +kernel
theorem dX10_isScript_17 : decode cX10_isScript 17 = .ok (.ireturn, 1) := by decide +kernel
theorem dX10_refused_0 : decode cX10_refused 0 = .ok (.iload_n 1, 1) := by decide +kernel
theorem dX10_refused_1 : decode cX10_refused 1 = .ok (.ifCond .lt 8, 3) := by decide +kernel
theorem dX10_refused_4 : decode cX10_refused 4 = .ok (.iload_n 1, 1) := by decide +kernel
theorem dX10_refused_5 : decode cX10_refused 5 = .ok (.iconst 4, 1) := by decide +kernel
theorem dX10_refused_6 : decode cX10_refused 6 = .ok (.if_icmp .lt 5, 3) := by decide +kernel
theorem dX10_refused_9 : decode cX10_refused 9 = .ok (.iconst 0, 1) := by decide +kernel
theorem dX10_refused_10 : decode cX10_refused 10 = .ok (.ireturn, 1) := by decide +kernel
theorem dX10_refused_11 : decode cX10_refused 11 = .ok (.aload_n 0, 1) := by decide +kernel
theorem dX10_refused_12 : decode cX10_refused 12 = .ok (.getfield 49, 3) := by decide +kernel
theorem dX10_refused_15 : decode cX10_refused 15 = .ok (.iload_n 1, 1) := by decide +kernel
theorem dX10_refused_16 : decode cX10_refused 16 = .ok (.dup2, 1) := by decide +kernel
theorem dX10_refused_17 : decode cX10_refused 17 = .ok (.iaload, 1) := by decide +kernel
theorem dX10_refused_18 : decode cX10_refused 18 = .ok (.iconst 1, 1) := by decide +kernel
theorem dX10_refused_19 : decode cX10_refused 19 = .ok (.iadd, 1) := by decide +kernel
theorem dX10_refused_20 : decode cX10_refused 20 = .ok (.iastore, 1) := by decide +kernel
theorem dX10_refused_21 : decode cX10_refused 21 = .ok (.iconst 1, 1) := by decide +kernel
theorem dX10_refused_22 : decode cX10_refused 22 = .ok (.ireturn, 1) := by decide +kernel
theorem dX10_forget_0 : decode cX10_forget 0 = .ok (.aload_n 0, 1) := by decide +kernel
theorem dX10_forget_1 : decode cX10_forget 1 = .ok (.getfield 56, 3) := by decide +kernel
theorem dX10_forget_4 : decode cX10_forget 4 = .ok (.iconst 0, 1) := by decide +kernel
theorem dX10_forget_5 : decode cX10_forget 5 = .ok (.putfield 339, 3) := by decide +kernel
theorem dX10_forget_8 : decode cX10_forget 8 = .ok (.aload_n 0, 1) := by decide +kernel
theorem dX10_forget_9 : decode cX10_forget 9 = .ok (.getfield 63, 3) := by decide +kernel
theorem dX10_forget_12 : decode cX10_forget 12 = .ok (.iconst 0, 1) := by decide +kernel
theorem dX10_forget_13 : decode cX10_forget 13 = .ok (.putfield 342, 3) := by decide +kernel
theorem dX10_forget_16 : decode cX10_forget 16 = .ok (.aload_n 0, 1) := by decide +kernel
theorem dX10_forget_17 : decode cX10_forget 17 = .ok (.getfield 67, 3) := by decide +kernel
theorem dX10_forget_20 : decode cX10_forget 20 = .ok (.iconst 0, 1) := by decide +kernel
theorem dX10_forget_21 : decode cX10_forget 21 = .ok (.putfield 342, 3) := by decide +kernel
theorem dX10_forget_24 : decode cX10_forget 24 = .ok (.aload_n 0, 1) := by decide +kernel
theorem dX10_forget_25 : decode cX10_forget 25 = .ok (.getfield 73, 3) := by decide +kernel
theorem dX10_forget_28 : decode cX10_forget 28 = .ok (.iconst 0, 1) := by decide +kernel
theorem dX10_forget_29 : decode cX10_forget 29 = .ok (.putfield 343, 3) := by decide +kernel
theorem dX10_forget_32 : decode cX10_forget 32 = .ok (.return_, 1) := by decide +kernel
theorem dX2_clear_0 : decode cX2_clear 0 = .ok (.aload_n 0, 1) := by decide +kernel
theorem dX2_clear_1 : decode cX2_clear 1 = .ok (.iconst 0, 1) := by decide +kernel
theorem dX2_clear_2 : decode cX2_clear 2 = .ok (.putfield 18, 3) := by decide +kernel
theorem dX2_clear_5 : decode cX2_clear 5 = .ok (.return_, 1) := by decide +kernel
theorem dX2_add_0 : decode cX2_add 0 = .ok (.aload_n 0, 1) := by decide +kernel
theorem dX2_add_1 : decode cX2_add 1 = .ok (.getfield 11, 3) := by decide +kernel
theorem dX2_add_4 : decode cX2_add 4 = .ok (.aload_n 0, 1) := by decide +kernel
theorem dX2_add_5 : decode cX2_add 5 = .ok (.getfield 22, 3) := by decide +kernel
theorem dX2_add_8 : decode cX2_add 8 = .ok (.aload_n 0, 1) := by decide +kernel
theorem dX2_add_9 : decode cX2_add 9 = .ok (.getfield 18, 3) := by decide +kernel
theorem dX2_add_12 : decode cX2_add 12 = .ok (.iadd, 1) := by decide +kernel
theorem dX2_add_13 : decode cX2_add 13 = .ok (.bipush 40, 2) := by decide +kernel
theorem dX2_add_15 : decode cX2_add 15 = .ok (.irem, 1) := by decide +kernel
theorem dX2_add_16 : decode cX2_add 16 = .ok (.aaload, 1) := by decide +kernel
theorem dX2_add_17 : decode cX2_add 17 = .ok (.aload_n 1, 1) := by decide +kernel
theorem dX2_add_18 : decode cX2_add 18 = .ok (.invokevirtual 25, 3) := by decide +kernel
theorem dX2_add_21 : decode cX2_add 21 = .ok (.aload_n 0, 1) := by decide +kernel
theorem dX2_add_22 : decode cX2_add 22 = .ok (.getfield 18, 3) := by decide +kernel
theorem dX2_add_25 : decode cX2_add 25 = .ok (.bipush 40, 2) := by decide +kernel
theorem dX2_add_27 : decode cX2_add 27 = .ok (.if_icmp .ge 16, 3) := by decide +kernel
theorem dX2_add_30 : decode cX2_add 30 = .ok (.aload_n 0, 1) := by decide +kernel
theorem dX2_add_31 : decode cX2_add 31 = .ok (.dup, 1) := by decide +kernel
theorem dX2_add_32 : decode cX2_add 32 = .ok (.getfield 18, 3) := by decide +kernel
theorem dX2_add_35 : decode cX2_add 35 = .ok (.iconst 1, 1) := by decide +kernel
theorem dX2_add_36 : decode cX2_add 36 = .ok (.iadd, 1) := by decide +kernel
theorem dX2_add_37 : decode cX2_add 37 = .ok (.putfield 18, 3) := by decide +kernel
theorem dX2_add_40 : decode cX2_add 40 = .ok (.goto 16, 3) := by decide +kernel
theorem dX2_add_43 : decode cX2_add 43 = .ok (.aload_n 0, 1) := by decide +kernel
theorem dX2_add_44 : decode cX2_add 44 = .ok (.aload_n 0, 1) := by decide +kernel
theorem dX2_add_45 : decode cX2_add 45 = .ok (.getfield 22, 3) := by decide +kernel
theorem dX2_add_48 : decode cX2_add 48 = .ok (.iconst 1, 1) := by decide +kernel
theorem dX2_add_49 : decode cX2_add 49 = .ok (.iadd, 1) := by decide +kernel
theorem dX2_add_50 : decode cX2_add 50 = .ok (.bipush 40, 2) := by decide +kernel
theorem dX2_add_52 : decode cX2_add 52 = .ok (.irem, 1) := by decide +kernel
theorem dX2_add_53 : decode cX2_add 53 = .ok (.putfield 22, 3) := by decide +kernel
theorem dX2_add_56 : decode cX2_add 56 = .ok (.return_, 1) := by decide +kernel
theorem dX2_takeBack_0 : decode cX2_takeBack 0 = .ok (.aload_n 0, 1) := by decide +kernel
theorem dX2_takeBack_1 : decode cX2_takeBack 1 = .ok (.getfield 18, 3) := by decide +kernel
theorem dX2_takeBack_4 : decode cX2_takeBack 4 = .ok (.ifCond .le 34, 3) := by decide +kernel
theorem dX2_takeBack_7 : decode cX2_takeBack 7 = .ok (.aload_n 0, 1) := by decide +kernel
theorem dX2_takeBack_8 : decode cX2_takeBack 8 = .ok (.dup, 1) := by decide +kernel
theorem dX2_takeBack_9 : decode cX2_takeBack 9 = .ok (.getfield 18, 3) := by decide +kernel
theorem dX2_takeBack_12 : decode cX2_takeBack 12 = .ok (.iconst 1, 1) := by decide +kernel
theorem dX2_takeBack_13 : decode cX2_takeBack 13 = .ok (.isub, 1) := by decide +kernel
theorem dX2_takeBack_14 : decode cX2_takeBack 14 = .ok (.putfield 18, 3) := by decide +kernel
theorem dX2_takeBack_17 : decode cX2_takeBack 17 = .ok (.aload_n 1, 1) := by decide +kernel
theorem dX2_takeBack_18 : decode cX2_takeBack 18 = .ok (.aload_n 0, 1) := by decide +kernel
theorem dX2_takeBack_19 : decode cX2_takeBack 19 = .ok (.getfield 11, 3) := by decide +kernel
theorem dX2_takeBack_22 : decode cX2_takeBack 22 = .ok (.aload_n 0, 1) := by decide +kernel
theorem dX2_takeBack_23 : decode cX2_takeBack 23 = .ok (.getfield 22, 3) := by decide +kernel
theorem dX2_takeBack_26 : decode cX2_takeBack 26 = .ok (.aload_n 0, 1) := by decide +kernel
theorem dX2_takeBack_27 : decode cX2_takeBack 27 = .ok (.getfield 18, 3) := by decide +kernel
theorem dX2_takeBack_30 : decode cX2_takeBack 30 = .ok (.iadd, 1) := by decide +kernel
theorem dX2_takeBack_31 : decode cX2_takeBack 31 = .ok (.bipush 40, 2) := by decide +kernel
theorem dX2_takeBack_33 : decode cX2_takeBack 33 = .ok (.irem, 1) := by decide +kernel
theorem dX2_takeBack_34 : decode cX2_takeBack 34 = .ok (.aaload, 1) := by decide +kernel
theorem dX2_takeBack_35 : decode cX2_takeBack 35 = .ok (.invokevirtual 25, 3) := by decide +kernel
theorem dX2_takeBack_38 : decode cX2_takeBack 38 = .ok (.return_, 1) := by decide +kernel
theorem dX10_settle_0 : decode cX10_settle 0 = .ok (.iload_n 1, 1) := by decide +kernel
theorem dX10_settle_1 : decode cX10_settle 1 = .ok (.iconst (-1), 1) := by decide +kernel
theorem dX10_settle_2 : decode cX10_settle 2 = .ok (.if_icmp .ne 18, 3) := by decide +kernel
theorem dX10_settle_5 : decode cX10_settle 5 = .ok (.aload_n 0, 1) := by decide +kernel
theorem dX10_settle_6 : decode cX10_settle 6 = .ok (.getfield 32, 3) := by decide +kernel
theorem dX10_settle_9 : decode cX10_settle 9 = .ok (.aload_n 0, 1) := by decide +kernel
theorem dX10_settle_10 : decode cX10_settle 10 = .ok (.getfield 23, 3) := by decide +kernel
theorem dX10_settle_13 : decode cX10_settle 13 = .ok (.invokevirtual 336, 3) := by decide +kernel
theorem dX10_settle_16 : decode cX10_settle 16 = .ok (.aload_n 0, 1) := by decide +kernel
theorem dX10_settle_17 : decode cX10_settle 17 = .ok (.invokevirtual 176, 3) := by decide +kernel
theorem dX10_settle_20 : decode cX10_settle 20 = .ok (.iload_n 1, 1) := by decide +kernel
theorem dX10_settle_21 : decode cX10_settle 21 = .ok (.ireturn, 1) := by decide +kernel
theorem dX10_keep_0 : decode cX10_keep 0 = .ok (.aload_n 0, 1) := by decide +kernel
theorem dX10_keep_1 : decode cX10_keep 1 = .ok (.getfield 19, 3) := by decide +kernel
theorem dX10_keep_4 : decode cX10_keep 4 = .ok (.invokevirtual 152, 3) := by decide +kernel
theorem dX10_keep_7 : decode cX10_keep 7 = .ok (.ifCond .ne 11, 3) := by decide +kernel
theorem dX10_keep_10 : decode cX10_keep 10 = .ok (.aload_n 0, 1) := by decide +kernel
theorem dX10_keep_11 : decode cX10_keep 11 = .ok (.getfield 156, 3) := by decide +kernel
theorem dX10_keep_14 : decode cX10_keep 14 = .ok (.iconst 4, 1) := by decide +kernel
theorem dX10_keep_15 : decode cX10_keep 15 = .ok (.if_icmp .lt 5, 3) := by decide +kernel
theorem dX10_keep_18 : decode cX10_keep 18 = .ok (.iconst (-1), 1) := by decide +kernel
theorem dX10_keep_19 : decode cX10_keep 19 = .ok (.ireturn, 1) := by decide +kernel
theorem dX10_keep_20 : decode cX10_keep 20 = .ok (.aload_n 0, 1) := by decide +kernel
theorem dX10_keep_21 : decode cX10_keep 21 = .ok (.getfield 36, 3) := by decide +kernel
theorem dX10_keep_24 : decode cX10_keep 24 = .ok (.aload_n 0, 1) := by decide +kernel
theorem dX10_keep_25 : decode cX10_keep 25 = .ok (.getfield 156, 3) := by decide +kernel
theorem dX10_keep_28 : decode cX10_keep 28 = .ok (.aaload, 1) := by decide +kernel
theorem dX10_keep_29 : decode cX10_keep 29 = .ok (.aload_n 0, 1) := by decide +kernel
theorem dX10_keep_30 : decode cX10_keep 30 = .ok (.getfield 19, 3) := by decide +kernel
theorem dX10_keep_33 : decode cX10_keep 33 = .ok (.invokevirtual 159, 3) := by decide +kernel
theorem dX10_keep_36 : decode cX10_keep 36 = .ok (.aload_n 0, 1) := by decide +kernel
theorem dX10_keep_37 : decode cX10_keep 37 = .ok (.dup, 1) := by decide +kernel
theorem dX10_keep_38 : decode cX10_keep 38 = .ok (.getfield 156, 3) := by decide +kernel
theorem dX10_keep_41 : decode cX10_keep 41 = .ok (.iconst 1, 1) := by decide +kernel
theorem dX10_keep_42 : decode cX10_keep 42 = .ok (.iadd, 1) := by decide +kernel
theorem dX10_keep_43 : decode cX10_keep 43 = .ok (.putfield 156, 3) := by decide +kernel
theorem dX10_keep_46 : decode cX10_keep 46 = .ok (.aload_n 0, 1) := by decide +kernel
theorem dX10_keep_47 : decode cX10_keep 47 = .ok (.getfield 156, 3) := by decide +kernel
theorem dX10_keep_50 : decode cX10_keep 50 = .ok (.iconst 1, 1) := by decide +kernel
theorem dX10_keep_51 : decode cX10_keep 51 = .ok (.isub, 1) := by decide +kernel
theorem dX10_keep_52 : decode cX10_keep 52 = .ok (.ireturn, 1) := by decide +kernel
theorem dX10_kept_0 : decode cX10_kept 0 = .ok (.aload_n 0, 1) := by decide +kernel
theorem dX10_kept_1 : decode cX10_kept 1 = .ok (.iload_n 1, 1) := by decide +kernel
theorem dX10_kept_2 : decode cX10_kept 2 = .ok (.invokevirtual 163, 3) := by decide +kernel
theorem dX10_kept_5 : decode cX10_kept 5 = .ok (.ifCond .eq 17, 3) := by decide +kernel
theorem dX10_kept_8 : decode cX10_kept 8 = .ok (.aload_n 0, 1) := by decide +kernel
theorem dX10_kept_9 : decode cX10_kept 9 = .ok (.getfield 36, 3) := by decide +kernel
theorem dX10_kept_12 : decode cX10_kept 12 = .ok (.iload_n 1, 1) := by decide +kernel
theorem dX10_kept_13 : decode cX10_kept 13 = .ok (.aaload, 1) := by decide +kernel
theorem dX10_kept_14 : decode cX10_kept 14 = .ok (.iload_n 2, 1) := by decide +kernel
theorem dX10_kept_15 : decode cX10_kept 15 = .ok (.iload_n 3, 1) := by decide +kernel
theorem dX10_kept_16 : decode cX10_kept 16 = .ok (.invokevirtual 126, 3) := by decide +kernel
theorem dX10_kept_19 : decode cX10_kept 19 = .ok (.ifCond .ne 6, 3) := by decide +kernel
theorem dX10_kept_22 : decode cX10_kept 22 = .ok (.ldc 145, 2) := by decide +kernel
theorem dX10_kept_24 : decode cX10_kept 24 = .ok (.ireturn, 1) := by decide +kernel
theorem dX10_kept_25 : decode cX10_kept 25 = .ok (.aload_n 0, 1) := by decide +kernel
theorem dX10_kept_26 : decode cX10_kept 26 = .ok (.getfield 36, 3) := by decide +kernel
theorem dX10_kept_29 : decode cX10_kept 29 = .ok (.iload_n 1, 1) := by decide +kernel
theorem dX10_kept_30 : decode cX10_kept 30 = .ok (.aaload, 1) := by decide +kernel
theorem dX10_kept_31 : decode cX10_kept 31 = .ok (.iload_n 2, 1) := by decide +kernel
theorem dX10_kept_32 : decode cX10_kept 32 = .ok (.iload_n 3, 1) := by decide +kernel
theorem dX10_kept_33 : decode cX10_kept 33 = .ok (.invokevirtual 133, 3) := by decide +kernel
theorem dX10_kept_36 : decode cX10_kept 36 = .ok (.ireturn, 1) := by decide +kernel
theorem dX10_undo_0 : decode cX10_undo 0 = .ok (.aload_n 0, 1) := by decide +kernel
theorem dX10_undo_1 : decode cX10_undo 1 = .ok (.getfield 32, 3) := by decide +kernel
theorem dX10_undo_4 : decode cX10_undo 4 = .ok (.getfield 149, 3) := by decide +kernel
theorem dX10_undo_7 : decode cX10_undo 7 = .ok (.ifCond .ne 5, 3) := by decide +kernel
theorem dX10_undo_10 : decode cX10_undo 10 = .ok (.iconst (-1), 1) := by decide +kernel
theorem dX10_undo_11 : decode cX10_undo 11 = .ok (.ireturn, 1) := by decide +kernel
theorem dX10_undo_12 : decode cX10_undo 12 = .ok (.aload_n 0, 1) := by decide +kernel
theorem dX10_undo_13 : decode cX10_undo 13 = .ok (.getfield 32, 3) := by decide +kernel
theorem dX10_undo_16 : decode cX10_undo 16 = .ok (.aload_n 0, 1) := by decide +kernel
theorem dX10_undo_17 : decode cX10_undo 17 = .ok (.getfield 19, 3) := by decide +kernel
theorem dX10_undo_20 : decode cX10_undo 20 = .ok (.invokevirtual 173, 3) := by decide +kernel
theorem dX10_undo_23 : decode cX10_undo 23 = .ok (.aload_n 0, 1) := by decide +kernel
theorem dX10_undo_24 : decode cX10_undo 24 = .ok (.invokevirtual 176, 3) := by decide +kernel
theorem dX10_undo_27 : decode cX10_undo 27 = .ok (.aload_n 0, 1) := by decide +kernel
theorem dX10_undo_28 : decode cX10_undo 28 = .ok (.getfield 32, 3) := by decide +kernel
theorem dX10_undo_31 : decode cX10_undo 31 = .ok (.getfield 149, 3) := by decide +kernel
theorem dX10_undo_34 : decode cX10_undo 34 = .ok (.ireturn, 1) := by decide +kernel
theorem dX10_image_0 : decode cX10_image 0 = .ok (.aload_n 0, 1) := by decide +kernel
theorem dX10_image_1 : decode cX10_image 1 = .ok (.getfield 19, 3) := by decide +kernel
theorem dX10_image_4 : decode cX10_image 4 = .ok (.invokevirtual 152, 3) := by decide +kernel
theorem dX10_image_7 : decode cX10_image 7 = .ok (.ifCond .eq 5, 3) := by decide +kernel
theorem dX10_image_10 : decode cX10_image 10 = .ok (.iconst (-1), 1) := by decide +kernel
theorem dX10_image_11 : decode cX10_image 11 = .ok (.ireturn, 1) := by decide +kernel
theorem dX10_image_12 : decode cX10_image 12 = .ok (.aload_n 0, 1) := by decide +kernel
theorem dX10_image_13 : decode cX10_image 13 = .ok (.getfield 46, 3) := by decide +kernel
theorem dX10_image_16 : decode cX10_image 16 = .ok (.aload_n 0, 1) := by decide +kernel
theorem dX10_image_17 : decode cX10_image 17 = .ok (.getfield 19, 3) := by decide +kernel
theorem dX10_image_20 : decode cX10_image 20 = .ok (.invokevirtual 159, 3) := by decide +kernel
theorem dX10_image_23 : decode cX10_image 23 = .ok (.aload_n 0, 1) := by decide +kernel
theorem dX10_image_24 : decode cX10_image 24 = .ok (.aload_n 0, 1) := by decide +kernel
theorem dX10_image_25 : decode cX10_image 25 = .ok (.getfield 156, 3) := by decide +kernel
theorem dX10_image_28 : decode cX10_image 28 = .ok (.putfield 314, 3) := by decide +kernel
theorem dX10_image_31 : decode cX10_image 31 = .ok (.aload_n 0, 1) := by decide +kernel
theorem dX10_image_32 : decode cX10_image 32 = .ok (.getfield 156, 3) := by decide +kernel
theorem dX10_image_35 : decode cX10_image 35 = .ok (.ireturn, 1) := by decide +kernel
theorem dX10_back_0 : decode cX10_back 0 = .ok (.aload_n 0, 1) := by decide +kernel
theorem dX10_back_1 : decode cX10_back 1 = .ok (.getfield 46, 3) := by decide +kernel
theorem dX10_back_4 : decode cX10_back 4 = .ok (.invokevirtual 152, 3) := by decide +kernel
theorem dX10_back_7 : decode cX10_back 7 = .ok (.ifCond .eq 5, 3) := by decide +kernel
theorem dX10_back_10 : decode cX10_back 10 = .ok (.iconst (-1), 1) := by decide +kernel
theorem dX10_back_11 : decode cX10_back 11 = .ok (.ireturn, 1) := by decide +kernel
theorem dX10_back_12 : decode cX10_back 12 = .ok (.aload_n 0, 1) := by decide +kernel
theorem dX10_back_13 : decode cX10_back 13 = .ok (.getfield 19, 3) := by decide +kernel
theorem dX10_back_16 : decode cX10_back 16 = .ok (.aload_n 0, 1) := by decide +kernel
theorem dX10_back_17 : decode cX10_back 17 = .ok (.getfield 46, 3) := by decide +kernel
theorem dX10_back_20 : decode cX10_back 20 = .ok (.invokevirtual 159, 3) := by decide +kernel
theorem dX10_back_23 : decode cX10_back 23 = .ok (.aload_n 0, 1) := by decide +kernel
theorem dX10_back_24 : decode cX10_back 24 = .ok (.aload_n 0, 1) := by decide +kernel
theorem dX10_back_25 : decode cX10_back 25 = .ok (.getfield 314, 3) := by decide +kernel
theorem dX10_back_28 : decode cX10_back 28 = .ok (.putfield 156, 3) := by decide +kernel
theorem dX10_back_31 : decode cX10_back 31 = .ok (.aload_n 0, 1) := by decide +kernel
theorem dX10_back_32 : decode cX10_back 32 = .ok (.getfield 32, 3) := by decide +kernel
theorem dX10_back_35 : decode cX10_back 35 = .ok (.invokevirtual 317, 3) := by decide +kernel
theorem dX10_back_38 : decode cX10_back 38 = .ok (.aload_n 0, 1) := by decide +kernel
theorem dX10_back_39 : decode cX10_back 39 = .ok (.invokevirtual 176, 3) := by decide +kernel
theorem dX10_back_42 : decode cX10_back 42 = .ok (.aload_n 0, 1) := by decide +kernel
theorem dX10_back_43 : decode cX10_back 43 = .ok (.getfield 156, 3) := by decide +kernel
theorem dX10_back_46 : decode cX10_back 46 = .ok (.ireturn, 1) := by decide +kernel
theorem dX10_count_0 : decode cX10_count 0 = .ok (.iload_n 1, 1) := by decide +kernel
theorem dX10_count_1 : decode cX10_count 1 = .ok (.tableswitch 93 0 6 #[43, 51, 59, 64, 69, 77, 85], 43) := by decide +kernel
theorem dX10_count_44 : decode cX10_count 44 = .ok (.aload_n 0, 1) := by decide +kernel
theorem dX10_count_45 : decode cX10_count 45 = .ok (.getfield 19, 3) := by decide +kernel
theorem dX10_count_48 : decode cX10_count 48 = .ok (.getfield 170, 3) := by decide +kernel
theorem dX10_count_51 : decode cX10_count 51 = .ok (.ireturn, 1) := by decide +kernel
theorem dX10_count_52 : decode cX10_count 52 = .ok (.aload_n 0, 1) := by decide +kernel
theorem dX10_count_53 : decode cX10_count 53 = .ok (.getfield 19, 3) := by decide +kernel
theorem dX10_count_56 : decode cX10_count 56 = .ok (.getfield 269, 3) := by decide +kernel
theorem dX10_count_59 : decode cX10_count 59 = .ok (.ireturn, 1) := by decide +kernel
theorem dX10_count_60 : decode cX10_count 60 = .ok (.aload_n 0, 1) := by decide +kernel
theorem dX10_count_61 : decode cX10_count 61 = .ok (.getfield 156, 3) := by decide +kernel
theorem dX10_count_64 : decode cX10_count 64 = .ok (.ireturn, 1) := by decide +kernel
theorem dX10_count_65 : decode cX10_count 65 = .ok (.aload_n 0, 1) := by decide +kernel
theorem dX10_count_66 : decode cX10_count 66 = .ok (.getfield 115, 3) := by decide +kernel
theorem dX10_count_69 : decode cX10_count 69 = .ok (.ireturn, 1) := by decide +kernel
theorem dX10_count_70 : decode cX10_count 70 = .ok (.aload_n 0, 1) := by decide +kernel
theorem dX10_count_71 : decode cX10_count 71 = .ok (.getfield 12, 3) := by decide +kernel
theorem dX10_count_74 : decode cX10_count 74 = .ok (.getfield 103, 3) := by decide +kernel
theorem dX10_count_77 : decode cX10_count 77 = .ok (.ireturn, 1) := by decide +kernel
theorem dX10_count_78 : decode cX10_count 78 = .ok (.aload_n 0, 1) := by decide +kernel
theorem dX10_count_79 : decode cX10_count 79 = .ok (.getfield 32, 3) := by decide +kernel
theorem dX10_count_82 : decode cX10_count 82 = .ok (.getfield 149, 3) := by decide +kernel
theorem dX10_count_85 : decode cX10_count 85 = .ok (.ireturn, 1) := by decide +kernel
theorem dX10_count_86 : decode cX10_count 86 = .ok (.aload_n 0, 1) := by decide +kernel
theorem dX10_count_87 : decode cX10_count 87 = .ok (.getfield 19, 3) := by decide +kernel
theorem dX10_count_90 : decode cX10_count 90 = .ok (.invokevirtual 320, 3) := by decide +kernel
theorem dX10_count_93 : decode cX10_count 93 = .ok (.ireturn, 1) := by decide +kernel
theorem dX10_count_94 : decode cX10_count 94 = .ok (.ldc 145, 2) := by decide +kernel
theorem dX10_count_96 : decode cX10_count 96 = .ok (.ireturn, 1) := by decide +kernel
theorem dX10_actOfDeal_0 : decode cX10_actOfDeal 0 = .ok (.iload_n 0, 1) := by decide +kernel
theorem dX10_actOfDeal_1 : decode cX10_actOfDeal 1 = .ok (.ifCond .lt 10, 3) := by decide +kernel
theorem dX10_actOfDeal_4 : decode cX10_actOfDeal 4 = .ok (.iload_n 0, 1) := by decide +kernel
theorem dX10_actOfDeal_5 : decode cX10_actOfDeal 5 = .ok (.iconst 5, 1) := by decide +kernel
theorem dX10_actOfDeal_6 : decode cX10_actOfDeal 6 = .ok (.if_icmp .gt 5, 3) := by decide +kernel
theorem dX10_actOfDeal_9 : decode cX10_actOfDeal 9 = .ok (.iload_n 0, 1) := by decide +kernel
theorem dX10_actOfDeal_10 : decode cX10_actOfDeal 10 = .ok (.ireturn, 1) := by decide +kernel
theorem dX10_actOfDeal_11 : decode cX10_actOfDeal 11 = .ok (.iload_n 0, 1) := by decide +kernel
theorem dX10_actOfDeal_12 : decode cX10_actOfDeal 12 = .ok (.bipush 6, 2) := by decide +kernel
theorem dX10_actOfDeal_14 : decode cX10_actOfDeal 14 = .ok (.if_icmp .ne 6, 3) := by decide +kernel
theorem dX10_actOfDeal_17 : decode cX10_actOfDeal 17 = .ok (.bipush 7, 2) := by decide +kernel
theorem dX10_actOfDeal_19 : decode cX10_actOfDeal 19 = .ok (.ireturn, 1) := by decide +kernel
theorem dX10_actOfDeal_20 : decode cX10_actOfDeal 20 = .ok (.iload_n 0, 1) := by decide +kernel
theorem dX10_actOfDeal_21 : decode cX10_actOfDeal 21 = .ok (.bipush 7, 2) := by decide +kernel
theorem dX10_actOfDeal_23 : decode cX10_actOfDeal 23 = .ok (.if_icmp .ne 8, 3) := by decide +kernel
theorem dX10_actOfDeal_26 : decode cX10_actOfDeal 26 = .ok (.bipush 8, 2) := by decide +kernel
theorem dX10_actOfDeal_28 : decode cX10_actOfDeal 28 = .ok (.goto 4, 3) := by decide +kernel
theorem dX10_actOfDeal_31 : decode cX10_actOfDeal 31 = .ok (.iconst (-1), 1) := by decide +kernel
theorem dX10_actOfDeal_32 : decode cX10_actOfDeal 32 = .ok (.ireturn, 1) := by decide +kernel
theorem dX10_attempt_0 : decode cX10_attempt 0 = .ok (.aload_n 0, 1) := by decide +kernel
theorem dX10_attempt_1 : decode cX10_attempt 1 = .ok (.getfield 19, 3) := by decide +kernel
theorem dX10_attempt_4 : decode cX10_attempt 4 = .ok (.invokevirtual 152, 3) := by decide +kernel
theorem dX10_attempt_7 : decode cX10_attempt 7 = .ok (.ifCond .eq 5, 3) := by decide +kernel
theorem dX10_attempt_10 : decode cX10_attempt 10 = .ok (.iconst 0, 1) := by decide +kernel
theorem dX10_attempt_11 : decode cX10_attempt 11 = .ok (.ireturn, 1) := by decide +kernel
theorem dX10_attempt_12 : decode cX10_attempt 12 = .ok (.aload_n 0, 1) := by decide +kernel
theorem dX10_attempt_13 : decode cX10_attempt 13 = .ok (.getfield 23, 3) := by decide +kernel
theorem dX10_attempt_16 : decode cX10_attempt 16 = .ok (.aload_n 0, 1) := by decide +kernel
theorem dX10_attempt_17 : decode cX10_attempt 17 = .ok (.getfield 19, 3) := by decide +kernel
theorem dX10_attempt_20 : decode cX10_attempt 20 = .ok (.invokevirtual 159, 3) := by decide +kernel
theorem dX10_attempt_23 : decode cX10_attempt 23 = .ok (.aload_n 0, 1) := by decide +kernel
theorem dX10_attempt_24 : decode cX10_attempt 24 = .ok (.aload_n 0, 1) := by decide +kernel
theorem dX10_attempt_25 : decode cX10_attempt 25 = .ok (.getfield 19, 3) := by decide +kernel
theorem dX10_attempt_28 : decode cX10_attempt 28 = .ok (.iload_n 1, 1) := by decide +kernel
theorem dX10_attempt_29 : decode cX10_attempt 29 = .ok (.iload_n 2, 1) := by decide +kernel
theorem dX10_attempt_30 : decode cX10_attempt 30 = .ok (.iload_n 3, 1) := by decide +kernel
theorem dX10_attempt_31 : decode cX10_attempt 31 = .ok (.iload 4, 2) := by decide +kernel
theorem dX10_attempt_33 : decode cX10_attempt 33 = .ok (.invokevirtual 304, 3) := by decide +kernel
theorem dX10_attempt_36 : decode cX10_attempt 36 = .ok (.invokevirtual 323, 3) := by decide +kernel
theorem dX10_attempt_39 : decode cX10_attempt 39 = .ok (.ireturn, 1) := by decide +kernel
theorem dX10_change_0 : decode cX10_change 0 = .ok (.aload_n 0, 1) := by decide +kernel
theorem dX10_change_1 : decode cX10_change 1 = .ok (.getfield 19, 3) := by decide +kernel
theorem dX10_change_4 : decode cX10_change 4 = .ok (.iload_n 1, 1) := by decide +kernel
theorem dX10_change_5 : decode cX10_change 5 = .ok (.iload_n 2, 1) := by decide +kernel
theorem dX10_change_6 : decode cX10_change 6 = .ok (.invokevirtual 133, 3) := by decide +kernel
theorem dX10_change_9 : decode cX10_change 9 = .ok (.istore 4, 2) := by decide +kernel
theorem dX10_change_11 : decode cX10_change 11 = .ok (.aload_n 0, 1) := by decide +kernel
theorem dX10_change_12 : decode cX10_change 12 = .ok (.aload_n 0, 1) := by decide +kernel
theorem dX10_change_13 : decode cX10_change 13 = .ok (.bipush 6, 2) := by decide +kernel
theorem dX10_change_15 : decode cX10_change 15 = .ok (.iload_n 1, 1) := by decide +kernel
theorem dX10_change_16 : decode cX10_change 16 = .ok (.iload_n 2, 1) := by decide +kernel
theorem dX10_change_17 : decode cX10_change 17 = .ok (.iload_n 3, 1) := by decide +kernel
theorem dX10_change_18 : decode cX10_change 18 = .ok (.invokevirtual 137, 3) := by decide +kernel
theorem dX10_change_21 : decode cX10_change 21 = .ok (.invokevirtual 141, 3) := by decide +kernel
theorem dX10_change_24 : decode cX10_change 24 = .ok (.ifCond .eq 8, 3) := by decide +kernel
theorem dX10_change_27 : decode cX10_change 27 = .ok (.ldc 145, 2) := by decide +kernel
theorem dX10_change_29 : decode cX10_change 29 = .ok (.goto 5, 3) := by decide +kernel
theorem dX10_change_32 : decode cX10_change 32 = .ok (.iload 4, 2) := by decide +kernel
theorem dX10_change_34 : decode cX10_change 34 = .ok (.ireturn, 1) := by decide +kernel
theorem dX10_deal_0 : decode cX10_deal 0 = .ok (.aload_n 0, 1) := by decide +kernel
theorem dX10_deal_1 : decode cX10_deal 1 = .ok (.aload_n 0, 1) := by decide +kernel
theorem dX10_deal_2 : decode cX10_deal 2 = .ok (.iload_n 1, 1) := by decide +kernel
theorem dX10_deal_3 : decode cX10_deal 3 = .ok (.invokestatic 146, 3) := by decide +kernel
theorem dX10_deal_6 : decode cX10_deal 6 = .ok (.iload_n 2, 1) := by decide +kernel
theorem dX10_deal_7 : decode cX10_deal 7 = .ok (.iload_n 3, 1) := by decide +kernel
theorem dX10_deal_8 : decode cX10_deal 8 = .ok (.iconst 0, 1) := by decide +kernel
theorem dX10_deal_9 : decode cX10_deal 9 = .ok (.invokevirtual 137, 3) := by decide +kernel
theorem dX10_deal_12 : decode cX10_deal 12 = .ok (.invokevirtual 141, 3) := by decide +kernel
theorem dX10_deal_15 : decode cX10_deal 15 = .ok (.ifCond .eq 7, 3) := by decide +kernel
theorem dX10_deal_18 : decode cX10_deal 18 = .ok (.iconst (-1), 1) := by decide +kernel
theorem dX10_deal_19 : decode cX10_deal 19 = .ok (.goto 10, 3) := by decide +kernel
theorem dX10_deal_22 : decode cX10_deal 22 = .ok (.aload_n 0, 1) := by decide +kernel
theorem dX10_deal_23 : decode cX10_deal 23 = .ok (.getfield 32, 3) := by decide +kernel
theorem dX10_deal_26 : decode cX10_deal 26 = .ok (.getfield 149, 3) := by decide +kernel
theorem dX10_deal_29 : decode cX10_deal 29 = .ok (.ireturn, 1) := by decide +kernel
theorem dX10_attemptSum_0 : decode cX10_attemptSum 0 = .ok (.aload_n 0, 1) := by decide +kernel
theorem dX10_attemptSum_1 : decode cX10_attemptSum 1 = .ok (.iload_n 1, 1) := by decide +kernel
theorem dX10_attemptSum_2 : decode cX10_attemptSum 2 = .ok (.invokevirtual 163, 3) := by decide +kernel
theorem dX10_attemptSum_5 : decode cX10_attemptSum 5 = .ok (.ifCond .eq 11, 3) := by decide +kernel
theorem dX10_attemptSum_8 : decode cX10_attemptSum 8 = .ok (.aload_n 0, 1) := by decide +kernel
theorem dX10_attemptSum_9 : decode cX10_attemptSum 9 = .ok (.iload_n 2, 1) := by decide +kernel
theorem dX10_attemptSum_10 : decode cX10_attemptSum 10 = .ok (.invokevirtual 163, 3) := by decide +kernel
theorem dX10_attemptSum_13 : decode cX10_attemptSum 13 = .ok (.ifCond .ne 5, 3) := by decide +kernel
theorem dX10_attemptSum_16 : decode cX10_attemptSum 16 = .ok (.iconst 0, 1) := by decide +kernel
theorem dX10_attemptSum_17 : decode cX10_attemptSum 17 = .ok (.ireturn, 1) := by decide +kernel
theorem dX10_attemptSum_18 : decode cX10_attemptSum 18 = .ok (.iload_n 3, 1) := by decide +kernel
theorem dX10_attemptSum_19 : decode cX10_attemptSum 19 = .ok (.ifCond .eq 10, 3) := by decide +kernel
theorem dX10_attemptSum_22 : decode cX10_attemptSum 22 = .ok (.iload_n 3, 1) := by decide +kernel
theorem dX10_attemptSum_23 : decode cX10_attemptSum 23 = .ok (.iconst 1, 1) := by decide +kernel
theorem dX10_attemptSum_24 : decode cX10_attemptSum 24 = .ok (.if_icmp .eq 5, 3) := by decide +kernel
theorem dX10_attemptSum_27 : decode cX10_attemptSum 27 = .ok (.iconst 1, 1) := by decide +kernel
theorem dX10_attemptSum_28 : decode cX10_attemptSum 28 = .ok (.ireturn, 1) := by decide +kernel
theorem dX10_attemptSum_29 : decode cX10_attemptSum 29 = .ok (.aload_n 0, 1) := by decide +kernel
theorem dX10_attemptSum_30 : decode cX10_attemptSum 30 = .ok (.getfield 23, 3) := by decide +kernel
theorem dX10_attemptSum_33 : decode cX10_attemptSum 33 = .ok (.aload_n 0, 1) := by decide +kernel
theorem dX10_attemptSum_34 : decode cX10_attemptSum 34 = .ok (.getfield 19, 3) := by decide +kernel
theorem dX10_attemptSum_37 : decode cX10_attemptSum 37 = .ok (.invokevirtual 159, 3) := by decide +kernel
theorem dX10_attemptSum_40 : decode cX10_attemptSum 40 = .ok (.aload_n 0, 1) := by decide +kernel
theorem dX10_attemptSum_41 : decode cX10_attemptSum 41 = .ok (.getfield 36, 3) := by decide +kernel
theorem dX10_attemptSum_44 : decode cX10_attemptSum 44 = .ok (.iload_n 1, 1) := by decide +kernel
theorem dX10_attemptSum_45 : decode cX10_attemptSum 45 = .ok (.aaload, 1) := by decide +kernel
theorem dX10_attemptSum_46 : decode cX10_attemptSum 46 = .ok (.astore 4, 2) := by decide +kernel
theorem dX10_attemptSum_48 : decode cX10_attemptSum 48 = .ok (.aload_n 0, 1) := by decide +kernel
theorem dX10_attemptSum_49 : decode cX10_attemptSum 49 = .ok (.getfield 36, 3) := by decide +kernel
theorem dX10_attemptSum_52 : decode cX10_attemptSum 52 = .ok (.iload_n 2, 1) := by decide +kernel
theorem dX10_attemptSum_53 : decode cX10_attemptSum 53 = .ok (.aaload, 1) := by decide +kernel
theorem dX10_attemptSum_54 : decode cX10_attemptSum 54 = .ok (.astore 5, 2) := by decide +kernel
theorem dX10_attemptSum_56 : decode cX10_attemptSum 56 = .ok (.aload_n 0, 1) := by decide +kernel
theorem dX10_attemptSum_57 : decode cX10_attemptSum 57 = .ok (.iload_n 3, 1) := by decide +kernel
theorem dX10_attemptSum_58 : decode cX10_attemptSum 58 = .ok (.ifCond .ne 17, 3) := by decide +kernel
theorem dX10_attemptSum_61 : decode cX10_attemptSum 61 = .ok (.aload_n 0, 1) := by decide +kernel
theorem dX10_attemptSum_62 : decode cX10_attemptSum 62 = .ok (.getfield 19, 3) := by decide +kernel
theorem dX10_attemptSum_65 : decode cX10_attemptSum 65 = .ok (.aload 4, 2) := by decide +kernel
theorem dX10_attemptSum_67 : decode cX10_attemptSum 67 = .ok (.aload 5, 2) := by decide +kernel
theorem dX10_attemptSum_69 : decode cX10_attemptSum 69 = .ok (.invokevirtual 326, 3) := by decide +kernel
theorem dX10_attemptSum_72 : decode cX10_attemptSum 72 = .ok (.goto 14, 3) := by decide +kernel
theorem dX10_attemptSum_75 : decode cX10_attemptSum 75 = .ok (.aload_n 0, 1) := by decide +kernel
theorem dX10_attemptSum_76 : decode cX10_attemptSum 76 = .ok (.getfield 19, 3) := by decide +kernel
theorem dX10_attemptSum_79 : decode cX10_attemptSum 79 = .ok (.aload 4, 2) := by decide +kernel
theorem dX10_attemptSum_81 : decode cX10_attemptSum 81 = .ok (.aload 5, 2) := by decide +kernel
theorem dX10_attemptSum_83 : decode cX10_attemptSum 83 = .ok (.invokevirtual 330, 3) := by decide +kernel
theorem dX10_attemptSum_86 : decode cX10_attemptSum 86 = .ok (.invokevirtual 323, 3) := by decide +kernel
theorem dX10_attemptSum_89 : decode cX10_attemptSum 89 = .ok (.ireturn, 1) := by decide +kernel
theorem dX10_join_0 : decode cX10_join 0 = .ok (.aload_n 0, 1) := by decide +kernel
theorem dX10_join_1 : decode cX10_join 1 = .ok (.aload_n 0, 1) := by decide +kernel
theorem dX10_join_2 : decode cX10_join 2 = .ok (.iload_n 1, 1) := by decide +kernel
theorem dX10_join_3 : decode cX10_join 3 = .ok (.iload_n 2, 1) := by decide +kernel
theorem dX10_join_4 : decode cX10_join 4 = .ok (.iload_n 3, 1) := by decide +kernel
theorem dX10_join_5 : decode cX10_join 5 = .ok (.invokevirtual 166, 3) := by decide +kernel
theorem dX10_join_8 : decode cX10_join 8 = .ok (.invokevirtual 141, 3) := by decide +kernel
theorem dX10_join_11 : decode cX10_join 11 = .ok (.ifCond .eq 7, 3) := by decide +kernel
theorem dX10_join_14 : decode cX10_join 14 = .ok (.iconst (-1), 1) := by decide +kernel
theorem dX10_join_15 : decode cX10_join 15 = .ok (.goto 10, 3) := by decide +kernel
theorem dX10_join_18 : decode cX10_join 18 = .ok (.aload_n 0, 1) := by decide +kernel
theorem dX10_join_19 : decode cX10_join 19 = .ok (.getfield 19, 3) := by decide +kernel
theorem dX10_join_22 : decode cX10_join 22 = .ok (.getfield 170, 3) := by decide +kernel
theorem dX10_join_25 : decode cX10_join 25 = .ok (.ireturn, 1) := by decide +kernel
theorem rem40 : ∀ a, a < 80 → nI a - nI a / 40 * 40 = nI (a % 40) := by decide +kernel
section PIECES
variable {L : List Nat} {σ τ : sg} {α : aS}
def scT (i : Nat) : Prop := scq i ∨ i = 19 ∨ i = 20
theorem CInv.mv (ok : aOK α) (h : CInv σ α) (e : AE L σ τ) (d : ∀ i, i ∈ L → scT i) (ht : CT τ i_table (tT α)) : CInv τ α := by
  obtain ⟨q1, q2, q3, q4, q5, q6, q7, q8, q9⟩ := h
  have k4 := ok.2.2.2.1.1
  have s4 := ok.2.2.2.2.1.1
  refine ⟨q1.ae e ?_, ht, q3.ae k4 e ?_, q4.ae e ?_, q5.ae e ?_, q6.ae e ?_, q7.ae e ?_, q8.ae e ?_, q9.ae e ?_⟩
  all_goals (intro i q; have z := d i q; unfold scT scq at z; omega)
def scP (i : Nat) : Prop := scT i ∨ i = 25 ∨ (27 ≤ i ∧ i ≤ 106) ∨ i = 112 ∨ i = 114 ∨ i = 119 ∨ i = 124
theorem CInv.push (ok : aOK α) (h : CInv σ α) (e : AE L σ τ) (d : ∀ i, i ∈ L → scP i) {T : tb} {P : Nat × (Nat → tb)} (ht : CT τ i_table T) (hP : CI5 τ P) (hc : CC τ T) : CInv τ (α.1, T, α.2.2.1, α.2.2.2.1, P, α.2.2.2.2.2) := by
  obtain ⟨q1, q2, q3, q4, q5, q6, q7, q8, q9⟩ := h
  have k4 := ok.2.2.2.1.1
  have s4 := ok.2.2.2.2.1.1
  refine ⟨q1.ae e ?_, ht, q3.ae k4 e ?_, q4.ae e ?_, hP, q6.ae e ?_, q7.ae e ?_, q8.ae e ?_, hc⟩
  all_goals (intro i q; have z := d i q; unfold scP scT scq at z; omega)
end PIECES
theorem co_end {σ : sg} {x : aW} {α : aS} (h : CInv σ α) (ok : aOK α) (n : Int32) : Mt mX10_end 0 0 0 [.ref i_U, .int n] (wd σ x) (CPost σ x (opEnd α n).1 (opEnd α n).2) := by
  refine Mt.of MI_X10_end (Nat.le_of_ble_eq_true rfl) (fun X hC hR hT => ?_)
  have e1 := nI_toInt (n := (tp α).1) (by have := ok.1; omega)
  refine R_iload_n (i := 1) hC dX10_end_0 rfl rfl ?_
  refine R_if_lt hC 15 dX10_end_1 (by decide) (fun h1 => ?_) (fun h1 => ?_)
  · refine R_iconst (v := 0) hC dX10_end_15 (by decide) ?_
    exact R_zret hC hT dX10_end_16 rfl (by decide) (by
    have e2 : opEnd α n = (0, α) := by unfold opEnd; rw [if_neg (by simp only [i32_ge, i32_lt, Int32.toInt_zero, e1] at *; omega)]
    rw [e2]; exact CPost.i h (MEq.rf _))
  · refine R_iload_n (i := 1) hC dX10_end_4 rfl rfl (R_aload_n (i := 0) hC dX10_end_5 rfl rfl (R_gR hC dX10_end_6 fl_X10_12 L_U rfl (R_gI hC dX10_end_9 fl_X10_103 L_tape rfl ?_)))
    refine R_top (y := nI (tp α).1) (h.1.1) ?_
    refine R_icmp_le hC 17 dX10_end_12 (by decide) (fun h12 => ?_) (fun h12 => ?_)
    · refine R_aload_n (i := 0) hC dX10_end_17 rfl rfl (R_gR hC dX10_end_18 fl_X10_12 L_U rfl (R_iload_n (i := 1) hC dX10_end_21 rfl rfl (R_pI hC dX10_end_22 fl_X10_103 L_tape rfl (R_iconst (v := 1) hC dX10_end_25 (by decide) ?_))))
      exact R_zret hC hT dX10_end_26 rfl (by decide) (by
      have hn : 0 ≤ n.toInt ∧ n.toInt ≤ (tp α).1 := by simp only [i32_ge, i32_lt, Int32.toInt_zero, e1] at *; omega
      have e2 : opEnd α n = (1, (n.toNatClampNeg, (tp α).2), α.2) := by unfold opEnd; rw [if_pos hn]
      obtain ⟨j, rfl, hj, hj2⟩ := i32_nI hn.1
      rw [nI_clamp hj2] at e2
      rw [e2]
      refine CPost.i ?_ ((MEq.rf σ).g (by decide))
      have ea : AE [17] σ (sG σ i_tape 1 (nI j)) := (AE.rf _ σ).g List.mem_cons_self
      obtain ⟨q1, q2, q3, q4, q5, q6, q7, q8, q9⟩ := h
      exact ⟨⟨sG_eq _ _ _ _, fun i hi => q1.2 i (by have hi : i < j := hi; omega)⟩, q2.ae ea (by decide) (by decide), q3.ae ok.2.2.2.1.1 ea (by decide), q4.ae ea (by intro i q; rw [List.mem_singleton] at q; omega), q5.ae ea (by decide), q6.ae ea (by decide), q7.ae ea (by decide), q8.ae ea (by decide), q9.ae ea (by decide)⟩)
    · refine R_iconst (v := 0) hC dX10_end_15 (by decide) ?_
      exact R_zret hC hT dX10_end_16 rfl (by decide) (by
      have e2 : opEnd α n = (0, α) := by unfold opEnd; rw [if_neg (by simp only [i32_ge, i32_lt, Int32.toInt_zero, e1] at *; omega)]
      rw [e2]; exact CPost.i h (MEq.rf _))
theorem co_status {σ : sg} {x : aW} {α : aS} (h : CInv σ α) (k : Int32) : Mt mX10_status 0 0 0 [.ref i_U, .int k] (wd σ x) (CPost σ x (opStatus α k) α) := by
  refine Mt.of MI_X10_status (Nat.le_of_ble_eq_true rfl) (fun X hC hR hT => ?_)
  have e4 : (4 : Int32).toInt = 4 := by decide
  refine R_iload_n (i := 1) hC dX10_status_0 rfl rfl ?_
  refine R_if_lt hC 18 dX10_status_1 (by decide) (fun h1 => ?_) (fun h1 => ?_)
  · have hk : ¬ (0 ≤ k.toInt ∧ k.toInt ≤ 3) := by simp only [i32_ge, i32_lt, Int32.toInt_zero, e4] at *; omega
    have e2 : opStatus α k = -1 := by unfold opStatus; rw [if_neg hk]
    refine R_iconst (v := (-1)) hC dX10_status_18 (by decide) ?_
    exact R_iret hC hT dX10_status_19 rfl (by rw [e2]; first | (rw [← h.2.2.2.2.2.1 j (by omega)]; exact CPost.i h (MEq.rf _)) | exact CPost.i h (MEq.rf _))
  · refine R_iload_n (i := 1) hC dX10_status_4 rfl rfl (R_iconst (v := 4) hC dX10_status_5 (by decide) ?_)
    refine R_icmp_ge hC 18 dX10_status_6 (by decide) (fun h6 => ?_) (fun h6 => ?_)
    · have hk : ¬ (0 ≤ k.toInt ∧ k.toInt ≤ 3) := by simp only [i32_ge, i32_lt, Int32.toInt_zero, e4] at *; omega
      have e2 : opStatus α k = -1 := by unfold opStatus; rw [if_neg hk]
      refine R_iconst (v := (-1)) hC dX10_status_18 (by decide) ?_
      exact R_iret hC hT dX10_status_19 rfl (by rw [e2]; first | (rw [← h.2.2.2.2.2.1 j (by omega)]; exact CPost.i h (MEq.rf _)) | exact CPost.i h (MEq.rf _))
    · have hk : 0 ≤ k.toInt ∧ k.toInt ≤ 3 := by simp only [i32_ge, i32_lt, Int32.toInt_zero, e4] at *; omega
      have e2 : opStatus α k = tZ α k.toNatClampNeg := by unfold opStatus; rw [if_pos hk]
      obtain ⟨j, rfl, hj, hj2⟩ := i32_nI hk.1
      rw [nI_clamp hj2] at e2
      refine R_aload_n (i := 0) hC dX10_status_9 rfl rfl (R_gR hC dX10_status_10 fl_X10_49 L_U rfl (R_iload_n (i := 1) hC dX10_status_13 rfl rfl (R_aI hC dX10_status_14 L_refu j rfl (by omega) (by decide) (R_goto hC 19 dX10_status_15 (by decide) ?_))))
      exact R_iret hC hT dX10_status_19 rfl (by rw [e2]; first | (rw [← h.2.2.2.2.2.1 j (by omega)]; exact CPost.i h (MEq.rf _)) | exact CPost.i h (MEq.rf _))
theorem c_isKept {σ : sg} {x : aW} {α : aS} (h : CInv σ α) (ok : aOK α) (k : Int32) : Mt mX10_isKept 0 0 0 [.ref i_U, .int k] (wd σ x) (QI (b2i (inR (tK α).1 k)) (wd σ x)) := by
  unfold inR
  refine Mt.of MI_X10_isKept (Nat.le_of_ble_eq_true rfl) (fun X hC hR hT => ?_)
  have e1 := nI_toInt (n := (tK α).1) (by have := ok.2.2.2.1.1; omega)
  refine R_iload_n (i := 1) hC dX10_isKept_0 rfl rfl ?_
  refine R_if_lt hC 16 dX10_isKept_1 (by decide) (fun h1 => ?_) (fun h1 => ?_)
  · refine R_iconst (v := 0) hC dX10_isKept_16 (by decide) ?_
    exact R_zret hC hT dX10_isKept_17 rfl (by decide) ⟨by simp only [i32_ge, i32_lt, Int32.toInt_zero, e1] at *; first | (rw [b2i_t (by omega)]; done) | (rw [b2i_f (by omega)]; done), rfl⟩
  · refine R_iload_n (i := 1) hC dX10_isKept_4 rfl rfl (R_aload_n (i := 0) hC dX10_isKept_5 rfl rfl (R_gI hC dX10_isKept_6 fl_X10_156 L_U rfl ?_))
    refine R_top (y := nI (tK α).1) (h.2.2.1.1) ?_
    refine R_icmp_ge hC 16 dX10_isKept_9 (by decide) (fun h9 => ?_) (fun h9 => ?_)
    · refine R_iconst (v := 0) hC dX10_isKept_16 (by decide) ?_
      exact R_zret hC hT dX10_isKept_17 rfl (by decide) ⟨by simp only [i32_ge, i32_lt, Int32.toInt_zero, e1] at *; first | (rw [b2i_t (by omega)]; done) | (rw [b2i_f (by omega)]; done), rfl⟩
    · refine R_iconst (v := 1) hC dX10_isKept_12 (by decide) (R_goto hC 17 dX10_isKept_13 (by decide) ?_)
      exact R_zret hC hT dX10_isKept_17 rfl (by decide) ⟨by simp only [i32_ge, i32_lt, Int32.toInt_zero, e1] at *; first | (rw [b2i_t (by omega)]; done) | (rw [b2i_f (by omega)]; done), rfl⟩
theorem c_isScript {σ : sg} {x : aW} {α : aS} (h : CInv σ α) (ok : aOK α) (k : Int32) : Mt mX10_isScript 0 0 0 [.ref i_U, .int k] (wd σ x) (QI (b2i (inR (tS α).1 k)) (wd σ x)) := by
  unfold inR
  refine Mt.of MI_X10_isScript (Nat.le_of_ble_eq_true rfl) (fun X hC hR hT => ?_)
  have e1 := nI_toInt (n := (tS α).1) (by have := ok.2.2.2.2.1.1; omega)
  refine R_iload_n (i := 1) hC dX10_isScript_0 rfl rfl ?_
  refine R_if_lt hC 16 dX10_isScript_1 (by decide) (fun h1 => ?_) (fun h1 => ?_)
  · refine R_iconst (v := 0) hC dX10_isScript_16 (by decide) ?_
    exact R_zret hC hT dX10_isScript_17 rfl (by decide) ⟨by simp only [i32_ge, i32_lt, Int32.toInt_zero, e1] at *; first | (rw [b2i_t (by omega)]; done) | (rw [b2i_f (by omega)]; done), rfl⟩
  · refine R_iload_n (i := 1) hC dX10_isScript_4 rfl rfl (R_aload_n (i := 0) hC dX10_isScript_5 rfl rfl (R_gI hC dX10_isScript_6 fl_X10_115 L_U rfl ?_))
    refine R_top (y := nI (tS α).1) (h.2.2.2.1.1) ?_
    refine R_icmp_ge hC 16 dX10_isScript_9 (by decide) (fun h9 => ?_) (fun h9 => ?_)
    · refine R_iconst (v := 0) hC dX10_isScript_16 (by decide) ?_
      exact R_zret hC hT dX10_isScript_17 rfl (by decide) ⟨by simp only [i32_ge, i32_lt, Int32.toInt_zero, e1] at *; first | (rw [b2i_t (by omega)]; done) | (rw [b2i_f (by omega)]; done), rfl⟩
    · refine R_iconst (v := 1) hC dX10_isScript_12 (by decide) (R_goto hC 17 dX10_isScript_13 (by decide) ?_)
      exact R_zret hC hT dX10_isScript_17 rfl (by decide) ⟨by simp only [i32_ge, i32_lt, Int32.toInt_zero, e1] at *; first | (rw [b2i_t (by omega)]; done) | (rw [b2i_f (by omega)]; done), rfl⟩
theorem c_refusedY (σ : sg) (x : aW) (j : Nat) (hj : j < 4) : Mt mX10_refused 0 0 0 [.ref i_U, .int (nI j)] (wd σ x) (QI 1 (wd (sA σ i_refu (upd (σ.2.2 i_refu) j (σ.2.2 i_refu j + 1))) x)) := by
  refine Mt.of MI_X10_refused (Nat.le_of_ble_eq_true rfl) (fun X hC hR hT => ?_)
  refine R_iload_n (i := 1) hC dX10_refused_0 rfl rfl ?_
  refine R_if_lt hC 9 dX10_refused_1 (by decide) (fun h => absurd h (nI_pos (by omega))) (fun _ => ?_)
  refine R_iload_n (i := 1) hC dX10_refused_4 rfl rfl (R_iconst (v := 4) hC dX10_refused_5 (by decide) ?_)
  refine R_icmp_lt hC 11 dX10_refused_6 (by decide) (fun _ => ?_) (fun h => absurd (nI_lt (b := 4) hj (by decide)) h)
  refine R_aload_n (i := 0) hC dX10_refused_11 rfl rfl (R_gR hC dX10_refused_12 fl_X10_49 L_U rfl (R_iload_n (i := 1) hC dX10_refused_15 rfl rfl (R_dup2 hC dX10_refused_16 rfl rfl (R_aI hC dX10_refused_17 L_refu j rfl hj (by decide) (R_iconst (v := 1) hC dX10_refused_18 (by decide) (R_iadd hC dX10_refused_19 (R_sI hC dX10_refused_20 L_refu j rfl hj (by decide) ?_)))))))
  refine R_iconst (v := 1) hC dX10_refused_21 (by decide) ?_
  exact R_zret hC hT dX10_refused_22 rfl (by decide) ⟨rfl, rfl⟩
theorem c_refusedN (σ : sg) (x : aW) : Mt mX10_refused 0 0 0 [.ref i_U, .int (-1)] (wd σ x) (QI 0 (wd σ x)) := by
  refine Mt.of MI_X10_refused (Nat.le_of_ble_eq_true rfl) (fun X hC hR hT => ?_)
  refine R_iload_n (i := 1) hC dX10_refused_0 rfl rfl ?_
  refine R_if_lt hC 9 dX10_refused_1 (by decide) (fun _ => ?_) (fun h => absurd (by decide) h)
  refine R_iconst (v := 0) hC dX10_refused_9 (by decide) ?_
  exact R_zret hC hT dX10_refused_10 rfl (by decide) ⟨rfl, rfl⟩
theorem CInv.stat {σ : sg} {α : aS} (ok : aOK α) (h : CInv σ α) {j : Nat} (hj : j < 4) : CInv (sA σ i_refu (upd (σ.2.2 i_refu) j (σ.2.2 i_refu j + 1))) (withZ α j) := by
  have ea : AE [111] σ (sA σ i_refu (upd (σ.2.2 i_refu) j (σ.2.2 i_refu j + 1))) := (AE.rf _ σ).a List.mem_cons_self
  obtain ⟨q1, q2, q3, q4, q5, q6, q7, q8, q9⟩ := h
  have s4 := ok.2.2.2.2.1.1
  refine ⟨q1.ae ea (by decide), q2.ae ea (by decide) (by decide), q3.ae ok.2.2.2.1.1 ea (by decide), q4.ae ea (by intro i q; rw [List.mem_singleton] at q; omega), q5.ae ea (by decide), fun i hi => ?_, q7.ae ea (by decide), q8.ae ea (by decide), q9.ae ea (by decide)⟩
  rw [sA_eq]
  show upd _ j _ i = if i = j then tZ α i + 1 else tZ α i
  unfold upd
  by_cases e : i = j
  · rw [if_pos e, if_pos e, e, q6 j hj]
  · rw [if_neg e, if_neg e, q6 i hi]
def fgt (σ : sg) : sg := sG (sG (sG (sG σ i_minors 5 0) i_tree 4 0) i_cotree 4 0) i_signing 7 0
theorem fgt_ae (σ : sg) : AE [112, 114, 119, 124] σ (fgt σ) := ((((AE.rf _ σ).g (by decide)).g (by decide)).g (by decide)).g (by decide)
theorem fgt_cc (σ : sg) (T : tb) : CC (fgt σ) T := by
  refine CC.none ?_ ?_ ?_ ?_
  · exact (sG_ni (by decide)).trans ((sG_ni (by decide)).trans ((sG_ni (by decide)).trans (sG_eq σ 112 5 0)))
  · exact (sG_ni (by decide)).trans ((sG_ni (by decide)).trans (sG_eq _ 114 4 0))
  · exact (sG_ni (by decide)).trans (sG_eq _ 119 4 0)
  · exact sG_eq _ 124 7 0
theorem c_forget (σ : sg) (x : aW) : Mt mX10_forget 0 0 0 [.ref i_U] (wd σ x) (QV (wd (fgt σ) x)) := by
  refine Mt.of MI_X10_forget (Nat.le_of_ble_eq_true rfl) (fun X hC hR hT => ?_)
  refine R_aload_n (i := 0) hC dX10_forget_0 rfl rfl (R_gR hC dX10_forget_1 fl_X10_56 L_U rfl (R_iconst (v := 0) hC dX10_forget_4 (by decide) (R_pZ hC dX10_forget_5 fl_X10_339 L_minors rfl (by first | exact Or.inl rfl | exact Or.inr rfl) (R_aload_n (i := 0) hC dX10_forget_8 rfl rfl (R_gR hC dX10_forget_9 fl_X10_63 L_U rfl (R_iconst (v := 0) hC dX10_forget_12 (by decide) (R_pZ hC dX10_forget_13 fl_X10_342 L_tree rfl (by first | exact Or.inl rfl | exact Or.inr rfl) ?_)))))))
  refine R_aload_n (i := 0) hC dX10_forget_16 rfl rfl (R_gR hC dX10_forget_17 fl_X10_67 L_U rfl (R_iconst (v := 0) hC dX10_forget_20 (by decide) (R_pZ hC dX10_forget_21 fl_X10_342 L_cotree rfl (by first | exact Or.inl rfl | exact Or.inr rfl) (R_aload_n (i := 0) hC dX10_forget_24 rfl rfl (R_gR hC dX10_forget_25 fl_X10_73 L_U rfl (R_iconst (v := 0) hC dX10_forget_28 (by decide) (R_pZ hC dX10_forget_29 fl_X10_343 L_signing rfl (by first | exact Or.inl rfl | exact Or.inr rfl) ?_)))))))
  exact R_vret hC hT dX10_forget_32 rfl ⟨rfl, rfl⟩
theorem c_pclear (σ : sg) (x : aW) : Mt mX2_clear 0 0 0 [.ref i_past] (wd σ x) (QV (wd (sG σ i_past 2 0) x)) := by
  refine Mt.of MI_X2_clear (Nat.le_of_ble_eq_true rfl) (fun X hC hR hT => ?_)
  refine R_aload_n (i := 0) hC dX2_clear_0 rfl rfl (R_iconst (v := 0) hC dX2_clear_1 (by decide) (R_pI hC dX2_clear_2 fl_X2_18 L_past rfl ?_))
  exact R_vret hC hT dX2_clear_5 rfl ⟨rfl, rfl⟩
def scR (i : Nat) : Prop := i = 25 ∨ (27 ≤ i ∧ i ≤ 106)
theorem c_padd {σ : sg} {x : aW} {P : Nat × (Nat → tb)} {T : tb} (h : CI5 σ P) (h40 : P.1 ≤ 40) (hb : CT σ i_before T) : Mt mX2_add 2 0 0 [.ref i_past, .ref i_before] (wd σ x) (fun r w => r = none ∧ ∃ τ L, w = wd τ x ∧ AE L σ τ ∧ (∀ i, i ∈ L → scR i) ∧ CI5 τ (pushP P T)) := by
  refine Mt.of MI_X2_add (Nat.le_of_ble_eq_true rfl) (fun X hC hR hT => ?_)
  obtain ⟨o, o40, p1, p2, p3⟩ := h
  have hj : (o + P.1) % 40 < 40 := Nat.mod_lt _ (by decide)
  have hA := TL_past _ hj
  have hne : 27 + 2 * ((o + P.1) % 40) ≠ i_before := by show _ ≠ 21; omega
  refine R_aload_n (i := 0) hC dX2_add_0 rfl rfl (R_gR hC dX2_add_1 fl_X2_11 L_past rfl (R_aload_n (i := 0) hC dX2_add_4 rfl rfl (R_gI hC dX2_add_5 fl_X2_22 L_past rfl ?_)))
  refine R_top (y := nI o) (p1) ?_
  refine R_aload_n (i := 0) hC dX2_add_8 rfl rfl (R_gI hC dX2_add_9 fl_X2_18 L_past rfl ?_)
  refine R_top (y := nI P.1) (p2) ?_
  refine R_iadd hC dX2_add_12 ?_
  refine R_top (y := nI (o + P.1)) (nI_add _ _) ?_
  refine R_bipush (v := 40) hC dX2_add_13 (by decide) (R_irem hC dX2_add_15 (by decide) (R_aR hC dX2_add_16 L_past_a (Or.inl rfl) ((o + P.1) % 40) (rem40 _ (by omega)) hj (by decide) (fl_past _ hj) (R_aload_n (i := 1) hC dX2_add_17 rfl rfl ?_)))
  refine R_V1g hC hR dX2_add_18 MV_X7_copyFrom ml_X2_25 hA.1 rfl (c_copyFrom hA TL_before hne hb) (by first | decide | omega) ⟨by decide, by decide⟩ (Nat.le_of_ble_eq_true rfl) (fun r w1 hq => ?_)
  obtain ⟨rfl, τ, rfl, c, ht⟩ := hq
  have e25 := (c 25 (by simp; omega)).1
  skip
  by_cases e40 : P.1 = 40
  · have ep : pushP P T = (40, fun k => if k = 39 then T else P.2 (k + 1)) := by unfold pushP; rw [if_pos e40]
    refine R_aload_n (i := 0) hC dX2_add_21 rfl rfl (R_gI hC dX2_add_22 fl_X2_18 L_past rfl ?_)
    refine R_top (y := nI 40) (by rw [e25, p2, e40]) ?_
    refine R_bipush (v := 40) hC dX2_add_25 (by decide) ?_
    refine R_icmp_ge hC 43 dX2_add_27 (by decide) (fun _ => ?_) (fun h => absurd (by decide) h)
    refine R_aload_n (i := 0) hC dX2_add_43 rfl rfl (R_aload_n (i := 0) hC dX2_add_44 rfl rfl (R_gI hC dX2_add_45 fl_X2_22 L_past rfl ?_))
    refine R_top (y := nI o) (by rw [e25]; exact p1) ?_
    refine R_iconst (v := 1) hC dX2_add_48 (by decide) (R_iadd hC dX2_add_49 ?_)
    refine R_top (y := nI (o + 1)) (nI_1 _) ?_
    refine R_bipush (v := 40) hC dX2_add_50 (by decide) (R_irem hC dX2_add_52 (by decide) ?_)
    refine R_top (y := nI ((o + 1) % 40)) (rem40 _ (by omega)) ?_
    refine R_pI hC dX2_add_53 fl_X2_22 L_past rfl ?_
    exact R_vret hC hT dX2_add_56 rfl ⟨rfl, _, [25, 27 + 2 * ((o + P.1) % 40), 27 + 2 * ((o + P.1) % 40) + 1], rfl, (c.w (fun i q => List.mem_cons_of_mem _ q)).g List.mem_cons_self, by
      intro i q
      unfold scR
      simp at q
      omega, by
      rw [ep]
      refine ⟨(o + 1) % 40, by omega, sG_eq _ _ _ _, ?_, fun k hk => ?_⟩
      · show _ = nI 40; rw [sG_nk (by decide), e25, p2, e40]
      · have hk : k < 40 := hk
        show CT _ _ (if k = 39 then T else P.2 (k + 1))
        by_cases e : k = 39
        · subst e
          rw [if_pos rfl, show ((o + 1) % 40 + 39) % 40 = (o + P.1) % 40 by omega]
          exact ht.of (by funext b; exact sG_ni (by show _ ≠ 25; omega)) rfl
        · rw [if_neg e, show ((o + 1) % 40 + k) % 40 = (o + (k + 1)) % 40 by omega]
          exact ((p3 (k + 1) (by omega)).ae c (by simp; omega) (by simp; omega)).of (by funext b; exact sG_ni (by show _ ≠ 25; omega)) rfl⟩
  · have ep : pushP P T = (P.1 + 1, fun k => if k = P.1 then T else P.2 k) := by unfold pushP; rw [if_neg e40]
    refine R_aload_n (i := 0) hC dX2_add_21 rfl rfl (R_gI hC dX2_add_22 fl_X2_18 L_past rfl ?_)
    refine R_top (y := nI P.1) (by rw [e25]; exact p2) ?_
    refine R_bipush (v := 40) hC dX2_add_25 (by decide) ?_
    refine R_icmp_ge hC 43 dX2_add_27 (by decide) (fun h => absurd h (nI_ge (b := 40) (by omega) (by decide))) (fun _ => ?_)
    refine R_aload_n (i := 0) hC dX2_add_30 rfl rfl (R_dup hC dX2_add_31 rfl (R_gI hC dX2_add_32 fl_X2_18 L_past rfl ?_))
    refine R_top (y := nI P.1) (by rw [e25]; exact p2) ?_
    refine R_iconst (v := 1) hC dX2_add_35 (by decide) (R_iadd hC dX2_add_36 ?_)
    refine R_top (y := nI (P.1 + 1)) (nI_1 _) ?_
    refine R_pI hC dX2_add_37 fl_X2_18 L_past rfl (R_goto hC 56 dX2_add_40 (by decide) ?_)
    exact R_vret hC hT dX2_add_56 rfl ⟨rfl, _, [25, 27 + 2 * ((o + P.1) % 40), 27 + 2 * ((o + P.1) % 40) + 1], rfl, (c.w (fun i q => List.mem_cons_of_mem _ q)).g List.mem_cons_self, by
      intro i q
      unfold scR
      simp at q
      omega, by
      rw [ep]
      refine ⟨o, o40, ?_, sG_eq _ _ _ _, fun k hk => ?_⟩
      · rw [sG_nk (by decide), e25]; exact p1
      · have hk : k < P.1 + 1 := hk
        show CT _ _ (if k = P.1 then T else P.2 k)
        by_cases e : k = P.1
        · subst e
          rw [if_pos rfl]
          exact ht.of (by funext b; exact sG_ni (by show _ ≠ 25; omega)) rfl
        · rw [if_neg e]
          exact ((p3 k (by omega)).ae c (by simp; omega) (by simp; omega)).of (by funext b; exact sG_ni (by show _ ≠ 25; omega)) rfl⟩
def scF (i : Nat) : Prop := scR i ∨ i = 112 ∨ i = 114 ∨ i = 119 ∨ i = 124
theorem c_settleN (σ : sg) (x : aW) (v : Int32) (hv : ¬ v = -1) : Mt mX10_settle 3 0 0 [.ref i_U, .int v] (wd σ x) (QI v (wd σ x)) := by
  refine Mt.of MI_X10_settle (Nat.le_of_ble_eq_true rfl) (fun X hC hR hT => ?_)
  refine R_iload_n (i := 1) hC dX10_settle_0 rfl rfl (R_iconst (v := (-1)) hC dX10_settle_1 (by decide) ?_)
  refine R_icmp_ne hC 20 dX10_settle_2 (by decide) (fun _ => ?_) (fun h => absurd h hv)
  refine R_iload_n (i := 1) hC dX10_settle_20 rfl rfl ?_
  exact R_iret hC hT dX10_settle_21 rfl ⟨rfl, rfl⟩
theorem c_settleY {σ : sg} {x : aW} {P : Nat × (Nat → tb)} {T : tb} (h : CI5 σ P) (h40 : P.1 ≤ 40) (hb : CT σ i_before T) : Mt mX10_settle 3 0 0 [.ref i_U, .int (-1)] (wd σ x) (fun r w => r = some (.int (-1)) ∧ ∃ τ L, w = wd τ x ∧ AE L σ τ ∧ (∀ i, i ∈ L → scF i) ∧ CI5 τ (pushP P T) ∧ ∀ U, CC τ U) := by
  refine Mt.of MI_X10_settle (Nat.le_of_ble_eq_true rfl) (fun X hC hR hT => ?_)
  refine R_iload_n (i := 1) hC dX10_settle_0 rfl rfl (R_iconst (v := (-1)) hC dX10_settle_1 (by decide) ?_)
  refine R_icmp_ne hC 20 dX10_settle_2 (by decide) (fun h => absurd rfl h) (fun _ => ?_)
  refine R_aload_n (i := 0) hC dX10_settle_5 rfl rfl (R_gR hC dX10_settle_6 fl_X10_32 L_U rfl (R_aload_n (i := 0) hC dX10_settle_9 rfl rfl (R_gR hC dX10_settle_10 fl_X10_23 L_U rfl ?_)))
  refine R_V1g hC hR dX10_settle_13 MV_X2_add ml_X10_336 L_past rfl (c_padd h h40 hb) (by first | decide | omega) ⟨by decide, by decide⟩ (Nat.le_of_ble_eq_true rfl) (fun r w1 hq => ?_)
  obtain ⟨rfl, τ, L, rfl, c, d, h5⟩ := hq
  refine R_aload_n (i := 0) hC dX10_settle_16 rfl rfl ?_
  refine R_V0v hC hR dX10_settle_17 MV_X10_forget ml_X10_176 L_U rfl (c_forget _ _) (by first | decide | omega) ⟨by decide, by decide⟩ (Nat.le_of_ble_eq_true rfl) ?_
  refine R_iload_n (i := 1) hC dX10_settle_20 rfl rfl ?_
  exact R_iret hC hT dX10_settle_21 rfl ⟨rfl, _, L ++ [112, 114, 119, 124], rfl, (c.w (fun i q => List.mem_append_left _ q)).tr ((fgt_ae τ).w (fun i q => List.mem_append_right _ q)), by
    intro i q
    rcases List.mem_append.mp q with z | z
    · exact Or.inl (d i z)
    · right; simp at z; omega, h5.ae (fgt_ae τ) (by decide), fun U => fgt_cc τ U⟩
