/-! ===== the class's mends, fragile, fills; run; halves, scaled ===== -/
theorem dX10_firstMend_0 : decode cX10_firstMend 0 = .ok (.iconst 0, 1) := by decide +kernel
theorem dX10_firstMend_1 : decode cX10_firstMend 1 = .ok (.istore_n 1, 1) := by decide +kernel
theorem dX10_firstMend_2 : decode cX10_firstMend 2 = .ok (.iload_n 1, 1) := by decide +kernel
theorem dX10_firstMend_3 : decode cX10_firstMend 3 = .ok (.aload_n 0, 1) := by decide +kernel
theorem dX10_firstMend_4 : decode cX10_firstMend 4 = .ok (.getfield 19, 3) := by decide +kernel
theorem dX10_firstMend_7 : decode cX10_firstMend 7 = .ok (.getfield 170, 3) := by decide +kernel
theorem dX10_firstMend_10 : decode cX10_firstMend 10 = .ok (.if_icmp .ge 72, 3) := by decide +kernel
theorem dX10_firstMend_13 : decode cX10_firstMend 13 = .ok (.iconst 0, 1) := by decide +kernel
theorem dX10_firstMend_14 : decode cX10_firstMend 14 = .ok (.istore_n 2, 1) := by decide +kernel
theorem dX10_firstMend_15 : decode cX10_firstMend 15 = .ok (.iload_n 2, 1) := by decide +kernel
theorem dX10_firstMend_16 : decode cX10_firstMend 16 = .ok (.aload_n 0, 1) := by decide +kernel
theorem dX10_firstMend_17 : decode cX10_firstMend 17 = .ok (.getfield 19, 3) := by decide +kernel
theorem dX10_firstMend_20 : decode cX10_firstMend 20 = .ok (.getfield 269, 3) := by decide +kernel
theorem dX10_firstMend_23 : decode cX10_firstMend 23 = .ok (.if_icmp .ge 53, 3) := by decide +kernel
theorem dX10_firstMend_26 : decode cX10_firstMend 26 = .ok (.iconst (-1), 1) := by decide +kernel
theorem dX10_firstMend_27 : decode cX10_firstMend 27 = .ok (.istore_n 3, 1) := by decide +kernel
theorem dX10_firstMend_28 : decode cX10_firstMend 28 = .ok (.iload_n 3, 1) := by decide +kernel
theorem dX10_firstMend_29 : decode cX10_firstMend 29 = .ok (.iconst 1, 1) := by decide +kernel
theorem dX10_firstMend_30 : decode cX10_firstMend 30 = .ok (.if_icmp .gt 40, 3) := by decide +kernel
theorem dX10_firstMend_33 : decode cX10_firstMend 33 = .ok (.aload_n 0, 1) := by decide +kernel
theorem dX10_firstMend_34 : decode cX10_firstMend 34 = .ok (.getfield 56, 3) := by decide +kernel
theorem dX10_firstMend_37 : decode cX10_firstMend 37 = .ok (.aload_n 0, 1) := by decide +kernel
theorem dX10_firstMend_38 : decode cX10_firstMend 38 = .ok (.getfield 19, 3) := by decide +kernel
theorem dX10_firstMend_41 : decode cX10_firstMend 41 = .ok (.iload_n 1, 1) := by decide +kernel
theorem dX10_firstMend_42 : decode cX10_firstMend 42 = .ok (.iload_n 2, 1) := by decide +kernel
theorem dX10_firstMend_43 : decode cX10_firstMend 43 = .ok (.iload_n 3, 1) := by decide +kernel
theorem dX10_firstMend_44 : decode cX10_firstMend 44 = .ok (.invokevirtual 272, 3) := by decide +kernel
theorem dX10_firstMend_47 : decode cX10_firstMend 47 = .ok (.ifCond .eq 17, 3) := by decide +kernel
theorem dX10_firstMend_50 : decode cX10_firstMend 50 = .ok (.bipush 100, 2) := by decide +kernel
theorem dX10_firstMend_52 : decode cX10_firstMend 52 = .ok (.iload_n 1, 1) := by decide +kernel
theorem dX10_firstMend_53 : decode cX10_firstMend 53 = .ok (.imul, 1) := by decide +kernel
theorem dX10_firstMend_54 : decode cX10_firstMend 54 = .ok (.bipush 10, 2) := by decide +kernel
theorem dX10_firstMend_56 : decode cX10_firstMend 56 = .ok (.iload_n 2, 1) := by decide +kernel
theorem dX10_firstMend_57 : decode cX10_firstMend 57 = .ok (.imul, 1) := by decide +kernel
theorem dX10_firstMend_58 : decode cX10_firstMend 58 = .ok (.iadd, 1) := by decide +kernel
theorem dX10_firstMend_59 : decode cX10_firstMend 59 = .ok (.iload_n 3, 1) := by decide +kernel
theorem dX10_firstMend_60 : decode cX10_firstMend 60 = .ok (.iadd, 1) := by decide +kernel
theorem dX10_firstMend_61 : decode cX10_firstMend 61 = .ok (.iconst 1, 1) := by decide +kernel
theorem dX10_firstMend_62 : decode cX10_firstMend 62 = .ok (.iadd, 1) := by decide +kernel
theorem dX10_firstMend_63 : decode cX10_firstMend 63 = .ok (.ireturn, 1) := by decide +kernel
theorem dX10_firstMend_64 : decode cX10_firstMend 64 = .ok (.iinc 3 1, 3) := by decide +kernel
theorem dX10_firstMend_67 : decode cX10_firstMend 67 = .ok (.goto (-39), 3) := by decide +kernel
theorem dX10_firstMend_70 : decode cX10_firstMend 70 = .ok (.iinc 2 1, 3) := by decide +kernel
theorem dX10_firstMend_73 : decode cX10_firstMend 73 = .ok (.goto (-58), 3) := by decide +kernel
theorem dX10_firstMend_76 : decode cX10_firstMend 76 = .ok (.iinc 1 1, 3) := by decide +kernel
theorem dX10_firstMend_79 : decode cX10_firstMend 79 = .ok (.goto (-77), 3) := by decide +kernel
theorem dX10_firstMend_82 : decode cX10_firstMend 82 = .ok (.iconst (-1), 1) := by decide +kernel
theorem dX10_firstMend_83 : decode cX10_firstMend 83 = .ok (.ireturn, 1) := by decide +kernel
theorem dX10_mends_0 : decode cX10_mends 0 = .ok (.aload_n 0, 1) := by decide +kernel
theorem dX10_mends_1 : decode cX10_mends 1 = .ok (.getfield 19, 3) := by decide +kernel
theorem dX10_mends_4 : decode cX10_mends 4 = .ok (.invokevirtual 152, 3) := by decide +kernel
theorem dX10_mends_7 : decode cX10_mends 7 = .ok (.ifCond .eq 5, 3) := by decide +kernel
theorem dX10_mends_10 : decode cX10_mends 10 = .ok (.iconst (-1), 1) := by decide +kernel
theorem dX10_mends_11 : decode cX10_mends 11 = .ok (.ireturn, 1) := by decide +kernel
theorem dX10_mends_12 : decode cX10_mends 12 = .ok (.aload_n 0, 1) := by decide +kernel
theorem dX10_mends_13 : decode cX10_mends 13 = .ok (.invokevirtual 190, 3) := by decide +kernel
theorem dX10_mends_16 : decode cX10_mends 16 = .ok (.invokevirtual 200, 3) := by decide +kernel
theorem dX10_mends_19 : decode cX10_mends 19 = .ok (.ifCond .eq 8, 3) := by decide +kernel
theorem dX10_mends_22 : decode cX10_mends 22 = .ok (.ldc 145, 2) := by decide +kernel
theorem dX10_mends_24 : decode cX10_mends 24 = .ok (.goto 7, 3) := by decide +kernel
theorem dX10_mends_27 : decode cX10_mends 27 = .ok (.aload_n 0, 1) := by decide +kernel
theorem dX10_mends_28 : decode cX10_mends 28 = .ok (.invokevirtual 266, 3) := by decide +kernel
theorem dX10_mends_31 : decode cX10_mends 31 = .ok (.ireturn, 1) := by decide +kernel
theorem dX10_fragile_0 : decode cX10_fragile 0 = .ok (.aload_n 0, 1) := by decide +kernel
theorem dX10_fragile_1 : decode cX10_fragile 1 = .ok (.getfield 19, 3) := by decide +kernel
theorem dX10_fragile_4 : decode cX10_fragile 4 = .ok (.invokevirtual 152, 3) := by decide +kernel
theorem dX10_fragile_7 : decode cX10_fragile 7 = .ok (.ifCond .ne 13, 3) := by decide +kernel
theorem dX10_fragile_10 : decode cX10_fragile 10 = .ok (.aload_n 0, 1) := by decide +kernel
theorem dX10_fragile_11 : decode cX10_fragile 11 = .ok (.invokevirtual 190, 3) := by decide +kernel
theorem dX10_fragile_14 : decode cX10_fragile 14 = .ok (.invokevirtual 200, 3) := by decide +kernel
theorem dX10_fragile_17 : decode cX10_fragile 17 = .ok (.ifCond .ne 5, 3) := by decide +kernel
theorem dX10_fragile_20 : decode cX10_fragile 20 = .ok (.iconst (-1), 1) := by decide +kernel
theorem dX10_fragile_21 : decode cX10_fragile 21 = .ok (.ireturn, 1) := by decide +kernel
theorem dX10_fragile_22 : decode cX10_fragile 22 = .ok (.iconst 0, 1) := by decide +kernel
theorem dX10_fragile_23 : decode cX10_fragile 23 = .ok (.istore_n 1, 1) := by decide +kernel
theorem dX10_fragile_24 : decode cX10_fragile 24 = .ok (.iconst 0, 1) := by decide +kernel
theorem dX10_fragile_25 : decode cX10_fragile 25 = .ok (.istore_n 2, 1) := by decide +kernel
theorem dX10_fragile_26 : decode cX10_fragile 26 = .ok (.iload_n 2, 1) := by decide +kernel
theorem dX10_fragile_27 : decode cX10_fragile 27 = .ok (.aload_n 0, 1) := by decide +kernel
theorem dX10_fragile_28 : decode cX10_fragile 28 = .ok (.getfield 19, 3) := by decide +kernel
theorem dX10_fragile_31 : decode cX10_fragile 31 = .ok (.getfield 170, 3) := by decide +kernel
theorem dX10_fragile_34 : decode cX10_fragile 34 = .ok (.if_icmp .ge 66, 3) := by decide +kernel
theorem dX10_fragile_37 : decode cX10_fragile 37 = .ok (.iconst 0, 1) := by decide +kernel
theorem dX10_fragile_38 : decode cX10_fragile 38 = .ok (.istore_n 3, 1) := by decide +kernel
theorem dX10_fragile_39 : decode cX10_fragile 39 = .ok (.iload_n 3, 1) := by decide +kernel
theorem dX10_fragile_40 : decode cX10_fragile 40 = .ok (.aload_n 0, 1) := by decide +kernel
theorem dX10_fragile_41 : decode cX10_fragile 41 = .ok (.getfield 19, 3) := by decide +kernel
theorem dX10_fragile_44 : decode cX10_fragile 44 = .ok (.getfield 269, 3) := by decide +kernel
theorem dX10_fragile_47 : decode cX10_fragile 47 = .ok (.if_icmp .ge 47, 3) := by decide +kernel
theorem dX10_fragile_50 : decode cX10_fragile 50 = .ok (.aload_n 0, 1) := by decide +kernel
theorem dX10_fragile_51 : decode cX10_fragile 51 = .ok (.getfield 19, 3) := by decide +kernel
theorem dX10_fragile_54 : decode cX10_fragile 54 = .ok (.iload_n 2, 1) := by decide +kernel
theorem dX10_fragile_55 : decode cX10_fragile 55 = .ok (.iload_n 3, 1) := by decide +kernel
theorem dX10_fragile_56 : decode cX10_fragile 56 = .ok (.invokevirtual 133, 3) := by decide +kernel
theorem dX10_fragile_59 : decode cX10_fragile 59 = .ok (.istore 4, 2) := by decide +kernel
theorem dX10_fragile_61 : decode cX10_fragile 61 = .ok (.iload 4, 2) := by decide +kernel
theorem dX10_fragile_63 : decode cX10_fragile 63 = .ok (.ifCond .eq 25, 3) := by decide +kernel
theorem dX10_fragile_66 : decode cX10_fragile 66 = .ok (.aload_n 0, 1) := by decide +kernel
theorem dX10_fragile_67 : decode cX10_fragile 67 = .ok (.getfield 56, 3) := by decide +kernel
theorem dX10_fragile_70 : decode cX10_fragile 70 = .ok (.aload_n 0, 1) := by decide +kernel
theorem dX10_fragile_71 : decode cX10_fragile 71 = .ok (.getfield 19, 3) := by decide +kernel
theorem dX10_fragile_74 : decode cX10_fragile 74 = .ok (.iload_n 2, 1) := by decide +kernel
theorem dX10_fragile_75 : decode cX10_fragile 75 = .ok (.iload_n 3, 1) := by decide +kernel
theorem dX10_fragile_76 : decode cX10_fragile 76 = .ok (.iload 4, 2) := by decide +kernel
theorem dX10_fragile_78 : decode cX10_fragile 78 = .ok (.ineg, 1) := by decide +kernel
theorem dX10_fragile_79 : decode cX10_fragile 79 = .ok (.invokevirtual 272, 3) := by decide +kernel
theorem dX10_fragile_82 : decode cX10_fragile 82 = .ok (.ifCond .ne 6, 3) := by decide +kernel
theorem dX10_fragile_85 : decode cX10_fragile 85 = .ok (.iinc 1 1, 3) := by decide +kernel
theorem dX10_fragile_88 : decode cX10_fragile 88 = .ok (.iinc 3 1, 3) := by decide +kernel
theorem dX10_fragile_91 : decode cX10_fragile 91 = .ok (.goto (-52), 3) := by decide +kernel
theorem dX10_fragile_94 : decode cX10_fragile 94 = .ok (.iinc 2 1, 3) := by decide +kernel
theorem dX10_fragile_97 : decode cX10_fragile 97 = .ok (.goto (-71), 3) := by decide +kernel
theorem dX10_fragile_100 : decode cX10_fragile 100 = .ok (.iload_n 1, 1) := by decide +kernel
theorem dX10_fragile_101 : decode cX10_fragile 101 = .ok (.ireturn, 1) := by decide +kernel
theorem dX10_fills_0 : decode cX10_fills 0 = .ok (.aload_n 0, 1) := by decide +kernel
theorem dX10_fills_1 : decode cX10_fills 1 = .ok (.getfield 19, 3) := by decide +kernel
theorem dX10_fills_4 : decode cX10_fills 4 = .ok (.iload_n 1, 1) := by decide +kernel
theorem dX10_fills_5 : decode cX10_fills 5 = .ok (.iload_n 2, 1) := by decide +kernel
theorem dX10_fills_6 : decode cX10_fills 6 = .ok (.invokevirtual 126, 3) := by decide +kernel
theorem dX10_fills_9 : decode cX10_fills 9 = .ok (.ifCond .ne 5, 3) := by decide +kernel
theorem dX10_fills_12 : decode cX10_fills 12 = .ok (.iconst (-1), 1) := by decide +kernel
theorem dX10_fills_13 : decode cX10_fills 13 = .ok (.ireturn, 1) := by decide +kernel
theorem dX10_fills_14 : decode cX10_fills 14 = .ok (.iconst 0, 1) := by decide +kernel
theorem dX10_fills_15 : decode cX10_fills 15 = .ok (.istore_n 3, 1) := by decide +kernel
theorem dX10_fills_16 : decode cX10_fills 16 = .ok (.iconst (-1), 1) := by decide +kernel
theorem dX10_fills_17 : decode cX10_fills 17 = .ok (.istore 4, 2) := by decide +kernel
theorem dX10_fills_19 : decode cX10_fills 19 = .ok (.iload 4, 2) := by decide +kernel
theorem dX10_fills_21 : decode cX10_fills 21 = .ok (.iconst 1, 1) := by decide +kernel
theorem dX10_fills_22 : decode cX10_fills 22 = .ok (.if_icmp .gt 36, 3) := by decide +kernel
theorem dX10_fills_25 : decode cX10_fills 25 = .ok (.aload_n 0, 1) := by decide +kernel
theorem dX10_fills_26 : decode cX10_fills 26 = .ok (.invokevirtual 190, 3) := by decide +kernel
theorem dX10_fills_29 : decode cX10_fills 29 = .ok (.aload_n 0, 1) := by decide +kernel
theorem dX10_fills_30 : decode cX10_fills 30 = .ok (.getfield 19, 3) := by decide +kernel
theorem dX10_fills_33 : decode cX10_fills 33 = .ok (.iload_n 1, 1) := by decide +kernel
theorem dX10_fills_34 : decode cX10_fills 34 = .ok (.iload_n 2, 1) := by decide +kernel
theorem dX10_fills_35 : decode cX10_fills 35 = .ok (.iload 4, 2) := by decide +kernel
theorem dX10_fills_37 : decode cX10_fills 37 = .ok (.invokevirtual 272, 3) := by decide +kernel
theorem dX10_fills_40 : decode cX10_fills 40 = .ok (.ifCond .eq 12, 3) := by decide +kernel
theorem dX10_fills_43 : decode cX10_fills 43 = .ok (.iload_n 3, 1) := by decide +kernel
theorem dX10_fills_44 : decode cX10_fills 44 = .ok (.iconst 1, 1) := by decide +kernel
theorem dX10_fills_45 : decode cX10_fills 45 = .ok (.iload 4, 2) := by decide +kernel
theorem dX10_fills_47 : decode cX10_fills 47 = .ok (.iconst 1, 1) := by decide +kernel
theorem dX10_fills_48 : decode cX10_fills 48 = .ok (.iadd, 1) := by decide +kernel
theorem dX10_fills_49 : decode cX10_fills 49 = .ok (.ishl, 1) := by decide +kernel
theorem dX10_fills_50 : decode cX10_fills 50 = .ok (.ior, 1) := by decide +kernel
theorem dX10_fills_51 : decode cX10_fills 51 = .ok (.istore_n 3, 1) := by decide +kernel
theorem dX10_fills_52 : decode cX10_fills 52 = .ok (.iinc 4 1, 3) := by decide +kernel
theorem dX10_fills_55 : decode cX10_fills 55 = .ok (.goto (-36), 3) := by decide +kernel
theorem dX10_fills_58 : decode cX10_fills 58 = .ok (.iload_n 3, 1) := by decide +kernel
theorem dX10_fills_59 : decode cX10_fills 59 = .ok (.ireturn, 1) := by decide +kernel
theorem dX10_halves_0 : decode cX10_halves 0 = .ok (.aload_n 0, 1) := by decide +kernel
theorem dX10_halves_1 : decode cX10_halves 1 = .ok (.getfield 19, 3) := by decide +kernel
theorem dX10_halves_4 : decode cX10_halves 4 = .ok (.iload_n 1, 1) := by decide +kernel
theorem dX10_halves_5 : decode cX10_halves 5 = .ok (.invokevirtual 179, 3) := by decide +kernel
theorem dX10_halves_8 : decode cX10_halves 8 = .ok (.ifCond .eq 14, 3) := by decide +kernel
theorem dX10_halves_11 : decode cX10_halves 11 = .ok (.aload_n 0, 1) := by decide +kernel
theorem dX10_halves_12 : decode cX10_halves 12 = .ok (.getfield 19, 3) := by decide +kernel
theorem dX10_halves_15 : decode cX10_halves 15 = .ok (.iload_n 1, 1) := by decide +kernel
theorem dX10_halves_16 : decode cX10_halves 16 = .ok (.invokevirtual 209, 3) := by decide +kernel
theorem dX10_halves_19 : decode cX10_halves 19 = .ok (.goto 4, 3) := by decide +kernel
theorem dX10_halves_22 : decode cX10_halves 22 = .ok (.iconst (-1), 1) := by decide +kernel
theorem dX10_halves_23 : decode cX10_halves 23 = .ok (.ireturn, 1) := by decide +kernel
theorem dX10_unhalved_0 : decode cX10_unhalved 0 = .ok (.iconst 0, 1) := by decide +kernel
theorem dX10_unhalved_1 : decode cX10_unhalved 1 = .ok (.istore_n 1, 1) := by decide +kernel
theorem dX10_unhalved_2 : decode cX10_unhalved 2 = .ok (.iload_n 1, 1) := by decide +kernel
theorem dX10_unhalved_3 : decode cX10_unhalved 3 = .ok (.bipush 64, 2) := by decide +kernel
theorem dX10_unhalved_5 : decode cX10_unhalved 5 = .ok (.if_icmp .ge 34, 3) := by decide +kernel
theorem dX10_unhalved_8 : decode cX10_unhalved 8 = .ok (.aload_n 0, 1) := by decide +kernel
theorem dX10_unhalved_9 : decode cX10_unhalved 9 = .ok (.getfield 19, 3) := by decide +kernel
theorem dX10_unhalved_12 : decode cX10_unhalved 12 = .ok (.iload_n 1, 1) := by decide +kernel
theorem dX10_unhalved_13 : decode cX10_unhalved 13 = .ok (.invokevirtual 179, 3) := by decide +kernel
theorem dX10_unhalved_16 : decode cX10_unhalved 16 = .ok (.ifCond .eq 23, 3) := by decide +kernel
theorem dX10_unhalved_19 : decode cX10_unhalved 19 = .ok (.aload_n 0, 1) := by decide +kernel
theorem dX10_unhalved_20 : decode cX10_unhalved 20 = .ok (.getfield 19, 3) := by decide +kernel
theorem dX10_unhalved_23 : decode cX10_unhalved 23 = .ok (.iload_n 1, 1) := by decide +kernel
theorem dX10_unhalved_24 : decode cX10_unhalved 24 = .ok (.invokevirtual 209, 3) := by decide +kernel
theorem dX10_unhalved_27 : decode cX10_unhalved 27 = .ok (.iconst (-1), 1) := by decide +kernel
theorem dX10_unhalved_28 : decode cX10_unhalved 28 = .ok (.if_icmp .ne 5, 3) := by decide +kernel
theorem dX10_unhalved_31 : decode cX10_unhalved 31 = .ok (.iload_n 1, 1) := by decide +kernel
theorem dX10_unhalved_32 : decode cX10_unhalved 32 = .ok (.ireturn, 1) := by decide +kernel
theorem dX10_unhalved_33 : decode cX10_unhalved 33 = .ok (.iinc 1 1, 3) := by decide +kernel
theorem dX10_unhalved_36 : decode cX10_unhalved 36 = .ok (.goto (-34), 3) := by decide +kernel
theorem dX10_unhalved_39 : decode cX10_unhalved 39 = .ok (.iconst (-1), 1) := by decide +kernel
theorem dX10_unhalved_40 : decode cX10_unhalved 40 = .ok (.ireturn, 1) := by decide +kernel
theorem dX10_scaled_0 : decode cX10_scaled 0 = .ok (.aload_n 0, 1) := by decide +kernel
theorem dX10_scaled_1 : decode cX10_scaled 1 = .ok (.getfield 19, 3) := by decide +kernel
theorem dX10_scaled_4 : decode cX10_scaled 4 = .ok (.invokevirtual 152, 3) := by decide +kernel
theorem dX10_scaled_7 : decode cX10_scaled 7 = .ok (.ifCond .ne 11, 3) := by decide +kernel
theorem dX10_scaled_10 : decode cX10_scaled 10 = .ok (.aload_n 0, 1) := by decide +kernel
theorem dX10_scaled_11 : decode cX10_scaled 11 = .ok (.iload_n 1, 1) := by decide +kernel
theorem dX10_scaled_12 : decode cX10_scaled 12 = .ok (.invokevirtual 163, 3) := by decide +kernel
theorem dX10_scaled_15 : decode cX10_scaled 15 = .ok (.ifCond .ne 5, 3) := by decide +kernel
theorem dX10_scaled_18 : decode cX10_scaled 18 = .ok (.iconst (-1), 1) := by decide +kernel
theorem dX10_scaled_19 : decode cX10_scaled 19 = .ok (.ireturn, 1) := by decide +kernel
theorem dX10_scaled_20 : decode cX10_scaled 20 = .ok (.aload_n 0, 1) := by decide +kernel
theorem dX10_scaled_21 : decode cX10_scaled 21 = .ok (.getfield 19, 3) := by decide +kernel
theorem dX10_scaled_24 : decode cX10_scaled 24 = .ok (.aload_n 0, 1) := by decide +kernel
theorem dX10_scaled_25 : decode cX10_scaled 25 = .ok (.getfield 36, 3) := by decide +kernel
theorem dX10_scaled_28 : decode cX10_scaled 28 = .ok (.iload_n 1, 1) := by decide +kernel
theorem dX10_scaled_29 : decode cX10_scaled 29 = .ok (.aaload, 1) := by decide +kernel
theorem dX10_scaled_30 : decode cX10_scaled 30 = .ok (.invokevirtual 237, 3) := by decide +kernel
theorem dX10_scaled_33 : decode cX10_scaled 33 = .ok (.ifCond .eq 7, 3) := by decide +kernel
theorem dX10_scaled_36 : decode cX10_scaled 36 = .ok (.iconst 1, 1) := by decide +kernel
theorem dX10_scaled_37 : decode cX10_scaled 37 = .ok (.goto 4, 3) := by decide +kernel
theorem dX10_scaled_40 : decode cX10_scaled 40 = .ok (.iconst 0, 1) := by decide +kernel
theorem dX10_scaled_41 : decode cX10_scaled 41 = .ok (.ireturn, 1) := by decide +kernel
theorem and_low : ∀ R, R < 64 → ∀ r, r < 6 → nI R &&& (nI (2 ^ r) - 1) = nI (R % 2 ^ r) ∧ pc6 (R % 2 ^ r) = pcn R r ∧ R % 2 ^ r < 64 := by decide +kernel
theorem par3 : ∀ a, a < 7 → ∀ b, b < 7 → (nI a + nI b) &&& 1 = (if (a + b) % 2 = 0 then 0 else 1) := by decide +kernel
theorem c_cofactor {σ : sg} {x : aW} {T : tb} (h : CKm σ T) (k : KD σ) (h6 : T.1 ≤ 6) (h7 : T.2.1 ≤ 6) {R C r c : Nat} (hR0 : R < 2 ^ T.1) (hC0 : C < 2 ^ T.2.1) (hr : r < 6) (hc : c < 6) (br : R.testBit r = true) (bc : C.testBit c = true) : Mt mX1_cofactor 1 0 0 [.ref i_minors, .int (nI R), .int (nI C), .int (nI r), .int (nI c)] (wd σ x) (QI (sgn (pcn R r + pcn C c) (ofZ T (clr R r) (clr C c))) (wd σ x)) := by
  refine Mt.of MI_X1_cofactor (Nat.le_of_ble_eq_true rfl) (fun X hC hR hT => ?_)
  have p1 := pw6 h6
  have p2 := pw6 h7
  obtain ⟨a1, a2, a3⟩ := and_low R (by omega) r hr
  obtain ⟨b1, b2, b3⟩ := and_low C (by omega) c hc
  have l1 := clr_lt R (by omega) r hr br
  have l2 := clr_lt C (by omega) c hc bc
  have pr := par3 (pcn R r) (by have := pcn_le R r; omega) (pcn C c) (by have := pcn_le C c; omega)
  refine R_iload_n (i := 1) hC dX1_cofactor_0 rfl rfl (R_iconst (v := 1) hC dX1_cofactor_1 (by decide) (R_iload_n (i := 3) hC dX1_cofactor_2 rfl rfl (R_ishl hC dX1_cofactor_3 ?_)))
  refine R_top (y := nI (2 ^ r)) (shl1 r (by omega)) ?_
  refine R_iconst (v := 1) hC dX1_cofactor_4 (by decide) (R_isub hC dX1_cofactor_5 (R_iand hC dX1_cofactor_6 ?_))
  refine R_top (y := nI (R % 2 ^ r)) (a1) ?_
  refine R_S1i hC hR dX1_cofactor_7 MS_J6_bitCount_0f7a4 ml_X1_36 (c_bit _ a3 _) (by first | decide | omega) ⟨by decide, by decide⟩ (Nat.le_of_ble_eq_true rfl) ?_
  refine R_top (y := nI (pcn R r)) (by rw [a2]) ?_
  refine R_iload_n (i := 2) hC dX1_cofactor_10 rfl rfl (R_iconst (v := 1) hC dX1_cofactor_11 (by decide) (R_iload hC dX1_cofactor_12 rfl (R_ishl hC dX1_cofactor_14 ?_)))
  refine R_top (y := nI (2 ^ c)) (shl1 c (by omega)) ?_
  refine R_iconst (v := 1) hC dX1_cofactor_15 (by decide) (R_isub hC dX1_cofactor_16 (R_iand hC dX1_cofactor_17 ?_))
  refine R_top (y := nI (C % 2 ^ c)) (b1) ?_
  refine R_S1i hC hR dX1_cofactor_18 MS_J6_bitCount_0f7a4 ml_X1_36 (c_bit _ b3 _) (by first | decide | omega) ⟨by decide, by decide⟩ (Nat.le_of_ble_eq_true rfl) ?_
  refine R_top (y := nI (pcn C c)) (by rw [b2]) ?_
  refine R_iadd hC dX1_cofactor_21 (R_istore hC dX1_cofactor_22 (by decide) rfl (R_aload_n (i := 0) hC dX1_cofactor_24 rfl rfl (R_iload_n (i := 1) hC dX1_cofactor_25 rfl rfl (R_iconst (v := 1) hC dX1_cofactor_26 (by decide) (R_iload_n (i := 3) hC dX1_cofactor_27 rfl rfl (R_ishl hC dX1_cofactor_28 ?_))))))
  refine R_top (y := nI (2 ^ r)) (shl1 r (by omega)) ?_
  refine R_ixor hC dX1_cofactor_29 ?_
  refine R_top (y := nI (clr R r)) (xor_clr R (by omega) r hr br) ?_
  refine R_iload_n (i := 2) hC dX1_cofactor_30 rfl rfl (R_iconst (v := 1) hC dX1_cofactor_31 (by decide) (R_iload hC dX1_cofactor_32 rfl (R_ishl hC dX1_cofactor_34 ?_)))
  refine R_top (y := nI (2 ^ c)) (shl1 c (by omega)) ?_
  refine R_ixor hC dX1_cofactor_35 ?_
  refine R_top (y := nI (clr C c)) (xor_clr C (by omega) c hc bc) ?_
  refine R_V2i hC hR dX1_cofactor_36 MV_X1_of ml_X1_62 L_minors rfl (c_ofZ h k h6 h7 (by omega) (by omega)) (by first | decide | omega) ⟨by decide, by decide⟩ (Nat.le_of_ble_eq_true rfl) ?_
  refine R_istore hC dX1_cofactor_39 (by decide) rfl (R_iload hC dX1_cofactor_41 rfl (R_iconst (v := 1) hC dX1_cofactor_43 (by decide) (R_iand hC dX1_cofactor_44 ?_)))
  refine R_top (y := (if (pcn R r + pcn C c) % 2 = 0 then 0 else 1)) (pr) ?_
  refine R_if_ne hC 53 dX1_cofactor_45 (by decide) (fun h45 => ?_) (fun h45 => ?_)
  · refine R_iload hC dX1_cofactor_53 rfl (R_ineg hC dX1_cofactor_55 ?_)
    exact R_iret hC hT dX1_cofactor_56 rfl ⟨by
      unfold sgn
      by_cases q : (pcn R r + pcn C c) % 2 = 0
      · rw [if_pos q] at h45 ⊢
        all_goals first | rfl | exact absurd rfl h45
      · rw [if_neg q] at h45 ⊢
        all_goals first | rfl | exact absurd h45 (by decide), rfl⟩
  · refine R_iload hC dX1_cofactor_48 rfl (R_goto hC 56 dX1_cofactor_50 (by decide) ?_)
    exact R_iret hC hT dX1_cofactor_56 rfl ⟨by
      unfold sgn
      by_cases q : (pcn R r + pcn C c) % 2 = 0
      · rw [if_pos q] at h45 ⊢
        all_goals first | rfl | exact absurd rfl h45
      · rw [if_neg q] at h45 ⊢
        all_goals first | rfl | exact absurd h45 (by decide), rfl⟩
theorem det_set {T : tb} (h6 : T.1 ≤ 6) (h7 : T.2.1 ≤ 6) {R C r c : Nat} (v : Int32) (hR : R < 2 ^ T.1) (hC : C < 2 ^ T.2.1) (hr : r < 6) (hc : c < 6) : ofZ (tset T r c v) R C = if R.testBit r = true ∧ C.testBit c = true then ofZ T R C + (v - T.2.2 r c) * sgn (pcn R r + pcn C c) (ofZ T (clr R r) (clr C c)) else ofZ T R C := by
  have p1 := pw6 h6
  have p2 := pw6 h7
  unfold ofZ
  by_cases hp : pc6 R = pc6 C
  · rw [if_pos hp, if_pos hp]
    show dD (fun i j => if i = r ∧ j = c then v else T.2.2 i j) R C = _
    rw [dD_set T.2.2 v (by omega) (by omega) hp hr hc]
    by_cases q : R.testBit r = true ∧ C.testBit c = true
    · have q1 := clr_pc R (by omega) r hr q.1
      have q2 := clr_pc C (by omega) c hc q.2
      rw [if_pos q, if_pos q, if_pos (by omega)]
    · rw [if_neg q, if_neg q]
  · rw [if_neg hp, if_neg hp]
    by_cases q : R.testBit r = true ∧ C.testBit c = true
    · have q1 := clr_pc R (by omega) r hr q.1
      have q2 := clr_pc C (by omega) c hc q.2
      rw [if_pos q, if_neg (by omega), sgn_0, Int32.mul_zero]; rfl
    · rw [if_neg q]
theorem tot_of {T : tb} (h : ∀ R C, 1 ≤ R → R < 2 ^ T.1 → 1 ≤ C → C < 2 ^ T.2.1 → sml (ofZ T R C)) : tot T := fun R C z => by
  have := h R C z.1 z.2.1 z.2.2.1 z.2.2.2.1
  unfold ofZ at this; rwa [if_pos z.2.2.2.2] at this
theorem tot_to {T : tb} (h : tot T) {R C : Nat} (h1 : 1 ≤ R) (h2 : R < 2 ^ T.1) (h3 : 1 ≤ C) (h4 : C < 2 ^ T.2.1) : sml (ofZ T R C) := by
  unfold ofZ
  split
  · rename_i q; exact h R C ⟨h1, h2, h3, h4, q⟩
  · exact Or.inr (Or.inl rfl)
theorem c_allIf {σ : sg} {x : aW} {T : tb} (h : CKm σ T) (k : KD σ) (ht : CT σ i_table T) {r c : Nat} (hr : r < T.1) (hc : c < T.2.1) (v : Int32) : Mt mX1_allWithinIf 2 0 0 [.ref i_minors, .ref i_table, .int (nI r), .int (nI c), .int v] (wd σ x) (QI (b2i (tot (tset T r c v))) (wd σ x)) := by
  refine Mt.of MI_X1_allWithinIf (Nat.le_of_ble_eq_true rfl) (fun X hC hR hT => ?_)
  have h6 := ht.2.2.1
  have h7 := ht.2.2.2.1
  have p1 := pw6 h6
  have p2 := pw6 h7
  have outer : ∀ n, n ≤ 2 ^ T.1 → 1 ≤ n → (∀ R C, 1 ≤ R → R < n → 1 ≤ C → C < 2 ^ T.2.1 → sml (ofZ (tset T r c v) R C)) → ∀ u7 u8 u9, Rw mX1_allWithinIf X 14 [some (.ref i_minors), some (.ref i_table), some (.int (nI r)), some (.int (nI c)), some (.int v), some (.int (v - T.2.2 r c)), some (.int (nI n)), u7, u8, u9] [] (wd σ x) 0 0 := by
    refine up_loop (2 ^ T.1) ?_ ?_
    · intro n1 hg u7 u8 u9
      refine R_iload hC dX1_allWithinIf_14 rfl (R_aload_n (i := 0) hC dX1_allWithinIf_16 rfl rfl (R_gI hC dX1_allWithinIf_17 fl_X1_21 L_minors rfl ?_))
      refine R_top (y := nI (2 ^ T.1)) (h.1) ?_
      refine R_icmp_ge hC 107 dX1_allWithinIf_20 (by decide) (fun _ => ?_) (fun h => absurd (Int32.le_refl _) h)
      refine R_iconst (v := 1) hC dX1_allWithinIf_107 (by decide) ?_
      exact R_zret hC hT dX1_allWithinIf_108 rfl (by decide) ⟨by rw [b2i_t (tot_of (T := tset T r c v) (fun R C a1 a2 a3 a4 => hg R C a1 a2 a3 a4))], rfl⟩
    · intro n hn ih n1 hg u7 u8 u9
      have inner : ∀ m, m ≤ 2 ^ T.2.1 → 1 ≤ m → (∀ C, 1 ≤ C → C < m → sml (ofZ (tset T r c v) n C)) → ∀ u9, Rw mX1_allWithinIf X 34 [some (.ref i_minors), some (.ref i_table), some (.int (nI r)), some (.int (nI c)), some (.int v), some (.int (v - T.2.2 r c)), some (.int (nI n)), some (.int (if n.testBit r then 1 else 0)), some (.int (nI m)), u9] [] (wd σ x) 0 0 := by
        refine up_loop (2 ^ T.2.1) ?_ ?_
        · intro m1 hm u9
          refine R_iload hC dX1_allWithinIf_34 rfl (R_aload_n (i := 0) hC dX1_allWithinIf_36 rfl rfl (R_gI hC dX1_allWithinIf_37 fl_X1_27 L_minors rfl ?_))
          refine R_top (y := nI (2 ^ T.2.1)) (h.2.1) ?_
          refine R_icmp_ge hC 101 dX1_allWithinIf_40 (by decide) (fun _ => ?_) (fun h => absurd (Int32.le_refl _) h)
          refine R_iinc hC dX1_allWithinIf_101 rfl (inc1 _) (by decide) rfl (R_goto hC 14 dX1_allWithinIf_104 (by decide) ?_)
          exact ih (by omega) (fun R C a1 a2 a3 a4 => by rcases (by omega : R < n ∨ R = n) with z | rfl; exact hg R C a1 z a3 a4; exact hm C a3 a4) _ _ _
        · intro m hm ihm m1 hg2 u9
          have ds := det_set h6 h7 (r := r) (c := c) v hn hm (by omega) (by omega)
          have nx : ∀ d, d = ofZ (tset T r c v) n m → Rw mX1_allWithinIf X 85 [some (.ref i_minors), some (.ref i_table), some (.int (nI r)), some (.int (nI c)), some (.int v), some (.int (v - T.2.2 r c)), some (.int (nI n)), some (.int (if n.testBit r then 1 else 0)), some (.int (nI m)), some (.int d)] [] (wd σ x) 0 0 := by
            intro d hd
            refine R_iload hC dX1_allWithinIf_85 rfl ?_
            refine R_S1i hC hR dX1_allWithinIf_87 MS_X10_isBeyond ml_X1_46 (c_isBeyond _ _) (by first | decide | omega) ⟨by decide, by decide⟩ (Nat.le_of_ble_eq_true rfl) ?_
            refine R_if_eq hC 95 dX1_allWithinIf_90 (by decide) (fun h90 => ?_) (fun h90 => ?_)
            · refine R_iinc hC dX1_allWithinIf_95 rfl (inc1 _) (by decide) rfl (R_goto hC 34 dX1_allWithinIf_98 (by decide) ?_)
              exact ihm (by omega) (fun C a1 a2 => by rcases (by omega : C < m ∨ C = m) with z | rfl; exact hg2 C a1 z; rw [← hd]; exact Classical.byContradiction (b2i_0 h90)) _
            · refine R_iconst (v := 0) hC dX1_allWithinIf_93 (by decide) ?_
              exact R_zret hC hT dX1_allWithinIf_94 rfl (by decide) ⟨by rw [b2i_f (fun z => b2i_ne h90 (by rw [hd]; exact tot_to z n1 hn m1 hm))], rfl⟩
          refine R_iload hC dX1_allWithinIf_34 rfl (R_aload_n (i := 0) hC dX1_allWithinIf_36 rfl rfl (R_gI hC dX1_allWithinIf_37 fl_X1_27 L_minors rfl ?_))
          refine R_top (y := nI (2 ^ T.2.1)) (h.2.1) ?_
          refine R_icmp_ge hC 101 dX1_allWithinIf_40 (by decide) (fun h => absurd h (nI_ge hm (by omega))) (fun _ => ?_)
          refine R_aload_n (i := 0) hC dX1_allWithinIf_43 rfl rfl (R_iload hC dX1_allWithinIf_44 rfl (R_iload hC dX1_allWithinIf_46 rfl ?_))
          refine R_V2i hC hR dX1_allWithinIf_48 MV_X1_of ml_X1_62 L_minors rfl (c_ofZ h k h6 h7 hn hm) (by first | decide | omega) ⟨by decide, by decide⟩ (Nat.le_of_ble_eq_true rfl) ?_
          refine R_istore hC dX1_allWithinIf_51 (by decide) rfl (R_iload hC dX1_allWithinIf_53 rfl ?_)
          refine R_if_eq hC 85 dX1_allWithinIf_55 (by decide) (fun h55 => ?_) (fun h55 => ?_)
          · first
            | (have z1 := tst h55; have z2 := tst h64; rw [if_pos ⟨z1, z2⟩] at ds; exact nx _ ds.symm)
            | (have z1 := tst0 h55; rw [if_neg (fun z => z1 z.1)] at ds; exact nx _ ds.symm)
            | (have z1 := tst0 h64; rw [if_neg (fun z => z1 z.2)] at ds; exact nx _ ds.symm)
          · refine R_iload hC dX1_allWithinIf_58 rfl (R_iload_n (i := 3) hC dX1_allWithinIf_60 rfl rfl ?_)
            refine R_S2i hC hR dX1_allWithinIf_61 MS_X10_isIn ml_X1_54 (c_isIn m c (by omega) (by omega) _) (by first | decide | omega) ⟨by decide, by decide⟩ (Nat.le_of_ble_eq_true rfl) ?_
            refine R_if_eq hC 85 dX1_allWithinIf_64 (by decide) (fun h64 => ?_) (fun h64 => ?_)
            · first
              | (have z1 := tst h55; have z2 := tst h64; rw [if_pos ⟨z1, z2⟩] at ds; exact nx _ ds.symm)
              | (have z1 := tst0 h55; rw [if_neg (fun z => z1 z.1)] at ds; exact nx _ ds.symm)
              | (have z1 := tst0 h64; rw [if_neg (fun z => z1 z.2)] at ds; exact nx _ ds.symm)
            · refine R_iload hC dX1_allWithinIf_67 rfl (R_iload hC dX1_allWithinIf_69 rfl (R_aload_n (i := 0) hC dX1_allWithinIf_71 rfl rfl (R_iload hC dX1_allWithinIf_72 rfl (R_iload hC dX1_allWithinIf_74 rfl (R_iload_n (i := 2) hC dX1_allWithinIf_76 rfl rfl (R_iload_n (i := 3) hC dX1_allWithinIf_77 rfl rfl ?_))))))
              refine R_V4i hC hR dX1_allWithinIf_78 MV_X1_cofactor ml_X1_65 L_minors rfl (c_cofactor h k h6 h7 hn hm (by omega) (by omega) (tst h55) (tst h64)) (by first | decide | omega) ⟨by decide, by decide⟩ (Nat.le_of_ble_eq_true rfl) ?_
              refine R_imul hC dX1_allWithinIf_81 (R_iadd hC dX1_allWithinIf_82 (R_istore hC dX1_allWithinIf_83 (by decide) rfl ?_))
              first
              | (have z1 := tst h55; have z2 := tst h64; rw [if_pos ⟨z1, z2⟩] at ds; exact nx _ ds.symm)
              | (have z1 := tst0 h55; rw [if_neg (fun z => z1 z.1)] at ds; exact nx _ ds.symm)
              | (have z1 := tst0 h64; rw [if_neg (fun z => z1 z.2)] at ds; exact nx _ ds.symm)
      refine R_iload hC dX1_allWithinIf_14 rfl (R_aload_n (i := 0) hC dX1_allWithinIf_16 rfl rfl (R_gI hC dX1_allWithinIf_17 fl_X1_21 L_minors rfl ?_))
      refine R_top (y := nI (2 ^ T.1)) (h.1) ?_
      refine R_icmp_ge hC 107 dX1_allWithinIf_20 (by decide) (fun h => absurd h (nI_ge hn (by omega))) (fun _ => ?_)
      refine R_iload hC dX1_allWithinIf_23 rfl (R_iload_n (i := 2) hC dX1_allWithinIf_25 rfl rfl ?_)
      refine R_S2i hC hR dX1_allWithinIf_26 MS_X10_isIn ml_X1_54 (c_isIn n r (by omega) (by omega) _) (by first | decide | omega) ⟨by decide, by decide⟩ (Nat.le_of_ble_eq_true rfl) ?_
      refine R_istore hC dX1_allWithinIf_29 (by decide) rfl (R_iconst (v := 1) hC dX1_allWithinIf_31 (by decide) (R_istore hC dX1_allWithinIf_32 (by decide) rfl ?_))
      exact inner 1 (Nat.one_le_two_pow) (Nat.le_refl _) (fun C a1 a2 => by omega) _
  refine R_iload hC dX1_allWithinIf_0 rfl (R_aload_n (i := 1) hC dX1_allWithinIf_2 rfl rfl (R_iload_n (i := 2) hC dX1_allWithinIf_3 rfl rfl (R_iload_n (i := 3) hC dX1_allWithinIf_4 rfl rfl ?_)))
  refine R_V2i hC hR dX1_allWithinIf_5 MV_X7_at ml_X1_58 L_table rfl (c_atN TL_table ht hr hc) (by first | decide | omega) ⟨by decide, by decide⟩ (Nat.le_of_ble_eq_true rfl) ?_
  refine R_isub hC dX1_allWithinIf_8 (R_istore hC dX1_allWithinIf_9 (by decide) rfl (R_iconst (v := 1) hC dX1_allWithinIf_11 (by decide) (R_istore hC dX1_allWithinIf_12 (by decide) rfl ?_)))
  exact outer 1 (Nat.one_le_two_pow) (Nat.le_refl _) (fun R C a1 a2 => by omega) _ _ _
theorem c_firstMend {σ : sg} {x : aW} {α : aS} (h : CInv σ α) (ok : aOK α) (hk : CKm σ (tT α)) (kd : KD σ) (h0 : ¬ (tT α).1 = 0) (ht : ¬ tot (tT α)) : Mt mX10_firstMend 3 0 0 [.ref i_U] (wd σ x) (QI (opMends α) (wd σ x)) := by
  refine Mt.of MI_X10_firstMend (Nat.le_of_ble_eq_true rfl) (fun X hC hR hT => ?_)
  have r6 := ok.2.2.1.1
  have c6 := ok.2.2.1.2.1
  have outer : ∀ n, n ≤ (tT α).1 → (∀ r c j, r < n → ¬ isMend (tT α) r c j) → ∀ u2 u3, Rw mX10_firstMend X 2 [some (.ref i_U), some (.int (nI n)), u2, u3] [] (wd σ x) 0 0 := by
    refine up_loop (tT α).1 ?_ ?_
    · intro hg u2 u3
      refine R_iload_n (i := 1) hC dX10_firstMend_2 rfl rfl (R_aload_n (i := 0) hC dX10_firstMend_3 rfl rfl (R_gR hC dX10_firstMend_4 fl_X10_19 L_U rfl (R_gI hC dX10_firstMend_7 fl_X10_170 L_table rfl ?_)))
      refine R_top (y := nI (tT α).1) (h.2.1.1) ?_
      refine R_icmp_ge hC 82 dX10_firstMend_10 (by decide) (fun _ => ?_) (fun h => absurd (Int32.le_refl _) h)
      refine R_iconst (v := (-1)) hC dX10_firstMend_82 (by decide) ?_
      exact R_iret hC hT dX10_firstMend_83 rfl ⟨by rw [opMends_n h0 ht (fun r c j z => hg r c j z.1 z)], rfl⟩
    · intro n hn ih hg u2 u3
      have mid : ∀ m, m ≤ (tT α).2.1 → (∀ c j, c < m → ¬ isMend (tT α) n c j) → ∀ u3, Rw mX10_firstMend X 15 [some (.ref i_U), some (.int (nI n)), some (.int (nI m)), u3] [] (wd σ x) 0 0 := by
        refine up_loop (tT α).2.1 ?_ ?_
        · intro hg2 u3
          refine R_iload_n (i := 2) hC dX10_firstMend_15 rfl rfl (R_aload_n (i := 0) hC dX10_firstMend_16 rfl rfl (R_gR hC dX10_firstMend_17 fl_X10_19 L_U rfl (R_gI hC dX10_firstMend_20 fl_X10_269 L_table rfl ?_)))
          refine R_top (y := nI (tT α).2.1) (h.2.1.2.1) ?_
          refine R_icmp_ge hC 76 dX10_firstMend_23 (by decide) (fun _ => ?_) (fun h => absurd (Int32.le_refl _) h)
          refine R_iinc hC dX10_firstMend_76 rfl (inc1 _) (by decide) rfl (R_goto hC 2 dX10_firstMend_79 (by decide) ?_)
          exact ih (fun r c j hr z => by rcases (by omega : r < n ∨ r = n) with y | rfl; exact hg r c j y z; exact hg2 c j z.2.1 z) _ _
        · intro m hm ihm hg2 u3
          have inn : ∀ j, j ≤ 3 → (∀ i, i < j → ¬ isMend (tT α) n m i) → Rw mX10_firstMend X 28 [some (.ref i_U), some (.int (nI n)), some (.int (nI m)), some (.int (nI j - 1))] [] (wd σ x) 0 0 := by
            refine up_loop 3 ?_ ?_
            · intro hg3
              refine R_iload_n (i := 3) hC dX10_firstMend_28 rfl rfl (R_iconst (v := 1) hC dX10_firstMend_29 (by decide) ?_)
              refine R_icmp_gt hC 70 dX10_firstMend_30 (by decide) (fun _ => ?_) (fun h => absurd vj_3 h)
              refine R_iinc hC dX10_firstMend_70 rfl (inc1 _) (by decide) rfl (R_goto hC 15 dX10_firstMend_73 (by decide) ?_)
              exact ihm (fun c j hc z => by rcases (by omega : c < m ∨ c = m) with y | rfl; exact hg2 c j y z; exact hg3 j z.2.2.1 z) _
            · intro j hj ihj hg3
              refine R_iload_n (i := 3) hC dX10_firstMend_28 rfl rfl (R_iconst (v := 1) hC dX10_firstMend_29 (by decide) ?_)
              refine R_icmp_gt hC 70 dX10_firstMend_30 (by decide) (fun h => absurd h (vj_n hj)) (fun _ => ?_)
              refine R_aload_n (i := 0) hC dX10_firstMend_33 rfl rfl (R_gR hC dX10_firstMend_34 fl_X10_56 L_U rfl (R_aload_n (i := 0) hC dX10_firstMend_37 rfl rfl (R_gR hC dX10_firstMend_38 fl_X10_19 L_U rfl (R_iload_n (i := 1) hC dX10_firstMend_41 rfl rfl (R_iload_n (i := 2) hC dX10_firstMend_42 rfl rfl (R_iload_n (i := 3) hC dX10_firstMend_43 rfl rfl ?_))))))
              refine R_V4i hC hR dX10_firstMend_44 MV_X1_allWithinIf ml_X10_272 L_minors rfl (c_allIf hk kd h.2.1 hn hm _) (by first | decide | omega) ⟨by decide, by decide⟩ (Nat.le_of_ble_eq_true rfl) ?_
              refine R_if_eq hC 64 dX10_firstMend_47 (by decide) (fun h47 => ?_) (fun h47 => ?_)
              · refine R_iinc hC dX10_firstMend_64 rfl (vj_s j) (by decide) rfl (R_goto hC 28 dX10_firstMend_67 (by decide) ?_)
                exact ihj (fun i hi => by rcases (by omega : i < j ∨ i = j) with y | rfl; exact hg3 i y; exact fun z => b2i_0 h47 z.2.2.2)
              · refine R_bipush (v := 100) hC dX10_firstMend_50 (by decide) (R_iload_n (i := 1) hC dX10_firstMend_52 rfl rfl (R_imul hC dX10_firstMend_53 (R_bipush (v := 10) hC dX10_firstMend_54 (by decide) (R_iload_n (i := 2) hC dX10_firstMend_56 rfl rfl (R_imul hC dX10_firstMend_57 (R_iadd hC dX10_firstMend_58 (R_iload_n (i := 3) hC dX10_firstMend_59 rfl rfl ?_)))))))
                refine R_iadd hC dX10_firstMend_60 (R_iconst (v := 1) hC dX10_firstMend_61 (by decide) (R_iadd hC dX10_firstMend_62 ?_))
                refine R_top (y := nI (100 * n + 10 * m + j)) (mend_v n m j) ?_
                exact R_iret hC hT dX10_firstMend_63 rfl ⟨by
                  rw [opMends_y h0 ht (p := (n, m, j)) ⟨⟨hn, hm, hj, b2i_ne h47⟩, fun r c i z => ?_⟩]
                  show n < r ∨ (n = r ∧ (m < c ∨ (m = c ∧ j ≤ i)))
                  have z1 : ¬ r < n := fun y => hg r c i y z
                  have z2 : r = n → ¬ c < m := fun y y2 => hg2 c i y2 (by rw [← y]; exact z)
                  have z3 : r = n → c = m → ¬ i < j := fun y y2 y3 => hg3 i y3 (by rw [← y, ← y2]; exact z)
                  omega, rfl⟩
          refine R_iload_n (i := 2) hC dX10_firstMend_15 rfl rfl (R_aload_n (i := 0) hC dX10_firstMend_16 rfl rfl (R_gR hC dX10_firstMend_17 fl_X10_19 L_U rfl (R_gI hC dX10_firstMend_20 fl_X10_269 L_table rfl ?_)))
          refine R_top (y := nI (tT α).2.1) (h.2.1.2.1) ?_
          refine R_icmp_ge hC 76 dX10_firstMend_23 (by decide) (fun h => absurd h (nI_ge hm (by omega))) (fun _ => ?_)
          refine R_iconst (v := (-1)) hC dX10_firstMend_26 (by decide) (R_istore_n (i := 3) hC dX10_firstMend_27 rfl (by decide) rfl ?_)
          exact inn 0 (by decide) (fun i hi => absurd hi (Nat.not_lt_zero _))
      refine R_iload_n (i := 1) hC dX10_firstMend_2 rfl rfl (R_aload_n (i := 0) hC dX10_firstMend_3 rfl rfl (R_gR hC dX10_firstMend_4 fl_X10_19 L_U rfl (R_gI hC dX10_firstMend_7 fl_X10_170 L_table rfl ?_)))
      refine R_top (y := nI (tT α).1) (h.2.1.1) ?_
      refine R_icmp_ge hC 82 dX10_firstMend_10 (by decide) (fun h => absurd h (nI_ge hn (by omega))) (fun _ => ?_)
      refine R_iconst (v := 0) hC dX10_firstMend_13 (by decide) (R_istore_n (i := 2) hC dX10_firstMend_14 rfl (by decide) rfl ?_)
      exact mid 0 (Nat.zero_le _) (fun c j hc => absurd hc (Nat.not_lt_zero _)) _
  refine R_iconst (v := 0) hC dX10_firstMend_0 (by decide) (R_istore_n (i := 1) hC dX10_firstMend_1 rfl (by decide) rfl ?_)
  exact outer 0 (Nat.zero_le _) (fun r c j hr => absurd hr (Nat.not_lt_zero _)) _ _
theorem co_mends {σ : sg} {x : aW} {α : aS} (h : CInv σ α) (ok : aOK α) : Mt mX10_mends 4 0 0 [.ref i_U] (wd σ x) (CPost σ x (opMends α) α) := by
  refine Mt.of MI_X10_mends (Nat.le_of_ble_eq_true rfl) (fun X hC hR hT => ?_)
  by_cases h0 : (tT α).1 = 0
  · have e : opMends α = -1 := by unfold opMends; rw [if_pos h0]
    refine R_aload_n (i := 0) hC dX10_mends_0 rfl rfl (R_gR hC dX10_mends_1 fl_X10_19 L_U rfl ?_)
    refine R_V0i hC hR dX10_mends_4 MV_X7_isNone ml_X10_152 L_table rfl (c_isNone TL_table h.2.1) (by first | decide | omega) ⟨by decide, by decide⟩ (Nat.le_of_ble_eq_true rfl) ?_
    refine R_top (y := 1) (b2i_t h0) ?_
    refine R_if_eq hC 12 dX10_mends_7 (by decide) (fun h => absurd h (by decide)) (fun _ => ?_)
    refine R_iconst (v := (-1)) hC dX10_mends_10 (by decide) ?_
    exact R_iret hC hT dX10_mends_11 rfl (by rw [e]; exact CPost.i h (MEq.rf _))
  · by_cases ht : tot (tT α)
    · have e : opMends α = -1000000 := by unfold opMends; rw [if_neg h0, if_pos ht]
      refine R_aload_n (i := 0) hC dX10_mends_0 rfl rfl (R_gR hC dX10_mends_1 fl_X10_19 L_U rfl ?_)
      refine R_V0i hC hR dX10_mends_4 MV_X7_isNone ml_X10_152 L_table rfl (c_isNone TL_table h.2.1) (by first | decide | omega) ⟨by decide, by decide⟩ (Nat.le_of_ble_eq_true rfl) ?_
      refine R_top (y := 0) (b2i_f h0) ?_
      refine R_if_eq hC 12 dX10_mends_7 (by decide) (fun _ => ?_) (fun h => absurd rfl h)
      refine R_aload_n (i := 0) hC dX10_mends_12 rfl rfl ?_
      refine R_V0g hC hR dX10_mends_13 MV_X10_knownMinors ml_X10_190 L_U rfl (c_known h ok) (by first | decide | omega) ⟨by decide, by decide⟩ (Nat.le_of_ble_eq_true rfl) (fun r w1 hq => ?_)
      obtain ⟨rfl, τ, rfl, hτ, hk, kd, c, -⟩ := hq
      refine R_V0i hC hR dX10_mends_16 MV_X1_allWithin ml_X10_200 L_minors rfl (c_allWithin ok.2.2.1.1 hk) (by first | decide | omega) ⟨by decide, by decide⟩ (Nat.le_of_ble_eq_true rfl) ?_
      refine R_top (y := 1) (b2i_t ht) ?_
      refine R_if_eq hC 27 dX10_mends_19 (by decide) (fun h => absurd h (by decide)) (fun _ => ?_)
      refine R_ldc hC dX10_mends_22 kc_X10_145 (R_goto hC 31 dX10_mends_24 (by decide) ?_)
      exact R_iret hC hT dX10_mends_31 rfl (by rw [e]; exact CPost.i hτ c)
    · refine R_aload_n (i := 0) hC dX10_mends_0 rfl rfl (R_gR hC dX10_mends_1 fl_X10_19 L_U rfl ?_)
      refine R_V0i hC hR dX10_mends_4 MV_X7_isNone ml_X10_152 L_table rfl (c_isNone TL_table h.2.1) (by first | decide | omega) ⟨by decide, by decide⟩ (Nat.le_of_ble_eq_true rfl) ?_
      refine R_top (y := 0) (b2i_f h0) ?_
      refine R_if_eq hC 12 dX10_mends_7 (by decide) (fun _ => ?_) (fun h => absurd rfl h)
      refine R_aload_n (i := 0) hC dX10_mends_12 rfl rfl ?_
      refine R_V0g hC hR dX10_mends_13 MV_X10_knownMinors ml_X10_190 L_U rfl (c_known h ok) (by first | decide | omega) ⟨by decide, by decide⟩ (Nat.le_of_ble_eq_true rfl) (fun r w1 hq => ?_)
      obtain ⟨rfl, τ, rfl, hτ, hk, kd, c, -⟩ := hq
      refine R_V0i hC hR dX10_mends_16 MV_X1_allWithin ml_X10_200 L_minors rfl (c_allWithin ok.2.2.1.1 hk) (by first | decide | omega) ⟨by decide, by decide⟩ (Nat.le_of_ble_eq_true rfl) ?_
      refine R_top (y := 0) (b2i_f ht) ?_
      refine R_if_eq hC 27 dX10_mends_19 (by decide) (fun _ => ?_) (fun h => absurd rfl h)
      refine R_aload_n (i := 0) hC dX10_mends_27 rfl rfl ?_
      refine R_V0i hC hR dX10_mends_28 MV_X10_firstMend ml_X10_266 L_U rfl (c_firstMend hτ ok hk kd h0 ht) (by first | decide | omega) ⟨by decide, by decide⟩ (Nat.le_of_ble_eq_true rfl) ?_
      exact R_iret hC hT dX10_mends_31 rfl (CPost.i hτ c)
theorem co_fragile {σ : sg} {x : aW} {α : aS} (h : CInv σ α) (ok : aOK α) : Mt mX10_fragile 4 0 0 [.ref i_U] (wd σ x) (CPost σ x (opFragile α) α) := by
  refine Mt.of MI_X10_fragile (Nat.le_of_ble_eq_true rfl) (fun X hC hR hT => ?_)
  have r6 := ok.2.2.1.1
  have c6 := ok.2.2.1.2.1
  by_cases h0 : (tT α).1 = 0
  · have e : opFragile α = -1 := by unfold opFragile; rw [if_neg (fun z => z.1 h0)]
    refine R_aload_n (i := 0) hC dX10_fragile_0 rfl rfl (R_gR hC dX10_fragile_1 fl_X10_19 L_U rfl ?_)
    refine R_V0i hC hR dX10_fragile_4 MV_X7_isNone ml_X10_152 L_table rfl (c_isNone TL_table h.2.1) (by first | decide | omega) ⟨by decide, by decide⟩ (Nat.le_of_ble_eq_true rfl) ?_
    refine R_top (y := 1) (b2i_t h0) ?_
    refine R_if_ne hC 20 dX10_fragile_7 (by decide) (fun _ => ?_) (fun h => absurd h (by decide))
    refine R_iconst (v := (-1)) hC dX10_fragile_20 (by decide) ?_
    exact R_iret hC hT dX10_fragile_21 rfl (by rw [e]; exact CPost.i h (MEq.rf _))
  · refine R_aload_n (i := 0) hC dX10_fragile_0 rfl rfl (R_gR hC dX10_fragile_1 fl_X10_19 L_U rfl ?_)
    refine R_V0i hC hR dX10_fragile_4 MV_X7_isNone ml_X10_152 L_table rfl (c_isNone TL_table h.2.1) (by first | decide | omega) ⟨by decide, by decide⟩ (Nat.le_of_ble_eq_true rfl) ?_
    refine R_top (y := 0) (b2i_f h0) ?_
    refine R_if_ne hC 20 dX10_fragile_7 (by decide) (fun h => absurd rfl h) (fun _ => ?_)
    refine R_aload_n (i := 0) hC dX10_fragile_10 rfl rfl ?_
    refine R_V0g hC hR dX10_fragile_11 MV_X10_knownMinors ml_X10_190 L_U rfl (c_known h ok) (by first | decide | omega) ⟨by decide, by decide⟩ (Nat.le_of_ble_eq_true rfl) (fun r w1 hq => ?_)
    obtain ⟨rfl, τ, rfl, hτ, hk, kd, c1, -⟩ := hq
    refine R_V0i hC hR dX10_fragile_14 MV_X1_allWithin ml_X10_200 L_minors rfl (c_allWithin r6 hk) (by first | decide | omega) ⟨by decide, by decide⟩ (Nat.le_of_ble_eq_true rfl) ?_
    skip
    by_cases ht : tot (tT α)
    · have e : opFragile α = fo (fun r v => fo (frH (tT α) r) 0 (tT α).2.1 v) 0 (tT α).1 0 := by unfold opFragile; rw [if_pos ⟨h0, ht⟩]
      have outer : ∀ n, n ≤ (tT α).1 → ∀ u3 u4, Rw mX10_fragile X 26 [some (.ref i_U), some (.int (fo (fun r v => fo (frH (tT α) r) 0 (tT α).2.1 v) 0 n 0)), some (.int (nI n)), u3, u4] [] (wd τ x) 0 0 := by
        refine up_loop (tT α).1 ?_ ?_
        · intro u3 u4
          refine R_iload_n (i := 2) hC dX10_fragile_26 rfl rfl (R_aload_n (i := 0) hC dX10_fragile_27 rfl rfl (R_gR hC dX10_fragile_28 fl_X10_19 L_U rfl (R_gI hC dX10_fragile_31 fl_X10_170 L_table rfl ?_)))
          refine R_top (y := nI (tT α).1) (hτ.2.1.1) ?_
          refine R_icmp_ge hC 100 dX10_fragile_34 (by decide) (fun _ => ?_) (fun h => absurd (Int32.le_refl _) h)
          refine R_iload_n (i := 1) hC dX10_fragile_100 rfl rfl ?_
          exact R_iret hC hT dX10_fragile_101 rfl (by rw [e]; exact CPost.i hτ c1)
        · intro n hn ih u3 u4
          rw [fo_s _ (Nat.zero_le n)] at ih
          generalize fo (fun r v => fo (frH (tT α) r) 0 (tT α).2.1 v) 0 n 0 = v0 at ih ⊢
          have inner : ∀ m, m ≤ (tT α).2.1 → ∀ u4, Rw mX10_fragile X 39 [some (.ref i_U), some (.int (fo (frH (tT α) n) 0 m v0)), some (.int (nI n)), some (.int (nI m)), u4] [] (wd τ x) 0 0 := by
            refine up_loop (tT α).2.1 ?_ ?_
            · intro u4
              refine R_iload_n (i := 3) hC dX10_fragile_39 rfl rfl (R_aload_n (i := 0) hC dX10_fragile_40 rfl rfl (R_gR hC dX10_fragile_41 fl_X10_19 L_U rfl (R_gI hC dX10_fragile_44 fl_X10_269 L_table rfl ?_)))
              refine R_top (y := nI (tT α).2.1) (hτ.2.1.2.1) ?_
              refine R_icmp_ge hC 94 dX10_fragile_47 (by decide) (fun _ => ?_) (fun h => absurd (Int32.le_refl _) h)
              refine R_iinc hC dX10_fragile_94 rfl (inc1 _) (by decide) rfl (R_goto hC 26 dX10_fragile_97 (by decide) ?_)
              exact ih _ _
            · intro m hm ihm u4
              rw [fo_s _ (Nat.zero_le m)] at ihm
              generalize fo (frH (tT α) n) 0 m v0 = v1 at ihm ⊢
              have nx : ¬ (¬ (tT α).2.2 n m = 0 ∧ ¬ tot (tset (tT α) n m (-((tT α).2.2 n m)))) → ∀ u4, Rw mX10_fragile X 88 [some (.ref i_U), some (.int v1), some (.int (nI n)), some (.int (nI m)), u4] [] (wd τ x) 0 0 := by
                intro z u4
                have e2 : frH (tT α) n m v1 = v1 := by unfold frH; rw [if_neg z]
                rw [e2] at ihm
                refine R_iinc hC dX10_fragile_88 rfl (inc1 _) (by decide) rfl (R_goto hC 39 dX10_fragile_91 (by decide) ?_)
                exact ihm _
              refine R_iload_n (i := 3) hC dX10_fragile_39 rfl rfl (R_aload_n (i := 0) hC dX10_fragile_40 rfl rfl (R_gR hC dX10_fragile_41 fl_X10_19 L_U rfl (R_gI hC dX10_fragile_44 fl_X10_269 L_table rfl ?_)))
              refine R_top (y := nI (tT α).2.1) (hτ.2.1.2.1) ?_
              refine R_icmp_ge hC 94 dX10_fragile_47 (by decide) (fun h => absurd h (nI_ge hm (by omega))) (fun _ => ?_)
              refine R_aload_n (i := 0) hC dX10_fragile_50 rfl rfl (R_gR hC dX10_fragile_51 fl_X10_19 L_U rfl (R_iload_n (i := 2) hC dX10_fragile_54 rfl rfl (R_iload_n (i := 3) hC dX10_fragile_55 rfl rfl ?_)))
              refine R_V2i hC hR dX10_fragile_56 MV_X7_at ml_X10_133 L_table rfl (c_atN TL_table hτ.2.1 hn hm) (by first | decide | omega) ⟨by decide, by decide⟩ (Nat.le_of_ble_eq_true rfl) ?_
              refine R_istore hC dX10_fragile_59 (by decide) rfl (R_iload hC dX10_fragile_61 rfl ?_)
              refine R_if_eq hC 88 dX10_fragile_63 (by decide) (fun h63 => ?_) (fun h63 => ?_)
              · first
                | (have z1 := b2i_ne h82; exact nx (fun z => z.2 z1) _)
                | exact nx (fun z => z.1 h63) _
              · refine R_aload_n (i := 0) hC dX10_fragile_66 rfl rfl (R_gR hC dX10_fragile_67 fl_X10_56 L_U rfl (R_aload_n (i := 0) hC dX10_fragile_70 rfl rfl (R_gR hC dX10_fragile_71 fl_X10_19 L_U rfl (R_iload_n (i := 2) hC dX10_fragile_74 rfl rfl (R_iload_n (i := 3) hC dX10_fragile_75 rfl rfl (R_iload hC dX10_fragile_76 rfl (R_ineg hC dX10_fragile_78 ?_)))))))
                refine R_V4i hC hR dX10_fragile_79 MV_X1_allWithinIf ml_X10_272 L_minors rfl (c_allIf hk kd hτ.2.1 hn hm _) (by first | decide | omega) ⟨by decide, by decide⟩ (Nat.le_of_ble_eq_true rfl) ?_
                refine R_if_ne hC 88 dX10_fragile_82 (by decide) (fun h82 => ?_) (fun h82 => ?_)
                · first
                  | (have z1 := b2i_ne h82; exact nx (fun z => z.2 z1) _)
                  | exact nx (fun z => z.1 h63) _
                · (have e2 : frH (tT α) n m v1 = v1 + 1 := by unfold frH; rw [if_pos ⟨h63, b2i_0 h82⟩]
                  )
                  rw [e2] at ihm
                  refine R_iinc hC dX10_fragile_85 rfl rfl (by decide) rfl (R_iinc hC dX10_fragile_88 rfl (inc1 _) (by decide) rfl (R_goto hC 39 dX10_fragile_91 (by decide) ?_))
                  exact ihm _
          refine R_iload_n (i := 2) hC dX10_fragile_26 rfl rfl (R_aload_n (i := 0) hC dX10_fragile_27 rfl rfl (R_gR hC dX10_fragile_28 fl_X10_19 L_U rfl (R_gI hC dX10_fragile_31 fl_X10_170 L_table rfl ?_)))
          refine R_top (y := nI (tT α).1) (hτ.2.1.1) ?_
          refine R_icmp_ge hC 100 dX10_fragile_34 (by decide) (fun h => absurd h (nI_ge hn (by omega))) (fun _ => ?_)
          refine R_iconst (v := 0) hC dX10_fragile_37 (by decide) (R_istore_n (i := 3) hC dX10_fragile_38 rfl (by decide) rfl ?_)
          exact inner 0 (Nat.zero_le _) _
      refine R_top (y := 1) (b2i_t ht) ?_
      refine R_if_ne hC 22 dX10_fragile_17 (by decide) (fun _ => ?_) (fun h => absurd h (by decide))
      refine R_iconst (v := 0) hC dX10_fragile_22 (by decide) (R_istore_n (i := 1) hC dX10_fragile_23 rfl (by decide) rfl (R_iconst (v := 0) hC dX10_fragile_24 (by decide) (R_istore_n (i := 2) hC dX10_fragile_25 rfl (by decide) rfl ?_)))
      exact outer 0 (Nat.zero_le _) _ _
    · have e : opFragile α = -1 := by unfold opFragile; rw [if_neg (fun z => ht z.2)]
      refine R_top (y := 0) (b2i_f ht) ?_
      refine R_if_ne hC 22 dX10_fragile_17 (by decide) (fun h => absurd rfl h) (fun _ => ?_)
      refine R_iconst (v := (-1)) hC dX10_fragile_20 (by decide) ?_
      exact R_iret hC hT dX10_fragile_21 rfl (by rw [e]; exact CPost.i hτ c1)
theorem co_fills {σ : sg} {x : aW} {α : aS} (h : CInv σ α) (ok : aOK α) (r c : Int32) : Mt mX10_fills 4 0 0 [.ref i_U, .int r, .int c] (wd σ x) (CPost σ x (opFills α r c) α) := by
  refine Mt.of MI_X10_fills (Nat.le_of_ble_eq_true rfl) (fun X hC hR hT => ?_)
  have r6 := ok.2.2.1.1
  have c6 := ok.2.2.1.2.1
  by_cases h0 : inR (tT α).1 r ∧ inR (tT α).2.1 c
  · have e : opFills α r c = fo (fiH (tT α) r.toNatClampNeg c.toNatClampNeg) 0 3 0 := by unfold opFills; rw [if_pos h0]
    obtain ⟨i, rfl, hi, hi2⟩ := inR_i h0.1
    obtain ⟨j, rfl, hj, hj2⟩ := inR_i h0.2
    rw [nI_clamp hi2, nI_clamp hj2] at e
    have loop : ∀ k, k ≤ 3 → ∀ τ, CInv τ α → MEq σ τ → Rw mX10_fills X 19 [some (.ref i_U), some (.int (nI i)), some (.int (nI j)), some (.int (fo (fiH (tT α) i j) 0 k 0)), some (.int (nI k - 1))] [] (wd τ x) 0 0 := by
      refine up_loop 3 ?_ ?_
      · intro τ hτ c1
        refine R_iload hC dX10_fills_19 rfl (R_iconst (v := 1) hC dX10_fills_21 (by decide) ?_)
        refine R_icmp_gt hC 58 dX10_fills_22 (by decide) (fun _ => ?_) (fun h => absurd vj_3 h)
        refine R_iload_n (i := 3) hC dX10_fills_58 rfl rfl ?_
        exact R_iret hC hT dX10_fills_59 rfl (by rw [e]; exact CPost.i hτ c1)
      · intro k hk ih τ hτ c1
        rw [fo_s _ (Nat.zero_le k)] at ih
        generalize fo (fiH (tT α) i j) 0 k 0 = v0 at ih ⊢
        refine R_iload hC dX10_fills_19 rfl (R_iconst (v := 1) hC dX10_fills_21 (by decide) ?_)
        refine R_icmp_gt hC 58 dX10_fills_22 (by decide) (fun h => absurd h (vj_n hk)) (fun _ => ?_)
        refine R_aload_n (i := 0) hC dX10_fills_25 rfl rfl ?_
        refine R_V0g hC hR dX10_fills_26 MV_X10_knownMinors ml_X10_190 L_U rfl (c_known hτ ok) (by first | decide | omega) ⟨by decide, by decide⟩ (Nat.le_of_ble_eq_true rfl) (fun r w1 hq => ?_)
        obtain ⟨rfl, υ, rfl, hυ, hk2, kd, c2, -⟩ := hq
        refine R_aload_n (i := 0) hC dX10_fills_29 rfl rfl (R_gR hC dX10_fills_30 fl_X10_19 L_U rfl (R_iload_n (i := 1) hC dX10_fills_33 rfl rfl (R_iload_n (i := 2) hC dX10_fills_34 rfl rfl (R_iload hC dX10_fills_35 rfl ?_))))
        refine R_V4i hC hR dX10_fills_37 MV_X1_allWithinIf ml_X10_272 L_minors rfl (c_allIf hk2 kd hυ.2.1 hi hj _) (by first | decide | omega) ⟨by decide, by decide⟩ (Nat.le_of_ble_eq_true rfl) ?_
        skip
        by_cases hz : tot (tset (tT α) i j (nI k - 1))
        · have e2 : fiH (tT α) i j k v0 = v0 ||| (1 : Int32) <<< (nI k &&& 31) := by unfold fiH; rw [if_pos hz]
          rw [e2] at ih
          refine R_top (y := 1) (b2i_t hz) ?_
          refine R_if_eq hC 52 dX10_fills_40 (by decide) (fun h => absurd h (by decide)) (fun _ => ?_)
          refine R_iload_n (i := 3) hC dX10_fills_43 rfl rfl (R_iconst (v := 1) hC dX10_fills_44 (by decide) (R_iload hC dX10_fills_45 rfl (R_iconst (v := 1) hC dX10_fills_47 (by decide) (R_iadd hC dX10_fills_48 ?_))))
          refine R_top (y := nI k) (Int32.sub_add_cancel _ _) ?_
          refine R_ishl hC dX10_fills_49 (R_ior hC dX10_fills_50 (R_istore_n (i := 3) hC dX10_fills_51 rfl (by decide) rfl (R_iinc hC dX10_fills_52 rfl (vj_s k) (by decide) rfl (R_goto hC 19 dX10_fills_55 (by decide) ?_))))
          exact ih υ hυ (c1.tr c2)
        · have e2 : fiH (tT α) i j k v0 = v0 := by unfold fiH; rw [if_neg hz]
          rw [e2] at ih
          refine R_top (y := 0) (b2i_f hz) ?_
          refine R_if_eq hC 52 dX10_fills_40 (by decide) (fun _ => ?_) (fun h => absurd rfl h)
          refine R_iinc hC dX10_fills_52 rfl (vj_s k) (by decide) rfl (R_goto hC 19 dX10_fills_55 (by decide) ?_)
          exact ih υ hυ (c1.tr c2)
    refine R_aload_n (i := 0) hC dX10_fills_0 rfl rfl (R_gR hC dX10_fills_1 fl_X10_19 L_U rfl (R_iload_n (i := 1) hC dX10_fills_4 rfl rfl (R_iload_n (i := 2) hC dX10_fills_5 rfl rfl ?_)))
    refine R_V2i hC hR dX10_fills_6 MV_X7_has ml_X10_126 L_table rfl (c_has TL_table h.2.1 _ _) (by first | decide | omega) ⟨by decide, by decide⟩ (Nat.le_of_ble_eq_true rfl) ?_
    refine R_top (y := 1) (b2i_t h0) ?_
    refine R_if_ne hC 14 dX10_fills_9 (by decide) (fun _ => ?_) (fun h => absurd h (by decide))
    refine R_iconst (v := 0) hC dX10_fills_14 (by decide) (R_istore_n (i := 3) hC dX10_fills_15 rfl (by decide) rfl (R_iconst (v := (-1)) hC dX10_fills_16 (by decide) (R_istore hC dX10_fills_17 (by decide) rfl ?_)))
    exact loop 0 (by decide) σ h (MEq.rf _)
  · have e : opFills α r c = -1 := by unfold opFills; rw [if_neg h0]
    refine R_aload_n (i := 0) hC dX10_fills_0 rfl rfl (R_gR hC dX10_fills_1 fl_X10_19 L_U rfl (R_iload_n (i := 1) hC dX10_fills_4 rfl rfl (R_iload_n (i := 2) hC dX10_fills_5 rfl rfl ?_)))
    refine R_V2i hC hR dX10_fills_6 MV_X7_has ml_X10_126 L_table rfl (c_has TL_table h.2.1 _ _) (by first | decide | omega) ⟨by decide, by decide⟩ (Nat.le_of_ble_eq_true rfl) ?_
    refine R_top (y := 0) (b2i_f h0) ?_
    refine R_if_ne hC 14 dX10_fills_9 (by decide) (fun h => absurd rfl h) (fun _ => ?_)
    refine R_iconst (v := (-1)) hC dX10_fills_12 (by decide) ?_
    exact R_iret hC hT dX10_fills_13 rfl (by rw [e]; exact CPost.i h (MEq.rf _))
theorem co_halves {σ : sg} {x : aW} {α : aS} (h : CInv σ α) (ok : aOK α) (r : Int32) : Mt mX10_halves 3 0 0 [.ref i_U, .int r] (wd σ x) (CPost σ x (opHalves α r) α) := by
  refine Mt.of MI_X10_halves (Nat.le_of_ble_eq_true rfl) (fun X hC hR hT => ?_)
  have p1 := pw6 ok.2.2.1.1
  by_cases h0 : ¬ (tT α).1 = 0 ∧ 0 ≤ r.toInt ∧ r.toInt < (2 : Int) ^ (tT α).1
  · have e : opHalves α r = o2i (hv (tT α) r.toNatClampNeg) := by unfold opHalves; rw [if_pos h0]
    obtain ⟨R, rfl, hRi, hR2⟩ := i32_nI h0.2.1
    rw [nI_clamp hR2] at e
    have hRl : R < 2 ^ (tT α).1 := by have := h0.2.2; rw [← pwI] at this; omega
    refine R_aload_n (i := 0) hC dX10_halves_0 rfl rfl (R_gR hC dX10_halves_1 fl_X10_19 L_U rfl (R_iload_n (i := 1) hC dX10_halves_4 rfl rfl ?_))
    refine R_V1i hC hR dX10_halves_5 MV_X7_hasRowSet ml_X10_179 L_table rfl (c_rowSet TL_table h.2.1 _) (by first | decide | omega) ⟨by decide, by decide⟩ (Nat.le_of_ble_eq_true rfl) ?_
    refine R_top (y := 1) (b2i_t h0) ?_
    refine R_if_eq hC 22 dX10_halves_8 (by decide) (fun h => absurd h (by decide)) (fun _ => ?_)
    refine R_aload_n (i := 0) hC dX10_halves_11 rfl rfl (R_gR hC dX10_halves_12 fl_X10_19 L_U rfl (R_iload_n (i := 1) hC dX10_halves_15 rfl rfl ?_))
    refine R_V1i hC hR dX10_halves_16 MV_X7_halved ml_X10_209 L_table rfl (c_halved TL_table h.2.1 R (by omega)) (by first | decide | omega) ⟨by decide, by decide⟩ (Nat.le_of_ble_eq_true rfl) ?_
    refine R_goto hC 23 dX10_halves_19 (by decide) ?_
    exact R_iret hC hT dX10_halves_23 rfl (by rw [e]; exact CPost.i h (MEq.rf _))
  · have e : opHalves α r = -1 := by unfold opHalves; rw [if_neg h0]
    refine R_aload_n (i := 0) hC dX10_halves_0 rfl rfl (R_gR hC dX10_halves_1 fl_X10_19 L_U rfl (R_iload_n (i := 1) hC dX10_halves_4 rfl rfl ?_))
    refine R_V1i hC hR dX10_halves_5 MV_X7_hasRowSet ml_X10_179 L_table rfl (c_rowSet TL_table h.2.1 _) (by first | decide | omega) ⟨by decide, by decide⟩ (Nat.le_of_ble_eq_true rfl) ?_
    refine R_top (y := 0) (b2i_f h0) ?_
    refine R_if_eq hC 22 dX10_halves_8 (by decide) (fun _ => ?_) (fun h => absurd rfl h)
    refine R_iconst (v := (-1)) hC dX10_halves_22 (by decide) ?_
    exact R_iret hC hT dX10_halves_23 rfl (by rw [e]; exact CPost.i h (MEq.rf _))
theorem hv_0 (T : tb) : hv T 0 = some 0 := by
  have q : hvH T 0 0 = some 0 := by
    unfold hvH
    rw [if_pos ⟨rfl, fun c hc => by
      have : sm (hfT T 0 0 c) T.1 = 0 := by
        rw [sm_ext (h := fun _ => 0) T.1 (fun r hr => by unfold hfT; simp), sm_z]
      rw [this]; exact Or.inr (Or.inl rfl)⟩]
  unfold hv
  exact fs_y (a := 0) (b := 1) (by decide) q
theorem co_unhalved {σ : sg} {x : aW} {α : aS} (h : CInv σ α) (ok : aOK α) : Mt mX10_unhalved 3 0 0 [.ref i_U] (wd σ x) (CPost σ x (opUnhalved α) α) := by
  refine Mt.of MI_X10_unhalved (Nat.le_of_ble_eq_true rfl) (fun X hC hR hT => ?_)
  have p1 := pw6 ok.2.2.1.1
  by_cases h0 : (tT α).1 = 0
  · have e : opUnhalved α = -1 := by unfold opUnhalved; rw [if_pos h0]
    refine R_iconst (v := 0) hC dX10_unhalved_0 (by decide) (R_istore_n (i := 1) hC dX10_unhalved_1 rfl (by decide) rfl (R_iload_n (i := 1) hC dX10_unhalved_2 rfl rfl (R_bipush (v := 64) hC dX10_unhalved_3 (by decide) ?_)))
    refine R_icmp_ge hC 39 dX10_unhalved_5 (by decide) (fun h => absurd h (by decide)) (fun _ => ?_)
    refine R_aload_n (i := 0) hC dX10_unhalved_8 rfl rfl (R_gR hC dX10_unhalved_9 fl_X10_19 L_U rfl (R_iload_n (i := 1) hC dX10_unhalved_12 rfl rfl ?_))
    refine R_V1i hC hR dX10_unhalved_13 MV_X7_hasRowSet ml_X10_179 L_table rfl (c_rowSet TL_table h.2.1 _) (by first | decide | omega) ⟨by decide, by decide⟩ (Nat.le_of_ble_eq_true rfl) ?_
    refine R_top (y := 0) (b2i_f (fun z => z.1 h0)) ?_
    refine R_if_eq hC 39 dX10_unhalved_16 (by decide) (fun _ => ?_) (fun h => absurd rfl h)
    refine R_iconst (v := (-1)) hC dX10_unhalved_39 (by decide) ?_
    exact R_iret hC hT dX10_unhalved_40 rfl (by rw [e]; exact CPost.i h (MEq.rf _))
  · have one1 : 1 ≤ 2 ^ (tT α).1 := Nat.one_le_two_pow
    have e : opUnhalved α = o2i (fs (uhH (tT α)) 0 (2 ^ (tT α).1)) := by
      unfold opUnhalved; rw [if_neg h0]
      have := fs_n (h := uhH (tT α)) (a := 0) (b := 2 ^ (tT α).1) (by omega) (by unfold uhH; rw [hv_0, if_neg (by simp)])
      rw [Nat.sub_zero, Nat.zero_add] at this
      rw [this]
    have loop : ∀ n, n ≤ 2 ^ (tT α).1 → fs (uhH (tT α)) 0 (2 ^ (tT α).1) = fs (uhH (tT α)) n (2 ^ (tT α).1 - n) → Rw mX10_unhalved X 2 [some (.ref i_U), some (.int (nI n))] [] (wd σ x) 0 0 := by
      refine up_loop (2 ^ (tT α).1) ?_ ?_
      · intro ef
        rw [fs_0 (Nat.le_refl _)] at ef
        refine R_iload_n (i := 1) hC dX10_unhalved_2 rfl rfl (R_bipush (v := 64) hC dX10_unhalved_3 (by decide) ?_)
        refine R_icmp_ge hC 39 dX10_unhalved_5 (by decide) (fun h5 => ?_) (fun h5 => ?_)
        · refine R_iconst (v := (-1)) hC dX10_unhalved_39 (by decide) ?_
          exact R_iret hC hT dX10_unhalved_40 rfl (by rw [e, ef]; exact CPost.i h (MEq.rf _))
        · refine R_aload_n (i := 0) hC dX10_unhalved_8 rfl rfl (R_gR hC dX10_unhalved_9 fl_X10_19 L_U rfl (R_iload_n (i := 1) hC dX10_unhalved_12 rfl rfl ?_))
          refine R_V1i hC hR dX10_unhalved_13 MV_X7_hasRowSet ml_X10_179 L_table rfl (c_rowSet TL_table h.2.1 _) (by first | decide | omega) ⟨by decide, by decide⟩ (Nat.le_of_ble_eq_true rfl) ?_
          refine R_top (y := 0) (b2i_f (fun z => by have := z.2.2; rw [nI_toInt (by omega), pwI] at this; omega)) ?_
          refine R_if_eq hC 39 dX10_unhalved_16 (by decide) (fun _ => ?_) (fun h => absurd rfl h)
          refine R_iconst (v := (-1)) hC dX10_unhalved_39 (by decide) ?_
          exact R_iret hC hT dX10_unhalved_40 rfl (by rw [e, ef]; exact CPost.i h (MEq.rf _))
      · intro n hn ih ef
        have em := o2i_n (o := hv (tT α) n) (fun p q => hv_lt (by omega) q)
        refine R_iload_n (i := 1) hC dX10_unhalved_2 rfl rfl (R_bipush (v := 64) hC dX10_unhalved_3 (by decide) ?_)
        refine R_icmp_ge hC 39 dX10_unhalved_5 (by decide) (fun h => absurd h (nI_ge (b := 64) (by omega) (by decide))) (fun _ => ?_)
        refine R_aload_n (i := 0) hC dX10_unhalved_8 rfl rfl (R_gR hC dX10_unhalved_9 fl_X10_19 L_U rfl (R_iload_n (i := 1) hC dX10_unhalved_12 rfl rfl ?_))
        refine R_V1i hC hR dX10_unhalved_13 MV_X7_hasRowSet ml_X10_179 L_table rfl (c_rowSet TL_table h.2.1 _) (by first | decide | omega) ⟨by decide, by decide⟩ (Nat.le_of_ble_eq_true rfl) ?_
        refine R_top (y := 1) (b2i_t ⟨h0, by rw [nI_toInt (by omega)]; omega, by rw [nI_toInt (by omega), ← pwI]; omega⟩) ?_
        refine R_if_eq hC 39 dX10_unhalved_16 (by decide) (fun h => absurd h (by decide)) (fun _ => ?_)
        refine R_aload_n (i := 0) hC dX10_unhalved_19 rfl rfl (R_gR hC dX10_unhalved_20 fl_X10_19 L_U rfl (R_iload_n (i := 1) hC dX10_unhalved_23 rfl rfl ?_))
        refine R_V1i hC hR dX10_unhalved_24 MV_X7_halved ml_X10_209 L_table rfl (c_halved TL_table h.2.1 n (by omega)) (by first | decide | omega) ⟨by decide, by decide⟩ (Nat.le_of_ble_eq_true rfl) ?_
        refine R_iconst (v := (-1)) hC dX10_unhalved_27 (by decide) ?_
        refine R_icmp_ne hC 33 dX10_unhalved_28 (by decide) (fun h28 => ?_) (fun h28 => ?_)
        · refine R_iinc hC dX10_unhalved_33 rfl (inc1 _) (by decide) rfl (R_goto hC 2 dX10_unhalved_36 (by decide) ?_)
          exact ih (by rw [ef, fs_n hn (by unfold uhH; rw [if_neg (fun z => h28 (em.mpr z))])])
        · refine R_iload_n (i := 1) hC dX10_unhalved_31 rfl rfl ?_
          exact R_iret hC hT dX10_unhalved_32 rfl (by rw [e, ef, fs_y hn (v := n) (by unfold uhH; rw [if_pos (em.mp h28)])]; exact CPost.i h (MEq.rf _))
    refine R_iconst (v := 0) hC dX10_unhalved_0 (by decide) (R_istore_n (i := 1) hC dX10_unhalved_1 rfl (by decide) rfl ?_)
    exact loop 0 (Nat.zero_le _) (by rw [Nat.sub_zero])
theorem co_scaled {σ : sg} {x : aW} {α : aS} (h : CInv σ α) (ok : aOK α) (k : Int32) : Mt mX10_scaled 3 0 0 [.ref i_U, .int k] (wd σ x) (CPost σ x (opScaled α k) α) := by
  refine Mt.of MI_X10_scaled (Nat.le_of_ble_eq_true rfl) (fun X hC hR hT => ?_)
  have k4 := ok.2.2.2.1.1
  by_cases h0 : ¬ (tT α).1 = 0 ∧ inR (tK α).1 k
  · have e : opScaled α k = b2i (((tK α).2 k.toNatClampNeg).1 = (tT α).1 ∧ ((tK α).2 k.toNatClampNeg).2.1 = (tT α).2.1 ∧ scl (tT α) ((tK α).2 k.toNatClampNeg).2.2) := by unfold opScaled; rw [if_pos h0]
    obtain ⟨j, rfl, hj, hj2⟩ := inR_i h0.2
    rw [nI_clamp hj2] at e
    have hA := TL_kept j (by omega)
    refine R_aload_n (i := 0) hC dX10_scaled_0 rfl rfl (R_gR hC dX10_scaled_1 fl_X10_19 L_U rfl ?_)
    refine R_V0i hC hR dX10_scaled_4 MV_X7_isNone ml_X10_152 L_table rfl (c_isNone TL_table h.2.1) (by first | decide | omega) ⟨by decide, by decide⟩ (Nat.le_of_ble_eq_true rfl) ?_
    refine R_top (y := 0) (b2i_f h0.1) ?_
    refine R_if_ne hC 18 dX10_scaled_7 (by decide) (fun h => absurd rfl h) (fun _ => ?_)
    refine R_aload_n (i := 0) hC dX10_scaled_10 rfl rfl (R_iload_n (i := 1) hC dX10_scaled_11 rfl rfl ?_)
    refine R_V1i hC hR dX10_scaled_12 MV_X10_isKept ml_X10_163 L_U rfl (c_isKept h ok _) (by first | decide | omega) ⟨by decide, by decide⟩ (Nat.le_of_ble_eq_true rfl) ?_
    refine R_top (y := 1) (b2i_t h0.2) ?_
    refine R_if_ne hC 20 dX10_scaled_15 (by decide) (fun _ => ?_) (fun h => absurd h (by decide))
    refine R_aload_n (i := 0) hC dX10_scaled_20 rfl rfl (R_gR hC dX10_scaled_21 fl_X10_19 L_U rfl (R_aload_n (i := 0) hC dX10_scaled_24 rfl rfl (R_gR hC dX10_scaled_25 fl_X10_36 L_U rfl (R_iload_n (i := 1) hC dX10_scaled_28 rfl rfl (R_aR hC dX10_scaled_29 L_kept_a (Or.inl rfl) j rfl (by omega) (by decide) (fl_kept _ (by omega)) ?_)))))
    refine R_V1i hC hR dX10_scaled_30 MV_X7_scalesTo ml_X10_237 L_table rfl (c_scalesTo TL_table hA h.2.1 (h.2.2.1.2 j hj) (tbI_of ok.2.2.1 h0.1)) (by first | decide | omega) ⟨by decide, by decide⟩ (Nat.le_of_ble_eq_true rfl) ?_
    refine R_if_eq hC 40 dX10_scaled_33 (by decide) (fun h33 => ?_) (fun h33 => ?_)
    · refine R_iconst (v := 0) hC dX10_scaled_40 (by decide) ?_
      exact R_iret hC hT dX10_scaled_41 rfl (by rw [e]; first | (rw [b2i_t (b2i_ne h33)]; exact CPost.i h (MEq.rf _)) | (rw [b2i_f (b2i_0 h33)]; exact CPost.i h (MEq.rf _)))
    · refine R_iconst (v := 1) hC dX10_scaled_36 (by decide) (R_goto hC 41 dX10_scaled_37 (by decide) ?_)
      exact R_iret hC hT dX10_scaled_41 rfl (by rw [e]; first | (rw [b2i_t (b2i_ne h33)]; exact CPost.i h (MEq.rf _)) | (rw [b2i_f (b2i_0 h33)]; exact CPost.i h (MEq.rf _)))
  · have e : opScaled α k = -1 := by unfold opScaled; rw [if_neg h0]
    refine R_aload_n (i := 0) hC dX10_scaled_0 rfl rfl (R_gR hC dX10_scaled_1 fl_X10_19 L_U rfl ?_)
    refine R_V0i hC hR dX10_scaled_4 MV_X7_isNone ml_X10_152 L_table rfl (c_isNone TL_table h.2.1) (by first | decide | omega) ⟨by decide, by decide⟩ (Nat.le_of_ble_eq_true rfl) ?_
    refine R_if_ne hC 18 dX10_scaled_7 (by decide) (fun h7 => ?_) (fun h7 => ?_)
    · refine R_iconst (v := (-1)) hC dX10_scaled_18 (by decide) ?_
      exact R_iret hC hT dX10_scaled_19 rfl (by rw [e]; exact CPost.i h (MEq.rf _))
    · refine R_aload_n (i := 0) hC dX10_scaled_10 rfl rfl (R_iload_n (i := 1) hC dX10_scaled_11 rfl rfl ?_)
      refine R_V1i hC hR dX10_scaled_12 MV_X10_isKept ml_X10_163 L_U rfl (c_isKept h ok _) (by first | decide | omega) ⟨by decide, by decide⟩ (Nat.le_of_ble_eq_true rfl) ?_
      refine R_if_ne hC 20 dX10_scaled_15 (by decide) (fun h15 => ?_) (fun h15 => ?_)
      · exact absurd ⟨b2i_0 h7, b2i_ne h15⟩ h0
      · refine R_iconst (v := (-1)) hC dX10_scaled_18 (by decide) ?_
        exact R_iret hC hT dX10_scaled_19 rfl (by rw [e]; exact CPost.i h (MEq.rf _))
