/-! ===== the class's special tables ===== -/
theorem dX3_fits_0 : decode cX3_fits 0 = .ok (.aload_n 1, 1) := by decide +kernel
theorem dX3_fits_1 : decode cX3_fits 1 = .ok (.getfield 25, 3) := by decide +kernel
theorem dX3_fits_4 : decode cX3_fits 4 = .ok (.iconst 5, 1) := by decide +kernel
theorem dX3_fits_5 : decode cX3_fits 5 = .ok (.if_icmp .ne 11, 3) := by decide +kernel
theorem dX3_fits_8 : decode cX3_fits 8 = .ok (.aload_n 1, 1) := by decide +kernel
theorem dX3_fits_9 : decode cX3_fits 9 = .ok (.getfield 29, 3) := by decide +kernel
theorem dX3_fits_12 : decode cX3_fits 12 = .ok (.iconst 5, 1) := by decide +kernel
theorem dX3_fits_13 : decode cX3_fits 13 = .ok (.if_icmp .eq 5, 3) := by decide +kernel
theorem dX3_fits_16 : decode cX3_fits 16 = .ok (.iconst 0, 1) := by decide +kernel
theorem dX3_fits_17 : decode cX3_fits 17 = .ok (.ireturn, 1) := by decide +kernel
theorem dX3_fits_18 : decode cX3_fits 18 = .ok (.aload_n 0, 1) := by decide +kernel
theorem dX3_fits_19 : decode cX3_fits 19 = .ok (.aload_n 2, 1) := by decide +kernel
theorem dX3_fits_20 : decode cX3_fits 20 = .ok (.invokevirtual 32, 3) := by decide +kernel
theorem dX3_fits_23 : decode cX3_fits 23 = .ok (.aload_n 1, 1) := by decide +kernel
theorem dX3_fits_24 : decode cX3_fits 24 = .ok (.invokevirtual 36, 3) := by decide +kernel
theorem dX3_fits_27 : decode cX3_fits 27 = .ok (.aload_n 0, 1) := by decide +kernel
theorem dX3_fits_28 : decode cX3_fits 28 = .ok (.getfield 12, 3) := by decide +kernel
theorem dX3_fits_31 : decode cX3_fits 31 = .ok (.invokevirtual 36, 3) := by decide +kernel
theorem dX3_fits_34 : decode cX3_fits 34 = .ok (.if_icmp .eq 5, 3) := by decide +kernel
theorem dX3_fits_37 : decode cX3_fits 37 = .ok (.iconst 0, 1) := by decide +kernel
theorem dX3_fits_38 : decode cX3_fits 38 = .ok (.ireturn, 1) := by decide +kernel
theorem dX3_fits_39 : decode cX3_fits 39 = .ok (.iconst 0, 1) := by decide +kernel
theorem dX3_fits_40 : decode cX3_fits 40 = .ok (.istore_n 3, 1) := by decide +kernel
theorem dX3_fits_41 : decode cX3_fits 41 = .ok (.iload_n 3, 1) := by decide +kernel
theorem dX3_fits_42 : decode cX3_fits 42 = .ok (.bipush 120, 2) := by decide +kernel
theorem dX3_fits_44 : decode cX3_fits 44 = .ok (.if_icmp .ge 38, 3) := by decide +kernel
theorem dX3_fits_47 : decode cX3_fits 47 = .ok (.aload_n 0, 1) := by decide +kernel
theorem dX3_fits_48 : decode cX3_fits 48 = .ok (.iload_n 3, 1) := by decide +kernel
theorem dX3_fits_49 : decode cX3_fits 49 = .ok (.invokevirtual 40, 3) := by decide +kernel
theorem dX3_fits_52 : decode cX3_fits 52 = .ok (.aload_n 0, 1) := by decide +kernel
theorem dX3_fits_53 : decode cX3_fits 53 = .ok (.aload_n 1, 1) := by decide +kernel
theorem dX3_fits_54 : decode cX3_fits 54 = .ok (.invokevirtual 44, 3) := by decide +kernel
theorem dX3_fits_57 : decode cX3_fits 57 = .ok (.ifCond .eq 19, 3) := by decide +kernel
theorem dX3_fits_60 : decode cX3_fits 60 = .ok (.aload_n 0, 1) := by decide +kernel
theorem dX3_fits_61 : decode cX3_fits 61 = .ok (.getfield 18, 3) := by decide +kernel
theorem dX3_fits_64 : decode cX3_fits 64 = .ok (.aload_n 0, 1) := by decide +kernel
theorem dX3_fits_65 : decode cX3_fits 65 = .ok (.getfield 12, 3) := by decide +kernel
theorem dX3_fits_68 : decode cX3_fits 68 = .ok (.invokevirtual 48, 3) := by decide +kernel
theorem dX3_fits_71 : decode cX3_fits 71 = .ok (.ifCond .eq 5, 3) := by decide +kernel
theorem dX3_fits_74 : decode cX3_fits 74 = .ok (.iconst 1, 1) := by decide +kernel
theorem dX3_fits_75 : decode cX3_fits 75 = .ok (.ireturn, 1) := by decide +kernel
theorem dX3_fits_76 : decode cX3_fits 76 = .ok (.iinc 3 1, 3) := by decide +kernel
theorem dX3_fits_79 : decode cX3_fits 79 = .ok (.goto (-38), 3) := by decide +kernel
theorem dX3_fits_82 : decode cX3_fits 82 = .ok (.iconst 0, 1) := by decide +kernel
theorem dX3_fits_83 : decode cX3_fits 83 = .ok (.ireturn, 1) := by decide +kernel
theorem dX3_write_0 : decode cX3_write 0 = .ok (.aload_n 0, 1) := by decide +kernel
theorem dX3_write_1 : decode cX3_write 1 = .ok (.getfield 12, 3) := by decide +kernel
theorem dX3_write_4 : decode cX3_write 4 = .ok (.iconst 5, 1) := by decide +kernel
theorem dX3_write_5 : decode cX3_write 5 = .ok (.iconst 5, 1) := by decide +kernel
theorem dX3_write_6 : decode cX3_write 6 = .ok (.invokevirtual 51, 3) := by decide +kernel
theorem dX3_write_9 : decode cX3_write 9 = .ok (.iconst 0, 1) := by decide +kernel
theorem dX3_write_10 : decode cX3_write 10 = .ok (.istore_n 2, 1) := by decide +kernel
theorem dX3_write_11 : decode cX3_write 11 = .ok (.iload_n 2, 1) := by decide +kernel
theorem dX3_write_12 : decode cX3_write 12 = .ok (.aload_n 1, 1) := by decide +kernel
theorem dX3_write_13 : decode cX3_write 13 = .ok (.invokevirtual 55, 3) := by decide +kernel
theorem dX3_write_16 : decode cX3_write 16 = .ok (.if_icmp .ge 40, 3) := by decide +kernel
theorem dX3_write_19 : decode cX3_write 19 = .ok (.aload_n 1, 1) := by decide +kernel
theorem dX3_write_20 : decode cX3_write 20 = .ok (.iload_n 2, 1) := by decide +kernel
theorem dX3_write_21 : decode cX3_write 21 = .ok (.invokevirtual 60, 3) := by decide +kernel
theorem dX3_write_24 : decode cX3_write 24 = .ok (.invokestatic 64, 3) := by decide +kernel
theorem dX3_write_27 : decode cX3_write 27 = .ok (.istore_n 3, 1) := by decide +kernel
theorem dX3_write_28 : decode cX3_write 28 = .ok (.iload_n 3, 1) := by decide +kernel
theorem dX3_write_29 : decode cX3_write 29 = .ok (.ldc 68, 2) := by decide +kernel
theorem dX3_write_31 : decode cX3_write 31 = .ok (.if_icmp .eq 19, 3) := by decide +kernel
theorem dX3_write_34 : decode cX3_write 34 = .ok (.aload_n 0, 1) := by decide +kernel
theorem dX3_write_35 : decode cX3_write 35 = .ok (.getfield 12, 3) := by decide +kernel
theorem dX3_write_38 : decode cX3_write 38 = .ok (.iload_n 2, 1) := by decide +kernel
theorem dX3_write_39 : decode cX3_write 39 = .ok (.bipush 6, 2) := by decide +kernel
theorem dX3_write_41 : decode cX3_write 41 = .ok (.idiv, 1) := by decide +kernel
theorem dX3_write_42 : decode cX3_write 42 = .ok (.iload_n 2, 1) := by decide +kernel
theorem dX3_write_43 : decode cX3_write 43 = .ok (.bipush 6, 2) := by decide +kernel
theorem dX3_write_45 : decode cX3_write 45 = .ok (.irem, 1) := by decide +kernel
theorem dX3_write_46 : decode cX3_write 46 = .ok (.iload_n 3, 1) := by decide +kernel
theorem dX3_write_47 : decode cX3_write 47 = .ok (.invokevirtual 69, 3) := by decide +kernel
theorem dX3_write_50 : decode cX3_write 50 = .ok (.iinc 2 1, 3) := by decide +kernel
theorem dX3_write_53 : decode cX3_write 53 = .ok (.goto (-42), 3) := by decide +kernel
theorem dX3_write_56 : decode cX3_write 56 = .ok (.return_, 1) := by decide +kernel
theorem dX3_setOrder_0 : decode cX3_setOrder 0 = .ok (.iload_n 1, 1) := by decide +kernel
theorem dX3_setOrder_1 : decode cX3_setOrder 1 = .ok (.istore_n 2, 1) := by decide +kernel
theorem dX3_setOrder_2 : decode cX3_setOrder 2 = .ok (.iconst 0, 1) := by decide +kernel
theorem dX3_setOrder_3 : decode cX3_setOrder 3 = .ok (.istore_n 3, 1) := by decide +kernel
theorem dX3_setOrder_4 : decode cX3_setOrder 4 = .ok (.iconst 0, 1) := by decide +kernel
theorem dX3_setOrder_5 : decode cX3_setOrder 5 = .ok (.istore 4, 2) := by decide +kernel
theorem dX3_setOrder_7 : decode cX3_setOrder 7 = .ok (.iload 4, 2) := by decide +kernel
theorem dX3_setOrder_9 : decode cX3_setOrder 9 = .ok (.iconst 5, 1) := by decide +kernel
theorem dX3_setOrder_10 : decode cX3_setOrder 10 = .ok (.if_icmp .ge 65, 3) := by decide +kernel
theorem dX3_setOrder_13 : decode cX3_setOrder 13 = .ok (.iconst 5, 1) := by decide +kernel
theorem dX3_setOrder_14 : decode cX3_setOrder 14 = .ok (.iload 4, 2) := by decide +kernel
theorem dX3_setOrder_16 : decode cX3_setOrder 16 = .ok (.isub, 1) := by decide +kernel
theorem dX3_setOrder_17 : decode cX3_setOrder 17 = .ok (.istore 5, 2) := by decide +kernel
theorem dX3_setOrder_19 : decode cX3_setOrder 19 = .ok (.aload_n 0, 1) := by decide +kernel
theorem dX3_setOrder_20 : decode cX3_setOrder 20 = .ok (.getfield 21, 3) := by decide +kernel
theorem dX3_setOrder_23 : decode cX3_setOrder 23 = .ok (.iload 4, 2) := by decide +kernel
theorem dX3_setOrder_25 : decode cX3_setOrder 25 = .ok (.iload_n 3, 1) := by decide +kernel
theorem dX3_setOrder_26 : decode cX3_setOrder 26 = .ok (.iload 5, 2) := by decide +kernel
theorem dX3_setOrder_28 : decode cX3_setOrder 28 = .ok (.ifCond .le 10, 3) := by decide +kernel
theorem dX3_setOrder_31 : decode cX3_setOrder 31 = .ok (.iload_n 2, 1) := by decide +kernel
theorem dX3_setOrder_32 : decode cX3_setOrder 32 = .ok (.iload 5, 2) := by decide +kernel
theorem dX3_setOrder_34 : decode cX3_setOrder 34 = .ok (.irem, 1) := by decide +kernel
theorem dX3_setOrder_35 : decode cX3_setOrder 35 = .ok (.goto 4, 3) := by decide +kernel
theorem dX3_setOrder_38 : decode cX3_setOrder 38 = .ok (.iconst 0, 1) := by decide +kernel
theorem dX3_setOrder_39 : decode cX3_setOrder 39 = .ok (.invokestatic 73, 3) := by decide +kernel
theorem dX3_setOrder_42 : decode cX3_setOrder 42 = .ok (.iastore, 1) := by decide +kernel
theorem dX3_setOrder_43 : decode cX3_setOrder 43 = .ok (.iload 5, 2) := by decide +kernel
theorem dX3_setOrder_45 : decode cX3_setOrder 45 = .ok (.ifCond .le 10, 3) := by decide +kernel
theorem dX3_setOrder_48 : decode cX3_setOrder 48 = .ok (.iload_n 2, 1) := by decide +kernel
theorem dX3_setOrder_49 : decode cX3_setOrder 49 = .ok (.iload 5, 2) := by decide +kernel
theorem dX3_setOrder_51 : decode cX3_setOrder 51 = .ok (.idiv, 1) := by decide +kernel
theorem dX3_setOrder_52 : decode cX3_setOrder 52 = .ok (.goto 4, 3) := by decide +kernel
theorem dX3_setOrder_55 : decode cX3_setOrder 55 = .ok (.iconst 0, 1) := by decide +kernel
theorem dX3_setOrder_56 : decode cX3_setOrder 56 = .ok (.istore_n 2, 1) := by decide +kernel
theorem dX3_setOrder_57 : decode cX3_setOrder 57 = .ok (.iload_n 3, 1) := by decide +kernel
theorem dX3_setOrder_58 : decode cX3_setOrder 58 = .ok (.iconst 1, 1) := by decide +kernel
theorem dX3_setOrder_59 : decode cX3_setOrder 59 = .ok (.aload_n 0, 1) := by decide +kernel
theorem dX3_setOrder_60 : decode cX3_setOrder 60 = .ok (.getfield 21, 3) := by decide +kernel
theorem dX3_setOrder_63 : decode cX3_setOrder 63 = .ok (.iload 4, 2) := by decide +kernel
theorem dX3_setOrder_65 : decode cX3_setOrder 65 = .ok (.iaload, 1) := by decide +kernel
theorem dX3_setOrder_66 : decode cX3_setOrder 66 = .ok (.ishl, 1) := by decide +kernel
theorem dX3_setOrder_67 : decode cX3_setOrder 67 = .ok (.ior, 1) := by decide +kernel
theorem dX3_setOrder_68 : decode cX3_setOrder 68 = .ok (.istore_n 3, 1) := by decide +kernel
theorem dX3_setOrder_69 : decode cX3_setOrder 69 = .ok (.iinc 4 1, 3) := by decide +kernel
theorem dX3_setOrder_72 : decode cX3_setOrder 72 = .ok (.goto (-65), 3) := by decide +kernel
theorem dX3_setOrder_75 : decode cX3_setOrder 75 = .ok (.return_, 1) := by decide +kernel
theorem dX3_notUsed_0 : decode cX3_notUsed 0 = .ok (.iload_n 1, 1) := by decide +kernel
theorem dX3_notUsed_1 : decode cX3_notUsed 1 = .ok (.istore_n 2, 1) := by decide +kernel
theorem dX3_notUsed_2 : decode cX3_notUsed 2 = .ok (.iconst 0, 1) := by decide +kernel
theorem dX3_notUsed_3 : decode cX3_notUsed 3 = .ok (.istore_n 3, 1) := by decide +kernel
theorem dX3_notUsed_4 : decode cX3_notUsed 4 = .ok (.iload_n 3, 1) := by decide +kernel
theorem dX3_notUsed_5 : decode cX3_notUsed 5 = .ok (.iconst 5, 1) := by decide +kernel
theorem dX3_notUsed_6 : decode cX3_notUsed 6 = .ok (.if_icmp .ge 26, 3) := by decide +kernel
theorem dX3_notUsed_9 : decode cX3_notUsed 9 = .ok (.iload_n 0, 1) := by decide +kernel
theorem dX3_notUsed_10 : decode cX3_notUsed 10 = .ok (.iload_n 3, 1) := by decide +kernel
theorem dX3_notUsed_11 : decode cX3_notUsed 11 = .ok (.invokestatic 77, 3) := by decide +kernel
theorem dX3_notUsed_14 : decode cX3_notUsed 14 = .ok (.ifCond .ne 12, 3) := by decide +kernel
theorem dX3_notUsed_17 : decode cX3_notUsed 17 = .ok (.iload_n 2, 1) := by decide +kernel
theorem dX3_notUsed_18 : decode cX3_notUsed 18 = .ok (.ifCond .ne 5, 3) := by decide +kernel
theorem dX3_notUsed_21 : decode cX3_notUsed 21 = .ok (.iload_n 3, 1) := by decide +kernel
theorem dX3_notUsed_22 : decode cX3_notUsed 22 = .ok (.ireturn, 1) := by decide +kernel
theorem dX3_notUsed_23 : decode cX3_notUsed 23 = .ok (.iinc 2 (-1), 3) := by decide +kernel
theorem dX3_notUsed_26 : decode cX3_notUsed 26 = .ok (.iinc 3 1, 3) := by decide +kernel
theorem dX3_notUsed_29 : decode cX3_notUsed 29 = .ok (.goto (-25), 3) := by decide +kernel
theorem dX3_notUsed_32 : decode cX3_notUsed 32 = .ok (.iconst 0, 1) := by decide +kernel
theorem dX3_notUsed_33 : decode cX3_notUsed 33 = .ok (.ireturn, 1) := by decide +kernel
theorem dX3_moveColumns_0 : decode cX3_moveColumns 0 = .ok (.aload_n 0, 1) := by decide +kernel
theorem dX3_moveColumns_1 : decode cX3_moveColumns 1 = .ok (.getfield 18, 3) := by decide +kernel
theorem dX3_moveColumns_4 : decode cX3_moveColumns 4 = .ok (.iconst 5, 1) := by decide +kernel
theorem dX3_moveColumns_5 : decode cX3_moveColumns 5 = .ok (.iconst 5, 1) := by decide +kernel
theorem dX3_moveColumns_6 : decode cX3_moveColumns 6 = .ok (.invokevirtual 51, 3) := by decide +kernel
theorem dX3_moveColumns_9 : decode cX3_moveColumns 9 = .ok (.iconst 0, 1) := by decide +kernel
theorem dX3_moveColumns_10 : decode cX3_moveColumns 10 = .ok (.istore_n 2, 1) := by decide +kernel
theorem dX3_moveColumns_11 : decode cX3_moveColumns 11 = .ok (.iload_n 2, 1) := by decide +kernel
theorem dX3_moveColumns_12 : decode cX3_moveColumns 12 = .ok (.iconst 5, 1) := by decide +kernel
theorem dX3_moveColumns_13 : decode cX3_moveColumns 13 = .ok (.if_icmp .ge 76, 3) := by decide +kernel
theorem dX3_moveColumns_16 : decode cX3_moveColumns 16 = .ok (.iconst 0, 1) := by decide +kernel
theorem dX3_moveColumns_17 : decode cX3_moveColumns 17 = .ok (.istore_n 3, 1) := by decide +kernel
theorem dX3_moveColumns_18 : decode cX3_moveColumns 18 = .ok (.iload_n 3, 1) := by decide +kernel
theorem dX3_moveColumns_19 : decode cX3_moveColumns 19 = .ok (.iconst 5, 1) := by decide +kernel
theorem dX3_moveColumns_20 : decode cX3_moveColumns 20 = .ok (.if_icmp .ge 19, 3) := by decide +kernel
theorem dX3_moveColumns_23 : decode cX3_moveColumns 23 = .ok (.aload_n 0, 1) := by decide +kernel
theorem dX3_moveColumns_24 : decode cX3_moveColumns 24 = .ok (.aload_n 1, 1) := by decide +kernel
theorem dX3_moveColumns_25 : decode cX3_moveColumns 25 = .ok (.iload_n 3, 1) := by decide +kernel
theorem dX3_moveColumns_26 : decode cX3_moveColumns 26 = .ok (.iload_n 2, 1) := by decide +kernel
theorem dX3_moveColumns_27 : decode cX3_moveColumns 27 = .ok (.invokevirtual 81, 3) := by decide +kernel
theorem dX3_moveColumns_30 : decode cX3_moveColumns 30 = .ok (.ifCond .ne 9, 3) := by decide +kernel
theorem dX3_moveColumns_33 : decode cX3_moveColumns 33 = .ok (.iinc 3 1, 3) := by decide +kernel
theorem dX3_moveColumns_36 : decode cX3_moveColumns 36 = .ok (.goto (-18), 3) := by decide +kernel
theorem dX3_moveColumns_39 : decode cX3_moveColumns 39 = .ok (.iload_n 3, 1) := by decide +kernel
theorem dX3_moveColumns_40 : decode cX3_moveColumns 40 = .ok (.iconst 5, 1) := by decide +kernel
theorem dX3_moveColumns_41 : decode cX3_moveColumns 41 = .ok (.if_icmp .ne 5, 3) := by decide +kernel
theorem dX3_moveColumns_44 : decode cX3_moveColumns 44 = .ok (.iconst 0, 1) := by decide +kernel
theorem dX3_moveColumns_45 : decode cX3_moveColumns 45 = .ok (.ireturn, 1) := by decide +kernel
theorem dX3_moveColumns_46 : decode cX3_moveColumns 46 = .ok (.iconst 0, 1) := by decide +kernel
theorem dX3_moveColumns_47 : decode cX3_moveColumns 47 = .ok (.istore 4, 2) := by decide +kernel
theorem dX3_moveColumns_49 : decode cX3_moveColumns 49 = .ok (.iload 4, 2) := by decide +kernel
theorem dX3_moveColumns_51 : decode cX3_moveColumns 51 = .ok (.iconst 5, 1) := by decide +kernel
theorem dX3_moveColumns_52 : decode cX3_moveColumns 52 = .ok (.if_icmp .ge 31, 3) := by decide +kernel
theorem dX3_moveColumns_55 : decode cX3_moveColumns 55 = .ok (.aload_n 0, 1) := by decide +kernel
theorem dX3_moveColumns_56 : decode cX3_moveColumns 56 = .ok (.getfield 18, 3) := by decide +kernel
theorem dX3_moveColumns_59 : decode cX3_moveColumns 59 = .ok (.iload 4, 2) := by decide +kernel
theorem dX3_moveColumns_61 : decode cX3_moveColumns 61 = .ok (.iload_n 2, 1) := by decide +kernel
theorem dX3_moveColumns_62 : decode cX3_moveColumns 62 = .ok (.aload_n 1, 1) := by decide +kernel
theorem dX3_moveColumns_63 : decode cX3_moveColumns 63 = .ok (.aload_n 0, 1) := by decide +kernel
theorem dX3_moveColumns_64 : decode cX3_moveColumns 64 = .ok (.getfield 21, 3) := by decide +kernel
theorem dX3_moveColumns_67 : decode cX3_moveColumns 67 = .ok (.iload 4, 2) := by decide +kernel
theorem dX3_moveColumns_69 : decode cX3_moveColumns 69 = .ok (.iaload, 1) := by decide +kernel
theorem dX3_moveColumns_70 : decode cX3_moveColumns 70 = .ok (.iload_n 3, 1) := by decide +kernel
theorem dX3_moveColumns_71 : decode cX3_moveColumns 71 = .ok (.invokevirtual 85, 3) := by decide +kernel
theorem dX3_moveColumns_74 : decode cX3_moveColumns 74 = .ok (.invokevirtual 69, 3) := by decide +kernel
theorem dX3_moveColumns_77 : decode cX3_moveColumns 77 = .ok (.iinc 4 1, 3) := by decide +kernel
theorem dX3_moveColumns_80 : decode cX3_moveColumns 80 = .ok (.goto (-31), 3) := by decide +kernel
theorem dX3_moveColumns_83 : decode cX3_moveColumns 83 = .ok (.iinc 2 1, 3) := by decide +kernel
theorem dX3_moveColumns_86 : decode cX3_moveColumns 86 = .ok (.goto (-75), 3) := by decide +kernel
theorem dX3_moveColumns_89 : decode cX3_moveColumns 89 = .ok (.iconst 1, 1) := by decide +kernel
theorem dX3_moveColumns_90 : decode cX3_moveColumns 90 = .ok (.ireturn, 1) := by decide +kernel
theorem dX3_isAlike_0 : decode cX3_isAlike 0 = .ok (.iconst 0, 1) := by decide +kernel
theorem dX3_isAlike_1 : decode cX3_isAlike 1 = .ok (.istore 4, 2) := by decide +kernel
theorem dX3_isAlike_3 : decode cX3_isAlike 3 = .ok (.iload 4, 2) := by decide +kernel
theorem dX3_isAlike_5 : decode cX3_isAlike 5 = .ok (.iconst 5, 1) := by decide +kernel
theorem dX3_isAlike_6 : decode cX3_isAlike 6 = .ok (.if_icmp .ge 52, 3) := by decide +kernel
theorem dX3_isAlike_9 : decode cX3_isAlike 9 = .ok (.aload_n 1, 1) := by decide +kernel
theorem dX3_isAlike_10 : decode cX3_isAlike 10 = .ok (.aload_n 0, 1) := by decide +kernel
theorem dX3_isAlike_11 : decode cX3_isAlike 11 = .ok (.getfield 21, 3) := by decide +kernel
theorem dX3_isAlike_14 : decode cX3_isAlike 14 = .ok (.iload 4, 2) := by decide +kernel
theorem dX3_isAlike_16 : decode cX3_isAlike 16 = .ok (.iaload, 1) := by decide +kernel
theorem dX3_isAlike_17 : decode cX3_isAlike 17 = .ok (.iload_n 2, 1) := by decide +kernel
theorem dX3_isAlike_18 : decode cX3_isAlike 18 = .ok (.invokevirtual 85, 3) := by decide +kernel
theorem dX3_isAlike_21 : decode cX3_isAlike 21 = .ok (.ifCond .ne 7, 3) := by decide +kernel
theorem dX3_isAlike_24 : decode cX3_isAlike 24 = .ok (.iconst 1, 1) := by decide +kernel
theorem dX3_isAlike_25 : decode cX3_isAlike 25 = .ok (.goto 4, 3) := by decide +kernel
theorem dX3_isAlike_28 : decode cX3_isAlike 28 = .ok (.iconst 0, 1) := by decide +kernel
theorem dX3_isAlike_29 : decode cX3_isAlike 29 = .ok (.aload_n 0, 1) := by decide +kernel
theorem dX3_isAlike_30 : decode cX3_isAlike 30 = .ok (.getfield 12, 3) := by decide +kernel
theorem dX3_isAlike_33 : decode cX3_isAlike 33 = .ok (.iload 4, 2) := by decide +kernel
theorem dX3_isAlike_35 : decode cX3_isAlike 35 = .ok (.iload_n 3, 1) := by decide +kernel
theorem dX3_isAlike_36 : decode cX3_isAlike 36 = .ok (.invokevirtual 85, 3) := by decide +kernel
theorem dX3_isAlike_39 : decode cX3_isAlike 39 = .ok (.ifCond .ne 7, 3) := by decide +kernel
theorem dX3_isAlike_42 : decode cX3_isAlike 42 = .ok (.iconst 1, 1) := by decide +kernel
theorem dX3_isAlike_43 : decode cX3_isAlike 43 = .ok (.goto 4, 3) := by decide +kernel
theorem dX3_isAlike_46 : decode cX3_isAlike 46 = .ok (.iconst 0, 1) := by decide +kernel
theorem dX3_isAlike_47 : decode cX3_isAlike 47 = .ok (.if_icmp .eq 5, 3) := by decide +kernel
theorem dX3_isAlike_50 : decode cX3_isAlike 50 = .ok (.iconst 0, 1) := by decide +kernel
theorem dX3_isAlike_51 : decode cX3_isAlike 51 = .ok (.ireturn, 1) := by decide +kernel
theorem dX3_isAlike_52 : decode cX3_isAlike 52 = .ok (.iinc 4 1, 3) := by decide +kernel
theorem dX3_isAlike_55 : decode cX3_isAlike 55 = .ok (.goto (-52), 3) := by decide +kernel
theorem dX3_isAlike_58 : decode cX3_isAlike 58 = .ok (.iconst 1, 1) := by decide +kernel
theorem dX3_isAlike_59 : decode cX3_isAlike 59 = .ok (.ireturn, 1) := by decide +kernel
theorem dX10_special_0 : decode cX10_special 0 = .ok (.aload_n 0, 1) := by decide +kernel
theorem dX10_special_1 : decode cX10_special 1 = .ok (.getfield 19, 3) := by decide +kernel
theorem dX10_special_4 : decode cX10_special 4 = .ok (.invokevirtual 152, 3) := by decide +kernel
theorem dX10_special_7 : decode cX10_special 7 = .ok (.ifCond .eq 5, 3) := by decide +kernel
theorem dX10_special_10 : decode cX10_special 10 = .ok (.iconst (-1), 1) := by decide +kernel
theorem dX10_special_11 : decode cX10_special 11 = .ok (.ireturn, 1) := by decide +kernel
theorem dX10_special_12 : decode cX10_special 12 = .ok (.aload_n 0, 1) := by decide +kernel
theorem dX10_special_13 : decode cX10_special 13 = .ok (.getfield 87, 3) := by decide +kernel
theorem dX10_special_16 : decode cX10_special 16 = .ok (.aload_n 0, 1) := by decide +kernel
theorem dX10_special_17 : decode cX10_special 17 = .ok (.getfield 19, 3) := by decide +kernel
theorem dX10_special_20 : decode cX10_special 20 = .ok (.ldc 240, 2) := by decide +kernel
theorem dX10_special_22 : decode cX10_special 22 = .ok (.invokevirtual 242, 3) := by decide +kernel
theorem dX10_special_25 : decode cX10_special 25 = .ok (.ifCond .eq 5, 3) := by decide +kernel
theorem dX10_special_28 : decode cX10_special 28 = .ok (.iconst 1, 1) := by decide +kernel
theorem dX10_special_29 : decode cX10_special 29 = .ok (.ireturn, 1) := by decide +kernel
theorem dX10_special_30 : decode cX10_special 30 = .ok (.aload_n 0, 1) := by decide +kernel
theorem dX10_special_31 : decode cX10_special 31 = .ok (.getfield 87, 3) := by decide +kernel
theorem dX10_special_34 : decode cX10_special 34 = .ok (.aload_n 0, 1) := by decide +kernel
theorem dX10_special_35 : decode cX10_special 35 = .ok (.getfield 19, 3) := by decide +kernel
theorem dX10_special_38 : decode cX10_special 38 = .ok (.ldc 246, 2) := by decide +kernel
theorem dX10_special_40 : decode cX10_special 40 = .ok (.invokevirtual 242, 3) := by decide +kernel
theorem dX10_special_43 : decode cX10_special 43 = .ok (.ifCond .eq 7, 3) := by decide +kernel
theorem dX10_special_46 : decode cX10_special 46 = .ok (.iconst 2, 1) := by decide +kernel
theorem dX10_special_47 : decode cX10_special 47 = .ok (.goto 4, 3) := by decide +kernel
theorem dX10_special_50 : decode cX10_special 50 = .ok (.iconst 0, 1) := by decide +kernel
theorem dX10_special_51 : decode cX10_special 51 = .ok (.ireturn, 1) := by decide +kernel
theorem dX10_valueOfSign_0 : decode cX10_valueOfSign 0 = .ok (.iload_n 0, 1) := by decide +kernel
theorem dX10_valueOfSign_1 : decode cX10_valueOfSign 1 = .ok (.lookupswitch 41 #[(43, 35), (45, 37), (48, 39)], 35) := by decide +kernel
theorem dX10_valueOfSign_36 : decode cX10_valueOfSign 36 = .ok (.iconst 1, 1) := by decide +kernel
theorem dX10_valueOfSign_37 : decode cX10_valueOfSign 37 = .ok (.ireturn, 1) := by decide +kernel
theorem dX10_valueOfSign_38 : decode cX10_valueOfSign 38 = .ok (.iconst (-1), 1) := by decide +kernel
theorem dX10_valueOfSign_39 : decode cX10_valueOfSign 39 = .ok (.ireturn, 1) := by decide +kernel
theorem dX10_valueOfSign_40 : decode cX10_valueOfSign 40 = .ok (.iconst 0, 1) := by decide +kernel
theorem dX10_valueOfSign_41 : decode cX10_valueOfSign 41 = .ok (.ireturn, 1) := by decide +kernel
theorem dX10_valueOfSign_42 : decode cX10_valueOfSign 42 = .ok (.ldc 145, 2) := by decide +kernel
theorem dX10_valueOfSign_44 : decode cX10_valueOfSign 44 = .ok (.ireturn, 1) := by decide +kernel
def vsg (v : Int32) : Int32 := if v = 43 then 1 else if v = 45 then -1 else if v = 48 then 0 else -1000000
theorem c_valSign (v : Int32) (w : aW) : Mt mX10_valueOfSign 0 0 0 [.int v] w (QI (vsg v) w) := by
  refine Mt.of MI_X10_valueOfSign (Nat.le_of_ble_eq_true rfl) (fun X hC hR hT => ?_)
  by_cases h1 : v = 43
  · subst h1
    refine R_iload_n (i := 0) hC dX10_valueOfSign_0 rfl rfl ?_
    refine R_lookup hC 36 dX10_valueOfSign_1 (by decide) (off := 35) (by decide) (by decide) ?_
    refine R_iconst (v := 1) hC dX10_valueOfSign_36 (by decide) ?_
    exact R_iret hC hT dX10_valueOfSign_37 rfl ⟨rfl, rfl⟩
  · by_cases h2 : v = 45
    · subst h2
      refine R_iload_n (i := 0) hC dX10_valueOfSign_0 rfl rfl ?_
      refine R_lookup hC 38 dX10_valueOfSign_1 (by decide) (off := 37) (by decide) (by decide) ?_
      refine R_iconst (v := (-1)) hC dX10_valueOfSign_38 (by decide) ?_
      exact R_iret hC hT dX10_valueOfSign_39 rfl ⟨rfl, rfl⟩
    · by_cases h3 : v = 48
      · subst h3
        refine R_iload_n (i := 0) hC dX10_valueOfSign_0 rfl rfl ?_
        refine R_lookup hC 40 dX10_valueOfSign_1 (by decide) (off := 39) (by decide) (by decide) ?_
        refine R_iconst (v := 0) hC dX10_valueOfSign_40 (by decide) ?_
        exact R_iret hC hT dX10_valueOfSign_41 rfl ⟨rfl, rfl⟩
      · have n1 : ¬ (43 : Int) = v.toInt := fun z => h1 (Int32.toInt_inj.mp (by rw [← z]; decide))
        have n2 : ¬ (45 : Int) = v.toInt := fun z => h2 (Int32.toInt_inj.mp (by rw [← z]; decide))
        have n3 : ¬ (48 : Int) = v.toInt := fun z => h3 (Int32.toInt_inj.mp (by rw [← z]; decide))
        refine R_iload_n (i := 0) hC dX10_valueOfSign_0 rfl rfl ?_
        refine R_lookup hC 42 dX10_valueOfSign_1 (by decide) (off := 41) (by
          show (if (43 : Int) = v.toInt then (35 : Int) else if (45 : Int) = v.toInt then 37 else if (48 : Int) = v.toInt then 39 else 41) = 41
          rw [if_neg n1, if_neg n2, if_neg n3]) (by decide) ?_
        refine R_ldc hC dX10_valueOfSign_42 kc_X10_145 ?_
        exact R_iret hC hT dX10_valueOfSign_44 rfl ⟨by unfold vsg; rw [if_neg h1, if_neg h2, if_neg h3], rfl⟩
theorem sp_len : (kby 1).length = 29 ∧ (kby 2).length = 29 := by decide +kernel
theorem sp_val : ∀ k, k < 3 → 1 ≤ k → ∀ r, r < 5 → ∀ c, c < 5 → vsg ((kby k).getD (6 * r + c) 0) = spG k r c ∧ ¬ vsg ((kby k).getD (6 * r + c) 0) = -1000000 := by decide +kernel
theorem sp_sl : ∀ k, k < 3 → 1 ≤ k → ∀ r, r < 4 → vsg ((kby k).getD (6 * r + 5) 0) = -1000000 := by decide +kernel
theorem div6 : ∀ i, i < 29 → nI i / 6 = nI (i / 6) ∧ nI i - nI i / 6 * 6 = nI (i % 6) := by decide +kernel
theorem c_write {σ : sg} {x : aW} (k : Nat) (hk : k < 3) (hk1 : 1 ≤ k) : Mt mX3_write 4 0 0 [.ref i_pattern, .ref (2 + k)] (wd σ x) (fun r w => r = none ∧ ∃ τ, w = wd τ x ∧ AE [137, 138] σ τ ∧ CT τ i_special (5, 5, spG k)) := by
  refine Mt.of MI_X3_write (Nat.le_of_ble_eq_true rfl) (fun X hC hR hT => ?_)
  have kl : (kby k).length = 29 := by rcases (by omega : k = 1 ∨ k = 2) with rfl | rfl; exact sp_len.1; exact sp_len.2
  have loop : ∀ n, n ≤ 29 → ∀ τ, AE [137, 138] σ τ → CT τ i_special (5, 5, fun r c => if 6 * r + c < n then spG k r c else 0) → ∀ u3, Rw mX3_write X 11 [some (.ref i_pattern), some (.ref (2 + k)), some (.int (nI n)), u3] [] (wd τ x) 0 0 := by
    refine up_loop 29 ?_ ?_
    · intro τ e hs u3
      refine R_iload_n (i := 2) hC dX3_write_11 rfl rfl (R_aload_n (i := 1) hC dX3_write_12 rfl rfl ?_)
      refine R_K0 hC hR (show k < 7 by omega) dX3_write_13 MV_J0_length_8abf5 rfl ml_X3_55 (k_length k (by omega) _) (by decide) ⟨by decide, by decide⟩ (Nat.le_of_ble_eq_true rfl) ?_
      refine R_top (y := nI 29) (by rw [kl]) ?_
      refine R_icmp_ge hC 56 dX3_write_16 (by decide) (fun _ => ?_) (fun h => absurd (Int32.le_refl _) h)
      exact R_vret hC hT dX3_write_56 rfl ⟨rfl, τ, rfl, e, hs.cg (fun r c hr hc => by
        have hr : r < 5 := hr
        have hc : c < 5 := hc
        show spG k r c = if 6 * r + c < 29 then spG k r c else 0
        rw [if_pos (by omega)])⟩
    · intro n hn ih τ e hs u3
      obtain ⟨d1, d2⟩ := div6 n hn
      refine R_iload_n (i := 2) hC dX3_write_11 rfl rfl (R_aload_n (i := 1) hC dX3_write_12 rfl rfl ?_)
      refine R_K0 hC hR (show k < 7 by omega) dX3_write_13 MV_J0_length_8abf5 rfl ml_X3_55 (k_length k (by omega) _) (by decide) ⟨by decide, by decide⟩ (Nat.le_of_ble_eq_true rfl) ?_
      refine R_top (y := nI 29) (by rw [kl]) ?_
      refine R_icmp_ge hC 56 dX3_write_16 (by decide) (fun h => absurd h (nI_ge (b := 29) hn (by decide))) (fun _ => ?_)
      refine R_aload_n (i := 1) hC dX3_write_19 rfl rfl (R_iload_n (i := 2) hC dX3_write_20 rfl rfl ?_)
      refine R_K1 hC hR (show k < 7 by omega) dX3_write_21 MV_J0_charAt_5068e rfl ml_X3_60 (k_charAt k (by omega) n (by omega) _) (by decide) ⟨by decide, by decide⟩ (Nat.le_of_ble_eq_true rfl) ?_
      by_cases hc : n % 6 < 5
      · obtain ⟨v1, v2⟩ := sp_val k hk hk1 (n / 6) (by omega) (n % 6) hc
        rw [show 6 * (n / 6) + n % 6 = n by omega] at v1 v2
        rw [v1] at v2
        refine R_S1i hC hR dX3_write_24 MS_X10_valueOfSign ml_X3_64 (c_valSign _ _) (by first | decide | omega) ⟨by decide, by decide⟩ (Nat.le_of_ble_eq_true rfl) ?_
        refine R_top (y := spG k (n / 6) (n % 6)) (v1) ?_
        refine R_istore_n (i := 3) hC dX3_write_27 rfl (by decide) rfl (R_iload_n (i := 3) hC dX3_write_28 rfl rfl (R_ldc hC dX3_write_29 kc_X3_68 ?_))
        refine R_icmp_eq hC 50 dX3_write_31 (by decide) (fun h => absurd h v2) (fun _ => ?_)
        refine R_aload_n (i := 0) hC dX3_write_34 rfl rfl (R_gR hC dX3_write_35 fl_X3_12 L_pattern rfl (R_iload_n (i := 2) hC dX3_write_38 rfl rfl (R_bipush (v := 6) hC dX3_write_39 (by decide) (R_idiv hC dX3_write_41 (by decide) ?_))))
        refine R_top (y := nI (n / 6)) (d1) ?_
        refine R_iload_n (i := 2) hC dX3_write_42 rfl rfl (R_bipush (v := 6) hC dX3_write_43 (by decide) (R_irem hC dX3_write_45 (by decide) ?_))
        refine R_top (y := nI (n % 6)) (d2) ?_
        refine R_iload_n (i := 3) hC dX3_write_46 rfl rfl ?_
        refine R_V3v hC hR dX3_write_47 MV_X7_put ml_X3_69 L_special rfl (c_put TL_special hs (i := n / 6) (j := n % 6) (by show n / 6 < 5; omega) hc _) (by first | decide | omega) ⟨by decide, by decide⟩ (Nat.le_of_ble_eq_true rfl) ?_
        refine R_iinc hC dX3_write_50 rfl (inc1 _) (by decide) rfl (R_goto hC 11 dX3_write_53 (by decide) ?_)
        exact ih _ (e.a (by decide)) ((hs.put (i := n / 6) (j := n % 6) hc _).cg (fun r c hr hc2 => by
          have hc2 : c < 5 := hc2
          show (if 6 * r + c < n + 1 then spG k r c else 0) = if r = n / 6 ∧ c = n % 6 then spG k (n / 6) (n % 6) else if 6 * r + c < n then spG k r c else 0
          by_cases q : r = n / 6 ∧ c = n % 6
          · rw [if_pos q, if_pos (by omega), q.1, q.2]
          · rw [if_neg q]
            by_cases q2 : 6 * r + c < n
            · rw [if_pos q2, if_pos (by omega)]
            · rw [if_neg q2, if_neg (by omega)])) _
      · have v1 := sp_sl k hk hk1 (n / 6) (by omega)
        rw [show 6 * (n / 6) + 5 = n by omega] at v1
        refine R_S1i hC hR dX3_write_24 MS_X10_valueOfSign ml_X3_64 (c_valSign _ _) (by first | decide | omega) ⟨by decide, by decide⟩ (Nat.le_of_ble_eq_true rfl) ?_
        refine R_top (y := -1000000) (v1) ?_
        refine R_istore_n (i := 3) hC dX3_write_27 rfl (by decide) rfl (R_iload_n (i := 3) hC dX3_write_28 rfl rfl (R_ldc hC dX3_write_29 kc_X3_68 ?_))
        refine R_icmp_eq hC 50 dX3_write_31 (by decide) (fun _ => ?_) (fun h => absurd rfl h)
        refine R_iinc hC dX3_write_50 rfl (inc1 _) (by decide) rfl (R_goto hC 11 dX3_write_53 (by decide) ?_)
        exact ih τ e (hs.cg (fun r c hr hc2 => by
          have hc2 : c < 5 := hc2
          show (if 6 * r + c < n + 1 then spG k r c else 0) = if 6 * r + c < n then spG k r c else 0
          by_cases q2 : 6 * r + c < n
          · rw [if_pos q2, if_pos (by omega)]
          · rw [if_neg q2, if_neg (by omega)])) _
  refine R_aload_n (i := 0) hC dX3_write_0 rfl rfl (R_gR hC dX3_write_1 fl_X3_12 L_pattern rfl (R_iconst (v := 5) hC dX3_write_4 (by decide) (R_iconst (v := 5) hC dX3_write_5 (by decide) ?_)))
  refine R_V2g hC hR dX3_write_6 MV_X7_clear ml_X3_51 L_special rfl (c_clear TL_special 5 5 (by decide) (by decide)) (by first | decide | omega) ⟨by decide, by decide⟩ (Nat.le_of_ble_eq_true rfl) (fun r w1 hq => ?_)
  obtain ⟨rfl, τ, rfl, c, hs⟩ := hq
  refine R_iconst (v := 0) hC dX3_write_9 (by decide) (R_istore_n (i := 2) hC dX3_write_10 rfl (by decide) rfl ?_)
  exact loop 0 (by decide) τ c (hs.cg (fun r c _ _ => if_neg (Nat.not_lt_zero _))) _
/-- orders of five rows, by their numbers -/
def nuR (u : Nat) : Nat → Nat → Nat → Nat
  | _, _, 0 => 0
  | l, r, f + 1 => if u.testBit r then nuR u l (r + 1) f else if l = 0 then r else nuR u (l - 1) (r + 1) f
def nu (u l : Nat) : Nat := nuR u l 0 5
def oSt (N : Nat) : Nat → Nat × Nat
  | 0 => (N, 0)
  | p + 1 => ((oSt N p).1 / (5 - p), (oSt N p).2 ||| 2 ^ nu (oSt N p).2 ((oSt N p).1 % (5 - p)))
def od (N p : Nat) : Nat := nu (oSt N p).2 ((oSt N p).1 % (5 - p))
theorem od_ok : ∀ N, N < 120 → ∀ p, p < 5 → od N p < 5 ∧ (oSt N p).1 < 120 ∧ (oSt N p).2 < 64 ∧ ∀ q, q < p → od N q ≠ od N p := by decide +kernel
def lsb (u a : Nat) : Nat := pcn (31 - u) a
def oNum (a b c d e : Nat) : Nat := lsb 0 a + 5 * (lsb (2 ^ a) b + 4 * (lsb (2 ^ a ||| 2 ^ b) c + 3 * (lsb (2 ^ a ||| 2 ^ b ||| 2 ^ c) d + 2 * lsb (2 ^ a ||| 2 ^ b ||| 2 ^ c ||| 2 ^ d) e)))
def eqq (a b c d e : Nat) : Bool := a == b || a == c || a == d || a == e || b == c || b == d || b == e || c == d || c == e || d == e
def chk (a b c d e : Nat) : Bool := eqq a b c d e || ((Nat.blt (oNum a b c d e) 120 && (od (oNum a b c d e) 0 == a && (od (oNum a b c d e) 1 == b && (od (oNum a b c d e) 2 == c && (od (oNum a b c d e) 3 == d && od (oNum a b c d e) 4 == e))))) && (List.range 5).all (fun v => v == a || v == b || v == c || v == d || v == e))
theorem chk_all : ∀ i, i < 25 → ∀ j, j < 125 → chk (j % 5) (j / 5 % 5) (j / 25) (i % 5) (i / 5) = true := by decide +kernel
theorem chk5 {a b c d e : Nat} (ha : a < 5) (hb : b < 5) (hc : c < 5) (hd : d < 5) (he : e < 5) : chk a b c d e = true := by
  have q := chk_all (d + 5 * e) (by omega) (a + 5 * b + 25 * c) (by omega)
  rwa [show (a + 5 * b + 25 * c) % 5 = a by omega, show (a + 5 * b + 25 * c) / 5 % 5 = b by omega, show (a + 5 * b + 25 * c) / 25 = c by omega, show (d + 5 * e) % 5 = d by omega, show (d + 5 * e) / 5 = e by omega] at q
def inj5 (ρ : Nat → Nat) : Prop := (∀ r, r < 5 → ρ r < 5) ∧ ∀ i j, i < j → j < 5 → ρ i ≠ ρ j
theorem inj5.ne {ρ : Nat → Nat} (h : inj5 ρ) : eqq (ρ 0) (ρ 1) (ρ 2) (ρ 3) (ρ 4) = false := by
  have q := h.2
  have z01 := q 0 1 (by decide) (by decide)
  have z02 := q 0 2 (by decide) (by decide)
  have z03 := q 0 3 (by decide) (by decide)
  have z04 := q 0 4 (by decide) (by decide)
  have z12 := q 1 2 (by decide) (by decide)
  have z13 := q 1 3 (by decide) (by decide)
  have z14 := q 1 4 (by decide) (by decide)
  have z23 := q 2 3 (by decide) (by decide)
  have z24 := q 2 4 (by decide) (by decide)
  have z34 := q 3 4 (by decide) (by decide)
  simp [eqq, z01, z02, z03, z04, z12, z13, z14, z23, z24, z34]
theorem inj5.ck {ρ : Nat → Nat} (h : inj5 ρ) : (Nat.blt (oNum (ρ 0) (ρ 1) (ρ 2) (ρ 3) (ρ 4)) 120 = true ∧ od (oNum (ρ 0) (ρ 1) (ρ 2) (ρ 3) (ρ 4)) 0 = ρ 0 ∧ od (oNum (ρ 0) (ρ 1) (ρ 2) (ρ 3) (ρ 4)) 1 = ρ 1 ∧ od (oNum (ρ 0) (ρ 1) (ρ 2) (ρ 3) (ρ 4)) 2 = ρ 2 ∧ od (oNum (ρ 0) (ρ 1) (ρ 2) (ρ 3) (ρ 4)) 3 = ρ 3 ∧ od (oNum (ρ 0) (ρ 1) (ρ 2) (ρ 3) (ρ 4)) 4 = ρ 4) ∧ ∀ v, v < 5 → (v = ρ 0 ∨ v = ρ 1 ∨ v = ρ 2 ∨ v = ρ 3 ∨ v = ρ 4) := by
  have b := h.1
  have q := chk5 (b 0 (by decide)) (b 1 (by decide)) (b 2 (by decide)) (b 3 (by decide)) (b 4 (by decide))
  unfold chk at q
  rw [h.ne, Bool.false_or, Bool.and_eq_true] at q
  obtain ⟨q1, q2⟩ := q
  refine ⟨?_, fun v hv => ?_⟩
  · simp only [Bool.and_eq_true, beq_iff_eq] at q1; exact q1
  · have := List.all_eq_true.mp q2 v (List.mem_range.mpr hv)
    simp only [Bool.or_eq_true, beq_iff_eq] at this
    omega
theorem inj5.sur {ρ : Nat → Nat} (h : inj5 ρ) {v : Nat} (hv : v < 5) : ∃ i, i < 5 ∧ ρ i = v := by
  rcases h.ck.2 v hv with z | z | z | z | z
  · exact ⟨0, by decide, z.symm⟩
  · exact ⟨1, by decide, z.symm⟩
  · exact ⟨2, by decide, z.symm⟩
  · exact ⟨3, by decide, z.symm⟩
  · exact ⟨4, by decide, z.symm⟩
theorem inj5.num {ρ : Nat → Nat} (h : inj5 ρ) : ∃ N, N < 120 ∧ ∀ p, p < 5 → od N p = ρ p := by
  obtain ⟨z, z0, z1, z2, z3, z4⟩ := h.ck.1
  refine ⟨_, Nat.le_of_ble_eq_true z, fun p hp => ?_⟩
  rcases (by omega : p = 0 ∨ p = 1 ∨ p = 2 ∨ p = 3 ∨ p = 4) with rfl | rfl | rfl | rfl | rfl
  · exact z0
  · exact z1
  · exact z2
  · exact z3
  · exact z4
theorem od_inj {N : Nat} (h : N < 120) : inj5 (od N) := ⟨fun r hr => (od_ok N h r hr).1, fun i j hi hj => (od_ok N h j hj).2.2.2 i hi⟩
theorem c_notUsed (u l : Nat) (hu : u < 64) (hl : l < 2 ^ 31) (w : aW) : Mt mX3_notUsed 1 0 0 [.int (nI u), .int (nI l)] w (QI (nI (nu u l)) w) := by
  refine Mt.of MI_X3_notUsed (Nat.le_of_ble_eq_true rfl) (fun X hC hR hT => ?_)
  have loop : ∀ f r l', f + r = 5 → l' < 2 ^ 31 → nu u l = nuR u l' r f → Rw mX3_notUsed X 4 [some (.int (nI u)), some (.int (nI l)), some (.int (nI l')), some (.int (nI r))] [] w 0 0 := by
    intro f
    induction f with
    | zero =>
      intro r l' h1 h2 e
      have : r = 5 := by omega
      subst this
      refine R_iload_n (i := 3) hC dX3_notUsed_4 rfl rfl (R_iconst (v := 5) hC dX3_notUsed_5 (by decide) ?_)
      refine R_icmp_ge hC 32 dX3_notUsed_6 (by decide) (fun _ => ?_) (fun h => absurd (by decide) h)
      refine R_iconst (v := 0) hC dX3_notUsed_32 (by decide) ?_
      exact R_iret hC hT dX3_notUsed_33 rfl ⟨by rw [e]; rfl, rfl⟩
    | succ f ih =>
      intro r l' h1 h2 e
      rw [nuR] at e
      by_cases hb : u.testBit r = true
      · rw [if_pos hb] at e
        refine R_iload_n (i := 3) hC dX3_notUsed_4 rfl rfl (R_iconst (v := 5) hC dX3_notUsed_5 (by decide) ?_)
        refine R_icmp_ge hC 32 dX3_notUsed_6 (by decide) (fun h => absurd h (nI_ge (b := 5) (by omega) (by decide))) (fun _ => ?_)
        refine R_iload_n (i := 0) hC dX3_notUsed_9 rfl rfl (R_iload_n (i := 3) hC dX3_notUsed_10 rfl rfl ?_)
        refine R_S2i hC hR dX3_notUsed_11 MS_X10_isIn ml_X3_77 (c_isIn u r hu (by omega) _) (by first | decide | omega) ⟨by decide, by decide⟩ (Nat.le_of_ble_eq_true rfl) ?_
        refine R_top (y := 1) (if_pos hb) ?_
        refine R_if_ne hC 26 dX3_notUsed_14 (by decide) (fun _ => ?_) (fun h => absurd h (by decide))
        refine R_iinc hC dX3_notUsed_26 rfl (inc1 _) (by decide) rfl (R_goto hC 4 dX3_notUsed_29 (by decide) ?_)
        exact ih (r + 1) l' (by omega) h2 e
      · rw [if_neg hb] at e
        by_cases hz : l' = 0
        · rw [if_pos hz] at e
          refine R_iload_n (i := 3) hC dX3_notUsed_4 rfl rfl (R_iconst (v := 5) hC dX3_notUsed_5 (by decide) ?_)
          refine R_icmp_ge hC 32 dX3_notUsed_6 (by decide) (fun h => absurd h (nI_ge (b := 5) (by omega) (by decide))) (fun _ => ?_)
          refine R_iload_n (i := 0) hC dX3_notUsed_9 rfl rfl (R_iload_n (i := 3) hC dX3_notUsed_10 rfl rfl ?_)
          refine R_S2i hC hR dX3_notUsed_11 MS_X10_isIn ml_X3_77 (c_isIn u r hu (by omega) _) (by first | decide | omega) ⟨by decide, by decide⟩ (Nat.le_of_ble_eq_true rfl) ?_
          refine R_top (y := 0) (if_neg hb) ?_
          refine R_if_ne hC 26 dX3_notUsed_14 (by decide) (fun h => absurd rfl h) (fun _ => ?_)
          refine R_iload_n (i := 2) hC dX3_notUsed_17 rfl rfl ?_
          refine R_if_ne hC 23 dX3_notUsed_18 (by decide) (fun h => absurd (by rw [hz]; rfl) h) (fun _ => ?_)
          refine R_iload_n (i := 3) hC dX3_notUsed_21 rfl rfl ?_
          exact R_iret hC hT dX3_notUsed_22 rfl ⟨by rw [e], rfl⟩
        · rw [if_neg hz] at e
          refine R_iload_n (i := 3) hC dX3_notUsed_4 rfl rfl (R_iconst (v := 5) hC dX3_notUsed_5 (by decide) ?_)
          refine R_icmp_ge hC 32 dX3_notUsed_6 (by decide) (fun h => absurd h (nI_ge (b := 5) (by omega) (by decide))) (fun _ => ?_)
          refine R_iload_n (i := 0) hC dX3_notUsed_9 rfl rfl (R_iload_n (i := 3) hC dX3_notUsed_10 rfl rfl ?_)
          refine R_S2i hC hR dX3_notUsed_11 MS_X10_isIn ml_X3_77 (c_isIn u r hu (by omega) _) (by first | decide | omega) ⟨by decide, by decide⟩ (Nat.le_of_ble_eq_true rfl) ?_
          refine R_top (y := 0) (if_neg hb) ?_
          refine R_if_ne hC 26 dX3_notUsed_14 (by decide) (fun h => absurd rfl h) (fun _ => ?_)
          refine R_iload_n (i := 2) hC dX3_notUsed_17 rfl rfl ?_
          refine R_if_ne hC 23 dX3_notUsed_18 (by decide) (fun _ => ?_) (fun h => absurd h (nI_ne0 (by omega) h2))
          refine R_iinc hC dX3_notUsed_23 rfl (show nI l' + Int32.ofInt (-1) = nI (l' - 1) from by rw [show l' = l' - 1 + 1 by omega]; exact dec1 (l' - 1)) (by decide) rfl (R_iinc hC dX3_notUsed_26 rfl (inc1 _) (by decide) rfl (R_goto hC 4 dX3_notUsed_29 (by decide) ?_))
          exact ih (r + 1) (l' - 1) (by omega) (by omega) e
  refine R_iload_n (i := 1) hC dX3_notUsed_0 rfl rfl (R_istore_n (i := 2) hC dX3_notUsed_1 rfl (by decide) rfl (R_iconst (v := 0) hC dX3_notUsed_2 (by decide) (R_istore_n (i := 3) hC dX3_notUsed_3 rfl (by decide) rfl ?_)))
  exact loop 5 0 l rfl hl rfl
theorem dm5 : ∀ a, a < 120 → ∀ b, b < 6 → 1 ≤ b → nI a / nI b = nI (a / b) ∧ nI a - nI a / nI b * nI b = nI (a % b) := by decide +kernel
theorem c_setOrder {σ : sg} {x : aW} (N : Nat) (hN : N < 120) : Mt mX3_setOrder 2 0 0 [.ref i_pattern, .int (nI N)] (wd σ x) (fun r w => r = none ∧ ∃ τ, w = wd τ x ∧ AE [141] σ τ ∧ ∀ p, p < 5 → τ.2.2 i_order p = nI (od N p)) := by
  refine Mt.of MI_X3_setOrder (Nat.le_of_ble_eq_true rfl) (fun X hC hR hT => ?_)
  have loop : ∀ n, n ≤ 5 → ∀ τ, AE [141] σ τ → (∀ p, p < n → τ.2.2 i_order p = nI (od N p)) → ∀ u5, Rw mX3_setOrder X 7 [some (.ref i_pattern), some (.int (nI N)), some (.int (nI (oSt N n).1)), some (.int (nI (oSt N n).2)), some (.int (nI n)), u5] [] (wd τ x) 0 0 := by
    refine up_loop 5 ?_ ?_
    · intro τ e ho u5
      refine R_iload hC dX3_setOrder_7 rfl (R_iconst (v := 5) hC dX3_setOrder_9 (by decide) ?_)
      refine R_icmp_ge hC 75 dX3_setOrder_10 (by decide) (fun _ => ?_) (fun h => absurd (by decide) h)
      exact R_vret hC hT dX3_setOrder_75 rfl ⟨rfl, τ, rfl, e, ho⟩
    · intro n hn ih τ e ho u5
      obtain ⟨o1, o2, o3, o4⟩ := od_ok N hN n hn
      obtain ⟨d1, d2⟩ := dm5 (oSt N n).1 o2 (5 - n) (by omega) (by omega)
      have l3 : 2 ^ od N n < 64 := Nat.pow_lt_pow_right (by decide) (show od N n < 6 by omega)
      refine R_iload hC dX3_setOrder_7 rfl (R_iconst (v := 5) hC dX3_setOrder_9 (by decide) ?_)
      refine R_icmp_ge hC 75 dX3_setOrder_10 (by decide) (fun h => absurd h (nI_ge (b := 5) hn (by decide))) (fun _ => ?_)
      refine R_iconst (v := 5) hC dX3_setOrder_13 (by decide) (R_iload hC dX3_setOrder_14 rfl (R_isub hC dX3_setOrder_16 ?_))
      refine R_top (y := nI (5 - n)) (by rw [show (5 : Int32) = nI 5 from rfl, nI_sub (by omega)]) ?_
      refine R_istore hC dX3_setOrder_17 (by decide) rfl (R_aload_n (i := 0) hC dX3_setOrder_19 rfl rfl (R_gR hC dX3_setOrder_20 fl_X3_21 L_pattern rfl (R_iload hC dX3_setOrder_23 rfl (R_iload_n (i := 3) hC dX3_setOrder_25 rfl rfl (R_iload hC dX3_setOrder_26 rfl ?_)))))
      refine R_if_le hC 38 dX3_setOrder_28 (by decide) (fun h => absurd h (nI_nle (by omega) (by omega))) (fun _ => ?_)
      refine R_iload_n (i := 2) hC dX3_setOrder_31 rfl rfl (R_iload hC dX3_setOrder_32 rfl (R_irem hC dX3_setOrder_34 (nI_ne0 (by omega) (by omega)) ?_))
      refine R_top (y := nI ((oSt N n).1 % (5 - n))) (d2) ?_
      refine R_goto hC 39 dX3_setOrder_35 (by decide) ?_
      refine R_S2i hC hR dX3_setOrder_39 MS_X3_notUsed ml_X3_73 (c_notUsed _ _ o3 (by have := Nat.mod_le (oSt N n).1 (5 - n); omega) _) (by first | decide | omega) ⟨by decide, by decide⟩ (Nat.le_of_ble_eq_true rfl) ?_
      refine R_sI hC dX3_setOrder_42 L_order n rfl hn (by decide) (R_iload hC dX3_setOrder_43 rfl ?_)
      refine R_if_le hC 55 dX3_setOrder_45 (by decide) (fun h => absurd h (nI_nle (by omega) (by omega))) (fun _ => ?_)
      refine R_iload_n (i := 2) hC dX3_setOrder_48 rfl rfl (R_iload hC dX3_setOrder_49 rfl (R_idiv hC dX3_setOrder_51 (nI_ne0 (by omega) (by omega)) ?_))
      refine R_top (y := nI ((oSt N n).1 / (5 - n))) (d1) ?_
      refine R_goto hC 56 dX3_setOrder_52 (by decide) (R_istore_n (i := 2) hC dX3_setOrder_56 rfl (by decide) rfl (R_iload_n (i := 3) hC dX3_setOrder_57 rfl rfl (R_iconst (v := 1) hC dX3_setOrder_58 (by decide) (R_aload_n (i := 0) hC dX3_setOrder_59 rfl rfl (R_gR hC dX3_setOrder_60 fl_X3_21 L_pattern rfl (R_iload hC dX3_setOrder_63 rfl (R_aI hC dX3_setOrder_65 L_order n rfl hn (by decide) ?_)))))))
      refine R_top (y := nI (od N n)) (by rw [sA_eq]; unfold upd; rw [if_pos rfl]; rfl) ?_
      refine R_ishl hC dX3_setOrder_66 ?_
      refine R_top (y := nI (2 ^ od N n)) (shl1 _ (by omega)) ?_
      refine R_ior hC dX3_setOrder_67 ?_
      refine R_top (y := nI ((oSt N n).2 ||| 2 ^ od N n)) (nI_or _ o3 _ l3) ?_
      refine R_istore_n (i := 3) hC dX3_setOrder_68 rfl (by decide) rfl (R_iinc hC dX3_setOrder_69 rfl (inc1 _) (by decide) rfl (R_goto hC 7 dX3_setOrder_72 (by decide) ?_))
      exact ih _ (e.a (by decide)) (fun p hp => by
        rw [sA_eq]; unfold upd
        by_cases q : p = n
        · rw [if_pos q, q]; rfl
        · rw [if_neg q]; exact ho p (by omega)) _
  refine R_iload_n (i := 1) hC dX3_setOrder_0 rfl rfl (R_istore_n (i := 2) hC dX3_setOrder_1 rfl (by decide) rfl (R_iconst (v := 0) hC dX3_setOrder_2 (by decide) (R_istore_n (i := 3) hC dX3_setOrder_3 rfl (by decide) rfl (R_iconst (v := 0) hC dX3_setOrder_4 (by decide) (R_istore hC dX3_setOrder_5 (by decide) rfl ?_)))))
  exact loop 0 (by decide) σ (AE.rf _ _) (fun p hp => absurd hp (Nat.not_lt_zero _)) _
