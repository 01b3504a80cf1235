theorem dX11_isHalf_0 : decode cX11_isHalf 0 = .ok (.iconst 0, 1) := by decide +kernel
theorem dX11_isHalf_1 : decode cX11_isHalf 1 = .ok (.istore_n 3, 1) := by decide +kernel
theorem dX11_isHalf_2 : decode cX11_isHalf 2 = .ok (.iload_n 3, 1) := by decide +kernel
theorem dX11_isHalf_3 : decode cX11_isHalf 3 = .ok (.aload_n 0, 1) := by decide +kernel
theorem dX11_isHalf_4 : decode cX11_isHalf 4 = .ok (.getfield 13, 3) := by decide +kernel
theorem dX11_isHalf_7 : decode cX11_isHalf 7 = .ok (.bipush 37, 2) := by decide +kernel
theorem dX11_isHalf_9 : decode cX11_isHalf 9 = .ok (.iaload, 1) := by decide +kernel
theorem dX11_isHalf_10 : decode cX11_isHalf 10 = .ok (.if_icmp .ge 99, 3) := by decide +kernel
theorem dX11_isHalf_13 : decode cX11_isHalf 13 = .ok (.iconst 0, 1) := by decide +kernel
theorem dX11_isHalf_14 : decode cX11_isHalf 14 = .ok (.istore 4, 2) := by decide +kernel
theorem dX11_isHalf_16 : decode cX11_isHalf 16 = .ok (.iconst 0, 1) := by decide +kernel
theorem dX11_isHalf_17 : decode cX11_isHalf 17 = .ok (.istore 5, 2) := by decide +kernel
theorem dX11_isHalf_19 : decode cX11_isHalf 19 = .ok (.iload 5, 2) := by decide +kernel
theorem dX11_isHalf_21 : decode cX11_isHalf 21 = .ok (.aload_n 0, 1) := by decide +kernel
theorem dX11_isHalf_22 : decode cX11_isHalf 22 = .ok (.getfield 13, 3) := by decide +kernel
theorem dX11_isHalf_25 : decode cX11_isHalf 25 = .ok (.bipush 36, 2) := by decide +kernel
theorem dX11_isHalf_27 : decode cX11_isHalf 27 = .ok (.iaload, 1) := by decide +kernel
theorem dX11_isHalf_28 : decode cX11_isHalf 28 = .ok (.if_icmp .ge 60, 3) := by decide +kernel
theorem dX11_isHalf_31 : decode cX11_isHalf 31 = .ok (.iload_n 1, 1) := by decide +kernel
theorem dX11_isHalf_32 : decode cX11_isHalf 32 = .ok (.iload 5, 2) := by decide +kernel
theorem dX11_isHalf_34 : decode cX11_isHalf 34 = .ok (.invokestatic 200, 3) := by decide +kernel
theorem dX11_isHalf_37 : decode cX11_isHalf 37 = .ok (.ifCond .eq 45, 3) := by decide +kernel
theorem dX11_isHalf_40 : decode cX11_isHalf 40 = .ok (.iload 4, 2) := by decide +kernel
theorem dX11_isHalf_42 : decode cX11_isHalf 42 = .ok (.iload_n 2, 1) := by decide +kernel
theorem dX11_isHalf_43 : decode cX11_isHalf 43 = .ok (.iload 5, 2) := by decide +kernel
theorem dX11_isHalf_45 : decode cX11_isHalf 45 = .ok (.invokestatic 200, 3) := by decide +kernel
theorem dX11_isHalf_48 : decode cX11_isHalf 48 = .ok (.ifCond .eq 18, 3) := by decide +kernel
theorem dX11_isHalf_51 : decode cX11_isHalf 51 = .ok (.aload_n 0, 1) := by decide +kernel
theorem dX11_isHalf_52 : decode cX11_isHalf 52 = .ok (.getfield 13, 3) := by decide +kernel
theorem dX11_isHalf_55 : decode cX11_isHalf 55 = .ok (.bipush 6, 2) := by decide +kernel
theorem dX11_isHalf_57 : decode cX11_isHalf 57 = .ok (.iload 5, 2) := by decide +kernel
theorem dX11_isHalf_59 : decode cX11_isHalf 59 = .ok (.imul, 1) := by decide +kernel
theorem dX11_isHalf_60 : decode cX11_isHalf 60 = .ok (.iload_n 3, 1) := by decide +kernel
theorem dX11_isHalf_61 : decode cX11_isHalf 61 = .ok (.iadd, 1) := by decide +kernel
theorem dX11_isHalf_62 : decode cX11_isHalf 62 = .ok (.iaload, 1) := by decide +kernel
theorem dX11_isHalf_63 : decode cX11_isHalf 63 = .ok (.goto 16, 3) := by decide +kernel
theorem dX11_isHalf_66 : decode cX11_isHalf 66 = .ok (.aload_n 0, 1) := by decide +kernel
theorem dX11_isHalf_67 : decode cX11_isHalf 67 = .ok (.getfield 13, 3) := by decide +kernel
theorem dX11_isHalf_70 : decode cX11_isHalf 70 = .ok (.bipush 6, 2) := by decide +kernel
theorem dX11_isHalf_72 : decode cX11_isHalf 72 = .ok (.iload 5, 2) := by decide +kernel
theorem dX11_isHalf_74 : decode cX11_isHalf 74 = .ok (.imul, 1) := by decide +kernel
theorem dX11_isHalf_75 : decode cX11_isHalf 75 = .ok (.iload_n 3, 1) := by decide +kernel
theorem dX11_isHalf_76 : decode cX11_isHalf 76 = .ok (.iadd, 1) := by decide +kernel
theorem dX11_isHalf_77 : decode cX11_isHalf 77 = .ok (.iaload, 1) := by decide +kernel
theorem dX11_isHalf_78 : decode cX11_isHalf 78 = .ok (.ineg, 1) := by decide +kernel
theorem dX11_isHalf_79 : decode cX11_isHalf 79 = .ok (.iadd, 1) := by decide +kernel
theorem dX11_isHalf_80 : decode cX11_isHalf 80 = .ok (.istore 4, 2) := by decide +kernel
theorem dX11_isHalf_82 : decode cX11_isHalf 82 = .ok (.iinc 5 1, 3) := by decide +kernel
theorem dX11_isHalf_85 : decode cX11_isHalf 85 = .ok (.goto (-66), 3) := by decide +kernel
theorem dX11_isHalf_88 : decode cX11_isHalf 88 = .ok (.iload 4, 2) := by decide +kernel
theorem dX11_isHalf_90 : decode cX11_isHalf 90 = .ok (.i2l, 1) := by decide +kernel
theorem dX11_isHalf_91 : decode cX11_isHalf 91 = .ok (.ldc2_w 162, 3) := by decide +kernel
theorem dX11_isHalf_94 : decode cX11_isHalf 94 = .ok (.lconst 1, 1) := by decide +kernel
theorem dX11_isHalf_95 : decode cX11_isHalf 95 = .ok (.invokestatic 140, 3) := by decide +kernel
theorem dX11_isHalf_98 : decode cX11_isHalf 98 = .ok (.ifCond .ne 5, 3) := by decide +kernel
theorem dX11_isHalf_101 : decode cX11_isHalf 101 = .ok (.iconst 0, 1) := by decide +kernel
theorem dX11_isHalf_102 : decode cX11_isHalf 102 = .ok (.ireturn, 1) := by decide +kernel
theorem dX11_isHalf_103 : decode cX11_isHalf 103 = .ok (.iinc 3 1, 3) := by decide +kernel
theorem dX11_isHalf_106 : decode cX11_isHalf 106 = .ok (.goto (-104), 3) := by decide +kernel
theorem dX11_isHalf_109 : decode cX11_isHalf 109 = .ok (.iconst 1, 1) := by decide +kernel
theorem dX11_isHalf_110 : decode cX11_isHalf 110 = .ok (.ireturn, 1) := by decide +kernel
theorem dX11_halfOf_0 : decode cX11_halfOf 0 = .ok (.iconst 0, 1) := by decide +kernel
theorem dX11_halfOf_1 : decode cX11_halfOf 1 = .ok (.istore_n 2, 1) := by decide +kernel
theorem dX11_halfOf_2 : decode cX11_halfOf 2 = .ok (.iload_n 2, 1) := by decide +kernel
theorem dX11_halfOf_3 : decode cX11_halfOf 3 = .ok (.iload_n 1, 1) := by decide +kernel
theorem dX11_halfOf_4 : decode cX11_halfOf 4 = .ok (.if_icmp .gt 28, 3) := by decide +kernel
theorem dX11_halfOf_7 : decode cX11_halfOf 7 = .ok (.iload_n 2, 1) := by decide +kernel
theorem dX11_halfOf_8 : decode cX11_halfOf 8 = .ok (.iload_n 1, 1) := by decide +kernel
theorem dX11_halfOf_9 : decode cX11_halfOf 9 = .ok (.iconst (-1), 1) := by decide +kernel
theorem dX11_halfOf_10 : decode cX11_halfOf 10 = .ok (.ixor, 1) := by decide +kernel
theorem dX11_halfOf_11 : decode cX11_halfOf 11 = .ok (.iand, 1) := by decide +kernel
theorem dX11_halfOf_12 : decode cX11_halfOf 12 = .ok (.ifCond .ne 14, 3) := by decide +kernel
theorem dX11_halfOf_15 : decode cX11_halfOf 15 = .ok (.aload_n 0, 1) := by decide +kernel
theorem dX11_halfOf_16 : decode cX11_halfOf 16 = .ok (.iload_n 1, 1) := by decide +kernel
theorem dX11_halfOf_17 : decode cX11_halfOf 17 = .ok (.iload_n 2, 1) := by decide +kernel
theorem dX11_halfOf_18 : decode cX11_halfOf 18 = .ok (.invokevirtual 233, 3) := by decide +kernel
theorem dX11_halfOf_21 : decode cX11_halfOf 21 = .ok (.ifCond .eq 5, 3) := by decide +kernel
theorem dX11_halfOf_24 : decode cX11_halfOf 24 = .ok (.iload_n 2, 1) := by decide +kernel
theorem dX11_halfOf_25 : decode cX11_halfOf 25 = .ok (.ireturn, 1) := by decide +kernel
theorem dX11_halfOf_26 : decode cX11_halfOf 26 = .ok (.iinc 2 1, 3) := by decide +kernel
theorem dX11_halfOf_29 : decode cX11_halfOf 29 = .ok (.goto (-27), 3) := by decide +kernel
theorem dX11_halfOf_32 : decode cX11_halfOf 32 = .ok (.iconst (-1), 1) := by decide +kernel
theorem dX11_halfOf_33 : decode cX11_halfOf 33 = .ok (.ireturn, 1) := by decide +kernel
theorem dX11_halves_0 : decode cX11_halves 0 = .ok (.aload_n 0, 1) := by decide +kernel
theorem dX11_halves_1 : decode cX11_halves 1 = .ok (.iconst 0, 1) := by decide +kernel
theorem dX11_halves_2 : decode cX11_halves 2 = .ok (.putfield 83, 3) := by decide +kernel
theorem dX11_halves_5 : decode cX11_halves 5 = .ok (.aload_n 0, 1) := by decide +kernel
theorem dX11_halves_6 : decode cX11_halves 6 = .ok (.getfield 13, 3) := by decide +kernel
theorem dX11_halves_9 : decode cX11_halves 9 = .ok (.bipush 36, 2) := by decide +kernel
theorem dX11_halves_11 : decode cX11_halves 11 = .ok (.iaload, 1) := by decide +kernel
theorem dX11_halves_12 : decode cX11_halves 12 = .ok (.ifCond .le 28, 3) := by decide +kernel
theorem dX11_halves_15 : decode cX11_halves 15 = .ok (.iload_n 1, 1) := by decide +kernel
theorem dX11_halves_16 : decode cX11_halves 16 = .ok (.ifCond .lt 24, 3) := by decide +kernel
theorem dX11_halves_19 : decode cX11_halves 19 = .ok (.iload_n 1, 1) := by decide +kernel
theorem dX11_halves_20 : decode cX11_halves 20 = .ok (.iconst 1, 1) := by decide +kernel
theorem dX11_halves_21 : decode cX11_halves 21 = .ok (.aload_n 0, 1) := by decide +kernel
theorem dX11_halves_22 : decode cX11_halves 22 = .ok (.getfield 13, 3) := by decide +kernel
theorem dX11_halves_25 : decode cX11_halves 25 = .ok (.bipush 36, 2) := by decide +kernel
theorem dX11_halves_27 : decode cX11_halves 27 = .ok (.iaload, 1) := by decide +kernel
theorem dX11_halves_28 : decode cX11_halves 28 = .ok (.ishl, 1) := by decide +kernel
theorem dX11_halves_29 : decode cX11_halves 29 = .ok (.if_icmp .ge 11, 3) := by decide +kernel
theorem dX11_halves_32 : decode cX11_halves 32 = .ok (.aload_n 0, 1) := by decide +kernel
theorem dX11_halves_33 : decode cX11_halves 33 = .ok (.iload_n 1, 1) := by decide +kernel
theorem dX11_halves_34 : decode cX11_halves 34 = .ok (.invokevirtual 236, 3) := by decide +kernel
theorem dX11_halves_37 : decode cX11_halves 37 = .ok (.goto 4, 3) := by decide +kernel
theorem dX11_halves_40 : decode cX11_halves 40 = .ok (.iconst (-1), 1) := by decide +kernel
theorem dX11_halves_41 : decode cX11_halves 41 = .ok (.ireturn, 1) := by decide +kernel
theorem dX11_unhalved_0 : decode cX11_unhalved 0 = .ok (.aload_n 0, 1) := by decide +kernel
theorem dX11_unhalved_1 : decode cX11_unhalved 1 = .ok (.iconst 0, 1) := by decide +kernel
theorem dX11_unhalved_2 : decode cX11_unhalved 2 = .ok (.putfield 83, 3) := by decide +kernel
theorem dX11_unhalved_5 : decode cX11_unhalved 5 = .ok (.aload_n 0, 1) := by decide +kernel
theorem dX11_unhalved_6 : decode cX11_unhalved 6 = .ok (.getfield 13, 3) := by decide +kernel
theorem dX11_unhalved_9 : decode cX11_unhalved 9 = .ok (.bipush 36, 2) := by decide +kernel
theorem dX11_unhalved_11 : decode cX11_unhalved 11 = .ok (.iaload, 1) := by decide +kernel
theorem dX11_unhalved_12 : decode cX11_unhalved 12 = .ok (.ifCond .ne 5, 3) := by decide +kernel
theorem dX11_unhalved_15 : decode cX11_unhalved 15 = .ok (.iconst (-1), 1) := by decide +kernel
theorem dX11_unhalved_16 : decode cX11_unhalved 16 = .ok (.ireturn, 1) := by decide +kernel
theorem dX11_unhalved_17 : decode cX11_unhalved 17 = .ok (.iconst 1, 1) := by decide +kernel
theorem dX11_unhalved_18 : decode cX11_unhalved 18 = .ok (.istore_n 1, 1) := by decide +kernel
theorem dX11_unhalved_19 : decode cX11_unhalved 19 = .ok (.iload_n 1, 1) := by decide +kernel
theorem dX11_unhalved_20 : decode cX11_unhalved 20 = .ok (.iconst 1, 1) := by decide +kernel
theorem dX11_unhalved_21 : decode cX11_unhalved 21 = .ok (.aload_n 0, 1) := by decide +kernel
theorem dX11_unhalved_22 : decode cX11_unhalved 22 = .ok (.getfield 13, 3) := by decide +kernel
theorem dX11_unhalved_25 : decode cX11_unhalved 25 = .ok (.bipush 36, 2) := by decide +kernel
theorem dX11_unhalved_27 : decode cX11_unhalved 27 = .ok (.iaload, 1) := by decide +kernel
theorem dX11_unhalved_28 : decode cX11_unhalved 28 = .ok (.ishl, 1) := by decide +kernel
theorem dX11_unhalved_29 : decode cX11_unhalved 29 = .ok (.if_icmp .ge 20, 3) := by decide +kernel
theorem dX11_unhalved_32 : decode cX11_unhalved 32 = .ok (.aload_n 0, 1) := by decide +kernel
theorem dX11_unhalved_33 : decode cX11_unhalved 33 = .ok (.iload_n 1, 1) := by decide +kernel
theorem dX11_unhalved_34 : decode cX11_unhalved 34 = .ok (.invokevirtual 236, 3) := by decide +kernel
theorem dX11_unhalved_37 : decode cX11_unhalved 37 = .ok (.iconst (-1), 1) := by decide +kernel
theorem dX11_unhalved_38 : decode cX11_unhalved 38 = .ok (.if_icmp .ne 5, 3) := by decide +kernel
theorem dX11_unhalved_41 : decode cX11_unhalved 41 = .ok (.iload_n 1, 1) := by decide +kernel
theorem dX11_unhalved_42 : decode cX11_unhalved 42 = .ok (.ireturn, 1) := by decide +kernel
theorem dX11_unhalved_43 : decode cX11_unhalved 43 = .ok (.iinc 1 1, 3) := by decide +kernel
theorem dX11_unhalved_46 : decode cX11_unhalved 46 = .ok (.goto (-27), 3) := by decide +kernel
theorem dX11_unhalved_49 : decode cX11_unhalved 49 = .ok (.iconst (-1), 1) := by decide +kernel
theorem dX11_unhalved_50 : decode cX11_unhalved 50 = .ok (.ireturn, 1) := by decide +kernel
theorem dX11_rowsOf_0 : decode cX11_rowsOf 0 = .ok (.iconst 0, 1) := by decide +kernel
theorem dX11_rowsOf_1 : decode cX11_rowsOf 1 = .ok (.istore_n 2, 1) := by decide +kernel
theorem dX11_rowsOf_2 : decode cX11_rowsOf 2 = .ok (.iconst 0, 1) := by decide +kernel
theorem dX11_rowsOf_3 : decode cX11_rowsOf 3 = .ok (.istore_n 3, 1) := by decide +kernel
theorem dX11_rowsOf_4 : decode cX11_rowsOf 4 = .ok (.iload_n 3, 1) := by decide +kernel
theorem dX11_rowsOf_5 : decode cX11_rowsOf 5 = .ok (.aload_n 0, 1) := by decide +kernel
theorem dX11_rowsOf_6 : decode cX11_rowsOf 6 = .ok (.getfield 13, 3) := by decide +kernel
theorem dX11_rowsOf_9 : decode cX11_rowsOf 9 = .ok (.bipush 36, 2) := by decide +kernel
theorem dX11_rowsOf_11 : decode cX11_rowsOf 11 = .ok (.iaload, 1) := by decide +kernel
theorem dX11_rowsOf_12 : decode cX11_rowsOf 12 = .ok (.if_icmp .ge 33, 3) := by decide +kernel
theorem dX11_rowsOf_15 : decode cX11_rowsOf 15 = .ok (.iload_n 2, 1) := by decide +kernel
theorem dX11_rowsOf_16 : decode cX11_rowsOf 16 = .ok (.aload_n 0, 1) := by decide +kernel
theorem dX11_rowsOf_17 : decode cX11_rowsOf 17 = .ok (.getfield 13, 3) := by decide +kernel
theorem dX11_rowsOf_20 : decode cX11_rowsOf 20 = .ok (.bipush 6, 2) := by decide +kernel
theorem dX11_rowsOf_22 : decode cX11_rowsOf 22 = .ok (.iload_n 3, 1) := by decide +kernel
theorem dX11_rowsOf_23 : decode cX11_rowsOf 23 = .ok (.imul, 1) := by decide +kernel
theorem dX11_rowsOf_24 : decode cX11_rowsOf 24 = .ok (.iload_n 1, 1) := by decide +kernel
theorem dX11_rowsOf_25 : decode cX11_rowsOf 25 = .ok (.iadd, 1) := by decide +kernel
theorem dX11_rowsOf_26 : decode cX11_rowsOf 26 = .ok (.iaload, 1) := by decide +kernel
theorem dX11_rowsOf_27 : decode cX11_rowsOf 27 = .ok (.ifCond .ne 7, 3) := by decide +kernel
theorem dX11_rowsOf_30 : decode cX11_rowsOf 30 = .ok (.iconst 0, 1) := by decide +kernel
theorem dX11_rowsOf_31 : decode cX11_rowsOf 31 = .ok (.goto 6, 3) := by decide +kernel
theorem dX11_rowsOf_34 : decode cX11_rowsOf 34 = .ok (.iconst 1, 1) := by decide +kernel
theorem dX11_rowsOf_35 : decode cX11_rowsOf 35 = .ok (.iload_n 3, 1) := by decide +kernel
theorem dX11_rowsOf_36 : decode cX11_rowsOf 36 = .ok (.ishl, 1) := by decide +kernel
theorem dX11_rowsOf_37 : decode cX11_rowsOf 37 = .ok (.ior, 1) := by decide +kernel
theorem dX11_rowsOf_38 : decode cX11_rowsOf 38 = .ok (.istore_n 2, 1) := by decide +kernel
theorem dX11_rowsOf_39 : decode cX11_rowsOf 39 = .ok (.iinc 3 1, 3) := by decide +kernel
theorem dX11_rowsOf_42 : decode cX11_rowsOf 42 = .ok (.goto (-38), 3) := by decide +kernel
theorem dX11_rowsOf_45 : decode cX11_rowsOf 45 = .ok (.iload_n 2, 1) := by decide +kernel
theorem dX11_rowsOf_46 : decode cX11_rowsOf 46 = .ok (.ireturn, 1) := by decide +kernel
theorem dX11_doPack_0 : decode cX11_doPack 0 = .ok (.iconst 0, 1) := by decide +kernel
theorem dX11_doPack_1 : decode cX11_doPack 1 = .ok (.istore_n 2, 1) := by decide +kernel
theorem dX11_doPack_2 : decode cX11_doPack 2 = .ok (.iconst 0, 1) := by decide +kernel
theorem dX11_doPack_3 : decode cX11_doPack 3 = .ok (.istore_n 3, 1) := by decide +kernel
theorem dX11_doPack_4 : decode cX11_doPack 4 = .ok (.iload_n 3, 1) := by decide +kernel
theorem dX11_doPack_5 : decode cX11_doPack 5 = .ok (.aload_n 0, 1) := by decide +kernel
theorem dX11_doPack_6 : decode cX11_doPack 6 = .ok (.getfield 13, 3) := by decide +kernel
theorem dX11_doPack_9 : decode cX11_doPack 9 = .ok (.bipush 37, 2) := by decide +kernel
theorem dX11_doPack_11 : decode cX11_doPack 11 = .ok (.iaload, 1) := by decide +kernel
theorem dX11_doPack_12 : decode cX11_doPack 12 = .ok (.if_icmp .ge 40, 3) := by decide +kernel
theorem dX11_doPack_15 : decode cX11_doPack 15 = .ok (.iload_n 1, 1) := by decide +kernel
theorem dX11_doPack_16 : decode cX11_doPack 16 = .ok (.iload_n 3, 1) := by decide +kernel
theorem dX11_doPack_17 : decode cX11_doPack 17 = .ok (.invokestatic 200, 3) := by decide +kernel
theorem dX11_doPack_20 : decode cX11_doPack 20 = .ok (.ifCond .ne 6, 3) := by decide +kernel
theorem dX11_doPack_23 : decode cX11_doPack 23 = .ok (.goto 23, 3) := by decide +kernel
theorem dX11_doPack_26 : decode cX11_doPack 26 = .ok (.iload_n 2, 1) := by decide +kernel
theorem dX11_doPack_27 : decode cX11_doPack 27 = .ok (.aload_n 0, 1) := by decide +kernel
theorem dX11_doPack_28 : decode cX11_doPack 28 = .ok (.iload_n 3, 1) := by decide +kernel
theorem dX11_doPack_29 : decode cX11_doPack 29 = .ok (.invokevirtual 316, 3) := by decide +kernel
theorem dX11_doPack_32 : decode cX11_doPack 32 = .ok (.iand, 1) := by decide +kernel
theorem dX11_doPack_33 : decode cX11_doPack 33 = .ok (.ifCond .eq 5, 3) := by decide +kernel
theorem dX11_doPack_36 : decode cX11_doPack 36 = .ok (.iconst 0, 1) := by decide +kernel
theorem dX11_doPack_37 : decode cX11_doPack 37 = .ok (.ireturn, 1) := by decide +kernel
theorem dX11_doPack_38 : decode cX11_doPack 38 = .ok (.iload_n 2, 1) := by decide +kernel
theorem dX11_doPack_39 : decode cX11_doPack 39 = .ok (.aload_n 0, 1) := by decide +kernel
theorem dX11_doPack_40 : decode cX11_doPack 40 = .ok (.iload_n 3, 1) := by decide +kernel
theorem dX11_doPack_41 : decode cX11_doPack 41 = .ok (.invokevirtual 316, 3) := by decide +kernel
theorem dX11_doPack_44 : decode cX11_doPack 44 = .ok (.ior, 1) := by decide +kernel
theorem dX11_doPack_45 : decode cX11_doPack 45 = .ok (.istore_n 2, 1) := by decide +kernel
theorem dX11_doPack_46 : decode cX11_doPack 46 = .ok (.iinc 3 1, 3) := by decide +kernel
theorem dX11_doPack_49 : decode cX11_doPack 49 = .ok (.goto (-45), 3) := by decide +kernel
theorem dX11_doPack_52 : decode cX11_doPack 52 = .ok (.iconst 1, 1) := by decide +kernel
theorem dX11_doPack_53 : decode cX11_doPack 53 = .ok (.ireturn, 1) := by decide +kernel
theorem dX11_doCover_0 : decode cX11_doCover 0 = .ok (.iconst 0, 1) := by decide +kernel
theorem dX11_doCover_1 : decode cX11_doCover 1 = .ok (.istore_n 2, 1) := by decide +kernel
theorem dX11_doCover_2 : decode cX11_doCover 2 = .ok (.iload_n 2, 1) := by decide +kernel
theorem dX11_doCover_3 : decode cX11_doCover 3 = .ok (.aload_n 0, 1) := by decide +kernel
theorem dX11_doCover_4 : decode cX11_doCover 4 = .ok (.getfield 13, 3) := by decide +kernel
theorem dX11_doCover_7 : decode cX11_doCover 7 = .ok (.bipush 37, 2) := by decide +kernel
theorem dX11_doCover_9 : decode cX11_doCover 9 = .ok (.iaload, 1) := by decide +kernel
theorem dX11_doCover_10 : decode cX11_doCover 10 = .ok (.if_icmp .ge 29, 3) := by decide +kernel
theorem dX11_doCover_13 : decode cX11_doCover 13 = .ok (.aload_n 0, 1) := by decide +kernel
theorem dX11_doCover_14 : decode cX11_doCover 14 = .ok (.iload_n 2, 1) := by decide +kernel
theorem dX11_doCover_15 : decode cX11_doCover 15 = .ok (.invokevirtual 316, 3) := by decide +kernel
theorem dX11_doCover_18 : decode cX11_doCover 18 = .ok (.ifCond .eq 15, 3) := by decide +kernel
theorem dX11_doCover_21 : decode cX11_doCover 21 = .ok (.aload_n 0, 1) := by decide +kernel
theorem dX11_doCover_22 : decode cX11_doCover 22 = .ok (.iload_n 2, 1) := by decide +kernel
theorem dX11_doCover_23 : decode cX11_doCover 23 = .ok (.invokevirtual 316, 3) := by decide +kernel
theorem dX11_doCover_26 : decode cX11_doCover 26 = .ok (.iload_n 1, 1) := by decide +kernel
theorem dX11_doCover_27 : decode cX11_doCover 27 = .ok (.iand, 1) := by decide +kernel
theorem dX11_doCover_28 : decode cX11_doCover 28 = .ok (.ifCond .ne 5, 3) := by decide +kernel
theorem dX11_doCover_31 : decode cX11_doCover 31 = .ok (.iconst 0, 1) := by decide +kernel
theorem dX11_doCover_32 : decode cX11_doCover 32 = .ok (.ireturn, 1) := by decide +kernel
theorem dX11_doCover_33 : decode cX11_doCover 33 = .ok (.iinc 2 1, 3) := by decide +kernel
theorem dX11_doCover_36 : decode cX11_doCover 36 = .ok (.goto (-34), 3) := by decide +kernel
theorem dX11_doCover_39 : decode cX11_doCover 39 = .ok (.iconst 1, 1) := by decide +kernel
theorem dX11_doCover_40 : decode cX11_doCover 40 = .ok (.ireturn, 1) := by decide +kernel
theorem dX11_pack_0 : decode cX11_pack 0 = .ok (.aload_n 0, 1) := by decide +kernel
theorem dX11_pack_1 : decode cX11_pack 1 = .ok (.iconst 0, 1) := by decide +kernel
theorem dX11_pack_2 : decode cX11_pack 2 = .ok (.putfield 83, 3) := by decide +kernel
theorem dX11_pack_5 : decode cX11_pack 5 = .ok (.aload_n 0, 1) := by decide +kernel
theorem dX11_pack_6 : decode cX11_pack 6 = .ok (.getfield 13, 3) := by decide +kernel
theorem dX11_pack_9 : decode cX11_pack 9 = .ok (.bipush 36, 2) := by decide +kernel
theorem dX11_pack_11 : decode cX11_pack 11 = .ok (.iaload, 1) := by decide +kernel
theorem dX11_pack_12 : decode cX11_pack 12 = .ok (.ifCond .eq 13, 3) := by decide +kernel
theorem dX11_pack_15 : decode cX11_pack 15 = .ok (.iload_n 1, 1) := by decide +kernel
theorem dX11_pack_16 : decode cX11_pack 16 = .ok (.i2l, 1) := by decide +kernel
theorem dX11_pack_17 : decode cX11_pack 17 = .ok (.lconst 0, 1) := by decide +kernel
theorem dX11_pack_18 : decode cX11_pack 18 = .ok (.lconst 1, 1) := by decide +kernel
theorem dX11_pack_19 : decode cX11_pack 19 = .ok (.invokestatic 140, 3) := by decide +kernel
theorem dX11_pack_22 : decode cX11_pack 22 = .ok (.ifCond .ne 5, 3) := by decide +kernel
theorem dX11_pack_25 : decode cX11_pack 25 = .ok (.iconst (-1), 1) := by decide +kernel
theorem dX11_pack_26 : decode cX11_pack 26 = .ok (.ireturn, 1) := by decide +kernel
theorem dX11_pack_27 : decode cX11_pack 27 = .ok (.iconst (-1), 1) := by decide +kernel
theorem dX11_pack_28 : decode cX11_pack 28 = .ok (.istore_n 2, 1) := by decide +kernel
theorem dX11_pack_29 : decode cX11_pack 29 = .ok (.iconst 0, 1) := by decide +kernel
theorem dX11_pack_30 : decode cX11_pack 30 = .ok (.istore_n 3, 1) := by decide +kernel
theorem dX11_pack_31 : decode cX11_pack 31 = .ok (.iload_n 3, 1) := by decide +kernel
theorem dX11_pack_32 : decode cX11_pack 32 = .ok (.iconst 1, 1) := by decide +kernel
theorem dX11_pack_33 : decode cX11_pack 33 = .ok (.aload_n 0, 1) := by decide +kernel
theorem dX11_pack_34 : decode cX11_pack 34 = .ok (.getfield 13, 3) := by decide +kernel
theorem dX11_pack_37 : decode cX11_pack 37 = .ok (.iload_n 1, 1) := by decide +kernel
theorem dX11_pack_38 : decode cX11_pack 38 = .ok (.ifCond .ne 8, 3) := by decide +kernel
theorem dX11_pack_41 : decode cX11_pack 41 = .ok (.bipush 37, 2) := by decide +kernel
theorem dX11_pack_43 : decode cX11_pack 43 = .ok (.goto 5, 3) := by decide +kernel
theorem dX11_pack_46 : decode cX11_pack 46 = .ok (.bipush 36, 2) := by decide +kernel
theorem dX11_pack_48 : decode cX11_pack 48 = .ok (.iaload, 1) := by decide +kernel
theorem dX11_pack_49 : decode cX11_pack 49 = .ok (.ishl, 1) := by decide +kernel
theorem dX11_pack_50 : decode cX11_pack 50 = .ok (.if_icmp .ge 71, 3) := by decide +kernel
theorem dX11_pack_53 : decode cX11_pack 53 = .ok (.iload_n 1, 1) := by decide +kernel
theorem dX11_pack_54 : decode cX11_pack 54 = .ok (.ifCond .ne 14, 3) := by decide +kernel
theorem dX11_pack_57 : decode cX11_pack 57 = .ok (.aload_n 0, 1) := by decide +kernel
theorem dX11_pack_58 : decode cX11_pack 58 = .ok (.iload_n 3, 1) := by decide +kernel
theorem dX11_pack_59 : decode cX11_pack 59 = .ok (.invokevirtual 319, 3) := by decide +kernel
theorem dX11_pack_62 : decode cX11_pack 62 = .ok (.ifCond .eq 53, 3) := by decide +kernel
theorem dX11_pack_65 : decode cX11_pack 65 = .ok (.goto 14, 3) := by decide +kernel
theorem dX11_pack_68 : decode cX11_pack 68 = .ok (.aload_n 0, 1) := by decide +kernel
theorem dX11_pack_69 : decode cX11_pack 69 = .ok (.iload_n 3, 1) := by decide +kernel
theorem dX11_pack_70 : decode cX11_pack 70 = .ok (.invokevirtual 322, 3) := by decide +kernel
theorem dX11_pack_73 : decode cX11_pack 73 = .ok (.ifCond .ne 6, 3) := by decide +kernel
theorem dX11_pack_76 : decode cX11_pack 76 = .ok (.goto 39, 3) := by decide +kernel
theorem dX11_pack_79 : decode cX11_pack 79 = .ok (.iload_n 2, 1) := by decide +kernel
theorem dX11_pack_80 : decode cX11_pack 80 = .ok (.iconst (-1), 1) := by decide +kernel
theorem dX11_pack_81 : decode cX11_pack 81 = .ok (.if_icmp .eq 32, 3) := by decide +kernel
theorem dX11_pack_84 : decode cX11_pack 84 = .ok (.iload_n 1, 1) := by decide +kernel
theorem dX11_pack_85 : decode cX11_pack 85 = .ok (.ifCond .ne 17, 3) := by decide +kernel
theorem dX11_pack_88 : decode cX11_pack 88 = .ok (.iload_n 3, 1) := by decide +kernel
theorem dX11_pack_89 : decode cX11_pack 89 = .ok (.invokestatic 204, 3) := by decide +kernel
theorem dX11_pack_92 : decode cX11_pack 92 = .ok (.iload_n 2, 1) := by decide +kernel
theorem dX11_pack_93 : decode cX11_pack 93 = .ok (.invokestatic 204, 3) := by decide +kernel
theorem dX11_pack_96 : decode cX11_pack 96 = .ok (.if_icmp .le 19, 3) := by decide +kernel
theorem dX11_pack_99 : decode cX11_pack 99 = .ok (.goto 14, 3) := by decide +kernel
theorem dX11_pack_102 : decode cX11_pack 102 = .ok (.iload_n 3, 1) := by decide +kernel
theorem dX11_pack_103 : decode cX11_pack 103 = .ok (.invokestatic 204, 3) := by decide +kernel
theorem dX11_pack_106 : decode cX11_pack 106 = .ok (.iload_n 2, 1) := by decide +kernel
theorem dX11_pack_107 : decode cX11_pack 107 = .ok (.invokestatic 204, 3) := by decide +kernel
theorem dX11_pack_110 : decode cX11_pack 110 = .ok (.if_icmp .ge 5, 3) := by decide +kernel
theorem dX11_pack_113 : decode cX11_pack 113 = .ok (.iload_n 3, 1) := by decide +kernel
theorem dX11_pack_114 : decode cX11_pack 114 = .ok (.istore_n 2, 1) := by decide +kernel
theorem dX11_pack_115 : decode cX11_pack 115 = .ok (.iinc 3 1, 3) := by decide +kernel
theorem dX11_pack_118 : decode cX11_pack 118 = .ok (.goto (-87), 3) := by decide +kernel
theorem dX11_pack_121 : decode cX11_pack 121 = .ok (.iload_n 2, 1) := by decide +kernel
theorem dX11_pack_122 : decode cX11_pack 122 = .ok (.ireturn, 1) := by decide +kernel
theorem dX11_run_0 : decode cX11_run 0 = .ok (.aload_n 0, 1) := by decide +kernel
theorem dX11_run_1 : decode cX11_run 1 = .ok (.iconst 0, 1) := by decide +kernel
theorem dX11_run_2 : decode cX11_run 2 = .ok (.putfield 83, 3) := by decide +kernel
theorem dX11_run_5 : decode cX11_run 5 = .ok (.aload_n 0, 1) := by decide +kernel
theorem dX11_run_6 : decode cX11_run 6 = .ok (.getfield 13, 3) := by decide +kernel
theorem dX11_run_9 : decode cX11_run 9 = .ok (.bipush 36, 2) := by decide +kernel
theorem dX11_run_11 : decode cX11_run 11 = .ok (.iaload, 1) := by decide +kernel
theorem dX11_run_12 : decode cX11_run 12 = .ok (.ifCond .eq 21, 3) := by decide +kernel
theorem dX11_run_15 : decode cX11_run 15 = .ok (.aload_n 0, 1) := by decide +kernel
theorem dX11_run_16 : decode cX11_run 16 = .ok (.iload_n 1, 1) := by decide +kernel
theorem dX11_run_17 : decode cX11_run 17 = .ok (.invokevirtual 325, 3) := by decide +kernel
theorem dX11_run_20 : decode cX11_run 20 = .ok (.ifCond .eq 13, 3) := by decide +kernel
theorem dX11_run_23 : decode cX11_run 23 = .ok (.iload_n 2, 1) := by decide +kernel
theorem dX11_run_24 : decode cX11_run 24 = .ok (.i2l, 1) := by decide +kernel
theorem dX11_run_25 : decode cX11_run 25 = .ok (.lconst 0, 1) := by decide +kernel
theorem dX11_run_26 : decode cX11_run 26 = .ok (.lconst 1, 1) := by decide +kernel
theorem dX11_run_27 : decode cX11_run 27 = .ok (.invokestatic 140, 3) := by decide +kernel
theorem dX11_run_30 : decode cX11_run 30 = .ok (.ifCond .ne 6, 3) := by decide +kernel
theorem dX11_run_33 : decode cX11_run 33 = .ok (.ldc 133, 2) := by decide +kernel
theorem dX11_run_35 : decode cX11_run 35 = .ok (.ireturn, 1) := by decide +kernel
theorem dX11_run_36 : decode cX11_run 36 = .ok (.aload_n 0, 1) := by decide +kernel
theorem dX11_run_37 : decode cX11_run 37 = .ok (.getfield 13, 3) := by decide +kernel
theorem dX11_run_40 : decode cX11_run 40 = .ok (.aload_n 0, 1) := by decide +kernel
theorem dX11_run_41 : decode cX11_run 41 = .ok (.getfield 77, 3) := by decide +kernel
theorem dX11_run_44 : decode cX11_run 44 = .ok (.invokestatic 170, 3) := by decide +kernel
theorem dX11_run_47 : decode cX11_run 47 = .ok (.iconst 0, 1) := by decide +kernel
theorem dX11_run_48 : decode cX11_run 48 = .ok (.istore_n 3, 1) := by decide +kernel
theorem dX11_run_49 : decode cX11_run 49 = .ok (.iload_n 3, 1) := by decide +kernel
theorem dX11_run_50 : decode cX11_run 50 = .ok (.aload_n 0, 1) := by decide +kernel
theorem dX11_run_51 : decode cX11_run 51 = .ok (.getfield 29, 3) := by decide +kernel
theorem dX11_run_54 : decode cX11_run 54 = .ok (.iload_n 1, 1) := by decide +kernel
theorem dX11_run_55 : decode cX11_run 55 = .ok (.iaload, 1) := by decide +kernel
theorem dX11_run_56 : decode cX11_run 56 = .ok (.if_icmp .ge 44, 3) := by decide +kernel
theorem dX11_run_59 : decode cX11_run 59 = .ok (.aload_n 0, 1) := by decide +kernel
theorem dX11_run_60 : decode cX11_run 60 = .ok (.aload_n 0, 1) := by decide +kernel
theorem dX11_run_61 : decode cX11_run 61 = .ok (.getfield 77, 3) := by decide +kernel
theorem dX11_run_64 : decode cX11_run 64 = .ok (.iconst 4, 1) := by decide +kernel
theorem dX11_run_65 : decode cX11_run 65 = .ok (.bipush 12, 2) := by decide +kernel
theorem dX11_run_67 : decode cX11_run 67 = .ok (.iload_n 1, 1) := by decide +kernel
theorem dX11_run_68 : decode cX11_run 68 = .ok (.imul, 1) := by decide +kernel
theorem dX11_run_69 : decode cX11_run 69 = .ok (.iload_n 3, 1) := by decide +kernel
theorem dX11_run_70 : decode cX11_run 70 = .ok (.iadd, 1) := by decide +kernel
theorem dX11_run_71 : decode cX11_run 71 = .ok (.imul, 1) := by decide +kernel
theorem dX11_run_72 : decode cX11_run 72 = .ok (.invokevirtual 328, 3) := by decide +kernel
theorem dX11_run_75 : decode cX11_run 75 = .ok (.ifCond .eq 25, 3) := by decide +kernel
theorem dX11_run_78 : decode cX11_run 78 = .ok (.aload_n 0, 1) := by decide +kernel
theorem dX11_run_79 : decode cX11_run 79 = .ok (.aload_n 0, 1) := by decide +kernel
theorem dX11_run_80 : decode cX11_run 80 = .ok (.getfield 77, 3) := by decide +kernel
theorem dX11_run_83 : decode cX11_run 83 = .ok (.iconst 4, 1) := by decide +kernel
theorem dX11_run_84 : decode cX11_run 84 = .ok (.bipush 12, 2) := by decide +kernel
theorem dX11_run_86 : decode cX11_run 86 = .ok (.iload_n 1, 1) := by decide +kernel
theorem dX11_run_87 : decode cX11_run 87 = .ok (.imul, 1) := by decide +kernel
theorem dX11_run_88 : decode cX11_run 88 = .ok (.iload_n 3, 1) := by decide +kernel
theorem dX11_run_89 : decode cX11_run 89 = .ok (.iadd, 1) := by decide +kernel
theorem dX11_run_90 : decode cX11_run 90 = .ok (.imul, 1) := by decide +kernel
theorem dX11_run_91 : decode cX11_run 91 = .ok (.invokevirtual 332, 3) := by decide +kernel
theorem dX11_run_94 : decode cX11_run 94 = .ok (.iinc 3 1, 3) := by decide +kernel
theorem dX11_run_97 : decode cX11_run 97 = .ok (.goto (-48), 3) := by decide +kernel
theorem dX11_run_100 : decode cX11_run 100 = .ok (.iload_n 2, 1) := by decide +kernel
theorem dX11_run_101 : decode cX11_run 101 = .ok (.iconst 1, 1) := by decide +kernel
theorem dX11_run_102 : decode cX11_run 102 = .ok (.if_icmp .ne 20, 3) := by decide +kernel
theorem dX11_run_105 : decode cX11_run 105 = .ok (.aload_n 0, 1) := by decide +kernel
theorem dX11_run_106 : decode cX11_run 106 = .ok (.aload_n 0, 1) := by decide +kernel
theorem dX11_run_107 : decode cX11_run 107 = .ok (.getfield 77, 3) := by decide +kernel
theorem dX11_run_110 : decode cX11_run 110 = .ok (.invokevirtual 227, 3) := by decide +kernel
theorem dX11_run_113 : decode cX11_run 113 = .ok (.ifCond .eq 7, 3) := by decide +kernel
theorem dX11_run_116 : decode cX11_run 116 = .ok (.iconst 1, 1) := by decide +kernel
theorem dX11_run_117 : decode cX11_run 117 = .ok (.goto 4, 3) := by decide +kernel
theorem dX11_run_120 : decode cX11_run 120 = .ok (.iconst 0, 1) := by decide +kernel
theorem dX11_run_121 : decode cX11_run 121 = .ok (.ireturn, 1) := by decide +kernel
theorem dX11_run_122 : decode cX11_run 122 = .ok (.iload_n 3, 1) := by decide +kernel
theorem dX11_run_123 : decode cX11_run 123 = .ok (.aload_n 0, 1) := by decide +kernel
theorem dX11_run_124 : decode cX11_run 124 = .ok (.getfield 29, 3) := by decide +kernel
theorem dX11_run_127 : decode cX11_run 127 = .ok (.iload_n 1, 1) := by decide +kernel
theorem dX11_run_128 : decode cX11_run 128 = .ok (.iaload, 1) := by decide +kernel
theorem dX11_run_129 : decode cX11_run 129 = .ok (.if_icmp .ne 7, 3) := by decide +kernel
theorem dX11_run_132 : decode cX11_run 132 = .ok (.iconst (-1), 1) := by decide +kernel
theorem dX11_run_133 : decode cX11_run 133 = .ok (.goto 4, 3) := by decide +kernel
theorem dX11_run_136 : decode cX11_run 136 = .ok (.iload_n 3, 1) := by decide +kernel
theorem dX11_run_137 : decode cX11_run 137 = .ok (.ireturn, 1) := by decide +kernel
/-! ===== halves ===== -/
def hfT (T : tb) (R P c r : Nat) : Int32 := if R.testBit r then (if P.testBit r then T.2.2 r c else -(T.2.2 r c)) else 0
def half (T : tb) (R P : Nat) : Prop := ∀ c, c < T.2.1 → sml (sm (hfT T R P c) T.1)
theorem s_isHalf (σ : sg) (x : aW) (T : tb) (hT0 : TB (σ.2.2 i_m_now) T) (R P : Nat) (hR0 : R < 64) (hP0 : P < 64) :
    Mt mX11_isHalf 1 0 0 [.ref i_M, .int (nI R), .int (nI P)] (wd σ x) (QI (b2i (half T R P)) (wd σ x)) := by
  refine Mt.of MI_X11_isHalf (Nat.le_of_ble_eq_true rfl) (fun X hC hR hT => ?_)
  obtain ⟨hR1, hC1, hR6, hC6, hE⟩ := id hT0
  have loop : ∀ c, c ≤ T.2.1 → (∀ c2, c2 < c → sml (sm (hfT T R P c2) T.1)) → ∀ u4 u5, Rw mX11_isHalf X 2 [some (.ref i_M), some (.int (nI R)), some (.int (nI P)), some (.int (nI c)), u4, u5] [] (wd σ x) 0 0 := by
    refine up_loop T.2.1 ?_ ?_
    · intro hb u4 u5
      refine R_iload_n (i := 3) hC dX11_isHalf_2 rfl rfl (R_aload_n (i := 0) hC dX11_isHalf_3 rfl rfl (R_gR hC dX11_isHalf_4 fl_X11_13 L_M rfl (R_bipush (v := 37) hC dX11_isHalf_7 (by decide) (R_aI hC dX11_isHalf_9 L_m_now 37 rfl (by decide) (by decide) ?_))))
      refine R_top (y := nI T.2.1) (hC1) ?_
      refine R_icmp_ge hC 109 dX11_isHalf_10 (by decide) (fun _ => ?_) (fun h => absurd (Int32.le_refl _) h)
      refine R_iconst (v := 1) hC dX11_isHalf_109 (by decide) ?_
      exact R_zret hC hT dX11_isHalf_110 rfl (by decide) ⟨by rw [b2i_t (show half T R P from hb)], rfl⟩
    · intro c hc ih hb u4 u5
      have inn : ∀ r, r ≤ T.1 → Rw mX11_isHalf X 19 [some (.ref i_M), some (.int (nI R)), some (.int (nI P)), some (.int (nI c)), some (.int (sm (hfT T R P c) r)), some (.int (nI r))] [] (wd σ x) 0 0 := by
        refine up_loop T.1 ?_ ?_
        · refine R_iload hC dX11_isHalf_19 rfl (R_aload_n (i := 0) hC dX11_isHalf_21 rfl rfl (R_gR hC dX11_isHalf_22 fl_X11_13 L_M rfl (R_bipush (v := 36) hC dX11_isHalf_25 (by decide) (R_aI hC dX11_isHalf_27 L_m_now 36 rfl (by decide) (by decide) ?_))))
          refine R_top (y := nI T.1) (hR1) ?_
          refine R_icmp_ge hC 88 dX11_isHalf_28 (by decide) (fun _ => ?_) (fun h => absurd (Int32.le_refl _) h)
          refine R_iload hC dX11_isHalf_88 rfl (R_i2l hC dX11_isHalf_90 (R_ldc2 hC dX11_isHalf_91 kc_X11_162 (R_lconst (v := 1) hC dX11_isHalf_94 (by decide) ?_)))
          refine R_S3i hC hR dX11_isHalf_95 MS_X11_isIn ml_X11_140 (s_isInZ (sm (hfT T R P c) T.1) (-1) 1 (-1) 1 (by decide) (by decide) _) (by decide) ⟨by decide, by decide⟩ (Nat.le_of_ble_eq_true rfl) ?_
          refine R_if_ne hC 103 dX11_isHalf_98 (by decide) (fun h98 => ?_) (fun h98 => ?_)
          · refine R_iinc hC dX11_isHalf_103 rfl (inc1 _) (by decide) rfl (R_goto hC 2 dX11_isHalf_106 (by decide) ?_)
            exact ih (fun c2 h2 => by rcases (by omega : c2 < c ∨ c2 = c) with q | rfl; exact hb c2 q; exact sml_in.mpr (ite1 h98)) _ _
          · refine R_iconst (v := 0) hC dX11_isHalf_101 (by decide) ?_
            exact R_zret hC hT dX11_isHalf_102 rfl (by decide) ⟨by rw [b2i_f (fun z : half T R P => ite0 h98 (sml_in.mp (z c hc)))], rfl⟩
        · intro r hr ihr
          rw [sm] at ihr
          have nx : ∀ b, hfT T R P c r = b → Rw mX11_isHalf X 79 [some (.ref i_M), some (.int (nI R)), some (.int (nI P)), some (.int (nI c)), some (.int (sm (hfT T R P c) r)), some (.int (nI r))] [.int b, .int (sm (hfT T R P c) r)] (wd σ x) 0 0 := by
            intro b hb
            rw [hb] at ihr
            refine R_iadd hC dX11_isHalf_79 (R_istore hC dX11_isHalf_80 (by decide) rfl (R_iinc hC dX11_isHalf_82 rfl (inc1 _) (by decide) rfl (R_goto hC 19 dX11_isHalf_85 (by decide) ?_)))
            exact ihr
          refine R_iload hC dX11_isHalf_19 rfl (R_aload_n (i := 0) hC dX11_isHalf_21 rfl rfl (R_gR hC dX11_isHalf_22 fl_X11_13 L_M rfl (R_bipush (v := 36) hC dX11_isHalf_25 (by decide) (R_aI hC dX11_isHalf_27 L_m_now 36 rfl (by decide) (by decide) ?_))))
          refine R_top (y := nI T.1) (hR1) ?_
          refine R_icmp_ge hC 88 dX11_isHalf_28 (by decide) (fun h => absurd h (nI_ge hr (by omega))) (fun _ => ?_)
          refine R_iload_n (i := 1) hC dX11_isHalf_31 rfl rfl (R_iload hC dX11_isHalf_32 rfl ?_)
          refine R_S2i hC hR dX11_isHalf_34 MS_X11_has ml_X11_200 (s_has R r hR0 (by omega) _) (by decide) ⟨by decide, by decide⟩ (Nat.le_of_ble_eq_true rfl) ?_
          refine R_if_eq hC 82 dX11_isHalf_37 (by decide) (fun h37 => ?_) (fun h37 => ?_)
          · refine R_iinc hC dX11_isHalf_82 rfl (inc1 _) (by decide) rfl (R_goto hC 19 dX11_isHalf_85 (by decide) ?_)
            (have e : hfT T R P c r = 0 := (by unfold hfT; rw [if_neg (tst0 h37)]); rw [e, Int32.add_zero] at ihr; exact ihr)
          · refine R_iload hC dX11_isHalf_40 rfl (R_iload_n (i := 2) hC dX11_isHalf_42 rfl rfl (R_iload hC dX11_isHalf_43 rfl ?_))
            refine R_S2i hC hR dX11_isHalf_45 MS_X11_has ml_X11_200 (s_has P r hP0 (by omega) _) (by decide) ⟨by decide, by decide⟩ (Nat.le_of_ble_eq_true rfl) ?_
            refine R_if_eq hC 66 dX11_isHalf_48 (by decide) (fun h48 => ?_) (fun h48 => ?_)
            · refine R_aload_n (i := 0) hC dX11_isHalf_66 rfl rfl (R_gR hC dX11_isHalf_67 fl_X11_13 L_M rfl (R_bipush (v := 6) hC dX11_isHalf_70 (by decide) (R_iload hC dX11_isHalf_72 rfl (R_imul hC dX11_isHalf_74 (R_iload_n (i := 3) hC dX11_isHalf_75 rfl rfl (R_iadd hC dX11_isHalf_76 (R_aI hC dX11_isHalf_77 L_m_now (6 * r + c) (n6 r c) (by omega) (by decide) ?_)))))))
              refine R_top (y := T.2.2 r c) ((hE r c hr hc).1) ?_
              refine R_ineg hC dX11_isHalf_78 ?_
              exact nx _ (by
              unfold hfT
              rw [if_pos (tst h37)]
              first
              | (rw [if_pos (tst h48)]; done)
              | (have h49 := h48; rw [if_neg (tst0 h49)]; done))
            · refine R_aload_n (i := 0) hC dX11_isHalf_51 rfl rfl (R_gR hC dX11_isHalf_52 fl_X11_13 L_M rfl (R_bipush (v := 6) hC dX11_isHalf_55 (by decide) (R_iload hC dX11_isHalf_57 rfl (R_imul hC dX11_isHalf_59 (R_iload_n (i := 3) hC dX11_isHalf_60 rfl rfl (R_iadd hC dX11_isHalf_61 (R_aI hC dX11_isHalf_62 L_m_now (6 * r + c) (n6 r c) (by omega) (by decide) ?_)))))))
              refine R_top (y := T.2.2 r c) ((hE r c hr hc).1) ?_
              refine R_goto hC 79 dX11_isHalf_63 (by decide) ?_
              exact nx _ (by
              unfold hfT
              rw [if_pos (tst h37)]
              first
              | (rw [if_pos (tst h48)]; done)
              | (have h49 := h48; rw [if_neg (tst0 h49)]; done))
      refine R_iload_n (i := 3) hC dX11_isHalf_2 rfl rfl (R_aload_n (i := 0) hC dX11_isHalf_3 rfl rfl (R_gR hC dX11_isHalf_4 fl_X11_13 L_M rfl (R_bipush (v := 37) hC dX11_isHalf_7 (by decide) (R_aI hC dX11_isHalf_9 L_m_now 37 rfl (by decide) (by decide) ?_))))
      refine R_top (y := nI T.2.1) (hC1) ?_
      refine R_icmp_ge hC 109 dX11_isHalf_10 (by decide) (fun h => absurd h (nI_ge hc (by omega))) (fun _ => ?_)
      refine R_iconst (v := 0) hC dX11_isHalf_13 (by decide) (R_istore hC dX11_isHalf_14 (by decide) rfl (R_iconst (v := 0) hC dX11_isHalf_16 (by decide) (R_istore hC dX11_isHalf_17 (by decide) rfl ?_)))
      exact inn 0 (Nat.zero_le _)
  refine R_iconst (v := 0) hC dX11_isHalf_0 (by decide) (R_istore_n (i := 3) hC dX11_isHalf_1 rfl (by decide) rfl ?_)
  exact loop 0 (Nat.zero_le _) (fun _ h => absurd h (Nat.not_lt_zero _)) _ _
theorem sub64 : ∀ p, p < 64 → ∀ R, R < 64 → ((nI p &&& (nI R ^^^ -1)) = 0 ↔ p &&& R = p) := by decide +kernel
noncomputable def hvH (T : tb) (R p : Nat) : Option Nat := by classical exact (if (p &&& R = p ∧ half T R p) then some p else none)
noncomputable def hv (T : tb) (R : Nat) : Option Nat := fs (hvH T R) 0 (R + 1)
def o2i (o : Option Nat) : Int32 := match o with
  | some p => nI p
  | none => -1
theorem s_halfOf (σ : sg) (x : aW) (T : tb) (hT0 : TB (σ.2.2 i_m_now) T) (R : Nat) (hR0 : R < 64) :
    Mt mX11_halfOf 2 0 0 [.ref i_M, .int (nI R)] (wd σ x) (QI (o2i (hv T R)) (wd σ x)) := by
  refine Mt.of MI_X11_halfOf (Nat.le_of_ble_eq_true rfl) (fun X hC hR hT => ?_)
  have loop : ∀ p, p ≤ R + 1 → hv T R = fs (hvH T R) p (R + 1 - p) → Rw mX11_halfOf X 2 [some (.ref i_M), some (.int (nI R)), some (.int (nI p))] [] (wd σ x) 0 0 := by
    refine up_loop (R + 1) ?_ ?_
    · intro e
      rw [fs_0 (Nat.le_refl _)] at e
      refine R_iload_n (i := 2) hC dX11_halfOf_2 rfl rfl (R_iload_n (i := 1) hC dX11_halfOf_3 rfl rfl ?_)
      refine R_icmp_gt hC 32 dX11_halfOf_4 (by decide) (fun _ => ?_) (fun h => absurd (nI_lt (by omega) (by omega)) h)
      refine R_iconst (v := (-1)) hC dX11_halfOf_32 (by decide) ?_
      exact R_iret hC hT dX11_halfOf_33 rfl ⟨by rw [e]; rfl, rfl⟩
    · intro p hp ih e
      have em := sub64 p (by omega) R hR0
      have nx : hvH T R p = none → Rw mX11_halfOf X 26 [some (.ref i_M), some (.int (nI R)), some (.int (nI p))] [] (wd σ x) 0 0 := by
        intro z
        refine R_iinc hC dX11_halfOf_26 rfl (inc1 _) (by decide) rfl (R_goto hC 2 dX11_halfOf_29 (by decide) ?_)
        exact ih (by rw [e, fs_n hp z])
      refine R_iload_n (i := 2) hC dX11_halfOf_2 rfl rfl (R_iload_n (i := 1) hC dX11_halfOf_3 rfl rfl ?_)
      refine R_icmp_gt hC 32 dX11_halfOf_4 (by decide) (fun h => absurd h (nI_nlt (by omega) (by omega))) (fun _ => ?_)
      refine R_iload_n (i := 2) hC dX11_halfOf_7 rfl rfl (R_iload_n (i := 1) hC dX11_halfOf_8 rfl rfl (R_iconst (v := (-1)) hC dX11_halfOf_9 (by decide) (R_ixor hC dX11_halfOf_10 (R_iand hC dX11_halfOf_11 ?_))))
      refine R_if_ne hC 26 dX11_halfOf_12 (by decide) (fun h12 => ?_) (fun h12 => ?_)
      · exact nx (by
        unfold hvH
        first
        | (rw [if_neg (fun z => b2i_0 h21 z.2)]; done)
        | (rw [if_neg (fun z => h12 (em.mpr z.1))]; done))
      · refine R_aload_n (i := 0) hC dX11_halfOf_15 rfl rfl (R_iload_n (i := 1) hC dX11_halfOf_16 rfl rfl (R_iload_n (i := 2) hC dX11_halfOf_17 rfl rfl ?_))
        refine R_V2i hC hR dX11_halfOf_18 MV_X11_isHalf ml_X11_233 L_M rfl (s_isHalf σ x T hT0 R p hR0 (by omega)) (by decide) ⟨by decide, by decide⟩ (Nat.le_of_ble_eq_true rfl) ?_
        refine R_if_eq hC 26 dX11_halfOf_21 (by decide) (fun h21 => ?_) (fun h21 => ?_)
        · exact nx (by
          unfold hvH
          first
          | (rw [if_neg (fun z => b2i_0 h21 z.2)]; done)
          | (rw [if_neg (fun z => h12 (em.mpr z.1))]; done))
        · refine R_iload_n (i := 2) hC dX11_halfOf_24 rfl rfl ?_
          exact R_iret hC hT dX11_halfOf_25 rfl ⟨by rw [e, fs_y hp (v := p) (by unfold hvH; rw [if_pos ⟨em.mp h12, b2i_ne h21⟩])]; rfl, rfl⟩
  refine R_iconst (v := 0) hC dX11_halfOf_0 (by decide) (R_istore_n (i := 2) hC dX11_halfOf_1 rfl (by decide) rfl ?_)
  exact loop 0 (Nat.zero_le _) rfl
noncomputable def opHalves (α : aS) (r : Int32) : Int32 := by classical exact (if (¬ (tT α).1 = 0 ∧ 0 ≤ r.toInt ∧ r.toInt < 2 ^ (tT α).1) then o2i (hv (tT α) r.toNatClampNeg) else -1)
theorem pwI {n : Nat} : ((2 ^ n : Nat) : Int) = (2 : Int) ^ n := by simp
theorem mo_halves {σ : sg} {x : aW} {α : aS} (h : MInv σ α) (ok : aOK α) (r : Int32) : Mt mX11_halves 3 0 0 [.ref i_M, .int r] (wd σ x) (MPost σ x (opHalves α r) α) := by
  refine Mt.of MI_X11_halves (Nat.le_of_ble_eq_true rfl) (fun X hC hR hT => ?_)
  have hω := MZ.of h
  have hR6 := ok.2.2.1.1
  have p1 := pw6 hR6
  have no : ¬ (¬ (tT α).1 = 0 ∧ 0 ≤ r.toInt ∧ r.toInt < 2 ^ (tT α).1) → opHalves α r = -1 := fun q => by unfold opHalves; rw [if_neg q]
  have t1 := nI_toInt (n := (tT α).1) (by omega)
  have t2 := nI_toInt (n := 2 ^ (tT α).1) (by omega)
  rw [pwI] at t2
  refine R_aload_n (i := 0) hC dX11_halves_0 rfl rfl (R_iconst (v := 0) hC dX11_halves_1 (by decide) (R_pI hC dX11_halves_2 fl_X11_83 L_M rfl (R_aload_n (i := 0) hC dX11_halves_5 rfl rfl (R_gR hC dX11_halves_6 fl_X11_13 L_M rfl (R_bipush (v := 36) hC dX11_halves_9 (by decide) (R_aI hC dX11_halves_11 L_m_now 36 rfl (by decide) (by decide) ?_))))))
  refine R_top (y := nI (tT α).1) (hω.R) ?_
  refine R_if_le hC 40 dX11_halves_12 (by decide) (fun h12 => ?_) (fun h12 => ?_)
  · refine R_iconst (v := (-1)) hC dX11_halves_40 (by decide) ?_
    exact R_iret hC hT dX11_halves_41 rfl (by
    first
    | (have e : opHalves α (nI R) = o2i (hv (tT α) R) := (by unfold opHalves; rw [if_pos hc, nI_clamp hR2]); rw [e]; exact hω.p)
    | (rw [no (fun z => by simp only [i32_ge, i32_lt, Int32.toInt_zero, t1] at h12; omega)]; exact hω.p)
    | (rw [no (fun z => by simp only [i32_lt, Int32.toInt_zero] at h16; omega)]; exact hω.p)
    | (rw [no (fun z => by simp only [i32_ge, t2] at h29; omega)]; exact hω.p))
  · refine R_iload_n (i := 1) hC dX11_halves_15 rfl rfl ?_
    refine R_if_lt hC 40 dX11_halves_16 (by decide) (fun h16 => ?_) (fun h16 => ?_)
    · refine R_iconst (v := (-1)) hC dX11_halves_40 (by decide) ?_
      exact R_iret hC hT dX11_halves_41 rfl (by
      first
      | (have e : opHalves α (nI R) = o2i (hv (tT α) R) := (by unfold opHalves; rw [if_pos hc, nI_clamp hR2]); rw [e]; exact hω.p)
      | (rw [no (fun z => by simp only [i32_ge, i32_lt, Int32.toInt_zero, t1] at h12; omega)]; exact hω.p)
      | (rw [no (fun z => by simp only [i32_lt, Int32.toInt_zero] at h16; omega)]; exact hω.p)
      | (rw [no (fun z => by simp only [i32_ge, t2] at h29; omega)]; exact hω.p))
    · refine R_iload_n (i := 1) hC dX11_halves_19 rfl rfl (R_iconst (v := 1) hC dX11_halves_20 (by decide) (R_aload_n (i := 0) hC dX11_halves_21 rfl rfl (R_gR hC dX11_halves_22 fl_X11_13 L_M rfl (R_bipush (v := 36) hC dX11_halves_25 (by decide) (R_aI hC dX11_halves_27 L_m_now 36 rfl (by decide) (by decide) ?_)))))
      refine R_top (y := nI (tT α).1) (hω.R) ?_
      refine R_ishl hC dX11_halves_28 ?_
      refine R_top (y := nI (2 ^ (tT α).1)) (shl1 _ hR6) ?_
      refine R_icmp_ge hC 40 dX11_halves_29 (by decide) (fun h29 => ?_) (fun h29 => ?_)
      · refine R_iconst (v := (-1)) hC dX11_halves_40 (by decide) ?_
        exact R_iret hC hT dX11_halves_41 rfl (by
        first
        | (have e : opHalves α (nI R) = o2i (hv (tT α) R) := (by unfold opHalves; rw [if_pos hc, nI_clamp hR2]); rw [e]; exact hω.p)
        | (rw [no (fun z => by simp only [i32_ge, i32_lt, Int32.toInt_zero, t1] at h12; omega)]; exact hω.p)
        | (rw [no (fun z => by simp only [i32_lt, Int32.toInt_zero] at h16; omega)]; exact hω.p)
        | (rw [no (fun z => by simp only [i32_ge, t2] at h29; omega)]; exact hω.p))
      · have hc : ¬ (tT α).1 = 0 ∧ 0 ≤ r.toInt ∧ r.toInt < 2 ^ (tT α).1 := ⟨by simp only [i32_ge, i32_lt, Int32.toInt_zero, t1] at h12; omega, by simp only [i32_lt, Int32.toInt_zero] at h16; omega, by simp only [i32_ge, t2] at h29; omega⟩
        obtain ⟨R, rfl, hRi, hR2⟩ := i32_nI hc.2.1
        have hR64 : R < 64 := by have := hc.2.2; rw [← hRi, ← pwI] at this; omega
        refine R_aload_n (i := 0) hC dX11_halves_32 rfl rfl (R_iload_n (i := 1) hC dX11_halves_33 rfl rfl ?_)
        refine R_V1i hC hR dX11_halves_34 MV_X11_halfOf ml_X11_236 L_M rfl (s_halfOf (sG σ i_M 0 0) x (tT α) (hω.T ok) R hR64) (by decide) ⟨by decide, by decide⟩ (Nat.le_of_ble_eq_true rfl) ?_
        refine R_goto hC 41 dX11_halves_37 (by decide) ?_
        exact R_iret hC hT dX11_halves_41 rfl (by
        first
        | (have e : opHalves α (nI R) = o2i (hv (tT α) R) := (by unfold opHalves; rw [if_pos hc, nI_clamp hR2]); rw [e]; exact hω.p)
        | (rw [no (fun z => by simp only [i32_ge, i32_lt, Int32.toInt_zero, t1] at h12; omega)]; exact hω.p)
        | (rw [no (fun z => by simp only [i32_lt, Int32.toInt_zero] at h16; omega)]; exact hω.p)
        | (rw [no (fun z => by simp only [i32_ge, t2] at h29; omega)]; exact hω.p))
noncomputable def uhH (T : tb) (R : Nat) : Option Nat := by classical exact (if hv T R = none then some R else none)
noncomputable def opUnhalved (α : aS) : Int32 := if (tT α).1 = 0 then -1 else o2i (fs (uhH (tT α)) 1 (2 ^ (tT α).1 - 1))
theorem o2i_n {o : Option Nat} (h : ∀ p, o = some p → p < 2 ^ 31) : (o2i o = -1) ↔ o = none := by
  cases o with
  | none => simp [o2i]
  | some p =>
    simp only [o2i, reduceCtorEq, iff_false]
    intro z
    have := nI_toInt (h p rfl)
    rw [z] at this
    have t : (-1 : Int32).toInt = -1 := by decide
    omega
theorem fs_in {A : Type} {h : Nat → Option A} {v : A} : ∀ n a, fs h a n = some v → ∃ i, a ≤ i ∧ i < a + n ∧ h i = some v
  | 0, a, e => by simp [fs] at e
  | n + 1, a, e => by
    rw [fs] at e
    cases hq : h a with
    | some u => rw [hq] at e; exact ⟨a, Nat.le_refl _, by omega, by rw [hq]; exact e⟩
    | none => rw [hq] at e; obtain ⟨i, h1, h2, h3⟩ := fs_in n (a + 1) e; exact ⟨i, by omega, by omega, h3⟩
theorem hv_lt {T : tb} {R p : Nat} (hR : R < 64) (h : hv T R = some p) : p < 2 ^ 31 := by
  obtain ⟨i, h1, h2, h3⟩ := fs_in _ _ h
  unfold hvH at h3
  split at h3
  · cases h3; omega
  · cases h3
theorem mo_unhalved {σ : sg} {x : aW} {α : aS} (h : MInv σ α) (ok : aOK α) : Mt mX11_unhalved 3 0 0 [.ref i_M] (wd σ x) (MPost σ x (opUnhalved α) α) := by
  refine Mt.of MI_X11_unhalved (Nat.le_of_ble_eq_true rfl) (fun X hC hR hT => ?_)
  have hω := MZ.of h
  have hR6 := ok.2.2.1.1
  have p1 := pw6 hR6
  have loop : ∀ n, n ≤ 2 ^ (tT α).1 → 1 ≤ n → opUnhalved α = o2i (fs (uhH (tT α)) n (2 ^ (tT α).1 - n)) → Rw mX11_unhalved X 19 [some (.ref i_M), some (.int (nI n))] [] (wd (sG σ i_M 0 0) x) 0 0 := by
    refine up_loop (2 ^ (tT α).1) ?_ ?_
    · intro n1 e
      rw [fs_0 (Nat.le_refl _)] at e
      refine R_iload_n (i := 1) hC dX11_unhalved_19 rfl rfl (R_iconst (v := 1) hC dX11_unhalved_20 (by decide) (R_aload_n (i := 0) hC dX11_unhalved_21 rfl rfl (R_gR hC dX11_unhalved_22 fl_X11_13 L_M rfl (R_bipush (v := 36) hC dX11_unhalved_25 (by decide) (R_aI hC dX11_unhalved_27 L_m_now 36 rfl (by decide) (by decide) ?_)))))
      refine R_top (y := nI (tT α).1) (hω.R) ?_
      refine R_ishl hC dX11_unhalved_28 ?_
      refine R_top (y := nI (2 ^ (tT α).1)) (shl1 _ hR6) ?_
      refine R_icmp_ge hC 49 dX11_unhalved_29 (by decide) (fun _ => ?_) (fun h => absurd (Int32.le_refl _) h)
      refine R_iconst (v := (-1)) hC dX11_unhalved_49 (by decide) ?_
      exact R_iret hC hT dX11_unhalved_50 rfl (by rw [e]; exact hω.p)
    · intro n hn ih n1 e
      have em := o2i_n (o := hv (tT α) n) (fun p q => hv_lt (by omega) q)
      refine R_iload_n (i := 1) hC dX11_unhalved_19 rfl rfl (R_iconst (v := 1) hC dX11_unhalved_20 (by decide) (R_aload_n (i := 0) hC dX11_unhalved_21 rfl rfl (R_gR hC dX11_unhalved_22 fl_X11_13 L_M rfl (R_bipush (v := 36) hC dX11_unhalved_25 (by decide) (R_aI hC dX11_unhalved_27 L_m_now 36 rfl (by decide) (by decide) ?_)))))
      refine R_top (y := nI (tT α).1) (hω.R) ?_
      refine R_ishl hC dX11_unhalved_28 ?_
      refine R_top (y := nI (2 ^ (tT α).1)) (shl1 _ hR6) ?_
      refine R_icmp_ge hC 49 dX11_unhalved_29 (by decide) (fun h => absurd h (nI_ge hn (by omega))) (fun _ => ?_)
      refine R_aload_n (i := 0) hC dX11_unhalved_32 rfl rfl (R_iload_n (i := 1) hC dX11_unhalved_33 rfl rfl ?_)
      refine R_V1i hC hR dX11_unhalved_34 MV_X11_halfOf ml_X11_236 L_M rfl (s_halfOf (sG σ i_M 0 0) x (tT α) (hω.T ok) n (by omega)) (by decide) ⟨by decide, by decide⟩ (Nat.le_of_ble_eq_true rfl) ?_
      refine R_iconst (v := (-1)) hC dX11_unhalved_37 (by decide) ?_
      refine R_icmp_ne hC 43 dX11_unhalved_38 (by decide) (fun h38 => ?_) (fun h38 => ?_)
      · refine R_iinc hC dX11_unhalved_43 rfl (inc1 _) (by decide) rfl (R_goto hC 19 dX11_unhalved_46 (by decide) ?_)
        exact ih (by omega) (by rw [e, fs_n hn (by unfold uhH; rw [if_neg (fun z => h38 (em.mpr z))])])
      · refine R_iload_n (i := 1) hC dX11_unhalved_41 rfl rfl ?_
        exact R_iret hC hT dX11_unhalved_42 rfl (by rw [e, fs_y hn (v := n) (by unfold uhH; rw [if_pos (em.mp h38)])]; exact hω.p)
  refine R_aload_n (i := 0) hC dX11_unhalved_0 rfl rfl (R_iconst (v := 0) hC dX11_unhalved_1 (by decide) (R_pI hC dX11_unhalved_2 fl_X11_83 L_M rfl (R_aload_n (i := 0) hC dX11_unhalved_5 rfl rfl (R_gR hC dX11_unhalved_6 fl_X11_13 L_M rfl (R_bipush (v := 36) hC dX11_unhalved_9 (by decide) (R_aI hC dX11_unhalved_11 L_m_now 36 rfl (by decide) (by decide) ?_))))))
  refine R_top (y := nI (tT α).1) (hω.R) ?_
  refine R_if_ne hC 17 dX11_unhalved_12 (by decide) (fun h12 => ?_) (fun h12 => ?_)
  · refine R_iconst (v := 1) hC dX11_unhalved_17 (by decide) (R_istore_n (i := 1) hC dX11_unhalved_18 rfl (by decide) rfl ?_)
    exact loop 1 (Nat.one_le_two_pow) (Nat.le_refl _) (if_neg (fun z => h12 ((T0_iff ok).mpr z)))
  · refine R_iconst (v := (-1)) hC dX11_unhalved_15 (by decide) ?_
    exact R_iret hC hT dX11_unhalved_16 rfl (by have e : opUnhalved α = -1 := if_pos ((T0_iff ok).mp h12); rw [e]; exact hω.p)
/-! ===== pack ===== -/
def rmask (T : tb) (c : Nat) : Nat → Nat
  | 0 => 0
  | n + 1 => rmask T c n ||| (if T.2.2 n c = 0 then 0 else 2 ^ n)
theorem rmask_lt (T : tb) (c : Nat) : ∀ n, rmask T c n < 2 ^ n
  | 0 => by show (0 : Nat) < 1; decide
  | n + 1 => by
    rw [rmask]
    refine Nat.or_lt_two_pow (Nat.lt_trans (rmask_lt T c n) (Nat.pow_lt_pow_right (by decide) (by omega))) ?_
    split
    · exact Nat.two_pow_pos _
    · exact Nat.pow_lt_pow_right (by decide) (by omega)
theorem rmask_bit (T : tb) (c r : Nat) : ∀ n, (rmask T c n).testBit r = true ↔ r < n ∧ ¬ T.2.2 r c = 0
  | 0 => by simp [rmask]
  | n + 1 => by
    rw [rmask, Nat.testBit_or, Bool.or_eq_true, rmask_bit T c r n]
    by_cases e : T.2.2 n c = 0
    · rw [if_pos e]
      simp only [Nat.zero_testBit, Bool.false_eq_true, or_false]
      constructor
      · rintro ⟨a, b⟩; exact ⟨by omega, b⟩
      · rintro ⟨a, b⟩
        refine ⟨?_, b⟩
        rcases (by omega : r < n ∨ r = n) with q | rfl
        · exact q
        · exact absurd e b
    · rw [if_neg e, Nat.testBit_two_pow]
      simp only [decide_eq_true_eq]
      constructor
      · rintro (⟨a, b⟩ | rfl)
        · exact ⟨by omega, b⟩
        · exact ⟨by omega, e⟩
      · rintro ⟨a, b⟩
        rcases (by omega : r < n ∨ n = r) with q | q
        · exact Or.inl ⟨q, b⟩
        · exact Or.inr q
theorem nI_or : ∀ a, a < 64 → ∀ b, b < 64 → nI a ||| nI b = nI (a ||| b) := by decide +kernel
theorem nI_and : ∀ a, a < 64 → ∀ b, b < 64 → nI a &&& nI b = nI (a &&& b) := by decide +kernel
theorem s_rowsOf (σ : sg) (x : aW) (T : tb) (hT0 : TB (σ.2.2 i_m_now) T) (c : Nat) (hc : c < T.2.1) :
    Mt mX11_rowsOf 0 0 0 [.ref i_M, .int (nI c)] (wd σ x) (QI (nI (rmask T c T.1)) (wd σ x)) := by
  refine Mt.of MI_X11_rowsOf (Nat.le_of_ble_eq_true rfl) (fun X hC hR hT => ?_)
  obtain ⟨hR1, hC1, hR6, hC6, hE⟩ := id hT0
  have loop : ∀ n, n ≤ T.1 → Rw mX11_rowsOf X 4 [some (.ref i_M), some (.int (nI c)), some (.int (nI (rmask T c n))), some (.int (nI n))] [] (wd σ x) 0 0 := by
    refine up_loop T.1 ?_ ?_
    · refine R_iload_n (i := 3) hC dX11_rowsOf_4 rfl rfl (R_aload_n (i := 0) hC dX11_rowsOf_5 rfl rfl (R_gR hC dX11_rowsOf_6 fl_X11_13 L_M rfl (R_bipush (v := 36) hC dX11_rowsOf_9 (by decide) (R_aI hC dX11_rowsOf_11 L_m_now 36 rfl (by decide) (by decide) ?_))))
      refine R_top (y := nI T.1) (hR1) ?_
      refine R_icmp_ge hC 45 dX11_rowsOf_12 (by decide) (fun _ => ?_) (fun h => absurd (Int32.le_refl _) h)
      refine R_iload_n (i := 2) hC dX11_rowsOf_45 rfl rfl ?_
      exact R_iret hC hT dX11_rowsOf_46 rfl ⟨rfl, rfl⟩
    · intro n hn ih
      have lt1 := rmask_lt T c n
      have lt2 := pw6 (n := n) (by omega)
      have lt3 : 2 ^ n < 64 := Nat.lt_of_lt_of_le (Nat.pow_lt_pow_right (by decide) (show n < 6 by omega)) (by decide)
      have nx : ∀ b, b = (if T.2.2 n c = 0 then 0 else 2 ^ n) → Rw mX11_rowsOf X 37 [some (.ref i_M), some (.int (nI c)), some (.int (nI (rmask T c n))), some (.int (nI n))] [.int (nI b), .int (nI (rmask T c n))] (wd σ x) 0 0 := by
        intro b hb
        have hb2 : b < 64 := by rw [hb]; split <;> omega
        rw [rmask, ← hb] at ih
        refine R_ior hC dX11_rowsOf_37 ?_
        refine R_top (y := nI (rmask T c n ||| b)) (nI_or _ (by omega) _ hb2) ?_
        refine R_istore_n (i := 2) hC dX11_rowsOf_38 rfl (by decide) rfl (R_iinc hC dX11_rowsOf_39 rfl (inc1 _) (by decide) rfl (R_goto hC 4 dX11_rowsOf_42 (by decide) ?_))
        exact ih
      refine R_iload_n (i := 3) hC dX11_rowsOf_4 rfl rfl (R_aload_n (i := 0) hC dX11_rowsOf_5 rfl rfl (R_gR hC dX11_rowsOf_6 fl_X11_13 L_M rfl (R_bipush (v := 36) hC dX11_rowsOf_9 (by decide) (R_aI hC dX11_rowsOf_11 L_m_now 36 rfl (by decide) (by decide) ?_))))
      refine R_top (y := nI T.1) (hR1) ?_
      refine R_icmp_ge hC 45 dX11_rowsOf_12 (by decide) (fun h => absurd h (nI_ge hn (by omega))) (fun _ => ?_)
      refine R_iload_n (i := 2) hC dX11_rowsOf_15 rfl rfl (R_aload_n (i := 0) hC dX11_rowsOf_16 rfl rfl (R_gR hC dX11_rowsOf_17 fl_X11_13 L_M rfl (R_bipush (v := 6) hC dX11_rowsOf_20 (by decide) (R_iload_n (i := 3) hC dX11_rowsOf_22 rfl rfl (R_imul hC dX11_rowsOf_23 (R_iload_n (i := 1) hC dX11_rowsOf_24 rfl rfl (R_iadd hC dX11_rowsOf_25 ?_)))))))
      refine R_aI hC dX11_rowsOf_26 L_m_now (6 * n + c) (n6 n c) (by omega) (by decide) ?_
      refine R_top (y := T.2.2 n c) ((hE n c hn hc).1) ?_
      refine R_if_ne hC 34 dX11_rowsOf_27 (by decide) (fun h27 => ?_) (fun h27 => ?_)
      · refine R_iconst (v := 1) hC dX11_rowsOf_34 (by decide) (R_iload_n (i := 3) hC dX11_rowsOf_35 rfl rfl (R_ishl hC dX11_rowsOf_36 ?_))
        first
        | (have h28 := h27; exact nx 0 (by rw [if_pos h28]))
        | (refine R_top (shl1 n (by omega)) ?_; exact nx _ (by rw [if_neg h27]))
      · refine R_iconst (v := 0) hC dX11_rowsOf_30 (by decide) (R_goto hC 37 dX11_rowsOf_31 (by decide) ?_)
        first
        | (have h28 := h27; exact nx 0 (by rw [if_pos h28]))
        | (refine R_top (shl1 n (by omega)) ?_; exact nx _ (by rw [if_neg h27]))
  refine R_iconst (v := 0) hC dX11_rowsOf_0 (by decide) (R_istore_n (i := 2) hC dX11_rowsOf_1 rfl (by decide) rfl (R_iconst (v := 0) hC dX11_rowsOf_2 (by decide) (R_istore_n (i := 3) hC dX11_rowsOf_3 rfl (by decide) rfl ?_)))
  exact loop 0 (Nat.zero_le _)
/-- no row meets two of the columns -/
def apart (T : tb) (S : Nat) : Prop := ∀ r c c', r < T.1 → c < c' → c' < T.2.1 → S.testBit c = true → S.testBit c' = true → ¬ T.2.2 r c = 0 → T.2.2 r c' = 0
/-- the rows meet all columns that are not all 0 -/
def cover (T : tb) (S : Nat) : Prop := ∀ c, c < T.2.1 → (∃ r, r < T.1 ∧ ¬ T.2.2 r c = 0) → ∃ r, r < T.1 ∧ S.testBit r = true ∧ ¬ T.2.2 r c = 0
theorem and_0 {a b : Nat} : a &&& b = 0 ↔ ∀ r, ¬ (a.testBit r = true ∧ b.testBit r = true) := by
  constructor
  · intro h r ⟨h1, h2⟩
    have := Nat.testBit_and a b r
    rw [h, h1, h2] at this
    simp at this
  · intro h
    apply Nat.eq_of_testBit_eq
    intro r
    rw [Nat.testBit_and, Nat.zero_testBit]
    have := h r
    cases h1 : a.testBit r <;> cases h2 : b.testBit r <;> simp_all
theorem s_doPack (σ : sg) (x : aW) (T : tb) (hT0 : TB (σ.2.2 i_m_now) T) (S : Nat) (hS : S < 64) :
    Mt mX11_doPack 1 0 0 [.ref i_M, .int (nI S)] (wd σ x) (QI (b2i (apart T S)) (wd σ x)) := by
  refine Mt.of MI_X11_doPack (Nat.le_of_ble_eq_true rfl) (fun X hC hR hT => ?_)
  obtain ⟨hR1, hC1, hR6, hC6, hE⟩ := id hT0
  have loop : ∀ c, c ≤ T.2.1 → ∀ m, m < 64 → (∀ r, m.testBit r = true ↔ ∃ c2, c2 < c ∧ S.testBit c2 = true ∧ r < T.1 ∧ ¬ T.2.2 r c2 = 0) → (∀ r c1 c2, r < T.1 → c1 < c2 → c2 < c → S.testBit c1 = true → S.testBit c2 = true → ¬ T.2.2 r c1 = 0 → T.2.2 r c2 = 0) → Rw mX11_doPack X 4 [some (.ref i_M), some (.int (nI S)), some (.int (nI m)), some (.int (nI c))] [] (wd σ x) 0 0 := by
    refine up_loop T.2.1 ?_ ?_
    · intro m hm hb hp
      refine R_iload_n (i := 3) hC dX11_doPack_4 rfl rfl (R_aload_n (i := 0) hC dX11_doPack_5 rfl rfl (R_gR hC dX11_doPack_6 fl_X11_13 L_M rfl (R_bipush (v := 37) hC dX11_doPack_9 (by decide) (R_aI hC dX11_doPack_11 L_m_now 37 rfl (by decide) (by decide) ?_))))
      refine R_top (y := nI T.2.1) (hC1) ?_
      refine R_icmp_ge hC 52 dX11_doPack_12 (by decide) (fun _ => ?_) (fun h => absurd (Int32.le_refl _) h)
      refine R_iconst (v := 1) hC dX11_doPack_52 (by decide) ?_
      exact R_zret hC hT dX11_doPack_53 rfl (by decide) ⟨by rw [b2i_t (show apart T S from fun r c c' h1 h2 h3 => hp r c c' h1 h2 h3)], rfl⟩
    · intro c hc ih m hm hb hp
      have l1 := rmask_lt T c T.1
      have l2 := pw6 hR6
      have bt := fun r => rmask_bit T c r T.1
      have em : (nI (m &&& rmask T c T.1) = (0 : Int32)) ↔ m &&& rmask T c T.1 = 0 := nI_eq (b := 0) (by have := Nat.and_le_left (n := m) (m := rmask T c T.1); omega) (by decide)
      refine R_iload_n (i := 3) hC dX11_doPack_4 rfl rfl (R_aload_n (i := 0) hC dX11_doPack_5 rfl rfl (R_gR hC dX11_doPack_6 fl_X11_13 L_M rfl (R_bipush (v := 37) hC dX11_doPack_9 (by decide) (R_aI hC dX11_doPack_11 L_m_now 37 rfl (by decide) (by decide) ?_))))
      refine R_top (y := nI T.2.1) (hC1) ?_
      refine R_icmp_ge hC 52 dX11_doPack_12 (by decide) (fun h => absurd h (nI_ge hc (by omega))) (fun _ => ?_)
      refine R_iload_n (i := 1) hC dX11_doPack_15 rfl rfl (R_iload_n (i := 3) hC dX11_doPack_16 rfl rfl ?_)
      refine R_S2i hC hR dX11_doPack_17 MS_X11_has ml_X11_200 (s_has S c hS (by omega) _) (by decide) ⟨by decide, by decide⟩ (Nat.le_of_ble_eq_true rfl) ?_
      refine R_if_ne hC 26 dX11_doPack_20 (by decide) (fun h20 => ?_) (fun h20 => ?_)
      · refine R_iload_n (i := 2) hC dX11_doPack_26 rfl rfl (R_aload_n (i := 0) hC dX11_doPack_27 rfl rfl (R_iload_n (i := 3) hC dX11_doPack_28 rfl rfl ?_))
        refine R_V1i hC hR dX11_doPack_29 MV_X11_rowsOf ml_X11_316 L_M rfl (s_rowsOf σ x T hT0 c hc) (by decide) ⟨by decide, by decide⟩ (Nat.le_of_ble_eq_true rfl) ?_
        refine R_iand hC dX11_doPack_32 ?_
        refine R_top (y := nI (m &&& rmask T c T.1)) (nI_and m hm _ (by omega)) ?_
        refine R_if_eq hC 38 dX11_doPack_33 (by decide) (fun h33 => ?_) (fun h33 => ?_)
        · refine R_iload_n (i := 2) hC dX11_doPack_38 rfl rfl (R_aload_n (i := 0) hC dX11_doPack_39 rfl rfl (R_iload_n (i := 3) hC dX11_doPack_40 rfl rfl ?_))
          refine R_V1i hC hR dX11_doPack_41 MV_X11_rowsOf ml_X11_316 L_M rfl (s_rowsOf σ x T hT0 c hc) (by decide) ⟨by decide, by decide⟩ (Nat.le_of_ble_eq_true rfl) ?_
          refine R_ior hC dX11_doPack_44 ?_
          refine R_top (y := nI (m ||| rmask T c T.1)) (nI_or m hm _ (by omega)) ?_
          refine R_istore_n (i := 2) hC dX11_doPack_45 rfl (by decide) rfl (R_iinc hC dX11_doPack_46 rfl (inc1 _) (by decide) rfl (R_goto hC 4 dX11_doPack_49 (by decide) ?_))
          first
          | (have hap := and_0.mp (em.mp h33)
             refine ih (m ||| rmask T c T.1) (Nat.or_lt_two_pow (n := 6) hm (by omega)) (fun r => ?_) (fun r c1 c2 y1 y2 y3 y4 y5 y6 => ?_)
             · rw [Nat.testBit_or, Bool.or_eq_true, hb r, bt r]
               constructor
               · rintro (⟨c2, a1, a2, a3, a4⟩ | ⟨a1, a2⟩)
                 · exact ⟨c2, by omega, a2, a3, a4⟩
                 · exact ⟨c, by omega, tst h20, a1, a2⟩
               · rintro ⟨c2, a1, a2, a3, a4⟩
                 rcases (by omega : c2 < c ∨ c2 = c) with q | rfl
                 · exact Or.inl ⟨c2, q, a2, a3, a4⟩
                 · exact Or.inr ⟨a3, a4⟩
             · rcases (by omega : c2 < c ∨ c2 = c) with q | rfl
               · exact hp r c1 c2 y1 y2 q y4 y5 y6
               · refine Classical.byContradiction fun y7 => hap r ⟨(hb r).mpr ⟨c1, y2, y4, y1, y6⟩, (bt r).mpr ⟨y1, y7⟩⟩)
          | (have h21 := tst0 h20
             refine ih m hm (fun r => ?_) (fun r c1 c2 y1 y2 y3 y4 y5 y6 => ?_)
             · rw [hb r]
               constructor
               · rintro ⟨c2, a1, a2, a3, a4⟩; exact ⟨c2, by omega, a2, a3, a4⟩
               · rintro ⟨c2, a1, a2, a3, a4⟩
                 rcases (by omega : c2 < c ∨ c2 = c) with q | rfl
                 · exact ⟨c2, q, a2, a3, a4⟩
                 · exact absurd a2 h21
             · rcases (by omega : c2 < c ∨ c2 = c) with q | rfl
               · exact hp r c1 c2 y1 y2 q y4 y5 y6
               · exact absurd y5 h21)
        · refine R_iconst (v := 0) hC dX11_doPack_36 (by decide) ?_
          exact R_zret hC hT dX11_doPack_37 rfl (by decide) ⟨by
          rw [b2i_f]
          intro (z : apart T S)
          refine h33 (em.mpr (and_0.mpr (fun r y => ?_)))
          obtain ⟨c2, y1, y2, y3, y4⟩ := (hb r).mp y.1
          exact ((bt r).mp y.2).2 (z r c2 c y3 y1 hc y2 (tst h20) y4), rfl⟩
      · refine R_goto hC 46 dX11_doPack_23 (by decide) (R_iinc hC dX11_doPack_46 rfl (inc1 _) (by decide) rfl (R_goto hC 4 dX11_doPack_49 (by decide) ?_))
        first
        | (have hap := and_0.mp (em.mp h33)
           refine ih (m ||| rmask T c T.1) (Nat.or_lt_two_pow (n := 6) hm (by omega)) (fun r => ?_) (fun r c1 c2 y1 y2 y3 y4 y5 y6 => ?_)
           · rw [Nat.testBit_or, Bool.or_eq_true, hb r, bt r]
             constructor
             · rintro (⟨c2, a1, a2, a3, a4⟩ | ⟨a1, a2⟩)
               · exact ⟨c2, by omega, a2, a3, a4⟩
               · exact ⟨c, by omega, tst h20, a1, a2⟩
             · rintro ⟨c2, a1, a2, a3, a4⟩
               rcases (by omega : c2 < c ∨ c2 = c) with q | rfl
               · exact Or.inl ⟨c2, q, a2, a3, a4⟩
               · exact Or.inr ⟨a3, a4⟩
           · rcases (by omega : c2 < c ∨ c2 = c) with q | rfl
             · exact hp r c1 c2 y1 y2 q y4 y5 y6
             · refine Classical.byContradiction fun y7 => hap r ⟨(hb r).mpr ⟨c1, y2, y4, y1, y6⟩, (bt r).mpr ⟨y1, y7⟩⟩)
        | (have h21 := tst0 h20
           refine ih m hm (fun r => ?_) (fun r c1 c2 y1 y2 y3 y4 y5 y6 => ?_)
           · rw [hb r]
             constructor
             · rintro ⟨c2, a1, a2, a3, a4⟩; exact ⟨c2, by omega, a2, a3, a4⟩
             · rintro ⟨c2, a1, a2, a3, a4⟩
               rcases (by omega : c2 < c ∨ c2 = c) with q | rfl
               · exact ⟨c2, q, a2, a3, a4⟩
               · exact absurd a2 h21
           · rcases (by omega : c2 < c ∨ c2 = c) with q | rfl
             · exact hp r c1 c2 y1 y2 q y4 y5 y6
             · exact absurd y5 h21)
  refine R_iconst (v := 0) hC dX11_doPack_0 (by decide) (R_istore_n (i := 2) hC dX11_doPack_1 rfl (by decide) rfl (R_iconst (v := 0) hC dX11_doPack_2 (by decide) (R_istore_n (i := 3) hC dX11_doPack_3 rfl (by decide) rfl ?_)))
  exact loop 0 (Nat.zero_le _) 0 (by decide) (fun r => by simp) (fun r c1 c2 _ _ h => absurd h (Nat.not_lt_zero _))
theorem s_doCover (σ : sg) (x : aW) (T : tb) (hT0 : TB (σ.2.2 i_m_now) T) (S : Nat) (hS : S < 64) :
    Mt mX11_doCover 1 0 0 [.ref i_M, .int (nI S)] (wd σ x) (QI (b2i (cover T S)) (wd σ x)) := by
  refine Mt.of MI_X11_doCover (Nat.le_of_ble_eq_true rfl) (fun X hC hR hT => ?_)
  obtain ⟨hR1, hC1, hR6, hC6, hE⟩ := id hT0
  have loop : ∀ c, c ≤ T.2.1 → (∀ c2, c2 < c → (∃ r, r < T.1 ∧ ¬ T.2.2 r c2 = 0) → ∃ r, r < T.1 ∧ S.testBit r = true ∧ ¬ T.2.2 r c2 = 0) → Rw mX11_doCover X 2 [some (.ref i_M), some (.int (nI S)), some (.int (nI c))] [] (wd σ x) 0 0 := by
    refine up_loop T.2.1 ?_ ?_
    · intro hb
      refine R_iload_n (i := 2) hC dX11_doCover_2 rfl rfl (R_aload_n (i := 0) hC dX11_doCover_3 rfl rfl (R_gR hC dX11_doCover_4 fl_X11_13 L_M rfl (R_bipush (v := 37) hC dX11_doCover_7 (by decide) (R_aI hC dX11_doCover_9 L_m_now 37 rfl (by decide) (by decide) ?_))))
      refine R_top (y := nI T.2.1) (hC1) ?_
      refine R_icmp_ge hC 39 dX11_doCover_10 (by decide) (fun _ => ?_) (fun h => absurd (Int32.le_refl _) h)
      refine R_iconst (v := 1) hC dX11_doCover_39 (by decide) ?_
      exact R_zret hC hT dX11_doCover_40 rfl (by decide) ⟨by rw [b2i_t (show cover T S from hb)], rfl⟩
    · intro c hc ih hb
      have l1 := rmask_lt T c T.1
      have l2 := pw6 hR6
      have bt := fun r => rmask_bit T c r T.1
      have em : (nI (rmask T c T.1) = (0 : Int32)) ↔ rmask T c T.1 = 0 := nI_eq (b := 0) (by omega) (by decide)
      have em2 : (nI (rmask T c T.1 &&& S) = (0 : Int32)) ↔ rmask T c T.1 &&& S = 0 := nI_eq (b := 0) (by have := Nat.and_le_left (n := rmask T c T.1) (m := S); omega) (by decide)
      have nx : ((∃ r, r < T.1 ∧ ¬ T.2.2 r c = 0) → ∃ r, r < T.1 ∧ S.testBit r = true ∧ ¬ T.2.2 r c = 0) → Rw mX11_doCover X 33 [some (.ref i_M), some (.int (nI S)), some (.int (nI c))] [] (wd σ x) 0 0 := by
        intro z
        refine R_iinc hC dX11_doCover_33 rfl (inc1 _) (by decide) rfl (R_goto hC 2 dX11_doCover_36 (by decide) ?_)
        exact ih (fun c2 h2 => by rcases (by omega : c2 < c ∨ c2 = c) with q | rfl; exact hb c2 q; exact z)
      refine R_iload_n (i := 2) hC dX11_doCover_2 rfl rfl (R_aload_n (i := 0) hC dX11_doCover_3 rfl rfl (R_gR hC dX11_doCover_4 fl_X11_13 L_M rfl (R_bipush (v := 37) hC dX11_doCover_7 (by decide) (R_aI hC dX11_doCover_9 L_m_now 37 rfl (by decide) (by decide) ?_))))
      refine R_top (y := nI T.2.1) (hC1) ?_
      refine R_icmp_ge hC 39 dX11_doCover_10 (by decide) (fun h => absurd h (nI_ge hc (by omega))) (fun _ => ?_)
      refine R_aload_n (i := 0) hC dX11_doCover_13 rfl rfl (R_iload_n (i := 2) hC dX11_doCover_14 rfl rfl ?_)
      refine R_V1i hC hR dX11_doCover_15 MV_X11_rowsOf ml_X11_316 L_M rfl (s_rowsOf σ x T hT0 c hc) (by decide) ⟨by decide, by decide⟩ (Nat.le_of_ble_eq_true rfl) ?_
      refine R_if_eq hC 33 dX11_doCover_18 (by decide) (fun h18 => ?_) (fun h18 => ?_)
      · first
        | (have h29 := h28
           refine nx (fun _ => ?_)
           refine Classical.byContradiction fun q => h29 (em2.mpr (and_0.mpr (fun r y => q ⟨r, ((bt r).mp y.1).1, y.2, ((bt r).mp y.1).2⟩))))
        | (refine nx (fun ⟨r, a1, a2⟩ => ?_)
           have := (bt r).mpr ⟨a1, a2⟩
           rw [em.mp h18] at this
           simp at this)
      · refine R_aload_n (i := 0) hC dX11_doCover_21 rfl rfl (R_iload_n (i := 2) hC dX11_doCover_22 rfl rfl ?_)
        refine R_V1i hC hR dX11_doCover_23 MV_X11_rowsOf ml_X11_316 L_M rfl (s_rowsOf σ x T hT0 c hc) (by decide) ⟨by decide, by decide⟩ (Nat.le_of_ble_eq_true rfl) ?_
        refine R_iload_n (i := 1) hC dX11_doCover_26 rfl rfl (R_iand hC dX11_doCover_27 ?_)
        refine R_top (y := nI (rmask T c T.1 &&& S)) (nI_and _ (by omega) S hS) ?_
        refine R_if_ne hC 33 dX11_doCover_28 (by decide) (fun h28 => ?_) (fun h28 => ?_)
        · first
          | (have h29 := h28
             refine nx (fun _ => ?_)
             refine Classical.byContradiction fun q => h29 (em2.mpr (and_0.mpr (fun r y => q ⟨r, ((bt r).mp y.1).1, y.2, ((bt r).mp y.1).2⟩))))
          | (refine nx (fun ⟨r, a1, a2⟩ => ?_)
             have := (bt r).mpr ⟨a1, a2⟩
             rw [em.mp h18] at this
             simp at this)
        · refine R_iconst (v := 0) hC dX11_doCover_31 (by decide) ?_
          exact R_zret hC hT dX11_doCover_32 rfl (by decide) ⟨by
          rw [b2i_f]
          intro (z : cover T S)
          have y := and_0.mp (em2.mp h28)
          have hex : ∃ r, r < T.1 ∧ ¬ T.2.2 r c = 0 := by
            refine Classical.byContradiction fun q => h18 (em.mpr ?_)
            apply Nat.eq_of_testBit_eq
            intro r
            rw [Nat.zero_testBit]
            cases hr : (rmask T c T.1).testBit r
            · rfl
            · exact absurd ⟨r, (bt r).mp hr⟩ q
          obtain ⟨r, a1, a2, a3⟩ := z c hc hex
          exact y r ⟨(bt r).mpr ⟨a1, a3⟩, a2⟩, rfl⟩
  refine R_iconst (v := 0) hC dX11_doCover_0 (by decide) (R_istore_n (i := 2) hC dX11_doCover_1 rfl (by decide) rfl ?_)
  exact loop 0 (Nat.zero_le _) (fun _ h => absurd h (Nat.not_lt_zero _))
