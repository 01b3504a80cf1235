/-! ===== the class's determinants ===== -/
theorem dX1_reckon_0 : decode cX1_reckon 0 = .ok (.aload_n 0, 1) := by decide +kernel
theorem dX1_reckon_1 : decode cX1_reckon 1 = .ok (.iconst 1, 1) := by decide +kernel
theorem dX1_reckon_2 : decode cX1_reckon 2 = .ok (.aload_n 1, 1) := by decide +kernel
theorem dX1_reckon_3 : decode cX1_reckon 3 = .ok (.getfield 15, 3) := by decide +kernel
theorem dX1_reckon_6 : decode cX1_reckon 6 = .ok (.ishl, 1) := by decide +kernel
theorem dX1_reckon_7 : decode cX1_reckon 7 = .ok (.putfield 21, 3) := by decide +kernel
theorem dX1_reckon_10 : decode cX1_reckon 10 = .ok (.aload_n 0, 1) := by decide +kernel
theorem dX1_reckon_11 : decode cX1_reckon 11 = .ok (.iconst 1, 1) := by decide +kernel
theorem dX1_reckon_12 : decode cX1_reckon 12 = .ok (.aload_n 1, 1) := by decide +kernel
theorem dX1_reckon_13 : decode cX1_reckon 13 = .ok (.getfield 24, 3) := by decide +kernel
theorem dX1_reckon_16 : decode cX1_reckon 16 = .ok (.ishl, 1) := by decide +kernel
theorem dX1_reckon_17 : decode cX1_reckon 17 = .ok (.putfield 27, 3) := by decide +kernel
theorem dX1_reckon_20 : decode cX1_reckon 20 = .ok (.aload_n 0, 1) := by decide +kernel
theorem dX1_reckon_21 : decode cX1_reckon 21 = .ok (.iconst 0, 1) := by decide +kernel
theorem dX1_reckon_22 : decode cX1_reckon 22 = .ok (.putfield 30, 3) := by decide +kernel
theorem dX1_reckon_25 : decode cX1_reckon 25 = .ok (.aload_n 0, 1) := by decide +kernel
theorem dX1_reckon_26 : decode cX1_reckon 26 = .ok (.iconst 0, 1) := by decide +kernel
theorem dX1_reckon_27 : decode cX1_reckon 27 = .ok (.putfield 33, 3) := by decide +kernel
theorem dX1_reckon_30 : decode cX1_reckon 30 = .ok (.aload_n 0, 1) := by decide +kernel
theorem dX1_reckon_31 : decode cX1_reckon 31 = .ok (.getfield 9, 3) := by decide +kernel
theorem dX1_reckon_34 : decode cX1_reckon 34 = .ok (.iconst 0, 1) := by decide +kernel
theorem dX1_reckon_35 : decode cX1_reckon 35 = .ok (.iconst 1, 1) := by decide +kernel
theorem dX1_reckon_36 : decode cX1_reckon 36 = .ok (.iastore, 1) := by decide +kernel
theorem dX1_reckon_37 : decode cX1_reckon 37 = .ok (.iconst 1, 1) := by decide +kernel
theorem dX1_reckon_38 : decode cX1_reckon 38 = .ok (.istore_n 2, 1) := by decide +kernel
theorem dX1_reckon_39 : decode cX1_reckon 39 = .ok (.iload_n 2, 1) := by decide +kernel
theorem dX1_reckon_40 : decode cX1_reckon 40 = .ok (.aload_n 0, 1) := by decide +kernel
theorem dX1_reckon_41 : decode cX1_reckon 41 = .ok (.getfield 21, 3) := by decide +kernel
theorem dX1_reckon_44 : decode cX1_reckon 44 = .ok (.if_icmp .ge 80, 3) := by decide +kernel
theorem dX1_reckon_47 : decode cX1_reckon 47 = .ok (.iload_n 2, 1) := by decide +kernel
theorem dX1_reckon_48 : decode cX1_reckon 48 = .ok (.invokestatic 36, 3) := by decide +kernel
theorem dX1_reckon_51 : decode cX1_reckon 51 = .ok (.istore_n 3, 1) := by decide +kernel
theorem dX1_reckon_52 : decode cX1_reckon 52 = .ok (.iconst 1, 1) := by decide +kernel
theorem dX1_reckon_53 : decode cX1_reckon 53 = .ok (.istore 4, 2) := by decide +kernel
theorem dX1_reckon_55 : decode cX1_reckon 55 = .ok (.iload 4, 2) := by decide +kernel
theorem dX1_reckon_57 : decode cX1_reckon 57 = .ok (.aload_n 0, 1) := by decide +kernel
theorem dX1_reckon_58 : decode cX1_reckon 58 = .ok (.getfield 27, 3) := by decide +kernel
theorem dX1_reckon_61 : decode cX1_reckon 61 = .ok (.if_icmp .ge 57, 3) := by decide +kernel
theorem dX1_reckon_64 : decode cX1_reckon 64 = .ok (.iload 4, 2) := by decide +kernel
theorem dX1_reckon_66 : decode cX1_reckon 66 = .ok (.invokestatic 36, 3) := by decide +kernel
theorem dX1_reckon_69 : decode cX1_reckon 69 = .ok (.iload_n 3, 1) := by decide +kernel
theorem dX1_reckon_70 : decode cX1_reckon 70 = .ok (.if_icmp .ne 42, 3) := by decide +kernel
theorem dX1_reckon_73 : decode cX1_reckon 73 = .ok (.aload_n 0, 1) := by decide +kernel
theorem dX1_reckon_74 : decode cX1_reckon 74 = .ok (.aload_n 1, 1) := by decide +kernel
theorem dX1_reckon_75 : decode cX1_reckon 75 = .ok (.iload_n 2, 1) := by decide +kernel
theorem dX1_reckon_76 : decode cX1_reckon 76 = .ok (.iload 4, 2) := by decide +kernel
theorem dX1_reckon_78 : decode cX1_reckon 78 = .ok (.invokevirtual 42, 3) := by decide +kernel
theorem dX1_reckon_81 : decode cX1_reckon 81 = .ok (.istore 5, 2) := by decide +kernel
theorem dX1_reckon_83 : decode cX1_reckon 83 = .ok (.aload_n 0, 1) := by decide +kernel
theorem dX1_reckon_84 : decode cX1_reckon 84 = .ok (.getfield 9, 3) := by decide +kernel
theorem dX1_reckon_87 : decode cX1_reckon 87 = .ok (.iload_n 2, 1) := by decide +kernel
theorem dX1_reckon_88 : decode cX1_reckon 88 = .ok (.bipush 64, 2) := by decide +kernel
theorem dX1_reckon_90 : decode cX1_reckon 90 = .ok (.imul, 1) := by decide +kernel
theorem dX1_reckon_91 : decode cX1_reckon 91 = .ok (.iload 4, 2) := by decide +kernel
theorem dX1_reckon_93 : decode cX1_reckon 93 = .ok (.iadd, 1) := by decide +kernel
theorem dX1_reckon_94 : decode cX1_reckon 94 = .ok (.iload 5, 2) := by decide +kernel
theorem dX1_reckon_96 : decode cX1_reckon 96 = .ok (.iastore, 1) := by decide +kernel
theorem dX1_reckon_97 : decode cX1_reckon 97 = .ok (.iload 5, 2) := by decide +kernel
theorem dX1_reckon_99 : decode cX1_reckon 99 = .ok (.invokestatic 46, 3) := by decide +kernel
theorem dX1_reckon_102 : decode cX1_reckon 102 = .ok (.ifCond .eq 10, 3) := by decide +kernel
theorem dX1_reckon_105 : decode cX1_reckon 105 = .ok (.aload_n 0, 1) := by decide +kernel
theorem dX1_reckon_106 : decode cX1_reckon 106 = .ok (.iload_n 2, 1) := by decide +kernel
theorem dX1_reckon_107 : decode cX1_reckon 107 = .ok (.iload 4, 2) := by decide +kernel
theorem dX1_reckon_109 : decode cX1_reckon 109 = .ok (.invokevirtual 50, 3) := by decide +kernel
theorem dX1_reckon_112 : decode cX1_reckon 112 = .ok (.iinc 4 1, 3) := by decide +kernel
theorem dX1_reckon_115 : decode cX1_reckon 115 = .ok (.goto (-60), 3) := by decide +kernel
theorem dX1_reckon_118 : decode cX1_reckon 118 = .ok (.iinc 2 1, 3) := by decide +kernel
theorem dX1_reckon_121 : decode cX1_reckon 121 = .ok (.goto (-82), 3) := by decide +kernel
theorem dX1_reckon_124 : decode cX1_reckon 124 = .ok (.return_, 1) := by decide +kernel
theorem dX1_expanded_0 : decode cX1_expanded 0 = .ok (.iload_n 2, 1) := by decide +kernel
theorem dX1_expanded_1 : decode cX1_expanded 1 = .ok (.iload_n 2, 1) := by decide +kernel
theorem dX1_expanded_2 : decode cX1_expanded 2 = .ok (.iconst 1, 1) := by decide +kernel
theorem dX1_expanded_3 : decode cX1_expanded 3 = .ok (.isub, 1) := by decide +kernel
theorem dX1_expanded_4 : decode cX1_expanded 4 = .ok (.iand, 1) := by decide +kernel
theorem dX1_expanded_5 : decode cX1_expanded 5 = .ok (.istore 4, 2) := by decide +kernel
theorem dX1_expanded_7 : decode cX1_expanded 7 = .ok (.iload_n 2, 1) := by decide +kernel
theorem dX1_expanded_8 : decode cX1_expanded 8 = .ok (.iload 4, 2) := by decide +kernel
theorem dX1_expanded_10 : decode cX1_expanded 10 = .ok (.ixor, 1) := by decide +kernel
theorem dX1_expanded_11 : decode cX1_expanded 11 = .ok (.iconst 1, 1) := by decide +kernel
theorem dX1_expanded_12 : decode cX1_expanded 12 = .ok (.isub, 1) := by decide +kernel
theorem dX1_expanded_13 : decode cX1_expanded 13 = .ok (.invokestatic 36, 3) := by decide +kernel
theorem dX1_expanded_16 : decode cX1_expanded 16 = .ok (.istore 5, 2) := by decide +kernel
theorem dX1_expanded_18 : decode cX1_expanded 18 = .ok (.iconst 0, 1) := by decide +kernel
theorem dX1_expanded_19 : decode cX1_expanded 19 = .ok (.istore 6, 2) := by decide +kernel
theorem dX1_expanded_21 : decode cX1_expanded 21 = .ok (.iconst 1, 1) := by decide +kernel
theorem dX1_expanded_22 : decode cX1_expanded 22 = .ok (.istore 7, 2) := by decide +kernel
theorem dX1_expanded_24 : decode cX1_expanded 24 = .ok (.iconst 0, 1) := by decide +kernel
theorem dX1_expanded_25 : decode cX1_expanded 25 = .ok (.istore 8, 2) := by decide +kernel
theorem dX1_expanded_27 : decode cX1_expanded 27 = .ok (.iload 8, 2) := by decide +kernel
theorem dX1_expanded_29 : decode cX1_expanded 29 = .ok (.aload_n 1, 1) := by decide +kernel
theorem dX1_expanded_30 : decode cX1_expanded 30 = .ok (.getfield 24, 3) := by decide +kernel
theorem dX1_expanded_33 : decode cX1_expanded 33 = .ok (.if_icmp .ge 61, 3) := by decide +kernel
theorem dX1_expanded_36 : decode cX1_expanded 36 = .ok (.iload_n 3, 1) := by decide +kernel
theorem dX1_expanded_37 : decode cX1_expanded 37 = .ok (.iload 8, 2) := by decide +kernel
theorem dX1_expanded_39 : decode cX1_expanded 39 = .ok (.invokestatic 54, 3) := by decide +kernel
theorem dX1_expanded_42 : decode cX1_expanded 42 = .ok (.ifCond .eq 46, 3) := by decide +kernel
theorem dX1_expanded_45 : decode cX1_expanded 45 = .ok (.aload_n 1, 1) := by decide +kernel
theorem dX1_expanded_46 : decode cX1_expanded 46 = .ok (.iload 5, 2) := by decide +kernel
theorem dX1_expanded_48 : decode cX1_expanded 48 = .ok (.iload 8, 2) := by decide +kernel
theorem dX1_expanded_50 : decode cX1_expanded 50 = .ok (.invokevirtual 58, 3) := by decide +kernel
theorem dX1_expanded_53 : decode cX1_expanded 53 = .ok (.istore 9, 2) := by decide +kernel
theorem dX1_expanded_55 : decode cX1_expanded 55 = .ok (.iload 9, 2) := by decide +kernel
theorem dX1_expanded_57 : decode cX1_expanded 57 = .ok (.ifCond .eq 26, 3) := by decide +kernel
theorem dX1_expanded_60 : decode cX1_expanded 60 = .ok (.iload 6, 2) := by decide +kernel
theorem dX1_expanded_62 : decode cX1_expanded 62 = .ok (.iload 7, 2) := by decide +kernel
theorem dX1_expanded_64 : decode cX1_expanded 64 = .ok (.iload 9, 2) := by decide +kernel
theorem dX1_expanded_66 : decode cX1_expanded 66 = .ok (.imul, 1) := by decide +kernel
theorem dX1_expanded_67 : decode cX1_expanded 67 = .ok (.aload_n 0, 1) := by decide +kernel
theorem dX1_expanded_68 : decode cX1_expanded 68 = .ok (.iload 4, 2) := by decide +kernel
theorem dX1_expanded_70 : decode cX1_expanded 70 = .ok (.iload_n 3, 1) := by decide +kernel
theorem dX1_expanded_71 : decode cX1_expanded 71 = .ok (.iconst 1, 1) := by decide +kernel
theorem dX1_expanded_72 : decode cX1_expanded 72 = .ok (.iload 8, 2) := by decide +kernel
theorem dX1_expanded_74 : decode cX1_expanded 74 = .ok (.ishl, 1) := by decide +kernel
theorem dX1_expanded_75 : decode cX1_expanded 75 = .ok (.ixor, 1) := by decide +kernel
theorem dX1_expanded_76 : decode cX1_expanded 76 = .ok (.invokevirtual 62, 3) := by decide +kernel
theorem dX1_expanded_79 : decode cX1_expanded 79 = .ok (.imul, 1) := by decide +kernel
theorem dX1_expanded_80 : decode cX1_expanded 80 = .ok (.iadd, 1) := by decide +kernel
theorem dX1_expanded_81 : decode cX1_expanded 81 = .ok (.istore 6, 2) := by decide +kernel
theorem dX1_expanded_83 : decode cX1_expanded 83 = .ok (.iload 7, 2) := by decide +kernel
theorem dX1_expanded_85 : decode cX1_expanded 85 = .ok (.ineg, 1) := by decide +kernel
theorem dX1_expanded_86 : decode cX1_expanded 86 = .ok (.istore 7, 2) := by decide +kernel
theorem dX1_expanded_88 : decode cX1_expanded 88 = .ok (.iinc 8 1, 3) := by decide +kernel
theorem dX1_expanded_91 : decode cX1_expanded 91 = .ok (.goto (-64), 3) := by decide +kernel
theorem dX1_expanded_94 : decode cX1_expanded 94 = .ok (.iload 6, 2) := by decide +kernel
theorem dX1_expanded_96 : decode cX1_expanded 96 = .ok (.ireturn, 1) := by decide +kernel
theorem dX1_noteBeyond_0 : decode cX1_noteBeyond 0 = .ok (.aload_n 0, 1) := by decide +kernel
theorem dX1_noteBeyond_1 : decode cX1_noteBeyond 1 = .ok (.getfield 30, 3) := by decide +kernel
theorem dX1_noteBeyond_4 : decode cX1_noteBeyond 4 = .ok (.ifCond .eq 17, 3) := by decide +kernel
theorem dX1_noteBeyond_7 : decode cX1_noteBeyond 7 = .ok (.iload_n 1, 1) := by decide +kernel
theorem dX1_noteBeyond_8 : decode cX1_noteBeyond 8 = .ok (.invokestatic 36, 3) := by decide +kernel
theorem dX1_noteBeyond_11 : decode cX1_noteBeyond 11 = .ok (.aload_n 0, 1) := by decide +kernel
theorem dX1_noteBeyond_12 : decode cX1_noteBeyond 12 = .ok (.getfield 30, 3) := by decide +kernel
theorem dX1_noteBeyond_15 : decode cX1_noteBeyond 15 = .ok (.invokestatic 36, 3) := by decide +kernel
theorem dX1_noteBeyond_18 : decode cX1_noteBeyond 18 = .ok (.if_icmp .ge 13, 3) := by decide +kernel
theorem dX1_noteBeyond_21 : decode cX1_noteBeyond 21 = .ok (.aload_n 0, 1) := by decide +kernel
theorem dX1_noteBeyond_22 : decode cX1_noteBeyond 22 = .ok (.iload_n 1, 1) := by decide +kernel
theorem dX1_noteBeyond_23 : decode cX1_noteBeyond 23 = .ok (.putfield 30, 3) := by decide +kernel
theorem dX1_noteBeyond_26 : decode cX1_noteBeyond 26 = .ok (.aload_n 0, 1) := by decide +kernel
theorem dX1_noteBeyond_27 : decode cX1_noteBeyond 27 = .ok (.iload_n 2, 1) := by decide +kernel
theorem dX1_noteBeyond_28 : decode cX1_noteBeyond 28 = .ok (.putfield 33, 3) := by decide +kernel
theorem dX1_noteBeyond_31 : decode cX1_noteBeyond 31 = .ok (.return_, 1) := by decide +kernel
theorem dX1_allWithin_0 : decode cX1_allWithin 0 = .ok (.aload_n 0, 1) := by decide +kernel
theorem dX1_allWithin_1 : decode cX1_allWithin 1 = .ok (.getfield 30, 3) := by decide +kernel
theorem dX1_allWithin_4 : decode cX1_allWithin 4 = .ok (.ifCond .ne 7, 3) := by decide +kernel
theorem dX1_allWithin_7 : decode cX1_allWithin 7 = .ok (.iconst 1, 1) := by decide +kernel
theorem dX1_allWithin_8 : decode cX1_allWithin 8 = .ok (.goto 4, 3) := by decide +kernel
theorem dX1_allWithin_11 : decode cX1_allWithin 11 = .ok (.iconst 0, 1) := by decide +kernel
theorem dX1_allWithin_12 : decode cX1_allWithin 12 = .ok (.ireturn, 1) := by decide +kernel
theorem dX1_of_0 : decode cX1_of 0 = .ok (.iload_n 1, 1) := by decide +kernel
theorem dX1_of_1 : decode cX1_of 1 = .ok (.ifCond .lt 19, 3) := by decide +kernel
theorem dX1_of_4 : decode cX1_of 4 = .ok (.iload_n 1, 1) := by decide +kernel
theorem dX1_of_5 : decode cX1_of 5 = .ok (.bipush 64, 2) := by decide +kernel
theorem dX1_of_7 : decode cX1_of 7 = .ok (.if_icmp .ge 13, 3) := by decide +kernel
theorem dX1_of_10 : decode cX1_of 10 = .ok (.iload_n 2, 1) := by decide +kernel
theorem dX1_of_11 : decode cX1_of 11 = .ok (.ifCond .lt 9, 3) := by decide +kernel
theorem dX1_of_14 : decode cX1_of 14 = .ok (.iload_n 2, 1) := by decide +kernel
theorem dX1_of_15 : decode cX1_of 15 = .ok (.bipush 64, 2) := by decide +kernel
theorem dX1_of_17 : decode cX1_of 17 = .ok (.if_icmp .lt 5, 3) := by decide +kernel
theorem dX1_of_20 : decode cX1_of 20 = .ok (.iconst 0, 1) := by decide +kernel
theorem dX1_of_21 : decode cX1_of 21 = .ok (.ireturn, 1) := by decide +kernel
theorem dX1_of_22 : decode cX1_of 22 = .ok (.aload_n 0, 1) := by decide +kernel
theorem dX1_of_23 : decode cX1_of 23 = .ok (.getfield 9, 3) := by decide +kernel
theorem dX1_of_26 : decode cX1_of 26 = .ok (.iload_n 1, 1) := by decide +kernel
theorem dX1_of_27 : decode cX1_of 27 = .ok (.bipush 64, 2) := by decide +kernel
theorem dX1_of_29 : decode cX1_of 29 = .ok (.imul, 1) := by decide +kernel
theorem dX1_of_30 : decode cX1_of 30 = .ok (.iload_n 2, 1) := by decide +kernel
theorem dX1_of_31 : decode cX1_of 31 = .ok (.iadd, 1) := by decide +kernel
theorem dX1_of_32 : decode cX1_of 32 = .ok (.iaload, 1) := by decide +kernel
theorem dX1_of_33 : decode cX1_of 33 = .ok (.ireturn, 1) := by decide +kernel
theorem dX1_allWithinIf_0 : decode cX1_allWithinIf 0 = .ok (.iload 4, 2) := by decide +kernel
theorem dX1_allWithinIf_2 : decode cX1_allWithinIf 2 = .ok (.aload_n 1, 1) := by decide +kernel
theorem dX1_allWithinIf_3 : decode cX1_allWithinIf 3 = .ok (.iload_n 2, 1) := by decide +kernel
theorem dX1_allWithinIf_4 : decode cX1_allWithinIf 4 = .ok (.iload_n 3, 1) := by decide +kernel
theorem dX1_allWithinIf_5 : decode cX1_allWithinIf 5 = .ok (.invokevirtual 58, 3) := by decide +kernel
theorem dX1_allWithinIf_8 : decode cX1_allWithinIf 8 = .ok (.isub, 1) := by decide +kernel
theorem dX1_allWithinIf_9 : decode cX1_allWithinIf 9 = .ok (.istore 5, 2) := by decide +kernel
theorem dX1_allWithinIf_11 : decode cX1_allWithinIf 11 = .ok (.iconst 1, 1) := by decide +kernel
theorem dX1_allWithinIf_12 : decode cX1_allWithinIf 12 = .ok (.istore 6, 2) := by decide +kernel
theorem dX1_allWithinIf_14 : decode cX1_allWithinIf 14 = .ok (.iload 6, 2) := by decide +kernel
theorem dX1_allWithinIf_16 : decode cX1_allWithinIf 16 = .ok (.aload_n 0, 1) := by decide +kernel
theorem dX1_allWithinIf_17 : decode cX1_allWithinIf 17 = .ok (.getfield 21, 3) := by decide +kernel
theorem dX1_allWithinIf_20 : decode cX1_allWithinIf 20 = .ok (.if_icmp .ge 87, 3) := by decide +kernel
theorem dX1_allWithinIf_23 : decode cX1_allWithinIf 23 = .ok (.iload 6, 2) := by decide +kernel
theorem dX1_allWithinIf_25 : decode cX1_allWithinIf 25 = .ok (.iload_n 2, 1) := by decide +kernel
theorem dX1_allWithinIf_26 : decode cX1_allWithinIf 26 = .ok (.invokestatic 54, 3) := by decide +kernel
theorem dX1_allWithinIf_29 : decode cX1_allWithinIf 29 = .ok (.istore 7, 2) := by decide +kernel
theorem dX1_allWithinIf_31 : decode cX1_allWithinIf 31 = .ok (.iconst 1, 1) := by decide +kernel
theorem dX1_allWithinIf_32 : decode cX1_allWithinIf 32 = .ok (.istore 8, 2) := by decide +kernel
theorem dX1_allWithinIf_34 : decode cX1_allWithinIf 34 = .ok (.iload 8, 2) := by decide +kernel
theorem dX1_allWithinIf_36 : decode cX1_allWithinIf 36 = .ok (.aload_n 0, 1) := by decide +kernel
theorem dX1_allWithinIf_37 : decode cX1_allWithinIf 37 = .ok (.getfield 27, 3) := by decide +kernel
theorem dX1_allWithinIf_40 : decode cX1_allWithinIf 40 = .ok (.if_icmp .ge 61, 3) := by decide +kernel
theorem dX1_allWithinIf_43 : decode cX1_allWithinIf 43 = .ok (.aload_n 0, 1) := by decide +kernel
theorem dX1_allWithinIf_44 : decode cX1_allWithinIf 44 = .ok (.iload 6, 2) := by decide +kernel
theorem dX1_allWithinIf_46 : decode cX1_allWithinIf 46 = .ok (.iload 8, 2) := by decide +kernel
theorem dX1_allWithinIf_48 : decode cX1_allWithinIf 48 = .ok (.invokevirtual 62, 3) := by decide +kernel
theorem dX1_allWithinIf_51 : decode cX1_allWithinIf 51 = .ok (.istore 9, 2) := by decide +kernel
theorem dX1_allWithinIf_53 : decode cX1_allWithinIf 53 = .ok (.iload 7, 2) := by decide +kernel
theorem dX1_allWithinIf_55 : decode cX1_allWithinIf 55 = .ok (.ifCond .eq 30, 3) := by decide +kernel
theorem dX1_allWithinIf_58 : decode cX1_allWithinIf 58 = .ok (.iload 8, 2) := by decide +kernel
theorem dX1_allWithinIf_60 : decode cX1_allWithinIf 60 = .ok (.iload_n 3, 1) := by decide +kernel
theorem dX1_allWithinIf_61 : decode cX1_allWithinIf 61 = .ok (.invokestatic 54, 3) := by decide +kernel
theorem dX1_allWithinIf_64 : decode cX1_allWithinIf 64 = .ok (.ifCond .eq 21, 3) := by decide +kernel
theorem dX1_allWithinIf_67 : decode cX1_allWithinIf 67 = .ok (.iload 9, 2) := by decide +kernel
theorem dX1_allWithinIf_69 : decode cX1_allWithinIf 69 = .ok (.iload 5, 2) := by decide +kernel
theorem dX1_allWithinIf_71 : decode cX1_allWithinIf 71 = .ok (.aload_n 0, 1) := by decide +kernel
theorem dX1_allWithinIf_72 : decode cX1_allWithinIf 72 = .ok (.iload 6, 2) := by decide +kernel
theorem dX1_allWithinIf_74 : decode cX1_allWithinIf 74 = .ok (.iload 8, 2) := by decide +kernel
theorem dX1_allWithinIf_76 : decode cX1_allWithinIf 76 = .ok (.iload_n 2, 1) := by decide +kernel
theorem dX1_allWithinIf_77 : decode cX1_allWithinIf 77 = .ok (.iload_n 3, 1) := by decide +kernel
theorem dX1_allWithinIf_78 : decode cX1_allWithinIf 78 = .ok (.invokevirtual 65, 3) := by decide +kernel
theorem dX1_allWithinIf_81 : decode cX1_allWithinIf 81 = .ok (.imul, 1) := by decide +kernel
theorem dX1_allWithinIf_82 : decode cX1_allWithinIf 82 = .ok (.iadd, 1) := by decide +kernel
theorem dX1_allWithinIf_83 : decode cX1_allWithinIf 83 = .ok (.istore 9, 2) := by decide +kernel
theorem dX1_allWithinIf_85 : decode cX1_allWithinIf 85 = .ok (.iload 9, 2) := by decide +kernel
theorem dX1_allWithinIf_87 : decode cX1_allWithinIf 87 = .ok (.invokestatic 46, 3) := by decide +kernel
theorem dX1_allWithinIf_90 : decode cX1_allWithinIf 90 = .ok (.ifCond .eq 5, 3) := by decide +kernel
theorem dX1_allWithinIf_93 : decode cX1_allWithinIf 93 = .ok (.iconst 0, 1) := by decide +kernel
theorem dX1_allWithinIf_94 : decode cX1_allWithinIf 94 = .ok (.ireturn, 1) := by decide +kernel
theorem dX1_allWithinIf_95 : decode cX1_allWithinIf 95 = .ok (.iinc 8 1, 3) := by decide +kernel
theorem dX1_allWithinIf_98 : decode cX1_allWithinIf 98 = .ok (.goto (-64), 3) := by decide +kernel
theorem dX1_allWithinIf_101 : decode cX1_allWithinIf 101 = .ok (.iinc 6 1, 3) := by decide +kernel
theorem dX1_allWithinIf_104 : decode cX1_allWithinIf 104 = .ok (.goto (-90), 3) := by decide +kernel
theorem dX1_allWithinIf_107 : decode cX1_allWithinIf 107 = .ok (.iconst 1, 1) := by decide +kernel
theorem dX1_allWithinIf_108 : decode cX1_allWithinIf 108 = .ok (.ireturn, 1) := by decide +kernel
theorem dX1_cofactor_0 : decode cX1_cofactor 0 = .ok (.iload_n 1, 1) := by decide +kernel
theorem dX1_cofactor_1 : decode cX1_cofactor 1 = .ok (.iconst 1, 1) := by decide +kernel
theorem dX1_cofactor_2 : decode cX1_cofactor 2 = .ok (.iload_n 3, 1) := by decide +kernel
theorem dX1_cofactor_3 : decode cX1_cofactor 3 = .ok (.ishl, 1) := by decide +kernel
theorem dX1_cofactor_4 : decode cX1_cofactor 4 = .ok (.iconst 1, 1) := by decide +kernel
theorem dX1_cofactor_5 : decode cX1_cofactor 5 = .ok (.isub, 1) := by decide +kernel
theorem dX1_cofactor_6 : decode cX1_cofactor 6 = .ok (.iand, 1) := by decide +kernel
theorem dX1_cofactor_7 : decode cX1_cofactor 7 = .ok (.invokestatic 36, 3) := by decide +kernel
theorem dX1_cofactor_10 : decode cX1_cofactor 10 = .ok (.iload_n 2, 1) := by decide +kernel
theorem dX1_cofactor_11 : decode cX1_cofactor 11 = .ok (.iconst 1, 1) := by decide +kernel
theorem dX1_cofactor_12 : decode cX1_cofactor 12 = .ok (.iload 4, 2) := by decide +kernel
theorem dX1_cofactor_14 : decode cX1_cofactor 14 = .ok (.ishl, 1) := by decide +kernel
theorem dX1_cofactor_15 : decode cX1_cofactor 15 = .ok (.iconst 1, 1) := by decide +kernel
theorem dX1_cofactor_16 : decode cX1_cofactor 16 = .ok (.isub, 1) := by decide +kernel
theorem dX1_cofactor_17 : decode cX1_cofactor 17 = .ok (.iand, 1) := by decide +kernel
theorem dX1_cofactor_18 : decode cX1_cofactor 18 = .ok (.invokestatic 36, 3) := by decide +kernel
theorem dX1_cofactor_21 : decode cX1_cofactor 21 = .ok (.iadd, 1) := by decide +kernel
theorem dX1_cofactor_22 : decode cX1_cofactor 22 = .ok (.istore 5, 2) := by decide +kernel
theorem dX1_cofactor_24 : decode cX1_cofactor 24 = .ok (.aload_n 0, 1) := by decide +kernel
theorem dX1_cofactor_25 : decode cX1_cofactor 25 = .ok (.iload_n 1, 1) := by decide +kernel
theorem dX1_cofactor_26 : decode cX1_cofactor 26 = .ok (.iconst 1, 1) := by decide +kernel
theorem dX1_cofactor_27 : decode cX1_cofactor 27 = .ok (.iload_n 3, 1) := by decide +kernel
theorem dX1_cofactor_28 : decode cX1_cofactor 28 = .ok (.ishl, 1) := by decide +kernel
theorem dX1_cofactor_29 : decode cX1_cofactor 29 = .ok (.ixor, 1) := by decide +kernel
theorem dX1_cofactor_30 : decode cX1_cofactor 30 = .ok (.iload_n 2, 1) := by decide +kernel
theorem dX1_cofactor_31 : decode cX1_cofactor 31 = .ok (.iconst 1, 1) := by decide +kernel
theorem dX1_cofactor_32 : decode cX1_cofactor 32 = .ok (.iload 4, 2) := by decide +kernel
theorem dX1_cofactor_34 : decode cX1_cofactor 34 = .ok (.ishl, 1) := by decide +kernel
theorem dX1_cofactor_35 : decode cX1_cofactor 35 = .ok (.ixor, 1) := by decide +kernel
theorem dX1_cofactor_36 : decode cX1_cofactor 36 = .ok (.invokevirtual 62, 3) := by decide +kernel
theorem dX1_cofactor_39 : decode cX1_cofactor 39 = .ok (.istore 6, 2) := by decide +kernel
theorem dX1_cofactor_41 : decode cX1_cofactor 41 = .ok (.iload 5, 2) := by decide +kernel
theorem dX1_cofactor_43 : decode cX1_cofactor 43 = .ok (.iconst 1, 1) := by decide +kernel
theorem dX1_cofactor_44 : decode cX1_cofactor 44 = .ok (.iand, 1) := by decide +kernel
theorem dX1_cofactor_45 : decode cX1_cofactor 45 = .ok (.ifCond .ne 8, 3) := by decide +kernel
theorem dX1_cofactor_48 : decode cX1_cofactor 48 = .ok (.iload 6, 2) := by decide +kernel
theorem dX1_cofactor_50 : decode cX1_cofactor 50 = .ok (.goto 6, 3) := by decide +kernel
theorem dX1_cofactor_53 : decode cX1_cofactor 53 = .ok (.iload 6, 2) := by decide +kernel
theorem dX1_cofactor_55 : decode cX1_cofactor 55 = .ok (.ineg, 1) := by decide +kernel
theorem dX1_cofactor_56 : decode cX1_cofactor 56 = .ok (.ireturn, 1) := by decide +kernel
theorem dX1_howMany_0 : decode cX1_howMany 0 = .ok (.iconst 0, 1) := by decide +kernel
theorem dX1_howMany_1 : decode cX1_howMany 1 = .ok (.istore_n 3, 1) := by decide +kernel
theorem dX1_howMany_2 : decode cX1_howMany 2 = .ok (.iconst 1, 1) := by decide +kernel
theorem dX1_howMany_3 : decode cX1_howMany 3 = .ok (.istore 4, 2) := by decide +kernel
theorem dX1_howMany_5 : decode cX1_howMany 5 = .ok (.iload 4, 2) := by decide +kernel
theorem dX1_howMany_7 : decode cX1_howMany 7 = .ok (.aload_n 0, 1) := by decide +kernel
theorem dX1_howMany_8 : decode cX1_howMany 8 = .ok (.getfield 21, 3) := by decide +kernel
theorem dX1_howMany_11 : decode cX1_howMany 11 = .ok (.if_icmp .ge 63, 3) := by decide +kernel
theorem dX1_howMany_14 : decode cX1_howMany 14 = .ok (.iconst 1, 1) := by decide +kernel
theorem dX1_howMany_15 : decode cX1_howMany 15 = .ok (.istore 5, 2) := by decide +kernel
theorem dX1_howMany_17 : decode cX1_howMany 17 = .ok (.iload 5, 2) := by decide +kernel
theorem dX1_howMany_19 : decode cX1_howMany 19 = .ok (.aload_n 0, 1) := by decide +kernel
theorem dX1_howMany_20 : decode cX1_howMany 20 = .ok (.getfield 27, 3) := by decide +kernel
theorem dX1_howMany_23 : decode cX1_howMany 23 = .ok (.if_icmp .ge 45, 3) := by decide +kernel
theorem dX1_howMany_26 : decode cX1_howMany 26 = .ok (.iload 4, 2) := by decide +kernel
theorem dX1_howMany_28 : decode cX1_howMany 28 = .ok (.invokestatic 36, 3) := by decide +kernel
theorem dX1_howMany_31 : decode cX1_howMany 31 = .ok (.iload_n 1, 1) := by decide +kernel
theorem dX1_howMany_32 : decode cX1_howMany 32 = .ok (.if_icmp .ne 30, 3) := by decide +kernel
theorem dX1_howMany_35 : decode cX1_howMany 35 = .ok (.iload 5, 2) := by decide +kernel
theorem dX1_howMany_37 : decode cX1_howMany 37 = .ok (.invokestatic 36, 3) := by decide +kernel
theorem dX1_howMany_40 : decode cX1_howMany 40 = .ok (.iload_n 1, 1) := by decide +kernel
theorem dX1_howMany_41 : decode cX1_howMany 41 = .ok (.if_icmp .ne 21, 3) := by decide +kernel
theorem dX1_howMany_44 : decode cX1_howMany 44 = .ok (.aload_n 0, 1) := by decide +kernel
theorem dX1_howMany_45 : decode cX1_howMany 45 = .ok (.iload 4, 2) := by decide +kernel
theorem dX1_howMany_47 : decode cX1_howMany 47 = .ok (.iload 5, 2) := by decide +kernel
theorem dX1_howMany_49 : decode cX1_howMany 49 = .ok (.invokevirtual 62, 3) := by decide +kernel
theorem dX1_howMany_52 : decode cX1_howMany 52 = .ok (.invokestatic 69, 3) := by decide +kernel
theorem dX1_howMany_55 : decode cX1_howMany 55 = .ok (.iload_n 2, 1) := by decide +kernel
theorem dX1_howMany_56 : decode cX1_howMany 56 = .ok (.if_icmp .ne 6, 3) := by decide +kernel
theorem dX1_howMany_59 : decode cX1_howMany 59 = .ok (.iinc 3 1, 3) := by decide +kernel
theorem dX1_howMany_62 : decode cX1_howMany 62 = .ok (.iinc 5 1, 3) := by decide +kernel
theorem dX1_howMany_65 : decode cX1_howMany 65 = .ok (.goto (-48), 3) := by decide +kernel
theorem dX1_howMany_68 : decode cX1_howMany 68 = .ok (.iinc 4 1, 3) := by decide +kernel
theorem dX1_howMany_71 : decode cX1_howMany 71 = .ok (.goto (-66), 3) := by decide +kernel
theorem dX1_howMany_74 : decode cX1_howMany 74 = .ok (.iload_n 3, 1) := by decide +kernel
theorem dX1_howMany_75 : decode cX1_howMany 75 = .ok (.ireturn, 1) := by decide +kernel
theorem dX1_sortOf_0 : decode cX1_sortOf 0 = .ok (.iload_n 0, 1) := by decide +kernel
theorem dX1_sortOf_1 : decode cX1_sortOf 1 = .ok (.invokestatic 46, 3) := by decide +kernel
theorem dX1_sortOf_4 : decode cX1_sortOf 4 = .ok (.ifCond .eq 5, 3) := by decide +kernel
theorem dX1_sortOf_7 : decode cX1_sortOf 7 = .ok (.iconst 2, 1) := by decide +kernel
theorem dX1_sortOf_8 : decode cX1_sortOf 8 = .ok (.ireturn, 1) := by decide +kernel
theorem dX1_sortOf_9 : decode cX1_sortOf 9 = .ok (.iload_n 0, 1) := by decide +kernel
theorem dX1_sortOf_10 : decode cX1_sortOf 10 = .ok (.ifCond .ne 7, 3) := by decide +kernel
theorem dX1_sortOf_13 : decode cX1_sortOf 13 = .ok (.iconst 0, 1) := by decide +kernel
theorem dX1_sortOf_14 : decode cX1_sortOf 14 = .ok (.goto 4, 3) := by decide +kernel
theorem dX1_sortOf_17 : decode cX1_sortOf 17 = .ok (.iconst 1, 1) := by decide +kernel
theorem dX1_sortOf_18 : decode cX1_sortOf 18 = .ok (.ireturn, 1) := by decide +kernel
theorem dX1_howManyNotNought_0 : decode cX1_howManyNotNought 0 = .ok (.iconst 0, 1) := by decide +kernel
theorem dX1_howManyNotNought_1 : decode cX1_howManyNotNought 1 = .ok (.istore_n 1, 1) := by decide +kernel
theorem dX1_howManyNotNought_2 : decode cX1_howManyNotNought 2 = .ok (.iconst 1, 1) := by decide +kernel
theorem dX1_howManyNotNought_3 : decode cX1_howManyNotNought 3 = .ok (.istore_n 2, 1) := by decide +kernel
theorem dX1_howManyNotNought_4 : decode cX1_howManyNotNought 4 = .ok (.iload_n 2, 1) := by decide +kernel
theorem dX1_howManyNotNought_5 : decode cX1_howManyNotNought 5 = .ok (.aload_n 0, 1) := by decide +kernel
theorem dX1_howManyNotNought_6 : decode cX1_howManyNotNought 6 = .ok (.getfield 21, 3) := by decide +kernel
theorem dX1_howManyNotNought_9 : decode cX1_howManyNotNought 9 = .ok (.if_icmp .ge 37, 3) := by decide +kernel
theorem dX1_howManyNotNought_12 : decode cX1_howManyNotNought 12 = .ok (.iconst 1, 1) := by decide +kernel
theorem dX1_howManyNotNought_13 : decode cX1_howManyNotNought 13 = .ok (.istore_n 3, 1) := by decide +kernel
theorem dX1_howManyNotNought_14 : decode cX1_howManyNotNought 14 = .ok (.iload_n 3, 1) := by decide +kernel
theorem dX1_howManyNotNought_15 : decode cX1_howManyNotNought 15 = .ok (.aload_n 0, 1) := by decide +kernel
theorem dX1_howManyNotNought_16 : decode cX1_howManyNotNought 16 = .ok (.getfield 27, 3) := by decide +kernel
theorem dX1_howManyNotNought_19 : decode cX1_howManyNotNought 19 = .ok (.if_icmp .ge 21, 3) := by decide +kernel
theorem dX1_howManyNotNought_22 : decode cX1_howManyNotNought 22 = .ok (.aload_n 0, 1) := by decide +kernel
theorem dX1_howManyNotNought_23 : decode cX1_howManyNotNought 23 = .ok (.iload_n 2, 1) := by decide +kernel
theorem dX1_howManyNotNought_24 : decode cX1_howManyNotNought 24 = .ok (.iload_n 3, 1) := by decide +kernel
theorem dX1_howManyNotNought_25 : decode cX1_howManyNotNought 25 = .ok (.invokevirtual 62, 3) := by decide +kernel
theorem dX1_howManyNotNought_28 : decode cX1_howManyNotNought 28 = .ok (.ifCond .eq 6, 3) := by decide +kernel
theorem dX1_howManyNotNought_31 : decode cX1_howManyNotNought 31 = .ok (.iinc 1 1, 3) := by decide +kernel
theorem dX1_howManyNotNought_34 : decode cX1_howManyNotNought 34 = .ok (.iinc 3 1, 3) := by decide +kernel
theorem dX1_howManyNotNought_37 : decode cX1_howManyNotNought 37 = .ok (.goto (-23), 3) := by decide +kernel
theorem dX1_howManyNotNought_40 : decode cX1_howManyNotNought 40 = .ok (.iinc 2 1, 3) := by decide +kernel
theorem dX1_howManyNotNought_43 : decode cX1_howManyNotNought 43 = .ok (.goto (-39), 3) := by decide +kernel
theorem dX1_howManyNotNought_46 : decode cX1_howManyNotNought 46 = .ok (.iload_n 1, 1) := by decide +kernel
theorem dX1_howManyNotNought_47 : decode cX1_howManyNotNought 47 = .ok (.ireturn, 1) := by decide +kernel
theorem dX1_largestNotNought_0 : decode cX1_largestNotNought 0 = .ok (.iconst 0, 1) := by decide +kernel
theorem dX1_largestNotNought_1 : decode cX1_largestNotNought 1 = .ok (.istore_n 2, 1) := by decide +kernel
theorem dX1_largestNotNought_2 : decode cX1_largestNotNought 2 = .ok (.iconst 1, 1) := by decide +kernel
theorem dX1_largestNotNought_3 : decode cX1_largestNotNought 3 = .ok (.istore_n 3, 1) := by decide +kernel
theorem dX1_largestNotNought_4 : decode cX1_largestNotNought 4 = .ok (.iload_n 3, 1) := by decide +kernel
theorem dX1_largestNotNought_5 : decode cX1_largestNotNought 5 = .ok (.aload_n 0, 1) := by decide +kernel
theorem dX1_largestNotNought_6 : decode cX1_largestNotNought 6 = .ok (.getfield 21, 3) := by decide +kernel
theorem dX1_largestNotNought_9 : decode cX1_largestNotNought 9 = .ok (.if_icmp .ge 81, 3) := by decide +kernel
theorem dX1_largestNotNought_12 : decode cX1_largestNotNought 12 = .ok (.iconst 1, 1) := by decide +kernel
theorem dX1_largestNotNought_13 : decode cX1_largestNotNought 13 = .ok (.istore 4, 2) := by decide +kernel
theorem dX1_largestNotNought_15 : decode cX1_largestNotNought 15 = .ok (.iload 4, 2) := by decide +kernel
theorem dX1_largestNotNought_17 : decode cX1_largestNotNought 17 = .ok (.aload_n 0, 1) := by decide +kernel
theorem dX1_largestNotNought_18 : decode cX1_largestNotNought 18 = .ok (.getfield 27, 3) := by decide +kernel
theorem dX1_largestNotNought_21 : decode cX1_largestNotNought 21 = .ok (.if_icmp .ge 63, 3) := by decide +kernel
theorem dX1_largestNotNought_24 : decode cX1_largestNotNought 24 = .ok (.aload_n 0, 1) := by decide +kernel
theorem dX1_largestNotNought_25 : decode cX1_largestNotNought 25 = .ok (.iload_n 3, 1) := by decide +kernel
theorem dX1_largestNotNought_26 : decode cX1_largestNotNought 26 = .ok (.iload 4, 2) := by decide +kernel
theorem dX1_largestNotNought_28 : decode cX1_largestNotNought 28 = .ok (.invokevirtual 62, 3) := by decide +kernel
theorem dX1_largestNotNought_31 : decode cX1_largestNotNought 31 = .ok (.istore 5, 2) := by decide +kernel
theorem dX1_largestNotNought_33 : decode cX1_largestNotNought 33 = .ok (.iload_n 1, 1) := by decide +kernel
theorem dX1_largestNotNought_34 : decode cX1_largestNotNought 34 = .ok (.ifCond .ne 16, 3) := by decide +kernel
theorem dX1_largestNotNought_37 : decode cX1_largestNotNought 37 = .ok (.iload 5, 2) := by decide +kernel
theorem dX1_largestNotNought_39 : decode cX1_largestNotNought 39 = .ok (.ifCond .ne 7, 3) := by decide +kernel
theorem dX1_largestNotNought_42 : decode cX1_largestNotNought 42 = .ok (.iconst 1, 1) := by decide +kernel
theorem dX1_largestNotNought_43 : decode cX1_largestNotNought 43 = .ok (.goto 19, 3) := by decide +kernel
theorem dX1_largestNotNought_46 : decode cX1_largestNotNought 46 = .ok (.iconst 0, 1) := by decide +kernel
theorem dX1_largestNotNought_47 : decode cX1_largestNotNought 47 = .ok (.goto 15, 3) := by decide +kernel
theorem dX1_largestNotNought_50 : decode cX1_largestNotNought 50 = .ok (.iload 5, 2) := by decide +kernel
theorem dX1_largestNotNought_52 : decode cX1_largestNotNought 52 = .ok (.iload_n 1, 1) := by decide +kernel
theorem dX1_largestNotNought_53 : decode cX1_largestNotNought 53 = .ok (.irem, 1) := by decide +kernel
theorem dX1_largestNotNought_54 : decode cX1_largestNotNought 54 = .ok (.ifCond .ne 7, 3) := by decide +kernel
theorem dX1_largestNotNought_57 : decode cX1_largestNotNought 57 = .ok (.iconst 1, 1) := by decide +kernel
theorem dX1_largestNotNought_58 : decode cX1_largestNotNought 58 = .ok (.goto 4, 3) := by decide +kernel
theorem dX1_largestNotNought_61 : decode cX1_largestNotNought 61 = .ok (.iconst 0, 1) := by decide +kernel
theorem dX1_largestNotNought_62 : decode cX1_largestNotNought 62 = .ok (.istore 6, 2) := by decide +kernel
theorem dX1_largestNotNought_64 : decode cX1_largestNotNought 64 = .ok (.iload 6, 2) := by decide +kernel
theorem dX1_largestNotNought_66 : decode cX1_largestNotNought 66 = .ok (.ifCond .ne 12, 3) := by decide +kernel
theorem dX1_largestNotNought_69 : decode cX1_largestNotNought 69 = .ok (.iload_n 2, 1) := by decide +kernel
theorem dX1_largestNotNought_70 : decode cX1_largestNotNought 70 = .ok (.iload_n 3, 1) := by decide +kernel
theorem dX1_largestNotNought_71 : decode cX1_largestNotNought 71 = .ok (.invokestatic 36, 3) := by decide +kernel
theorem dX1_largestNotNought_74 : decode cX1_largestNotNought 74 = .ok (.invokestatic 72, 3) := by decide +kernel
theorem dX1_largestNotNought_77 : decode cX1_largestNotNought 77 = .ok (.istore_n 2, 1) := by decide +kernel
theorem dX1_largestNotNought_78 : decode cX1_largestNotNought 78 = .ok (.iinc 4 1, 3) := by decide +kernel
theorem dX1_largestNotNought_81 : decode cX1_largestNotNought 81 = .ok (.goto (-66), 3) := by decide +kernel
theorem dX1_largestNotNought_84 : decode cX1_largestNotNought 84 = .ok (.iinc 3 1, 3) := by decide +kernel
theorem dX1_largestNotNought_87 : decode cX1_largestNotNought 87 = .ok (.goto (-83), 3) := by decide +kernel
theorem dX1_largestNotNought_90 : decode cX1_largestNotNought 90 = .ok (.iload_n 2, 1) := by decide +kernel
theorem dX1_largestNotNought_91 : decode cX1_largestNotNought 91 = .ok (.ireturn, 1) := by decide +kernel
theorem dX10_knownMinors_0 : decode cX10_knownMinors 0 = .ok (.aload_n 0, 1) := by decide +kernel
theorem dX10_knownMinors_1 : decode cX10_knownMinors 1 = .ok (.getfield 56, 3) := by decide +kernel
theorem dX10_knownMinors_4 : decode cX10_knownMinors 4 = .ok (.getfield 339, 3) := by decide +kernel
theorem dX10_knownMinors_7 : decode cX10_knownMinors 7 = .ok (.ifCond .ne 22, 3) := by decide +kernel
theorem dX10_knownMinors_10 : decode cX10_knownMinors 10 = .ok (.aload_n 0, 1) := by decide +kernel
theorem dX10_knownMinors_11 : decode cX10_knownMinors 11 = .ok (.getfield 56, 3) := by decide +kernel
theorem dX10_knownMinors_14 : decode cX10_knownMinors 14 = .ok (.aload_n 0, 1) := by decide +kernel
theorem dX10_knownMinors_15 : decode cX10_knownMinors 15 = .ok (.getfield 19, 3) := by decide +kernel
theorem dX10_knownMinors_18 : decode cX10_knownMinors 18 = .ok (.invokevirtual 344, 3) := by decide +kernel
theorem dX10_knownMinors_21 : decode cX10_knownMinors 21 = .ok (.aload_n 0, 1) := by decide +kernel
theorem dX10_knownMinors_22 : decode cX10_knownMinors 22 = .ok (.getfield 56, 3) := by decide +kernel
theorem dX10_knownMinors_25 : decode cX10_knownMinors 25 = .ok (.iconst 1, 1) := by decide +kernel
theorem dX10_knownMinors_26 : decode cX10_knownMinors 26 = .ok (.putfield 339, 3) := by decide +kernel
theorem dX10_knownMinors_29 : decode cX10_knownMinors 29 = .ok (.aload_n 0, 1) := by decide +kernel
theorem dX10_knownMinors_30 : decode cX10_knownMinors 30 = .ok (.getfield 56, 3) := by decide +kernel
theorem dX10_knownMinors_33 : decode cX10_knownMinors 33 = .ok (.areturn, 1) := by decide +kernel
theorem dX10_isTotal_0 : decode cX10_isTotal 0 = .ok (.aload_n 0, 1) := by decide +kernel
theorem dX10_isTotal_1 : decode cX10_isTotal 1 = .ok (.getfield 56, 3) := by decide +kernel
theorem dX10_isTotal_4 : decode cX10_isTotal 4 = .ok (.aload_n 1, 1) := by decide +kernel
theorem dX10_isTotal_5 : decode cX10_isTotal 5 = .ok (.invokevirtual 344, 3) := by decide +kernel
theorem dX10_isTotal_8 : decode cX10_isTotal 8 = .ok (.aload_n 0, 1) := by decide +kernel
theorem dX10_isTotal_9 : decode cX10_isTotal 9 = .ok (.getfield 56, 3) := by decide +kernel
theorem dX10_isTotal_12 : decode cX10_isTotal 12 = .ok (.iconst 0, 1) := by decide +kernel
theorem dX10_isTotal_13 : decode cX10_isTotal 13 = .ok (.putfield 339, 3) := by decide +kernel
theorem dX10_isTotal_16 : decode cX10_isTotal 16 = .ok (.aload_n 0, 1) := by decide +kernel
theorem dX10_isTotal_17 : decode cX10_isTotal 17 = .ok (.getfield 56, 3) := by decide +kernel
theorem dX10_isTotal_20 : decode cX10_isTotal 20 = .ok (.invokevirtual 200, 3) := by decide +kernel
theorem dX10_isTotal_23 : decode cX10_isTotal 23 = .ok (.ireturn, 1) := by decide +kernel
theorem n64b (r c : Nat) : nI r * (64 : Int32) + nI c = nI (64 * r + c) := by rw [Int32.mul_comm, n64]
theorem c_of (σ : sg) (x : aW) (R C : Nat) (hR0 : R < 64) (hC0 : C < 64) : Mt mX1_of 0 0 0 [.ref i_minors, .int (nI R), .int (nI C)] (wd σ x) (QI (σ.2.2 i_cdets (64 * R + C)) (wd σ x)) := by
  refine Mt.of MI_X1_of (Nat.le_of_ble_eq_true rfl) (fun X hC hR hT => ?_)
  refine R_iload_n (i := 1) hC dX1_of_0 rfl rfl ?_
  refine R_if_lt hC 20 dX1_of_1 (by decide) (fun h => absurd h (nI_pos (by omega))) (fun _ => ?_)
  refine R_iload_n (i := 1) hC dX1_of_4 rfl rfl (R_bipush (v := 64) hC dX1_of_5 (by decide) ?_)
  refine R_icmp_ge hC 20 dX1_of_7 (by decide) (fun h => absurd h (nI_ge (b := 64) hR0 (by decide))) (fun _ => ?_)
  refine R_iload_n (i := 2) hC dX1_of_10 rfl rfl ?_
  refine R_if_lt hC 20 dX1_of_11 (by decide) (fun h => absurd h (nI_pos (by omega))) (fun _ => ?_)
  refine R_iload_n (i := 2) hC dX1_of_14 rfl rfl (R_bipush (v := 64) hC dX1_of_15 (by decide) ?_)
  refine R_icmp_lt hC 22 dX1_of_17 (by decide) (fun _ => ?_) (fun h => absurd (nI_lt (b := 64) hC0 (by decide)) h)
  refine R_aload_n (i := 0) hC dX1_of_22 rfl rfl (R_gR hC dX1_of_23 fl_X1_9 L_minors rfl (R_iload_n (i := 1) hC dX1_of_26 rfl rfl (R_bipush (v := 64) hC dX1_of_27 (by decide) (R_imul hC dX1_of_29 (R_iload_n (i := 2) hC dX1_of_30 rfl rfl (R_iadd hC dX1_of_31 (R_aI hC dX1_of_32 L_cdets (64 * R + C) (n64b R C) (by omega) (by decide) ?_)))))))
  exact R_iret hC hT dX1_of_33 rfl ⟨rfl, rfl⟩
theorem low_ex : ∀ R, R < 64 → 1 ≤ R → ∃ l, l < 6 ∧ R.testBit l = true ∧ pcn R l = 0 ∧ nI R &&& (nI R - 1) = nI (clr R l) ∧ (nI R ^^^ nI (clr R l)) - 1 = nI (2 ^ l - 1) ∧ pc6 (2 ^ l - 1) = l ∧ 2 ^ l - 1 < 64 := by decide +kernel
theorem xor_clr : ∀ C, C < 64 → ∀ c, c < 6 → C.testBit c = true → nI C ^^^ nI (2 ^ c) = nI (clr C c) := by decide +kernel
def sg1 (n : Nat) : Int32 := if n % 2 = 0 then 1 else -1
theorem sg1_mul (n : Nat) (v M : Int32) : sg1 n * v * M = sgn n (v * M) := by
  unfold sg1 sgn
  split
  · rw [Int32.one_mul]
  · rw [Int32.neg_mul, Int32.neg_mul, Int32.one_mul]
theorem sg1_s (n : Nat) : -(sg1 n) = sg1 (n + 1) := by
  unfold sg1
  rcases (by omega : (n % 2 = 0 ∧ ¬ (n + 1) % 2 = 0) ∨ (¬ n % 2 = 0 ∧ (n + 1) % 2 = 0)) with ⟨h1, h2⟩ | ⟨h1, h2⟩
  · rw [if_pos h1, if_neg h2]
  · rw [if_neg h1, if_pos h2]; decide
theorem c_expanded {σ : sg} {x : aW} {b : Nat} {T : tb} (hB : TL b) (h : CT σ b T) {R C : Nat} (hR1 : 1 ≤ R) (hR2 : R < 2 ^ T.1) (hC2 : C < 2 ^ T.2.1) (hpc : pc6 R = pc6 C) (hd : ∀ R' C', R' < R → C' < 2 ^ T.2.1 → pc6 R' = pc6 C' → σ.2.2 i_cdets (64 * R' + C') = dD T.2.2 R' C') : Mt mX1_expanded 1 0 0 [.ref i_minors, .ref b, .int (nI R), .int (nI C)] (wd σ x) (QI (dD T.2.2 R C) (wd σ x)) := by
  refine Mt.of MI_X1_expanded (Nat.le_of_ble_eq_true rfl) (fun X hC hR hT => ?_)
  obtain ⟨k1, k2, k3, k4, k5⟩ := id h
  have p1 := pw6 k3
  have p2 := pw6 k4
  have hR6 : R < 64 := by omega
  have hC6 : C < 64 := by omega
  obtain ⟨l, hl, hlb, hl0, e1, e2, e3, e4⟩ := low_ex R hR6 hR1
  have hlT : l < T.1 := by
    rcases Nat.lt_or_ge l T.1 with z | z
    · exact z
    · exact absurd hlb (bit_hi R hR6 T.1 k3 hR2 l hl z)
  have er : dD T.2.2 R C = sm (tmE T.2.2 R C l) T.2.1 := by
    rw [dD_row' _ hR6 hC6 hpc hl hlb]
    have := sm_cut (g := tmE T.2.2 R C l) (n := T.2.1) (6 - T.2.1) (fun c h1 h2 => by unfold tmE; rw [if_neg (bit_hi C hC6 T.2.1 k4 hC2 c (by omega) h1)])
    rwa [show T.2.1 + (6 - T.2.1) = 6 by omega] at this
  have loop : ∀ c, c ≤ T.2.1 → ∀ u9, Rw mX1_expanded X 27 [some (.ref i_minors), some (.ref b), some (.int (nI R)), some (.int (nI C)), some (.int (nI (clr R l))), some (.int (nI l)), some (.int (sm (tmE T.2.2 R C l) c)), some (.int (sg1 (pcn C c))), some (.int (nI c)), u9] [] (wd σ x) 0 0 := by
    refine up_loop T.2.1 ?_ ?_
    · intro u9
      refine R_iload hC dX1_expanded_27 rfl (R_aload_n (i := 1) hC dX1_expanded_29 rfl rfl (R_gI hC dX1_expanded_30 fl_X1_24 hB.1 rfl ?_))
      refine R_top (y := nI T.2.1) (k2) ?_
      refine R_icmp_ge hC 94 dX1_expanded_33 (by decide) (fun _ => ?_) (fun h => absurd (Int32.le_refl _) h)
      refine R_iload hC dX1_expanded_94 rfl ?_
      exact R_iret hC hT dX1_expanded_96 rfl ⟨by rw [er], rfl⟩
    · intro c hc ih u9
      by_cases hcb : C.testBit c = true
      · have e5 : pcn C (c + 1) = pcn C c + 1 := by rw [pcn, if_pos hcb]
        have e6 : sm (tmE T.2.2 R C l) (c + 1) = sm (tmE T.2.2 R C l) c + sgn (pcn C c) (T.2.2 l c * dD T.2.2 (clr R l) (clr C c)) := by rw [sm]; unfold tmE; rw [if_pos hcb, hl0, Nat.zero_add]
        rw [e5, e6] at ih
        have q1 := clr_lt R hR6 l hl hlb
        have q2 := clr_lt C hC6 c (by omega) hcb
        have q3 := clr_pc R hR6 l hl hlb
        have q4 := clr_pc C hC6 c (by omega) hcb
        have nx : ∀ v, v = sm (tmE T.2.2 R C l) c + sgn (pcn C c) (T.2.2 l c * dD T.2.2 (clr R l) (clr C c)) → ∀ u9, Rw mX1_expanded X 83 [some (.ref i_minors), some (.ref b), some (.int (nI R)), some (.int (nI C)), some (.int (nI (clr R l))), some (.int (nI l)), some (.int v), some (.int (sg1 (pcn C c))), some (.int (nI c)), u9] [] (wd σ x) 0 0 := by
          intro v hv u9
          refine R_iload hC dX1_expanded_83 rfl (R_ineg hC dX1_expanded_85 ?_)
          refine R_top (y := sg1 (pcn C c + 1)) (sg1_s _) ?_
          refine R_istore hC dX1_expanded_86 (by decide) rfl (R_iinc hC dX1_expanded_88 rfl (inc1 _) (by decide) rfl (R_goto hC 27 dX1_expanded_91 (by decide) ?_))
          (rw [hv]; exact ih _)
        refine R_iload hC dX1_expanded_27 rfl (R_aload_n (i := 1) hC dX1_expanded_29 rfl rfl (R_gI hC dX1_expanded_30 fl_X1_24 hB.1 rfl ?_))
        refine R_top (y := nI T.2.1) (k2) ?_
        refine R_icmp_ge hC 94 dX1_expanded_33 (by decide) (fun h => absurd h (nI_ge hc (by omega))) (fun _ => ?_)
        refine R_iload_n (i := 3) hC dX1_expanded_36 rfl rfl (R_iload hC dX1_expanded_37 rfl ?_)
        refine R_S2i hC hR dX1_expanded_39 MS_X10_isIn ml_X1_54 (c_isIn C c hC6 (by omega) _) (by first | decide | omega) ⟨by decide, by decide⟩ (Nat.le_of_ble_eq_true rfl) ?_
        refine R_top (y := 1) (if_pos hcb) ?_
        refine R_if_eq hC 88 dX1_expanded_42 (by decide) (fun h => absurd h (by decide)) (fun _ => ?_)
        refine R_aload_n (i := 1) hC dX1_expanded_45 rfl rfl (R_iload hC dX1_expanded_46 rfl (R_iload hC dX1_expanded_48 rfl ?_))
        refine R_V2i hC hR dX1_expanded_50 MV_X7_at ml_X1_58 hB.1 rfl (c_atN hB h hlT hc) (by first | decide | omega) ⟨by decide, by decide⟩ (Nat.le_of_ble_eq_true rfl) ?_
        refine R_istore hC dX1_expanded_53 (by decide) rfl (R_iload hC dX1_expanded_55 rfl ?_)
        refine R_if_eq hC 83 dX1_expanded_57 (by decide) (fun h57 => ?_) (fun h57 => ?_)
        · first | exact nx _ (by rw [h57, Int32.zero_mul, sgn_0, Int32.add_zero]) _ | exact nx _ (by rw [sg1_mul]) _
        · refine R_iload hC dX1_expanded_60 rfl (R_iload hC dX1_expanded_62 rfl (R_iload hC dX1_expanded_64 rfl (R_imul hC dX1_expanded_66 (R_aload_n (i := 0) hC dX1_expanded_67 rfl rfl (R_iload hC dX1_expanded_68 rfl (R_iload_n (i := 3) hC dX1_expanded_70 rfl rfl (R_iconst (v := 1) hC dX1_expanded_71 (by decide) ?_)))))))
          refine R_iload hC dX1_expanded_72 rfl (R_ishl hC dX1_expanded_74 ?_)
          refine R_top (y := nI (2 ^ c)) (shl1 c (by omega)) ?_
          refine R_ixor hC dX1_expanded_75 ?_
          refine R_top (y := nI (clr C c)) (xor_clr C hC6 c (by omega) hcb) ?_
          refine R_V2i hC hR dX1_expanded_76 MV_X1_of ml_X1_62 L_minors rfl (c_of σ x (clr R l) (clr C c) (by omega) (by omega)) (by first | decide | omega) ⟨by decide, by decide⟩ (Nat.le_of_ble_eq_true rfl) ?_
          refine R_top (y := dD T.2.2 (clr R l) (clr C c)) (hd _ _ q1 (by omega) (by omega)) ?_
          refine R_imul hC dX1_expanded_79 (R_iadd hC dX1_expanded_80 (R_istore hC dX1_expanded_81 (by decide) rfl ?_))
          first | exact nx _ (by rw [h57, Int32.zero_mul, sgn_0, Int32.add_zero]) _ | exact nx _ (by rw [sg1_mul]) _
      · have e5 : pcn C (c + 1) = pcn C c := by rw [pcn, if_neg hcb]; rfl
        have e6 : sm (tmE T.2.2 R C l) (c + 1) = sm (tmE T.2.2 R C l) c := by rw [sm]; unfold tmE; rw [if_neg hcb, Int32.add_zero]
        rw [e5, e6] at ih
        refine R_iload hC dX1_expanded_27 rfl (R_aload_n (i := 1) hC dX1_expanded_29 rfl rfl (R_gI hC dX1_expanded_30 fl_X1_24 hB.1 rfl ?_))
        refine R_top (y := nI T.2.1) (k2) ?_
        refine R_icmp_ge hC 94 dX1_expanded_33 (by decide) (fun h => absurd h (nI_ge hc (by omega))) (fun _ => ?_)
        refine R_iload_n (i := 3) hC dX1_expanded_36 rfl rfl (R_iload hC dX1_expanded_37 rfl ?_)
        refine R_S2i hC hR dX1_expanded_39 MS_X10_isIn ml_X1_54 (c_isIn C c hC6 (by omega) _) (by first | decide | omega) ⟨by decide, by decide⟩ (Nat.le_of_ble_eq_true rfl) ?_
        refine R_top (y := 0) (if_neg hcb) ?_
        refine R_if_eq hC 88 dX1_expanded_42 (by decide) (fun _ => ?_) (fun h => absurd rfl h)
        refine R_iinc hC dX1_expanded_88 rfl (inc1 _) (by decide) rfl (R_goto hC 27 dX1_expanded_91 (by decide) ?_)
        exact ih _
  refine R_iload_n (i := 2) hC dX1_expanded_0 rfl rfl (R_iload_n (i := 2) hC dX1_expanded_1 rfl rfl (R_iconst (v := 1) hC dX1_expanded_2 (by decide) (R_isub hC dX1_expanded_3 (R_iand hC dX1_expanded_4 ?_))))
  refine R_top (y := nI (clr R l)) (e1) ?_
  refine R_istore hC dX1_expanded_5 (by decide) rfl (R_iload_n (i := 2) hC dX1_expanded_7 rfl rfl (R_iload hC dX1_expanded_8 rfl (R_ixor hC dX1_expanded_10 (R_iconst (v := 1) hC dX1_expanded_11 (by decide) (R_isub hC dX1_expanded_12 ?_)))))
  refine R_top (y := nI (2 ^ l - 1)) (e2) ?_
  refine R_S1i hC hR dX1_expanded_13 MS_J6_bitCount_0f7a4 ml_X1_36 (c_bit (2 ^ l - 1) e4 _) (by first | decide | omega) ⟨by decide, by decide⟩ (Nat.le_of_ble_eq_true rfl) ?_
  refine R_top (y := nI l) (by rw [e3]) ?_
  refine R_istore hC dX1_expanded_16 (by decide) rfl (R_iconst (v := 0) hC dX1_expanded_18 (by decide) (R_istore hC dX1_expanded_19 (by decide) rfl (R_iconst (v := 1) hC dX1_expanded_21 (by decide) (R_istore hC dX1_expanded_22 (by decide) rfl (R_iconst (v := 0) hC dX1_expanded_24 (by decide) (R_istore hC dX1_expanded_25 (by decide) rfl ?_))))))
  exact loop 0 (Nat.zero_le _) _
/-- squares ahead of (n, m) -/
def pss (n m R C : Nat) : Prop := R < n ∨ (R = n ∧ C < m)
/-- the witness of those seen up to now -/
def WS (σ : sg) (T : tb) (n m : Nat) : Prop := (σ.1 i_minors 3 = 0 ∧ ∀ R C, pss n m R C → ¬ bey T R C) ∨ ∃ p : Nat × Nat, σ.1 i_minors 3 = nI p.1 ∧ σ.1 i_minors 4 = nI p.2 ∧ bey T p.1 p.2 ∧ pss n m p.1 p.2 ∧ ∀ R C, pss n m R C → bey T R C → lx p.1 p.2 R C
/-- what reckon holds at (n, m) -/
def RK (σ τ : sg) (T : tb) (n m : Nat) : Prop := AE [112, 113] σ τ ∧ τ.1 i_minors 1 = nI (2 ^ T.1) ∧ τ.1 i_minors 2 = nI (2 ^ T.2.1) ∧ τ.1 i_minors 5 = σ.1 i_minors 5 ∧ KD τ ∧ (∀ R C, pss n m R C → R < 2 ^ T.1 → C < 2 ^ T.2.1 → pc6 R = pc6 C → τ.2.2 i_cdets (64 * R + C) = dD T.2.2 R C) ∧ WS τ T n m
theorem RK.skip {σ τ : sg} {T : tb} {n m : Nat} (h : RK σ τ T n m) (hp : ¬ pc6 n = pc6 m) : RK σ τ T n (m + 1) := by
  obtain ⟨a, b, c, d, e, f, g⟩ := h
  have lem : ∀ R C, pss n (m + 1) R C → pss n m R C ∨ (R = n ∧ C = m) := fun R C z => by unfold pss at *; omega
  refine ⟨a, b, c, d, e, fun R C z hR hC hpc => ?_, ?_⟩
  · rcases lem R C z with y | ⟨rfl, rfl⟩
    · exact f R C y hR hC hpc
    · exact absurd hpc hp
  · rcases g with ⟨g1, g2⟩ | ⟨p, g1, g2, g3, g4, g5⟩
    · refine Or.inl ⟨g1, fun R C z y => ?_⟩
      rcases lem R C z with u | ⟨rfl, rfl⟩
      · exact g2 R C u y
      · exact hp y.1.2.2.2.2
    · refine Or.inr ⟨p, g1, g2, g3, by unfold pss at *; omega, fun R C z y => ?_⟩
      rcases lem R C z with u | ⟨rfl, rfl⟩
      · exact g5 R C u y
      · exact absurd y.1.2.2.2.2 hp
theorem RK.row {σ τ : sg} {T : tb} {n : Nat} (h6 : T.1 ≤ 6) (h : RK σ τ T n (2 ^ T.2.1)) : RK σ τ T (n + 1) 1 := by
  obtain ⟨a, b, c, d, e, f, g⟩ := h
  have p0 : pc6 0 = 0 := by decide
  have p1 := pw6 h6
  refine ⟨a, b, c, d, e, fun R C z hR hC hpc => ?_, ?_⟩
  · unfold pss at z
    rcases (by omega : (R < n ∨ R = n) ∨ (R = n + 1 ∧ C = 0)) with y | ⟨y, rfl⟩
    · exact f R C (by unfold pss; omega) hR hC hpc
    · have := pc6_0 R (by omega) (by omega); omega
  · have lem : ∀ R C, pss (n + 1) 1 R C → bey T R C → pss n (2 ^ T.2.1) R C := fun R C z y => by
      have := y.1.2.2.1; have := y.1.2.2.2.1; unfold pss at *; omega
    rcases g with ⟨g1, g2⟩ | ⟨p, g1, g2, g3, g4, g5⟩
    · exact Or.inl ⟨g1, fun R C z y => g2 R C (lem R C z y) y⟩
    · exact Or.inr ⟨p, g1, g2, g3, by unfold pss at *; omega, fun R C z y => g5 R C (lem R C z y) y⟩
theorem RK.end {σ τ : sg} {T : tb} (h : RK σ τ T (2 ^ T.1) 1) : CKm τ T := by
  obtain ⟨a, b, c, d, e, f, g⟩ := h
  refine ⟨b, c, fun R C hR hC hpc => f R C (Or.inl hR) hR hC hpc, ?_⟩
  have lem : ∀ R C, bey T R C → pss (2 ^ T.1) 1 R C := fun R C y => Or.inl y.1.2.1
  rcases g with ⟨g1, g2⟩ | ⟨p, g1, g2, g3, g4, g5⟩
  · exact Or.inl ⟨fun R C z => Classical.byContradiction fun y => g2 R C (Or.inl z.2.1) ⟨z, y⟩, g1⟩
  · exact Or.inr ⟨p, ⟨g3, fun R C y => g5 R C (lem R C y) y⟩, g1, g2⟩
theorem c_note {σ : sg} {x : aW} {T : tb} {n m : Nat} (h6 : T.1 ≤ 6) (hn : n < 2 ^ T.1) (hb : bey T n m) (g : WS σ T n m) : Mt mX1_noteBeyond 1 0 0 [.ref i_minors, .int (nI n), .int (nI m)] (wd σ x) (fun r w => r = none ∧ ∃ τ, w = wd τ x ∧ (τ = σ ∨ ∃ a b, τ = sG (sG σ i_minors 3 a) i_minors 4 b) ∧ WS τ T n (m + 1)) := by
  refine Mt.of MI_X1_noteBeyond (Nat.le_of_ble_eq_true rfl) (fun X hC hR hT => ?_)
  have p1 := pw6 h6
  have lem : ∀ R C, pss n (m + 1) R C → pss n m R C ∨ (R = n ∧ C = m) := fun R C z => by unfold pss at *; omega
  have rfx : lx n m n m := Or.inr ⟨rfl, Or.inr ⟨rfl, Nat.le_refl _⟩⟩
  have put : (∀ R C, pss n m R C → bey T R C → lx n m R C) → Rw mX1_noteBeyond X 21 [some (.ref i_minors), some (.int (nI n)), some (.int (nI m))] [] (wd σ x) 0 0 := by
    intro hl
    refine R_aload_n (i := 0) hC dX1_noteBeyond_21 rfl rfl (R_iload_n (i := 1) hC dX1_noteBeyond_22 rfl rfl (R_pI hC dX1_noteBeyond_23 fl_X1_30 L_minors rfl (R_aload_n (i := 0) hC dX1_noteBeyond_26 rfl rfl (R_iload_n (i := 2) hC dX1_noteBeyond_27 rfl rfl (R_pI hC dX1_noteBeyond_28 fl_X1_33 L_minors rfl ?_)))))
    exact R_vret hC hT dX1_noteBeyond_31 rfl ⟨rfl, _, rfl, Or.inr ⟨_, _, rfl⟩, Or.inr ⟨(n, m), (sG_nk (by decide)).trans (sG_eq _ _ _ _), sG_eq _ _ _ _, hb, Or.inr ⟨rfl, Nat.lt_succ_self _⟩, fun R C z y => by
      rcases lem R C z with u | ⟨rfl, rfl⟩
      · exact hl R C u y
      · exact rfx⟩⟩
  rcases g with ⟨g1, g2⟩ | ⟨p, g1, g2, g3, g4, g5⟩
  · refine R_aload_n (i := 0) hC dX1_noteBeyond_0 rfl rfl (R_gI hC dX1_noteBeyond_1 fl_X1_30 L_minors rfl ?_)
    refine R_top (y := 0) (g1) ?_
    refine R_if_eq hC 21 dX1_noteBeyond_4 (by decide) (fun _ => ?_) (fun h => absurd rfl h)
    exact put (fun R C z y => absurd y (g2 R C z))
  · have hp1 : p.1 < 64 := by have := g3.1.2.1; omega
    have em := nI_ltI (a := pc6 n) (b := pc6 p.1) (by have := pc6_le n (by omega); omega) (by have := pc6_le p.1 hp1; omega)
    have em2 := nI_leI (a := pc6 p.1) (b := pc6 n) (by have := pc6_le p.1 hp1; omega) (by have := pc6_le n (by omega); omega)
    refine R_aload_n (i := 0) hC dX1_noteBeyond_0 rfl rfl (R_gI hC dX1_noteBeyond_1 fl_X1_30 L_minors rfl ?_)
    refine R_top (y := nI p.1) (g1) ?_
    refine R_if_eq hC 21 dX1_noteBeyond_4 (by decide) (fun h => absurd h (nI_ne0 (by have := g3.1.1; omega) (by omega))) (fun _ => ?_)
    refine R_iload_n (i := 1) hC dX1_noteBeyond_7 rfl rfl ?_
    refine R_S1i hC hR dX1_noteBeyond_8 MS_J6_bitCount_0f7a4 ml_X1_36 (c_bit n (by omega) _) (by first | decide | omega) ⟨by decide, by decide⟩ (Nat.le_of_ble_eq_true rfl) ?_
    refine R_aload_n (i := 0) hC dX1_noteBeyond_11 rfl rfl (R_gI hC dX1_noteBeyond_12 fl_X1_30 L_minors rfl ?_)
    refine R_top (y := nI p.1) (g1) ?_
    refine R_S1i hC hR dX1_noteBeyond_15 MS_J6_bitCount_0f7a4 ml_X1_36 (c_bit p.1 hp1 _) (by first | decide | omega) ⟨by decide, by decide⟩ (Nat.le_of_ble_eq_true rfl) ?_
    refine R_icmp_ge hC 31 dX1_noteBeyond_18 (by decide) (fun h18 => ?_) (fun h18 => ?_)
    · exact R_vret hC hT dX1_noteBeyond_31 rfl ⟨rfl, _, rfl, Or.inl rfl, Or.inr ⟨p, g1, g2, g3, by unfold pss at *; omega, fun R C z y => by
        have le := em2.mp h18
        rcases lem R C z with u | ⟨rfl, rfl⟩
        · exact g5 R C u y
        · unfold pss at g4; unfold lx; omega⟩⟩
    · exact put (fun R C z y => by
        have q := g5 R C z y
        have lt : pc6 n < pc6 p.1 := by have := mt em2.mpr h18; omega
        unfold lx at *; omega)
theorem RK.put {σ τ υ : sg} {T : tb} {n m : Nat} {g : Nat → Int32} (h : RK σ τ T n m) (hn : n < 64) (hm : m < 64) (hc6 : T.2.1 ≤ 6) (hpc : pc6 n = pc6 m) (hg : g = upd (τ.2.2 i_cdets) (64 * n + m) (dD T.2.2 n m)) (hυ : υ = sA τ i_cdets g ∨ ∃ a b, υ = sG (sG (sA τ i_cdets g) i_minors 3 a) i_minors 4 b) (hw : WS υ T n (m + 1)) : RK σ υ T n (m + 1) := by
  obtain ⟨a, b, c, d, e, f, -⟩ := h
  have p2 := pw6 hc6
  have r1 : υ.1 i_minors 1 = τ.1 i_minors 1 ∧ υ.1 i_minors 2 = τ.1 i_minors 2 ∧ υ.1 i_minors 5 = τ.1 i_minors 5 ∧ υ.2.2 i_cdets = g ∧ AE [112, 113] τ υ := by
    rcases hυ with rfl | ⟨u, v, rfl⟩
    · exact ⟨rfl, rfl, rfl, sA_eq _ _ _, (AE.rf _ τ).a (by decide)⟩
    · exact ⟨(sG_nk (by decide)).trans (sG_nk (by decide)), (sG_nk (by decide)).trans (sG_nk (by decide)), (sG_nk (by decide)).trans (sG_nk (by decide)), (show (sA τ i_cdets g).2.2 i_cdets = g from sA_eq _ _ _), (((AE.rf _ τ).a (by decide)).g (by decide)).g (by decide)⟩
  obtain ⟨r1, r2, r3, r4, r5⟩ := r1
  refine ⟨a.tr r5, by rw [r1]; exact b, by rw [r2]; exact c, by rw [r3]; exact d, fun R C hR hC hp => ?_, fun R C z hR hC hp => ?_, hw⟩
  · rw [r4, hg]
    unfold upd
    rw [if_neg (fun z => hp (by have h1 : R = n := by omega
                                have h2 : C = m := by omega
                                rw [h1, h2]; exact hpc))]
    exact e R C hR hC hp
  · rw [r4, hg]
    unfold upd
    by_cases q : R = n ∧ C = m
    · rw [if_pos (by rw [q.1, q.2]), q.1, q.2]
    · rw [if_neg (by omega)]
      exact f R C (by unfold pss at *; omega) hR hC hp
/-- all determinants of the table at b -/
theorem c_reckon {σ : sg} {x : aW} {b : Nat} {T : tb} (hB : TL b) (hb1 : b ≠ 112 ∧ b ≠ 113 ∧ b + 1 ≠ 112 ∧ b + 1 ≠ 113) (h : CT σ b T) (hk : KD σ) : Mt mX1_reckon 2 0 0 [.ref i_minors, .ref b] (wd σ x) (fun r w => r = none ∧ ∃ τ, w = wd τ x ∧ AE [112, 113] σ τ ∧ CKm τ T ∧ KD τ ∧ τ.1 i_minors 5 = σ.1 i_minors 5) := by
  refine Mt.of MI_X1_reckon (Nat.le_of_ble_eq_true rfl) (fun X hC hR hT => ?_)
  obtain ⟨k1, k2, k3, k4, k5⟩ := id h
  have p1 := pw6 k3
  have p2 := pw6 k4
  have one1 : 1 ≤ 2 ^ T.1 := Nat.one_le_two_pow
  have one2 : 1 ≤ 2 ^ T.2.1 := Nat.one_le_two_pow
  have ct : ∀ τ, AE [112, 113] σ τ → CT τ b T := fun τ e => h.ae e (by simp; omega) (by simp; omega)
  have outer : ∀ n, n ≤ 2 ^ T.1 → 1 ≤ n → ∀ τ, RK σ τ T n 1 → ∀ u3 u4 u5, Rw mX1_reckon X 39 [some (.ref i_minors), some (.ref b), some (.int (nI n)), u3, u4, u5] [] (wd τ x) 0 0 := by
    refine up_loop (2 ^ T.1) ?_ ?_
    · intro _ τ hr u3 u4 u5
      refine R_iload_n (i := 2) hC dX1_reckon_39 rfl rfl (R_aload_n (i := 0) hC dX1_reckon_40 rfl rfl (R_gI hC dX1_reckon_41 fl_X1_21 L_minors rfl ?_))
      refine R_top (y := nI (2 ^ T.1)) (hr.2.1) ?_
      refine R_icmp_ge hC 124 dX1_reckon_44 (by decide) (fun _ => ?_) (fun h => absurd (Int32.le_refl _) h)
      exact R_vret hC hT dX1_reckon_124 rfl ⟨rfl, τ, rfl, hr.1, hr.end, hr.2.2.2.2.1, hr.2.2.2.1⟩
    · intro n hn ih n1 τ hr u3 u4 u5
      have inner : ∀ m, m ≤ 2 ^ T.2.1 → 1 ≤ m → ∀ τ, RK σ τ T n m → ∀ u5, Rw mX1_reckon X 55 [some (.ref i_minors), some (.ref b), some (.int (nI n)), some (.int (nI (pc6 n))), some (.int (nI m)), u5] [] (wd τ x) 0 0 := by
        refine up_loop (2 ^ T.2.1) ?_ ?_
        · intro _ τ hr u5
          refine R_iload hC dX1_reckon_55 rfl (R_aload_n (i := 0) hC dX1_reckon_57 rfl rfl (R_gI hC dX1_reckon_58 fl_X1_27 L_minors rfl ?_))
          refine R_top (y := nI (2 ^ T.2.1)) (hr.2.2.1) ?_
          refine R_icmp_ge hC 118 dX1_reckon_61 (by decide) (fun _ => ?_) (fun h => absurd (Int32.le_refl _) h)
          refine R_iinc hC dX1_reckon_118 rfl (inc1 _) (by decide) rfl (R_goto hC 39 dX1_reckon_121 (by decide) ?_)
          exact ih (by omega) τ (hr.row k3) _ _ _
        · intro m hm ihm m1 τ hr u5
          have ceq := nI_eq (a := pc6 m) (b := pc6 n) (by have := pc6_le m (by omega); omega) (by have := pc6_le n (by omega); omega)
          by_cases hpc : pc6 m = pc6 n
          · have hct := ct τ hr.1
            have hd : ∀ R' C', R' < n → C' < 2 ^ T.2.1 → pc6 R' = pc6 C' → τ.2.2 i_cdets (64 * R' + C') = dD T.2.2 R' C' := fun R' C' h1 h2 h3 => hr.2.2.2.2.2.1 R' C' (Or.inl h1) (by omega) h2 h3
            have hsq : sq T n m := ⟨n1, hn, m1, hm, hpc.symm⟩
            have ws : ∀ υ, υ.1 i_minors = τ.1 i_minors → WS υ T n m := fun υ e => by have := hr.2.2.2.2.2.2; unfold WS at *; rw [e]; exact this
            have kp : sml (dD T.2.2 n m) → ∀ u5, Rw mX1_reckon X 112 [some (.ref i_minors), some (.ref b), some (.int (nI n)), some (.int (nI (pc6 n))), some (.int (nI m)), u5] [] (wd (sA τ i_cdets (upd (τ.2.2 i_cdets) (64 * n + m) (dD T.2.2 n m))) x) 0 0 := by
              intro sm1 u5
              have lem : ∀ R C, pss n (m + 1) R C → pss n m R C ∨ (R = n ∧ C = m) := fun R C z => by unfold pss at *; omega
              have hw : WS (sA τ i_cdets (upd (τ.2.2 i_cdets) (64 * n + m) (dD T.2.2 n m))) T n (m + 1) := by
                rcases ws (sA τ i_cdets (upd (τ.2.2 i_cdets) (64 * n + m) (dD T.2.2 n m))) rfl with ⟨g1, g2⟩ | ⟨p, g1, g2, g3, g4, g5⟩
                · exact Or.inl ⟨g1, fun R C z y => by
                    rcases lem R C z with u | ⟨rfl, rfl⟩
                    · exact g2 R C u y
                    · exact y.2 sm1⟩
                · exact Or.inr ⟨p, g1, g2, g3, by unfold pss at *; omega, fun R C z y => by
                    rcases lem R C z with u | ⟨rfl, rfl⟩
                    · exact g5 R C u y
                    · exact absurd sm1 y.2⟩
              refine R_iinc hC dX1_reckon_112 rfl (inc1 _) (by decide) rfl (R_goto hC 55 dX1_reckon_115 (by decide) ?_)
              exact ihm (by omega) _ (hr.put (by omega) (by omega) k4 hpc.symm rfl (Or.inl rfl) hw) _
            refine R_iload hC dX1_reckon_55 rfl (R_aload_n (i := 0) hC dX1_reckon_57 rfl rfl (R_gI hC dX1_reckon_58 fl_X1_27 L_minors rfl ?_))
            refine R_top (y := nI (2 ^ T.2.1)) (hr.2.2.1) ?_
            refine R_icmp_ge hC 118 dX1_reckon_61 (by decide) (fun h => absurd h (nI_ge hm (by omega))) (fun _ => ?_)
            refine R_iload hC dX1_reckon_64 rfl ?_
            refine R_S1i hC hR dX1_reckon_66 MS_J6_bitCount_0f7a4 ml_X1_36 (c_bit m (by omega) _) (by first | decide | omega) ⟨by decide, by decide⟩ (Nat.le_of_ble_eq_true rfl) ?_
            refine R_iload_n (i := 3) hC dX1_reckon_69 rfl rfl ?_
            refine R_icmp_ne hC 112 dX1_reckon_70 (by decide) (fun h => absurd (ceq.mpr hpc) h) (fun _ => ?_)
            refine R_aload_n (i := 0) hC dX1_reckon_73 rfl rfl (R_aload_n (i := 1) hC dX1_reckon_74 rfl rfl (R_iload_n (i := 2) hC dX1_reckon_75 rfl rfl (R_iload hC dX1_reckon_76 rfl ?_)))
            refine R_V3i hC hR dX1_reckon_78 MV_X1_expanded ml_X1_42 L_minors rfl (c_expanded hB hct n1 hn hm hpc.symm hd) (by first | decide | omega) ⟨by decide, by decide⟩ (Nat.le_of_ble_eq_true rfl) ?_
            refine R_istore hC dX1_reckon_81 (by decide) rfl (R_aload_n (i := 0) hC dX1_reckon_83 rfl rfl (R_gR hC dX1_reckon_84 fl_X1_9 L_minors rfl (R_iload_n (i := 2) hC dX1_reckon_87 rfl rfl (R_bipush (v := 64) hC dX1_reckon_88 (by decide) (R_imul hC dX1_reckon_90 (R_iload hC dX1_reckon_91 rfl (R_iadd hC dX1_reckon_93 ?_)))))))
            refine R_iload hC dX1_reckon_94 rfl (R_sI hC dX1_reckon_96 L_cdets (64 * n + m) (n64b n m) (by omega) (by decide) (R_iload hC dX1_reckon_97 rfl ?_))
            refine R_S1i hC hR dX1_reckon_99 MS_X10_isBeyond ml_X1_46 (c_isBeyond _ _) (by first | decide | omega) ⟨by decide, by decide⟩ (Nat.le_of_ble_eq_true rfl) ?_
            refine R_if_eq hC 112 dX1_reckon_102 (by decide) (fun h102 => ?_) (fun h102 => ?_)
            · first | exact kp (Classical.byContradiction (b2i_0 h102)) _ | skip
            · refine R_aload_n (i := 0) hC dX1_reckon_105 rfl rfl (R_iload_n (i := 2) hC dX1_reckon_106 rfl rfl (R_iload hC dX1_reckon_107 rfl ?_))
              refine R_V2g hC hR dX1_reckon_109 MV_X1_noteBeyond ml_X1_50 L_minors rfl (c_note k3 hn ⟨hsq, b2i_ne h102⟩ (ws _ rfl)) (by first | decide | omega) ⟨by decide, by decide⟩ (Nat.le_of_ble_eq_true rfl) (fun r w1 hq => ?_)
              obtain ⟨rfl, υ, rfl, hυ, hw⟩ := hq
              refine R_iinc hC dX1_reckon_112 rfl (inc1 _) (by decide) rfl (R_goto hC 55 dX1_reckon_115 (by decide) ?_)
              exact ihm (by omega) υ (hr.put (by omega) (by omega) k4 hpc.symm rfl hυ hw) _
              first | exact kp (Classical.byContradiction (b2i_0 h102)) _ | skip
          · refine R_iload hC dX1_reckon_55 rfl (R_aload_n (i := 0) hC dX1_reckon_57 rfl rfl (R_gI hC dX1_reckon_58 fl_X1_27 L_minors rfl ?_))
            refine R_top (y := nI (2 ^ T.2.1)) (hr.2.2.1) ?_
            refine R_icmp_ge hC 118 dX1_reckon_61 (by decide) (fun h => absurd h (nI_ge hm (by omega))) (fun _ => ?_)
            refine R_iload hC dX1_reckon_64 rfl ?_
            refine R_S1i hC hR dX1_reckon_66 MS_J6_bitCount_0f7a4 ml_X1_36 (c_bit m (by omega) _) (by first | decide | omega) ⟨by decide, by decide⟩ (Nat.le_of_ble_eq_true rfl) ?_
            refine R_iload_n (i := 3) hC dX1_reckon_69 rfl rfl ?_
            refine R_icmp_ne hC 112 dX1_reckon_70 (by decide) (fun _ => ?_) (fun h => absurd h (fun z => hpc (ceq.mp z)))
            refine R_iinc hC dX1_reckon_112 rfl (inc1 _) (by decide) rfl (R_goto hC 55 dX1_reckon_115 (by decide) ?_)
            exact ihm (by omega) τ (hr.skip (fun z => hpc z.symm)) _
      refine R_iload_n (i := 2) hC dX1_reckon_39 rfl rfl (R_aload_n (i := 0) hC dX1_reckon_40 rfl rfl (R_gI hC dX1_reckon_41 fl_X1_21 L_minors rfl ?_))
      refine R_top (y := nI (2 ^ T.1)) (hr.2.1) ?_
      refine R_icmp_ge hC 124 dX1_reckon_44 (by decide) (fun h => absurd h (nI_ge hn (by omega))) (fun _ => ?_)
      refine R_iload_n (i := 2) hC dX1_reckon_47 rfl rfl ?_
      refine R_S1i hC hR dX1_reckon_48 MS_J6_bitCount_0f7a4 ml_X1_36 (c_bit n (by omega) _) (by first | decide | omega) ⟨by decide, by decide⟩ (Nat.le_of_ble_eq_true rfl) ?_
      refine R_istore_n (i := 3) hC dX1_reckon_51 rfl (by decide) rfl (R_iconst (v := 1) hC dX1_reckon_52 (by decide) (R_istore hC dX1_reckon_53 (by decide) rfl ?_))
      exact inner 1 one2 (Nat.le_refl _) τ hr _
  refine R_aload_n (i := 0) hC dX1_reckon_0 rfl rfl (R_iconst (v := 1) hC dX1_reckon_1 (by decide) (R_aload_n (i := 1) hC dX1_reckon_2 rfl rfl (R_gI hC dX1_reckon_3 fl_X1_15 hB.1 rfl ?_)))
  refine R_top (y := nI T.1) (k1) ?_
  refine R_ishl hC dX1_reckon_6 ?_
  refine R_top (y := nI (2 ^ T.1)) (shl1 T.1 k3) ?_
  refine R_pI hC dX1_reckon_7 fl_X1_21 L_minors rfl (R_aload_n (i := 0) hC dX1_reckon_10 rfl rfl (R_iconst (v := 1) hC dX1_reckon_11 (by decide) (R_aload_n (i := 1) hC dX1_reckon_12 rfl rfl (R_gI hC dX1_reckon_13 fl_X1_24 hB.1 rfl ?_))))
  refine R_top (y := nI T.2.1) ((sG_ni hb1.1).trans k2) ?_
  refine R_ishl hC dX1_reckon_16 ?_
  refine R_top (y := nI (2 ^ T.2.1)) (shl1 T.2.1 k4) ?_
  refine R_pI hC dX1_reckon_17 fl_X1_27 L_minors rfl (R_aload_n (i := 0) hC dX1_reckon_20 rfl rfl (R_iconst (v := 0) hC dX1_reckon_21 (by decide) (R_pI hC dX1_reckon_22 fl_X1_30 L_minors rfl (R_aload_n (i := 0) hC dX1_reckon_25 rfl rfl (R_iconst (v := 0) hC dX1_reckon_26 (by decide) (R_pI hC dX1_reckon_27 fl_X1_33 L_minors rfl (R_aload_n (i := 0) hC dX1_reckon_30 rfl rfl ?_)))))))
  refine R_gR hC dX1_reckon_31 fl_X1_9 L_minors rfl (R_iconst (v := 0) hC dX1_reckon_34 (by decide) (R_iconst (v := 1) hC dX1_reckon_35 (by decide) (R_sI hC dX1_reckon_36 L_cdets 0 rfl (by decide) (by decide) (R_iconst (v := 1) hC dX1_reckon_37 (by decide) (R_istore_n (i := 2) hC dX1_reckon_38 rfl (by decide) rfl ?_)))))
  exact outer 1 one1 (Nat.le_refl _) _ (by
    refine ⟨((((((AE.rf _ σ).g (by decide)).g (by decide)).g (by decide)).g (by decide)).a (by decide)), ?_, ?_, ?_, fun R C hR hC hp => ?_, fun R C z hR hC hp => ?_, Or.inl ⟨?_, fun R C z y => ?_⟩⟩
    · show (sG (sG (sG (sG σ i_minors 1 (nI (2 ^ T.1))) i_minors 2 (nI (2 ^ T.2.1))) i_minors 3 0) i_minors 4 0).1 i_minors 1 = _; rw [sG_nk (by decide), sG_nk (by decide), sG_nk (by decide), sG_eq]
    · show (sG (sG (sG (sG σ i_minors 1 (nI (2 ^ T.1))) i_minors 2 (nI (2 ^ T.2.1))) i_minors 3 0) i_minors 4 0).1 i_minors 2 = _; rw [sG_nk (by decide), sG_nk (by decide), sG_eq]
    · show (sG (sG (sG (sG σ i_minors 1 (nI (2 ^ T.1))) i_minors 2 (nI (2 ^ T.2.1))) i_minors 3 0) i_minors 4 0).1 i_minors 5 = _; rw [sG_nk (by decide), sG_nk (by decide), sG_nk (by decide), sG_nk (by decide)]
    · rw [sA_eq]; unfold upd
      rw [if_neg (fun z => hp (by have h1 : R = 0 := (by omega); have h2 : C = 0 := (by omega); rw [h1, h2]))]
      exact hk R C hR hC hp
    · rw [sA_eq]; unfold upd
      have r0 : R = 0 ∨ (R = 1 ∧ C = 0) := by unfold pss at z; omega
      have z0 : pc6 0 = 0 := (by decide)
      have z1 : pc6 1 = 1 := (by decide)
      rcases r0 with rfl | ⟨rfl, rfl⟩
      · have c0 := pc6_0 C (by omega) (by omega)
        subst c0
        rw [if_pos rfl, dD_0]
      · omega
    · show (sG (sG (sG (sG σ i_minors 1 (nI (2 ^ T.1))) i_minors 2 (nI (2 ^ T.2.1))) i_minors 3 0) i_minors 4 0).1 i_minors 3 = _; rw [sG_nk (by decide), sG_eq]
    · have := y.1.1; have := y.1.2.2.1; unfold pss at z; omega) _ _ _
