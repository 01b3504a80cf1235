/-! ===== the class's distances ===== -/
theorem dX6_signAll_0 : decode cX6_signAll 0 = .ok (.aload_n 0, 1) := by decide +kernel
theorem dX6_signAll_1 : decode cX6_signAll 1 = .ok (.getfield 12, 3) := by decide +kernel
theorem dX6_signAll_4 : decode cX6_signAll 4 = .ok (.aload_n 1, 1) := by decide +kernel
theorem dX6_signAll_5 : decode cX6_signAll 5 = .ok (.getfield 31, 3) := by decide +kernel
theorem dX6_signAll_8 : decode cX6_signAll 8 = .ok (.aload_n 1, 1) := by decide +kernel
theorem dX6_signAll_9 : decode cX6_signAll 9 = .ok (.getfield 35, 3) := by decide +kernel
theorem dX6_signAll_12 : decode cX6_signAll 12 = .ok (.invokevirtual 38, 3) := by decide +kernel
theorem dX6_signAll_15 : decode cX6_signAll 15 = .ok (.aload_n 0, 1) := by decide +kernel
theorem dX6_signAll_16 : decode cX6_signAll 16 = .ok (.aload_n 1, 1) := by decide +kernel
theorem dX6_signAll_17 : decode cX6_signAll 17 = .ok (.invokevirtual 42, 3) := by decide +kernel
theorem dX6_signAll_20 : decode cX6_signAll 20 = .ok (.iconst 0, 1) := by decide +kernel
theorem dX6_signAll_21 : decode cX6_signAll 21 = .ok (.istore_n 2, 1) := by decide +kernel
theorem dX6_signAll_22 : decode cX6_signAll 22 = .ok (.iload_n 2, 1) := by decide +kernel
theorem dX6_signAll_23 : decode cX6_signAll 23 = .ok (.bipush 36, 2) := by decide +kernel
theorem dX6_signAll_25 : decode cX6_signAll 25 = .ok (.if_icmp .ge 59, 3) := by decide +kernel
theorem dX6_signAll_28 : decode cX6_signAll 28 = .ok (.aload_n 0, 1) := by decide +kernel
theorem dX6_signAll_29 : decode cX6_signAll 29 = .ok (.aload_n 1, 1) := by decide +kernel
theorem dX6_signAll_30 : decode cX6_signAll 30 = .ok (.invokevirtual 46, 3) := by decide +kernel
theorem dX6_signAll_33 : decode cX6_signAll 33 = .ok (.ifCond .eq 51, 3) := by decide +kernel
theorem dX6_signAll_36 : decode cX6_signAll 36 = .ok (.aload_n 0, 1) := by decide +kernel
theorem dX6_signAll_37 : decode cX6_signAll 37 = .ok (.aload_n 0, 1) := by decide +kernel
theorem dX6_signAll_38 : decode cX6_signAll 38 = .ok (.getfield 50, 3) := by decide +kernel
theorem dX6_signAll_41 : decode cX6_signAll 41 = .ok (.invokevirtual 53, 3) := by decide +kernel
theorem dX6_signAll_44 : decode cX6_signAll 44 = .ok (.aload_n 0, 1) := by decide +kernel
theorem dX6_signAll_45 : decode cX6_signAll 45 = .ok (.getfield 12, 3) := by decide +kernel
theorem dX6_signAll_48 : decode cX6_signAll 48 = .ok (.aload_n 0, 1) := by decide +kernel
theorem dX6_signAll_49 : decode cX6_signAll 49 = .ok (.getfield 57, 3) := by decide +kernel
theorem dX6_signAll_52 : decode cX6_signAll 52 = .ok (.aload_n 0, 1) := by decide +kernel
theorem dX6_signAll_53 : decode cX6_signAll 53 = .ok (.getfield 50, 3) := by decide +kernel
theorem dX6_signAll_56 : decode cX6_signAll 56 = .ok (.aload_n 0, 1) := by decide +kernel
theorem dX6_signAll_57 : decode cX6_signAll 57 = .ok (.aload_n 0, 1) := by decide +kernel
theorem dX6_signAll_58 : decode cX6_signAll 58 = .ok (.getfield 57, 3) := by decide +kernel
theorem dX6_signAll_61 : decode cX6_signAll 61 = .ok (.invokevirtual 60, 3) := by decide +kernel
theorem dX6_signAll_64 : decode cX6_signAll 64 = .ok (.iconst 3, 1) := by decide +kernel
theorem dX6_signAll_65 : decode cX6_signAll 65 = .ok (.iand, 1) := by decide +kernel
theorem dX6_signAll_66 : decode cX6_signAll 66 = .ok (.iconst 3, 1) := by decide +kernel
theorem dX6_signAll_67 : decode cX6_signAll 67 = .ok (.if_icmp .ne 7, 3) := by decide +kernel
theorem dX6_signAll_70 : decode cX6_signAll 70 = .ok (.iconst 1, 1) := by decide +kernel
theorem dX6_signAll_71 : decode cX6_signAll 71 = .ok (.goto 4, 3) := by decide +kernel
theorem dX6_signAll_74 : decode cX6_signAll 74 = .ok (.iconst (-1), 1) := by decide +kernel
theorem dX6_signAll_75 : decode cX6_signAll 75 = .ok (.invokevirtual 64, 3) := by decide +kernel
theorem dX6_signAll_78 : decode cX6_signAll 78 = .ok (.iinc 2 1, 3) := by decide +kernel
theorem dX6_signAll_81 : decode cX6_signAll 81 = .ok (.goto (-59), 3) := by decide +kernel
theorem dX6_signAll_84 : decode cX6_signAll 84 = .ok (.return_, 1) := by decide +kernel
theorem dX6_signForest_0 : decode cX6_signForest 0 = .ok (.iconst 0, 1) := by decide +kernel
theorem dX6_signForest_1 : decode cX6_signForest 1 = .ok (.istore_n 2, 1) := by decide +kernel
theorem dX6_signForest_2 : decode cX6_signForest 2 = .ok (.iload_n 2, 1) := by decide +kernel
theorem dX6_signForest_3 : decode cX6_signForest 3 = .ok (.bipush 6, 2) := by decide +kernel
theorem dX6_signForest_5 : decode cX6_signForest 5 = .ok (.if_icmp .ge 26, 3) := by decide +kernel
theorem dX6_signForest_8 : decode cX6_signForest 8 = .ok (.aload_n 0, 1) := by decide +kernel
theorem dX6_signForest_9 : decode cX6_signForest 9 = .ok (.getfield 18, 3) := by decide +kernel
theorem dX6_signForest_12 : decode cX6_signForest 12 = .ok (.iload_n 2, 1) := by decide +kernel
theorem dX6_signForest_13 : decode cX6_signForest 13 = .ok (.iload_n 2, 1) := by decide +kernel
theorem dX6_signForest_14 : decode cX6_signForest 14 = .ok (.iastore, 1) := by decide +kernel
theorem dX6_signForest_15 : decode cX6_signForest 15 = .ok (.aload_n 0, 1) := by decide +kernel
theorem dX6_signForest_16 : decode cX6_signForest 16 = .ok (.getfield 22, 3) := by decide +kernel
theorem dX6_signForest_19 : decode cX6_signForest 19 = .ok (.iload_n 2, 1) := by decide +kernel
theorem dX6_signForest_20 : decode cX6_signForest 20 = .ok (.bipush 6, 2) := by decide +kernel
theorem dX6_signForest_22 : decode cX6_signForest 22 = .ok (.iload_n 2, 1) := by decide +kernel
theorem dX6_signForest_23 : decode cX6_signForest 23 = .ok (.iadd, 1) := by decide +kernel
theorem dX6_signForest_24 : decode cX6_signForest 24 = .ok (.iastore, 1) := by decide +kernel
theorem dX6_signForest_25 : decode cX6_signForest 25 = .ok (.iinc 2 1, 3) := by decide +kernel
theorem dX6_signForest_28 : decode cX6_signForest 28 = .ok (.goto (-26), 3) := by decide +kernel
theorem dX6_signForest_31 : decode cX6_signForest 31 = .ok (.iconst 0, 1) := by decide +kernel
theorem dX6_signForest_32 : decode cX6_signForest 32 = .ok (.istore_n 2, 1) := by decide +kernel
theorem dX6_signForest_33 : decode cX6_signForest 33 = .ok (.iload_n 2, 1) := by decide +kernel
theorem dX6_signForest_34 : decode cX6_signForest 34 = .ok (.aload_n 1, 1) := by decide +kernel
theorem dX6_signForest_35 : decode cX6_signForest 35 = .ok (.getfield 31, 3) := by decide +kernel
theorem dX6_signForest_38 : decode cX6_signForest 38 = .ok (.if_icmp .ge 75, 3) := by decide +kernel
theorem dX6_signForest_41 : decode cX6_signForest 41 = .ok (.iconst 0, 1) := by decide +kernel
theorem dX6_signForest_42 : decode cX6_signForest 42 = .ok (.istore_n 3, 1) := by decide +kernel
theorem dX6_signForest_43 : decode cX6_signForest 43 = .ok (.iload_n 3, 1) := by decide +kernel
theorem dX6_signForest_44 : decode cX6_signForest 44 = .ok (.aload_n 1, 1) := by decide +kernel
theorem dX6_signForest_45 : decode cX6_signForest 45 = .ok (.getfield 35, 3) := by decide +kernel
theorem dX6_signForest_48 : decode cX6_signForest 48 = .ok (.if_icmp .ge 59, 3) := by decide +kernel
theorem dX6_signForest_51 : decode cX6_signForest 51 = .ok (.aload_n 1, 1) := by decide +kernel
theorem dX6_signForest_52 : decode cX6_signForest 52 = .ok (.iload_n 2, 1) := by decide +kernel
theorem dX6_signForest_53 : decode cX6_signForest 53 = .ok (.iload_n 3, 1) := by decide +kernel
theorem dX6_signForest_54 : decode cX6_signForest 54 = .ok (.invokevirtual 68, 3) := by decide +kernel
theorem dX6_signForest_57 : decode cX6_signForest 57 = .ok (.ifCond .eq 44, 3) := by decide +kernel
theorem dX6_signForest_60 : decode cX6_signForest 60 = .ok (.aload_n 0, 1) := by decide +kernel
theorem dX6_signForest_61 : decode cX6_signForest 61 = .ok (.getfield 18, 3) := by decide +kernel
theorem dX6_signForest_64 : decode cX6_signForest 64 = .ok (.iload_n 2, 1) := by decide +kernel
theorem dX6_signForest_65 : decode cX6_signForest 65 = .ok (.iaload, 1) := by decide +kernel
theorem dX6_signForest_66 : decode cX6_signForest 66 = .ok (.aload_n 0, 1) := by decide +kernel
theorem dX6_signForest_67 : decode cX6_signForest 67 = .ok (.getfield 22, 3) := by decide +kernel
theorem dX6_signForest_70 : decode cX6_signForest 70 = .ok (.iload_n 3, 1) := by decide +kernel
theorem dX6_signForest_71 : decode cX6_signForest 71 = .ok (.iaload, 1) := by decide +kernel
theorem dX6_signForest_72 : decode cX6_signForest 72 = .ok (.if_icmp .eq 29, 3) := by decide +kernel
theorem dX6_signForest_75 : decode cX6_signForest 75 = .ok (.aload_n 0, 1) := by decide +kernel
theorem dX6_signForest_76 : decode cX6_signForest 76 = .ok (.getfield 12, 3) := by decide +kernel
theorem dX6_signForest_79 : decode cX6_signForest 79 = .ok (.iload_n 2, 1) := by decide +kernel
theorem dX6_signForest_80 : decode cX6_signForest 80 = .ok (.iload_n 3, 1) := by decide +kernel
theorem dX6_signForest_81 : decode cX6_signForest 81 = .ok (.iconst 1, 1) := by decide +kernel
theorem dX6_signForest_82 : decode cX6_signForest 82 = .ok (.invokevirtual 64, 3) := by decide +kernel
theorem dX6_signForest_85 : decode cX6_signForest 85 = .ok (.aload_n 0, 1) := by decide +kernel
theorem dX6_signForest_86 : decode cX6_signForest 86 = .ok (.aload_n 0, 1) := by decide +kernel
theorem dX6_signForest_87 : decode cX6_signForest 87 = .ok (.getfield 18, 3) := by decide +kernel
theorem dX6_signForest_90 : decode cX6_signForest 90 = .ok (.iload_n 2, 1) := by decide +kernel
theorem dX6_signForest_91 : decode cX6_signForest 91 = .ok (.iaload, 1) := by decide +kernel
theorem dX6_signForest_92 : decode cX6_signForest 92 = .ok (.aload_n 0, 1) := by decide +kernel
theorem dX6_signForest_93 : decode cX6_signForest 93 = .ok (.getfield 22, 3) := by decide +kernel
theorem dX6_signForest_96 : decode cX6_signForest 96 = .ok (.iload_n 3, 1) := by decide +kernel
theorem dX6_signForest_97 : decode cX6_signForest 97 = .ok (.iaload, 1) := by decide +kernel
theorem dX6_signForest_98 : decode cX6_signForest 98 = .ok (.invokevirtual 72, 3) := by decide +kernel
theorem dX6_signForest_101 : decode cX6_signForest 101 = .ok (.iinc 3 1, 3) := by decide +kernel
theorem dX6_signForest_104 : decode cX6_signForest 104 = .ok (.goto (-61), 3) := by decide +kernel
theorem dX6_signForest_107 : decode cX6_signForest 107 = .ok (.iinc 2 1, 3) := by decide +kernel
theorem dX6_signForest_110 : decode cX6_signForest 110 = .ok (.goto (-77), 3) := by decide +kernel
theorem dX6_signForest_113 : decode cX6_signForest 113 = .ok (.return_, 1) := by decide +kernel
theorem dX6_unite_0 : decode cX6_unite 0 = .ok (.iconst 0, 1) := by decide +kernel
theorem dX6_unite_1 : decode cX6_unite 1 = .ok (.istore_n 3, 1) := by decide +kernel
theorem dX6_unite_2 : decode cX6_unite 2 = .ok (.iload_n 3, 1) := by decide +kernel
theorem dX6_unite_3 : decode cX6_unite 3 = .ok (.bipush 6, 2) := by decide +kernel
theorem dX6_unite_5 : decode cX6_unite 5 = .ok (.if_icmp .ge 43, 3) := by decide +kernel
theorem dX6_unite_8 : decode cX6_unite 8 = .ok (.aload_n 0, 1) := by decide +kernel
theorem dX6_unite_9 : decode cX6_unite 9 = .ok (.getfield 18, 3) := by decide +kernel
theorem dX6_unite_12 : decode cX6_unite 12 = .ok (.iload_n 3, 1) := by decide +kernel
theorem dX6_unite_13 : decode cX6_unite 13 = .ok (.iaload, 1) := by decide +kernel
theorem dX6_unite_14 : decode cX6_unite 14 = .ok (.iload_n 2, 1) := by decide +kernel
theorem dX6_unite_15 : decode cX6_unite 15 = .ok (.if_icmp .ne 10, 3) := by decide +kernel
theorem dX6_unite_18 : decode cX6_unite 18 = .ok (.aload_n 0, 1) := by decide +kernel
theorem dX6_unite_19 : decode cX6_unite 19 = .ok (.getfield 18, 3) := by decide +kernel
theorem dX6_unite_22 : decode cX6_unite 22 = .ok (.iload_n 3, 1) := by decide +kernel
theorem dX6_unite_23 : decode cX6_unite 23 = .ok (.iload_n 1, 1) := by decide +kernel
theorem dX6_unite_24 : decode cX6_unite 24 = .ok (.iastore, 1) := by decide +kernel
theorem dX6_unite_25 : decode cX6_unite 25 = .ok (.aload_n 0, 1) := by decide +kernel
theorem dX6_unite_26 : decode cX6_unite 26 = .ok (.getfield 22, 3) := by decide +kernel
theorem dX6_unite_29 : decode cX6_unite 29 = .ok (.iload_n 3, 1) := by decide +kernel
theorem dX6_unite_30 : decode cX6_unite 30 = .ok (.iaload, 1) := by decide +kernel
theorem dX6_unite_31 : decode cX6_unite 31 = .ok (.iload_n 2, 1) := by decide +kernel
theorem dX6_unite_32 : decode cX6_unite 32 = .ok (.if_icmp .ne 10, 3) := by decide +kernel
theorem dX6_unite_35 : decode cX6_unite 35 = .ok (.aload_n 0, 1) := by decide +kernel
theorem dX6_unite_36 : decode cX6_unite 36 = .ok (.getfield 22, 3) := by decide +kernel
theorem dX6_unite_39 : decode cX6_unite 39 = .ok (.iload_n 3, 1) := by decide +kernel
theorem dX6_unite_40 : decode cX6_unite 40 = .ok (.iload_n 1, 1) := by decide +kernel
theorem dX6_unite_41 : decode cX6_unite 41 = .ok (.iastore, 1) := by decide +kernel
theorem dX6_unite_42 : decode cX6_unite 42 = .ok (.iinc 3 1, 3) := by decide +kernel
theorem dX6_unite_45 : decode cX6_unite 45 = .ok (.goto (-43), 3) := by decide +kernel
theorem dX6_unite_48 : decode cX6_unite 48 = .ok (.return_, 1) := by decide +kernel
theorem dX6_findNext_0 : decode cX6_findNext 0 = .ok (.ldc 75, 2) := by decide +kernel
theorem dX6_findNext_2 : decode cX6_findNext 2 = .ok (.istore_n 2, 1) := by decide +kernel
theorem dX6_findNext_3 : decode cX6_findNext 3 = .ok (.iconst 0, 1) := by decide +kernel
theorem dX6_findNext_4 : decode cX6_findNext 4 = .ok (.istore_n 3, 1) := by decide +kernel
theorem dX6_findNext_5 : decode cX6_findNext 5 = .ok (.iload_n 3, 1) := by decide +kernel
theorem dX6_findNext_6 : decode cX6_findNext 6 = .ok (.aload_n 1, 1) := by decide +kernel
theorem dX6_findNext_7 : decode cX6_findNext 7 = .ok (.getfield 35, 3) := by decide +kernel
theorem dX6_findNext_10 : decode cX6_findNext 10 = .ok (.if_icmp .ge 95, 3) := by decide +kernel
theorem dX6_findNext_13 : decode cX6_findNext 13 = .ok (.aload_n 0, 1) := by decide +kernel
theorem dX6_findNext_14 : decode cX6_findNext 14 = .ok (.iload_n 3, 1) := by decide +kernel
theorem dX6_findNext_15 : decode cX6_findNext 15 = .ok (.invokevirtual 53, 3) := by decide +kernel
theorem dX6_findNext_18 : decode cX6_findNext 18 = .ok (.iconst 0, 1) := by decide +kernel
theorem dX6_findNext_19 : decode cX6_findNext 19 = .ok (.istore 4, 2) := by decide +kernel
theorem dX6_findNext_21 : decode cX6_findNext 21 = .ok (.iload 4, 2) := by decide +kernel
theorem dX6_findNext_23 : decode cX6_findNext 23 = .ok (.aload_n 1, 1) := by decide +kernel
theorem dX6_findNext_24 : decode cX6_findNext 24 = .ok (.getfield 31, 3) := by decide +kernel
theorem dX6_findNext_27 : decode cX6_findNext 27 = .ok (.if_icmp .ge 72, 3) := by decide +kernel
theorem dX6_findNext_30 : decode cX6_findNext 30 = .ok (.aload_n 0, 1) := by decide +kernel
theorem dX6_findNext_31 : decode cX6_findNext 31 = .ok (.getfield 25, 3) := by decide +kernel
theorem dX6_findNext_34 : decode cX6_findNext 34 = .ok (.iload 4, 2) := by decide +kernel
theorem dX6_findNext_36 : decode cX6_findNext 36 = .ok (.iaload, 1) := by decide +kernel
theorem dX6_findNext_37 : decode cX6_findNext 37 = .ok (.bipush 36, 2) := by decide +kernel
theorem dX6_findNext_39 : decode cX6_findNext 39 = .ok (.imul, 1) := by decide +kernel
theorem dX6_findNext_40 : decode cX6_findNext 40 = .ok (.iload 4, 2) := by decide +kernel
theorem dX6_findNext_42 : decode cX6_findNext 42 = .ok (.bipush 6, 2) := by decide +kernel
theorem dX6_findNext_44 : decode cX6_findNext 44 = .ok (.imul, 1) := by decide +kernel
theorem dX6_findNext_45 : decode cX6_findNext 45 = .ok (.iadd, 1) := by decide +kernel
theorem dX6_findNext_46 : decode cX6_findNext 46 = .ok (.iload_n 3, 1) := by decide +kernel
theorem dX6_findNext_47 : decode cX6_findNext 47 = .ok (.iadd, 1) := by decide +kernel
theorem dX6_findNext_48 : decode cX6_findNext 48 = .ok (.istore 5, 2) := by decide +kernel
theorem dX6_findNext_50 : decode cX6_findNext 50 = .ok (.aload_n 1, 1) := by decide +kernel
theorem dX6_findNext_51 : decode cX6_findNext 51 = .ok (.iload 4, 2) := by decide +kernel
theorem dX6_findNext_53 : decode cX6_findNext 53 = .ok (.iload_n 3, 1) := by decide +kernel
theorem dX6_findNext_54 : decode cX6_findNext 54 = .ok (.invokevirtual 68, 3) := by decide +kernel
theorem dX6_findNext_57 : decode cX6_findNext 57 = .ok (.ifCond .eq 36, 3) := by decide +kernel
theorem dX6_findNext_60 : decode cX6_findNext 60 = .ok (.aload_n 0, 1) := by decide +kernel
theorem dX6_findNext_61 : decode cX6_findNext 61 = .ok (.getfield 12, 3) := by decide +kernel
theorem dX6_findNext_64 : decode cX6_findNext 64 = .ok (.iload 4, 2) := by decide +kernel
theorem dX6_findNext_66 : decode cX6_findNext 66 = .ok (.iload_n 3, 1) := by decide +kernel
theorem dX6_findNext_67 : decode cX6_findNext 67 = .ok (.invokevirtual 68, 3) := by decide +kernel
theorem dX6_findNext_70 : decode cX6_findNext 70 = .ok (.ifCond .ne 23, 3) := by decide +kernel
theorem dX6_findNext_73 : decode cX6_findNext 73 = .ok (.iload 5, 2) := by decide +kernel
theorem dX6_findNext_75 : decode cX6_findNext 75 = .ok (.iload_n 2, 1) := by decide +kernel
theorem dX6_findNext_76 : decode cX6_findNext 76 = .ok (.if_icmp .ge 17, 3) := by decide +kernel
theorem dX6_findNext_79 : decode cX6_findNext 79 = .ok (.iload 5, 2) := by decide +kernel
theorem dX6_findNext_81 : decode cX6_findNext 81 = .ok (.istore_n 2, 1) := by decide +kernel
theorem dX6_findNext_82 : decode cX6_findNext 82 = .ok (.aload_n 0, 1) := by decide +kernel
theorem dX6_findNext_83 : decode cX6_findNext 83 = .ok (.iload 4, 2) := by decide +kernel
theorem dX6_findNext_85 : decode cX6_findNext 85 = .ok (.putfield 57, 3) := by decide +kernel
theorem dX6_findNext_88 : decode cX6_findNext 88 = .ok (.aload_n 0, 1) := by decide +kernel
theorem dX6_findNext_89 : decode cX6_findNext 89 = .ok (.iload_n 3, 1) := by decide +kernel
theorem dX6_findNext_90 : decode cX6_findNext 90 = .ok (.putfield 50, 3) := by decide +kernel
theorem dX6_findNext_93 : decode cX6_findNext 93 = .ok (.iinc 4 1, 3) := by decide +kernel
theorem dX6_findNext_96 : decode cX6_findNext 96 = .ok (.goto (-75), 3) := by decide +kernel
theorem dX6_findNext_99 : decode cX6_findNext 99 = .ok (.iinc 3 1, 3) := by decide +kernel
theorem dX6_findNext_102 : decode cX6_findNext 102 = .ok (.goto (-97), 3) := by decide +kernel
theorem dX6_findNext_105 : decode cX6_findNext 105 = .ok (.iload_n 2, 1) := by decide +kernel
theorem dX6_findNext_106 : decode cX6_findNext 106 = .ok (.ldc 75, 2) := by decide +kernel
theorem dX6_findNext_108 : decode cX6_findNext 108 = .ok (.if_icmp .ge 7, 3) := by decide +kernel
theorem dX6_findNext_111 : decode cX6_findNext 111 = .ok (.iconst 1, 1) := by decide +kernel
theorem dX6_findNext_112 : decode cX6_findNext 112 = .ok (.goto 4, 3) := by decide +kernel
theorem dX6_findNext_115 : decode cX6_findNext 115 = .ok (.iconst 0, 1) := by decide +kernel
theorem dX6_findNext_116 : decode cX6_findNext 116 = .ok (.ireturn, 1) := by decide +kernel
theorem dX6_measureFrom_0 : decode cX6_measureFrom 0 = .ok (.iconst 0, 1) := by decide +kernel
theorem dX6_measureFrom_1 : decode cX6_measureFrom 1 = .ok (.istore_n 2, 1) := by decide +kernel
theorem dX6_measureFrom_2 : decode cX6_measureFrom 2 = .ok (.iload_n 2, 1) := by decide +kernel
theorem dX6_measureFrom_3 : decode cX6_measureFrom 3 = .ok (.bipush 6, 2) := by decide +kernel
theorem dX6_measureFrom_5 : decode cX6_measureFrom 5 = .ok (.if_icmp .ge 36, 3) := by decide +kernel
theorem dX6_measureFrom_8 : decode cX6_measureFrom 8 = .ok (.aload_n 0, 1) := by decide +kernel
theorem dX6_measureFrom_9 : decode cX6_measureFrom 9 = .ok (.getfield 25, 3) := by decide +kernel
theorem dX6_measureFrom_12 : decode cX6_measureFrom 12 = .ok (.iload_n 2, 1) := by decide +kernel
theorem dX6_measureFrom_13 : decode cX6_measureFrom 13 = .ok (.sipush 1000, 3) := by decide +kernel
theorem dX6_measureFrom_16 : decode cX6_measureFrom 16 = .ok (.iastore, 1) := by decide +kernel
theorem dX6_measureFrom_17 : decode cX6_measureFrom 17 = .ok (.aload_n 0, 1) := by decide +kernel
theorem dX6_measureFrom_18 : decode cX6_measureFrom 18 = .ok (.getfield 28, 3) := by decide +kernel
theorem dX6_measureFrom_21 : decode cX6_measureFrom 21 = .ok (.iload_n 2, 1) := by decide +kernel
theorem dX6_measureFrom_22 : decode cX6_measureFrom 22 = .ok (.iload_n 2, 1) := by decide +kernel
theorem dX6_measureFrom_23 : decode cX6_measureFrom 23 = .ok (.iload_n 1, 1) := by decide +kernel
theorem dX6_measureFrom_24 : decode cX6_measureFrom 24 = .ok (.if_icmp .ne 7, 3) := by decide +kernel
theorem dX6_measureFrom_27 : decode cX6_measureFrom 27 = .ok (.iconst 0, 1) := by decide +kernel
theorem dX6_measureFrom_28 : decode cX6_measureFrom 28 = .ok (.goto 6, 3) := by decide +kernel
theorem dX6_measureFrom_31 : decode cX6_measureFrom 31 = .ok (.sipush 1000, 3) := by decide +kernel
theorem dX6_measureFrom_34 : decode cX6_measureFrom 34 = .ok (.iastore, 1) := by decide +kernel
theorem dX6_measureFrom_35 : decode cX6_measureFrom 35 = .ok (.iinc 2 1, 3) := by decide +kernel
theorem dX6_measureFrom_38 : decode cX6_measureFrom 38 = .ok (.goto (-36), 3) := by decide +kernel
theorem dX6_measureFrom_41 : decode cX6_measureFrom 41 = .ok (.iconst 1, 1) := by decide +kernel
theorem dX6_measureFrom_42 : decode cX6_measureFrom 42 = .ok (.istore_n 2, 1) := by decide +kernel
theorem dX6_measureFrom_43 : decode cX6_measureFrom 43 = .ok (.iload_n 2, 1) := by decide +kernel
theorem dX6_measureFrom_44 : decode cX6_measureFrom 44 = .ok (.bipush 12, 2) := by decide +kernel
theorem dX6_measureFrom_46 : decode cX6_measureFrom 46 = .ok (.if_icmp .ge 21, 3) := by decide +kernel
theorem dX6_measureFrom_49 : decode cX6_measureFrom 49 = .ok (.aload_n 0, 1) := by decide +kernel
theorem dX6_measureFrom_50 : decode cX6_measureFrom 50 = .ok (.iload_n 2, 1) := by decide +kernel
theorem dX6_measureFrom_51 : decode cX6_measureFrom 51 = .ok (.invokevirtual 76, 3) := by decide +kernel
theorem dX6_measureFrom_54 : decode cX6_measureFrom 54 = .ok (.aload_n 0, 1) := by decide +kernel
theorem dX6_measureFrom_55 : decode cX6_measureFrom 55 = .ok (.iload_n 2, 1) := by decide +kernel
theorem dX6_measureFrom_56 : decode cX6_measureFrom 56 = .ok (.iconst 1, 1) := by decide +kernel
theorem dX6_measureFrom_57 : decode cX6_measureFrom 57 = .ok (.iadd, 1) := by decide +kernel
theorem dX6_measureFrom_58 : decode cX6_measureFrom 58 = .ok (.invokevirtual 79, 3) := by decide +kernel
theorem dX6_measureFrom_61 : decode cX6_measureFrom 61 = .ok (.iinc 2 2, 3) := by decide +kernel
theorem dX6_measureFrom_64 : decode cX6_measureFrom 64 = .ok (.goto (-21), 3) := by decide +kernel
theorem dX6_measureFrom_67 : decode cX6_measureFrom 67 = .ok (.return_, 1) := by decide +kernel
theorem dX6_reachRows_0 : decode cX6_reachRows 0 = .ok (.iconst 0, 1) := by decide +kernel
theorem dX6_reachRows_1 : decode cX6_reachRows 1 = .ok (.istore_n 2, 1) := by decide +kernel
theorem dX6_reachRows_2 : decode cX6_reachRows 2 = .ok (.iload_n 2, 1) := by decide +kernel
theorem dX6_reachRows_3 : decode cX6_reachRows 3 = .ok (.aload_n 0, 1) := by decide +kernel
theorem dX6_reachRows_4 : decode cX6_reachRows 4 = .ok (.getfield 12, 3) := by decide +kernel
theorem dX6_reachRows_7 : decode cX6_reachRows 7 = .ok (.getfield 31, 3) := by decide +kernel
theorem dX6_reachRows_10 : decode cX6_reachRows 10 = .ok (.if_icmp .ge 40, 3) := by decide +kernel
theorem dX6_reachRows_13 : decode cX6_reachRows 13 = .ok (.aload_n 0, 1) := by decide +kernel
theorem dX6_reachRows_14 : decode cX6_reachRows 14 = .ok (.getfield 25, 3) := by decide +kernel
theorem dX6_reachRows_17 : decode cX6_reachRows 17 = .ok (.iload_n 2, 1) := by decide +kernel
theorem dX6_reachRows_18 : decode cX6_reachRows 18 = .ok (.iaload, 1) := by decide +kernel
theorem dX6_reachRows_19 : decode cX6_reachRows 19 = .ok (.sipush 1000, 3) := by decide +kernel
theorem dX6_reachRows_22 : decode cX6_reachRows 22 = .ok (.if_icmp .ne 22, 3) := by decide +kernel
theorem dX6_reachRows_25 : decode cX6_reachRows 25 = .ok (.aload_n 0, 1) := by decide +kernel
theorem dX6_reachRows_26 : decode cX6_reachRows 26 = .ok (.iload_n 2, 1) := by decide +kernel
theorem dX6_reachRows_27 : decode cX6_reachRows 27 = .ok (.iload_n 1, 1) := by decide +kernel
theorem dX6_reachRows_28 : decode cX6_reachRows 28 = .ok (.iconst 1, 1) := by decide +kernel
theorem dX6_reachRows_29 : decode cX6_reachRows 29 = .ok (.isub, 1) := by decide +kernel
theorem dX6_reachRows_30 : decode cX6_reachRows 30 = .ok (.invokevirtual 82, 3) := by decide +kernel
theorem dX6_reachRows_33 : decode cX6_reachRows 33 = .ok (.iconst (-1), 1) := by decide +kernel
theorem dX6_reachRows_34 : decode cX6_reachRows 34 = .ok (.if_icmp .eq 10, 3) := by decide +kernel
theorem dX6_reachRows_37 : decode cX6_reachRows 37 = .ok (.aload_n 0, 1) := by decide +kernel
theorem dX6_reachRows_38 : decode cX6_reachRows 38 = .ok (.getfield 25, 3) := by decide +kernel
theorem dX6_reachRows_41 : decode cX6_reachRows 41 = .ok (.iload_n 2, 1) := by decide +kernel
theorem dX6_reachRows_42 : decode cX6_reachRows 42 = .ok (.iload_n 1, 1) := by decide +kernel
theorem dX6_reachRows_43 : decode cX6_reachRows 43 = .ok (.iastore, 1) := by decide +kernel
theorem dX6_reachRows_44 : decode cX6_reachRows 44 = .ok (.iinc 2 1, 3) := by decide +kernel
theorem dX6_reachRows_47 : decode cX6_reachRows 47 = .ok (.goto (-45), 3) := by decide +kernel
theorem dX6_reachRows_50 : decode cX6_reachRows 50 = .ok (.return_, 1) := by decide +kernel
theorem dX6_reachColumns_0 : decode cX6_reachColumns 0 = .ok (.iconst 0, 1) := by decide +kernel
theorem dX6_reachColumns_1 : decode cX6_reachColumns 1 = .ok (.istore_n 2, 1) := by decide +kernel
theorem dX6_reachColumns_2 : decode cX6_reachColumns 2 = .ok (.iload_n 2, 1) := by decide +kernel
theorem dX6_reachColumns_3 : decode cX6_reachColumns 3 = .ok (.aload_n 0, 1) := by decide +kernel
theorem dX6_reachColumns_4 : decode cX6_reachColumns 4 = .ok (.getfield 12, 3) := by decide +kernel
theorem dX6_reachColumns_7 : decode cX6_reachColumns 7 = .ok (.getfield 35, 3) := by decide +kernel
theorem dX6_reachColumns_10 : decode cX6_reachColumns 10 = .ok (.if_icmp .ge 40, 3) := by decide +kernel
theorem dX6_reachColumns_13 : decode cX6_reachColumns 13 = .ok (.aload_n 0, 1) := by decide +kernel
theorem dX6_reachColumns_14 : decode cX6_reachColumns 14 = .ok (.getfield 28, 3) := by decide +kernel
theorem dX6_reachColumns_17 : decode cX6_reachColumns 17 = .ok (.iload_n 2, 1) := by decide +kernel
theorem dX6_reachColumns_18 : decode cX6_reachColumns 18 = .ok (.iaload, 1) := by decide +kernel
theorem dX6_reachColumns_19 : decode cX6_reachColumns 19 = .ok (.sipush 1000, 3) := by decide +kernel
theorem dX6_reachColumns_22 : decode cX6_reachColumns 22 = .ok (.if_icmp .ne 22, 3) := by decide +kernel
theorem dX6_reachColumns_25 : decode cX6_reachColumns 25 = .ok (.aload_n 0, 1) := by decide +kernel
theorem dX6_reachColumns_26 : decode cX6_reachColumns 26 = .ok (.iload_n 2, 1) := by decide +kernel
theorem dX6_reachColumns_27 : decode cX6_reachColumns 27 = .ok (.iload_n 1, 1) := by decide +kernel
theorem dX6_reachColumns_28 : decode cX6_reachColumns 28 = .ok (.iconst 1, 1) := by decide +kernel
theorem dX6_reachColumns_29 : decode cX6_reachColumns 29 = .ok (.isub, 1) := by decide +kernel
theorem dX6_reachColumns_30 : decode cX6_reachColumns 30 = .ok (.invokevirtual 85, 3) := by decide +kernel
theorem dX6_reachColumns_33 : decode cX6_reachColumns 33 = .ok (.iconst (-1), 1) := by decide +kernel
theorem dX6_reachColumns_34 : decode cX6_reachColumns 34 = .ok (.if_icmp .eq 10, 3) := by decide +kernel
theorem dX6_reachColumns_37 : decode cX6_reachColumns 37 = .ok (.aload_n 0, 1) := by decide +kernel
theorem dX6_reachColumns_38 : decode cX6_reachColumns 38 = .ok (.getfield 28, 3) := by decide +kernel
theorem dX6_reachColumns_41 : decode cX6_reachColumns 41 = .ok (.iload_n 2, 1) := by decide +kernel
theorem dX6_reachColumns_42 : decode cX6_reachColumns 42 = .ok (.iload_n 1, 1) := by decide +kernel
theorem dX6_reachColumns_43 : decode cX6_reachColumns 43 = .ok (.iastore, 1) := by decide +kernel
theorem dX6_reachColumns_44 : decode cX6_reachColumns 44 = .ok (.iinc 2 1, 3) := by decide +kernel
theorem dX6_reachColumns_47 : decode cX6_reachColumns 47 = .ok (.goto (-45), 3) := by decide +kernel
theorem dX6_reachColumns_50 : decode cX6_reachColumns 50 = .ok (.return_, 1) := by decide +kernel
theorem dX6_sumOfWay_0 : decode cX6_sumOfWay 0 = .ok (.iload_n 1, 1) := by decide +kernel
theorem dX6_sumOfWay_1 : decode cX6_sumOfWay 1 = .ok (.istore_n 2, 1) := by decide +kernel
theorem dX6_sumOfWay_2 : decode cX6_sumOfWay 2 = .ok (.iconst 0, 1) := by decide +kernel
theorem dX6_sumOfWay_3 : decode cX6_sumOfWay 3 = .ok (.istore_n 3, 1) := by decide +kernel
theorem dX6_sumOfWay_4 : decode cX6_sumOfWay 4 = .ok (.aload_n 0, 1) := by decide +kernel
theorem dX6_sumOfWay_5 : decode cX6_sumOfWay 5 = .ok (.getfield 25, 3) := by decide +kernel
theorem dX6_sumOfWay_8 : decode cX6_sumOfWay 8 = .ok (.iload_n 1, 1) := by decide +kernel
theorem dX6_sumOfWay_9 : decode cX6_sumOfWay 9 = .ok (.iaload, 1) := by decide +kernel
theorem dX6_sumOfWay_10 : decode cX6_sumOfWay 10 = .ok (.istore 4, 2) := by decide +kernel
theorem dX6_sumOfWay_12 : decode cX6_sumOfWay 12 = .ok (.iload 4, 2) := by decide +kernel
theorem dX6_sumOfWay_14 : decode cX6_sumOfWay 14 = .ok (.ifCond .le 62, 3) := by decide +kernel
theorem dX6_sumOfWay_17 : decode cX6_sumOfWay 17 = .ok (.iload_n 2, 1) := by decide +kernel
theorem dX6_sumOfWay_18 : decode cX6_sumOfWay 18 = .ok (.iconst (-1), 1) := by decide +kernel
theorem dX6_sumOfWay_19 : decode cX6_sumOfWay 19 = .ok (.if_icmp .eq 57, 3) := by decide +kernel
theorem dX6_sumOfWay_22 : decode cX6_sumOfWay 22 = .ok (.aload_n 0, 1) := by decide +kernel
theorem dX6_sumOfWay_23 : decode cX6_sumOfWay 23 = .ok (.iload_n 2, 1) := by decide +kernel
theorem dX6_sumOfWay_24 : decode cX6_sumOfWay 24 = .ok (.iload 4, 2) := by decide +kernel
theorem dX6_sumOfWay_26 : decode cX6_sumOfWay 26 = .ok (.iconst 1, 1) := by decide +kernel
theorem dX6_sumOfWay_27 : decode cX6_sumOfWay 27 = .ok (.isub, 1) := by decide +kernel
theorem dX6_sumOfWay_28 : decode cX6_sumOfWay 28 = .ok (.invokevirtual 82, 3) := by decide +kernel
theorem dX6_sumOfWay_31 : decode cX6_sumOfWay 31 = .ok (.istore 5, 2) := by decide +kernel
theorem dX6_sumOfWay_33 : decode cX6_sumOfWay 33 = .ok (.iload_n 3, 1) := by decide +kernel
theorem dX6_sumOfWay_34 : decode cX6_sumOfWay 34 = .ok (.aload_n 0, 1) := by decide +kernel
theorem dX6_sumOfWay_35 : decode cX6_sumOfWay 35 = .ok (.getfield 12, 3) := by decide +kernel
theorem dX6_sumOfWay_38 : decode cX6_sumOfWay 38 = .ok (.iload_n 2, 1) := by decide +kernel
theorem dX6_sumOfWay_39 : decode cX6_sumOfWay 39 = .ok (.iload 5, 2) := by decide +kernel
theorem dX6_sumOfWay_41 : decode cX6_sumOfWay 41 = .ok (.invokevirtual 68, 3) := by decide +kernel
theorem dX6_sumOfWay_44 : decode cX6_sumOfWay 44 = .ok (.iadd, 1) := by decide +kernel
theorem dX6_sumOfWay_45 : decode cX6_sumOfWay 45 = .ok (.istore_n 3, 1) := by decide +kernel
theorem dX6_sumOfWay_46 : decode cX6_sumOfWay 46 = .ok (.aload_n 0, 1) := by decide +kernel
theorem dX6_sumOfWay_47 : decode cX6_sumOfWay 47 = .ok (.iload 5, 2) := by decide +kernel
theorem dX6_sumOfWay_49 : decode cX6_sumOfWay 49 = .ok (.iload 4, 2) := by decide +kernel
theorem dX6_sumOfWay_51 : decode cX6_sumOfWay 51 = .ok (.iconst 2, 1) := by decide +kernel
theorem dX6_sumOfWay_52 : decode cX6_sumOfWay 52 = .ok (.isub, 1) := by decide +kernel
theorem dX6_sumOfWay_53 : decode cX6_sumOfWay 53 = .ok (.invokevirtual 85, 3) := by decide +kernel
theorem dX6_sumOfWay_56 : decode cX6_sumOfWay 56 = .ok (.istore_n 2, 1) := by decide +kernel
theorem dX6_sumOfWay_57 : decode cX6_sumOfWay 57 = .ok (.iload_n 3, 1) := by decide +kernel
theorem dX6_sumOfWay_58 : decode cX6_sumOfWay 58 = .ok (.aload_n 0, 1) := by decide +kernel
theorem dX6_sumOfWay_59 : decode cX6_sumOfWay 59 = .ok (.getfield 12, 3) := by decide +kernel
theorem dX6_sumOfWay_62 : decode cX6_sumOfWay 62 = .ok (.iload_n 2, 1) := by decide +kernel
theorem dX6_sumOfWay_63 : decode cX6_sumOfWay 63 = .ok (.iload 5, 2) := by decide +kernel
theorem dX6_sumOfWay_65 : decode cX6_sumOfWay 65 = .ok (.invokevirtual 68, 3) := by decide +kernel
theorem dX6_sumOfWay_68 : decode cX6_sumOfWay 68 = .ok (.iadd, 1) := by decide +kernel
theorem dX6_sumOfWay_69 : decode cX6_sumOfWay 69 = .ok (.istore_n 3, 1) := by decide +kernel
theorem dX6_sumOfWay_70 : decode cX6_sumOfWay 70 = .ok (.iinc 4 (-2), 3) := by decide +kernel
theorem dX6_sumOfWay_73 : decode cX6_sumOfWay 73 = .ok (.goto (-61), 3) := by decide +kernel
theorem dX6_sumOfWay_76 : decode cX6_sumOfWay 76 = .ok (.iload_n 3, 1) := by decide +kernel
theorem dX6_sumOfWay_77 : decode cX6_sumOfWay 77 = .ok (.ireturn, 1) := by decide +kernel
theorem dX6_columnToldAt_0 : decode cX6_columnToldAt 0 = .ok (.iconst 0, 1) := by decide +kernel
theorem dX6_columnToldAt_1 : decode cX6_columnToldAt 1 = .ok (.istore_n 3, 1) := by decide +kernel
theorem dX6_columnToldAt_2 : decode cX6_columnToldAt 2 = .ok (.iload_n 3, 1) := by decide +kernel
theorem dX6_columnToldAt_3 : decode cX6_columnToldAt 3 = .ok (.aload_n 0, 1) := by decide +kernel
theorem dX6_columnToldAt_4 : decode cX6_columnToldAt 4 = .ok (.getfield 12, 3) := by decide +kernel
theorem dX6_columnToldAt_7 : decode cX6_columnToldAt 7 = .ok (.getfield 35, 3) := by decide +kernel
theorem dX6_columnToldAt_10 : decode cX6_columnToldAt 10 = .ok (.if_icmp .ge 33, 3) := by decide +kernel
theorem dX6_columnToldAt_13 : decode cX6_columnToldAt 13 = .ok (.aload_n 0, 1) := by decide +kernel
theorem dX6_columnToldAt_14 : decode cX6_columnToldAt 14 = .ok (.getfield 28, 3) := by decide +kernel
theorem dX6_columnToldAt_17 : decode cX6_columnToldAt 17 = .ok (.iload_n 3, 1) := by decide +kernel
theorem dX6_columnToldAt_18 : decode cX6_columnToldAt 18 = .ok (.iaload, 1) := by decide +kernel
theorem dX6_columnToldAt_19 : decode cX6_columnToldAt 19 = .ok (.iload_n 2, 1) := by decide +kernel
theorem dX6_columnToldAt_20 : decode cX6_columnToldAt 20 = .ok (.if_icmp .ne 17, 3) := by decide +kernel
theorem dX6_columnToldAt_23 : decode cX6_columnToldAt 23 = .ok (.aload_n 0, 1) := by decide +kernel
theorem dX6_columnToldAt_24 : decode cX6_columnToldAt 24 = .ok (.getfield 12, 3) := by decide +kernel
theorem dX6_columnToldAt_27 : decode cX6_columnToldAt 27 = .ok (.iload_n 1, 1) := by decide +kernel
theorem dX6_columnToldAt_28 : decode cX6_columnToldAt 28 = .ok (.iload_n 3, 1) := by decide +kernel
theorem dX6_columnToldAt_29 : decode cX6_columnToldAt 29 = .ok (.invokevirtual 68, 3) := by decide +kernel
theorem dX6_columnToldAt_32 : decode cX6_columnToldAt 32 = .ok (.ifCond .eq 5, 3) := by decide +kernel
theorem dX6_columnToldAt_35 : decode cX6_columnToldAt 35 = .ok (.iload_n 3, 1) := by decide +kernel
theorem dX6_columnToldAt_36 : decode cX6_columnToldAt 36 = .ok (.ireturn, 1) := by decide +kernel
theorem dX6_columnToldAt_37 : decode cX6_columnToldAt 37 = .ok (.iinc 3 1, 3) := by decide +kernel
theorem dX6_columnToldAt_40 : decode cX6_columnToldAt 40 = .ok (.goto (-38), 3) := by decide +kernel
theorem dX6_columnToldAt_43 : decode cX6_columnToldAt 43 = .ok (.iconst (-1), 1) := by decide +kernel
theorem dX6_columnToldAt_44 : decode cX6_columnToldAt 44 = .ok (.ireturn, 1) := by decide +kernel
theorem dX6_rowToldAt_0 : decode cX6_rowToldAt 0 = .ok (.iconst 0, 1) := by decide +kernel
theorem dX6_rowToldAt_1 : decode cX6_rowToldAt 1 = .ok (.istore_n 3, 1) := by decide +kernel
theorem dX6_rowToldAt_2 : decode cX6_rowToldAt 2 = .ok (.iload_n 3, 1) := by decide +kernel
theorem dX6_rowToldAt_3 : decode cX6_rowToldAt 3 = .ok (.aload_n 0, 1) := by decide +kernel
theorem dX6_rowToldAt_4 : decode cX6_rowToldAt 4 = .ok (.getfield 12, 3) := by decide +kernel
theorem dX6_rowToldAt_7 : decode cX6_rowToldAt 7 = .ok (.getfield 31, 3) := by decide +kernel
theorem dX6_rowToldAt_10 : decode cX6_rowToldAt 10 = .ok (.if_icmp .ge 33, 3) := by decide +kernel
theorem dX6_rowToldAt_13 : decode cX6_rowToldAt 13 = .ok (.aload_n 0, 1) := by decide +kernel
theorem dX6_rowToldAt_14 : decode cX6_rowToldAt 14 = .ok (.getfield 25, 3) := by decide +kernel
theorem dX6_rowToldAt_17 : decode cX6_rowToldAt 17 = .ok (.iload_n 3, 1) := by decide +kernel
theorem dX6_rowToldAt_18 : decode cX6_rowToldAt 18 = .ok (.iaload, 1) := by decide +kernel
theorem dX6_rowToldAt_19 : decode cX6_rowToldAt 19 = .ok (.iload_n 2, 1) := by decide +kernel
theorem dX6_rowToldAt_20 : decode cX6_rowToldAt 20 = .ok (.if_icmp .ne 17, 3) := by decide +kernel
theorem dX6_rowToldAt_23 : decode cX6_rowToldAt 23 = .ok (.aload_n 0, 1) := by decide +kernel
theorem dX6_rowToldAt_24 : decode cX6_rowToldAt 24 = .ok (.getfield 12, 3) := by decide +kernel
theorem dX6_rowToldAt_27 : decode cX6_rowToldAt 27 = .ok (.iload_n 3, 1) := by decide +kernel
theorem dX6_rowToldAt_28 : decode cX6_rowToldAt 28 = .ok (.iload_n 1, 1) := by decide +kernel
theorem dX6_rowToldAt_29 : decode cX6_rowToldAt 29 = .ok (.invokevirtual 68, 3) := by decide +kernel
theorem dX6_rowToldAt_32 : decode cX6_rowToldAt 32 = .ok (.ifCond .eq 5, 3) := by decide +kernel
theorem dX6_rowToldAt_35 : decode cX6_rowToldAt 35 = .ok (.iload_n 3, 1) := by decide +kernel
theorem dX6_rowToldAt_36 : decode cX6_rowToldAt 36 = .ok (.ireturn, 1) := by decide +kernel
theorem dX6_rowToldAt_37 : decode cX6_rowToldAt 37 = .ok (.iinc 3 1, 3) := by decide +kernel
theorem dX6_rowToldAt_40 : decode cX6_rowToldAt 40 = .ok (.goto (-38), 3) := by decide +kernel
theorem dX6_rowToldAt_43 : decode cX6_rowToldAt 43 = .ok (.iconst (-1), 1) := by decide +kernel
theorem dX6_rowToldAt_44 : decode cX6_rowToldAt 44 = .ok (.ireturn, 1) := by decide +kernel
theorem dX10_knownSigns_0 : decode cX10_knownSigns 0 = .ok (.aload_n 0, 1) := by decide +kernel
theorem dX10_knownSigns_1 : decode cX10_knownSigns 1 = .ok (.getfield 73, 3) := by decide +kernel
theorem dX10_knownSigns_4 : decode cX10_knownSigns 4 = .ok (.getfield 343, 3) := by decide +kernel
theorem dX10_knownSigns_7 : decode cX10_knownSigns 7 = .ok (.ifCond .ne 22, 3) := by decide +kernel
theorem dX10_knownSigns_10 : decode cX10_knownSigns 10 = .ok (.aload_n 0, 1) := by decide +kernel
theorem dX10_knownSigns_11 : decode cX10_knownSigns 11 = .ok (.getfield 73, 3) := by decide +kernel
theorem dX10_knownSigns_14 : decode cX10_knownSigns 14 = .ok (.aload_n 0, 1) := by decide +kernel
theorem dX10_knownSigns_15 : decode cX10_knownSigns 15 = .ok (.getfield 19, 3) := by decide +kernel
theorem dX10_knownSigns_18 : decode cX10_knownSigns 18 = .ok (.invokevirtual 351, 3) := by decide +kernel
theorem dX10_knownSigns_21 : decode cX10_knownSigns 21 = .ok (.aload_n 0, 1) := by decide +kernel
theorem dX10_knownSigns_22 : decode cX10_knownSigns 22 = .ok (.getfield 73, 3) := by decide +kernel
theorem dX10_knownSigns_25 : decode cX10_knownSigns 25 = .ok (.iconst 1, 1) := by decide +kernel
theorem dX10_knownSigns_26 : decode cX10_knownSigns 26 = .ok (.putfield 343, 3) := by decide +kernel
theorem dX10_knownSigns_29 : decode cX10_knownSigns 29 = .ok (.aload_n 0, 1) := by decide +kernel
theorem dX10_knownSigns_30 : decode cX10_knownSigns 30 = .ok (.getfield 73, 3) := by decide +kernel
theorem dX10_knownSigns_33 : decode cX10_knownSigns 33 = .ok (.getfield 354, 3) := by decide +kernel
theorem dX10_knownSigns_36 : decode cX10_knownSigns 36 = .ok (.areturn, 1) := by decide +kernel
theorem dX10_signed_0 : decode cX10_signed 0 = .ok (.aload_n 0, 1) := by decide +kernel
theorem dX10_signed_1 : decode cX10_signed 1 = .ok (.getfield 19, 3) := by decide +kernel
theorem dX10_signed_4 : decode cX10_signed 4 = .ok (.iload_n 1, 1) := by decide +kernel
theorem dX10_signed_5 : decode cX10_signed 5 = .ok (.iload_n 2, 1) := by decide +kernel
theorem dX10_signed_6 : decode cX10_signed 6 = .ok (.invokevirtual 126, 3) := by decide +kernel
theorem dX10_signed_9 : decode cX10_signed 9 = .ok (.ifCond .eq 15, 3) := by decide +kernel
theorem dX10_signed_12 : decode cX10_signed 12 = .ok (.aload_n 0, 1) := by decide +kernel
theorem dX10_signed_13 : decode cX10_signed 13 = .ok (.invokevirtual 229, 3) := by decide +kernel
theorem dX10_signed_16 : decode cX10_signed 16 = .ok (.iload_n 1, 1) := by decide +kernel
theorem dX10_signed_17 : decode cX10_signed 17 = .ok (.iload_n 2, 1) := by decide +kernel
theorem dX10_signed_18 : decode cX10_signed 18 = .ok (.invokevirtual 133, 3) := by decide +kernel
theorem dX10_signed_21 : decode cX10_signed 21 = .ok (.goto 5, 3) := by decide +kernel
theorem dX10_signed_24 : decode cX10_signed 24 = .ok (.ldc 145, 2) := by decide +kernel
theorem dX10_signed_26 : decode cX10_signed 26 = .ok (.ireturn, 1) := by decide +kernel
theorem dX10_regular_0 : decode cX10_regular 0 = .ok (.aload_n 0, 1) := by decide +kernel
theorem dX10_regular_1 : decode cX10_regular 1 = .ok (.getfield 19, 3) := by decide +kernel
theorem dX10_regular_4 : decode cX10_regular 4 = .ok (.invokevirtual 152, 3) := by decide +kernel
theorem dX10_regular_7 : decode cX10_regular 7 = .ok (.ifCond .eq 5, 3) := by decide +kernel
theorem dX10_regular_10 : decode cX10_regular 10 = .ok (.iconst (-1), 1) := by decide +kernel
theorem dX10_regular_11 : decode cX10_regular 11 = .ok (.ireturn, 1) := by decide +kernel
theorem dX10_regular_12 : decode cX10_regular 12 = .ok (.aload_n 0, 1) := by decide +kernel
theorem dX10_regular_13 : decode cX10_regular 13 = .ok (.aload_n 0, 1) := by decide +kernel
theorem dX10_regular_14 : decode cX10_regular 14 = .ok (.invokevirtual 229, 3) := by decide +kernel
theorem dX10_regular_17 : decode cX10_regular 17 = .ok (.invokevirtual 233, 3) := by decide +kernel
theorem dX10_regular_20 : decode cX10_regular 20 = .ok (.ifCond .eq 7, 3) := by decide +kernel
theorem dX10_regular_23 : decode cX10_regular 23 = .ok (.iconst 1, 1) := by decide +kernel
theorem dX10_regular_24 : decode cX10_regular 24 = .ok (.goto 4, 3) := by decide +kernel
theorem dX10_regular_27 : decode cX10_regular 27 = .ok (.iconst 0, 1) := by decide +kernel
theorem dX10_regular_28 : decode cX10_regular 28 = .ok (.ireturn, 1) := by decide +kernel
theorem rch_par2 {T : tb} {g : Nat} (hg : 6 ≤ g) : ∀ n b, rch T g n b → ∃ m, m ≤ n ∧ rch T g m b ∧ (b < 6 → m % 2 = 1) ∧ (6 ≤ b → m % 2 = 0)
  | 0, b, h => by
    have e : b = g := h
    exact ⟨0, Nat.le_refl _, h, fun z => by omega, fun _ => rfl⟩
  | n + 1, b, h => by
    rcases h with h | ⟨a, h1, h2, h3⟩
    · obtain ⟨m, q1, q2, q3, q4⟩ := rch_par2 hg n b h
      exact ⟨m, by omega, q2, q3, q4⟩
    · obtain ⟨m, q1, q2, q3, q4⟩ := rch_par2 hg n a h2
      refine ⟨m + 1, by omega, Or.inr ⟨a, h1, q2, h3⟩, fun z => ?_, fun z => ?_⟩
      · rcases h3 with ⟨y1, y2, _⟩ | ⟨y1, y2, _⟩
        · omega
        · have := q4 y1; omega
      · rcases h3 with ⟨y1, y2, _⟩ | ⟨y1, y2, _⟩
        · have := q3 y1; omega
        · omega
/-- a distance up to n, or 1000 -/
def DV (U : tb) (g n : Nat) (v : Int32) (b : Nat) : Prop := (∃ k, k ≤ n ∧ v = nI k ∧ ds U g b k) ∨ (v = 1000 ∧ ¬ rch U g n b)
theorem DV.up {U : tb} {g n b : Nat} {v : Int32} (h : DV U g n v b) (q : rch U g (n + 1) b → rch U g n b) : DV U g (n + 1) v b := by
  rcases h with ⟨k, h1, h2, h3⟩ | ⟨h1, h2⟩
  · exact Or.inl ⟨k, by omega, h2, h3⟩
  · exact Or.inr ⟨h1, fun z => h2 (q z)⟩
theorem DV.eq {U : tb} {g n b k : Nat} {v : Int32} (h : DV U g n v b) (hn : n ≤ 12) (hk : k ≤ 12) : (v = nI k) → ds U g b k := fun e => by
  rcases h with ⟨j, h1, h2, h3⟩ | ⟨h1, h2⟩
  · have : j = k := (nI_eq (by omega) (by omega)).mp (by rw [← h2, e])
    subst this; exact h3
  · rw [h1, show (1000 : Int32) = nI 1000 from rfl] at e
    have := (nI_eq (by decide) (by omega)).mp e; omega
theorem DV.of {U : tb} {g n b k : Nat} {v : Int32} (h : DV U g n v b) (hk : ds U g b k) (hkn : k ≤ n) : v = nI k := by
  rcases h with ⟨j, h1, h2, h3⟩ | ⟨h1, h2⟩
  · rw [h2, ds_u h3 hk]
  · exact absurd (rch_mono hk.1 n hkn) h2
theorem DV.far {U : tb} {g n b : Nat} {v : Int32} (h : DV U g n v b) (hn : n ≤ 12) : v = 1000 ↔ ¬ rch U g n b := by
  rcases h with ⟨j, h1, h2, h3⟩ | ⟨h1, h2⟩
  · constructor
    · intro z
      rw [h2, show (1000 : Int32) = nI 1000 from rfl] at z
      have := (nI_eq (by omega) (by decide)).mp z; omega
    · intro z; exact absurd (rch_mono h3.1 n h1) z
  · exact ⟨fun _ => h2, fun _ => h1⟩
/-- what the signing's rows hold -/
def MSd (σ : sg) (U : tb) (g n m : Nat) : Prop := (∀ r, r < U.1 → DV U g n (σ.2.2 i_rowsFar r) r) ∧ ∀ c, c < U.2.1 → DV U g m (σ.2.2 i_columnsFar c) (6 + c)
noncomputable def ctF (σ : sg) (U : tb) (r : Nat) (f : Int32) (c : Nat) : Option Nat := cnd (σ.2.2 i_columnsFar c = f ∧ ¬ U.2.2 r c = 0) (some c) none
noncomputable def rtF (σ : sg) (U : tb) (c : Nat) (f : Int32) (r : Nat) : Option Nat := cnd (σ.2.2 i_rowsFar r = f ∧ ¬ U.2.2 r c = 0) (some r) none
theorem c_colTold {σ : sg} {x : aW} {U : tb} (h : CT σ i_signs U) {r : Nat} (hr : r < U.1) (f : Int32) : Mt mX6_columnToldAt 1 0 0 [.ref i_signing, .int (nI r), .int f] (wd σ x) (QI (o2i (fs (ctF σ U r f) 0 U.2.1)) (wd σ x)) := by
  refine Mt.of MI_X6_columnToldAt (Nat.le_of_ble_eq_true rfl) (fun X hC hR hT => ?_)
  obtain ⟨k1, k2, k3, k4, k5⟩ := id h
  have loop : ∀ c, c ≤ U.2.1 → fs (ctF σ U r f) 0 U.2.1 = fs (ctF σ U r f) c (U.2.1 - c) → Rw mX6_columnToldAt X 2 [some (.ref i_signing), some (.int (nI r)), some (.int f), some (.int (nI c))] [] (wd σ x) 0 0 := by
    refine up_loop U.2.1 ?_ ?_
    · intro e
      rw [fs_0 (Nat.le_refl _)] at e
      refine R_iload_n (i := 3) hC dX6_columnToldAt_2 rfl rfl (R_aload_n (i := 0) hC dX6_columnToldAt_3 rfl rfl (R_gR hC dX6_columnToldAt_4 fl_X6_12 L_signing rfl (R_gI hC dX6_columnToldAt_7 fl_X6_35 L_signs rfl ?_)))
      refine R_top (y := nI U.2.1) (k2) ?_
      refine R_icmp_ge hC 43 dX6_columnToldAt_10 (by decide) (fun _ => ?_) (fun h => absurd (Int32.le_refl _) h)
      refine R_iconst (v := (-1)) hC dX6_columnToldAt_43 (by decide) ?_
      exact R_iret hC hT dX6_columnToldAt_44 rfl ⟨by rw [e]; rfl, rfl⟩
    · intro c hc ih e
      have nx : ¬ (σ.2.2 i_columnsFar c = f ∧ ¬ U.2.2 r c = 0) → Rw mX6_columnToldAt X 37 [some (.ref i_signing), some (.int (nI r)), some (.int f), some (.int (nI c))] [] (wd σ x) 0 0 := by
        intro z
        refine R_iinc hC dX6_columnToldAt_37 rfl (inc1 _) (by decide) rfl (R_goto hC 2 dX6_columnToldAt_40 (by decide) ?_)
        exact ih (by rw [e, fs_n hc (by unfold ctF; rw [cnd_f z])])
      refine R_iload_n (i := 3) hC dX6_columnToldAt_2 rfl rfl (R_aload_n (i := 0) hC dX6_columnToldAt_3 rfl rfl (R_gR hC dX6_columnToldAt_4 fl_X6_12 L_signing rfl (R_gI hC dX6_columnToldAt_7 fl_X6_35 L_signs rfl ?_)))
      refine R_top (y := nI U.2.1) (k2) ?_
      refine R_icmp_ge hC 43 dX6_columnToldAt_10 (by decide) (fun h => absurd h (nI_ge hc (by omega))) (fun _ => ?_)
      refine R_aload_n (i := 0) hC dX6_columnToldAt_13 rfl rfl (R_gR hC dX6_columnToldAt_14 fl_X6_28 L_signing rfl (R_iload_n (i := 3) hC dX6_columnToldAt_17 rfl rfl (R_aI hC dX6_columnToldAt_18 L_columnsFar c rfl (by omega) (by decide) (R_iload_n (i := 2) hC dX6_columnToldAt_19 rfl rfl ?_))))
      refine R_icmp_ne hC 37 dX6_columnToldAt_20 (by decide) (fun h20 => ?_) (fun h20 => ?_)
      · first | exact nx (fun z => h20 z.1) | exact nx (fun z => z.2 h32)
      · refine R_aload_n (i := 0) hC dX6_columnToldAt_23 rfl rfl (R_gR hC dX6_columnToldAt_24 fl_X6_12 L_signing rfl (R_iload_n (i := 1) hC dX6_columnToldAt_27 rfl rfl (R_iload_n (i := 3) hC dX6_columnToldAt_28 rfl rfl ?_)))
        refine R_V2i hC hR dX6_columnToldAt_29 MV_X7_at ml_X6_68 L_signs rfl (c_atN TL_signs h hr hc) (by first | decide | omega) ⟨by decide, by decide⟩ (Nat.le_of_ble_eq_true rfl) ?_
        refine R_if_eq hC 37 dX6_columnToldAt_32 (by decide) (fun h32 => ?_) (fun h32 => ?_)
        · first | exact nx (fun z => h20 z.1) | exact nx (fun z => z.2 h32)
        · refine R_iload_n (i := 3) hC dX6_columnToldAt_35 rfl rfl ?_
          exact R_iret hC hT dX6_columnToldAt_36 rfl ⟨by rw [e, fs_y hc (v := c) (by unfold ctF; rw [cnd_t ⟨h20, h32⟩])]; rfl, rfl⟩
  refine R_iconst (v := 0) hC dX6_columnToldAt_0 (by decide) (R_istore_n (i := 3) hC dX6_columnToldAt_1 rfl (by decide) rfl ?_)
  exact loop 0 (Nat.zero_le _) (by rw [Nat.sub_zero])
theorem c_rowTold {σ : sg} {x : aW} {U : tb} (h : CT σ i_signs U) {c : Nat} (hc0 : c < U.2.1) (f : Int32) : Mt mX6_rowToldAt 1 0 0 [.ref i_signing, .int (nI c), .int f] (wd σ x) (QI (o2i (fs (rtF σ U c f) 0 U.1)) (wd σ x)) := by
  refine Mt.of MI_X6_rowToldAt (Nat.le_of_ble_eq_true rfl) (fun X hC hR hT => ?_)
  obtain ⟨k1, k2, k3, k4, k5⟩ := id h
  have loop : ∀ r, r ≤ U.1 → fs (rtF σ U c f) 0 U.1 = fs (rtF σ U c f) r (U.1 - r) → Rw mX6_rowToldAt X 2 [some (.ref i_signing), some (.int (nI c)), some (.int f), some (.int (nI r))] [] (wd σ x) 0 0 := by
    refine up_loop U.1 ?_ ?_
    · intro e
      rw [fs_0 (Nat.le_refl _)] at e
      refine R_iload_n (i := 3) hC dX6_rowToldAt_2 rfl rfl (R_aload_n (i := 0) hC dX6_rowToldAt_3 rfl rfl (R_gR hC dX6_rowToldAt_4 fl_X6_12 L_signing rfl (R_gI hC dX6_rowToldAt_7 fl_X6_31 L_signs rfl ?_)))
      refine R_top (y := nI U.1) (k1) ?_
      refine R_icmp_ge hC 43 dX6_rowToldAt_10 (by decide) (fun _ => ?_) (fun h => absurd (Int32.le_refl _) h)
      refine R_iconst (v := (-1)) hC dX6_rowToldAt_43 (by decide) ?_
      exact R_iret hC hT dX6_rowToldAt_44 rfl ⟨by rw [e]; rfl, rfl⟩
    · intro r hr ih e
      have nx : ¬ (σ.2.2 i_rowsFar r = f ∧ ¬ U.2.2 r c = 0) → Rw mX6_rowToldAt X 37 [some (.ref i_signing), some (.int (nI c)), some (.int f), some (.int (nI r))] [] (wd σ x) 0 0 := by
        intro z
        refine R_iinc hC dX6_rowToldAt_37 rfl (inc1 _) (by decide) rfl (R_goto hC 2 dX6_rowToldAt_40 (by decide) ?_)
        exact ih (by rw [e, fs_n hr (by unfold rtF; rw [cnd_f z])])
      refine R_iload_n (i := 3) hC dX6_rowToldAt_2 rfl rfl (R_aload_n (i := 0) hC dX6_rowToldAt_3 rfl rfl (R_gR hC dX6_rowToldAt_4 fl_X6_12 L_signing rfl (R_gI hC dX6_rowToldAt_7 fl_X6_31 L_signs rfl ?_)))
      refine R_top (y := nI U.1) (k1) ?_
      refine R_icmp_ge hC 43 dX6_rowToldAt_10 (by decide) (fun h => absurd h (nI_ge hr (by omega))) (fun _ => ?_)
      refine R_aload_n (i := 0) hC dX6_rowToldAt_13 rfl rfl (R_gR hC dX6_rowToldAt_14 fl_X6_25 L_signing rfl (R_iload_n (i := 3) hC dX6_rowToldAt_17 rfl rfl (R_aI hC dX6_rowToldAt_18 L_rowsFar r rfl (by omega) (by decide) (R_iload_n (i := 2) hC dX6_rowToldAt_19 rfl rfl ?_))))
      refine R_icmp_ne hC 37 dX6_rowToldAt_20 (by decide) (fun h20 => ?_) (fun h20 => ?_)
      · first | exact nx (fun z => h20 z.1) | exact nx (fun z => z.2 h32)
      · refine R_aload_n (i := 0) hC dX6_rowToldAt_23 rfl rfl (R_gR hC dX6_rowToldAt_24 fl_X6_12 L_signing rfl (R_iload_n (i := 3) hC dX6_rowToldAt_27 rfl rfl (R_iload_n (i := 1) hC dX6_rowToldAt_28 rfl rfl ?_)))
        refine R_V2i hC hR dX6_rowToldAt_29 MV_X7_at ml_X6_68 L_signs rfl (c_atN TL_signs h hr hc0) (by first | decide | omega) ⟨by decide, by decide⟩ (Nat.le_of_ble_eq_true rfl) ?_
        refine R_if_eq hC 37 dX6_rowToldAt_32 (by decide) (fun h32 => ?_) (fun h32 => ?_)
        · first | exact nx (fun z => h20 z.1) | exact nx (fun z => z.2 h32)
        · refine R_iload_n (i := 3) hC dX6_rowToldAt_35 rfl rfl ?_
          exact R_iret hC hT dX6_rowToldAt_36 rfl ⟨by rw [e, fs_y hr (v := r) (by unfold rtF; rw [cnd_t ⟨h20, h32⟩])]; rfl, rfl⟩
  refine R_iconst (v := 0) hC dX6_rowToldAt_0 (by decide) (R_istore_n (i := 3) hC dX6_rowToldAt_1 rfl (by decide) rfl ?_)
  exact loop 0 (Nat.zero_le _) (by rw [Nat.sub_zero])
theorem fs_none {A : Type} {h : Nat → Option A} : ∀ n a, fs h a n = none → ∀ i, a ≤ i → i < a + n → h i = none
  | 0, a, _, i, h1, h2 => by omega
  | n + 1, a, e, i, h1, h2 => by
    cases q : h a with
    | none =>
      have e2 : fs h (a + 1) n = none := by have := fs_n (h := h) (a := a) (b := a + (n + 1)) (by omega) q; rw [show a + (n + 1) - a = n + 1 by omega, show a + (n + 1) - (a + 1) = n by omega] at this; rw [← this]; exact e
      rcases (by omega : i = a ∨ a + 1 ≤ i) with z | z
      · rw [z]; exact q
      · exact fs_none n (a + 1) e2 i z (by omega)
    | some v =>
      have := fs_y (h := h) (a := a) (b := a + (n + 1)) (by omega) q
      rw [show a + (n + 1) - a = n + 1 by omega, e] at this; cases this
theorem o2i_m (o : Option Nat) (h : ∀ p, o = some p → p < 2 ^ 31) : ¬ o2i o = -1 ↔ ∃ p, o = some p := by
  rw [o2i_n h]
  cases o <;> simp
theorem ct_in {σ : sg} {U : tb} {r : Nat} {f : Int32} {p : Nat} (e : fs (ctF σ U r f) 0 U.2.1 = some p) : p < U.2.1 ∧ σ.2.2 i_columnsFar p = f ∧ ¬ U.2.2 r p = 0 := by
  obtain ⟨i, _, h2, h3⟩ := fs_in _ _ e
  unfold ctF at h3
  by_cases q : σ.2.2 i_columnsFar i = f ∧ ¬ U.2.2 r i = 0
  · rw [cnd_t q] at h3; cases h3; exact ⟨by omega, q⟩
  · rw [cnd_f q] at h3; cases h3
theorem rt_in {σ : sg} {U : tb} {c : Nat} {f : Int32} {p : Nat} (e : fs (rtF σ U c f) 0 U.1 = some p) : p < U.1 ∧ σ.2.2 i_rowsFar p = f ∧ ¬ U.2.2 p c = 0 := by
  obtain ⟨i, _, h2, h3⟩ := fs_in _ _ e
  unfold rtF at h3
  by_cases q : σ.2.2 i_rowsFar i = f ∧ ¬ U.2.2 i c = 0
  · rw [cnd_t q] at h3; cases h3; exact ⟨by omega, q⟩
  · rw [cnd_f q] at h3; cases h3
/-- rows come a step nearer -/
theorem c_reachRows {σ : sg} {x : aW} {U : tb} {g n : Nat} (h : CT σ i_signs U) (hg : 6 ≤ g) (hn : n ≤ 10) (hn2 : n % 2 = 0) (hm : MSd σ U g n n) : Mt mX6_reachRows 2 0 0 [.ref i_signing, .int (nI (n + 1))] (wd σ x) (fun r w => r = none ∧ ∃ τ, w = wd τ x ∧ AE [129] σ τ ∧ MSd τ U g (n + 1) (n + 1)) := by
  refine Mt.of MI_X6_reachRows (Nat.le_of_ble_eq_true rfl) (fun X hC hR hT => ?_)
  obtain ⟨k1, k2, k3, k4, k5⟩ := id h
  have loop : ∀ r, r ≤ U.1 → ∀ τ, AE [129] σ τ → (∀ q, q < U.1 → if q < r then DV U g (n + 1) (τ.2.2 i_rowsFar q) q else DV U g n (τ.2.2 i_rowsFar q) q) → Rw mX6_reachRows X 2 [some (.ref i_signing), some (.int (nI (n + 1))), some (.int (nI r))] [] (wd τ x) 0 0 := by
    refine up_loop U.1 ?_ ?_
    · intro τ e hq
      have ht : CT τ i_signs U := h.ae e (by decide) (by decide)
      refine R_iload_n (i := 2) hC dX6_reachRows_2 rfl rfl (R_aload_n (i := 0) hC dX6_reachRows_3 rfl rfl (R_gR hC dX6_reachRows_4 fl_X6_12 L_signing rfl (R_gI hC dX6_reachRows_7 fl_X6_31 L_signs rfl ?_)))
      refine R_top (y := nI U.1) (ht.1) ?_
      refine R_icmp_ge hC 50 dX6_reachRows_10 (by decide) (fun _ => ?_) (fun h => absurd (Int32.le_refl _) h)
      exact R_vret hC hT dX6_reachRows_50 rfl ⟨rfl, τ, rfl, e, fun q hl => by have := hq q hl; rwa [if_pos hl] at this, fun c hc => by
        rw [(e 130 (by decide)).2.2]
        refine (hm.2 c hc).up (fun z => ?_)
        obtain ⟨m, m1, m2, m3, m4⟩ := rch_par2 hg _ _ z
        have := m4 (by omega)
        exact rch_mono m2 n (by omega)⟩
    · intro r hr ih τ e hq
      have ht : CT τ i_signs U := h.ae e (by decide) (by decide)
      have dv := hq r hr
      rw [if_neg (by omega)] at dv
      have cf : ∀ c, c < U.2.1 → DV U g n (τ.2.2 i_columnsFar c) (6 + c) := fun c hc => by rw [(e 130 (by decide)).2.2]; exact hm.2 c hc
      have ex : (∃ p, fs (ctF τ U r (nI n)) 0 U.2.1 = some p) ↔ ∃ c, c < U.2.1 ∧ ds U g (6 + c) n ∧ ¬ U.2.2 r c = 0 := by
        constructor
        · rintro ⟨p, z⟩
          obtain ⟨z1, z2, z3⟩ := ct_in z
          exact ⟨p, z1, (cf p z1).eq (by omega) (by omega) z2, z3⟩
        · rintro ⟨c, z1, z2, z3⟩
          cases q : fs (ctF τ U r (nI n)) 0 U.2.1 with
          | some p => exact ⟨p, rfl⟩
          | none =>
            have := fs_none _ _ q c (Nat.zero_le _) (by omega)
            unfold ctF at this
            rw [cnd_t ⟨(cf c z1).of z2 (Nat.le_refl _), z3⟩] at this
            cases this
      have om := o2i_m (fs (ctF τ U r (nI n)) 0 U.2.1) (fun p z => by have := (ct_in z).1; omega)
      have nx : ∀ τ', AE [129] σ τ' → (∀ q, q ≠ r → τ'.2.2 i_rowsFar q = τ.2.2 i_rowsFar q) → DV U g (n + 1) (τ'.2.2 i_rowsFar r) r → Rw mX6_reachRows X 44 [some (.ref i_signing), some (.int (nI (n + 1))), some (.int (nI r))] [] (wd τ' x) 0 0 := by
        intro τ' e' hs hd
        refine R_iinc hC dX6_reachRows_44 rfl (inc1 _) (by decide) rfl (R_goto hC 2 dX6_reachRows_47 (by decide) ?_)
        exact ih τ' e' (fun q hl => by
          by_cases y : q = r
          · subst y; rw [if_pos (by omega)]; exact hd
          · rw [hs q y]
            have := hq q hl
            by_cases y2 : q < r
            · rw [if_pos y2] at this; rw [if_pos (by omega)]; exact this
            · rw [if_neg y2] at this; rw [if_neg (by omega)]; exact this)
      have adjc : ∀ c, c < U.2.1 → ¬ U.2.2 r c = 0 → adj U (6 + c) r := fun c z1 z2 => Or.inr ⟨by omega, by omega, by rw [Nat.add_sub_cancel_left]; exact ⟨hr, z1, z2⟩⟩
      have up : rch U g (n + 1) r → ¬ rch U g n r → ∃ c, c < U.2.1 ∧ ds U g (6 + c) n ∧ ¬ U.2.2 r c = 0 := by
        rintro (z | ⟨a, a12, z1, z2⟩) y
        · exact absurd z y
        · rcases z2 with ⟨_, w1, _⟩ | ⟨w1, _, w2, w3, w4⟩
          · omega
          · refine ⟨a - 6, w3, ?_, w4⟩
            rw [show 6 + (a - 6) = a by omega]
            exact ⟨z1, fun m hm2 w => y (rch_mono (n := m + 1) (Or.inr ⟨a, a12, w, Or.inr ⟨w1, by omega, w2, w3, w4⟩⟩) n (by omega))⟩
      refine R_iload_n (i := 2) hC dX6_reachRows_2 rfl rfl (R_aload_n (i := 0) hC dX6_reachRows_3 rfl rfl (R_gR hC dX6_reachRows_4 fl_X6_12 L_signing rfl (R_gI hC dX6_reachRows_7 fl_X6_31 L_signs rfl ?_)))
      refine R_top (y := nI U.1) (ht.1) ?_
      refine R_icmp_ge hC 50 dX6_reachRows_10 (by decide) (fun h => absurd h (nI_ge hr (by omega))) (fun _ => ?_)
      refine R_aload_n (i := 0) hC dX6_reachRows_13 rfl rfl (R_gR hC dX6_reachRows_14 fl_X6_25 L_signing rfl (R_iload_n (i := 2) hC dX6_reachRows_17 rfl rfl (R_aI hC dX6_reachRows_18 L_rowsFar r rfl (by omega) (by decide) (R_sipush (v := 1000) hC dX6_reachRows_19 (by decide) ?_))))
      refine R_icmp_ne hC 44 dX6_reachRows_22 (by decide) (fun h22 => ?_) (fun h22 => ?_)
      · first
        | (have z := mt (dv.far (by omega)).mpr h22; exact nx τ e (fun _ _ => rfl) (dv.up (fun _ => Classical.byContradiction z)))
        | (have z := (dv.far (by omega)).mp h22
           have y : ¬ ∃ p, fs (ctF τ U r (nI n)) 0 U.2.1 = some p := fun w => om.mpr w h34
           exact nx τ e (fun _ _ => rfl) (dv.up (fun w => absurd (ex.mpr (up w z)) y)))
        | (have z := (dv.far (by omega)).mp h22
           obtain ⟨c, c1, c2, c3⟩ := ex.mp (om.mp h34)
           exact nx _ (e.a (by decide)) (fun q hq2 => by rw [sA_eq]; exact if_neg hq2) (by rw [sA_eq]; unfold upd; rw [if_pos rfl]; exact Or.inl ⟨n + 1, Nat.le_refl _, rfl, Or.inr ⟨6 + c, by omega, c2.1, adjc c c1 c3⟩, fun m hm2 w => z (rch_mono w n (by omega))⟩))
      · refine R_aload_n (i := 0) hC dX6_reachRows_25 rfl rfl (R_iload_n (i := 2) hC dX6_reachRows_26 rfl rfl (R_iload_n (i := 1) hC dX6_reachRows_27 rfl rfl (R_iconst (v := 1) hC dX6_reachRows_28 (by decide) (R_isub hC dX6_reachRows_29 ?_))))
        refine R_top (y := nI n) (nI_pred n) ?_
        refine R_V2i hC hR dX6_reachRows_30 MV_X6_columnToldAt ml_X6_82 L_signing rfl (c_colTold ht hr (nI n)) (by first | decide | omega) ⟨by decide, by decide⟩ (Nat.le_of_ble_eq_true rfl) ?_
        refine R_iconst (v := (-1)) hC dX6_reachRows_33 (by decide) ?_
        refine R_icmp_eq hC 44 dX6_reachRows_34 (by decide) (fun h34 => ?_) (fun h34 => ?_)
        · first
          | (have z := mt (dv.far (by omega)).mpr h22; exact nx τ e (fun _ _ => rfl) (dv.up (fun _ => Classical.byContradiction z)))
          | (have z := (dv.far (by omega)).mp h22
             have y : ¬ ∃ p, fs (ctF τ U r (nI n)) 0 U.2.1 = some p := fun w => om.mpr w h34
             exact nx τ e (fun _ _ => rfl) (dv.up (fun w => absurd (ex.mpr (up w z)) y)))
          | (have z := (dv.far (by omega)).mp h22
             obtain ⟨c, c1, c2, c3⟩ := ex.mp (om.mp h34)
             exact nx _ (e.a (by decide)) (fun q hq2 => by rw [sA_eq]; exact if_neg hq2) (by rw [sA_eq]; unfold upd; rw [if_pos rfl]; exact Or.inl ⟨n + 1, Nat.le_refl _, rfl, Or.inr ⟨6 + c, by omega, c2.1, adjc c c1 c3⟩, fun m hm2 w => z (rch_mono w n (by omega))⟩))
        · refine R_aload_n (i := 0) hC dX6_reachRows_37 rfl rfl (R_gR hC dX6_reachRows_38 fl_X6_25 L_signing rfl (R_iload_n (i := 2) hC dX6_reachRows_41 rfl rfl (R_iload_n (i := 1) hC dX6_reachRows_42 rfl rfl (R_sI hC dX6_reachRows_43 L_rowsFar r rfl (by omega) (by decide) ?_))))
          first
          | (have z := mt (dv.far (by omega)).mpr h22; exact nx τ e (fun _ _ => rfl) (dv.up (fun _ => Classical.byContradiction z)))
          | (have z := (dv.far (by omega)).mp h22
             have y : ¬ ∃ p, fs (ctF τ U r (nI n)) 0 U.2.1 = some p := fun w => om.mpr w h34
             exact nx τ e (fun _ _ => rfl) (dv.up (fun w => absurd (ex.mpr (up w z)) y)))
          | (have z := (dv.far (by omega)).mp h22
             obtain ⟨c, c1, c2, c3⟩ := ex.mp (om.mp h34)
             exact nx _ (e.a (by decide)) (fun q hq2 => by rw [sA_eq]; exact if_neg hq2) (by rw [sA_eq]; unfold upd; rw [if_pos rfl]; exact Or.inl ⟨n + 1, Nat.le_refl _, rfl, Or.inr ⟨6 + c, by omega, c2.1, adjc c c1 c3⟩, fun m hm2 w => z (rch_mono w n (by omega))⟩))
  refine R_iconst (v := 0) hC dX6_reachRows_0 (by decide) (R_istore_n (i := 2) hC dX6_reachRows_1 rfl (by decide) rfl ?_)
  exact loop 0 (Nat.zero_le _) σ (AE.rf _ _) (fun q hl => by rw [if_neg (Nat.not_lt_zero _)]; exact hm.1 q hl)
theorem c_reachCols {σ : sg} {x : aW} {U : tb} {g n : Nat} (h : CT σ i_signs U) (hg : 6 ≤ g) (hn : n ≤ 11) (hn2 : n % 2 = 1) (hm : MSd σ U g n n) : Mt mX6_reachColumns 2 0 0 [.ref i_signing, .int (nI (n + 1))] (wd σ x) (fun r w => r = none ∧ ∃ τ, w = wd τ x ∧ AE [130] σ τ ∧ MSd τ U g (n + 1) (n + 1)) := by
  refine Mt.of MI_X6_reachColumns (Nat.le_of_ble_eq_true rfl) (fun X hC hR hT => ?_)
  obtain ⟨k1, k2, k3, k4, k5⟩ := id h
  have loop : ∀ r, r ≤ U.2.1 → ∀ τ, AE [130] σ τ → (∀ q, q < U.2.1 → if q < r then DV U g (n + 1) (τ.2.2 i_columnsFar q) (6 + q) else DV U g n (τ.2.2 i_columnsFar q) (6 + q)) → Rw mX6_reachColumns X 2 [some (.ref i_signing), some (.int (nI (n + 1))), some (.int (nI r))] [] (wd τ x) 0 0 := by
    refine up_loop U.2.1 ?_ ?_
    · intro τ e hq
      have ht : CT τ i_signs U := h.ae e (by decide) (by decide)
      refine R_iload_n (i := 2) hC dX6_reachColumns_2 rfl rfl (R_aload_n (i := 0) hC dX6_reachColumns_3 rfl rfl (R_gR hC dX6_reachColumns_4 fl_X6_12 L_signing rfl (R_gI hC dX6_reachColumns_7 fl_X6_35 L_signs rfl ?_)))
      refine R_top (y := nI U.2.1) (ht.2.1) ?_
      refine R_icmp_ge hC 50 dX6_reachColumns_10 (by decide) (fun _ => ?_) (fun h => absurd (Int32.le_refl _) h)
      exact R_vret hC hT dX6_reachColumns_50 rfl ⟨rfl, τ, rfl, e, fun c hc => by
        rw [(e 129 (by decide)).2.2]
        refine (hm.1 c hc).up (fun z => ?_)
        obtain ⟨m, m1, m2, m3, m4⟩ := rch_par2 hg _ _ z
        have := m3 (by omega)
        exact rch_mono m2 n (by omega), fun q hl => by have := hq q hl; rwa [if_pos hl] at this⟩
    · intro r hr ih τ e hq
      have ht : CT τ i_signs U := h.ae e (by decide) (by decide)
      have dv := hq r hr
      rw [if_neg (by omega)] at dv
      have cf : ∀ c, c < U.1 → DV U g n (τ.2.2 i_rowsFar c) c := fun c hc => by rw [(e 129 (by decide)).2.2]; exact hm.1 c hc
      have ex : (∃ p, fs (rtF τ U r (nI n)) 0 U.1 = some p) ↔ ∃ c, c < U.1 ∧ ds U g c n ∧ ¬ U.2.2 c r = 0 := by
        constructor
        · rintro ⟨p, z⟩
          obtain ⟨z1, z2, z3⟩ := rt_in z
          exact ⟨p, z1, (cf p z1).eq (by omega) (by omega) z2, z3⟩
        · rintro ⟨c, z1, z2, z3⟩
          cases q : fs (rtF τ U r (nI n)) 0 U.1 with
          | some p => exact ⟨p, rfl⟩
          | none =>
            have := fs_none _ _ q c (Nat.zero_le _) (by omega)
            unfold rtF at this
            rw [cnd_t ⟨(cf c z1).of z2 (Nat.le_refl _), z3⟩] at this
            cases this
      have om := o2i_m (fs (rtF τ U r (nI n)) 0 U.1) (fun p z => by have := (rt_in z).1; omega)
      have nx : ∀ τ', AE [130] σ τ' → (∀ q, q ≠ r → τ'.2.2 i_columnsFar q = τ.2.2 i_columnsFar q) → DV U g (n + 1) (τ'.2.2 i_columnsFar r) (6 + r) → Rw mX6_reachColumns X 44 [some (.ref i_signing), some (.int (nI (n + 1))), some (.int (nI r))] [] (wd τ' x) 0 0 := by
        intro τ' e' hs hd
        refine R_iinc hC dX6_reachColumns_44 rfl (inc1 _) (by decide) rfl (R_goto hC 2 dX6_reachColumns_47 (by decide) ?_)
        exact ih τ' e' (fun q hl => by
          by_cases y : q = r
          · subst y; rw [if_pos (by omega)]; exact hd
          · rw [hs q y]
            have := hq q hl
            by_cases y2 : q < r
            · rw [if_pos y2] at this; rw [if_pos (by omega)]; exact this
            · rw [if_neg y2] at this; rw [if_neg (by omega)]; exact this)
      have adjc : ∀ c, c < U.1 → ¬ U.2.2 c r = 0 → adj U c (6 + r) := fun c z1 z2 => Or.inl ⟨by omega, by omega, by rw [Nat.add_sub_cancel_left]; exact ⟨z1, hr, z2⟩⟩
      have up : rch U g (n + 1) (6 + r) → ¬ rch U g n (6 + r) → ∃ c, c < U.1 ∧ ds U g c n ∧ ¬ U.2.2 c r = 0 := by
        rintro (z | ⟨a, a12, z1, z2⟩) y
        · exact absurd z y
        · rcases z2 with ⟨w1, w0, w2, w3, w4⟩ | ⟨_, w1, _⟩
          · rw [Nat.add_sub_cancel_left] at w3 w4
            exact ⟨a, w2, ⟨z1, fun m hm2 w => y (rch_mono (n := m + 1) (Or.inr ⟨a, a12, w, Or.inl ⟨w1, w0, by rw [Nat.add_sub_cancel_left]; exact ⟨w2, w3, w4⟩⟩⟩) n (by omega))⟩, w4⟩
          · omega
      refine R_iload_n (i := 2) hC dX6_reachColumns_2 rfl rfl (R_aload_n (i := 0) hC dX6_reachColumns_3 rfl rfl (R_gR hC dX6_reachColumns_4 fl_X6_12 L_signing rfl (R_gI hC dX6_reachColumns_7 fl_X6_35 L_signs rfl ?_)))
      refine R_top (y := nI U.2.1) (ht.2.1) ?_
      refine R_icmp_ge hC 50 dX6_reachColumns_10 (by decide) (fun h => absurd h (nI_ge hr (by omega))) (fun _ => ?_)
      refine R_aload_n (i := 0) hC dX6_reachColumns_13 rfl rfl (R_gR hC dX6_reachColumns_14 fl_X6_28 L_signing rfl (R_iload_n (i := 2) hC dX6_reachColumns_17 rfl rfl (R_aI hC dX6_reachColumns_18 L_columnsFar r rfl (by omega) (by decide) (R_sipush (v := 1000) hC dX6_reachColumns_19 (by decide) ?_))))
      refine R_icmp_ne hC 44 dX6_reachColumns_22 (by decide) (fun h22 => ?_) (fun h22 => ?_)
      · first
        | (have z := mt (dv.far (by omega)).mpr h22; exact nx τ e (fun _ _ => rfl) (dv.up (fun _ => Classical.byContradiction z)))
        | (have z := (dv.far (by omega)).mp h22
           have y : ¬ ∃ p, fs (rtF τ U r (nI n)) 0 U.1 = some p := fun w => om.mpr w h34
           exact nx τ e (fun _ _ => rfl) (dv.up (fun w => absurd (ex.mpr (up w z)) y)))
        | (have z := (dv.far (by omega)).mp h22
           obtain ⟨c, c1, c2, c3⟩ := ex.mp (om.mp h34)
           exact nx _ (e.a (by decide)) (fun q hq2 => by rw [sA_eq]; exact if_neg hq2) (by rw [sA_eq]; unfold upd; rw [if_pos rfl]; exact Or.inl ⟨n + 1, Nat.le_refl _, rfl, Or.inr ⟨c, by omega, c2.1, adjc c c1 c3⟩, fun m hm2 w => z (rch_mono w n (by omega))⟩))
      · refine R_aload_n (i := 0) hC dX6_reachColumns_25 rfl rfl (R_iload_n (i := 2) hC dX6_reachColumns_26 rfl rfl (R_iload_n (i := 1) hC dX6_reachColumns_27 rfl rfl (R_iconst (v := 1) hC dX6_reachColumns_28 (by decide) (R_isub hC dX6_reachColumns_29 ?_))))
        refine R_top (y := nI n) (nI_pred n) ?_
        refine R_V2i hC hR dX6_reachColumns_30 MV_X6_rowToldAt ml_X6_85 L_signing rfl (c_rowTold ht hr (nI n)) (by first | decide | omega) ⟨by decide, by decide⟩ (Nat.le_of_ble_eq_true rfl) ?_
        refine R_iconst (v := (-1)) hC dX6_reachColumns_33 (by decide) ?_
        refine R_icmp_eq hC 44 dX6_reachColumns_34 (by decide) (fun h34 => ?_) (fun h34 => ?_)
        · first
          | (have z := mt (dv.far (by omega)).mpr h22; exact nx τ e (fun _ _ => rfl) (dv.up (fun _ => Classical.byContradiction z)))
          | (have z := (dv.far (by omega)).mp h22
             have y : ¬ ∃ p, fs (rtF τ U r (nI n)) 0 U.1 = some p := fun w => om.mpr w h34
             exact nx τ e (fun _ _ => rfl) (dv.up (fun w => absurd (ex.mpr (up w z)) y)))
          | (have z := (dv.far (by omega)).mp h22
             obtain ⟨c, c1, c2, c3⟩ := ex.mp (om.mp h34)
             exact nx _ (e.a (by decide)) (fun q hq2 => by rw [sA_eq]; exact if_neg hq2) (by rw [sA_eq]; unfold upd; rw [if_pos rfl]; exact Or.inl ⟨n + 1, Nat.le_refl _, rfl, Or.inr ⟨c, by omega, c2.1, adjc c c1 c3⟩, fun m hm2 w => z (rch_mono w n (by omega))⟩))
        · refine R_aload_n (i := 0) hC dX6_reachColumns_37 rfl rfl (R_gR hC dX6_reachColumns_38 fl_X6_28 L_signing rfl (R_iload_n (i := 2) hC dX6_reachColumns_41 rfl rfl (R_iload_n (i := 1) hC dX6_reachColumns_42 rfl rfl (R_sI hC dX6_reachColumns_43 L_columnsFar r rfl (by omega) (by decide) ?_))))
          first
          | (have z := mt (dv.far (by omega)).mpr h22; exact nx τ e (fun _ _ => rfl) (dv.up (fun _ => Classical.byContradiction z)))
          | (have z := (dv.far (by omega)).mp h22
             have y : ¬ ∃ p, fs (rtF τ U r (nI n)) 0 U.1 = some p := fun w => om.mpr w h34
             exact nx τ e (fun _ _ => rfl) (dv.up (fun w => absurd (ex.mpr (up w z)) y)))
          | (have z := (dv.far (by omega)).mp h22
             obtain ⟨c, c1, c2, c3⟩ := ex.mp (om.mp h34)
             exact nx _ (e.a (by decide)) (fun q hq2 => by rw [sA_eq]; exact if_neg hq2) (by rw [sA_eq]; unfold upd; rw [if_pos rfl]; exact Or.inl ⟨n + 1, Nat.le_refl _, rfl, Or.inr ⟨c, by omega, c2.1, adjc c c1 c3⟩, fun m hm2 w => z (rch_mono w n (by omega))⟩))
  refine R_iconst (v := 0) hC dX6_reachColumns_0 (by decide) (R_istore_n (i := 2) hC dX6_reachColumns_1 rfl (by decide) rfl ?_)
  exact loop 0 (Nat.zero_le _) σ (AE.rf _ _) (fun q hl => by rw [if_neg (Nat.not_lt_zero _)]; exact hm.2 q hl)
theorem c_measure {σ : sg} {x : aW} {U : tb} (h : CT σ i_signs U) {c : Nat} (hc : c < U.2.1) : Mt mX6_measureFrom 3 0 0 [.ref i_signing, .int (nI c)] (wd σ x) (fun r w => r = none ∧ ∃ τ, w = wd τ x ∧ AE [129, 130] σ τ ∧ MSd τ U (6 + c) 12 12) := by
  refine Mt.of MI_X6_measureFrom (Nat.le_of_ble_eq_true rfl) (fun X hC hR hT => ?_)
  obtain ⟨k1, k2, k3, k4, k5⟩ := id h
  have two : ∀ i, i ≤ 6 → ∀ τ, AE [129, 130] σ τ → MSd τ U (6 + c) (2 * i) (2 * i) → Rw mX6_measureFrom X 43 [some (.ref i_signing), some (.int (nI c)), some (.int (nI (2 * i + 1)))] [] (wd τ x) 0 0 := by
    refine up_loop 6 ?_ ?_
    · intro τ e hm
      refine R_iload_n (i := 2) hC dX6_measureFrom_43 rfl rfl (R_bipush (v := 12) hC dX6_measureFrom_44 (by decide) ?_)
      refine R_icmp_ge hC 67 dX6_measureFrom_46 (by decide) (fun _ => ?_) (fun h => absurd (by decide) h)
      exact R_vret hC hT dX6_measureFrom_67 rfl ⟨rfl, τ, rfl, e, hm⟩
    · intro i hi ih τ e hm
      refine R_iload_n (i := 2) hC dX6_measureFrom_43 rfl rfl (R_bipush (v := 12) hC dX6_measureFrom_44 (by decide) ?_)
      refine R_icmp_ge hC 67 dX6_measureFrom_46 (by decide) (fun h => absurd h (nI_ge (b := 12) (by omega) (by decide))) (fun _ => ?_)
      refine R_aload_n (i := 0) hC dX6_measureFrom_49 rfl rfl (R_iload_n (i := 2) hC dX6_measureFrom_50 rfl rfl ?_)
      refine R_V1g hC hR dX6_measureFrom_51 MV_X6_reachRows ml_X6_76 L_signing rfl (c_reachRows (h.ae e (by decide) (by decide)) (by omega) (n := 2 * i) (by omega) (by omega) hm) (by first | decide | omega) ⟨by decide, by decide⟩ (Nat.le_of_ble_eq_true rfl) (fun r w1 hq => ?_)
      obtain ⟨rfl, υ, rfl, e2, hm2⟩ := hq
      refine R_aload_n (i := 0) hC dX6_measureFrom_54 rfl rfl (R_iload_n (i := 2) hC dX6_measureFrom_55 rfl rfl (R_iconst (v := 1) hC dX6_measureFrom_56 (by decide) (R_iadd hC dX6_measureFrom_57 ?_)))
      refine R_top (y := nI (2 * i + 1 + 1)) (nI_1 _) ?_
      refine R_V1g hC hR dX6_measureFrom_58 MV_X6_reachColumns ml_X6_79 L_signing rfl (c_reachCols ((h.ae e (by decide) (by decide)).ae e2 (by decide) (by decide)) (by omega) (n := 2 * i + 1) (by omega) (by omega) hm2) (by first | decide | omega) ⟨by decide, by decide⟩ (Nat.le_of_ble_eq_true rfl) (fun r w1 hq => ?_)
      obtain ⟨rfl, ω, rfl, e3, hm3⟩ := hq
      refine R_iinc hC dX6_measureFrom_61 rfl (show nI (2 * i + 1) + Int32.ofInt 2 = nI (2 * (i + 1) + 1) from by rw [show Int32.ofInt 2 = nI 2 from rfl, nI_add, show 2 * i + 1 + 2 = 2 * (i + 1) + 1 by omega]) (by decide) rfl (R_goto hC 43 dX6_measureFrom_64 (by decide) ?_)
      exact ih ω ((e.tr (e2.w (by decide))).tr (e3.w (by decide))) hm3
  have one : ∀ n, n ≤ 6 → ∀ τ, AE [129, 130] σ τ → (∀ k, k < n → τ.2.2 i_rowsFar k = 1000 ∧ τ.2.2 i_columnsFar k = if k = c then 0 else 1000) → Rw mX6_measureFrom X 2 [some (.ref i_signing), some (.int (nI c)), some (.int (nI n))] [] (wd τ x) 0 0 := by
    refine up_loop 6 ?_ ?_
    · intro τ e hz
      refine R_iload_n (i := 2) hC dX6_measureFrom_2 rfl rfl (R_bipush (v := 6) hC dX6_measureFrom_3 (by decide) ?_)
      refine R_icmp_ge hC 41 dX6_measureFrom_5 (by decide) (fun _ => ?_) (fun h => absurd (by decide) h)
      refine R_iconst (v := 1) hC dX6_measureFrom_41 (by decide) (R_istore_n (i := 2) hC dX6_measureFrom_42 rfl (by decide) rfl ?_)
      exact two 0 (by decide) τ e ⟨fun r hr => by
        rw [(hz r (by omega)).1]
        exact Or.inr ⟨rfl, fun z => by have z : r = 6 + c := z; omega⟩, fun q hq => by
        rw [(hz q (by omega)).2]
        by_cases y : q = c
        · rw [if_pos y, y]; exact Or.inl ⟨0, Nat.le_refl _, rfl, rfl, fun m hm => absurd hm (Nat.not_lt_zero _)⟩
        · rw [if_neg y]; exact Or.inr ⟨rfl, fun z => by have z : 6 + q = 6 + c := z; omega⟩⟩
    · intro n hn ih τ e hz
      have ceq := nI_eq (a := n) (b := c) (by omega) (by omega)
      have nx : ∀ v, v = (if n = c then (0 : Int32) else 1000) → Rw mX6_measureFrom X 34 [some (.ref i_signing), some (.int (nI c)), some (.int (nI n))] [.int v, .int (nI n), .ref i_columnsFar] (wd (sA τ i_rowsFar (upd (τ.2.2 i_rowsFar) n 1000)) x) 0 0 := by
        intro v hv
        refine R_sI hC dX6_measureFrom_34 L_columnsFar n rfl hn (by decide) ?_
        refine R_iinc hC dX6_measureFrom_35 rfl (inc1 _) (by decide) rfl (R_goto hC 2 dX6_measureFrom_38 (by decide) ?_)
        exact ih _ ((e.a (by decide)).a (by decide)) (fun k hk => by
          refine ⟨?_, ?_⟩
          · rw [sA_ne (by decide), sA_eq]; unfold upd; split
            · rfl
            · exact (hz k (by omega)).1
          · rw [sA_eq, sA_ne (by decide)]; unfold upd
            by_cases y : k = n
            · rw [if_pos y, hv, y]
            · rw [if_neg y]; exact (hz k (by omega)).2)
      refine R_iload_n (i := 2) hC dX6_measureFrom_2 rfl rfl (R_bipush (v := 6) hC dX6_measureFrom_3 (by decide) ?_)
      refine R_icmp_ge hC 41 dX6_measureFrom_5 (by decide) (fun h => absurd h (nI_ge (b := 6) hn (by decide))) (fun _ => ?_)
      refine R_aload_n (i := 0) hC dX6_measureFrom_8 rfl rfl (R_gR hC dX6_measureFrom_9 fl_X6_25 L_signing rfl (R_iload_n (i := 2) hC dX6_measureFrom_12 rfl rfl (R_sipush (v := 1000) hC dX6_measureFrom_13 (by decide) (R_sI hC dX6_measureFrom_16 L_rowsFar n rfl hn (by decide) (R_aload_n (i := 0) hC dX6_measureFrom_17 rfl rfl (R_gR hC dX6_measureFrom_18 fl_X6_28 L_signing rfl (R_iload_n (i := 2) hC dX6_measureFrom_21 rfl rfl ?_)))))))
      refine R_iload_n (i := 2) hC dX6_measureFrom_22 rfl rfl (R_iload_n (i := 1) hC dX6_measureFrom_23 rfl rfl ?_)
      refine R_icmp_ne hC 31 dX6_measureFrom_24 (by decide) (fun h24 => ?_) (fun h24 => ?_)
      · refine R_sipush (v := 1000) hC dX6_measureFrom_31 (by decide) ?_
        first | (have z := ceq.mp h24; exact nx _ (if_pos z).symm) | (have z : ¬ n = c := fun y => h24 (ceq.mpr y); exact nx _ (if_neg z).symm)
      · refine R_iconst (v := 0) hC dX6_measureFrom_27 (by decide) (R_goto hC 34 dX6_measureFrom_28 (by decide) ?_)
        first | (have z := ceq.mp h24; exact nx _ (if_pos z).symm) | (have z : ¬ n = c := fun y => h24 (ceq.mpr y); exact nx _ (if_neg z).symm)
  refine R_iconst (v := 0) hC dX6_measureFrom_0 (by decide) (R_istore_n (i := 2) hC dX6_measureFrom_1 rfl (by decide) rfl ?_)
  exact one 0 (by decide) σ (AE.rf _ _) (fun k hk => absurd hk (Nat.not_lt_zero _))
