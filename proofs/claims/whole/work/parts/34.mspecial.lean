theorem dX11_isLaid_0 : decode cX11_isLaid 0 = .ok (.iconst 0, 1) := by decide +kernel
theorem dX11_isLaid_1 : decode cX11_isLaid 1 = .ok (.istore_n 1, 1) := by decide +kernel
theorem dX11_isLaid_2 : decode cX11_isLaid 2 = .ok (.iload_n 1, 1) := by decide +kernel
theorem dX11_isLaid_3 : decode cX11_isLaid 3 = .ok (.iconst 5, 1) := by decide +kernel
theorem dX11_isLaid_4 : decode cX11_isLaid 4 = .ok (.if_icmp .ge 54, 3) := by decide +kernel
theorem dX11_isLaid_7 : decode cX11_isLaid 7 = .ok (.iconst 0, 1) := by decide +kernel
theorem dX11_isLaid_8 : decode cX11_isLaid 8 = .ok (.istore_n 2, 1) := by decide +kernel
theorem dX11_isLaid_9 : decode cX11_isLaid 9 = .ok (.iload_n 2, 1) := by decide +kernel
theorem dX11_isLaid_10 : decode cX11_isLaid 10 = .ok (.iconst 5, 1) := by decide +kernel
theorem dX11_isLaid_11 : decode cX11_isLaid 11 = .ok (.if_icmp .ge 41, 3) := by decide +kernel
theorem dX11_isLaid_14 : decode cX11_isLaid 14 = .ok (.aload_n 0, 1) := by decide +kernel
theorem dX11_isLaid_15 : decode cX11_isLaid 15 = .ok (.getfield 68, 3) := by decide +kernel
theorem dX11_isLaid_18 : decode cX11_isLaid 18 = .ok (.bipush 6, 2) := by decide +kernel
theorem dX11_isLaid_20 : decode cX11_isLaid 20 = .ok (.iload_n 1, 1) := by decide +kernel
theorem dX11_isLaid_21 : decode cX11_isLaid 21 = .ok (.imul, 1) := by decide +kernel
theorem dX11_isLaid_22 : decode cX11_isLaid 22 = .ok (.iload_n 2, 1) := by decide +kernel
theorem dX11_isLaid_23 : decode cX11_isLaid 23 = .ok (.iadd, 1) := by decide +kernel
theorem dX11_isLaid_24 : decode cX11_isLaid 24 = .ok (.aload_n 0, 1) := by decide +kernel
theorem dX11_isLaid_25 : decode cX11_isLaid 25 = .ok (.getfield 13, 3) := by decide +kernel
theorem dX11_isLaid_28 : decode cX11_isLaid 28 = .ok (.bipush 6, 2) := by decide +kernel
theorem dX11_isLaid_30 : decode cX11_isLaid 30 = .ok (.aload_n 0, 1) := by decide +kernel
theorem dX11_isLaid_31 : decode cX11_isLaid 31 = .ok (.getfield 71, 3) := by decide +kernel
theorem dX11_isLaid_34 : decode cX11_isLaid 34 = .ok (.iload_n 1, 1) := by decide +kernel
theorem dX11_isLaid_35 : decode cX11_isLaid 35 = .ok (.iaload, 1) := by decide +kernel
theorem dX11_isLaid_36 : decode cX11_isLaid 36 = .ok (.imul, 1) := by decide +kernel
theorem dX11_isLaid_37 : decode cX11_isLaid 37 = .ok (.aload_n 0, 1) := by decide +kernel
theorem dX11_isLaid_38 : decode cX11_isLaid 38 = .ok (.getfield 74, 3) := by decide +kernel
theorem dX11_isLaid_41 : decode cX11_isLaid 41 = .ok (.iload_n 2, 1) := by decide +kernel
theorem dX11_isLaid_42 : decode cX11_isLaid 42 = .ok (.iaload, 1) := by decide +kernel
theorem dX11_isLaid_43 : decode cX11_isLaid 43 = .ok (.iadd, 1) := by decide +kernel
theorem dX11_isLaid_44 : decode cX11_isLaid 44 = .ok (.iaload, 1) := by decide +kernel
theorem dX11_isLaid_45 : decode cX11_isLaid 45 = .ok (.iastore, 1) := by decide +kernel
theorem dX11_isLaid_46 : decode cX11_isLaid 46 = .ok (.iinc 2 1, 3) := by decide +kernel
theorem dX11_isLaid_49 : decode cX11_isLaid 49 = .ok (.goto (-40), 3) := by decide +kernel
theorem dX11_isLaid_52 : decode cX11_isLaid 52 = .ok (.iinc 1 1, 3) := by decide +kernel
theorem dX11_isLaid_55 : decode cX11_isLaid 55 = .ok (.goto (-53), 3) := by decide +kernel
theorem dX11_isLaid_58 : decode cX11_isLaid 58 = .ok (.aload_n 0, 1) := by decide +kernel
theorem dX11_isLaid_59 : decode cX11_isLaid 59 = .ok (.getfield 68, 3) := by decide +kernel
theorem dX11_isLaid_62 : decode cX11_isLaid 62 = .ok (.bipush 36, 2) := by decide +kernel
theorem dX11_isLaid_64 : decode cX11_isLaid 64 = .ok (.iconst 5, 1) := by decide +kernel
theorem dX11_isLaid_65 : decode cX11_isLaid 65 = .ok (.iastore, 1) := by decide +kernel
theorem dX11_isLaid_66 : decode cX11_isLaid 66 = .ok (.aload_n 0, 1) := by decide +kernel
theorem dX11_isLaid_67 : decode cX11_isLaid 67 = .ok (.getfield 68, 3) := by decide +kernel
theorem dX11_isLaid_70 : decode cX11_isLaid 70 = .ok (.bipush 37, 2) := by decide +kernel
theorem dX11_isLaid_72 : decode cX11_isLaid 72 = .ok (.iconst 5, 1) := by decide +kernel
theorem dX11_isLaid_73 : decode cX11_isLaid 73 = .ok (.iastore, 1) := by decide +kernel
theorem dX11_isLaid_74 : decode cX11_isLaid 74 = .ok (.aload_n 0, 1) := by decide +kernel
theorem dX11_isLaid_75 : decode cX11_isLaid 75 = .ok (.aload_n 0, 1) := by decide +kernel
theorem dX11_isLaid_76 : decode cX11_isLaid 76 = .ok (.getfield 68, 3) := by decide +kernel
theorem dX11_isLaid_79 : decode cX11_isLaid 79 = .ok (.aload_n 0, 1) := by decide +kernel
theorem dX11_isLaid_80 : decode cX11_isLaid 80 = .ok (.getfield 65, 3) := by decide +kernel
theorem dX11_isLaid_83 : decode cX11_isLaid 83 = .ok (.invokevirtual 286, 3) := by decide +kernel
theorem dX11_isLaid_86 : decode cX11_isLaid 86 = .ok (.ireturn, 1) := by decide +kernel
theorem dX11_doColumns_0 : decode cX11_doColumns 0 = .ok (.iload_n 1, 1) := by decide +kernel
theorem dX11_doColumns_1 : decode cX11_doColumns 1 = .ok (.iconst 5, 1) := by decide +kernel
theorem dX11_doColumns_2 : decode cX11_doColumns 2 = .ok (.if_icmp .ne 8, 3) := by decide +kernel
theorem dX11_doColumns_5 : decode cX11_doColumns 5 = .ok (.aload_n 0, 1) := by decide +kernel
theorem dX11_doColumns_6 : decode cX11_doColumns 6 = .ok (.invokevirtual 290, 3) := by decide +kernel
theorem dX11_doColumns_9 : decode cX11_doColumns 9 = .ok (.ireturn, 1) := by decide +kernel
theorem dX11_doColumns_10 : decode cX11_doColumns 10 = .ok (.iconst 0, 1) := by decide +kernel
theorem dX11_doColumns_11 : decode cX11_doColumns 11 = .ok (.istore_n 3, 1) := by decide +kernel
theorem dX11_doColumns_12 : decode cX11_doColumns 12 = .ok (.iload_n 3, 1) := by decide +kernel
theorem dX11_doColumns_13 : decode cX11_doColumns 13 = .ok (.iconst 5, 1) := by decide +kernel
theorem dX11_doColumns_14 : decode cX11_doColumns 14 = .ok (.if_icmp .ge 127, 3) := by decide +kernel
theorem dX11_doColumns_17 : decode cX11_doColumns 17 = .ok (.iload_n 2, 1) := by decide +kernel
theorem dX11_doColumns_18 : decode cX11_doColumns 18 = .ok (.iload_n 3, 1) := by decide +kernel
theorem dX11_doColumns_19 : decode cX11_doColumns 19 = .ok (.invokestatic 200, 3) := by decide +kernel
theorem dX11_doColumns_22 : decode cX11_doColumns 22 = .ok (.ifCond .eq 6, 3) := by decide +kernel
theorem dX11_doColumns_25 : decode cX11_doColumns 25 = .ok (.goto 110, 3) := by decide +kernel
theorem dX11_doColumns_28 : decode cX11_doColumns 28 = .ok (.iconst 1, 1) := by decide +kernel
theorem dX11_doColumns_29 : decode cX11_doColumns 29 = .ok (.istore 4, 2) := by decide +kernel
theorem dX11_doColumns_31 : decode cX11_doColumns 31 = .ok (.iconst 0, 1) := by decide +kernel
theorem dX11_doColumns_32 : decode cX11_doColumns 32 = .ok (.istore 5, 2) := by decide +kernel
theorem dX11_doColumns_34 : decode cX11_doColumns 34 = .ok (.iload 5, 2) := by decide +kernel
theorem dX11_doColumns_36 : decode cX11_doColumns 36 = .ok (.iconst 5, 1) := by decide +kernel
theorem dX11_doColumns_37 : decode cX11_doColumns 37 = .ok (.if_icmp .ge 69, 3) := by decide +kernel
theorem dX11_doColumns_40 : decode cX11_doColumns 40 = .ok (.iload 4, 2) := by decide +kernel
theorem dX11_doColumns_42 : decode cX11_doColumns 42 = .ok (.ifCond .eq 64, 3) := by decide +kernel
theorem dX11_doColumns_45 : decode cX11_doColumns 45 = .ok (.aload_n 0, 1) := by decide +kernel
theorem dX11_doColumns_46 : decode cX11_doColumns 46 = .ok (.getfield 13, 3) := by decide +kernel
theorem dX11_doColumns_49 : decode cX11_doColumns 49 = .ok (.bipush 6, 2) := by decide +kernel
theorem dX11_doColumns_51 : decode cX11_doColumns 51 = .ok (.aload_n 0, 1) := by decide +kernel
theorem dX11_doColumns_52 : decode cX11_doColumns 52 = .ok (.getfield 71, 3) := by decide +kernel
theorem dX11_doColumns_55 : decode cX11_doColumns 55 = .ok (.iload 5, 2) := by decide +kernel
theorem dX11_doColumns_57 : decode cX11_doColumns 57 = .ok (.iaload, 1) := by decide +kernel
theorem dX11_doColumns_58 : decode cX11_doColumns 58 = .ok (.imul, 1) := by decide +kernel
theorem dX11_doColumns_59 : decode cX11_doColumns 59 = .ok (.iload_n 3, 1) := by decide +kernel
theorem dX11_doColumns_60 : decode cX11_doColumns 60 = .ok (.iadd, 1) := by decide +kernel
theorem dX11_doColumns_61 : decode cX11_doColumns 61 = .ok (.iaload, 1) := by decide +kernel
theorem dX11_doColumns_62 : decode cX11_doColumns 62 = .ok (.ifCond .ne 7, 3) := by decide +kernel
theorem dX11_doColumns_65 : decode cX11_doColumns 65 = .ok (.iconst 1, 1) := by decide +kernel
theorem dX11_doColumns_66 : decode cX11_doColumns 66 = .ok (.goto 4, 3) := by decide +kernel
theorem dX11_doColumns_69 : decode cX11_doColumns 69 = .ok (.iconst 0, 1) := by decide +kernel
theorem dX11_doColumns_70 : decode cX11_doColumns 70 = .ok (.aload_n 0, 1) := by decide +kernel
theorem dX11_doColumns_71 : decode cX11_doColumns 71 = .ok (.getfield 65, 3) := by decide +kernel
theorem dX11_doColumns_74 : decode cX11_doColumns 74 = .ok (.bipush 6, 2) := by decide +kernel
theorem dX11_doColumns_76 : decode cX11_doColumns 76 = .ok (.iload 5, 2) := by decide +kernel
theorem dX11_doColumns_78 : decode cX11_doColumns 78 = .ok (.imul, 1) := by decide +kernel
theorem dX11_doColumns_79 : decode cX11_doColumns 79 = .ok (.iload_n 1, 1) := by decide +kernel
theorem dX11_doColumns_80 : decode cX11_doColumns 80 = .ok (.iadd, 1) := by decide +kernel
theorem dX11_doColumns_81 : decode cX11_doColumns 81 = .ok (.iaload, 1) := by decide +kernel
theorem dX11_doColumns_82 : decode cX11_doColumns 82 = .ok (.ifCond .ne 7, 3) := by decide +kernel
theorem dX11_doColumns_85 : decode cX11_doColumns 85 = .ok (.iconst 1, 1) := by decide +kernel
theorem dX11_doColumns_86 : decode cX11_doColumns 86 = .ok (.goto 4, 3) := by decide +kernel
theorem dX11_doColumns_89 : decode cX11_doColumns 89 = .ok (.iconst 0, 1) := by decide +kernel
theorem dX11_doColumns_90 : decode cX11_doColumns 90 = .ok (.if_icmp .ne 7, 3) := by decide +kernel
theorem dX11_doColumns_93 : decode cX11_doColumns 93 = .ok (.iconst 1, 1) := by decide +kernel
theorem dX11_doColumns_94 : decode cX11_doColumns 94 = .ok (.goto 4, 3) := by decide +kernel
theorem dX11_doColumns_97 : decode cX11_doColumns 97 = .ok (.iconst 0, 1) := by decide +kernel
theorem dX11_doColumns_98 : decode cX11_doColumns 98 = .ok (.istore 4, 2) := by decide +kernel
theorem dX11_doColumns_100 : decode cX11_doColumns 100 = .ok (.iinc 5 1, 3) := by decide +kernel
theorem dX11_doColumns_103 : decode cX11_doColumns 103 = .ok (.goto (-69), 3) := by decide +kernel
theorem dX11_doColumns_106 : decode cX11_doColumns 106 = .ok (.aload_n 0, 1) := by decide +kernel
theorem dX11_doColumns_107 : decode cX11_doColumns 107 = .ok (.getfield 74, 3) := by decide +kernel
theorem dX11_doColumns_110 : decode cX11_doColumns 110 = .ok (.iload_n 1, 1) := by decide +kernel
theorem dX11_doColumns_111 : decode cX11_doColumns 111 = .ok (.iload_n 3, 1) := by decide +kernel
theorem dX11_doColumns_112 : decode cX11_doColumns 112 = .ok (.iastore, 1) := by decide +kernel
theorem dX11_doColumns_113 : decode cX11_doColumns 113 = .ok (.iload 4, 2) := by decide +kernel
theorem dX11_doColumns_115 : decode cX11_doColumns 115 = .ok (.ifCond .eq 20, 3) := by decide +kernel
theorem dX11_doColumns_118 : decode cX11_doColumns 118 = .ok (.aload_n 0, 1) := by decide +kernel
theorem dX11_doColumns_119 : decode cX11_doColumns 119 = .ok (.iload_n 1, 1) := by decide +kernel
theorem dX11_doColumns_120 : decode cX11_doColumns 120 = .ok (.iconst 1, 1) := by decide +kernel
theorem dX11_doColumns_121 : decode cX11_doColumns 121 = .ok (.iadd, 1) := by decide +kernel
theorem dX11_doColumns_122 : decode cX11_doColumns 122 = .ok (.iload_n 2, 1) := by decide +kernel
theorem dX11_doColumns_123 : decode cX11_doColumns 123 = .ok (.iconst 1, 1) := by decide +kernel
theorem dX11_doColumns_124 : decode cX11_doColumns 124 = .ok (.iload_n 3, 1) := by decide +kernel
theorem dX11_doColumns_125 : decode cX11_doColumns 125 = .ok (.ishl, 1) := by decide +kernel
theorem dX11_doColumns_126 : decode cX11_doColumns 126 = .ok (.ior, 1) := by decide +kernel
theorem dX11_doColumns_127 : decode cX11_doColumns 127 = .ok (.invokevirtual 294, 3) := by decide +kernel
theorem dX11_doColumns_130 : decode cX11_doColumns 130 = .ok (.ifCond .eq 5, 3) := by decide +kernel
theorem dX11_doColumns_133 : decode cX11_doColumns 133 = .ok (.iconst 1, 1) := by decide +kernel
theorem dX11_doColumns_134 : decode cX11_doColumns 134 = .ok (.ireturn, 1) := by decide +kernel
theorem dX11_doColumns_135 : decode cX11_doColumns 135 = .ok (.iinc 3 1, 3) := by decide +kernel
theorem dX11_doColumns_138 : decode cX11_doColumns 138 = .ok (.goto (-126), 3) := by decide +kernel
theorem dX11_doColumns_141 : decode cX11_doColumns 141 = .ok (.iconst 0, 1) := by decide +kernel
theorem dX11_doColumns_142 : decode cX11_doColumns 142 = .ok (.ireturn, 1) := by decide +kernel
theorem dX11_doRows_0 : decode cX11_doRows 0 = .ok (.iload_n 1, 1) := by decide +kernel
theorem dX11_doRows_1 : decode cX11_doRows 1 = .ok (.iconst 5, 1) := by decide +kernel
theorem dX11_doRows_2 : decode cX11_doRows 2 = .ok (.if_icmp .ne 10, 3) := by decide +kernel
theorem dX11_doRows_5 : decode cX11_doRows 5 = .ok (.aload_n 0, 1) := by decide +kernel
theorem dX11_doRows_6 : decode cX11_doRows 6 = .ok (.iconst 0, 1) := by decide +kernel
theorem dX11_doRows_7 : decode cX11_doRows 7 = .ok (.iconst 0, 1) := by decide +kernel
theorem dX11_doRows_8 : decode cX11_doRows 8 = .ok (.invokevirtual 294, 3) := by decide +kernel
theorem dX11_doRows_11 : decode cX11_doRows 11 = .ok (.ireturn, 1) := by decide +kernel
theorem dX11_doRows_12 : decode cX11_doRows 12 = .ok (.iconst 0, 1) := by decide +kernel
theorem dX11_doRows_13 : decode cX11_doRows 13 = .ok (.istore_n 3, 1) := by decide +kernel
theorem dX11_doRows_14 : decode cX11_doRows 14 = .ok (.iload_n 3, 1) := by decide +kernel
theorem dX11_doRows_15 : decode cX11_doRows 15 = .ok (.iconst 5, 1) := by decide +kernel
theorem dX11_doRows_16 : decode cX11_doRows 16 = .ok (.if_icmp .ge 122, 3) := by decide +kernel
theorem dX11_doRows_19 : decode cX11_doRows 19 = .ok (.iload_n 2, 1) := by decide +kernel
theorem dX11_doRows_20 : decode cX11_doRows 20 = .ok (.iload_n 3, 1) := by decide +kernel
theorem dX11_doRows_21 : decode cX11_doRows 21 = .ok (.invokestatic 200, 3) := by decide +kernel
theorem dX11_doRows_24 : decode cX11_doRows 24 = .ok (.ifCond .eq 6, 3) := by decide +kernel
theorem dX11_doRows_27 : decode cX11_doRows 27 = .ok (.goto 105, 3) := by decide +kernel
theorem dX11_doRows_30 : decode cX11_doRows 30 = .ok (.iconst 0, 1) := by decide +kernel
theorem dX11_doRows_31 : decode cX11_doRows 31 = .ok (.istore 4, 2) := by decide +kernel
theorem dX11_doRows_33 : decode cX11_doRows 33 = .ok (.iconst 0, 1) := by decide +kernel
theorem dX11_doRows_34 : decode cX11_doRows 34 = .ok (.istore 5, 2) := by decide +kernel
theorem dX11_doRows_36 : decode cX11_doRows 36 = .ok (.iconst 0, 1) := by decide +kernel
theorem dX11_doRows_37 : decode cX11_doRows 37 = .ok (.istore 6, 2) := by decide +kernel
theorem dX11_doRows_39 : decode cX11_doRows 39 = .ok (.iload 6, 2) := by decide +kernel
theorem dX11_doRows_41 : decode cX11_doRows 41 = .ok (.iconst 5, 1) := by decide +kernel
theorem dX11_doRows_42 : decode cX11_doRows 42 = .ok (.if_icmp .ge 59, 3) := by decide +kernel
theorem dX11_doRows_45 : decode cX11_doRows 45 = .ok (.iload 4, 2) := by decide +kernel
theorem dX11_doRows_47 : decode cX11_doRows 47 = .ok (.aload_n 0, 1) := by decide +kernel
theorem dX11_doRows_48 : decode cX11_doRows 48 = .ok (.getfield 13, 3) := by decide +kernel
theorem dX11_doRows_51 : decode cX11_doRows 51 = .ok (.bipush 6, 2) := by decide +kernel
theorem dX11_doRows_53 : decode cX11_doRows 53 = .ok (.iload_n 3, 1) := by decide +kernel
theorem dX11_doRows_54 : decode cX11_doRows 54 = .ok (.imul, 1) := by decide +kernel
theorem dX11_doRows_55 : decode cX11_doRows 55 = .ok (.iload 6, 2) := by decide +kernel
theorem dX11_doRows_57 : decode cX11_doRows 57 = .ok (.iadd, 1) := by decide +kernel
theorem dX11_doRows_58 : decode cX11_doRows 58 = .ok (.iaload, 1) := by decide +kernel
theorem dX11_doRows_59 : decode cX11_doRows 59 = .ok (.ifCond .ne 7, 3) := by decide +kernel
theorem dX11_doRows_62 : decode cX11_doRows 62 = .ok (.iconst 0, 1) := by decide +kernel
theorem dX11_doRows_63 : decode cX11_doRows 63 = .ok (.goto 4, 3) := by decide +kernel
theorem dX11_doRows_66 : decode cX11_doRows 66 = .ok (.iconst 1, 1) := by decide +kernel
theorem dX11_doRows_67 : decode cX11_doRows 67 = .ok (.iadd, 1) := by decide +kernel
theorem dX11_doRows_68 : decode cX11_doRows 68 = .ok (.istore 4, 2) := by decide +kernel
theorem dX11_doRows_70 : decode cX11_doRows 70 = .ok (.iload 5, 2) := by decide +kernel
theorem dX11_doRows_72 : decode cX11_doRows 72 = .ok (.aload_n 0, 1) := by decide +kernel
theorem dX11_doRows_73 : decode cX11_doRows 73 = .ok (.getfield 65, 3) := by decide +kernel
theorem dX11_doRows_76 : decode cX11_doRows 76 = .ok (.bipush 6, 2) := by decide +kernel
theorem dX11_doRows_78 : decode cX11_doRows 78 = .ok (.iload_n 1, 1) := by decide +kernel
theorem dX11_doRows_79 : decode cX11_doRows 79 = .ok (.imul, 1) := by decide +kernel
theorem dX11_doRows_80 : decode cX11_doRows 80 = .ok (.iload 6, 2) := by decide +kernel
theorem dX11_doRows_82 : decode cX11_doRows 82 = .ok (.iadd, 1) := by decide +kernel
theorem dX11_doRows_83 : decode cX11_doRows 83 = .ok (.iaload, 1) := by decide +kernel
theorem dX11_doRows_84 : decode cX11_doRows 84 = .ok (.ifCond .ne 7, 3) := by decide +kernel
theorem dX11_doRows_87 : decode cX11_doRows 87 = .ok (.iconst 0, 1) := by decide +kernel
theorem dX11_doRows_88 : decode cX11_doRows 88 = .ok (.goto 4, 3) := by decide +kernel
theorem dX11_doRows_91 : decode cX11_doRows 91 = .ok (.iconst 1, 1) := by decide +kernel
theorem dX11_doRows_92 : decode cX11_doRows 92 = .ok (.iadd, 1) := by decide +kernel
theorem dX11_doRows_93 : decode cX11_doRows 93 = .ok (.istore 5, 2) := by decide +kernel
theorem dX11_doRows_95 : decode cX11_doRows 95 = .ok (.iinc 6 1, 3) := by decide +kernel
theorem dX11_doRows_98 : decode cX11_doRows 98 = .ok (.goto (-59), 3) := by decide +kernel
theorem dX11_doRows_101 : decode cX11_doRows 101 = .ok (.aload_n 0, 1) := by decide +kernel
theorem dX11_doRows_102 : decode cX11_doRows 102 = .ok (.getfield 71, 3) := by decide +kernel
theorem dX11_doRows_105 : decode cX11_doRows 105 = .ok (.iload_n 1, 1) := by decide +kernel
theorem dX11_doRows_106 : decode cX11_doRows 106 = .ok (.iload_n 3, 1) := by decide +kernel
theorem dX11_doRows_107 : decode cX11_doRows 107 = .ok (.iastore, 1) := by decide +kernel
theorem dX11_doRows_108 : decode cX11_doRows 108 = .ok (.iload 4, 2) := by decide +kernel
theorem dX11_doRows_110 : decode cX11_doRows 110 = .ok (.iload 5, 2) := by decide +kernel
theorem dX11_doRows_112 : decode cX11_doRows 112 = .ok (.if_icmp .ne 20, 3) := by decide +kernel
theorem dX11_doRows_115 : decode cX11_doRows 115 = .ok (.aload_n 0, 1) := by decide +kernel
theorem dX11_doRows_116 : decode cX11_doRows 116 = .ok (.iload_n 1, 1) := by decide +kernel
theorem dX11_doRows_117 : decode cX11_doRows 117 = .ok (.iconst 1, 1) := by decide +kernel
theorem dX11_doRows_118 : decode cX11_doRows 118 = .ok (.iadd, 1) := by decide +kernel
theorem dX11_doRows_119 : decode cX11_doRows 119 = .ok (.iload_n 2, 1) := by decide +kernel
theorem dX11_doRows_120 : decode cX11_doRows 120 = .ok (.iconst 1, 1) := by decide +kernel
theorem dX11_doRows_121 : decode cX11_doRows 121 = .ok (.iload_n 3, 1) := by decide +kernel
theorem dX11_doRows_122 : decode cX11_doRows 122 = .ok (.ishl, 1) := by decide +kernel
theorem dX11_doRows_123 : decode cX11_doRows 123 = .ok (.ior, 1) := by decide +kernel
theorem dX11_doRows_124 : decode cX11_doRows 124 = .ok (.invokevirtual 297, 3) := by decide +kernel
theorem dX11_doRows_127 : decode cX11_doRows 127 = .ok (.ifCond .eq 5, 3) := by decide +kernel
theorem dX11_doRows_130 : decode cX11_doRows 130 = .ok (.iconst 1, 1) := by decide +kernel
theorem dX11_doRows_131 : decode cX11_doRows 131 = .ok (.ireturn, 1) := by decide +kernel
theorem dX11_doRows_132 : decode cX11_doRows 132 = .ok (.iinc 3 1, 3) := by decide +kernel
theorem dX11_doRows_135 : decode cX11_doRows 135 = .ok (.goto (-121), 3) := by decide +kernel
theorem dX11_doRows_138 : decode cX11_doRows 138 = .ok (.iconst 0, 1) := by decide +kernel
theorem dX11_doRows_139 : decode cX11_doRows 139 = .ok (.ireturn, 1) := by decide +kernel
theorem dX11_special_0 : decode cX11_special 0 = .ok (.aload_n 0, 1) := by decide +kernel
theorem dX11_special_1 : decode cX11_special 1 = .ok (.iconst 0, 1) := by decide +kernel
theorem dX11_special_2 : decode cX11_special 2 = .ok (.putfield 83, 3) := by decide +kernel
theorem dX11_special_5 : decode cX11_special 5 = .ok (.aload_n 0, 1) := by decide +kernel
theorem dX11_special_6 : decode cX11_special 6 = .ok (.getfield 13, 3) := by decide +kernel
theorem dX11_special_9 : decode cX11_special 9 = .ok (.bipush 36, 2) := by decide +kernel
theorem dX11_special_11 : decode cX11_special 11 = .ok (.iaload, 1) := by decide +kernel
theorem dX11_special_12 : decode cX11_special 12 = .ok (.ifCond .ne 5, 3) := by decide +kernel
theorem dX11_special_15 : decode cX11_special 15 = .ok (.iconst (-1), 1) := by decide +kernel
theorem dX11_special_16 : decode cX11_special 16 = .ok (.ireturn, 1) := by decide +kernel
theorem dX11_special_17 : decode cX11_special 17 = .ok (.aload_n 0, 1) := by decide +kernel
theorem dX11_special_18 : decode cX11_special 18 = .ok (.getfield 13, 3) := by decide +kernel
theorem dX11_special_21 : decode cX11_special 21 = .ok (.bipush 36, 2) := by decide +kernel
theorem dX11_special_23 : decode cX11_special 23 = .ok (.iaload, 1) := by decide +kernel
theorem dX11_special_24 : decode cX11_special 24 = .ok (.iconst 5, 1) := by decide +kernel
theorem dX11_special_25 : decode cX11_special 25 = .ok (.if_icmp .ne 14, 3) := by decide +kernel
theorem dX11_special_28 : decode cX11_special 28 = .ok (.aload_n 0, 1) := by decide +kernel
theorem dX11_special_29 : decode cX11_special 29 = .ok (.getfield 13, 3) := by decide +kernel
theorem dX11_special_32 : decode cX11_special 32 = .ok (.bipush 37, 2) := by decide +kernel
theorem dX11_special_34 : decode cX11_special 34 = .ok (.iaload, 1) := by decide +kernel
theorem dX11_special_35 : decode cX11_special 35 = .ok (.iconst 5, 1) := by decide +kernel
theorem dX11_special_36 : decode cX11_special 36 = .ok (.if_icmp .eq 5, 3) := by decide +kernel
theorem dX11_special_39 : decode cX11_special 39 = .ok (.iconst 0, 1) := by decide +kernel
theorem dX11_special_40 : decode cX11_special 40 = .ok (.ireturn, 1) := by decide +kernel
theorem dX11_special_41 : decode cX11_special 41 = .ok (.iconst 1, 1) := by decide +kernel
theorem dX11_special_42 : decode cX11_special 42 = .ok (.istore_n 1, 1) := by decide +kernel
theorem dX11_special_43 : decode cX11_special 43 = .ok (.iload_n 1, 1) := by decide +kernel
theorem dX11_special_44 : decode cX11_special 44 = .ok (.iconst 3, 1) := by decide +kernel
theorem dX11_special_45 : decode cX11_special 45 = .ok (.if_icmp .ge 74, 3) := by decide +kernel
theorem dX11_special_48 : decode cX11_special 48 = .ok (.iconst 0, 1) := by decide +kernel
theorem dX11_special_49 : decode cX11_special 49 = .ok (.istore_n 2, 1) := by decide +kernel
theorem dX11_special_50 : decode cX11_special 50 = .ok (.iload_n 2, 1) := by decide +kernel
theorem dX11_special_51 : decode cX11_special 51 = .ok (.bipush 25, 2) := by decide +kernel
theorem dX11_special_53 : decode cX11_special 53 = .ok (.if_icmp .ge 49, 3) := by decide +kernel
theorem dX11_special_56 : decode cX11_special 56 = .ok (.aload_n 0, 1) := by decide +kernel
theorem dX11_special_57 : decode cX11_special 57 = .ok (.getfield 65, 3) := by decide +kernel
theorem dX11_special_60 : decode cX11_special 60 = .ok (.bipush 6, 2) := by decide +kernel
theorem dX11_special_62 : decode cX11_special 62 = .ok (.iload_n 2, 1) := by decide +kernel
theorem dX11_special_63 : decode cX11_special 63 = .ok (.iconst 5, 1) := by decide +kernel
theorem dX11_special_64 : decode cX11_special 64 = .ok (.idiv, 1) := by decide +kernel
theorem dX11_special_65 : decode cX11_special 65 = .ok (.imul, 1) := by decide +kernel
theorem dX11_special_66 : decode cX11_special 66 = .ok (.iload_n 2, 1) := by decide +kernel
theorem dX11_special_67 : decode cX11_special 67 = .ok (.iconst 5, 1) := by decide +kernel
theorem dX11_special_68 : decode cX11_special 68 = .ok (.irem, 1) := by decide +kernel
theorem dX11_special_69 : decode cX11_special 69 = .ok (.iadd, 1) := by decide +kernel
theorem dX11_special_70 : decode cX11_special 70 = .ok (.ldc 116, 2) := by decide +kernel
theorem dX11_special_72 : decode cX11_special 72 = .ok (.iload_n 1, 1) := by decide +kernel
theorem dX11_special_73 : decode cX11_special 73 = .ok (.iconst 1, 1) := by decide +kernel
theorem dX11_special_74 : decode cX11_special 74 = .ok (.if_icmp .ne 9, 3) := by decide +kernel
theorem dX11_special_77 : decode cX11_special 77 = .ok (.ldc_w 300, 3) := by decide +kernel
theorem dX11_special_80 : decode cX11_special 80 = .ok (.goto 6, 3) := by decide +kernel
theorem dX11_special_83 : decode cX11_special 83 = .ok (.ldc_w 302, 3) := by decide +kernel
theorem dX11_special_86 : decode cX11_special 86 = .ok (.iload_n 2, 1) := by decide +kernel
theorem dX11_special_87 : decode cX11_special 87 = .ok (.invokevirtual 112, 3) := by decide +kernel
theorem dX11_special_90 : decode cX11_special 90 = .ok (.invokestatic 121, 3) := by decide +kernel
theorem dX11_special_93 : decode cX11_special 93 = .ok (.iconst 1, 1) := by decide +kernel
theorem dX11_special_94 : decode cX11_special 94 = .ok (.isub, 1) := by decide +kernel
theorem dX11_special_95 : decode cX11_special 95 = .ok (.iastore, 1) := by decide +kernel
theorem dX11_special_96 : decode cX11_special 96 = .ok (.iinc 2 1, 3) := by decide +kernel
theorem dX11_special_99 : decode cX11_special 99 = .ok (.goto (-49), 3) := by decide +kernel
theorem dX11_special_102 : decode cX11_special 102 = .ok (.aload_n 0, 1) := by decide +kernel
theorem dX11_special_103 : decode cX11_special 103 = .ok (.iconst 0, 1) := by decide +kernel
theorem dX11_special_104 : decode cX11_special 104 = .ok (.iconst 0, 1) := by decide +kernel
theorem dX11_special_105 : decode cX11_special 105 = .ok (.invokevirtual 297, 3) := by decide +kernel
theorem dX11_special_108 : decode cX11_special 108 = .ok (.ifCond .eq 5, 3) := by decide +kernel
theorem dX11_special_111 : decode cX11_special 111 = .ok (.iload_n 1, 1) := by decide +kernel
theorem dX11_special_112 : decode cX11_special 112 = .ok (.ireturn, 1) := by decide +kernel
theorem dX11_special_113 : decode cX11_special 113 = .ok (.iinc 1 1, 3) := by decide +kernel
theorem dX11_special_116 : decode cX11_special 116 = .ok (.goto (-73), 3) := by decide +kernel
theorem dX11_special_119 : decode cX11_special 119 = .ok (.iconst 0, 1) := by decide +kernel
theorem dX11_special_120 : decode cX11_special 120 = .ok (.ireturn, 1) := by decide +kernel
/-! ===== the special tables ===== -/
def prm (T : tb) (ρ γ : Nat → Nat) : tb := (5, 5, fun r c => T.2.2 (ρ r) (γ c))
/-- a choice of columns from n on, that goes on with γ -/
def exC (T : tb) (ρ : Nat → Nat) (G : Nat → Nat → Int32) (n met : Nat) (γ : Nat → Nat) : Prop := ∃ g : Nat → Nat, (∀ j, j < n → g j = γ j) ∧ (∀ j, n ≤ j → j < 5 → g j < 5 ∧ ¬ met.testBit (g j) = true) ∧ (∀ i j, n ≤ i → i < j → j < 5 → g i ≠ g j) ∧ scl (prm T ρ g) G
def exR (T : tb) (G : Nat → Nat → Int32) (n met : Nat) (ρ : Nat → Nat) : Prop := ∃ g : Nat → Nat, (∀ j, j < n → g j = ρ j) ∧ (∀ j, n ≤ j → j < 5 → g j < 5 ∧ ¬ met.testBit (g j) = true) ∧ (∀ i j, n ≤ i → i < j → j < 5 → g i ≠ g j) ∧ exC T g G 0 0 id
theorem scl_z {T : tb} {ρ γ : Nat → Nat} {G : Nat → Nat → Int32} (h : scl (prm T ρ γ) G) (hs : ∀ r c, r < 5 → c < 5 → sml (T.2.2 (ρ r) (γ c))) {r c : Nat} (hr : r < 5) (hc : c < 5) : G r c = 0 ↔ T.2.2 (ρ r) (γ c) = 0 := by
  obtain ⟨φ, p1, p2⟩ := h
  have e : G r c = φ r * φ (6 + c) * T.2.2 (ρ r) (γ c) := p2 r c hr hc
  rw [e]
  rcases p1 r with a | a <;> rcases p1 (6 + c) with b | b <;> rcases hs r c hr hc with d | d | d <;> rw [a, b, d] <;> decide
theorem cnO_inj {p : Nat → Prop} {γ : Nat → Nat} {m : Nat} : ∀ n, ∀ (q : Nat → Prop), (∀ k, q k → p k) → (∀ j, j < n → γ j < m) → (∀ i j, i < j → j < n → γ i ≠ γ j) → cnO (fun j => q (γ j)) n ≤ cnO q m
  | 0, _, _, _, _ => Nat.zero_le _
  | n + 1, q, hq, h1, h2 => by
    by_cases e : q (γ n)
    · have hb := cnO_one (p := q) (q := fun k => q k ∧ k ≠ γ n) (b := γ n) e (fun z => z.2 rfl) m (h1 n (by omega)) (fun k hk => ⟨fun z => ⟨z, hk⟩, fun z => z.1⟩)
      have ih := cnO_inj n (fun k => q k ∧ k ≠ γ n) (fun k z => hq k z.1) (fun j hj => h1 j (by omega)) (fun i j a b => h2 i j a (by omega))
      have ex := cnO_ext (p := fun j => q (γ j)) (q := fun j => q (γ j) ∧ γ j ≠ γ n) n (fun k hk => ⟨fun z => ⟨z, h2 k n hk (by omega)⟩, fun z => z.1⟩)
      rw [cnO_y (p := fun j => q (γ j)) e, ex]
      omega
    · rw [cnO_n (p := fun j => q (γ j)) e]
      exact cnO_inj n q hq (fun j hj => h1 j (by omega)) (fun i j a b => h2 i j a (by omega))
theorem cnO_cmp {p : Nat → Prop} : ∀ n, cnO p n + cnO (fun k => ¬ p k) n = n
  | 0 => rfl
  | n + 1 => by
    have ih := cnO_cmp (p := p) n
    by_cases e : p n
    · rw [cnO_y e, cnO_n (p := fun k => ¬ p k) (fun z => z e)]; omega
    · rw [cnO_n e, cnO_y (p := fun k => ¬ p k) e]; omega
theorem cnO_perm {p : Nat → Prop} {γ : Nat → Nat} {n : Nat} (h1 : ∀ j, j < n → γ j < n) (h2 : ∀ i j, i < j → j < n → γ i ≠ γ j) : cnO (fun j => p (γ j)) n = cnO p n := by
  have a := cnO_inj n p (fun _ z => z) h1 h2
  have b := cnO_inj n (fun k => ¬ p k) (p := fun k => ¬ p k) (fun _ z => z) h1 h2
  have c := cnO_cmp (p := p) n
  have d := cnO_cmp (p := fun j => p (γ j)) n
  omega
/-- the scratch rows of the search -/
def LZ (σ ω : sg) (α : aS) (G : Nat → Nat → Int32) (ρ : Nat → Nat) (n : Nat) : Prop := MZ σ ω α ∧ (∀ r c, r < 5 → c < 5 → ω.2.2 i_m_goal (6 * r + c) = G r c) ∧ ∀ r, r < n → ω.2.2 i_m_rowsLaid r = nI (ρ r)
theorem LZ.a {σ ω : sg} {α : aS} {G : Nat → Nat → Int32} {ρ : Nat → Nat} {n : Nat} (h : LZ σ ω α G ρ n) {i : Nat} {f : Nat → Int32} (hc : i_M ≤ i) (hi : i ≠ i_m_tape ∧ i ≠ i_m_now ∧ i ≠ i_m_kept ∧ i ≠ i_m_plan ∧ i ≠ i_m_planLong ∧ i ≠ i_m_status ∧ i ≠ i_m_undoRow ∧ i ≠ i_m_imageRow) (h1 : i_m_goal ≠ i) (h2 : i_m_rowsLaid ≠ i) : LZ σ (sA ω i f) α G ρ n :=
  ⟨h.1.a hc hi, fun r c hr hc => by rw [sA_ne h1]; exact h.2.1 r c hr hc, fun r hr => by rw [sA_ne h2]; exact h.2.2 r hr⟩
theorem s_isLaid {σ : sg} {x : aW} {α : aS} {ω : sg} {G : Nat → Nat → Int32} {ρ γ : Nat → Nat} (hz : LZ σ ω α G ρ 5) (ok : aOK α) (d1 : (tT α).1 = 5) (d2 : (tT α).2.1 = 5) (hG : ∀ r c, r < 5 → c < 5 → sml (G r c)) (hρ : ∀ r, r < 5 → ρ r < 5) (hγ : ∀ r, r < 5 → γ r < 5) (hc : ∀ c, c < 5 → ω.2.2 i_m_columnsLaid c = nI (γ c)) :
    Mt mX11_isLaid 1 0 0 [.ref i_M] (wd ω x) (fun q w => q = some (.int (b2i (scl (prm (tT α) ρ γ) G))) ∧ ∃ τ, w = wd τ x ∧ LZ σ τ α G ρ 5 ∧ τ.2.2 i_m_columnsLaid = ω.2.2 i_m_columnsLaid) := by
  refine Mt.of MI_X11_isLaid (Nat.le_of_ble_eq_true rfl) (fun X hC hR hT => ?_)
  have hsm := ok.2.2.1.2.2.2
  have fin : ∀ g : Nat → Int32, (∀ r c, r < 5 → c < 5 → g (6 * r + c) = (tT α).2.2 (ρ r) (γ c)) → ∀ u1 u2, Rw mX11_isLaid X 58 [some (.ref i_M), u1, u2] [] (wd (sA ω i_m_laid g) x) 0 0 := by
    intro g hg u1 u2
    have hTB : TB (upd (upd g 36 5) 37 5) (prm (tT α) ρ γ) := by
      refine ⟨rfl, rfl, by show (5 : Nat) ≤ 6; decide, by show (5 : Nat) ≤ 6; decide, fun r c hr hc => ?_⟩
      have hr : r < 5 := hr
      have hc : c < 5 := hc
      rw [upd, if_neg (by omega), upd, if_neg (by omega)]
      exact ⟨hg r c hr hc, hsm _ _ (by have := hρ r hr; omega) (by have := hγ c hc; omega)⟩
    have hz2 : LZ σ (sA ω i_m_laid (upd (upd g 36 5) 37 5)) α G ρ 5 := hz.a (by decide) (by decide) (by decide) (by decide)
    refine R_aload_n (i := 0) hC dX11_isLaid_58 rfl rfl (R_gR hC dX11_isLaid_59 fl_X11_68 L_M rfl (R_bipush (v := 36) hC dX11_isLaid_62 (by decide) (R_iconst (v := 5) hC dX11_isLaid_64 (by decide) (R_sI hC dX11_isLaid_65 L_m_laid 36 rfl (by decide) (by decide) ?_))))
    refine R_wd (by rw [sA_eq, sA_sA]) ?_
    refine R_aload_n (i := 0) hC dX11_isLaid_66 rfl rfl (R_gR hC dX11_isLaid_67 fl_X11_68 L_M rfl (R_bipush (v := 37) hC dX11_isLaid_70 (by decide) (R_iconst (v := 5) hC dX11_isLaid_72 (by decide) (R_sI hC dX11_isLaid_73 L_m_laid 37 rfl (by decide) (by decide) ?_))))
    refine R_wd (by rw [sA_eq, sA_sA]) ?_
    refine R_aload_n (i := 0) hC dX11_isLaid_74 rfl rfl (R_aload_n (i := 0) hC dX11_isLaid_75 rfl rfl (R_gR hC dX11_isLaid_76 fl_X11_68 L_M rfl (R_aload_n (i := 0) hC dX11_isLaid_79 rfl rfl (R_gR hC dX11_isLaid_80 fl_X11_65 L_M rfl ?_))))
    refine R_V2g hC hR dX11_isLaid_83 MV_X11_isScaled ml_X11_286 L_M rfl (s_isScaled (sA ω i_m_laid (upd (upd g 36 5) 37 5)) x i_m_laid i_m_goal L_m_laid L_m_goal (by decide) (by decide) (prm (tT α) ρ γ) (by rw [sA_eq]; exact hTB) G (fun r c hr hc => ⟨hz2.2.1 r c hr hc, hG r c hr hc⟩)) (by first | decide | omega) ⟨by decide, by decide⟩ (Nat.le_of_ble_eq_true rfl) (fun r w1 hq => ?_)
    obtain ⟨rfl, g2, rfl⟩ := hq
    exact R_zret hC hT dX11_isLaid_86 rfl (b2i_z _) ⟨rfl, _, rfl, hz2.a (by decide) (by decide) (by decide) (by decide), by rw [sA_ne (by decide), sA_ne (by decide)]⟩
  have rows : ∀ n, n ≤ 5 → ∀ g : Nat → Int32, (∀ r c, r < n → c < 5 → g (6 * r + c) = (tT α).2.2 (ρ r) (γ c)) → ∀ u2, Rw mX11_isLaid X 2 [some (.ref i_M), some (.int (nI n)), u2] [] (wd (sA ω i_m_laid g) x) 0 0 := by
    refine up_loop 5 ?_ ?_
    · intro g hg u2
      refine R_iload_n (i := 1) hC dX11_isLaid_2 rfl rfl (R_iconst (v := 5) hC dX11_isLaid_3 (by decide) ?_)
      refine R_icmp_ge hC 58 dX11_isLaid_4 (by decide) (fun _ => ?_) (fun h => absurd (by decide) h)
      exact fin g hg _ _
    · intro n hn ih g hg u2
      have hr := hρ n hn
      have cols : ∀ m, m ≤ 5 → ∀ g : Nat → Int32, (∀ r c, r < n → c < 5 → g (6 * r + c) = (tT α).2.2 (ρ r) (γ c)) → (∀ c, c < m → g (6 * n + c) = (tT α).2.2 (ρ n) (γ c)) → Rw mX11_isLaid X 9 [some (.ref i_M), some (.int (nI n)), some (.int (nI m))] [] (wd (sA ω i_m_laid g) x) 0 0 := by
        refine up_loop 5 ?_ ?_
        · intro g hg hgn
          refine R_iload_n (i := 2) hC dX11_isLaid_9 rfl rfl (R_iconst (v := 5) hC dX11_isLaid_10 (by decide) ?_)
          refine R_icmp_ge hC 52 dX11_isLaid_11 (by decide) (fun _ => ?_) (fun h => absurd (by decide) h)
          refine R_iinc hC dX11_isLaid_52 rfl (inc1 _) (by decide) rfl (R_goto hC 2 dX11_isLaid_55 (by decide) ?_)
          exact ih g (fun r c h1 h2 => by rcases (by omega : r < n ∨ r = n) with z | rfl; exact hg r c z h2; exact hgn c h2) _
        · intro m hm ihm g hg hgn
          have hcm := hγ m hm
          refine R_iload_n (i := 2) hC dX11_isLaid_9 rfl rfl (R_iconst (v := 5) hC dX11_isLaid_10 (by decide) ?_)
          refine R_icmp_ge hC 52 dX11_isLaid_11 (by decide) (fun h => absurd h (nI_ge (b := 5) hm (by decide))) (fun _ => ?_)
          refine R_aload_n (i := 0) hC dX11_isLaid_14 rfl rfl (R_gR hC dX11_isLaid_15 fl_X11_68 L_M rfl (R_bipush (v := 6) hC dX11_isLaid_18 (by decide) (R_iload_n (i := 1) hC dX11_isLaid_20 rfl rfl (R_imul hC dX11_isLaid_21 (R_iload_n (i := 2) hC dX11_isLaid_22 rfl rfl (R_iadd hC dX11_isLaid_23 (R_aload_n (i := 0) hC dX11_isLaid_24 rfl rfl ?_)))))))
          refine R_gR hC dX11_isLaid_25 fl_X11_13 L_M rfl (R_bipush (v := 6) hC dX11_isLaid_28 (by decide) (R_aload_n (i := 0) hC dX11_isLaid_30 rfl rfl (R_gR hC dX11_isLaid_31 fl_X11_71 L_M rfl (R_iload_n (i := 1) hC dX11_isLaid_34 rfl rfl (R_aI hC dX11_isLaid_35 L_m_rowsLaid _ rfl (by omega) (by decide) ?_)))))
          refine R_top (y := nI (ρ n)) (by rw [sA_ne (by decide)]; exact hz.2.2 n hn) ?_
          refine R_imul hC dX11_isLaid_36 (R_aload_n (i := 0) hC dX11_isLaid_37 rfl rfl (R_gR hC dX11_isLaid_38 fl_X11_74 L_M rfl (R_iload_n (i := 2) hC dX11_isLaid_41 rfl rfl (R_aI hC dX11_isLaid_42 L_m_columnsLaid _ rfl (by omega) (by decide) ?_))))
          refine R_top (y := nI (γ m)) (by rw [sA_ne (by decide)]; exact hc m hm) ?_
          refine R_iadd hC dX11_isLaid_43 (R_aI hC dX11_isLaid_44 L_m_now (6 * ρ n + γ m) (n6 _ _) (by omega) (by decide) ?_)
          refine R_top (y := (tT α).2.2 (ρ n) (γ m)) (by rw [sA_ne (by decide)]; exact hz.1.e (by omega) (by omega)) ?_
          refine R_sI hC dX11_isLaid_45 L_m_laid (6 * n + m) (n6 n m) (by omega) (by decide) ?_
          refine R_wd (by rw [sA_eq, sA_sA]) ?_
          refine R_iinc hC dX11_isLaid_46 rfl (inc1 _) (by decide) rfl (R_goto hC 9 dX11_isLaid_49 (by decide) ?_)
          exact ihm _ (fun r c h1 h2 => by rw [upd, if_neg (by omega)]; exact hg r c h1 h2) (fun c h2 => by
          by_cases e : c = m
          · rw [upd, if_pos (by omega), e]
          · rw [upd, if_neg (by omega)]; exact hgn c (by omega))
      refine R_iload_n (i := 1) hC dX11_isLaid_2 rfl rfl (R_iconst (v := 5) hC dX11_isLaid_3 (by decide) ?_)
      refine R_icmp_ge hC 58 dX11_isLaid_4 (by decide) (fun h => absurd h (nI_ge (b := 5) hn (by decide))) (fun _ => ?_)
      refine R_iconst (v := 0) hC dX11_isLaid_7 (by decide) (R_istore_n (i := 2) hC dX11_isLaid_8 rfl (by decide) rfl ?_)
      exact cols 0 (Nat.zero_le _) g hg (fun c h => absurd h (Nat.not_lt_zero _))
  refine R_iconst (v := 0) hC dX11_isLaid_0 (by decide) (R_istore_n (i := 1) hC dX11_isLaid_1 rfl (by decide) rfl ?_)
  (refine R_wd (sA_self ω i_m_laid).symm ?_; exact rows 0 (Nat.zero_le _) _ (fun r c h => absurd h (Nat.not_lt_zero _)) _)
theorem or_shl : ∀ a, a < 64 → ∀ i, i < 6 → nI a ||| ((1 : Int32) <<< (nI i &&& 31)) = nI (a ||| 2 ^ i) := by decide +kernel
theorem or_bit (a i j : Nat) : (a ||| 2 ^ i).testBit j = true ↔ a.testBit j = true ∨ i = j := by
  rw [Nat.testBit_or, Nat.testBit_two_pow, Bool.or_eq_true, decide_eq_true_eq]
theorem or_lt64 {a i : Nat} (ha : a < 64) (hi : i < 6) : a ||| 2 ^ i < 64 := Nat.or_lt_two_pow (n := 6) ha (Nat.pow_lt_pow_right (by decide) hi)
/-- one choice more -/
theorem ex_step {P : (Nat → Nat) → Prop} {n met : Nat} {γ : Nat → Nat} (hn : n < 5) : (∃ g : Nat → Nat, (∀ j, j < n → g j = γ j) ∧ (∀ j, n ≤ j → j < 5 → g j < 5 ∧ ¬ met.testBit (g j) = true) ∧ (∀ i j, n ≤ i → i < j → j < 5 → g i ≠ g j) ∧ P g) ↔
    ∃ c, c < 5 ∧ ¬ met.testBit c = true ∧ ∃ g : Nat → Nat, (∀ j, j < n + 1 → g j = (if j = n then c else γ j)) ∧ (∀ j, n + 1 ≤ j → j < 5 → g j < 5 ∧ ¬ (met ||| 2 ^ c).testBit (g j) = true) ∧ (∀ i j, n + 1 ≤ i → i < j → j < 5 → g i ≠ g j) ∧ P g := by
  constructor
  · rintro ⟨g, h1, h2, h3, h4⟩
    obtain ⟨a1, a2⟩ := h2 n (Nat.le_refl _) hn
    refine ⟨g n, a1, a2, g, fun j hj => ?_, fun j b1 b2 => ⟨(h2 j (by omega) b2).1, fun z => ?_⟩, fun i j b1 b2 b3 => h3 i j (by omega) b2 b3, h4⟩
    · by_cases e : j = n
      · rw [if_pos e, e]
      · rw [if_neg e]; exact h1 j (by omega)
    · rcases (or_bit _ _ _).mp z with z | z
      · exact (h2 j (by omega) b2).2 z
      · exact h3 n j (Nat.le_refl _) (by omega) b2 z
  · rintro ⟨c, c1, c2, g, h1, h2, h3, h4⟩
    have gn : g n = c := by rw [h1 n (by omega), if_pos rfl]
    refine ⟨g, fun j hj => by rw [h1 j (by omega), if_neg (by omega)], fun j b1 b2 => ?_, fun i j b1 b2 b3 => ?_, h4⟩
    · by_cases e : j = n
      · rw [e, gn]; exact ⟨c1, c2⟩
      · obtain ⟨d1, d2⟩ := h2 j (by omega) b2
        exact ⟨d1, fun z => d2 ((or_bit _ _ _).mpr (Or.inl z))⟩
    · by_cases e : i = n
      · rw [e, gn]
        intro z
        exact (h2 j (by omega) b3).2 ((or_bit _ _ _).mpr (Or.inr z))
      · exact h3 i j (by omega) b2 b3
theorem exC_cg {T : tb} {ρ : Nat → Nat} {G : Nat → Nat → Int32} {n met : Nat} {γ δ : Nat → Nat} (e : ∀ j, j < n → γ j = δ j) (h : exC T ρ G n met γ) : exC T ρ G n met δ := by
  obtain ⟨g, h1, h2⟩ := h
  exact ⟨g, fun j hj => (h1 j hj).trans (e j hj), h2⟩
theorem s_doColumns {σ : sg} {x : aW} {α : aS} {G : Nat → Nat → Int32} {ρ : Nat → Nat} (ok : aOK α) (d1 : (tT α).1 = 5) (d2 : (tT α).2.1 = 5) (hG : ∀ r c, r < 5 → c < 5 → sml (G r c)) (hρ : ∀ r, r < 5 → ρ r < 5) :
    ∀ k n met ω γ, n + k = 5 → met < 64 → LZ σ ω α G ρ 5 → (∀ c, c < n → γ c < 5 ∧ ω.2.2 i_m_columnsLaid c = nI (γ c)) →
    Mt mX11_doColumns (k + 2) 0 0 [.ref i_M, .int (nI n), .int (nI met)] (wd ω x) (fun q w => q = some (.int (b2i (exC (tT α) ρ G n met γ))) ∧ ∃ τ, w = wd τ x ∧ LZ σ τ α G ρ 5 ∧ ∀ c, c < n → τ.2.2 i_m_columnsLaid c = nI (γ c)) := by
  have hsm := ok.2.2.1.2.2.2
  intro k
  induction k with
  | zero =>
    intro n met ω γ hn hm hz hc
    refine Mt.of MI_X11_doColumns (Nat.le_of_ble_eq_true rfl) (fun X hC hR hT => ?_)
    have e5 : n = 5 := by omega
    subst e5
    have ee : exC (tT α) ρ G 5 met γ ↔ scl (prm (tT α) ρ γ) G := by
      have hp : ∀ g : Nat → Nat, (∀ j, j < 5 → g j = γ j) → (scl (prm (tT α) ρ g) G ↔ scl (prm (tT α) ρ γ) G) := fun g hg => by
        have : ∀ r c, r < 5 → c < 5 → (prm (tT α) ρ g).2.2 r c = (prm (tT α) ρ γ).2.2 r c := fun r c _ h => by show (tT α).2.2 (ρ r) (g c) = (tT α).2.2 (ρ r) (γ c); rw [hg c h]
        exact ⟨fun ⟨φ, p1, p2⟩ => ⟨φ, p1, fun r c hr hc => by rw [← this r c hr hc]; exact p2 r c hr hc⟩, fun ⟨φ, p1, p2⟩ => ⟨φ, p1, fun r c hr hc => by rw [this r c hr hc]; exact p2 r c hr hc⟩⟩
      constructor
      · rintro ⟨g, h1, -, -, h4⟩; exact (hp g h1).mp h4
      · intro z; exact ⟨γ, fun _ _ => rfl, fun j a b => by omega, fun i j a b c => by omega, z⟩
    refine R_iload_n (i := 1) hC dX11_doColumns_0 rfl rfl (R_iconst (v := 5) hC dX11_doColumns_1 (by decide) ?_)
    refine R_icmp_ne hC 10 dX11_doColumns_2 (by decide) (fun h => absurd rfl h) (fun _ => ?_)
    refine R_aload_n (i := 0) hC dX11_doColumns_5 rfl rfl ?_
    refine R_V0g hC hR dX11_doColumns_6 MV_X11_isLaid ml_X11_290 L_M rfl (s_isLaid (γ := γ) hz ok d1 d2 hG hρ (fun r hr => (hc r hr).1) (fun c h => (hc c h).2)) (by first | decide | omega) ⟨by decide, by decide⟩ (Nat.le_of_ble_eq_true rfl) (fun r w1 hq => ?_)
    obtain ⟨rfl, τ, rfl, hz2, hcl⟩ := hq
    exact R_zret hC hT dX11_doColumns_9 rfl (b2i_z _) ⟨by rw [show exC (tT α) ρ G 5 met γ = scl (prm (tT α) ρ γ) G from propext ee], τ, rfl, hz2, fun c h => by rw [hcl]; exact (hc c h).2⟩
  | succ k ih =>
    intro n met ω γ hn hm hz hc
    refine Mt.of MI_X11_doColumns (Nat.le_of_ble_eq_true rfl) (fun X hC hR hT => ?_)
    have stp : exC (tT α) ρ G n met γ ↔ ∃ c, c < 5 ∧ ¬ met.testBit c = true ∧ exC (tT α) ρ G (n + 1) (met ||| 2 ^ c) (fun j => if j = n then c else γ j) := ex_step (by omega)
    have loop : ∀ c, c ≤ 5 → (∀ c2, c2 < c → ¬ met.testBit c2 = true → ¬ exC (tT α) ρ G (n + 1) (met ||| 2 ^ c2) (fun j => if j = n then c2 else γ j)) → ∀ ω, LZ σ ω α G ρ 5 → (∀ j, j < n → ω.2.2 i_m_columnsLaid j = nI (γ j)) → ∀ u4 u5, Rw mX11_doColumns X 12 [some (.ref i_M), some (.int (nI n)), some (.int (nI met)), some (.int (nI c)), u4, u5] [] (wd ω x) 0 0 := by
      refine up_loop 5 ?_ ?_
      · intro hno ω hz hcl u4 u5
        refine R_iload_n (i := 3) hC dX11_doColumns_12 rfl rfl (R_iconst (v := 5) hC dX11_doColumns_13 (by decide) ?_)
        refine R_icmp_ge hC 141 dX11_doColumns_14 (by decide) (fun _ => ?_) (fun h => absurd (by decide) h)
        refine R_iconst (v := 0) hC dX11_doColumns_141 (by decide) ?_
        exact R_zret hC hT dX11_doColumns_142 rfl (by decide) ⟨by rw [b2i_f (fun z => by obtain ⟨c, a, b, d⟩ := stp.mp z; exact hno c a b d)], ω, rfl, hz, hcl⟩
      · intro c hc5 ihc hno ω hz hcl u4 u5
        have skp : ¬ (¬ met.testBit c = true ∧ exC (tT α) ρ G (n + 1) (met ||| 2 ^ c) (fun j => if j = n then c else γ j)) → ∀ ω, LZ σ ω α G ρ 5 → (∀ j, j < n → ω.2.2 i_m_columnsLaid j = nI (γ j)) → ∀ u4 u5, Rw mX11_doColumns X 135 [some (.ref i_M), some (.int (nI n)), some (.int (nI met)), some (.int (nI c)), u4, u5] [] (wd ω x) 0 0 := by
          intro z ω hz hcl u4 u5
          refine R_iinc hC dX11_doColumns_135 rfl (inc1 _) (by decide) rfl (R_goto hC 12 dX11_doColumns_138 (by decide) ?_)
          exact ihc (fun c2 h1 h2 h3 => by rcases (by omega : c2 < c ∨ c2 = c) with y | rfl; exact hno c2 y h2 h3; exact z ⟨h2, h3⟩) ω hz hcl _ _
        have fin : ¬ met.testBit c = true → ∀ isv : Int32, ((isv = 1) ∨ (isv = 0 ∧ ¬ ∀ r, r < 5 → ((tT α).2.2 (ρ r) c = 0 ↔ G r n = 0))) → ∀ u5, Rw mX11_doColumns X 106 [some (.ref i_M), some (.int (nI n)), some (.int (nI met)), some (.int (nI c)), some (.int isv), u5] [] (wd ω x) 0 0 := by
          intro hb isv hi u5
          have hz2 : LZ σ (sA ω i_m_columnsLaid (upd (ω.2.2 i_m_columnsLaid) n (nI c))) α G ρ 5 := hz.a (by decide) (by decide) (by decide) (by decide)
          have hcl2 : ∀ j, j < n + 1 → (sA ω i_m_columnsLaid (upd (ω.2.2 i_m_columnsLaid) n (nI c))).2.2 i_m_columnsLaid j = nI (if j = n then c else γ j) := fun j hj => by
            rw [sA_eq]
            by_cases e : j = n
            · rw [upd, if_pos e, if_pos e]
            · rw [upd, if_neg e, if_neg e]; exact hcl j (by omega)
          rcases hi with rfl | ⟨rfl, hi⟩
          · refine R_aload_n (i := 0) hC dX11_doColumns_106 rfl rfl (R_gR hC dX11_doColumns_107 fl_X11_74 L_M rfl (R_iload_n (i := 1) hC dX11_doColumns_110 rfl rfl (R_iload_n (i := 3) hC dX11_doColumns_111 rfl rfl (R_sI hC dX11_doColumns_112 L_m_columnsLaid _ rfl (by omega) (by decide) (R_iload hC dX11_doColumns_113 rfl ?_)))))
            refine R_if_eq hC 135 dX11_doColumns_115 (by decide) (fun h => absurd h (by decide)) (fun _ => ?_)
            refine R_aload_n (i := 0) hC dX11_doColumns_118 rfl rfl (R_iload_n (i := 1) hC dX11_doColumns_119 rfl rfl (R_iconst (v := 1) hC dX11_doColumns_120 (by decide) (R_iadd hC dX11_doColumns_121 ?_)))
            refine R_top (y := nI (n + 1)) (nI_1 n) ?_
            refine R_iload_n (i := 2) hC dX11_doColumns_122 rfl rfl (R_iconst (v := 1) hC dX11_doColumns_123 (by decide) (R_iload_n (i := 3) hC dX11_doColumns_124 rfl rfl (R_ishl hC dX11_doColumns_125 (R_ior hC dX11_doColumns_126 ?_))))
            refine R_top (y := nI (met ||| 2 ^ c)) (or_shl met hm c (by omega)) ?_
            refine R_V2g hC hR dX11_doColumns_127 MV_X11_doColumns ml_X11_294 L_M rfl (ih (n + 1) (met ||| 2 ^ c) _ (fun j => if j = n then c else γ j) (by omega) (or_lt64 hm (by omega)) hz2 (fun j hj => ⟨by show (if j = n then c else γ j) < 5; split; exact hc5; exact (hc j (by omega)).1, hcl2 j hj⟩)) (by omega) ⟨by decide, by decide⟩ (Nat.le_of_ble_eq_true rfl) (fun r w1 hq => ?_)
            obtain ⟨rfl, τ, rfl, hz3, hcl3⟩ := hq
            have hcl4 : ∀ j, j < n → τ.2.2 i_m_columnsLaid j = nI (γ j) := fun j hj => by rw [hcl3 j (by omega), if_neg (by omega)]
            refine R_if_eq hC 135 dX11_doColumns_130 (by decide) (fun h130 => ?_) (fun h130 => ?_)
            · exact skp (fun z => b2i_0 h130 z.2) τ hz3 hcl4 _ _
            · refine R_iconst (v := 1) hC dX11_doColumns_133 (by decide) ?_
              exact R_zret hC hT dX11_doColumns_134 rfl (by decide) ⟨by rw [b2i_t (stp.mpr ⟨c, hc5, hb, b2i_ne h130⟩)], τ, rfl, hz3, hcl4⟩
          · refine R_aload_n (i := 0) hC dX11_doColumns_106 rfl rfl (R_gR hC dX11_doColumns_107 fl_X11_74 L_M rfl (R_iload_n (i := 1) hC dX11_doColumns_110 rfl rfl (R_iload_n (i := 3) hC dX11_doColumns_111 rfl rfl (R_sI hC dX11_doColumns_112 L_m_columnsLaid _ rfl (by omega) (by decide) (R_iload hC dX11_doColumns_113 rfl ?_)))))
            refine R_if_eq hC 135 dX11_doColumns_115 (by decide) (fun _ => ?_) (fun h => absurd (by decide) h)
            exact skp (fun z => hi (fun r hr => by
            obtain ⟨g, g1, g2, g3, g4⟩ := z.2
            have g1 : ∀ j, j < n + 1 → g j = if j = n then c else γ j := g1
            have gn : g n = c := by rw [g1 n (by omega), if_pos rfl]
            have gs : ∀ j, j < 5 → g j < 5 := fun j hj => by
              rcases Nat.lt_or_ge j (n + 1) with y | y
              · rw [g1 j y]; split; exact hc5; exact (hc j (by omega)).1
              · exact (g2 j y hj).1
            have := scl_z g4 (fun r c hr hc => hsm _ _ (by have := hρ r hr; omega) (by have := gs c hc; omega)) hr (show n < 5 by omega)
            rw [gn] at this
            exact this.symm)) _ hz2 (fun j hj => by rw [hcl2 j (by omega), if_neg (by omega)]) _ _
        have inn : ¬ met.testBit c = true → ∀ r, r ≤ 5 → ∀ isv : Int32, ((isv = 1 ∧ ∀ r2, r2 < r → ((tT α).2.2 (ρ r2) c = 0 ↔ G r2 n = 0)) ∨ (isv = 0 ∧ ¬ ∀ r, r < 5 → ((tT α).2.2 (ρ r) c = 0 ↔ G r n = 0))) → Rw mX11_doColumns X 34 [some (.ref i_M), some (.int (nI n)), some (.int (nI met)), some (.int (nI c)), some (.int isv), some (.int (nI r))] [] (wd ω x) 0 0 := by
          intro hb
          refine up_loop 5 ?_ ?_
          · intro isv hi
            refine R_iload hC dX11_doColumns_34 rfl (R_iconst (v := 5) hC dX11_doColumns_36 (by decide) ?_)
            refine R_icmp_ge hC 106 dX11_doColumns_37 (by decide) (fun _ => ?_) (fun h => absurd (by decide) h)
            exact fin hb isv (hi.imp (fun z => z.1) id) _
          · intro r hr ihr isv hi
            rcases hi with ⟨rfl, hi⟩ | ⟨rfl, hi⟩
            · have hrr := hρ r hr
              by_cases e1 : (tT α).2.2 (ρ r) c = 0
              · by_cases e2 : G r n = 0
                · refine R_iload hC dX11_doColumns_34 rfl (R_iconst (v := 5) hC dX11_doColumns_36 (by decide) ?_)
                  refine R_icmp_ge hC 106 dX11_doColumns_37 (by decide) (fun h => absurd h (nI_ge (b := 5) hr (by decide))) (fun _ => ?_)
                  refine R_iload hC dX11_doColumns_40 rfl ?_
                  refine R_if_eq hC 106 dX11_doColumns_42 (by decide) (fun h => absurd h (by decide)) (fun _ => ?_)
                  refine R_aload_n (i := 0) hC dX11_doColumns_45 rfl rfl (R_gR hC dX11_doColumns_46 fl_X11_13 L_M rfl (R_bipush (v := 6) hC dX11_doColumns_49 (by decide) (R_aload_n (i := 0) hC dX11_doColumns_51 rfl rfl (R_gR hC dX11_doColumns_52 fl_X11_71 L_M rfl (R_iload hC dX11_doColumns_55 rfl (R_aI hC dX11_doColumns_57 L_m_rowsLaid _ rfl (by omega) (by decide) ?_))))))
                  refine R_top (y := nI (ρ r)) (hz.2.2 r hr) ?_
                  refine R_imul hC dX11_doColumns_58 (R_iload_n (i := 3) hC dX11_doColumns_59 rfl rfl (R_iadd hC dX11_doColumns_60 (R_aI hC dX11_doColumns_61 L_m_now (6 * ρ r + c) (n6 _ _) (by omega) (by decide) ?_)))
                  refine R_top (y := (tT α).2.2 (ρ r) c) (hz.1.e (by omega) (by omega)) ?_
                  refine R_if_ne hC 69 dX11_doColumns_62 (by decide) (fun h => absurd e1 h) (fun _ => ?_)
                  refine R_iconst (v := 1) hC dX11_doColumns_65 (by decide) (R_goto hC 70 dX11_doColumns_66 (by decide) (R_aload_n (i := 0) hC dX11_doColumns_70 rfl rfl (R_gR hC dX11_doColumns_71 fl_X11_65 L_M rfl (R_bipush (v := 6) hC dX11_doColumns_74 (by decide) (R_iload hC dX11_doColumns_76 rfl (R_imul hC dX11_doColumns_78 (R_iload_n (i := 1) hC dX11_doColumns_79 rfl rfl ?_)))))))
                  refine R_iadd hC dX11_doColumns_80 (R_aI hC dX11_doColumns_81 L_m_goal (6 * r + n) (n6 _ _) (by omega) (by decide) ?_)
                  refine R_top (y := G r n) (hz.2.1 r n hr (by omega)) ?_
                  refine R_if_ne hC 89 dX11_doColumns_82 (by decide) (fun h => absurd e2 h) (fun _ => ?_)
                  refine R_iconst (v := 1) hC dX11_doColumns_85 (by decide) (R_goto hC 90 dX11_doColumns_86 (by decide) ?_)
                  refine R_icmp_ne hC 97 dX11_doColumns_90 (by decide) (fun h => absurd (by decide) h) (fun _ => ?_)
                  refine R_iconst (v := 1) hC dX11_doColumns_93 (by decide) (R_goto hC 98 dX11_doColumns_94 (by decide) (R_istore hC dX11_doColumns_98 (by decide) rfl (R_iinc hC dX11_doColumns_100 rfl (inc1 _) (by decide) rfl (R_goto hC 34 dX11_doColumns_103 (by decide) ?_))))
                  exact ihr 1 (Or.inl ⟨rfl, fun r2 h2 => by rcases (by omega : r2 < r ∨ r2 = r) with y | rfl; exact hi r2 y; exact ⟨fun _ => e2, fun _ => e1⟩⟩)
                · refine R_iload hC dX11_doColumns_34 rfl (R_iconst (v := 5) hC dX11_doColumns_36 (by decide) ?_)
                  refine R_icmp_ge hC 106 dX11_doColumns_37 (by decide) (fun h => absurd h (nI_ge (b := 5) hr (by decide))) (fun _ => ?_)
                  refine R_iload hC dX11_doColumns_40 rfl ?_
                  refine R_if_eq hC 106 dX11_doColumns_42 (by decide) (fun h => absurd h (by decide)) (fun _ => ?_)
                  refine R_aload_n (i := 0) hC dX11_doColumns_45 rfl rfl (R_gR hC dX11_doColumns_46 fl_X11_13 L_M rfl (R_bipush (v := 6) hC dX11_doColumns_49 (by decide) (R_aload_n (i := 0) hC dX11_doColumns_51 rfl rfl (R_gR hC dX11_doColumns_52 fl_X11_71 L_M rfl (R_iload hC dX11_doColumns_55 rfl (R_aI hC dX11_doColumns_57 L_m_rowsLaid _ rfl (by omega) (by decide) ?_))))))
                  refine R_top (y := nI (ρ r)) (hz.2.2 r hr) ?_
                  refine R_imul hC dX11_doColumns_58 (R_iload_n (i := 3) hC dX11_doColumns_59 rfl rfl (R_iadd hC dX11_doColumns_60 (R_aI hC dX11_doColumns_61 L_m_now (6 * ρ r + c) (n6 _ _) (by omega) (by decide) ?_)))
                  refine R_top (y := (tT α).2.2 (ρ r) c) (hz.1.e (by omega) (by omega)) ?_
                  refine R_if_ne hC 69 dX11_doColumns_62 (by decide) (fun h => absurd e1 h) (fun _ => ?_)
                  refine R_iconst (v := 1) hC dX11_doColumns_65 (by decide) (R_goto hC 70 dX11_doColumns_66 (by decide) (R_aload_n (i := 0) hC dX11_doColumns_70 rfl rfl (R_gR hC dX11_doColumns_71 fl_X11_65 L_M rfl (R_bipush (v := 6) hC dX11_doColumns_74 (by decide) (R_iload hC dX11_doColumns_76 rfl (R_imul hC dX11_doColumns_78 (R_iload_n (i := 1) hC dX11_doColumns_79 rfl rfl ?_)))))))
                  refine R_iadd hC dX11_doColumns_80 (R_aI hC dX11_doColumns_81 L_m_goal (6 * r + n) (n6 _ _) (by omega) (by decide) ?_)
                  refine R_top (y := G r n) (hz.2.1 r n hr (by omega)) ?_
                  refine R_if_ne hC 89 dX11_doColumns_82 (by decide) (fun _ => ?_) (fun h => absurd h e2)
                  refine R_iconst (v := 0) hC dX11_doColumns_89 (by decide) ?_
                  refine R_icmp_ne hC 97 dX11_doColumns_90 (by decide) (fun _ => ?_) (fun h => absurd h (by decide))
                  refine R_iconst (v := 0) hC dX11_doColumns_97 (by decide) (R_istore hC dX11_doColumns_98 (by decide) rfl (R_iinc hC dX11_doColumns_100 rfl (inc1 _) (by decide) rfl (R_goto hC 34 dX11_doColumns_103 (by decide) ?_)))
                  exact ihr 0 (Or.inr ⟨rfl, fun z => e2 ((z r hr).mp e1)⟩)
              · by_cases e2 : G r n = 0
                · refine R_iload hC dX11_doColumns_34 rfl (R_iconst (v := 5) hC dX11_doColumns_36 (by decide) ?_)
                  refine R_icmp_ge hC 106 dX11_doColumns_37 (by decide) (fun h => absurd h (nI_ge (b := 5) hr (by decide))) (fun _ => ?_)
                  refine R_iload hC dX11_doColumns_40 rfl ?_
                  refine R_if_eq hC 106 dX11_doColumns_42 (by decide) (fun h => absurd h (by decide)) (fun _ => ?_)
                  refine R_aload_n (i := 0) hC dX11_doColumns_45 rfl rfl (R_gR hC dX11_doColumns_46 fl_X11_13 L_M rfl (R_bipush (v := 6) hC dX11_doColumns_49 (by decide) (R_aload_n (i := 0) hC dX11_doColumns_51 rfl rfl (R_gR hC dX11_doColumns_52 fl_X11_71 L_M rfl (R_iload hC dX11_doColumns_55 rfl (R_aI hC dX11_doColumns_57 L_m_rowsLaid _ rfl (by omega) (by decide) ?_))))))
                  refine R_top (y := nI (ρ r)) (hz.2.2 r hr) ?_
                  refine R_imul hC dX11_doColumns_58 (R_iload_n (i := 3) hC dX11_doColumns_59 rfl rfl (R_iadd hC dX11_doColumns_60 (R_aI hC dX11_doColumns_61 L_m_now (6 * ρ r + c) (n6 _ _) (by omega) (by decide) ?_)))
                  refine R_top (y := (tT α).2.2 (ρ r) c) (hz.1.e (by omega) (by omega)) ?_
                  refine R_if_ne hC 69 dX11_doColumns_62 (by decide) (fun _ => ?_) (fun h => absurd h e1)
                  refine R_iconst (v := 0) hC dX11_doColumns_69 (by decide) (R_aload_n (i := 0) hC dX11_doColumns_70 rfl rfl (R_gR hC dX11_doColumns_71 fl_X11_65 L_M rfl (R_bipush (v := 6) hC dX11_doColumns_74 (by decide) (R_iload hC dX11_doColumns_76 rfl (R_imul hC dX11_doColumns_78 (R_iload_n (i := 1) hC dX11_doColumns_79 rfl rfl (R_iadd hC dX11_doColumns_80 ?_)))))))
                  refine R_aI hC dX11_doColumns_81 L_m_goal (6 * r + n) (n6 _ _) (by omega) (by decide) ?_
                  refine R_top (y := G r n) (hz.2.1 r n hr (by omega)) ?_
                  refine R_if_ne hC 89 dX11_doColumns_82 (by decide) (fun h => absurd e2 h) (fun _ => ?_)
                  refine R_iconst (v := 1) hC dX11_doColumns_85 (by decide) (R_goto hC 90 dX11_doColumns_86 (by decide) ?_)
                  refine R_icmp_ne hC 97 dX11_doColumns_90 (by decide) (fun _ => ?_) (fun h => absurd h (by decide))
                  refine R_iconst (v := 0) hC dX11_doColumns_97 (by decide) (R_istore hC dX11_doColumns_98 (by decide) rfl (R_iinc hC dX11_doColumns_100 rfl (inc1 _) (by decide) rfl (R_goto hC 34 dX11_doColumns_103 (by decide) ?_)))
                  exact ihr 0 (Or.inr ⟨rfl, fun z => e1 ((z r hr).mpr e2)⟩)
                · refine R_iload hC dX11_doColumns_34 rfl (R_iconst (v := 5) hC dX11_doColumns_36 (by decide) ?_)
                  refine R_icmp_ge hC 106 dX11_doColumns_37 (by decide) (fun h => absurd h (nI_ge (b := 5) hr (by decide))) (fun _ => ?_)
                  refine R_iload hC dX11_doColumns_40 rfl ?_
                  refine R_if_eq hC 106 dX11_doColumns_42 (by decide) (fun h => absurd h (by decide)) (fun _ => ?_)
                  refine R_aload_n (i := 0) hC dX11_doColumns_45 rfl rfl (R_gR hC dX11_doColumns_46 fl_X11_13 L_M rfl (R_bipush (v := 6) hC dX11_doColumns_49 (by decide) (R_aload_n (i := 0) hC dX11_doColumns_51 rfl rfl (R_gR hC dX11_doColumns_52 fl_X11_71 L_M rfl (R_iload hC dX11_doColumns_55 rfl (R_aI hC dX11_doColumns_57 L_m_rowsLaid _ rfl (by omega) (by decide) ?_))))))
                  refine R_top (y := nI (ρ r)) (hz.2.2 r hr) ?_
                  refine R_imul hC dX11_doColumns_58 (R_iload_n (i := 3) hC dX11_doColumns_59 rfl rfl (R_iadd hC dX11_doColumns_60 (R_aI hC dX11_doColumns_61 L_m_now (6 * ρ r + c) (n6 _ _) (by omega) (by decide) ?_)))
                  refine R_top (y := (tT α).2.2 (ρ r) c) (hz.1.e (by omega) (by omega)) ?_
                  refine R_if_ne hC 69 dX11_doColumns_62 (by decide) (fun _ => ?_) (fun h => absurd h e1)
                  refine R_iconst (v := 0) hC dX11_doColumns_69 (by decide) (R_aload_n (i := 0) hC dX11_doColumns_70 rfl rfl (R_gR hC dX11_doColumns_71 fl_X11_65 L_M rfl (R_bipush (v := 6) hC dX11_doColumns_74 (by decide) (R_iload hC dX11_doColumns_76 rfl (R_imul hC dX11_doColumns_78 (R_iload_n (i := 1) hC dX11_doColumns_79 rfl rfl (R_iadd hC dX11_doColumns_80 ?_)))))))
                  refine R_aI hC dX11_doColumns_81 L_m_goal (6 * r + n) (n6 _ _) (by omega) (by decide) ?_
                  refine R_top (y := G r n) (hz.2.1 r n hr (by omega)) ?_
                  refine R_if_ne hC 89 dX11_doColumns_82 (by decide) (fun _ => ?_) (fun h => absurd h e2)
                  refine R_iconst (v := 0) hC dX11_doColumns_89 (by decide) ?_
                  refine R_icmp_ne hC 97 dX11_doColumns_90 (by decide) (fun h => absurd (by decide) h) (fun _ => ?_)
                  refine R_iconst (v := 1) hC dX11_doColumns_93 (by decide) (R_goto hC 98 dX11_doColumns_94 (by decide) (R_istore hC dX11_doColumns_98 (by decide) rfl (R_iinc hC dX11_doColumns_100 rfl (inc1 _) (by decide) rfl (R_goto hC 34 dX11_doColumns_103 (by decide) ?_))))
                  exact ihr 1 (Or.inl ⟨rfl, fun r2 h2 => by rcases (by omega : r2 < r ∨ r2 = r) with y | rfl; exact hi r2 y; exact ⟨fun z => absurd z e1, fun z => absurd z e2⟩⟩)
            · refine R_iload hC dX11_doColumns_34 rfl (R_iconst (v := 5) hC dX11_doColumns_36 (by decide) ?_)
              refine R_icmp_ge hC 106 dX11_doColumns_37 (by decide) (fun h => absurd h (nI_ge (b := 5) hr (by decide))) (fun _ => ?_)
              refine R_iload hC dX11_doColumns_40 rfl ?_
              refine R_if_eq hC 106 dX11_doColumns_42 (by decide) (fun _ => ?_) (fun h => absurd (by decide) h)
              exact fin hb 0 (Or.inr ⟨rfl, hi⟩) _
        refine R_iload_n (i := 3) hC dX11_doColumns_12 rfl rfl (R_iconst (v := 5) hC dX11_doColumns_13 (by decide) ?_)
        refine R_icmp_ge hC 141 dX11_doColumns_14 (by decide) (fun h => absurd h (nI_ge (b := 5) hc5 (by decide))) (fun _ => ?_)
        refine R_iload_n (i := 2) hC dX11_doColumns_17 rfl rfl (R_iload_n (i := 3) hC dX11_doColumns_18 rfl rfl ?_)
        refine R_S2i hC hR dX11_doColumns_19 MS_X11_has ml_X11_200 (s_has met c hm (by omega) _) (by first | decide | omega) ⟨by decide, by decide⟩ (Nat.le_of_ble_eq_true rfl) ?_
        refine R_if_eq hC 28 dX11_doColumns_22 (by decide) (fun h22 => ?_) (fun h22 => ?_)
        · refine R_iconst (v := 1) hC dX11_doColumns_28 (by decide) (R_istore hC dX11_doColumns_29 (by decide) rfl (R_iconst (v := 0) hC dX11_doColumns_31 (by decide) (R_istore hC dX11_doColumns_32 (by decide) rfl ?_)))
          exact inn (tst0 h22) 0 (Nat.zero_le _) 1 (Or.inl ⟨rfl, fun r2 h => absurd h (Nat.not_lt_zero _)⟩)
        · refine R_goto hC 135 dX11_doColumns_25 (by decide) ?_
          exact skp (fun z => z.1 (tst h22)) ω hz hcl _ _
    refine R_iload_n (i := 1) hC dX11_doColumns_0 rfl rfl (R_iconst (v := 5) hC dX11_doColumns_1 (by decide) ?_)
    refine R_icmp_ne hC 10 dX11_doColumns_2 (by decide) (fun _ => ?_) (fun h => absurd h (fun z => by have := nI_inj (a := n) (b := 5) (by omega) (by decide) z; omega))
    refine R_iconst (v := 0) hC dX11_doColumns_10 (by decide) (R_istore_n (i := 3) hC dX11_doColumns_11 rfl (by decide) rfl ?_)
    exact loop 0 (Nat.zero_le _) (fun c2 h => absurd h (Nat.not_lt_zero _)) ω hz (fun j hj => (hc j hj).2) _ _
theorem s_doRows {σ : sg} {x : aW} {α : aS} {G : Nat → Nat → Int32} (ok : aOK α) (d1 : (tT α).1 = 5) (d2 : (tT α).2.1 = 5) (hG : ∀ r c, r < 5 → c < 5 → sml (G r c)) :
    ∀ k n met ω ρ, n + k = 5 → met < 64 → LZ σ ω α G ρ n → (∀ c, c < n → ρ c < 5) →
    Mt mX11_doRows (k + 8) 0 0 [.ref i_M, .int (nI n), .int (nI met)] (wd ω x) (fun q w => q = some (.int (b2i (exR (tT α) G n met ρ))) ∧ ∃ τ, w = wd τ x ∧ LZ σ τ α G ρ n) := by
  have hsm := ok.2.2.1.2.2.2
  intro k
  induction k with
  | zero =>
    intro n met ω ρ hn hm hz hc
    refine Mt.of MI_X11_doRows (Nat.le_of_ble_eq_true rfl) (fun X hC hR hT => ?_)
    have e5 : n = 5 := by omega
    subst e5
    have ee : exR (tT α) G 5 met ρ ↔ exC (tT α) ρ G 0 0 id := by
      have hp : ∀ g : Nat → Nat, (∀ j, j < 5 → g j = ρ j) → (exC (tT α) g G 0 0 id ↔ exC (tT α) ρ G 0 0 id) := fun g hg => by
        have this : ∀ h : Nat → Nat, ∀ r c, r < 5 → c < 5 → (prm (tT α) g h).2.2 r c = (prm (tT α) ρ h).2.2 r c := fun h r c z _ => by show (tT α).2.2 (g r) (h c) = (tT α).2.2 (ρ r) (h c); rw [hg r z]
        constructor
        · rintro ⟨h, a1, a2, a3, φ, p1, p2⟩; exact ⟨h, a1, a2, a3, φ, p1, fun r c hr hc => by rw [← this h r c hr hc]; exact p2 r c hr hc⟩
        · rintro ⟨h, a1, a2, a3, φ, p1, p2⟩; exact ⟨h, a1, a2, a3, φ, p1, fun r c hr hc => by rw [this h r c hr hc]; exact p2 r c hr hc⟩
      constructor
      · rintro ⟨g, h1, -, -, h4⟩; exact (hp g h1).mp h4
      · intro z; exact ⟨ρ, fun _ _ => rfl, fun j a b => by omega, fun i j a b c => by omega, z⟩
    refine R_iload_n (i := 1) hC dX11_doRows_0 rfl rfl (R_iconst (v := 5) hC dX11_doRows_1 (by decide) ?_)
    refine R_icmp_ne hC 12 dX11_doRows_2 (by decide) (fun h => absurd rfl h) (fun _ => ?_)
    refine R_aload_n (i := 0) hC dX11_doRows_5 rfl rfl (R_iconst (v := 0) hC dX11_doRows_6 (by decide) (R_iconst (v := 0) hC dX11_doRows_7 (by decide) ?_))
    refine R_V2g hC hR dX11_doRows_8 MV_X11_doColumns ml_X11_294 L_M rfl (s_doColumns (x := x) ok d1 d2 hG hc 5 0 0 ω id rfl (by decide) hz (fun c h => absurd h (Nat.not_lt_zero _))) (by first | decide | omega) ⟨by decide, by decide⟩ (Nat.le_of_ble_eq_true rfl) (fun r w1 hq => ?_)
    obtain ⟨rfl, τ, rfl, hz2, -⟩ := hq
    exact R_zret hC hT dX11_doRows_11 rfl (b2i_z _) ⟨by rw [show exR (tT α) G 5 met ρ = exC (tT α) ρ G 0 0 id from propext ee], τ, rfl, hz2⟩
  | succ k ih =>
    intro n met ω ρ hn hm hz hc
    refine Mt.of MI_X11_doRows (Nat.le_of_ble_eq_true rfl) (fun X hC hR hT => ?_)
    have stp : exR (tT α) G n met ρ ↔ ∃ c, c < 5 ∧ ¬ met.testBit c = true ∧ exR (tT α) G (n + 1) (met ||| 2 ^ c) (fun j => if j = n then c else ρ j) := ex_step (P := fun g => exC (tT α) g G 0 0 id) (by omega)
    have loop : ∀ c, c ≤ 5 → (∀ c2, c2 < c → ¬ met.testBit c2 = true → ¬ exR (tT α) G (n + 1) (met ||| 2 ^ c2) (fun j => if j = n then c2 else ρ j)) → ∀ ω, LZ σ ω α G ρ n → ∀ u4 u5 u6, Rw mX11_doRows X 14 [some (.ref i_M), some (.int (nI n)), some (.int (nI met)), some (.int (nI c)), u4, u5, u6] [] (wd ω x) 0 0 := by
      refine up_loop 5 ?_ ?_
      · intro hno ω hz u4 u5 u6
        refine R_iload_n (i := 3) hC dX11_doRows_14 rfl rfl (R_iconst (v := 5) hC dX11_doRows_15 (by decide) ?_)
        refine R_icmp_ge hC 138 dX11_doRows_16 (by decide) (fun _ => ?_) (fun h => absurd (by decide) h)
        refine R_iconst (v := 0) hC dX11_doRows_138 (by decide) ?_
        exact R_zret hC hT dX11_doRows_139 rfl (by decide) ⟨by rw [b2i_f (fun z => by obtain ⟨c, a, b, d⟩ := stp.mp z; exact hno c a b d)], ω, rfl, hz⟩
      · intro c hc5 ihc hno ω hz u4 u5 u6
        have skp : ¬ (¬ met.testBit c = true ∧ exR (tT α) G (n + 1) (met ||| 2 ^ c) (fun j => if j = n then c else ρ j)) → ∀ ω, LZ σ ω α G ρ n → ∀ u4 u5 u6, Rw mX11_doRows X 132 [some (.ref i_M), some (.int (nI n)), some (.int (nI met)), some (.int (nI c)), u4, u5, u6] [] (wd ω x) 0 0 := by
          intro z ω hz u4 u5 u6
          refine R_iinc hC dX11_doRows_132 rfl (inc1 _) (by decide) rfl (R_goto hC 14 dX11_doRows_135 (by decide) ?_)
          exact ihc (fun c2 h1 h2 h3 => by rcases (by omega : c2 < c ∨ c2 = c) with y | rfl; exact hno c2 y h2 h3; exact z ⟨h2, h3⟩) ω hz _ _ _
        have c1 := cnO_le (p := fun j => ¬ (tT α).2.2 c j = 0) 5
        have c2 := cnO_le (p := fun j => ¬ G n j = 0) 5
        have em : (nI (cnO (fun j => ¬ (tT α).2.2 c j = 0) 5) = nI (cnO (fun j => ¬ G n j = 0) 5)) ↔ cnO (fun j => ¬ (tT α).2.2 c j = 0) 5 = cnO (fun j => ¬ G n j = 0) 5 := nI_eq (by omega) (by omega)
        have inn : ¬ met.testBit c = true → ∀ j, j ≤ 5 → Rw mX11_doRows X 39 [some (.ref i_M), some (.int (nI n)), some (.int (nI met)), some (.int (nI c)), some (.int (nI (cnO (fun j => ¬ (tT α).2.2 c j = 0) j))), some (.int (nI (cnO (fun j => ¬ G n j = 0) j))), some (.int (nI j))] [] (wd ω x) 0 0 := by
          intro hb
          refine up_loop 5 ?_ ?_
          · have hz2 : LZ σ (sA ω i_m_rowsLaid (upd (ω.2.2 i_m_rowsLaid) n (nI c))) α G (fun j => if j = n then c else ρ j) (n + 1) := ⟨hz.1.a (by decide) (by decide), fun r c hr hc => by rw [sA_ne (by decide)]; exact hz.2.1 r c hr hc, fun j hj => by
              rw [sA_eq]
              show _ = nI (if j = n then c else ρ j)
              by_cases e : j = n
              · rw [upd, if_pos e, if_pos e]
              · rw [upd, if_neg e, if_neg e]; exact hz.2.2 j (by omega)⟩
            have back : ∀ τ, LZ σ τ α G (fun j => if j = n then c else ρ j) (n + 1) → LZ σ τ α G ρ n := fun τ h => ⟨h.1, h.2.1, fun j hj => by have q : τ.2.2 i_m_rowsLaid j = nI (if j = n then c else ρ j) := h.2.2 j (by omega); rw [q, if_neg (by omega)]⟩
            refine R_iload hC dX11_doRows_39 rfl (R_iconst (v := 5) hC dX11_doRows_41 (by decide) ?_)
            refine R_icmp_ge hC 101 dX11_doRows_42 (by decide) (fun _ => ?_) (fun h => absurd (by decide) h)
            refine R_aload_n (i := 0) hC dX11_doRows_101 rfl rfl (R_gR hC dX11_doRows_102 fl_X11_71 L_M rfl (R_iload_n (i := 1) hC dX11_doRows_105 rfl rfl (R_iload_n (i := 3) hC dX11_doRows_106 rfl rfl (R_sI hC dX11_doRows_107 L_m_rowsLaid _ rfl (by omega) (by decide) (R_iload hC dX11_doRows_108 rfl (R_iload hC dX11_doRows_110 rfl ?_))))))
            refine R_icmp_ne hC 132 dX11_doRows_112 (by decide) (fun h112 => ?_) (fun h112 => ?_)
            · first
              | exact skp (fun z => b2i_0 h127 z.2) τ (back τ hz3) _ _ _
              | (have h113 := fun z => h112 (em.mpr z)
                 refine skp (fun z => h113 ?_) _ (back _ hz2) _ _ _
                 obtain ⟨g, g1, g2, g3, h, e1, e2, e3, e4⟩ := z.2
                 have g1 : ∀ j, j < n + 1 → g j = if j = n then c else ρ j := g1
                 have gn : g n = c := by rw [g1 n (by omega), if_pos rfl]
                 have gs : ∀ j, j < 5 → g j < 5 := fun j hj => by
                   rcases Nat.lt_or_ge j (n + 1) with y | y
                   · rw [g1 j y]; split; exact hc5; exact hc j (by omega)
                   · exact (g2 j y hj).1
                 have hh : ∀ j, j < 5 → h j < 5 := fun j hj => (e2 j (Nat.zero_le _) hj).1
                 rw [← cnO_perm (p := fun j => ¬ (tT α).2.2 c j = 0) (γ := h) hh (fun i j a b => e3 i j (Nat.zero_le _) a b)]
                 refine cnO_ext 5 (fun j hj => ?_)
                 have := scl_z e4 (fun r c hr hc => hsm _ _ (by have := gs r hr; omega) (by have := hh c hc; omega)) (show n < 5 by omega) hj
                 rw [gn] at this
                 exact not_congr this.symm)
            · refine R_aload_n (i := 0) hC dX11_doRows_115 rfl rfl (R_iload_n (i := 1) hC dX11_doRows_116 rfl rfl (R_iconst (v := 1) hC dX11_doRows_117 (by decide) (R_iadd hC dX11_doRows_118 ?_)))
              refine R_top (y := nI (n + 1)) (nI_1 n) ?_
              refine R_iload_n (i := 2) hC dX11_doRows_119 rfl rfl (R_iconst (v := 1) hC dX11_doRows_120 (by decide) (R_iload_n (i := 3) hC dX11_doRows_121 rfl rfl (R_ishl hC dX11_doRows_122 (R_ior hC dX11_doRows_123 ?_))))
              refine R_top (y := nI (met ||| 2 ^ c)) (or_shl met hm c (by omega)) ?_
              refine R_V2g hC hR dX11_doRows_124 MV_X11_doRows ml_X11_297 L_M rfl (ih (n + 1) (met ||| 2 ^ c) _ (fun j => if j = n then c else ρ j) (by omega) (or_lt64 hm (by omega)) hz2 (fun j hj => by show (if j = n then c else ρ j) < 5; split; exact hc5; exact hc j (by omega))) (by omega) ⟨by decide, by decide⟩ (Nat.le_of_ble_eq_true rfl) (fun r w1 hq => ?_)
              obtain ⟨rfl, τ, rfl, hz3⟩ := hq
              refine R_if_eq hC 132 dX11_doRows_127 (by decide) (fun h127 => ?_) (fun h127 => ?_)
              · first
                | exact skp (fun z => b2i_0 h127 z.2) τ (back τ hz3) _ _ _
                | (have h113 := fun z => h112 (em.mpr z)
                   refine skp (fun z => h113 ?_) _ (back _ hz2) _ _ _
                   obtain ⟨g, g1, g2, g3, h, e1, e2, e3, e4⟩ := z.2
                   have g1 : ∀ j, j < n + 1 → g j = if j = n then c else ρ j := g1
                   have gn : g n = c := by rw [g1 n (by omega), if_pos rfl]
                   have gs : ∀ j, j < 5 → g j < 5 := fun j hj => by
                     rcases Nat.lt_or_ge j (n + 1) with y | y
                     · rw [g1 j y]; split; exact hc5; exact hc j (by omega)
                     · exact (g2 j y hj).1
                   have hh : ∀ j, j < 5 → h j < 5 := fun j hj => (e2 j (Nat.zero_le _) hj).1
                   rw [← cnO_perm (p := fun j => ¬ (tT α).2.2 c j = 0) (γ := h) hh (fun i j a b => e3 i j (Nat.zero_le _) a b)]
                   refine cnO_ext 5 (fun j hj => ?_)
                   have := scl_z e4 (fun r c hr hc => hsm _ _ (by have := gs r hr; omega) (by have := hh c hc; omega)) (show n < 5 by omega) hj
                   rw [gn] at this
                   exact not_congr this.symm)
              · refine R_iconst (v := 1) hC dX11_doRows_130 (by decide) ?_
                exact R_zret hC hT dX11_doRows_131 rfl (by decide) ⟨by rw [b2i_t (stp.mpr ⟨c, hc5, hb, b2i_ne h127⟩)], τ, rfl, back τ hz3⟩
          · intro j hj ihj
            by_cases e1 : (tT α).2.2 c j = 0
            · by_cases e2 : G n j = 0
              · rw [cnO_n (p := fun j => ¬ (tT α).2.2 c j = 0) (fun z => z e1), cnO_n (p := fun j => ¬ G n j = 0) (fun z => z e2)] at ihj
                refine R_iload hC dX11_doRows_39 rfl (R_iconst (v := 5) hC dX11_doRows_41 (by decide) ?_)
                refine R_icmp_ge hC 101 dX11_doRows_42 (by decide) (fun h => absurd h (nI_ge (b := 5) hj (by decide))) (fun _ => ?_)
                refine R_iload hC dX11_doRows_45 rfl (R_aload_n (i := 0) hC dX11_doRows_47 rfl rfl (R_gR hC dX11_doRows_48 fl_X11_13 L_M rfl (R_bipush (v := 6) hC dX11_doRows_51 (by decide) (R_iload_n (i := 3) hC dX11_doRows_53 rfl rfl (R_imul hC dX11_doRows_54 (R_iload hC dX11_doRows_55 rfl (R_iadd hC dX11_doRows_57 ?_)))))))
                refine R_aI hC dX11_doRows_58 L_m_now (6 * c + j) (n6 _ _) (by omega) (by decide) ?_
                refine R_top (y := (tT α).2.2 c j) (hz.1.e (by omega) (by omega)) ?_
                refine R_if_ne hC 66 dX11_doRows_59 (by decide) (fun h => absurd e1 h) (fun _ => ?_)
                refine R_iconst (v := 0) hC dX11_doRows_62 (by decide) (R_goto hC 67 dX11_doRows_63 (by decide) (R_iadd hC dX11_doRows_67 ?_))
                refine R_top (y := nI (cnO (fun j => ¬ (tT α).2.2 c j = 0) j)) (Int32.add_zero _) ?_
                refine R_istore hC dX11_doRows_68 (by decide) rfl (R_iload hC dX11_doRows_70 rfl (R_aload_n (i := 0) hC dX11_doRows_72 rfl rfl (R_gR hC dX11_doRows_73 fl_X11_65 L_M rfl (R_bipush (v := 6) hC dX11_doRows_76 (by decide) (R_iload_n (i := 1) hC dX11_doRows_78 rfl rfl (R_imul hC dX11_doRows_79 (R_iload hC dX11_doRows_80 rfl ?_)))))))
                refine R_iadd hC dX11_doRows_82 (R_aI hC dX11_doRows_83 L_m_goal (6 * n + j) (n6 _ _) (by omega) (by decide) ?_)
                refine R_top (y := G n j) (hz.2.1 n j (by omega) hj) ?_
                refine R_if_ne hC 91 dX11_doRows_84 (by decide) (fun h => absurd e2 h) (fun _ => ?_)
                refine R_iconst (v := 0) hC dX11_doRows_87 (by decide) (R_goto hC 92 dX11_doRows_88 (by decide) (R_iadd hC dX11_doRows_92 ?_))
                refine R_top (y := nI (cnO (fun j => ¬ G n j = 0) j)) (Int32.add_zero _) ?_
                refine R_istore hC dX11_doRows_93 (by decide) rfl (R_iinc hC dX11_doRows_95 rfl (inc1 _) (by decide) rfl (R_goto hC 39 dX11_doRows_98 (by decide) ?_))
                exact ihj
              · rw [cnO_n (p := fun j => ¬ (tT α).2.2 c j = 0) (fun z => z e1), cnO_y (p := fun j => ¬ G n j = 0) e2] at ihj
                refine R_iload hC dX11_doRows_39 rfl (R_iconst (v := 5) hC dX11_doRows_41 (by decide) ?_)
                refine R_icmp_ge hC 101 dX11_doRows_42 (by decide) (fun h => absurd h (nI_ge (b := 5) hj (by decide))) (fun _ => ?_)
                refine R_iload hC dX11_doRows_45 rfl (R_aload_n (i := 0) hC dX11_doRows_47 rfl rfl (R_gR hC dX11_doRows_48 fl_X11_13 L_M rfl (R_bipush (v := 6) hC dX11_doRows_51 (by decide) (R_iload_n (i := 3) hC dX11_doRows_53 rfl rfl (R_imul hC dX11_doRows_54 (R_iload hC dX11_doRows_55 rfl (R_iadd hC dX11_doRows_57 ?_)))))))
                refine R_aI hC dX11_doRows_58 L_m_now (6 * c + j) (n6 _ _) (by omega) (by decide) ?_
                refine R_top (y := (tT α).2.2 c j) (hz.1.e (by omega) (by omega)) ?_
                refine R_if_ne hC 66 dX11_doRows_59 (by decide) (fun h => absurd e1 h) (fun _ => ?_)
                refine R_iconst (v := 0) hC dX11_doRows_62 (by decide) (R_goto hC 67 dX11_doRows_63 (by decide) (R_iadd hC dX11_doRows_67 ?_))
                refine R_top (y := nI (cnO (fun j => ¬ (tT α).2.2 c j = 0) j)) (Int32.add_zero _) ?_
                refine R_istore hC dX11_doRows_68 (by decide) rfl (R_iload hC dX11_doRows_70 rfl (R_aload_n (i := 0) hC dX11_doRows_72 rfl rfl (R_gR hC dX11_doRows_73 fl_X11_65 L_M rfl (R_bipush (v := 6) hC dX11_doRows_76 (by decide) (R_iload_n (i := 1) hC dX11_doRows_78 rfl rfl (R_imul hC dX11_doRows_79 (R_iload hC dX11_doRows_80 rfl ?_)))))))
                refine R_iadd hC dX11_doRows_82 (R_aI hC dX11_doRows_83 L_m_goal (6 * n + j) (n6 _ _) (by omega) (by decide) ?_)
                refine R_top (y := G n j) (hz.2.1 n j (by omega) hj) ?_
                refine R_if_ne hC 91 dX11_doRows_84 (by decide) (fun _ => ?_) (fun h => absurd h e2)
                refine R_iconst (v := 1) hC dX11_doRows_91 (by decide) (R_iadd hC dX11_doRows_92 ?_)
                refine R_top (y := nI (cnO (fun j => ¬ G n j = 0) j + 1)) (nI_1 _) ?_
                refine R_istore hC dX11_doRows_93 (by decide) rfl (R_iinc hC dX11_doRows_95 rfl (inc1 _) (by decide) rfl (R_goto hC 39 dX11_doRows_98 (by decide) ?_))
                exact ihj
            · by_cases e2 : G n j = 0
              · rw [cnO_y (p := fun j => ¬ (tT α).2.2 c j = 0) e1, cnO_n (p := fun j => ¬ G n j = 0) (fun z => z e2)] at ihj
                refine R_iload hC dX11_doRows_39 rfl (R_iconst (v := 5) hC dX11_doRows_41 (by decide) ?_)
                refine R_icmp_ge hC 101 dX11_doRows_42 (by decide) (fun h => absurd h (nI_ge (b := 5) hj (by decide))) (fun _ => ?_)
                refine R_iload hC dX11_doRows_45 rfl (R_aload_n (i := 0) hC dX11_doRows_47 rfl rfl (R_gR hC dX11_doRows_48 fl_X11_13 L_M rfl (R_bipush (v := 6) hC dX11_doRows_51 (by decide) (R_iload_n (i := 3) hC dX11_doRows_53 rfl rfl (R_imul hC dX11_doRows_54 (R_iload hC dX11_doRows_55 rfl (R_iadd hC dX11_doRows_57 ?_)))))))
                refine R_aI hC dX11_doRows_58 L_m_now (6 * c + j) (n6 _ _) (by omega) (by decide) ?_
                refine R_top (y := (tT α).2.2 c j) (hz.1.e (by omega) (by omega)) ?_
                refine R_if_ne hC 66 dX11_doRows_59 (by decide) (fun _ => ?_) (fun h => absurd h e1)
                refine R_iconst (v := 1) hC dX11_doRows_66 (by decide) (R_iadd hC dX11_doRows_67 ?_)
                refine R_top (y := nI (cnO (fun j => ¬ (tT α).2.2 c j = 0) j + 1)) (nI_1 _) ?_
                refine R_istore hC dX11_doRows_68 (by decide) rfl (R_iload hC dX11_doRows_70 rfl (R_aload_n (i := 0) hC dX11_doRows_72 rfl rfl (R_gR hC dX11_doRows_73 fl_X11_65 L_M rfl (R_bipush (v := 6) hC dX11_doRows_76 (by decide) (R_iload_n (i := 1) hC dX11_doRows_78 rfl rfl (R_imul hC dX11_doRows_79 (R_iload hC dX11_doRows_80 rfl ?_)))))))
                refine R_iadd hC dX11_doRows_82 (R_aI hC dX11_doRows_83 L_m_goal (6 * n + j) (n6 _ _) (by omega) (by decide) ?_)
                refine R_top (y := G n j) (hz.2.1 n j (by omega) hj) ?_
                refine R_if_ne hC 91 dX11_doRows_84 (by decide) (fun h => absurd e2 h) (fun _ => ?_)
                refine R_iconst (v := 0) hC dX11_doRows_87 (by decide) (R_goto hC 92 dX11_doRows_88 (by decide) (R_iadd hC dX11_doRows_92 ?_))
                refine R_top (y := nI (cnO (fun j => ¬ G n j = 0) j)) (Int32.add_zero _) ?_
                refine R_istore hC dX11_doRows_93 (by decide) rfl (R_iinc hC dX11_doRows_95 rfl (inc1 _) (by decide) rfl (R_goto hC 39 dX11_doRows_98 (by decide) ?_))
                exact ihj
              · rw [cnO_y (p := fun j => ¬ (tT α).2.2 c j = 0) e1, cnO_y (p := fun j => ¬ G n j = 0) e2] at ihj
                refine R_iload hC dX11_doRows_39 rfl (R_iconst (v := 5) hC dX11_doRows_41 (by decide) ?_)
                refine R_icmp_ge hC 101 dX11_doRows_42 (by decide) (fun h => absurd h (nI_ge (b := 5) hj (by decide))) (fun _ => ?_)
                refine R_iload hC dX11_doRows_45 rfl (R_aload_n (i := 0) hC dX11_doRows_47 rfl rfl (R_gR hC dX11_doRows_48 fl_X11_13 L_M rfl (R_bipush (v := 6) hC dX11_doRows_51 (by decide) (R_iload_n (i := 3) hC dX11_doRows_53 rfl rfl (R_imul hC dX11_doRows_54 (R_iload hC dX11_doRows_55 rfl (R_iadd hC dX11_doRows_57 ?_)))))))
                refine R_aI hC dX11_doRows_58 L_m_now (6 * c + j) (n6 _ _) (by omega) (by decide) ?_
                refine R_top (y := (tT α).2.2 c j) (hz.1.e (by omega) (by omega)) ?_
                refine R_if_ne hC 66 dX11_doRows_59 (by decide) (fun _ => ?_) (fun h => absurd h e1)
                refine R_iconst (v := 1) hC dX11_doRows_66 (by decide) (R_iadd hC dX11_doRows_67 ?_)
                refine R_top (y := nI (cnO (fun j => ¬ (tT α).2.2 c j = 0) j + 1)) (nI_1 _) ?_
                refine R_istore hC dX11_doRows_68 (by decide) rfl (R_iload hC dX11_doRows_70 rfl (R_aload_n (i := 0) hC dX11_doRows_72 rfl rfl (R_gR hC dX11_doRows_73 fl_X11_65 L_M rfl (R_bipush (v := 6) hC dX11_doRows_76 (by decide) (R_iload_n (i := 1) hC dX11_doRows_78 rfl rfl (R_imul hC dX11_doRows_79 (R_iload hC dX11_doRows_80 rfl ?_)))))))
                refine R_iadd hC dX11_doRows_82 (R_aI hC dX11_doRows_83 L_m_goal (6 * n + j) (n6 _ _) (by omega) (by decide) ?_)
                refine R_top (y := G n j) (hz.2.1 n j (by omega) hj) ?_
                refine R_if_ne hC 91 dX11_doRows_84 (by decide) (fun _ => ?_) (fun h => absurd h e2)
                refine R_iconst (v := 1) hC dX11_doRows_91 (by decide) (R_iadd hC dX11_doRows_92 ?_)
                refine R_top (y := nI (cnO (fun j => ¬ G n j = 0) j + 1)) (nI_1 _) ?_
                refine R_istore hC dX11_doRows_93 (by decide) rfl (R_iinc hC dX11_doRows_95 rfl (inc1 _) (by decide) rfl (R_goto hC 39 dX11_doRows_98 (by decide) ?_))
                exact ihj
        refine R_iload_n (i := 3) hC dX11_doRows_14 rfl rfl (R_iconst (v := 5) hC dX11_doRows_15 (by decide) ?_)
        refine R_icmp_ge hC 138 dX11_doRows_16 (by decide) (fun h => absurd h (nI_ge (b := 5) hc5 (by decide))) (fun _ => ?_)
        refine R_iload_n (i := 2) hC dX11_doRows_19 rfl rfl (R_iload_n (i := 3) hC dX11_doRows_20 rfl rfl ?_)
        refine R_S2i hC hR dX11_doRows_21 MS_X11_has ml_X11_200 (s_has met c hm (by omega) _) (by first | decide | omega) ⟨by decide, by decide⟩ (Nat.le_of_ble_eq_true rfl) ?_
        refine R_if_eq hC 30 dX11_doRows_24 (by decide) (fun h24 => ?_) (fun h24 => ?_)
        · refine R_iconst (v := 0) hC dX11_doRows_30 (by decide) (R_istore hC dX11_doRows_31 (by decide) rfl (R_iconst (v := 0) hC dX11_doRows_33 (by decide) (R_istore hC dX11_doRows_34 (by decide) rfl (R_iconst (v := 0) hC dX11_doRows_36 (by decide) (R_istore hC dX11_doRows_37 (by decide) rfl ?_)))))
          exact inn (tst0 h24) 0 (Nat.zero_le _)
        · refine R_goto hC 132 dX11_doRows_27 (by decide) ?_
          exact skp (fun z => z.1 (tst h24)) ω hz _ _ _
    refine R_iload_n (i := 1) hC dX11_doRows_0 rfl rfl (R_iconst (v := 5) hC dX11_doRows_1 (by decide) ?_)
    refine R_icmp_ne hC 12 dX11_doRows_2 (by decide) (fun _ => ?_) (fun h => absurd h (fun z => by have := nI_inj (a := n) (b := 5) (by omega) (by decide) z; omega))
    refine R_iconst (v := 0) hC dX11_doRows_12 (by decide) (R_istore_n (i := 3) hC dX11_doRows_13 rfl (by decide) rfl ?_)
    exact loop 0 (Nat.zero_le _) (fun c2 h => absurd h (Nat.not_lt_zero _)) ω hz _ _ _
