/-! ===== the class's sums, halves, scaling, counting ===== -/
theorem dX7_becomeJoined_0 : decode cX7_becomeJoined 0 = .ok (.aload_n 1, 1) := by decide +kernel
theorem dX7_becomeJoined_1 : decode cX7_becomeJoined 1 = .ok (.getfield 15, 3) := by decide +kernel
theorem dX7_becomeJoined_4 : decode cX7_becomeJoined 4 = .ok (.aload_n 2, 1) := by decide +kernel
theorem dX7_becomeJoined_5 : decode cX7_becomeJoined 5 = .ok (.getfield 15, 3) := by decide +kernel
theorem dX7_becomeJoined_8 : decode cX7_becomeJoined 8 = .ok (.iadd, 1) := by decide +kernel
theorem dX7_becomeJoined_9 : decode cX7_becomeJoined 9 = .ok (.istore_n 3, 1) := by decide +kernel
theorem dX7_becomeJoined_10 : decode cX7_becomeJoined 10 = .ok (.aload_n 1, 1) := by decide +kernel
theorem dX7_becomeJoined_11 : decode cX7_becomeJoined 11 = .ok (.getfield 19, 3) := by decide +kernel
theorem dX7_becomeJoined_14 : decode cX7_becomeJoined 14 = .ok (.aload_n 2, 1) := by decide +kernel
theorem dX7_becomeJoined_15 : decode cX7_becomeJoined 15 = .ok (.getfield 19, 3) := by decide +kernel
theorem dX7_becomeJoined_18 : decode cX7_becomeJoined 18 = .ok (.iadd, 1) := by decide +kernel
theorem dX7_becomeJoined_19 : decode cX7_becomeJoined 19 = .ok (.istore 4, 2) := by decide +kernel
theorem dX7_becomeJoined_21 : decode cX7_becomeJoined 21 = .ok (.iload_n 3, 1) := by decide +kernel
theorem dX7_becomeJoined_22 : decode cX7_becomeJoined 22 = .ok (.bipush 6, 2) := by decide +kernel
theorem dX7_becomeJoined_24 : decode cX7_becomeJoined 24 = .ok (.if_icmp .gt 10, 3) := by decide +kernel
theorem dX7_becomeJoined_27 : decode cX7_becomeJoined 27 = .ok (.iload 4, 2) := by decide +kernel
theorem dX7_becomeJoined_29 : decode cX7_becomeJoined 29 = .ok (.bipush 6, 2) := by decide +kernel
theorem dX7_becomeJoined_31 : decode cX7_becomeJoined 31 = .ok (.if_icmp .le 5, 3) := by decide +kernel
theorem dX7_becomeJoined_34 : decode cX7_becomeJoined 34 = .ok (.iconst 3, 1) := by decide +kernel
theorem dX7_becomeJoined_35 : decode cX7_becomeJoined 35 = .ok (.ireturn, 1) := by decide +kernel
theorem dX7_becomeJoined_36 : decode cX7_becomeJoined 36 = .ok (.aload_n 0, 1) := by decide +kernel
theorem dX7_becomeJoined_37 : decode cX7_becomeJoined 37 = .ok (.iload_n 3, 1) := by decide +kernel
theorem dX7_becomeJoined_38 : decode cX7_becomeJoined 38 = .ok (.iload 4, 2) := by decide +kernel
theorem dX7_becomeJoined_40 : decode cX7_becomeJoined 40 = .ok (.invokevirtual 32, 3) := by decide +kernel
theorem dX7_becomeJoined_43 : decode cX7_becomeJoined 43 = .ok (.iconst 0, 1) := by decide +kernel
theorem dX7_becomeJoined_44 : decode cX7_becomeJoined 44 = .ok (.istore 5, 2) := by decide +kernel
theorem dX7_becomeJoined_46 : decode cX7_becomeJoined 46 = .ok (.iload 5, 2) := by decide +kernel
theorem dX7_becomeJoined_48 : decode cX7_becomeJoined 48 = .ok (.iload_n 3, 1) := by decide +kernel
theorem dX7_becomeJoined_49 : decode cX7_becomeJoined 49 = .ok (.if_icmp .ge 83, 3) := by decide +kernel
theorem dX7_becomeJoined_52 : decode cX7_becomeJoined 52 = .ok (.iconst 0, 1) := by decide +kernel
theorem dX7_becomeJoined_53 : decode cX7_becomeJoined 53 = .ok (.istore 6, 2) := by decide +kernel
theorem dX7_becomeJoined_55 : decode cX7_becomeJoined 55 = .ok (.iload 6, 2) := by decide +kernel
theorem dX7_becomeJoined_57 : decode cX7_becomeJoined 57 = .ok (.iload 4, 2) := by decide +kernel
theorem dX7_becomeJoined_59 : decode cX7_becomeJoined 59 = .ok (.if_icmp .ge 67, 3) := by decide +kernel
theorem dX7_becomeJoined_62 : decode cX7_becomeJoined 62 = .ok (.iload 5, 2) := by decide +kernel
theorem dX7_becomeJoined_64 : decode cX7_becomeJoined 64 = .ok (.aload_n 1, 1) := by decide +kernel
theorem dX7_becomeJoined_65 : decode cX7_becomeJoined 65 = .ok (.getfield 15, 3) := by decide +kernel
theorem dX7_becomeJoined_68 : decode cX7_becomeJoined 68 = .ok (.if_icmp .ge 7, 3) := by decide +kernel
theorem dX7_becomeJoined_71 : decode cX7_becomeJoined 71 = .ok (.iconst 1, 1) := by decide +kernel
theorem dX7_becomeJoined_72 : decode cX7_becomeJoined 72 = .ok (.goto 4, 3) := by decide +kernel
theorem dX7_becomeJoined_75 : decode cX7_becomeJoined 75 = .ok (.iconst 0, 1) := by decide +kernel
theorem dX7_becomeJoined_76 : decode cX7_becomeJoined 76 = .ok (.istore 7, 2) := by decide +kernel
theorem dX7_becomeJoined_78 : decode cX7_becomeJoined 78 = .ok (.aload_n 0, 1) := by decide +kernel
theorem dX7_becomeJoined_79 : decode cX7_becomeJoined 79 = .ok (.iload 5, 2) := by decide +kernel
theorem dX7_becomeJoined_81 : decode cX7_becomeJoined 81 = .ok (.iload 6, 2) := by decide +kernel
theorem dX7_becomeJoined_83 : decode cX7_becomeJoined 83 = .ok (.iload 7, 2) := by decide +kernel
theorem dX7_becomeJoined_85 : decode cX7_becomeJoined 85 = .ok (.ifCond .eq 14, 3) := by decide +kernel
theorem dX7_becomeJoined_88 : decode cX7_becomeJoined 88 = .ok (.aload_n 1, 1) := by decide +kernel
theorem dX7_becomeJoined_89 : decode cX7_becomeJoined 89 = .ok (.iload 5, 2) := by decide +kernel
theorem dX7_becomeJoined_91 : decode cX7_becomeJoined 91 = .ok (.iload 6, 2) := by decide +kernel
theorem dX7_becomeJoined_93 : decode cX7_becomeJoined 93 = .ok (.invokevirtual 28, 3) := by decide +kernel
theorem dX7_becomeJoined_96 : decode cX7_becomeJoined 96 = .ok (.goto 21, 3) := by decide +kernel
theorem dX7_becomeJoined_99 : decode cX7_becomeJoined 99 = .ok (.aload_n 2, 1) := by decide +kernel
theorem dX7_becomeJoined_100 : decode cX7_becomeJoined 100 = .ok (.iload 5, 2) := by decide +kernel
theorem dX7_becomeJoined_102 : decode cX7_becomeJoined 102 = .ok (.aload_n 1, 1) := by decide +kernel
theorem dX7_becomeJoined_103 : decode cX7_becomeJoined 103 = .ok (.getfield 15, 3) := by decide +kernel
theorem dX7_becomeJoined_106 : decode cX7_becomeJoined 106 = .ok (.isub, 1) := by decide +kernel
theorem dX7_becomeJoined_107 : decode cX7_becomeJoined 107 = .ok (.iload 6, 2) := by decide +kernel
theorem dX7_becomeJoined_109 : decode cX7_becomeJoined 109 = .ok (.aload_n 1, 1) := by decide +kernel
theorem dX7_becomeJoined_110 : decode cX7_becomeJoined 110 = .ok (.getfield 19, 3) := by decide +kernel
theorem dX7_becomeJoined_113 : decode cX7_becomeJoined 113 = .ok (.isub, 1) := by decide +kernel
theorem dX7_becomeJoined_114 : decode cX7_becomeJoined 114 = .ok (.invokevirtual 28, 3) := by decide +kernel
theorem dX7_becomeJoined_117 : decode cX7_becomeJoined 117 = .ok (.invokevirtual 48, 3) := by decide +kernel
theorem dX7_becomeJoined_120 : decode cX7_becomeJoined 120 = .ok (.iinc 6 1, 3) := by decide +kernel
theorem dX7_becomeJoined_123 : decode cX7_becomeJoined 123 = .ok (.goto (-68), 3) := by decide +kernel
theorem dX7_becomeJoined_126 : decode cX7_becomeJoined 126 = .ok (.iinc 5 1, 3) := by decide +kernel
theorem dX7_becomeJoined_129 : decode cX7_becomeJoined 129 = .ok (.goto (-83), 3) := by decide +kernel
theorem dX7_becomeJoined_132 : decode cX7_becomeJoined 132 = .ok (.iconst (-1), 1) := by decide +kernel
theorem dX7_becomeJoined_133 : decode cX7_becomeJoined 133 = .ok (.ireturn, 1) := by decide +kernel
theorem dX7_becomeLinked_0 : decode cX7_becomeLinked 0 = .ok (.aload_n 1, 1) := by decide +kernel
theorem dX7_becomeLinked_1 : decode cX7_becomeLinked 1 = .ok (.getfield 19, 3) := by decide +kernel
theorem dX7_becomeLinked_4 : decode cX7_becomeLinked 4 = .ok (.iconst 1, 1) := by decide +kernel
theorem dX7_becomeLinked_5 : decode cX7_becomeLinked 5 = .ok (.isub, 1) := by decide +kernel
theorem dX7_becomeLinked_6 : decode cX7_becomeLinked 6 = .ok (.istore_n 3, 1) := by decide +kernel
theorem dX7_becomeLinked_7 : decode cX7_becomeLinked 7 = .ok (.aload_n 1, 1) := by decide +kernel
theorem dX7_becomeLinked_8 : decode cX7_becomeLinked 8 = .ok (.getfield 15, 3) := by decide +kernel
theorem dX7_becomeLinked_11 : decode cX7_becomeLinked 11 = .ok (.aload_n 2, 1) := by decide +kernel
theorem dX7_becomeLinked_12 : decode cX7_becomeLinked 12 = .ok (.getfield 15, 3) := by decide +kernel
theorem dX7_becomeLinked_15 : decode cX7_becomeLinked 15 = .ok (.iadd, 1) := by decide +kernel
theorem dX7_becomeLinked_16 : decode cX7_becomeLinked 16 = .ok (.iconst 1, 1) := by decide +kernel
theorem dX7_becomeLinked_17 : decode cX7_becomeLinked 17 = .ok (.isub, 1) := by decide +kernel
theorem dX7_becomeLinked_18 : decode cX7_becomeLinked 18 = .ok (.istore 4, 2) := by decide +kernel
theorem dX7_becomeLinked_20 : decode cX7_becomeLinked 20 = .ok (.iload_n 3, 1) := by decide +kernel
theorem dX7_becomeLinked_21 : decode cX7_becomeLinked 21 = .ok (.aload_n 2, 1) := by decide +kernel
theorem dX7_becomeLinked_22 : decode cX7_becomeLinked 22 = .ok (.getfield 19, 3) := by decide +kernel
theorem dX7_becomeLinked_25 : decode cX7_becomeLinked 25 = .ok (.iadd, 1) := by decide +kernel
theorem dX7_becomeLinked_26 : decode cX7_becomeLinked 26 = .ok (.istore 5, 2) := by decide +kernel
theorem dX7_becomeLinked_28 : decode cX7_becomeLinked 28 = .ok (.iload_n 3, 1) := by decide +kernel
theorem dX7_becomeLinked_29 : decode cX7_becomeLinked 29 = .ok (.iconst 1, 1) := by decide +kernel
theorem dX7_becomeLinked_30 : decode cX7_becomeLinked 30 = .ok (.if_icmp .lt 25, 3) := by decide +kernel
theorem dX7_becomeLinked_33 : decode cX7_becomeLinked 33 = .ok (.aload_n 2, 1) := by decide +kernel
theorem dX7_becomeLinked_34 : decode cX7_becomeLinked 34 = .ok (.getfield 15, 3) := by decide +kernel
theorem dX7_becomeLinked_37 : decode cX7_becomeLinked 37 = .ok (.iconst 2, 1) := by decide +kernel
theorem dX7_becomeLinked_38 : decode cX7_becomeLinked 38 = .ok (.if_icmp .lt 17, 3) := by decide +kernel
theorem dX7_becomeLinked_41 : decode cX7_becomeLinked 41 = .ok (.iload 4, 2) := by decide +kernel
theorem dX7_becomeLinked_43 : decode cX7_becomeLinked 43 = .ok (.bipush 6, 2) := by decide +kernel
theorem dX7_becomeLinked_45 : decode cX7_becomeLinked 45 = .ok (.if_icmp .gt 10, 3) := by decide +kernel
theorem dX7_becomeLinked_48 : decode cX7_becomeLinked 48 = .ok (.iload 5, 2) := by decide +kernel
theorem dX7_becomeLinked_50 : decode cX7_becomeLinked 50 = .ok (.bipush 6, 2) := by decide +kernel
theorem dX7_becomeLinked_52 : decode cX7_becomeLinked 52 = .ok (.if_icmp .le 5, 3) := by decide +kernel
theorem dX7_becomeLinked_55 : decode cX7_becomeLinked 55 = .ok (.iconst 3, 1) := by decide +kernel
theorem dX7_becomeLinked_56 : decode cX7_becomeLinked 56 = .ok (.ireturn, 1) := by decide +kernel
theorem dX7_becomeLinked_57 : decode cX7_becomeLinked 57 = .ok (.aload_n 0, 1) := by decide +kernel
theorem dX7_becomeLinked_58 : decode cX7_becomeLinked 58 = .ok (.iload 4, 2) := by decide +kernel
theorem dX7_becomeLinked_60 : decode cX7_becomeLinked 60 = .ok (.iload 5, 2) := by decide +kernel
theorem dX7_becomeLinked_62 : decode cX7_becomeLinked 62 = .ok (.invokevirtual 32, 3) := by decide +kernel
theorem dX7_becomeLinked_65 : decode cX7_becomeLinked 65 = .ok (.iconst 0, 1) := by decide +kernel
theorem dX7_becomeLinked_66 : decode cX7_becomeLinked 66 = .ok (.istore 6, 2) := by decide +kernel
theorem dX7_becomeLinked_68 : decode cX7_becomeLinked 68 = .ok (.iload 6, 2) := by decide +kernel
theorem dX7_becomeLinked_70 : decode cX7_becomeLinked 70 = .ok (.iload 4, 2) := by decide +kernel
theorem dX7_becomeLinked_72 : decode cX7_becomeLinked 72 = .ok (.if_icmp .ge 42, 3) := by decide +kernel
theorem dX7_becomeLinked_75 : decode cX7_becomeLinked 75 = .ok (.iconst 0, 1) := by decide +kernel
theorem dX7_becomeLinked_76 : decode cX7_becomeLinked 76 = .ok (.istore 7, 2) := by decide +kernel
theorem dX7_becomeLinked_78 : decode cX7_becomeLinked 78 = .ok (.iload 7, 2) := by decide +kernel
theorem dX7_becomeLinked_80 : decode cX7_becomeLinked 80 = .ok (.iload 5, 2) := by decide +kernel
theorem dX7_becomeLinked_82 : decode cX7_becomeLinked 82 = .ok (.if_icmp .ge 26, 3) := by decide +kernel
theorem dX7_becomeLinked_85 : decode cX7_becomeLinked 85 = .ok (.aload_n 0, 1) := by decide +kernel
theorem dX7_becomeLinked_86 : decode cX7_becomeLinked 86 = .ok (.iload 6, 2) := by decide +kernel
theorem dX7_becomeLinked_88 : decode cX7_becomeLinked 88 = .ok (.iload 7, 2) := by decide +kernel
theorem dX7_becomeLinked_90 : decode cX7_becomeLinked 90 = .ok (.aload_n 1, 1) := by decide +kernel
theorem dX7_becomeLinked_91 : decode cX7_becomeLinked 91 = .ok (.aload_n 2, 1) := by decide +kernel
theorem dX7_becomeLinked_92 : decode cX7_becomeLinked 92 = .ok (.iload 6, 2) := by decide +kernel
theorem dX7_becomeLinked_94 : decode cX7_becomeLinked 94 = .ok (.iload 7, 2) := by decide +kernel
theorem dX7_becomeLinked_96 : decode cX7_becomeLinked 96 = .ok (.invokestatic 90, 3) := by decide +kernel
theorem dX7_becomeLinked_99 : decode cX7_becomeLinked 99 = .ok (.invokevirtual 48, 3) := by decide +kernel
theorem dX7_becomeLinked_102 : decode cX7_becomeLinked 102 = .ok (.iinc 7 1, 3) := by decide +kernel
theorem dX7_becomeLinked_105 : decode cX7_becomeLinked 105 = .ok (.goto (-27), 3) := by decide +kernel
theorem dX7_becomeLinked_108 : decode cX7_becomeLinked 108 = .ok (.iinc 6 1, 3) := by decide +kernel
theorem dX7_becomeLinked_111 : decode cX7_becomeLinked 111 = .ok (.goto (-43), 3) := by decide +kernel
theorem dX7_becomeLinked_114 : decode cX7_becomeLinked 114 = .ok (.iconst (-1), 1) := by decide +kernel
theorem dX7_becomeLinked_115 : decode cX7_becomeLinked 115 = .ok (.ireturn, 1) := by decide +kernel
theorem dX7_linked_0 : decode cX7_linked 0 = .ok (.aload_n 0, 1) := by decide +kernel
theorem dX7_linked_1 : decode cX7_linked 1 = .ok (.getfield 19, 3) := by decide +kernel
theorem dX7_linked_4 : decode cX7_linked 4 = .ok (.iconst 1, 1) := by decide +kernel
theorem dX7_linked_5 : decode cX7_linked 5 = .ok (.isub, 1) := by decide +kernel
theorem dX7_linked_6 : decode cX7_linked 6 = .ok (.istore 4, 2) := by decide +kernel
theorem dX7_linked_8 : decode cX7_linked 8 = .ok (.iload_n 2, 1) := by decide +kernel
theorem dX7_linked_9 : decode cX7_linked 9 = .ok (.aload_n 0, 1) := by decide +kernel
theorem dX7_linked_10 : decode cX7_linked 10 = .ok (.getfield 15, 3) := by decide +kernel
theorem dX7_linked_13 : decode cX7_linked 13 = .ok (.if_icmp .lt 20, 3) := by decide +kernel
theorem dX7_linked_16 : decode cX7_linked 16 = .ok (.aload_n 1, 1) := by decide +kernel
theorem dX7_linked_17 : decode cX7_linked 17 = .ok (.iload_n 2, 1) := by decide +kernel
theorem dX7_linked_18 : decode cX7_linked 18 = .ok (.aload_n 0, 1) := by decide +kernel
theorem dX7_linked_19 : decode cX7_linked 19 = .ok (.getfield 15, 3) := by decide +kernel
theorem dX7_linked_22 : decode cX7_linked 22 = .ok (.isub, 1) := by decide +kernel
theorem dX7_linked_23 : decode cX7_linked 23 = .ok (.iconst 1, 1) := by decide +kernel
theorem dX7_linked_24 : decode cX7_linked 24 = .ok (.iadd, 1) := by decide +kernel
theorem dX7_linked_25 : decode cX7_linked 25 = .ok (.iload_n 3, 1) := by decide +kernel
theorem dX7_linked_26 : decode cX7_linked 26 = .ok (.iload 4, 2) := by decide +kernel
theorem dX7_linked_28 : decode cX7_linked 28 = .ok (.isub, 1) := by decide +kernel
theorem dX7_linked_29 : decode cX7_linked 29 = .ok (.invokevirtual 28, 3) := by decide +kernel
theorem dX7_linked_32 : decode cX7_linked 32 = .ok (.ireturn, 1) := by decide +kernel
theorem dX7_linked_33 : decode cX7_linked 33 = .ok (.iload_n 3, 1) := by decide +kernel
theorem dX7_linked_34 : decode cX7_linked 34 = .ok (.iload 4, 2) := by decide +kernel
theorem dX7_linked_36 : decode cX7_linked 36 = .ok (.if_icmp .ge 12, 3) := by decide +kernel
theorem dX7_linked_39 : decode cX7_linked 39 = .ok (.aload_n 0, 1) := by decide +kernel
theorem dX7_linked_40 : decode cX7_linked 40 = .ok (.iload_n 2, 1) := by decide +kernel
theorem dX7_linked_41 : decode cX7_linked 41 = .ok (.iload_n 3, 1) := by decide +kernel
theorem dX7_linked_42 : decode cX7_linked 42 = .ok (.invokevirtual 28, 3) := by decide +kernel
theorem dX7_linked_45 : decode cX7_linked 45 = .ok (.goto 20, 3) := by decide +kernel
theorem dX7_linked_48 : decode cX7_linked 48 = .ok (.aload_n 0, 1) := by decide +kernel
theorem dX7_linked_49 : decode cX7_linked 49 = .ok (.iload_n 2, 1) := by decide +kernel
theorem dX7_linked_50 : decode cX7_linked 50 = .ok (.iload 4, 2) := by decide +kernel
theorem dX7_linked_52 : decode cX7_linked 52 = .ok (.invokevirtual 28, 3) := by decide +kernel
theorem dX7_linked_55 : decode cX7_linked 55 = .ok (.aload_n 1, 1) := by decide +kernel
theorem dX7_linked_56 : decode cX7_linked 56 = .ok (.iconst 0, 1) := by decide +kernel
theorem dX7_linked_57 : decode cX7_linked 57 = .ok (.iload_n 3, 1) := by decide +kernel
theorem dX7_linked_58 : decode cX7_linked 58 = .ok (.iload 4, 2) := by decide +kernel
theorem dX7_linked_60 : decode cX7_linked 60 = .ok (.isub, 1) := by decide +kernel
theorem dX7_linked_61 : decode cX7_linked 61 = .ok (.invokevirtual 28, 3) := by decide +kernel
theorem dX7_linked_64 : decode cX7_linked 64 = .ok (.imul, 1) := by decide +kernel
theorem dX7_linked_65 : decode cX7_linked 65 = .ok (.ireturn, 1) := by decide +kernel
theorem dX7_halved_0 : decode cX7_halved 0 = .ok (.iconst 0, 1) := by decide +kernel
theorem dX7_halved_1 : decode cX7_halved 1 = .ok (.istore_n 2, 1) := by decide +kernel
theorem dX7_halved_2 : decode cX7_halved 2 = .ok (.iload_n 2, 1) := by decide +kernel
theorem dX7_halved_3 : decode cX7_halved 3 = .ok (.iload_n 1, 1) := by decide +kernel
theorem dX7_halved_4 : decode cX7_halved 4 = .ok (.if_icmp .gt 34, 3) := by decide +kernel
theorem dX7_halved_7 : decode cX7_halved 7 = .ok (.iload_n 2, 1) := by decide +kernel
theorem dX7_halved_8 : decode cX7_halved 8 = .ok (.bipush 64, 2) := by decide +kernel
theorem dX7_halved_10 : decode cX7_halved 10 = .ok (.if_icmp .ge 28, 3) := by decide +kernel
theorem dX7_halved_13 : decode cX7_halved 13 = .ok (.iload_n 2, 1) := by decide +kernel
theorem dX7_halved_14 : decode cX7_halved 14 = .ok (.iload_n 1, 1) := by decide +kernel
theorem dX7_halved_15 : decode cX7_halved 15 = .ok (.iconst (-1), 1) := by decide +kernel
theorem dX7_halved_16 : decode cX7_halved 16 = .ok (.ixor, 1) := by decide +kernel
theorem dX7_halved_17 : decode cX7_halved 17 = .ok (.iand, 1) := by decide +kernel
theorem dX7_halved_18 : decode cX7_halved 18 = .ok (.ifCond .ne 14, 3) := by decide +kernel
theorem dX7_halved_21 : decode cX7_halved 21 = .ok (.aload_n 0, 1) := by decide +kernel
theorem dX7_halved_22 : decode cX7_halved 22 = .ok (.iload_n 1, 1) := by decide +kernel
theorem dX7_halved_23 : decode cX7_halved 23 = .ok (.iload_n 2, 1) := by decide +kernel
theorem dX7_halved_24 : decode cX7_halved 24 = .ok (.invokevirtual 94, 3) := by decide +kernel
theorem dX7_halved_27 : decode cX7_halved 27 = .ok (.ifCond .eq 5, 3) := by decide +kernel
theorem dX7_halved_30 : decode cX7_halved 30 = .ok (.iload_n 2, 1) := by decide +kernel
theorem dX7_halved_31 : decode cX7_halved 31 = .ok (.ireturn, 1) := by decide +kernel
theorem dX7_halved_32 : decode cX7_halved 32 = .ok (.iinc 2 1, 3) := by decide +kernel
theorem dX7_halved_35 : decode cX7_halved 35 = .ok (.goto (-33), 3) := by decide +kernel
theorem dX7_halved_38 : decode cX7_halved 38 = .ok (.iconst (-1), 1) := by decide +kernel
theorem dX7_halved_39 : decode cX7_halved 39 = .ok (.ireturn, 1) := by decide +kernel
theorem dX7_halvesAll_0 : decode cX7_halvesAll 0 = .ok (.iconst 0, 1) := by decide +kernel
theorem dX7_halvesAll_1 : decode cX7_halvesAll 1 = .ok (.istore_n 3, 1) := by decide +kernel
theorem dX7_halvesAll_2 : decode cX7_halvesAll 2 = .ok (.iload_n 3, 1) := by decide +kernel
theorem dX7_halvesAll_3 : decode cX7_halvesAll 3 = .ok (.aload_n 0, 1) := by decide +kernel
theorem dX7_halvesAll_4 : decode cX7_halvesAll 4 = .ok (.getfield 19, 3) := by decide +kernel
theorem dX7_halvesAll_7 : decode cX7_halvesAll 7 = .ok (.if_icmp .ge 81, 3) := by decide +kernel
theorem dX7_halvesAll_10 : decode cX7_halvesAll 10 = .ok (.iconst 0, 1) := by decide +kernel
theorem dX7_halvesAll_11 : decode cX7_halvesAll 11 = .ok (.istore 4, 2) := by decide +kernel
theorem dX7_halvesAll_13 : decode cX7_halvesAll 13 = .ok (.iconst 0, 1) := by decide +kernel
theorem dX7_halvesAll_14 : decode cX7_halvesAll 14 = .ok (.istore 5, 2) := by decide +kernel
theorem dX7_halvesAll_16 : decode cX7_halvesAll 16 = .ok (.iload 5, 2) := by decide +kernel
theorem dX7_halvesAll_18 : decode cX7_halvesAll 18 = .ok (.aload_n 0, 1) := by decide +kernel
theorem dX7_halvesAll_19 : decode cX7_halvesAll 19 = .ok (.getfield 15, 3) := by decide +kernel
theorem dX7_halvesAll_22 : decode cX7_halvesAll 22 = .ok (.if_icmp .ge 50, 3) := by decide +kernel
theorem dX7_halvesAll_25 : decode cX7_halvesAll 25 = .ok (.iload_n 1, 1) := by decide +kernel
theorem dX7_halvesAll_26 : decode cX7_halvesAll 26 = .ok (.iload 5, 2) := by decide +kernel
theorem dX7_halvesAll_28 : decode cX7_halvesAll 28 = .ok (.invokestatic 97, 3) := by decide +kernel
theorem dX7_halvesAll_31 : decode cX7_halvesAll 31 = .ok (.ifCond .eq 35, 3) := by decide +kernel
theorem dX7_halvesAll_34 : decode cX7_halvesAll 34 = .ok (.iload 4, 2) := by decide +kernel
theorem dX7_halvesAll_36 : decode cX7_halvesAll 36 = .ok (.iload_n 2, 1) := by decide +kernel
theorem dX7_halvesAll_37 : decode cX7_halvesAll 37 = .ok (.iload 5, 2) := by decide +kernel
theorem dX7_halvesAll_39 : decode cX7_halvesAll 39 = .ok (.invokestatic 97, 3) := by decide +kernel
theorem dX7_halvesAll_42 : decode cX7_halvesAll 42 = .ok (.ifCond .eq 13, 3) := by decide +kernel
theorem dX7_halvesAll_45 : decode cX7_halvesAll 45 = .ok (.aload_n 0, 1) := by decide +kernel
theorem dX7_halvesAll_46 : decode cX7_halvesAll 46 = .ok (.iload 5, 2) := by decide +kernel
theorem dX7_halvesAll_48 : decode cX7_halvesAll 48 = .ok (.iload_n 3, 1) := by decide +kernel
theorem dX7_halvesAll_49 : decode cX7_halvesAll 49 = .ok (.invokevirtual 28, 3) := by decide +kernel
theorem dX7_halvesAll_52 : decode cX7_halvesAll 52 = .ok (.goto 11, 3) := by decide +kernel
theorem dX7_halvesAll_55 : decode cX7_halvesAll 55 = .ok (.aload_n 0, 1) := by decide +kernel
theorem dX7_halvesAll_56 : decode cX7_halvesAll 56 = .ok (.iload 5, 2) := by decide +kernel
theorem dX7_halvesAll_58 : decode cX7_halvesAll 58 = .ok (.iload_n 3, 1) := by decide +kernel
theorem dX7_halvesAll_59 : decode cX7_halvesAll 59 = .ok (.invokevirtual 28, 3) := by decide +kernel
theorem dX7_halvesAll_62 : decode cX7_halvesAll 62 = .ok (.ineg, 1) := by decide +kernel
theorem dX7_halvesAll_63 : decode cX7_halvesAll 63 = .ok (.iadd, 1) := by decide +kernel
theorem dX7_halvesAll_64 : decode cX7_halvesAll 64 = .ok (.istore 4, 2) := by decide +kernel
theorem dX7_halvesAll_66 : decode cX7_halvesAll 66 = .ok (.iinc 5 1, 3) := by decide +kernel
theorem dX7_halvesAll_69 : decode cX7_halvesAll 69 = .ok (.goto (-53), 3) := by decide +kernel
theorem dX7_halvesAll_72 : decode cX7_halvesAll 72 = .ok (.iload 4, 2) := by decide +kernel
theorem dX7_halvesAll_74 : decode cX7_halvesAll 74 = .ok (.invokestatic 86, 3) := by decide +kernel
theorem dX7_halvesAll_77 : decode cX7_halvesAll 77 = .ok (.ifCond .eq 5, 3) := by decide +kernel
theorem dX7_halvesAll_80 : decode cX7_halvesAll 80 = .ok (.iconst 0, 1) := by decide +kernel
theorem dX7_halvesAll_81 : decode cX7_halvesAll 81 = .ok (.ireturn, 1) := by decide +kernel
theorem dX7_halvesAll_82 : decode cX7_halvesAll 82 = .ok (.iinc 3 1, 3) := by decide +kernel
theorem dX7_halvesAll_85 : decode cX7_halvesAll 85 = .ok (.goto (-83), 3) := by decide +kernel
theorem dX7_halvesAll_88 : decode cX7_halvesAll 88 = .ok (.iconst 1, 1) := by decide +kernel
theorem dX7_halvesAll_89 : decode cX7_halvesAll 89 = .ok (.ireturn, 1) := by decide +kernel
theorem dX7_scalesTo_0 : decode cX7_scalesTo 0 = .ok (.aload_n 0, 1) := by decide +kernel
theorem dX7_scalesTo_1 : decode cX7_scalesTo 1 = .ok (.getfield 15, 3) := by decide +kernel
theorem dX7_scalesTo_4 : decode cX7_scalesTo 4 = .ok (.aload_n 1, 1) := by decide +kernel
theorem dX7_scalesTo_5 : decode cX7_scalesTo 5 = .ok (.getfield 15, 3) := by decide +kernel
theorem dX7_scalesTo_8 : decode cX7_scalesTo 8 = .ok (.if_icmp .ne 14, 3) := by decide +kernel
theorem dX7_scalesTo_11 : decode cX7_scalesTo 11 = .ok (.aload_n 0, 1) := by decide +kernel
theorem dX7_scalesTo_12 : decode cX7_scalesTo 12 = .ok (.getfield 19, 3) := by decide +kernel
theorem dX7_scalesTo_15 : decode cX7_scalesTo 15 = .ok (.aload_n 1, 1) := by decide +kernel
theorem dX7_scalesTo_16 : decode cX7_scalesTo 16 = .ok (.getfield 19, 3) := by decide +kernel
theorem dX7_scalesTo_19 : decode cX7_scalesTo 19 = .ok (.if_icmp .eq 5, 3) := by decide +kernel
theorem dX7_scalesTo_22 : decode cX7_scalesTo 22 = .ok (.iconst 0, 1) := by decide +kernel
theorem dX7_scalesTo_23 : decode cX7_scalesTo 23 = .ok (.ireturn, 1) := by decide +kernel
theorem dX7_scalesTo_24 : decode cX7_scalesTo 24 = .ok (.iconst 0, 1) := by decide +kernel
theorem dX7_scalesTo_25 : decode cX7_scalesTo 25 = .ok (.istore_n 2, 1) := by decide +kernel
theorem dX7_scalesTo_26 : decode cX7_scalesTo 26 = .ok (.iload_n 2, 1) := by decide +kernel
theorem dX7_scalesTo_27 : decode cX7_scalesTo 27 = .ok (.bipush 64, 2) := by decide +kernel
theorem dX7_scalesTo_29 : decode cX7_scalesTo 29 = .ok (.if_icmp .ge 65, 3) := by decide +kernel
theorem dX7_scalesTo_32 : decode cX7_scalesTo 32 = .ok (.aload_n 0, 1) := by decide +kernel
theorem dX7_scalesTo_33 : decode cX7_scalesTo 33 = .ok (.iload_n 2, 1) := by decide +kernel
theorem dX7_scalesTo_34 : decode cX7_scalesTo 34 = .ok (.invokevirtual 100, 3) := by decide +kernel
theorem dX7_scalesTo_37 : decode cX7_scalesTo 37 = .ok (.ifCond .eq 57, 3) := by decide +kernel
theorem dX7_scalesTo_40 : decode cX7_scalesTo 40 = .ok (.iconst 0, 1) := by decide +kernel
theorem dX7_scalesTo_41 : decode cX7_scalesTo 41 = .ok (.istore_n 3, 1) := by decide +kernel
theorem dX7_scalesTo_42 : decode cX7_scalesTo 42 = .ok (.iload_n 3, 1) := by decide +kernel
theorem dX7_scalesTo_43 : decode cX7_scalesTo 43 = .ok (.aload_n 0, 1) := by decide +kernel
theorem dX7_scalesTo_44 : decode cX7_scalesTo 44 = .ok (.getfield 19, 3) := by decide +kernel
theorem dX7_scalesTo_47 : decode cX7_scalesTo 47 = .ok (.if_icmp .ge 31, 3) := by decide +kernel
theorem dX7_scalesTo_50 : decode cX7_scalesTo 50 = .ok (.aload_n 0, 1) := by decide +kernel
theorem dX7_scalesTo_51 : decode cX7_scalesTo 51 = .ok (.aload_n 1, 1) := by decide +kernel
theorem dX7_scalesTo_52 : decode cX7_scalesTo 52 = .ok (.iload_n 3, 1) := by decide +kernel
theorem dX7_scalesTo_53 : decode cX7_scalesTo 53 = .ok (.iload_n 2, 1) := by decide +kernel
theorem dX7_scalesTo_54 : decode cX7_scalesTo 54 = .ok (.iconst 1, 1) := by decide +kernel
theorem dX7_scalesTo_55 : decode cX7_scalesTo 55 = .ok (.invokevirtual 103, 3) := by decide +kernel
theorem dX7_scalesTo_58 : decode cX7_scalesTo 58 = .ok (.ifCond .ne 14, 3) := by decide +kernel
theorem dX7_scalesTo_61 : decode cX7_scalesTo 61 = .ok (.aload_n 0, 1) := by decide +kernel
theorem dX7_scalesTo_62 : decode cX7_scalesTo 62 = .ok (.aload_n 1, 1) := by decide +kernel
theorem dX7_scalesTo_63 : decode cX7_scalesTo 63 = .ok (.iload_n 3, 1) := by decide +kernel
theorem dX7_scalesTo_64 : decode cX7_scalesTo 64 = .ok (.iload_n 2, 1) := by decide +kernel
theorem dX7_scalesTo_65 : decode cX7_scalesTo 65 = .ok (.iconst (-1), 1) := by decide +kernel
theorem dX7_scalesTo_66 : decode cX7_scalesTo 66 = .ok (.invokevirtual 103, 3) := by decide +kernel
theorem dX7_scalesTo_69 : decode cX7_scalesTo 69 = .ok (.ifCond .eq 9, 3) := by decide +kernel
theorem dX7_scalesTo_72 : decode cX7_scalesTo 72 = .ok (.iinc 3 1, 3) := by decide +kernel
theorem dX7_scalesTo_75 : decode cX7_scalesTo 75 = .ok (.goto (-33), 3) := by decide +kernel
theorem dX7_scalesTo_78 : decode cX7_scalesTo 78 = .ok (.iload_n 3, 1) := by decide +kernel
theorem dX7_scalesTo_79 : decode cX7_scalesTo 79 = .ok (.aload_n 0, 1) := by decide +kernel
theorem dX7_scalesTo_80 : decode cX7_scalesTo 80 = .ok (.getfield 19, 3) := by decide +kernel
theorem dX7_scalesTo_83 : decode cX7_scalesTo 83 = .ok (.if_icmp .ne 5, 3) := by decide +kernel
theorem dX7_scalesTo_86 : decode cX7_scalesTo 86 = .ok (.iconst 1, 1) := by decide +kernel
theorem dX7_scalesTo_87 : decode cX7_scalesTo 87 = .ok (.ireturn, 1) := by decide +kernel
theorem dX7_scalesTo_88 : decode cX7_scalesTo 88 = .ok (.iinc 2 1, 3) := by decide +kernel
theorem dX7_scalesTo_91 : decode cX7_scalesTo 91 = .ok (.goto (-65), 3) := by decide +kernel
theorem dX7_scalesTo_94 : decode cX7_scalesTo 94 = .ok (.iconst 0, 1) := by decide +kernel
theorem dX7_scalesTo_95 : decode cX7_scalesTo 95 = .ok (.ireturn, 1) := by decide +kernel
theorem dX7_columnIs_0 : decode cX7_columnIs 0 = .ok (.iconst 0, 1) := by decide +kernel
theorem dX7_columnIs_1 : decode cX7_columnIs 1 = .ok (.istore 5, 2) := by decide +kernel
theorem dX7_columnIs_3 : decode cX7_columnIs 3 = .ok (.iload 5, 2) := by decide +kernel
theorem dX7_columnIs_5 : decode cX7_columnIs 5 = .ok (.aload_n 0, 1) := by decide +kernel
theorem dX7_columnIs_6 : decode cX7_columnIs 6 = .ok (.getfield 15, 3) := by decide +kernel
theorem dX7_columnIs_9 : decode cX7_columnIs 9 = .ok (.if_icmp .ge 55, 3) := by decide +kernel
theorem dX7_columnIs_12 : decode cX7_columnIs 12 = .ok (.iload_n 3, 1) := by decide +kernel
theorem dX7_columnIs_13 : decode cX7_columnIs 13 = .ok (.iload 5, 2) := by decide +kernel
theorem dX7_columnIs_15 : decode cX7_columnIs 15 = .ok (.invokestatic 97, 3) := by decide +kernel
theorem dX7_columnIs_18 : decode cX7_columnIs 18 = .ok (.ifCond .eq 14, 3) := by decide +kernel
theorem dX7_columnIs_21 : decode cX7_columnIs 21 = .ok (.aload_n 0, 1) := by decide +kernel
theorem dX7_columnIs_22 : decode cX7_columnIs 22 = .ok (.iload 5, 2) := by decide +kernel
theorem dX7_columnIs_24 : decode cX7_columnIs 24 = .ok (.iload_n 2, 1) := by decide +kernel
theorem dX7_columnIs_25 : decode cX7_columnIs 25 = .ok (.invokevirtual 28, 3) := by decide +kernel
theorem dX7_columnIs_28 : decode cX7_columnIs 28 = .ok (.ineg, 1) := by decide +kernel
theorem dX7_columnIs_29 : decode cX7_columnIs 29 = .ok (.goto 10, 3) := by decide +kernel
theorem dX7_columnIs_32 : decode cX7_columnIs 32 = .ok (.aload_n 0, 1) := by decide +kernel
theorem dX7_columnIs_33 : decode cX7_columnIs 33 = .ok (.iload 5, 2) := by decide +kernel
theorem dX7_columnIs_35 : decode cX7_columnIs 35 = .ok (.iload_n 2, 1) := by decide +kernel
theorem dX7_columnIs_36 : decode cX7_columnIs 36 = .ok (.invokevirtual 28, 3) := by decide +kernel
theorem dX7_columnIs_39 : decode cX7_columnIs 39 = .ok (.istore 6, 2) := by decide +kernel
theorem dX7_columnIs_41 : decode cX7_columnIs 41 = .ok (.iload 6, 2) := by decide +kernel
theorem dX7_columnIs_43 : decode cX7_columnIs 43 = .ok (.iload 4, 2) := by decide +kernel
theorem dX7_columnIs_45 : decode cX7_columnIs 45 = .ok (.imul, 1) := by decide +kernel
theorem dX7_columnIs_46 : decode cX7_columnIs 46 = .ok (.aload_n 1, 1) := by decide +kernel
theorem dX7_columnIs_47 : decode cX7_columnIs 47 = .ok (.iload 5, 2) := by decide +kernel
theorem dX7_columnIs_49 : decode cX7_columnIs 49 = .ok (.iload_n 2, 1) := by decide +kernel
theorem dX7_columnIs_50 : decode cX7_columnIs 50 = .ok (.invokevirtual 28, 3) := by decide +kernel
theorem dX7_columnIs_53 : decode cX7_columnIs 53 = .ok (.if_icmp .eq 5, 3) := by decide +kernel
theorem dX7_columnIs_56 : decode cX7_columnIs 56 = .ok (.iconst 0, 1) := by decide +kernel
theorem dX7_columnIs_57 : decode cX7_columnIs 57 = .ok (.ireturn, 1) := by decide +kernel
theorem dX7_columnIs_58 : decode cX7_columnIs 58 = .ok (.iinc 5 1, 3) := by decide +kernel
theorem dX7_columnIs_61 : decode cX7_columnIs 61 = .ok (.goto (-58), 3) := by decide +kernel
theorem dX7_columnIs_64 : decode cX7_columnIs 64 = .ok (.iconst 1, 1) := by decide +kernel
theorem dX7_columnIs_65 : decode cX7_columnIs 65 = .ok (.ireturn, 1) := by decide +kernel
theorem sb7 : ∀ a, a < 8 → ∀ b, b < 8 → (nI a - nI b).toInt = (a : Int) - b := by decide +kernel
/-- an entry by places that may lie ahead of it -/
theorem atZ_s {T : tb} (h6 : T.1 ≤ 6) (h7 : T.2.1 ≤ 6) {p q c : Nat} (hp : p < T.1) (hq : q < 8) (hc : c < 8) (hl : q < c + T.2.1) : atZ T (nI p) (nI q - nI c) = if c ≤ q then T.2.2 p (q - c) else 0 := by
  by_cases e : c ≤ q
  · rw [if_pos e, nI_sub e, atZ_i h6 h7 hp (by omega)]
  · rw [if_neg e, atZ_n]
    rintro ⟨-, z, -⟩
    rw [sb7 q hq c hc] at z
    omega
def lxd (n m p q : Nat) : Prop := p < n ∨ (p = n ∧ q < m)
theorem c_joined {σ : sg} {x : aW} {a b c : Nat} {A B : tb} (hA : TL a) (hB : TL b) (hD : TL c) (nb : a ≠ b) (nc : a ≠ c) (h1 : CT σ b A) (h2 : CT σ c B) (i1 : tbI A) (i2 : tbI B) : Mt mX7_becomeJoined 1 0 0 [.ref a, .ref b, .ref c] (wd σ x) (fun r w => (canJ A B 0 ∧ TQ σ x a (jnT A B 0) (some (.int (-1))) r w) ∨ (¬ canJ A B 0 ∧ r = some (.int 3) ∧ w = wd σ x)) := by
  refine Mt.of MI_X7_becomeJoined (Nat.le_of_ble_eq_true rfl) (fun X hC hR hT => ?_)
  obtain ⟨a1, a2, a3, a4, a5⟩ := id h1
  obtain ⟨b1, b2, b3, b4, b5⟩ := id h2
  obtain ⟨-, n1, n2⟩ := hA.ne hB nb
  obtain ⟨-, n3, n4⟩ := hA.ne hD nc
  have g1 : ∀ τ, AE [a, a + 1] σ τ → CT τ b A := fun τ e => h1.ae e (by simp; omega) (by have := (hA.ne hB nb).1; simp; omega)
  have g2 : ∀ τ, AE [a, a + 1] σ τ → CT τ c B := fun τ e => h2.ae e (by simp; omega) (by have := (hA.ne hD nc).1; simp; omega)
  by_cases hj : canJ A B 0
  · obtain ⟨-, j1, j2⟩ := id hj
    simp only [Nat.sub_zero] at j1 j2
    have outer : ∀ n, n ≤ A.1 + B.1 → ∀ τ, AE [a, a + 1] σ τ → CT τ a (A.1 + B.1, A.2.1 + B.2.1, fun p q => if p < n then jnF A B 0 p q else 0) → ∀ u6 u7, Rw mX7_becomeJoined X 46 [some (.ref a), some (.ref b), some (.ref c), some (.int (nI (A.1 + B.1))), some (.int (nI (A.2.1 + B.2.1))), some (.int (nI n)), u6, u7] [] (wd τ x) 0 0 := by
      refine up_loop (A.1 + B.1) ?_ ?_
      · intro τ e ht u6 u7
        refine R_iload hC dX7_becomeJoined_46 rfl (R_iload_n (i := 3) hC dX7_becomeJoined_48 rfl rfl ?_)
        refine R_icmp_ge hC 132 dX7_becomeJoined_49 (by decide) (fun _ => ?_) (fun h => absurd (Int32.le_refl _) h)
        refine R_iconst (v := (-1)) hC dX7_becomeJoined_132 (by decide) ?_
        exact R_iret hC hT dX7_becomeJoined_133 rfl (Or.inl ⟨hj, TQ.i e (ht.cg (f := jnF A B 0) (fun p q hp hq => (if_pos hp).symm))⟩)
      · intro n hn ih τ e ht u6 u7
        have inner : ∀ m, m ≤ A.2.1 + B.2.1 → ∀ τ, AE [a, a + 1] σ τ → CT τ a (A.1 + B.1, A.2.1 + B.2.1, fun p q => if p < n ∨ (p = n ∧ q < m) then jnF A B 0 p q else 0) → ∀ u7, Rw mX7_becomeJoined X 55 [some (.ref a), some (.ref b), some (.ref c), some (.int (nI (A.1 + B.1))), some (.int (nI (A.2.1 + B.2.1))), some (.int (nI n)), some (.int (nI m)), u7] [] (wd τ x) 0 0 := by
          refine up_loop (A.2.1 + B.2.1) ?_ ?_
          · intro τ e ht u7
            refine R_iload hC dX7_becomeJoined_55 rfl (R_iload hC dX7_becomeJoined_57 rfl ?_)
            refine R_icmp_ge hC 126 dX7_becomeJoined_59 (by decide) (fun _ => ?_) (fun h => absurd (Int32.le_refl _) h)
            refine R_iinc hC dX7_becomeJoined_126 rfl (inc1 _) (by decide) rfl (R_goto hC 46 dX7_becomeJoined_129 (by decide) ?_)
            exact ih τ e (ht.cg (fun p q hp hq => by
              have hq : q < A.2.1 + B.2.1 := hq
              show (if p < n + 1 then _ else _) = if p < n ∨ (p = n ∧ q < A.2.1 + B.2.1) then _ else _
              by_cases e1 : p < n + 1
              · rw [if_pos e1, if_pos (by omega)]
              · rw [if_neg e1, if_neg (by omega)])) _ _
          · intro m hm ihm τ e ht u7
            have nx : ∀ v, v = jnF A B 0 n m → ∀ u7, Rw mX7_becomeJoined X 117 [some (.ref a), some (.ref b), some (.ref c), some (.int (nI (A.1 + B.1))), some (.int (nI (A.2.1 + B.2.1))), some (.int (nI n)), some (.int (nI m)), u7] [.int v, .int (nI m), .int (nI n), .ref a] (wd τ x) 0 0 := by
              intro v hv u7
              refine R_V3v hC hR dX7_becomeJoined_117 MV_X7_put ml_X7_48 hA.1 rfl (c_put hA ht hn hm _) (by first | decide | omega) ⟨by decide, by decide⟩ (Nat.le_of_ble_eq_true rfl) ?_
              refine R_iinc hC dX7_becomeJoined_120 rfl (inc1 _) (by decide) rfl (R_goto hC 55 dX7_becomeJoined_123 (by decide) ?_)
              exact ihm _ (e.a (m2 _ _)) ((ht.put (i := n) hm v).cg (fun p q hp hq => by
                show (if p < n ∨ (p = n ∧ q < m + 1) then _ else _) = if p = n ∧ q = m then v else if p < n ∨ (p = n ∧ q < m) then _ else _
                by_cases e2 : p = n ∧ q = m
                · rw [if_pos e2, if_pos (by omega), e2.1, e2.2, hv]
                · rw [if_neg e2]
                  by_cases e1 : p < n ∨ (p = n ∧ q < m)
                  · rw [if_pos e1, if_pos (by omega)]
                  · rw [if_neg e1, if_neg (by omega)])) _
            have gb := g1 τ e
            have gc := g2 τ e
            by_cases ha : n < A.1
            · refine R_iload hC dX7_becomeJoined_55 rfl (R_iload hC dX7_becomeJoined_57 rfl ?_)
              refine R_icmp_ge hC 126 dX7_becomeJoined_59 (by decide) (fun h => absurd h (nI_ge hm (by omega))) (fun _ => ?_)
              refine R_iload hC dX7_becomeJoined_62 rfl (R_aload_n (i := 1) hC dX7_becomeJoined_64 rfl rfl (R_gI hC dX7_becomeJoined_65 fl_X7_15 hB.1 rfl ?_))
              refine R_top (y := nI A.1) (gb.1) ?_
              refine R_icmp_ge hC 75 dX7_becomeJoined_68 (by decide) (fun h => absurd h (nI_ge ha (by omega))) (fun _ => ?_)
              refine R_iconst (v := 1) hC dX7_becomeJoined_71 (by decide) (R_goto hC 76 dX7_becomeJoined_72 (by decide) (R_istore hC dX7_becomeJoined_76 (by decide) rfl (R_aload_n (i := 0) hC dX7_becomeJoined_78 rfl rfl (R_iload hC dX7_becomeJoined_79 rfl (R_iload hC dX7_becomeJoined_81 rfl (R_iload hC dX7_becomeJoined_83 rfl ?_))))))
              refine R_if_eq hC 99 dX7_becomeJoined_85 (by decide) (fun h => absurd h (by decide)) (fun _ => ?_)
              refine R_aload_n (i := 1) hC dX7_becomeJoined_88 rfl rfl (R_iload hC dX7_becomeJoined_89 rfl (R_iload hC dX7_becomeJoined_91 rfl ?_))
              refine R_V2i hC hR dX7_becomeJoined_93 MV_X7_at ml_X7_28 hB.1 rfl (c_at hB gb _ _) (by first | decide | omega) ⟨by decide, by decide⟩ (Nat.le_of_ble_eq_true rfl) ?_
              refine R_goto hC 117 dX7_becomeJoined_96 (by decide) ?_
              exact nx _ (by
                unfold jnF; rw [if_pos ha, Nat.sub_zero]
                by_cases hb : m < A.2.1
                · rw [if_pos hb, atZ_i a3 a4 ha hb]
                · rw [if_neg hb, if_neg (by decide), atZ_n]
                  rintro ⟨-, -, z⟩; rw [nI_toInt (by omega)] at z; omega) _
            · refine R_iload hC dX7_becomeJoined_55 rfl (R_iload hC dX7_becomeJoined_57 rfl ?_)
              refine R_icmp_ge hC 126 dX7_becomeJoined_59 (by decide) (fun h => absurd h (nI_ge hm (by omega))) (fun _ => ?_)
              refine R_iload hC dX7_becomeJoined_62 rfl (R_aload_n (i := 1) hC dX7_becomeJoined_64 rfl rfl (R_gI hC dX7_becomeJoined_65 fl_X7_15 hB.1 rfl ?_))
              refine R_top (y := nI A.1) (gb.1) ?_
              refine R_icmp_ge hC 75 dX7_becomeJoined_68 (by decide) (fun _ => ?_) (fun h => absurd (nI_le (by omega) (by omega)) h)
              refine R_iconst (v := 0) hC dX7_becomeJoined_75 (by decide) (R_istore hC dX7_becomeJoined_76 (by decide) rfl (R_aload_n (i := 0) hC dX7_becomeJoined_78 rfl rfl (R_iload hC dX7_becomeJoined_79 rfl (R_iload hC dX7_becomeJoined_81 rfl (R_iload hC dX7_becomeJoined_83 rfl ?_)))))
              refine R_if_eq hC 99 dX7_becomeJoined_85 (by decide) (fun _ => ?_) (fun h => absurd (by decide) h)
              refine R_aload_n (i := 2) hC dX7_becomeJoined_99 rfl rfl (R_iload hC dX7_becomeJoined_100 rfl (R_aload_n (i := 1) hC dX7_becomeJoined_102 rfl rfl (R_gI hC dX7_becomeJoined_103 fl_X7_15 hB.1 rfl ?_)))
              refine R_top (y := nI A.1) (gb.1) ?_
              refine R_isub hC dX7_becomeJoined_106 ?_
              refine R_top (y := nI (n - A.1)) (nI_sub (by omega)) ?_
              refine R_iload hC dX7_becomeJoined_107 rfl (R_aload_n (i := 1) hC dX7_becomeJoined_109 rfl rfl (R_gI hC dX7_becomeJoined_110 fl_X7_19 hB.1 rfl ?_))
              refine R_top (y := nI A.2.1) (gb.2.1) ?_
              refine R_isub hC dX7_becomeJoined_113 ?_
              refine R_V2i hC hR dX7_becomeJoined_114 MV_X7_at ml_X7_28 hD.1 rfl (c_at hD gc _ _) (by first | decide | omega) ⟨by decide, by decide⟩ (Nat.le_of_ble_eq_true rfl) ?_
              exact nx _ (by
                unfold jnF; rw [if_neg ha, Nat.sub_zero, atZ_s b3 b4 (by omega) (by omega) (by omega) (by omega)]; rfl) _
        refine R_iload hC dX7_becomeJoined_46 rfl (R_iload_n (i := 3) hC dX7_becomeJoined_48 rfl rfl ?_)
        refine R_icmp_ge hC 132 dX7_becomeJoined_49 (by decide) (fun h => absurd h (nI_ge hn (by omega))) (fun _ => ?_)
        refine R_iconst (v := 0) hC dX7_becomeJoined_52 (by decide) (R_istore hC dX7_becomeJoined_53 (by decide) rfl ?_)
        exact inner 0 (Nat.zero_le _) τ e (ht.cg (fun p q hp hq => by
          show (if p < n ∨ (p = n ∧ q < 0) then _ else _) = if p < n then _ else _
          by_cases e1 : p < n
          · rw [if_pos e1, if_pos (Or.inl e1)]
          · rw [if_neg e1, if_neg (by omega)])) _
    refine R_aload_n (i := 1) hC dX7_becomeJoined_0 rfl rfl (R_gI hC dX7_becomeJoined_1 fl_X7_15 hB.1 rfl ?_)
    refine R_top (y := nI A.1) (a1) ?_
    refine R_aload_n (i := 2) hC dX7_becomeJoined_4 rfl rfl (R_gI hC dX7_becomeJoined_5 fl_X7_15 hD.1 rfl ?_)
    refine R_top (y := nI B.1) (b1) ?_
    refine R_iadd hC dX7_becomeJoined_8 ?_
    refine R_top (y := nI (A.1 + B.1)) (nI_add _ _) ?_
    refine R_istore_n (i := 3) hC dX7_becomeJoined_9 rfl (by decide) rfl (R_aload_n (i := 1) hC dX7_becomeJoined_10 rfl rfl (R_gI hC dX7_becomeJoined_11 fl_X7_19 hB.1 rfl ?_))
    refine R_top (y := nI A.2.1) (a2) ?_
    refine R_aload_n (i := 2) hC dX7_becomeJoined_14 rfl rfl (R_gI hC dX7_becomeJoined_15 fl_X7_19 hD.1 rfl ?_)
    refine R_top (y := nI B.2.1) (b2) ?_
    refine R_iadd hC dX7_becomeJoined_18 ?_
    refine R_top (y := nI (A.2.1 + B.2.1)) (nI_add _ _) ?_
    refine R_istore hC dX7_becomeJoined_19 (by decide) rfl (R_iload_n (i := 3) hC dX7_becomeJoined_21 rfl rfl (R_bipush (v := 6) hC dX7_becomeJoined_22 (by decide) ?_))
    refine R_icmp_gt hC 34 dX7_becomeJoined_24 (by decide) (fun h => absurd h (nI_nlt (a := 6) j1 (by decide))) (fun _ => ?_)
    refine R_iload hC dX7_becomeJoined_27 rfl (R_bipush (v := 6) hC dX7_becomeJoined_29 (by decide) ?_)
    refine R_icmp_le hC 36 dX7_becomeJoined_31 (by decide) (fun _ => ?_) (fun h => absurd (nI_le (b := 6) j2 (by decide)) h)
    refine R_aload_n (i := 0) hC dX7_becomeJoined_36 rfl rfl (R_iload_n (i := 3) hC dX7_becomeJoined_37 rfl rfl (R_iload hC dX7_becomeJoined_38 rfl ?_))
    refine R_V2g hC hR dX7_becomeJoined_40 MV_X7_clear ml_X7_32 hA.1 rfl (c_clear hA (A.1 + B.1) (A.2.1 + B.2.1) j1 j2) (by first | decide | omega) ⟨by decide, by decide⟩ (Nat.le_of_ble_eq_true rfl) (fun r w1 hq => ?_)
    obtain ⟨rfl, υ, rfl, c2, h3⟩ := hq
    refine R_iconst (v := 0) hC dX7_becomeJoined_43 (by decide) (R_istore hC dX7_becomeJoined_44 (by decide) rfl ?_)
    exact outer 0 (Nat.zero_le _) υ c2 (h3.cg (fun p q hp hq => if_neg (Nat.not_lt_zero _))) _ _
  · have hj2 : ¬ (A.1 + B.1 ≤ 6 ∧ A.2.1 + B.2.1 ≤ 6) := fun z => hj ⟨fun q => absurd q.1 (by decide), z.1, z.2⟩
    refine R_aload_n (i := 1) hC dX7_becomeJoined_0 rfl rfl (R_gI hC dX7_becomeJoined_1 fl_X7_15 hB.1 rfl ?_)
    refine R_top (y := nI A.1) (a1) ?_
    refine R_aload_n (i := 2) hC dX7_becomeJoined_4 rfl rfl (R_gI hC dX7_becomeJoined_5 fl_X7_15 hD.1 rfl ?_)
    refine R_top (y := nI B.1) (b1) ?_
    refine R_iadd hC dX7_becomeJoined_8 ?_
    refine R_top (y := nI (A.1 + B.1)) (nI_add _ _) ?_
    refine R_istore_n (i := 3) hC dX7_becomeJoined_9 rfl (by decide) rfl (R_aload_n (i := 1) hC dX7_becomeJoined_10 rfl rfl (R_gI hC dX7_becomeJoined_11 fl_X7_19 hB.1 rfl ?_))
    refine R_top (y := nI A.2.1) (a2) ?_
    refine R_aload_n (i := 2) hC dX7_becomeJoined_14 rfl rfl (R_gI hC dX7_becomeJoined_15 fl_X7_19 hD.1 rfl ?_)
    refine R_top (y := nI B.2.1) (b2) ?_
    refine R_iadd hC dX7_becomeJoined_18 ?_
    refine R_top (y := nI (A.2.1 + B.2.1)) (nI_add _ _) ?_
    refine R_istore hC dX7_becomeJoined_19 (by decide) rfl (R_iload_n (i := 3) hC dX7_becomeJoined_21 rfl rfl (R_bipush (v := 6) hC dX7_becomeJoined_22 (by decide) ?_))
    refine R_icmp_gt hC 34 dX7_becomeJoined_24 (by decide) (fun h24 => ?_) (fun h24 => ?_)
    · refine R_iconst (v := 3) hC dX7_becomeJoined_34 (by decide) ?_
      exact R_iret hC hT dX7_becomeJoined_35 rfl (Or.inr ⟨hj, rfl, rfl⟩)
    · refine R_iload hC dX7_becomeJoined_27 rfl (R_bipush (v := 6) hC dX7_becomeJoined_29 (by decide) ?_)
      refine R_icmp_le hC 36 dX7_becomeJoined_31 (by decide) (fun h31 => ?_) (fun h31 => ?_)
      · exact absurd ⟨(nI_leI (b := 6) (by omega) (by decide)).mp (by first | exact Int32.not_lt.mp h24 | exact Int32.le_of_not_lt h24), (nI_leI (b := 6) (by omega) (by decide)).mp h31⟩ hj2
      · refine R_iconst (v := 3) hC dX7_becomeJoined_34 (by decide) ?_
        exact R_iret hC hT dX7_becomeJoined_35 rfl (Or.inr ⟨hj, rfl, rfl⟩)
theorem c_linked {σ : sg} {x : aW} {b c : Nat} {A B : tb} (hB : TL b) (hD : TL c) (h1 : CT σ b A) (h2 : CT σ c B) (hc : ¬ (A.2.1 < 2 ∨ B.1 < 2)) {n m : Nat} (hn : n < A.1 + B.1 - 1) (hm : m < A.2.1 + B.2.1 - 1) (n7 : n < 7) (m7 : m < 7) : Mt mX7_linked 1 0 0 [.ref b, .ref c, .int (nI n), .int (nI m)] (wd σ x) (QI (jnF A B 1 n m) (wd σ x)) := by
  refine Mt.of MI_X7_linked (Nat.le_of_ble_eq_true rfl) (fun X hC hR hT => ?_)
  obtain ⟨a1, a2, a3, a4, a5⟩ := id h1
  obtain ⟨b1, b2, b3, b4, b5⟩ := id h2
  have p1 : nI A.2.1 - 1 = nI (A.2.1 - 1) := nI_sub (b := 1) (by omega)
  by_cases ha : n < A.1
  · by_cases hb : m < A.2.1 - 1
    · refine R_aload_n (i := 0) hC dX7_linked_0 rfl rfl (R_gI hC dX7_linked_1 fl_X7_19 hB.1 rfl ?_)
      refine R_top (y := nI A.2.1) (a2) ?_
      refine R_iconst (v := 1) hC dX7_linked_4 (by decide) (R_isub hC dX7_linked_5 ?_)
      refine R_top (y := nI (A.2.1 - 1)) (p1) ?_
      refine R_istore hC dX7_linked_6 (by decide) rfl (R_iload_n (i := 2) hC dX7_linked_8 rfl rfl (R_aload_n (i := 0) hC dX7_linked_9 rfl rfl (R_gI hC dX7_linked_10 fl_X7_15 hB.1 rfl ?_)))
      refine R_top (y := nI A.1) (a1) ?_
      refine R_icmp_lt hC 33 dX7_linked_13 (by decide) (fun _ => ?_) (fun h => absurd (nI_lt ha (by omega)) h)
      refine R_iload_n (i := 3) hC dX7_linked_33 rfl rfl (R_iload hC dX7_linked_34 rfl ?_)
      refine R_icmp_ge hC 48 dX7_linked_36 (by decide) (fun h => absurd h (nI_ge hb (by omega))) (fun _ => ?_)
      refine R_aload_n (i := 0) hC dX7_linked_39 rfl rfl (R_iload_n (i := 2) hC dX7_linked_40 rfl rfl (R_iload_n (i := 3) hC dX7_linked_41 rfl rfl ?_))
      refine R_V2i hC hR dX7_linked_42 MV_X7_at ml_X7_28 hB.1 rfl (c_atN hB h1 ha (by omega)) (by first | decide | omega) ⟨by decide, by decide⟩ (Nat.le_of_ble_eq_true rfl) ?_
      refine R_goto hC 65 dX7_linked_45 (by decide) ?_
      exact R_iret hC hT dX7_linked_65 rfl ⟨by unfold jnF; rw [if_pos ha, if_pos hb], rfl⟩
    · refine R_aload_n (i := 0) hC dX7_linked_0 rfl rfl (R_gI hC dX7_linked_1 fl_X7_19 hB.1 rfl ?_)
      refine R_top (y := nI A.2.1) (a2) ?_
      refine R_iconst (v := 1) hC dX7_linked_4 (by decide) (R_isub hC dX7_linked_5 ?_)
      refine R_top (y := nI (A.2.1 - 1)) (p1) ?_
      refine R_istore hC dX7_linked_6 (by decide) rfl (R_iload_n (i := 2) hC dX7_linked_8 rfl rfl (R_aload_n (i := 0) hC dX7_linked_9 rfl rfl (R_gI hC dX7_linked_10 fl_X7_15 hB.1 rfl ?_)))
      refine R_top (y := nI A.1) (a1) ?_
      refine R_icmp_lt hC 33 dX7_linked_13 (by decide) (fun _ => ?_) (fun h => absurd (nI_lt ha (by omega)) h)
      refine R_iload_n (i := 3) hC dX7_linked_33 rfl rfl (R_iload hC dX7_linked_34 rfl ?_)
      refine R_icmp_ge hC 48 dX7_linked_36 (by decide) (fun _ => ?_) (fun h => absurd (nI_le (by omega) (by omega)) h)
      refine R_aload_n (i := 0) hC dX7_linked_48 rfl rfl (R_iload_n (i := 2) hC dX7_linked_49 rfl rfl (R_iload hC dX7_linked_50 rfl ?_))
      refine R_V2i hC hR dX7_linked_52 MV_X7_at ml_X7_28 hB.1 rfl (c_atN hB h1 ha (by omega)) (by first | decide | omega) ⟨by decide, by decide⟩ (Nat.le_of_ble_eq_true rfl) ?_
      refine R_aload_n (i := 1) hC dX7_linked_55 rfl rfl (R_iconst (v := 0) hC dX7_linked_56 (by decide) (R_iload_n (i := 3) hC dX7_linked_57 rfl rfl (R_iload hC dX7_linked_58 rfl (R_isub hC dX7_linked_60 ?_))))
      refine R_top (y := nI (m - (A.2.1 - 1))) (nI_sub (by omega)) ?_
      refine R_V2i hC hR dX7_linked_61 MV_X7_at ml_X7_28 hD.1 rfl (c_atN hD h2 (i := 0) (by omega) (by omega)) (by first | decide | omega) ⟨by decide, by decide⟩ (Nat.le_of_ble_eq_true rfl) ?_
      refine R_imul hC dX7_linked_64 ?_
      exact R_iret hC hT dX7_linked_65 rfl ⟨by unfold jnF; rw [if_pos ha, if_neg hb, if_pos rfl], rfl⟩
  · refine R_aload_n (i := 0) hC dX7_linked_0 rfl rfl (R_gI hC dX7_linked_1 fl_X7_19 hB.1 rfl ?_)
    refine R_top (y := nI A.2.1) (a2) ?_
    refine R_iconst (v := 1) hC dX7_linked_4 (by decide) (R_isub hC dX7_linked_5 ?_)
    refine R_top (y := nI (A.2.1 - 1)) (p1) ?_
    refine R_istore hC dX7_linked_6 (by decide) rfl (R_iload_n (i := 2) hC dX7_linked_8 rfl rfl (R_aload_n (i := 0) hC dX7_linked_9 rfl rfl (R_gI hC dX7_linked_10 fl_X7_15 hB.1 rfl ?_)))
    refine R_top (y := nI A.1) (a1) ?_
    refine R_icmp_lt hC 33 dX7_linked_13 (by decide) (fun h => absurd h (nI_nlt (by omega) (by omega))) (fun _ => ?_)
    refine R_aload_n (i := 1) hC dX7_linked_16 rfl rfl (R_iload_n (i := 2) hC dX7_linked_17 rfl rfl (R_aload_n (i := 0) hC dX7_linked_18 rfl rfl (R_gI hC dX7_linked_19 fl_X7_15 hB.1 rfl ?_)))
    refine R_top (y := nI A.1) (a1) ?_
    refine R_isub hC dX7_linked_22 ?_
    refine R_top (y := nI (n - A.1)) (nI_sub (by omega)) ?_
    refine R_iconst (v := 1) hC dX7_linked_23 (by decide) (R_iadd hC dX7_linked_24 ?_)
    refine R_top (y := nI (n - A.1 + 1)) (nI_1 _) ?_
    refine R_iload_n (i := 3) hC dX7_linked_25 rfl rfl (R_iload hC dX7_linked_26 rfl (R_isub hC dX7_linked_28 ?_))
    refine R_V2i hC hR dX7_linked_29 MV_X7_at ml_X7_28 hD.1 rfl (c_at hD h2 _ _) (by first | decide | omega) ⟨by decide, by decide⟩ (Nat.le_of_ble_eq_true rfl) ?_
    exact R_iret hC hT dX7_linked_32 rfl ⟨by unfold jnF; rw [if_neg ha, atZ_s b3 b4 (by omega) (by omega) (by omega) (by omega)], rfl⟩
theorem c_linkedT {σ : sg} {x : aW} {a b c : Nat} {A B : tb} (hA : TL a) (hB : TL b) (hD : TL c) (nb : a ≠ b) (nc : a ≠ c) (h1 : CT σ b A) (h2 : CT σ c B) (i1 : tbI A) (i2 : tbI B) : Mt mX7_becomeLinked 2 0 0 [.ref a, .ref b, .ref c] (wd σ x) (fun r w => (canJ A B 1 ∧ TQ σ x a (jnT A B 1) (some (.int (-1))) r w) ∨ (¬ canJ A B 1 ∧ r = some (.int 3) ∧ w = wd σ x)) := by
  refine Mt.of MI_X7_becomeLinked (Nat.le_of_ble_eq_true rfl) (fun X hC hR hT => ?_)
  obtain ⟨a1, a2, a3, a4, a5⟩ := id h1
  obtain ⟨b1, b2, b3, b4, b5⟩ := id h2
  obtain ⟨m1, m2'⟩ := i1
  obtain ⟨m3, m4⟩ := i2
  obtain ⟨-, n1, n2⟩ := hA.ne hB nb
  obtain ⟨-, n3, n4⟩ := hA.ne hD nc
  have g1 : ∀ τ, AE [a, a + 1] σ τ → CT τ b A := fun τ e => h1.ae e (by simp; omega) (by have := (hA.ne hB nb).1; simp; omega)
  have g2 : ∀ τ, AE [a, a + 1] σ τ → CT τ c B := fun τ e => h2.ae e (by simp; omega) (by have := (hA.ne hD nc).1; simp; omega)
  have p1 : nI A.2.1 - 1 = nI (A.2.1 - 1) := nI_sub (b := 1) (by omega)
  have p2 : nI A.1 + nI B.1 - 1 = nI (A.1 + B.1 - 1) := by rw [nI_add]; exact nI_sub (b := 1) (by omega)
  have p3 : nI (A.2.1 - 1) + nI B.2.1 = nI (A.2.1 + B.2.1 - 1) := by rw [nI_add]; congr 1; omega
  by_cases hj : canJ A B 1
  · obtain ⟨j0, j1, j2⟩ := id hj
    have hc : ¬ (A.2.1 < 2 ∨ B.1 < 2) := fun q => j0 ⟨rfl, q⟩
    have outer : ∀ n, n ≤ A.1 + B.1 - 1 → ∀ τ, AE [a, a + 1] σ τ → CT τ a (A.1 + B.1 - 1, A.2.1 + B.2.1 - 1, fun p q => if p < n then jnF A B 1 p q else 0) → ∀ u7, Rw mX7_becomeLinked X 68 [some (.ref a), some (.ref b), some (.ref c), some (.int (nI (A.2.1 - 1))), some (.int (nI (A.1 + B.1 - 1))), some (.int (nI (A.2.1 + B.2.1 - 1))), some (.int (nI n)), u7] [] (wd τ x) 0 0 := by
      refine up_loop (A.1 + B.1 - 1) ?_ ?_
      · intro τ e ht u7
        refine R_iload hC dX7_becomeLinked_68 rfl (R_iload hC dX7_becomeLinked_70 rfl ?_)
        refine R_icmp_ge hC 114 dX7_becomeLinked_72 (by decide) (fun _ => ?_) (fun h => absurd (Int32.le_refl _) h)
        refine R_iconst (v := (-1)) hC dX7_becomeLinked_114 (by decide) ?_
        exact R_iret hC hT dX7_becomeLinked_115 rfl (Or.inl ⟨hj, TQ.i e (ht.cg (f := jnF A B 1) (fun p q hp hq => (if_pos hp).symm))⟩)
      · intro n hn ih τ e ht u7
        have inner : ∀ m, m ≤ A.2.1 + B.2.1 - 1 → ∀ τ, AE [a, a + 1] σ τ → CT τ a (A.1 + B.1 - 1, A.2.1 + B.2.1 - 1, fun p q => if p < n ∨ (p = n ∧ q < m) then jnF A B 1 p q else 0) → Rw mX7_becomeLinked X 78 [some (.ref a), some (.ref b), some (.ref c), some (.int (nI (A.2.1 - 1))), some (.int (nI (A.1 + B.1 - 1))), some (.int (nI (A.2.1 + B.2.1 - 1))), some (.int (nI n)), some (.int (nI m))] [] (wd τ x) 0 0 := by
          refine up_loop (A.2.1 + B.2.1 - 1) ?_ ?_
          · intro τ e ht
            refine R_iload hC dX7_becomeLinked_78 rfl (R_iload hC dX7_becomeLinked_80 rfl ?_)
            refine R_icmp_ge hC 108 dX7_becomeLinked_82 (by decide) (fun _ => ?_) (fun h => absurd (Int32.le_refl _) h)
            refine R_iinc hC dX7_becomeLinked_108 rfl (inc1 _) (by decide) rfl (R_goto hC 68 dX7_becomeLinked_111 (by decide) ?_)
            exact ih τ e (ht.cg (fun p q hp hq => by
              have hq : q < A.2.1 + B.2.1 - 1 := hq
              show (if p < n + 1 then _ else _) = if p < n ∨ (p = n ∧ q < A.2.1 + B.2.1 - 1) then _ else _
              by_cases e1 : p < n + 1
              · rw [if_pos e1, if_pos (by omega)]
              · rw [if_neg e1, if_neg (by omega)])) _
          · intro m hm ihm τ e ht
            refine R_iload hC dX7_becomeLinked_78 rfl (R_iload hC dX7_becomeLinked_80 rfl ?_)
            refine R_icmp_ge hC 108 dX7_becomeLinked_82 (by decide) (fun h => absurd h (nI_ge hm (by omega))) (fun _ => ?_)
            refine R_aload_n (i := 0) hC dX7_becomeLinked_85 rfl rfl (R_iload hC dX7_becomeLinked_86 rfl (R_iload hC dX7_becomeLinked_88 rfl (R_aload_n (i := 1) hC dX7_becomeLinked_90 rfl rfl (R_aload_n (i := 2) hC dX7_becomeLinked_91 rfl rfl (R_iload hC dX7_becomeLinked_92 rfl (R_iload hC dX7_becomeLinked_94 rfl ?_))))))
            refine R_S4i hC hR dX7_becomeLinked_96 MS_X7_linked ml_X7_90 (c_linked hB hD (g1 τ e) (g2 τ e) hc hn hm (by omega) (by omega)) (by first | decide | omega) ⟨by decide, by decide⟩ (Nat.le_of_ble_eq_true rfl) ?_
            refine R_V3v hC hR dX7_becomeLinked_99 MV_X7_put ml_X7_48 hA.1 rfl (c_put hA ht hn hm _) (by first | decide | omega) ⟨by decide, by decide⟩ (Nat.le_of_ble_eq_true rfl) ?_
            refine R_iinc hC dX7_becomeLinked_102 rfl (inc1 _) (by decide) rfl (R_goto hC 78 dX7_becomeLinked_105 (by decide) ?_)
            exact ihm _ (e.a (m2 _ _)) ((ht.put (i := n) hm _).cg (fun p q hp hq => by
              show (if p < n ∨ (p = n ∧ q < m + 1) then _ else _) = if p = n ∧ q = m then jnF A B 1 n m else if p < n ∨ (p = n ∧ q < m) then _ else _
              by_cases e2 : p = n ∧ q = m
              · rw [if_pos e2, if_pos (by omega), e2.1, e2.2]
              · rw [if_neg e2]
                by_cases e1 : p < n ∨ (p = n ∧ q < m)
                · rw [if_pos e1, if_pos (by omega)]
                · rw [if_neg e1, if_neg (by omega)]))
        refine R_iload hC dX7_becomeLinked_68 rfl (R_iload hC dX7_becomeLinked_70 rfl ?_)
        refine R_icmp_ge hC 114 dX7_becomeLinked_72 (by decide) (fun h => absurd h (nI_ge hn (by omega))) (fun _ => ?_)
        refine R_iconst (v := 0) hC dX7_becomeLinked_75 (by decide) (R_istore hC dX7_becomeLinked_76 (by decide) rfl ?_)
        exact inner 0 (Nat.zero_le _) τ e (ht.cg (fun p q hp hq => by
          show (if p < n ∨ (p = n ∧ q < 0) then _ else _) = if p < n then _ else _
          by_cases e1 : p < n
          · rw [if_pos e1, if_pos (Or.inl e1)]
          · rw [if_neg e1, if_neg (by omega)]))
    refine R_aload_n (i := 1) hC dX7_becomeLinked_0 rfl rfl (R_gI hC dX7_becomeLinked_1 fl_X7_19 hB.1 rfl ?_)
    refine R_top (y := nI A.2.1) (a2) ?_
    refine R_iconst (v := 1) hC dX7_becomeLinked_4 (by decide) (R_isub hC dX7_becomeLinked_5 ?_)
    refine R_top (y := nI (A.2.1 - 1)) (p1) ?_
    refine R_istore_n (i := 3) hC dX7_becomeLinked_6 rfl (by decide) rfl (R_aload_n (i := 1) hC dX7_becomeLinked_7 rfl rfl (R_gI hC dX7_becomeLinked_8 fl_X7_15 hB.1 rfl ?_))
    refine R_top (y := nI A.1) (a1) ?_
    refine R_aload_n (i := 2) hC dX7_becomeLinked_11 rfl rfl (R_gI hC dX7_becomeLinked_12 fl_X7_15 hD.1 rfl ?_)
    refine R_top (y := nI B.1) (b1) ?_
    refine R_iadd hC dX7_becomeLinked_15 (R_iconst (v := 1) hC dX7_becomeLinked_16 (by decide) (R_isub hC dX7_becomeLinked_17 ?_))
    refine R_top (y := nI (A.1 + B.1 - 1)) (p2) ?_
    refine R_istore hC dX7_becomeLinked_18 (by decide) rfl (R_iload_n (i := 3) hC dX7_becomeLinked_20 rfl rfl (R_aload_n (i := 2) hC dX7_becomeLinked_21 rfl rfl (R_gI hC dX7_becomeLinked_22 fl_X7_19 hD.1 rfl ?_)))
    refine R_top (y := nI B.2.1) (b2) ?_
    refine R_iadd hC dX7_becomeLinked_25 ?_
    refine R_top (y := nI (A.2.1 + B.2.1 - 1)) (p3) ?_
    refine R_istore hC dX7_becomeLinked_26 (by decide) rfl (R_iload_n (i := 3) hC dX7_becomeLinked_28 rfl rfl (R_iconst (v := 1) hC dX7_becomeLinked_29 (by decide) ?_))
    refine R_icmp_lt hC 55 dX7_becomeLinked_30 (by decide) (fun h => absurd h (nI_nlt (b := 1) (by omega) (by omega))) (fun _ => ?_)
    refine R_aload_n (i := 2) hC dX7_becomeLinked_33 rfl rfl (R_gI hC dX7_becomeLinked_34 fl_X7_15 hD.1 rfl ?_)
    refine R_top (y := nI B.1) (b1) ?_
    refine R_iconst (v := 2) hC dX7_becomeLinked_37 (by decide) ?_
    refine R_icmp_lt hC 55 dX7_becomeLinked_38 (by decide) (fun h => absurd h (nI_nlt (b := 2) (by omega) (by omega))) (fun _ => ?_)
    refine R_iload hC dX7_becomeLinked_41 rfl (R_bipush (v := 6) hC dX7_becomeLinked_43 (by decide) ?_)
    refine R_icmp_gt hC 55 dX7_becomeLinked_45 (by decide) (fun h => absurd h (nI_nlt (a := 6) j1 (by decide))) (fun _ => ?_)
    refine R_iload hC dX7_becomeLinked_48 rfl (R_bipush (v := 6) hC dX7_becomeLinked_50 (by decide) ?_)
    refine R_icmp_le hC 57 dX7_becomeLinked_52 (by decide) (fun _ => ?_) (fun h => absurd (nI_le (b := 6) j2 (by decide)) h)
    refine R_aload_n (i := 0) hC dX7_becomeLinked_57 rfl rfl (R_iload hC dX7_becomeLinked_58 rfl (R_iload hC dX7_becomeLinked_60 rfl ?_))
    refine R_V2g hC hR dX7_becomeLinked_62 MV_X7_clear ml_X7_32 hA.1 rfl (c_clear hA (A.1 + B.1 - 1) (A.2.1 + B.2.1 - 1) j1 j2) (by first | decide | omega) ⟨by decide, by decide⟩ (Nat.le_of_ble_eq_true rfl) (fun r w1 hq => ?_)
    obtain ⟨rfl, υ, rfl, c2, h3⟩ := hq
    refine R_iconst (v := 0) hC dX7_becomeLinked_65 (by decide) (R_istore hC dX7_becomeLinked_66 (by decide) rfl ?_)
    exact outer 0 (Nat.zero_le _) υ c2 (h3.cg (fun p q hp hq => if_neg (Nat.not_lt_zero _))) _
  · refine R_aload_n (i := 1) hC dX7_becomeLinked_0 rfl rfl (R_gI hC dX7_becomeLinked_1 fl_X7_19 hB.1 rfl ?_)
    refine R_top (y := nI A.2.1) (a2) ?_
    refine R_iconst (v := 1) hC dX7_becomeLinked_4 (by decide) (R_isub hC dX7_becomeLinked_5 ?_)
    refine R_top (y := nI (A.2.1 - 1)) (p1) ?_
    refine R_istore_n (i := 3) hC dX7_becomeLinked_6 rfl (by decide) rfl (R_aload_n (i := 1) hC dX7_becomeLinked_7 rfl rfl (R_gI hC dX7_becomeLinked_8 fl_X7_15 hB.1 rfl ?_))
    refine R_top (y := nI A.1) (a1) ?_
    refine R_aload_n (i := 2) hC dX7_becomeLinked_11 rfl rfl (R_gI hC dX7_becomeLinked_12 fl_X7_15 hD.1 rfl ?_)
    refine R_top (y := nI B.1) (b1) ?_
    refine R_iadd hC dX7_becomeLinked_15 (R_iconst (v := 1) hC dX7_becomeLinked_16 (by decide) (R_isub hC dX7_becomeLinked_17 ?_))
    refine R_top (y := nI (A.1 + B.1 - 1)) (p2) ?_
    refine R_istore hC dX7_becomeLinked_18 (by decide) rfl (R_iload_n (i := 3) hC dX7_becomeLinked_20 rfl rfl (R_aload_n (i := 2) hC dX7_becomeLinked_21 rfl rfl (R_gI hC dX7_becomeLinked_22 fl_X7_19 hD.1 rfl ?_)))
    refine R_top (y := nI B.2.1) (b2) ?_
    refine R_iadd hC dX7_becomeLinked_25 ?_
    refine R_top (y := nI (A.2.1 + B.2.1 - 1)) (p3) ?_
    refine R_istore hC dX7_becomeLinked_26 (by decide) rfl (R_iload_n (i := 3) hC dX7_becomeLinked_28 rfl rfl (R_iconst (v := 1) hC dX7_becomeLinked_29 (by decide) ?_))
    refine R_icmp_lt hC 55 dX7_becomeLinked_30 (by decide) (fun h30 => ?_) (fun h30 => ?_)
    · refine R_iconst (v := 3) hC dX7_becomeLinked_55 (by decide) ?_
      exact R_iret hC hT dX7_becomeLinked_56 rfl (Or.inr ⟨hj, rfl, rfl⟩)
    · refine R_aload_n (i := 2) hC dX7_becomeLinked_33 rfl rfl (R_gI hC dX7_becomeLinked_34 fl_X7_15 hD.1 rfl ?_)
      refine R_top (y := nI B.1) (b1) ?_
      refine R_iconst (v := 2) hC dX7_becomeLinked_37 (by decide) ?_
      refine R_icmp_lt hC 55 dX7_becomeLinked_38 (by decide) (fun h38 => ?_) (fun h38 => ?_)
      · refine R_iconst (v := 3) hC dX7_becomeLinked_55 (by decide) ?_
        exact R_iret hC hT dX7_becomeLinked_56 rfl (Or.inr ⟨hj, rfl, rfl⟩)
      · refine R_iload hC dX7_becomeLinked_41 rfl (R_bipush (v := 6) hC dX7_becomeLinked_43 (by decide) ?_)
        refine R_icmp_gt hC 55 dX7_becomeLinked_45 (by decide) (fun h45 => ?_) (fun h45 => ?_)
        · refine R_iconst (v := 3) hC dX7_becomeLinked_55 (by decide) ?_
          exact R_iret hC hT dX7_becomeLinked_56 rfl (Or.inr ⟨hj, rfl, rfl⟩)
        · refine R_iload hC dX7_becomeLinked_48 rfl (R_bipush (v := 6) hC dX7_becomeLinked_50 (by decide) ?_)
          refine R_icmp_le hC 57 dX7_becomeLinked_52 (by decide) (fun h52 => ?_) (fun h52 => ?_)
          · exact absurd (show canJ A B 1 from by
              have q1 := mt (nI_ltI (b := 1) (by omega) (by decide)).mpr h30
              have q2 := mt (nI_ltI (b := 2) (by omega) (by decide)).mpr h38
              have q3 := mt (nI_ltI (a := 6) (by decide) (by omega)).mpr h45
              have q4 := (nI_leI (b := 6) (by omega) (by decide)).mp h52
              exact ⟨by omega, by omega, by omega⟩) hj
          · refine R_iconst (v := 3) hC dX7_becomeLinked_55 (by decide) ?_
            exact R_iret hC hT dX7_becomeLinked_56 rfl (Or.inr ⟨hj, rfl, rfl⟩)
