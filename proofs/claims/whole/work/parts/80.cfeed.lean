/-! ===== the class's tape ===== -/
theorem us_bI (v : Int32) : ∀ k, k < 4 → us v (nI (8 * k)) &&& 255 = bI v k := by
  intro k hk
  have key : ∀ s : Nat, s ≤ 24 → (BitVec.ushiftRight v.toBitVec s) &&& 255#32 = (BitVec.sshiftRight v.toBitVec s) &&& 255#32 := fun s hs => by
    apply BitVec.eq_of_getLsbD_eq
    intro i hi
    rw [BitVec.getLsbD_and, BitVec.getLsbD_and]
    by_cases z : i < 8
    · have e1 : (BitVec.ushiftRight v.toBitVec s).getLsbD i = v.toBitVec.getLsbD (s + i) := BitVec.getLsbD_ushiftRight _ _ _
      have e2 : (BitVec.sshiftRight v.toBitVec s).getLsbD i = v.toBitVec.getLsbD (s + i) := by
        rw [BitVec.getLsbD_sshiftRight]
        simp [show s + i < 32 by omega, show ¬ 32 ≤ i by omega]
      rw [e1, e2]
    · have e3 : (255#32).getLsbD i = false := by
        have : ∀ i, i < 32 → ¬ i < 8 → (255#32).getLsbD i = false := by decide
        exact this i hi z
      rw [e3, Bool.and_false, Bool.and_false]
  rcases (by omega : k = 0 ∨ k = 1 ∨ k = 2 ∨ k = 3) with rfl | rfl | rfl | rfl
  · exact Int32.toBitVec_inj.mp (key 0 (by decide))
  · exact Int32.toBitVec_inj.mp (key 8 (by decide))
  · exact Int32.toBitVec_inj.mp (key 16 (by decide))
  · exact Int32.toBitVec_inj.mp (key 24 (by decide))
theorem dX8_bytesIn_0 : decode cX8_bytesIn 0 = .ok (.iconst 0, 1) := by decide +kernel
theorem dX8_bytesIn_1 : decode cX8_bytesIn 1 = .ok (.istore_n 1, 1) := by decide +kernel
theorem dX8_bytesIn_2 : decode cX8_bytesIn 2 = .ok (.bipush 24, 2) := by decide +kernel
theorem dX8_bytesIn_4 : decode cX8_bytesIn 4 = .ok (.istore_n 2, 1) := by decide +kernel
theorem dX8_bytesIn_5 : decode cX8_bytesIn 5 = .ok (.iload_n 2, 1) := by decide +kernel
theorem dX8_bytesIn_6 : decode cX8_bytesIn 6 = .ok (.ifCond .lt 22, 3) := by decide +kernel
theorem dX8_bytesIn_9 : decode cX8_bytesIn 9 = .ok (.iload_n 0, 1) := by decide +kernel
theorem dX8_bytesIn_10 : decode cX8_bytesIn 10 = .ok (.iload_n 2, 1) := by decide +kernel
theorem dX8_bytesIn_11 : decode cX8_bytesIn 11 = .ok (.iushr, 1) := by decide +kernel
theorem dX8_bytesIn_12 : decode cX8_bytesIn 12 = .ok (.sipush 255, 3) := by decide +kernel
theorem dX8_bytesIn_15 : decode cX8_bytesIn 15 = .ok (.iand, 1) := by decide +kernel
theorem dX8_bytesIn_16 : decode cX8_bytesIn 16 = .ok (.ifCond .eq 6, 3) := by decide +kernel
theorem dX8_bytesIn_19 : decode cX8_bytesIn 19 = .ok (.iinc 1 1, 3) := by decide +kernel
theorem dX8_bytesIn_22 : decode cX8_bytesIn 22 = .ok (.iinc 2 (-8), 3) := by decide +kernel
theorem dX8_bytesIn_25 : decode cX8_bytesIn 25 = .ok (.goto (-20), 3) := by decide +kernel
theorem dX8_bytesIn_28 : decode cX8_bytesIn 28 = .ok (.iload_n 1, 1) := by decide +kernel
theorem dX8_bytesIn_29 : decode cX8_bytesIn 29 = .ok (.ireturn, 1) := by decide +kernel
theorem dX8_append_0 : decode cX8_append 0 = .ok (.bipush 24, 2) := by decide +kernel
theorem dX8_append_2 : decode cX8_append 2 = .ok (.istore_n 2, 1) := by decide +kernel
theorem dX8_append_3 : decode cX8_append 3 = .ok (.iload_n 2, 1) := by decide +kernel
theorem dX8_append_4 : decode cX8_append 4 = .ok (.ifCond .lt 51, 3) := by decide +kernel
theorem dX8_append_7 : decode cX8_append 7 = .ok (.iload_n 1, 1) := by decide +kernel
theorem dX8_append_8 : decode cX8_append 8 = .ok (.iload_n 2, 1) := by decide +kernel
theorem dX8_append_9 : decode cX8_append 9 = .ok (.iushr, 1) := by decide +kernel
theorem dX8_append_10 : decode cX8_append 10 = .ok (.sipush 255, 3) := by decide +kernel
theorem dX8_append_13 : decode cX8_append 13 = .ok (.iand, 1) := by decide +kernel
theorem dX8_append_14 : decode cX8_append 14 = .ok (.istore_n 3, 1) := by decide +kernel
theorem dX8_append_15 : decode cX8_append 15 = .ok (.iload_n 3, 1) := by decide +kernel
theorem dX8_append_16 : decode cX8_append 16 = .ok (.ifCond .eq 33, 3) := by decide +kernel
theorem dX8_append_19 : decode cX8_append 19 = .ok (.aload_n 0, 1) := by decide +kernel
theorem dX8_append_20 : decode cX8_append 20 = .ok (.getfield 15, 3) := by decide +kernel
theorem dX8_append_23 : decode cX8_append 23 = .ok (.sipush 240, 3) := by decide +kernel
theorem dX8_append_26 : decode cX8_append 26 = .ok (.if_icmp .ge 23, 3) := by decide +kernel
theorem dX8_append_29 : decode cX8_append 29 = .ok (.aload_n 0, 1) := by decide +kernel
theorem dX8_append_30 : decode cX8_append 30 = .ok (.getfield 9, 3) := by decide +kernel
theorem dX8_append_33 : decode cX8_append 33 = .ok (.aload_n 0, 1) := by decide +kernel
theorem dX8_append_34 : decode cX8_append 34 = .ok (.getfield 15, 3) := by decide +kernel
theorem dX8_append_37 : decode cX8_append 37 = .ok (.iload_n 3, 1) := by decide +kernel
theorem dX8_append_38 : decode cX8_append 38 = .ok (.iastore, 1) := by decide +kernel
theorem dX8_append_39 : decode cX8_append 39 = .ok (.aload_n 0, 1) := by decide +kernel
theorem dX8_append_40 : decode cX8_append 40 = .ok (.dup, 1) := by decide +kernel
theorem dX8_append_41 : decode cX8_append 41 = .ok (.getfield 15, 3) := by decide +kernel
theorem dX8_append_44 : decode cX8_append 44 = .ok (.iconst 1, 1) := by decide +kernel
theorem dX8_append_45 : decode cX8_append 45 = .ok (.iadd, 1) := by decide +kernel
theorem dX8_append_46 : decode cX8_append 46 = .ok (.putfield 15, 3) := by decide +kernel
theorem dX8_append_49 : decode cX8_append 49 = .ok (.iinc 2 (-8), 3) := by decide +kernel
theorem dX8_append_52 : decode cX8_append 52 = .ok (.goto (-49), 3) := by decide +kernel
theorem dX8_append_55 : decode cX8_append 55 = .ok (.return_, 1) := by decide +kernel
theorem dX8_at_0 : decode cX8_at 0 = .ok (.iload_n 1, 1) := by decide +kernel
theorem dX8_at_1 : decode cX8_at 1 = .ok (.ifCond .lt 27, 3) := by decide +kernel
theorem dX8_at_4 : decode cX8_at 4 = .ok (.iload_n 1, 1) := by decide +kernel
theorem dX8_at_5 : decode cX8_at 5 = .ok (.aload_n 0, 1) := by decide +kernel
theorem dX8_at_6 : decode cX8_at 6 = .ok (.getfield 15, 3) := by decide +kernel
theorem dX8_at_9 : decode cX8_at 9 = .ok (.if_icmp .ge 19, 3) := by decide +kernel
theorem dX8_at_12 : decode cX8_at 12 = .ok (.iload_n 1, 1) := by decide +kernel
theorem dX8_at_13 : decode cX8_at 13 = .ok (.sipush 240, 3) := by decide +kernel
theorem dX8_at_16 : decode cX8_at 16 = .ok (.if_icmp .ge 12, 3) := by decide +kernel
theorem dX8_at_19 : decode cX8_at 19 = .ok (.aload_n 0, 1) := by decide +kernel
theorem dX8_at_20 : decode cX8_at 20 = .ok (.getfield 9, 3) := by decide +kernel
theorem dX8_at_23 : decode cX8_at 23 = .ok (.iload_n 1, 1) := by decide +kernel
theorem dX8_at_24 : decode cX8_at 24 = .ok (.iaload, 1) := by decide +kernel
theorem dX8_at_25 : decode cX8_at 25 = .ok (.goto 4, 3) := by decide +kernel
theorem dX8_at_28 : decode cX8_at 28 = .ok (.iconst 0, 1) := by decide +kernel
theorem dX8_at_29 : decode cX8_at 29 = .ok (.ireturn, 1) := by decide +kernel
theorem dX7_read_0 : decode cX7_read 0 = .ok (.aload_n 0, 1) := by decide +kernel
theorem dX7_read_1 : decode cX7_read 1 = .ok (.bipush 6, 2) := by decide +kernel
theorem dX7_read_3 : decode cX7_read 3 = .ok (.bipush 6, 2) := by decide +kernel
theorem dX7_read_5 : decode cX7_read 5 = .ok (.invokevirtual 32, 3) := by decide +kernel
theorem dX7_read_8 : decode cX7_read 8 = .ok (.iconst 0, 1) := by decide +kernel
theorem dX7_read_9 : decode cX7_read 9 = .ok (.istore_n 2, 1) := by decide +kernel
theorem dX7_read_10 : decode cX7_read 10 = .ok (.iconst 0, 1) := by decide +kernel
theorem dX7_read_11 : decode cX7_read 11 = .ok (.istore_n 3, 1) := by decide +kernel
theorem dX7_read_12 : decode cX7_read 12 = .ok (.bipush 6, 2) := by decide +kernel
theorem dX7_read_14 : decode cX7_read 14 = .ok (.istore 4, 2) := by decide +kernel
theorem dX7_read_16 : decode cX7_read 16 = .ok (.iconst 0, 1) := by decide +kernel
theorem dX7_read_17 : decode cX7_read 17 = .ok (.istore 5, 2) := by decide +kernel
theorem dX7_read_19 : decode cX7_read 19 = .ok (.iload 5, 2) := by decide +kernel
theorem dX7_read_21 : decode cX7_read 21 = .ok (.aload_n 1, 1) := by decide +kernel
theorem dX7_read_22 : decode cX7_read 22 = .ok (.getfield 36, 3) := by decide +kernel
theorem dX7_read_25 : decode cX7_read 25 = .ok (.if_icmp .ge 100, 3) := by decide +kernel
theorem dX7_read_28 : decode cX7_read 28 = .ok (.aload_n 1, 1) := by decide +kernel
theorem dX7_read_29 : decode cX7_read 29 = .ok (.iload 5, 2) := by decide +kernel
theorem dX7_read_31 : decode cX7_read 31 = .ok (.invokevirtual 41, 3) := by decide +kernel
theorem dX7_read_34 : decode cX7_read 34 = .ok (.istore 6, 2) := by decide +kernel
theorem dX7_read_36 : decode cX7_read 36 = .ok (.iload 6, 2) := by decide +kernel
theorem dX7_read_38 : decode cX7_read 38 = .ok (.invokestatic 44, 3) := by decide +kernel
theorem dX7_read_41 : decode cX7_read 41 = .ok (.istore 7, 2) := by decide +kernel
theorem dX7_read_43 : decode cX7_read 43 = .ok (.iload 7, 2) := by decide +kernel
theorem dX7_read_45 : decode cX7_read 45 = .ok (.ldc 47, 2) := by decide +kernel
theorem dX7_read_47 : decode cX7_read 47 = .ok (.if_icmp .eq 26, 3) := by decide +kernel
theorem dX7_read_50 : decode cX7_read 50 = .ok (.iload_n 3, 1) := by decide +kernel
theorem dX7_read_51 : decode cX7_read 51 = .ok (.iload 4, 2) := by decide +kernel
theorem dX7_read_53 : decode cX7_read 53 = .ok (.if_icmp .ne 6, 3) := by decide +kernel
theorem dX7_read_56 : decode cX7_read 56 = .ok (.iload 5, 2) := by decide +kernel
theorem dX7_read_58 : decode cX7_read 58 = .ok (.ireturn, 1) := by decide +kernel
theorem dX7_read_59 : decode cX7_read 59 = .ok (.aload_n 0, 1) := by decide +kernel
theorem dX7_read_60 : decode cX7_read 60 = .ok (.iload_n 2, 1) := by decide +kernel
theorem dX7_read_61 : decode cX7_read 61 = .ok (.iload_n 3, 1) := by decide +kernel
theorem dX7_read_62 : decode cX7_read 62 = .ok (.iload 7, 2) := by decide +kernel
theorem dX7_read_64 : decode cX7_read 64 = .ok (.invokevirtual 48, 3) := by decide +kernel
theorem dX7_read_67 : decode cX7_read 67 = .ok (.iinc 3 1, 3) := by decide +kernel
theorem dX7_read_70 : decode cX7_read 70 = .ok (.goto 49, 3) := by decide +kernel
theorem dX7_read_73 : decode cX7_read 73 = .ok (.iload 6, 2) := by decide +kernel
theorem dX7_read_75 : decode cX7_read 75 = .ok (.bipush 47, 2) := by decide +kernel
theorem dX7_read_77 : decode cX7_read 77 = .ok (.if_icmp .ne 32, 3) := by decide +kernel
theorem dX7_read_80 : decode cX7_read 80 = .ok (.iload_n 2, 1) := by decide +kernel
theorem dX7_read_81 : decode cX7_read 81 = .ok (.iload_n 3, 1) := by decide +kernel
theorem dX7_read_82 : decode cX7_read 82 = .ok (.iload 4, 2) := by decide +kernel
theorem dX7_read_84 : decode cX7_read 84 = .ok (.invokestatic 52, 3) := by decide +kernel
theorem dX7_read_87 : decode cX7_read 87 = .ok (.ifCond .eq 8, 3) := by decide +kernel
theorem dX7_read_90 : decode cX7_read 90 = .ok (.iload_n 2, 1) := by decide +kernel
theorem dX7_read_91 : decode cX7_read 91 = .ok (.iconst 5, 1) := by decide +kernel
theorem dX7_read_92 : decode cX7_read 92 = .ok (.if_icmp .ne 6, 3) := by decide +kernel
theorem dX7_read_95 : decode cX7_read 95 = .ok (.iload 5, 2) := by decide +kernel
theorem dX7_read_97 : decode cX7_read 97 = .ok (.ireturn, 1) := by decide +kernel
theorem dX7_read_98 : decode cX7_read 98 = .ok (.iload_n 3, 1) := by decide +kernel
theorem dX7_read_99 : decode cX7_read 99 = .ok (.istore 4, 2) := by decide +kernel
theorem dX7_read_101 : decode cX7_read 101 = .ok (.iinc 2 1, 3) := by decide +kernel
theorem dX7_read_104 : decode cX7_read 104 = .ok (.iconst 0, 1) := by decide +kernel
theorem dX7_read_105 : decode cX7_read 105 = .ok (.istore_n 3, 1) := by decide +kernel
theorem dX7_read_106 : decode cX7_read 106 = .ok (.goto 13, 3) := by decide +kernel
theorem dX7_read_109 : decode cX7_read 109 = .ok (.iload 6, 2) := by decide +kernel
theorem dX7_read_111 : decode cX7_read 111 = .ok (.bipush 32, 2) := by decide +kernel
theorem dX7_read_113 : decode cX7_read 113 = .ok (.if_icmp .eq 6, 3) := by decide +kernel
theorem dX7_read_116 : decode cX7_read 116 = .ok (.iload 5, 2) := by decide +kernel
theorem dX7_read_118 : decode cX7_read 118 = .ok (.ireturn, 1) := by decide +kernel
theorem dX7_read_119 : decode cX7_read 119 = .ok (.iinc 5 1, 3) := by decide +kernel
theorem dX7_read_122 : decode cX7_read 122 = .ok (.goto (-103), 3) := by decide +kernel
theorem dX7_read_125 : decode cX7_read 125 = .ok (.iload_n 2, 1) := by decide +kernel
theorem dX7_read_126 : decode cX7_read 126 = .ok (.iload_n 3, 1) := by decide +kernel
theorem dX7_read_127 : decode cX7_read 127 = .ok (.iload 4, 2) := by decide +kernel
theorem dX7_read_129 : decode cX7_read 129 = .ok (.invokestatic 52, 3) := by decide +kernel
theorem dX7_read_132 : decode cX7_read 132 = .ok (.ifCond .ne 8, 3) := by decide +kernel
theorem dX7_read_135 : decode cX7_read 135 = .ok (.aload_n 1, 1) := by decide +kernel
theorem dX7_read_136 : decode cX7_read 136 = .ok (.getfield 36, 3) := by decide +kernel
theorem dX7_read_139 : decode cX7_read 139 = .ok (.ireturn, 1) := by decide +kernel
theorem dX7_read_140 : decode cX7_read 140 = .ok (.aload_n 0, 1) := by decide +kernel
theorem dX7_read_141 : decode cX7_read 141 = .ok (.iload_n 2, 1) := by decide +kernel
theorem dX7_read_142 : decode cX7_read 142 = .ok (.iconst 1, 1) := by decide +kernel
theorem dX7_read_143 : decode cX7_read 143 = .ok (.iadd, 1) := by decide +kernel
theorem dX7_read_144 : decode cX7_read 144 = .ok (.putfield 15, 3) := by decide +kernel
theorem dX7_read_147 : decode cX7_read 147 = .ok (.aload_n 0, 1) := by decide +kernel
theorem dX7_read_148 : decode cX7_read 148 = .ok (.iload_n 3, 1) := by decide +kernel
theorem dX7_read_149 : decode cX7_read 149 = .ok (.putfield 19, 3) := by decide +kernel
theorem dX7_read_152 : decode cX7_read 152 = .ok (.iconst (-1), 1) := by decide +kernel
theorem dX7_read_153 : decode cX7_read 153 = .ok (.ireturn, 1) := by decide +kernel
theorem dX7_isRowFull_0 : decode cX7_isRowFull 0 = .ok (.iload_n 0, 1) := by decide +kernel
theorem dX7_isRowFull_1 : decode cX7_isRowFull 1 = .ok (.ifCond .ne 15, 3) := by decide +kernel
theorem dX7_isRowFull_4 : decode cX7_isRowFull 4 = .ok (.iload_n 1, 1) := by decide +kernel
theorem dX7_isRowFull_5 : decode cX7_isRowFull 5 = .ok (.ifCond .le 7, 3) := by decide +kernel
theorem dX7_isRowFull_8 : decode cX7_isRowFull 8 = .ok (.iconst 1, 1) := by decide +kernel
theorem dX7_isRowFull_9 : decode cX7_isRowFull 9 = .ok (.goto 17, 3) := by decide +kernel
theorem dX7_isRowFull_12 : decode cX7_isRowFull 12 = .ok (.iconst 0, 1) := by decide +kernel
theorem dX7_isRowFull_13 : decode cX7_isRowFull 13 = .ok (.goto 13, 3) := by decide +kernel
theorem dX7_isRowFull_16 : decode cX7_isRowFull 16 = .ok (.iload_n 1, 1) := by decide +kernel
theorem dX7_isRowFull_17 : decode cX7_isRowFull 17 = .ok (.iload_n 2, 1) := by decide +kernel
theorem dX7_isRowFull_18 : decode cX7_isRowFull 18 = .ok (.if_icmp .ne 7, 3) := by decide +kernel
theorem dX7_isRowFull_21 : decode cX7_isRowFull 21 = .ok (.iconst 1, 1) := by decide +kernel
theorem dX7_isRowFull_22 : decode cX7_isRowFull 22 = .ok (.goto 4, 3) := by decide +kernel
theorem dX7_isRowFull_25 : decode cX7_isRowFull 25 = .ok (.iconst 0, 1) := by decide +kernel
theorem dX7_isRowFull_26 : decode cX7_isRowFull 26 = .ok (.ireturn, 1) := by decide +kernel
theorem dX10_feed_0 : decode cX10_feed 0 = .ok (.iload_n 1, 1) := by decide +kernel
theorem dX10_feed_1 : decode cX10_feed 1 = .ok (.invokestatic 99, 3) := by decide +kernel
theorem dX10_feed_4 : decode cX10_feed 4 = .ok (.iload_n 2, 1) := by decide +kernel
theorem dX10_feed_5 : decode cX10_feed 5 = .ok (.invokestatic 99, 3) := by decide +kernel
theorem dX10_feed_8 : decode cX10_feed 8 = .ok (.iadd, 1) := by decide +kernel
theorem dX10_feed_9 : decode cX10_feed 9 = .ok (.iload_n 3, 1) := by decide +kernel
theorem dX10_feed_10 : decode cX10_feed 10 = .ok (.invokestatic 99, 3) := by decide +kernel
theorem dX10_feed_13 : decode cX10_feed 13 = .ok (.iadd, 1) := by decide +kernel
theorem dX10_feed_14 : decode cX10_feed 14 = .ok (.iload 4, 2) := by decide +kernel
theorem dX10_feed_16 : decode cX10_feed 16 = .ok (.invokestatic 99, 3) := by decide +kernel
theorem dX10_feed_19 : decode cX10_feed 19 = .ok (.iadd, 1) := by decide +kernel
theorem dX10_feed_20 : decode cX10_feed 20 = .ok (.iload 5, 2) := by decide +kernel
theorem dX10_feed_22 : decode cX10_feed 22 = .ok (.invokestatic 99, 3) := by decide +kernel
theorem dX10_feed_25 : decode cX10_feed 25 = .ok (.iadd, 1) := by decide +kernel
theorem dX10_feed_26 : decode cX10_feed 26 = .ok (.istore 6, 2) := by decide +kernel
theorem dX10_feed_28 : decode cX10_feed 28 = .ok (.aload_n 0, 1) := by decide +kernel
theorem dX10_feed_29 : decode cX10_feed 29 = .ok (.getfield 12, 3) := by decide +kernel
theorem dX10_feed_32 : decode cX10_feed 32 = .ok (.getfield 103, 3) := by decide +kernel
theorem dX10_feed_35 : decode cX10_feed 35 = .ok (.iload 6, 2) := by decide +kernel
theorem dX10_feed_37 : decode cX10_feed 37 = .ok (.iadd, 1) := by decide +kernel
theorem dX10_feed_38 : decode cX10_feed 38 = .ok (.sipush 240, 3) := by decide +kernel
theorem dX10_feed_41 : decode cX10_feed 41 = .ok (.if_icmp .le 5, 3) := by decide +kernel
theorem dX10_feed_44 : decode cX10_feed 44 = .ok (.iconst (-1), 1) := by decide +kernel
theorem dX10_feed_45 : decode cX10_feed 45 = .ok (.ireturn, 1) := by decide +kernel
theorem dX10_feed_46 : decode cX10_feed 46 = .ok (.aload_n 0, 1) := by decide +kernel
theorem dX10_feed_47 : decode cX10_feed 47 = .ok (.getfield 12, 3) := by decide +kernel
theorem dX10_feed_50 : decode cX10_feed 50 = .ok (.iload_n 1, 1) := by decide +kernel
theorem dX10_feed_51 : decode cX10_feed 51 = .ok (.invokevirtual 107, 3) := by decide +kernel
theorem dX10_feed_54 : decode cX10_feed 54 = .ok (.aload_n 0, 1) := by decide +kernel
theorem dX10_feed_55 : decode cX10_feed 55 = .ok (.getfield 12, 3) := by decide +kernel
theorem dX10_feed_58 : decode cX10_feed 58 = .ok (.iload_n 2, 1) := by decide +kernel
theorem dX10_feed_59 : decode cX10_feed 59 = .ok (.invokevirtual 107, 3) := by decide +kernel
theorem dX10_feed_62 : decode cX10_feed 62 = .ok (.aload_n 0, 1) := by decide +kernel
theorem dX10_feed_63 : decode cX10_feed 63 = .ok (.getfield 12, 3) := by decide +kernel
theorem dX10_feed_66 : decode cX10_feed 66 = .ok (.iload_n 3, 1) := by decide +kernel
theorem dX10_feed_67 : decode cX10_feed 67 = .ok (.invokevirtual 107, 3) := by decide +kernel
theorem dX10_feed_70 : decode cX10_feed 70 = .ok (.aload_n 0, 1) := by decide +kernel
theorem dX10_feed_71 : decode cX10_feed 71 = .ok (.getfield 12, 3) := by decide +kernel
theorem dX10_feed_74 : decode cX10_feed 74 = .ok (.iload 4, 2) := by decide +kernel
theorem dX10_feed_76 : decode cX10_feed 76 = .ok (.invokevirtual 107, 3) := by decide +kernel
theorem dX10_feed_79 : decode cX10_feed 79 = .ok (.aload_n 0, 1) := by decide +kernel
theorem dX10_feed_80 : decode cX10_feed 80 = .ok (.getfield 12, 3) := by decide +kernel
theorem dX10_feed_83 : decode cX10_feed 83 = .ok (.iload 5, 2) := by decide +kernel
theorem dX10_feed_85 : decode cX10_feed 85 = .ok (.invokevirtual 107, 3) := by decide +kernel
theorem dX10_feed_88 : decode cX10_feed 88 = .ok (.aload_n 0, 1) := by decide +kernel
theorem dX10_feed_89 : decode cX10_feed 89 = .ok (.getfield 12, 3) := by decide +kernel
theorem dX10_feed_92 : decode cX10_feed 92 = .ok (.getfield 103, 3) := by decide +kernel
theorem dX10_feed_95 : decode cX10_feed 95 = .ok (.ireturn, 1) := by decide +kernel
theorem dX10_fault_0 : decode cX10_fault 0 = .ok (.iload_n 1, 1) := by decide +kernel
theorem dX10_fault_1 : decode cX10_fault 1 = .ok (.ifCond .ne 15, 3) := by decide +kernel
theorem dX10_fault_4 : decode cX10_fault 4 = .ok (.aload_n 0, 1) := by decide +kernel
theorem dX10_fault_5 : decode cX10_fault 5 = .ok (.getfield 26, 3) := by decide +kernel
theorem dX10_fault_8 : decode cX10_fault 8 = .ok (.aload_n 0, 1) := by decide +kernel
theorem dX10_fault_9 : decode cX10_fault 9 = .ok (.getfield 12, 3) := by decide +kernel
theorem dX10_fault_12 : decode cX10_fault 12 = .ok (.invokevirtual 111, 3) := by decide +kernel
theorem dX10_fault_15 : decode cX10_fault 15 = .ok (.ireturn, 1) := by decide +kernel
theorem dX10_fault_16 : decode cX10_fault 16 = .ok (.iload_n 1, 1) := by decide +kernel
theorem dX10_fault_17 : decode cX10_fault 17 = .ok (.iconst 1, 1) := by decide +kernel
theorem dX10_fault_18 : decode cX10_fault 18 = .ok (.if_icmp .ne 20, 3) := by decide +kernel
theorem dX10_fault_21 : decode cX10_fault 21 = .ok (.aload_n 0, 1) := by decide +kernel
theorem dX10_fault_22 : decode cX10_fault 22 = .ok (.getfield 42, 3) := by decide +kernel
theorem dX10_fault_25 : decode cX10_fault 25 = .ok (.aload_n 0, 1) := by decide +kernel
theorem dX10_fault_26 : decode cX10_fault 26 = .ok (.getfield 115, 3) := by decide +kernel
theorem dX10_fault_29 : decode cX10_fault 29 = .ok (.aaload, 1) := by decide +kernel
theorem dX10_fault_30 : decode cX10_fault 30 = .ok (.aload_n 0, 1) := by decide +kernel
theorem dX10_fault_31 : decode cX10_fault 31 = .ok (.getfield 12, 3) := by decide +kernel
theorem dX10_fault_34 : decode cX10_fault 34 = .ok (.invokevirtual 118, 3) := by decide +kernel
theorem dX10_fault_37 : decode cX10_fault 37 = .ok (.ireturn, 1) := by decide +kernel
theorem dX10_fault_38 : decode cX10_fault 38 = .ok (.bipush (-2), 2) := by decide +kernel
theorem dX10_fault_40 : decode cX10_fault 40 = .ok (.ireturn, 1) := by decide +kernel
theorem dX10_text_0 : decode cX10_text 0 = .ok (.iload_n 1, 1) := by decide +kernel
theorem dX10_text_1 : decode cX10_text 1 = .ok (.ifCond .ne 8, 3) := by decide +kernel
theorem dX10_text_4 : decode cX10_text 4 = .ok (.aload_n 0, 1) := by decide +kernel
theorem dX10_text_5 : decode cX10_text 5 = .ok (.invokevirtual 119, 3) := by decide +kernel
theorem dX10_text_8 : decode cX10_text 8 = .ok (.ireturn, 1) := by decide +kernel
theorem dX10_text_9 : decode cX10_text 9 = .ok (.iload_n 1, 1) := by decide +kernel
theorem dX10_text_10 : decode cX10_text 10 = .ok (.iconst 1, 1) := by decide +kernel
theorem dX10_text_11 : decode cX10_text 11 = .ok (.if_icmp .ne 8, 3) := by decide +kernel
theorem dX10_text_14 : decode cX10_text 14 = .ok (.aload_n 0, 1) := by decide +kernel
theorem dX10_text_15 : decode cX10_text 15 = .ok (.invokevirtual 123, 3) := by decide +kernel
theorem dX10_text_18 : decode cX10_text 18 = .ok (.ireturn, 1) := by decide +kernel
theorem dX10_text_19 : decode cX10_text 19 = .ok (.iconst (-1), 1) := by decide +kernel
theorem dX10_text_20 : decode cX10_text 20 = .ok (.ireturn, 1) := by decide +kernel
theorem dX10_tableFromTape_0 : decode cX10_tableFromTape 0 = .ok (.aload_n 0, 1) := by decide +kernel
theorem dX10_tableFromTape_1 : decode cX10_tableFromTape 1 = .ok (.getfield 26, 3) := by decide +kernel
theorem dX10_tableFromTape_4 : decode cX10_tableFromTape 4 = .ok (.aload_n 0, 1) := by decide +kernel
theorem dX10_tableFromTape_5 : decode cX10_tableFromTape 5 = .ok (.getfield 12, 3) := by decide +kernel
theorem dX10_tableFromTape_8 : decode cX10_tableFromTape 8 = .ok (.invokevirtual 111, 3) := by decide +kernel
theorem dX10_tableFromTape_11 : decode cX10_tableFromTape 11 = .ok (.iconst (-1), 1) := by decide +kernel
theorem dX10_tableFromTape_12 : decode cX10_tableFromTape 12 = .ok (.if_icmp .eq 5, 3) := by decide +kernel
theorem dX10_tableFromTape_15 : decode cX10_tableFromTape 15 = .ok (.iconst (-1), 1) := by decide +kernel
theorem dX10_tableFromTape_16 : decode cX10_tableFromTape 16 = .ok (.ireturn, 1) := by decide +kernel
theorem dX10_tableFromTape_17 : decode cX10_tableFromTape 17 = .ok (.aload_n 0, 1) := by decide +kernel
theorem dX10_tableFromTape_18 : decode cX10_tableFromTape 18 = .ok (.getfield 19, 3) := by decide +kernel
theorem dX10_tableFromTape_21 : decode cX10_tableFromTape 21 = .ok (.aload_n 0, 1) := by decide +kernel
theorem dX10_tableFromTape_22 : decode cX10_tableFromTape 22 = .ok (.getfield 26, 3) := by decide +kernel
theorem dX10_tableFromTape_25 : decode cX10_tableFromTape 25 = .ok (.invokevirtual 159, 3) := by decide +kernel
theorem dX10_tableFromTape_28 : decode cX10_tableFromTape 28 = .ok (.aload_n 0, 1) := by decide +kernel
theorem dX10_tableFromTape_29 : decode cX10_tableFromTape 29 = .ok (.getfield 12, 3) := by decide +kernel
theorem dX10_tableFromTape_32 : decode cX10_tableFromTape 32 = .ok (.iconst 0, 1) := by decide +kernel
theorem dX10_tableFromTape_33 : decode cX10_tableFromTape 33 = .ok (.putfield 103, 3) := by decide +kernel
theorem dX10_tableFromTape_36 : decode cX10_tableFromTape 36 = .ok (.aload_n 0, 1) := by decide +kernel
theorem dX10_tableFromTape_37 : decode cX10_tableFromTape 37 = .ok (.getfield 32, 3) := by decide +kernel
theorem dX10_tableFromTape_40 : decode cX10_tableFromTape 40 = .ok (.invokevirtual 317, 3) := by decide +kernel
theorem dX10_tableFromTape_43 : decode cX10_tableFromTape 43 = .ok (.aload_n 0, 1) := by decide +kernel
theorem dX10_tableFromTape_44 : decode cX10_tableFromTape 44 = .ok (.invokevirtual 176, 3) := by decide +kernel
theorem dX10_tableFromTape_47 : decode cX10_tableFromTape 47 = .ok (.aload_n 0, 1) := by decide +kernel
theorem dX10_tableFromTape_48 : decode cX10_tableFromTape 48 = .ok (.getfield 19, 3) := by decide +kernel
theorem dX10_tableFromTape_51 : decode cX10_tableFromTape 51 = .ok (.getfield 170, 3) := by decide +kernel
theorem dX10_tableFromTape_54 : decode cX10_tableFromTape 54 = .ok (.ireturn, 1) := by decide +kernel
theorem dX10_scriptFromTape_0 : decode cX10_scriptFromTape 0 = .ok (.aload_n 0, 1) := by decide +kernel
theorem dX10_scriptFromTape_1 : decode cX10_scriptFromTape 1 = .ok (.getfield 115, 3) := by decide +kernel
theorem dX10_scriptFromTape_4 : decode cX10_scriptFromTape 4 = .ok (.iconst 4, 1) := by decide +kernel
theorem dX10_scriptFromTape_5 : decode cX10_scriptFromTape 5 = .ok (.if_icmp .ge 23, 3) := by decide +kernel
theorem dX10_scriptFromTape_8 : decode cX10_scriptFromTape 8 = .ok (.aload_n 0, 1) := by decide +kernel
theorem dX10_scriptFromTape_9 : decode cX10_scriptFromTape 9 = .ok (.getfield 42, 3) := by decide +kernel
theorem dX10_scriptFromTape_12 : decode cX10_scriptFromTape 12 = .ok (.aload_n 0, 1) := by decide +kernel
theorem dX10_scriptFromTape_13 : decode cX10_scriptFromTape 13 = .ok (.getfield 115, 3) := by decide +kernel
theorem dX10_scriptFromTape_16 : decode cX10_scriptFromTape 16 = .ok (.aaload, 1) := by decide +kernel
theorem dX10_scriptFromTape_17 : decode cX10_scriptFromTape 17 = .ok (.aload_n 0, 1) := by decide +kernel
theorem dX10_scriptFromTape_18 : decode cX10_scriptFromTape 18 = .ok (.getfield 12, 3) := by decide +kernel
theorem dX10_scriptFromTape_21 : decode cX10_scriptFromTape 21 = .ok (.invokevirtual 118, 3) := by decide +kernel
theorem dX10_scriptFromTape_24 : decode cX10_scriptFromTape 24 = .ok (.iconst (-1), 1) := by decide +kernel
theorem dX10_scriptFromTape_25 : decode cX10_scriptFromTape 25 = .ok (.if_icmp .eq 5, 3) := by decide +kernel
theorem dX10_scriptFromTape_28 : decode cX10_scriptFromTape 28 = .ok (.iconst (-1), 1) := by decide +kernel
theorem dX10_scriptFromTape_29 : decode cX10_scriptFromTape 29 = .ok (.ireturn, 1) := by decide +kernel
theorem dX10_scriptFromTape_30 : decode cX10_scriptFromTape 30 = .ok (.aload_n 0, 1) := by decide +kernel
theorem dX10_scriptFromTape_31 : decode cX10_scriptFromTape 31 = .ok (.getfield 12, 3) := by decide +kernel
theorem dX10_scriptFromTape_34 : decode cX10_scriptFromTape 34 = .ok (.iconst 0, 1) := by decide +kernel
theorem dX10_scriptFromTape_35 : decode cX10_scriptFromTape 35 = .ok (.putfield 103, 3) := by decide +kernel
theorem dX10_scriptFromTape_38 : decode cX10_scriptFromTape 38 = .ok (.aload_n 0, 1) := by decide +kernel
theorem dX10_scriptFromTape_39 : decode cX10_scriptFromTape 39 = .ok (.dup, 1) := by decide +kernel
theorem dX10_scriptFromTape_40 : decode cX10_scriptFromTape 40 = .ok (.getfield 115, 3) := by decide +kernel
theorem dX10_scriptFromTape_43 : decode cX10_scriptFromTape 43 = .ok (.iconst 1, 1) := by decide +kernel
theorem dX10_scriptFromTape_44 : decode cX10_scriptFromTape 44 = .ok (.iadd, 1) := by decide +kernel
theorem dX10_scriptFromTape_45 : decode cX10_scriptFromTape 45 = .ok (.putfield 115, 3) := by decide +kernel
theorem dX10_scriptFromTape_48 : decode cX10_scriptFromTape 48 = .ok (.aload_n 0, 1) := by decide +kernel
theorem dX10_scriptFromTape_49 : decode cX10_scriptFromTape 49 = .ok (.getfield 115, 3) := by decide +kernel
theorem dX10_scriptFromTape_52 : decode cX10_scriptFromTape 52 = .ok (.iconst 1, 1) := by decide +kernel
theorem dX10_scriptFromTape_53 : decode cX10_scriptFromTape 53 = .ok (.isub, 1) := by decide +kernel
theorem dX10_scriptFromTape_54 : decode cX10_scriptFromTape 54 = .ok (.ireturn, 1) := by decide +kernel
def nbR (v : Int32) : Nat → Nat
  | 0 => 0
  | j + 1 => nbR v j + on1 (bN v (3 - j))
theorem nbR_4 (v : Int32) : nbR v 4 = nb v := by
  show 0 + on1 (bN v 3) + on1 (bN v 2) + on1 (bN v 1) + on1 (bN v 0) = 0 + on1 (bN v 0) + on1 (bN v 1) + on1 (bN v 2) + on1 (bN v 3)
  omega
theorem c_bytesIn (v : Int32) (w : aW) : Mt mX8_bytesIn 0 0 0 [.int v] w (QI (nI (nb v)) w) := by
  refine Mt.of MI_X8_bytesIn (Nat.le_of_ble_eq_true rfl) (fun X hC hR hT => ?_)
  have lp : ∀ j, j ≤ 4 → Rw mX8_bytesIn X 5 [some (.int v), some (.int (nI (nbR v j))), some (.int (shF j))] [] w 0 0 := by
    refine up_loop 4 ?_ ?_
    · refine R_iload_n (i := 2) hC dX8_bytesIn_5 rfl rfl ?_
      refine R_if_lt hC 28 dX8_bytesIn_6 (by decide) (fun _ => ?_) (fun h => absurd shF_4 h)
      refine R_iload_n (i := 1) hC dX8_bytesIn_28 rfl rfl ?_
      exact R_iret hC hT dX8_bytesIn_29 rfl ⟨by rw [nbR_4], rfl⟩
    · intro j hj ih
      obtain ⟨s1, s2, s3⟩ := shF_ok j hj
      by_cases e : bN v (3 - j) = 0
      · rw [nbR, on1, if_pos e, Nat.add_zero] at ih
        refine R_iload_n (i := 2) hC dX8_bytesIn_5 rfl rfl ?_
        refine R_if_lt hC 28 dX8_bytesIn_6 (by decide) (fun h => absurd h s1) (fun _ => ?_)
        refine R_iload_n (i := 0) hC dX8_bytesIn_9 rfl rfl (R_iload_n (i := 2) hC dX8_bytesIn_10 rfl rfl ?_)
        refine R_top (y := nI (8 * (3 - j))) (s2) ?_
        refine R_iushr hC dX8_bytesIn_11 (R_sipush (v := 255) hC dX8_bytesIn_12 (by decide) (R_iand hC dX8_bytesIn_15 ?_))
        refine R_top (y := bI v (3 - j)) (us_bI v (3 - j) (by omega)) ?_
        refine R_if_eq hC 22 dX8_bytesIn_16 (by decide) (fun _ => ?_) (fun h => absurd ((bI_0 _ _).mpr e) h)
        refine R_iinc hC dX8_bytesIn_22 rfl s3 (by decide) rfl (R_goto hC 5 dX8_bytesIn_25 (by decide) ?_)
        exact ih
      · rw [nbR, on1, if_neg e] at ih
        refine R_iload_n (i := 2) hC dX8_bytesIn_5 rfl rfl ?_
        refine R_if_lt hC 28 dX8_bytesIn_6 (by decide) (fun h => absurd h s1) (fun _ => ?_)
        refine R_iload_n (i := 0) hC dX8_bytesIn_9 rfl rfl (R_iload_n (i := 2) hC dX8_bytesIn_10 rfl rfl ?_)
        refine R_top (y := nI (8 * (3 - j))) (s2) ?_
        refine R_iushr hC dX8_bytesIn_11 (R_sipush (v := 255) hC dX8_bytesIn_12 (by decide) (R_iand hC dX8_bytesIn_15 ?_))
        refine R_top (y := bI v (3 - j)) (us_bI v (3 - j) (by omega)) ?_
        refine R_if_eq hC 22 dX8_bytesIn_16 (by decide) (fun h => absurd h (fun z => e ((bI_0 _ _).mp z))) (fun _ => ?_)
        refine R_iinc hC dX8_bytesIn_19 rfl (inc1 _) (by decide) rfl (R_iinc hC dX8_bytesIn_22 rfl s3 (by decide) rfl (R_goto hC 5 dX8_bytesIn_25 (by decide) ?_))
        exact ih
  refine R_iconst (v := 0) hC dX8_bytesIn_0 (by decide) (R_istore_n (i := 1) hC dX8_bytesIn_1 rfl (by decide) rfl (R_bipush (v := 24) hC dX8_bytesIn_2 (by decide) ?_))
  refine R_top (y := shF 0) ((by decide)) ?_
  refine R_istore_n (i := 2) hC dX8_bytesIn_4 rfl (by decide) rfl ?_
  exact lp 0 (Nat.zero_le _)
theorem CI1.push {σ : sg} {t : tap} (h : CI1 σ t) {b : Nat} (hb : b ≠ 0) : CI1 (sG (sA σ i_tape_b (upd (σ.2.2 i_tape_b) t.1 (nI b))) i_tape 1 (nI (t.1 + 1))) (push1 t b) := by
  have e : push1 t b = (t.1 + 1, fun i => if i = t.1 then b else t.2 i) := if_neg hb
  rw [e]
  refine ⟨sG_eq _ _ _ _, fun i hi => ?_⟩
  have hi : i < t.1 + 1 := hi
  show (sA σ i_tape_b _).2.2 i_tape_b i = nI (if i = t.1 then b else t.2 i)
  rw [sA_eq]
  unfold upd
  by_cases z : i = t.1
  · rw [if_pos z, if_pos z]
  · rw [if_neg z, if_neg z]; exact h.2 i (by omega)
theorem c_append {σ : sg} {x : aW} {t : tap} (h : CI1 σ t) (v : Int32) (hl : t.1 + nb v ≤ 240) : Mt mX8_append 0 0 0 [.ref i_tape, .int v] (wd σ x) (fun r w => r = none ∧ ∃ τ, w = wd τ x ∧ AE [17, 18] σ τ ∧ CI1 τ (pd t v 4)) := by
  refine Mt.of MI_X8_append (Nat.le_of_ble_eq_true rfl) (fun X hC hR hT => ?_)
  have lp : ∀ j, j ≤ 4 → ∀ τ u3, AE [17, 18] σ τ → CI1 τ (pd t v j) → Rw mX8_append X 3 [some (.ref i_tape), some (.int v), some (.int (shF j)), u3] [] (wd τ x) 0 0 := by
    refine up_loop 4 ?_ ?_
    · intro τ u3 hg hc
      refine R_iload_n (i := 2) hC dX8_append_3 rfl rfl ?_
      refine R_if_lt hC 55 dX8_append_4 (by decide) (fun _ => ?_) (fun h => absurd shF_4 h)
      exact R_vret hC hT dX8_append_55 rfl ⟨rfl, τ, rfl, hg, hc⟩
    · intro j hj ih τ u3 hg hc
      obtain ⟨s1, s2, s3⟩ := shF_ok j hj
      obtain ⟨b1, b2⟩ := bN_e v (3 - j)
      by_cases e : bN v (3 - j) = 0
      · have e2 : pd t v (j + 1) = pd t v j := by rw [pd, push1, if_pos e]
        rw [e2] at ih
        refine R_iload_n (i := 2) hC dX8_append_3 rfl rfl ?_
        refine R_if_lt hC 55 dX8_append_4 (by decide) (fun h => absurd h s1) (fun _ => ?_)
        refine R_iload_n (i := 1) hC dX8_append_7 rfl rfl (R_iload_n (i := 2) hC dX8_append_8 rfl rfl ?_)
        refine R_top (y := nI (8 * (3 - j))) (s2) ?_
        refine R_iushr hC dX8_append_9 (R_sipush (v := 255) hC dX8_append_10 (by decide) (R_iand hC dX8_append_13 ?_))
        refine R_top (y := bI v (3 - j)) (us_bI v (3 - j) (by omega)) ?_
        refine R_istore_n (i := 3) hC dX8_append_14 rfl (by decide) rfl (R_iload_n (i := 3) hC dX8_append_15 rfl rfl ?_)
        refine R_if_eq hC 49 dX8_append_16 (by decide) (fun _ => ?_) (fun h => absurd ((bI_0 _ _).mpr e) h)
        refine R_iinc hC dX8_append_49 rfl s3 (by decide) rfl (R_goto hC 3 dX8_append_52 (by decide) ?_)
        exact ih τ _ hg hc
      · have hp := (pd_le t v j (by omega)).2 e hj
        have len := hc.1
        refine R_iload_n (i := 2) hC dX8_append_3 rfl rfl ?_
        refine R_if_lt hC 55 dX8_append_4 (by decide) (fun h => absurd h s1) (fun _ => ?_)
        refine R_iload_n (i := 1) hC dX8_append_7 rfl rfl (R_iload_n (i := 2) hC dX8_append_8 rfl rfl ?_)
        refine R_top (y := nI (8 * (3 - j))) (s2) ?_
        refine R_iushr hC dX8_append_9 (R_sipush (v := 255) hC dX8_append_10 (by decide) (R_iand hC dX8_append_13 ?_))
        refine R_top (y := bI v (3 - j)) (us_bI v (3 - j) (by omega)) ?_
        refine R_istore_n (i := 3) hC dX8_append_14 rfl (by decide) rfl (R_iload_n (i := 3) hC dX8_append_15 rfl rfl ?_)
        refine R_if_eq hC 49 dX8_append_16 (by decide) (fun h => absurd h (fun z => e ((bI_0 _ _).mp z))) (fun _ => ?_)
        refine R_aload_n (i := 0) hC dX8_append_19 rfl rfl (R_gI hC dX8_append_20 fl_X8_15 L_tape rfl ?_)
        refine R_top (y := nI (pd t v j).1) (len) ?_
        refine R_sipush (v := 240) hC dX8_append_23 (by decide) ?_
        refine R_icmp_ge hC 49 dX8_append_26 (by decide) (fun h => absurd h (nI_ge (b := 240) (by omega) (by decide))) (fun _ => ?_)
        refine R_aload_n (i := 0) hC dX8_append_29 rfl rfl (R_gR hC dX8_append_30 fl_X8_9 L_tape rfl (R_aload_n (i := 0) hC dX8_append_33 rfl rfl (R_gI hC dX8_append_34 fl_X8_15 L_tape rfl ?_)))
        refine R_top (y := nI (pd t v j).1) (len) ?_
        refine R_iload_n (i := 3) hC dX8_append_37 rfl rfl ?_
        rw [b1]
        refine R_sI hC dX8_append_38 L_tape_b ((pd t v j).1) rfl (by omega) (by decide) (R_aload_n (i := 0) hC dX8_append_39 rfl rfl (R_dup hC dX8_append_40 rfl (R_gI hC dX8_append_41 fl_X8_15 L_tape rfl ?_)))
        refine R_top (y := nI (pd t v j).1) (len) ?_
        refine R_iconst (v := 1) hC dX8_append_44 (by decide) (R_iadd hC dX8_append_45 ?_)
        refine R_top (y := nI ((pd t v j).1 + 1)) (inc1 _) ?_
        refine R_pI hC dX8_append_46 fl_X8_15 L_tape rfl (R_iinc hC dX8_append_49 rfl s3 (by decide) rfl (R_goto hC 3 dX8_append_52 (by decide) ?_))
        exact ih _ _ ((hg.a (by decide)).g (by decide)) (by rw [pd]; exact hc.push e)
  refine R_bipush (v := 24) hC dX8_append_0 (by decide) ?_
  refine R_top (y := shF 0) ((by decide)) ?_
  refine R_istore_n (i := 2) hC dX8_append_2 rfl (by decide) rfl ?_
  exact lp 0 (Nat.zero_le _) σ _ (AE.rf _ σ) h
theorem CInv.tp {σ τ : sg} {α : aS} (h : CInv σ α) (ok : aOK α) (e : AE [17, 18] σ τ) {t : tap} (ht : CI1 τ t) : CInv τ (t, α.2) := by
  obtain ⟨q1, q2, q3, q4, q5, q6, q7, q8, q9⟩ := h
  have s4 := ok.2.2.2.2.1.1
  exact ⟨ht, q2.ae e (by decide) (by decide), q3.ae ok.2.2.2.1.1 e (by decide), q4.ae e (by intro i z; simp at z; omega), q5.ae e (by decide), q6.ae e (by decide), q7.ae e (by decide), q8.ae e (by decide), q9.ae e (by decide)⟩
theorem co_feed {σ : sg} {x : aW} {α : aS} (h : CInv σ α) (ok : aOK α) (a b c d e : Int32) : Mt mX10_feed 1 0 0 [.ref i_U, .int a, .int b, .int c, .int d, .int e] (wd σ x) (CPost σ x (opFeed α a b c d e).1 (opFeed α a b c d e).2) := by
  refine Mt.of MI_X10_feed (Nat.le_of_ble_eq_true rfl) (fun X hC hR hT => ?_)
  have l0 := ok.1
  have la : nb a ≤ 4 := nbF_le a 4
  have lb : nb b ≤ 4 := nbF_le b 4
  have lc : nb c ≤ 4 := nbF_le c 4
  have ld : nb d ≤ 4 := nbF_le d 4
  have le : nb e ≤ 4 := nbF_le e 4
  have em : (nI ((tp α).1 + (nb a + nb b + nb c + nb d + nb e)) ≤ (240 : Int32)) ↔ (tp α).1 + (nb a + nb b + nb c + nb d + nb e) ≤ 240 := nI_leI (b := 240) (by omega) (by decide)
  have pa := pd_1 (tp α) a
  have pb := pd_1 (pd (tp α) a 4) b
  have pc := pd_1 (pd (pd (tp α) a 4) b 4) c
  have pdd := pd_1 (pd (pd (pd (tp α) a 4) b 4) c 4) d
  have pe := pd_1 (pd (pd (pd (pd (tp α) a 4) b 4) c 4) d 4) e
  refine R_iload_n (i := 1) hC dX10_feed_0 rfl rfl ?_
  refine R_S1i hC hR dX10_feed_1 MS_X8_bytesIn ml_X10_99 (c_bytesIn a _) (by first | decide | omega) ⟨by decide, by decide⟩ (Nat.le_of_ble_eq_true rfl) ?_
  refine R_iload_n (i := 2) hC dX10_feed_4 rfl rfl ?_
  refine R_S1i hC hR dX10_feed_5 MS_X8_bytesIn ml_X10_99 (c_bytesIn b _) (by first | decide | omega) ⟨by decide, by decide⟩ (Nat.le_of_ble_eq_true rfl) ?_
  refine R_iadd hC dX10_feed_8 ?_
  refine R_top (y := nI (nb a + nb b)) (nIa _ _) ?_
  refine R_iload_n (i := 3) hC dX10_feed_9 rfl rfl ?_
  refine R_S1i hC hR dX10_feed_10 MS_X8_bytesIn ml_X10_99 (c_bytesIn c _) (by first | decide | omega) ⟨by decide, by decide⟩ (Nat.le_of_ble_eq_true rfl) ?_
  refine R_iadd hC dX10_feed_13 ?_
  refine R_top (y := nI (nb a + nb b + nb c)) (nIa _ _) ?_
  refine R_iload hC dX10_feed_14 rfl ?_
  refine R_S1i hC hR dX10_feed_16 MS_X8_bytesIn ml_X10_99 (c_bytesIn d _) (by first | decide | omega) ⟨by decide, by decide⟩ (Nat.le_of_ble_eq_true rfl) ?_
  refine R_iadd hC dX10_feed_19 ?_
  refine R_top (y := nI (nb a + nb b + nb c + nb d)) (nIa _ _) ?_
  refine R_iload hC dX10_feed_20 rfl ?_
  refine R_S1i hC hR dX10_feed_22 MS_X8_bytesIn ml_X10_99 (c_bytesIn e _) (by first | decide | omega) ⟨by decide, by decide⟩ (Nat.le_of_ble_eq_true rfl) ?_
  refine R_iadd hC dX10_feed_25 ?_
  refine R_top (y := nI (nb a + nb b + nb c + nb d + nb e)) (nIa _ _) ?_
  refine R_istore hC dX10_feed_26 (by decide) rfl (R_aload_n (i := 0) hC dX10_feed_28 rfl rfl (R_gR hC dX10_feed_29 fl_X10_12 L_U rfl (R_gI hC dX10_feed_32 fl_X10_103 L_tape rfl ?_)))
  refine R_top (y := nI (tp α).1) (h.1.1) ?_
  refine R_iload hC dX10_feed_35 rfl (R_iadd hC dX10_feed_37 ?_)
  refine R_top (y := nI ((tp α).1 + (nb a + nb b + nb c + nb d + nb e))) (nIa _ _) ?_
  refine R_sipush (v := 240) hC dX10_feed_38 (by decide) ?_
  refine R_icmp_le hC 46 dX10_feed_41 (by decide) (fun h41 => ?_) (fun h41 => ?_)
  · have hl := em.mp h41
    refine R_aload_n (i := 0) hC dX10_feed_46 rfl rfl (R_gR hC dX10_feed_47 fl_X10_12 L_U rfl (R_iload_n (i := 1) hC dX10_feed_50 rfl rfl ?_))
    refine R_V1g hC hR dX10_feed_51 MV_X8_append ml_X10_107 L_tape rfl (c_append h.1 a (by omega)) (by first | decide | omega) ⟨by decide, by decide⟩ (Nat.le_of_ble_eq_true rfl) (fun r w1 hq => ?_)
    obtain ⟨rfl, σ1, rfl, e1, c1⟩ := hq
    refine R_aload_n (i := 0) hC dX10_feed_54 rfl rfl (R_gR hC dX10_feed_55 fl_X10_12 L_U rfl (R_iload_n (i := 2) hC dX10_feed_58 rfl rfl ?_))
    refine R_V1g hC hR dX10_feed_59 MV_X8_append ml_X10_107 L_tape rfl (c_append c1 b (by omega)) (by first | decide | omega) ⟨by decide, by decide⟩ (Nat.le_of_ble_eq_true rfl) (fun r w1 hq => ?_)
    obtain ⟨rfl, σ2, rfl, e2, c2⟩ := hq
    refine R_aload_n (i := 0) hC dX10_feed_62 rfl rfl (R_gR hC dX10_feed_63 fl_X10_12 L_U rfl (R_iload_n (i := 3) hC dX10_feed_66 rfl rfl ?_))
    refine R_V1g hC hR dX10_feed_67 MV_X8_append ml_X10_107 L_tape rfl (c_append c2 c (by omega)) (by first | decide | omega) ⟨by decide, by decide⟩ (Nat.le_of_ble_eq_true rfl) (fun r w1 hq => ?_)
    obtain ⟨rfl, σ3, rfl, e3, c3⟩ := hq
    refine R_aload_n (i := 0) hC dX10_feed_70 rfl rfl (R_gR hC dX10_feed_71 fl_X10_12 L_U rfl (R_iload hC dX10_feed_74 rfl ?_))
    refine R_V1g hC hR dX10_feed_76 MV_X8_append ml_X10_107 L_tape rfl (c_append c3 d (by omega)) (by first | decide | omega) ⟨by decide, by decide⟩ (Nat.le_of_ble_eq_true rfl) (fun r w1 hq => ?_)
    obtain ⟨rfl, σ4, rfl, e4, c4⟩ := hq
    refine R_aload_n (i := 0) hC dX10_feed_79 rfl rfl (R_gR hC dX10_feed_80 fl_X10_12 L_U rfl (R_iload hC dX10_feed_83 rfl ?_))
    refine R_V1g hC hR dX10_feed_85 MV_X8_append ml_X10_107 L_tape rfl (c_append c4 e (by omega)) (by first | decide | omega) ⟨by decide, by decide⟩ (Nat.le_of_ble_eq_true rfl) (fun r w1 hq => ?_)
    obtain ⟨rfl, σ5, rfl, e5, c5⟩ := hq
    have ae := (((e1.tr e2).tr e3).tr e4).tr e5
    refine R_aload_n (i := 0) hC dX10_feed_88 rfl rfl (R_gR hC dX10_feed_89 fl_X10_12 L_U rfl (R_gI hC dX10_feed_92 fl_X10_103 L_tape rfl ?_))
    refine R_top (y := nI ((tp α).1 + nb a + nb b + nb c + nb d + nb e)) ((by rw [c5.1, pe, pdd, pc, pb, pa])) ?_
    exact R_iret hC hT dX10_feed_95 rfl (by unfold opFeed; rw [if_neg (by omega)]; exact CPost.i (h.tp ok ae c5) (ae.meq (by decide)))
  · refine R_iconst (v := (-1)) hC dX10_feed_44 (by decide) ?_
    exact R_iret hC hT dX10_feed_45 rfl (by have z := mt em.mpr h41; unfold opFeed; rw [if_pos (by omega)]; exact CPost.i h (MEq.rf _))
theorem c_tat {σ : sg} {x : aW} {t : tap} (h : CI1 σ t) (h240 : t.1 ≤ 240) {i : Nat} (hi : i < t.1) : Mt mX8_at 0 0 0 [.ref i_tape, .int (nI i)] (wd σ x) (QI (nI (t.2 i)) (wd σ x)) := by
  refine Mt.of MI_X8_at (Nat.le_of_ble_eq_true rfl) (fun X hC hR hT => ?_)
  refine R_iload_n (i := 1) hC dX8_at_0 rfl rfl ?_
  refine R_if_lt hC 28 dX8_at_1 (by decide) (fun h => absurd h (fun z => by rw [i32_lt, nI_toInt (by omega), Int32.toInt_zero] at z; omega)) (fun _ => ?_)
  refine R_iload_n (i := 1) hC dX8_at_4 rfl rfl (R_aload_n (i := 0) hC dX8_at_5 rfl rfl (R_gI hC dX8_at_6 fl_X8_15 L_tape rfl ?_))
  refine R_top (y := nI t.1) (h.1) ?_
  refine R_icmp_ge hC 28 dX8_at_9 (by decide) (fun h => absurd h (nI_ge hi (by omega))) (fun _ => ?_)
  refine R_iload_n (i := 1) hC dX8_at_12 rfl rfl (R_sipush (v := 240) hC dX8_at_13 (by decide) ?_)
  refine R_icmp_ge hC 28 dX8_at_16 (by decide) (fun h => absurd h (nI_ge (b := 240) (by omega) (by decide))) (fun _ => ?_)
  refine R_aload_n (i := 0) hC dX8_at_19 rfl rfl (R_gR hC dX8_at_20 fl_X8_9 L_tape rfl (R_iload_n (i := 1) hC dX8_at_23 rfl rfl (R_aI hC dX8_at_24 L_tape_b i rfl (by omega) (by decide) (R_goto hC 29 dX8_at_25 (by decide) ?_))))
  exact R_iret hC hT dX8_at_29 rfl ⟨by rw [h.2 i hi], rfl⟩
theorem c_full (row col wid : Nat) (h1 : row ≤ 6) (h2 : col ≤ 6) (h3 : wid ≤ 6) (w : aW) : Mt mX7_isRowFull 0 0 0 [.int (nI row), .int (nI col), .int (nI wid)] w (QI (b2i (ful row col wid)) w) := by
  refine Mt.of MI_X7_isRowFull (Nat.le_of_ble_eq_true rfl) (fun X hC hR hT => ?_)
  have r0 := nI_eq (a := row) (b := 0) (by omega) (by decide)
  have cw := nI_eq (a := col) (b := wid) (by omega) (by omega)
  have c0 : nI col ≤ 0 ↔ col = 0 := by rw [i32_ge, nI_toInt (by omega), Int32.toInt_zero]; omega
  refine R_iload_n (i := 0) hC dX7_isRowFull_0 rfl rfl ?_
  refine R_if_ne hC 16 dX7_isRowFull_1 (by decide) (fun h1 => ?_) (fun h1 => ?_)
  · refine R_iload_n (i := 1) hC dX7_isRowFull_16 rfl rfl (R_iload_n (i := 2) hC dX7_isRowFull_17 rfl rfl ?_)
    refine R_icmp_ne hC 25 dX7_isRowFull_18 (by decide) (fun h18 => ?_) (fun h18 => ?_)
    · refine R_iconst (v := 0) hC dX7_isRowFull_25 (by decide) ?_
      exact R_zret hC hT dX7_isRowFull_26 rfl (by decide) ⟨by first
        | (rw [b2i_f (by have z := mt r0.mpr h1; have y := mt cw.mpr h18; unfold ful; omega)]; done)
        | (rw [b2i_t (show ful row col wid from Or.inr ⟨fun z => h1 (r0.mpr z), cw.mp h18⟩)]; done)
        | (rw [b2i_f (by have z := r0.mp h1; have y := c0.mp h5; unfold ful; omega)]; done)
        | (rw [b2i_t (by have z := r0.mp h1; have y := mt c0.mpr h5; unfold ful; omega)]; done), rfl⟩
    · refine R_iconst (v := 1) hC dX7_isRowFull_21 (by decide) (R_goto hC 26 dX7_isRowFull_22 (by decide) ?_)
      exact R_zret hC hT dX7_isRowFull_26 rfl (by decide) ⟨by first
        | (rw [b2i_f (by have z := mt r0.mpr h1; have y := mt cw.mpr h18; unfold ful; omega)]; done)
        | (rw [b2i_t (show ful row col wid from Or.inr ⟨fun z => h1 (r0.mpr z), cw.mp h18⟩)]; done)
        | (rw [b2i_f (by have z := r0.mp h1; have y := c0.mp h5; unfold ful; omega)]; done)
        | (rw [b2i_t (by have z := r0.mp h1; have y := mt c0.mpr h5; unfold ful; omega)]; done), rfl⟩
  · refine R_iload_n (i := 1) hC dX7_isRowFull_4 rfl rfl ?_
    refine R_if_le hC 12 dX7_isRowFull_5 (by decide) (fun h5 => ?_) (fun h5 => ?_)
    · refine R_iconst (v := 0) hC dX7_isRowFull_12 (by decide) (R_goto hC 26 dX7_isRowFull_13 (by decide) ?_)
      exact R_zret hC hT dX7_isRowFull_26 rfl (by decide) ⟨by first
        | (rw [b2i_f (by have z := mt r0.mpr h1; have y := mt cw.mpr h18; unfold ful; omega)]; done)
        | (rw [b2i_t (show ful row col wid from Or.inr ⟨fun z => h1 (r0.mpr z), cw.mp h18⟩)]; done)
        | (rw [b2i_f (by have z := r0.mp h1; have y := c0.mp h5; unfold ful; omega)]; done)
        | (rw [b2i_t (by have z := r0.mp h1; have y := mt c0.mpr h5; unfold ful; omega)]; done), rfl⟩
    · refine R_iconst (v := 1) hC dX7_isRowFull_8 (by decide) (R_goto hC 26 dX7_isRowFull_9 (by decide) ?_)
      exact R_zret hC hT dX7_isRowFull_26 rfl (by decide) ⟨by first
        | (rw [b2i_f (by have z := mt r0.mpr h1; have y := mt cw.mpr h18; unfold ful; omega)]; done)
        | (rw [b2i_t (show ful row col wid from Or.inr ⟨fun z => h1 (r0.mpr z), cw.mp h18⟩)]; done)
        | (rw [b2i_f (by have z := r0.mp h1; have y := c0.mp h5; unfold ful; omega)]; done)
        | (rw [b2i_t (by have z := r0.mp h1; have y := mt c0.mpr h5; unfold ful; omega)]; done), rfl⟩
