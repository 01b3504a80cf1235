theorem dX11_laysParts_0 : decode cX11_laysParts 0 = .ok (.iconst 0, 1) := by decide +kernel
theorem dX11_laysParts_1 : decode cX11_laysParts 1 = .ok (.istore_n 1, 1) := by decide +kernel
theorem dX11_laysParts_2 : decode cX11_laysParts 2 = .ok (.iload_n 1, 1) := by decide +kernel
theorem dX11_laysParts_3 : decode cX11_laysParts 3 = .ok (.bipush 12, 2) := by decide +kernel
theorem dX11_laysParts_5 : decode cX11_laysParts 5 = .ok (.if_icmp .ge 16, 3) := by decide +kernel
theorem dX11_laysParts_8 : decode cX11_laysParts 8 = .ok (.aload_n 0, 1) := by decide +kernel
theorem dX11_laysParts_9 : decode cX11_laysParts 9 = .ok (.getfield 53, 3) := by decide +kernel
theorem dX11_laysParts_12 : decode cX11_laysParts 12 = .ok (.iload_n 1, 1) := by decide +kernel
theorem dX11_laysParts_13 : decode cX11_laysParts 13 = .ok (.iload_n 1, 1) := by decide +kernel
theorem dX11_laysParts_14 : decode cX11_laysParts 14 = .ok (.iastore, 1) := by decide +kernel
theorem dX11_laysParts_15 : decode cX11_laysParts 15 = .ok (.iinc 1 1, 3) := by decide +kernel
theorem dX11_laysParts_18 : decode cX11_laysParts 18 = .ok (.goto (-16), 3) := by decide +kernel
theorem dX11_laysParts_21 : decode cX11_laysParts 21 = .ok (.iconst 0, 1) := by decide +kernel
theorem dX11_laysParts_22 : decode cX11_laysParts 22 = .ok (.istore_n 1, 1) := by decide +kernel
theorem dX11_laysParts_23 : decode cX11_laysParts 23 = .ok (.iload_n 1, 1) := by decide +kernel
theorem dX11_laysParts_24 : decode cX11_laysParts 24 = .ok (.aload_n 0, 1) := by decide +kernel
theorem dX11_laysParts_25 : decode cX11_laysParts 25 = .ok (.getfield 13, 3) := by decide +kernel
theorem dX11_laysParts_28 : decode cX11_laysParts 28 = .ok (.bipush 36, 2) := by decide +kernel
theorem dX11_laysParts_30 : decode cX11_laysParts 30 = .ok (.iaload, 1) := by decide +kernel
theorem dX11_laysParts_31 : decode cX11_laysParts 31 = .ok (.if_icmp .ge 120, 3) := by decide +kernel
theorem dX11_laysParts_34 : decode cX11_laysParts 34 = .ok (.iconst 0, 1) := by decide +kernel
theorem dX11_laysParts_35 : decode cX11_laysParts 35 = .ok (.istore_n 2, 1) := by decide +kernel
theorem dX11_laysParts_36 : decode cX11_laysParts 36 = .ok (.iload_n 2, 1) := by decide +kernel
theorem dX11_laysParts_37 : decode cX11_laysParts 37 = .ok (.aload_n 0, 1) := by decide +kernel
theorem dX11_laysParts_38 : decode cX11_laysParts 38 = .ok (.getfield 13, 3) := by decide +kernel
theorem dX11_laysParts_41 : decode cX11_laysParts 41 = .ok (.bipush 37, 2) := by decide +kernel
theorem dX11_laysParts_43 : decode cX11_laysParts 43 = .ok (.iaload, 1) := by decide +kernel
theorem dX11_laysParts_44 : decode cX11_laysParts 44 = .ok (.if_icmp .ge 101, 3) := by decide +kernel
theorem dX11_laysParts_47 : decode cX11_laysParts 47 = .ok (.aload_n 0, 1) := by decide +kernel
theorem dX11_laysParts_48 : decode cX11_laysParts 48 = .ok (.getfield 53, 3) := by decide +kernel
theorem dX11_laysParts_51 : decode cX11_laysParts 51 = .ok (.iload_n 1, 1) := by decide +kernel
theorem dX11_laysParts_52 : decode cX11_laysParts 52 = .ok (.iaload, 1) := by decide +kernel
theorem dX11_laysParts_53 : decode cX11_laysParts 53 = .ok (.aload_n 0, 1) := by decide +kernel
theorem dX11_laysParts_54 : decode cX11_laysParts 54 = .ok (.getfield 53, 3) := by decide +kernel
theorem dX11_laysParts_57 : decode cX11_laysParts 57 = .ok (.bipush 6, 2) := by decide +kernel
theorem dX11_laysParts_59 : decode cX11_laysParts 59 = .ok (.iload_n 2, 1) := by decide +kernel
theorem dX11_laysParts_60 : decode cX11_laysParts 60 = .ok (.iadd, 1) := by decide +kernel
theorem dX11_laysParts_61 : decode cX11_laysParts 61 = .ok (.iaload, 1) := by decide +kernel
theorem dX11_laysParts_62 : decode cX11_laysParts 62 = .ok (.invokestatic 223, 3) := by decide +kernel
theorem dX11_laysParts_65 : decode cX11_laysParts 65 = .ok (.istore_n 3, 1) := by decide +kernel
theorem dX11_laysParts_66 : decode cX11_laysParts 66 = .ok (.aload_n 0, 1) := by decide +kernel
theorem dX11_laysParts_67 : decode cX11_laysParts 67 = .ok (.getfield 53, 3) := by decide +kernel
theorem dX11_laysParts_70 : decode cX11_laysParts 70 = .ok (.iload_n 1, 1) := by decide +kernel
theorem dX11_laysParts_71 : decode cX11_laysParts 71 = .ok (.iaload, 1) := by decide +kernel
theorem dX11_laysParts_72 : decode cX11_laysParts 72 = .ok (.aload_n 0, 1) := by decide +kernel
theorem dX11_laysParts_73 : decode cX11_laysParts 73 = .ok (.getfield 53, 3) := by decide +kernel
theorem dX11_laysParts_76 : decode cX11_laysParts 76 = .ok (.bipush 6, 2) := by decide +kernel
theorem dX11_laysParts_78 : decode cX11_laysParts 78 = .ok (.iload_n 2, 1) := by decide +kernel
theorem dX11_laysParts_79 : decode cX11_laysParts 79 = .ok (.iadd, 1) := by decide +kernel
theorem dX11_laysParts_80 : decode cX11_laysParts 80 = .ok (.iaload, 1) := by decide +kernel
theorem dX11_laysParts_81 : decode cX11_laysParts 81 = .ok (.invokestatic 304, 3) := by decide +kernel
theorem dX11_laysParts_84 : decode cX11_laysParts 84 = .ok (.istore 4, 2) := by decide +kernel
theorem dX11_laysParts_86 : decode cX11_laysParts 86 = .ok (.aload_n 0, 1) := by decide +kernel
theorem dX11_laysParts_87 : decode cX11_laysParts 87 = .ok (.getfield 13, 3) := by decide +kernel
theorem dX11_laysParts_90 : decode cX11_laysParts 90 = .ok (.bipush 6, 2) := by decide +kernel
theorem dX11_laysParts_92 : decode cX11_laysParts 92 = .ok (.iload_n 1, 1) := by decide +kernel
theorem dX11_laysParts_93 : decode cX11_laysParts 93 = .ok (.imul, 1) := by decide +kernel
theorem dX11_laysParts_94 : decode cX11_laysParts 94 = .ok (.iload_n 2, 1) := by decide +kernel
theorem dX11_laysParts_95 : decode cX11_laysParts 95 = .ok (.iadd, 1) := by decide +kernel
theorem dX11_laysParts_96 : decode cX11_laysParts 96 = .ok (.iaload, 1) := by decide +kernel
theorem dX11_laysParts_97 : decode cX11_laysParts 97 = .ok (.ifCond .ne 6, 3) := by decide +kernel
theorem dX11_laysParts_100 : decode cX11_laysParts 100 = .ok (.goto 39, 3) := by decide +kernel
theorem dX11_laysParts_103 : decode cX11_laysParts 103 = .ok (.iconst 0, 1) := by decide +kernel
theorem dX11_laysParts_104 : decode cX11_laysParts 104 = .ok (.istore 5, 2) := by decide +kernel
theorem dX11_laysParts_106 : decode cX11_laysParts 106 = .ok (.iload 5, 2) := by decide +kernel
theorem dX11_laysParts_108 : decode cX11_laysParts 108 = .ok (.bipush 12, 2) := by decide +kernel
theorem dX11_laysParts_110 : decode cX11_laysParts 110 = .ok (.if_icmp .ge 29, 3) := by decide +kernel
theorem dX11_laysParts_113 : decode cX11_laysParts 113 = .ok (.aload_n 0, 1) := by decide +kernel
theorem dX11_laysParts_114 : decode cX11_laysParts 114 = .ok (.getfield 53, 3) := by decide +kernel
theorem dX11_laysParts_117 : decode cX11_laysParts 117 = .ok (.iload 5, 2) := by decide +kernel
theorem dX11_laysParts_119 : decode cX11_laysParts 119 = .ok (.iaload, 1) := by decide +kernel
theorem dX11_laysParts_120 : decode cX11_laysParts 120 = .ok (.iload 4, 2) := by decide +kernel
theorem dX11_laysParts_122 : decode cX11_laysParts 122 = .ok (.if_icmp .ne 11, 3) := by decide +kernel
theorem dX11_laysParts_125 : decode cX11_laysParts 125 = .ok (.aload_n 0, 1) := by decide +kernel
theorem dX11_laysParts_126 : decode cX11_laysParts 126 = .ok (.getfield 53, 3) := by decide +kernel
theorem dX11_laysParts_129 : decode cX11_laysParts 129 = .ok (.iload 5, 2) := by decide +kernel
theorem dX11_laysParts_131 : decode cX11_laysParts 131 = .ok (.iload_n 3, 1) := by decide +kernel
theorem dX11_laysParts_132 : decode cX11_laysParts 132 = .ok (.iastore, 1) := by decide +kernel
theorem dX11_laysParts_133 : decode cX11_laysParts 133 = .ok (.iinc 5 1, 3) := by decide +kernel
theorem dX11_laysParts_136 : decode cX11_laysParts 136 = .ok (.goto (-30), 3) := by decide +kernel
theorem dX11_laysParts_139 : decode cX11_laysParts 139 = .ok (.iinc 2 1, 3) := by decide +kernel
theorem dX11_laysParts_142 : decode cX11_laysParts 142 = .ok (.goto (-106), 3) := by decide +kernel
theorem dX11_laysParts_145 : decode cX11_laysParts 145 = .ok (.iinc 1 1, 3) := by decide +kernel
theorem dX11_laysParts_148 : decode cX11_laysParts 148 = .ok (.goto (-125), 3) := by decide +kernel
theorem dX11_laysParts_151 : decode cX11_laysParts 151 = .ok (.return_, 1) := by decide +kernel
theorem dX11_isThere_0 : decode cX11_isThere 0 = .ok (.iload_n 1, 1) := by decide +kernel
theorem dX11_isThere_1 : decode cX11_isThere 1 = .ok (.bipush 6, 2) := by decide +kernel
theorem dX11_isThere_3 : decode cX11_isThere 3 = .ok (.if_icmp .ge 22, 3) := by decide +kernel
theorem dX11_isThere_6 : decode cX11_isThere 6 = .ok (.iload_n 1, 1) := by decide +kernel
theorem dX11_isThere_7 : decode cX11_isThere 7 = .ok (.aload_n 0, 1) := by decide +kernel
theorem dX11_isThere_8 : decode cX11_isThere 8 = .ok (.getfield 13, 3) := by decide +kernel
theorem dX11_isThere_11 : decode cX11_isThere 11 = .ok (.bipush 36, 2) := by decide +kernel
theorem dX11_isThere_13 : decode cX11_isThere 13 = .ok (.iaload, 1) := by decide +kernel
theorem dX11_isThere_14 : decode cX11_isThere 14 = .ok (.if_icmp .ge 7, 3) := by decide +kernel
theorem dX11_isThere_17 : decode cX11_isThere 17 = .ok (.iconst 1, 1) := by decide +kernel
theorem dX11_isThere_18 : decode cX11_isThere 18 = .ok (.goto 26, 3) := by decide +kernel
theorem dX11_isThere_21 : decode cX11_isThere 21 = .ok (.iconst 0, 1) := by decide +kernel
theorem dX11_isThere_22 : decode cX11_isThere 22 = .ok (.goto 22, 3) := by decide +kernel
theorem dX11_isThere_25 : decode cX11_isThere 25 = .ok (.iload_n 1, 1) := by decide +kernel
theorem dX11_isThere_26 : decode cX11_isThere 26 = .ok (.bipush 6, 2) := by decide +kernel
theorem dX11_isThere_28 : decode cX11_isThere 28 = .ok (.isub, 1) := by decide +kernel
theorem dX11_isThere_29 : decode cX11_isThere 29 = .ok (.aload_n 0, 1) := by decide +kernel
theorem dX11_isThere_30 : decode cX11_isThere 30 = .ok (.getfield 13, 3) := by decide +kernel
theorem dX11_isThere_33 : decode cX11_isThere 33 = .ok (.bipush 37, 2) := by decide +kernel
theorem dX11_isThere_35 : decode cX11_isThere 35 = .ok (.iaload, 1) := by decide +kernel
theorem dX11_isThere_36 : decode cX11_isThere 36 = .ok (.if_icmp .ge 7, 3) := by decide +kernel
theorem dX11_isThere_39 : decode cX11_isThere 39 = .ok (.iconst 1, 1) := by decide +kernel
theorem dX11_isThere_40 : decode cX11_isThere 40 = .ok (.goto 4, 3) := by decide +kernel
theorem dX11_isThere_43 : decode cX11_isThere 43 = .ok (.iconst 0, 1) := by decide +kernel
theorem dX11_isThere_44 : decode cX11_isThere 44 = .ok (.ireturn, 1) := by decide +kernel
theorem dX11_block_0 : decode cX11_block 0 = .ok (.aload_n 0, 1) := by decide +kernel
theorem dX11_block_1 : decode cX11_block 1 = .ok (.iconst 0, 1) := by decide +kernel
theorem dX11_block_2 : decode cX11_block 2 = .ok (.putfield 83, 3) := by decide +kernel
theorem dX11_block_5 : decode cX11_block 5 = .ok (.aload_n 0, 1) := by decide +kernel
theorem dX11_block_6 : decode cX11_block 6 = .ok (.getfield 13, 3) := by decide +kernel
theorem dX11_block_9 : decode cX11_block 9 = .ok (.bipush 36, 2) := by decide +kernel
theorem dX11_block_11 : decode cX11_block 11 = .ok (.iaload, 1) := by decide +kernel
theorem dX11_block_12 : decode cX11_block 12 = .ok (.ifCond .eq 22, 3) := by decide +kernel
theorem dX11_block_15 : decode cX11_block 15 = .ok (.iload_n 1, 1) := by decide +kernel
theorem dX11_block_16 : decode cX11_block 16 = .ok (.iconst (-1), 1) := by decide +kernel
theorem dX11_block_17 : decode cX11_block 17 = .ok (.if_icmp .lt 17, 3) := by decide +kernel
theorem dX11_block_20 : decode cX11_block 20 = .ok (.iload_n 1, 1) := by decide +kernel
theorem dX11_block_21 : decode cX11_block 21 = .ok (.ifCond .lt 15, 3) := by decide +kernel
theorem dX11_block_24 : decode cX11_block 24 = .ok (.iload_n 2, 1) := by decide +kernel
theorem dX11_block_25 : decode cX11_block 25 = .ok (.i2l, 1) := by decide +kernel
theorem dX11_block_26 : decode cX11_block 26 = .ok (.lconst 0, 1) := by decide +kernel
theorem dX11_block_27 : decode cX11_block 27 = .ok (.lconst 1, 1) := by decide +kernel
theorem dX11_block_28 : decode cX11_block 28 = .ok (.invokestatic 140, 3) := by decide +kernel
theorem dX11_block_31 : decode cX11_block 31 = .ok (.ifCond .ne 5, 3) := by decide +kernel
theorem dX11_block_34 : decode cX11_block 34 = .ok (.iconst (-1), 1) := by decide +kernel
theorem dX11_block_35 : decode cX11_block 35 = .ok (.ireturn, 1) := by decide +kernel
theorem dX11_block_36 : decode cX11_block 36 = .ok (.aload_n 0, 1) := by decide +kernel
theorem dX11_block_37 : decode cX11_block 37 = .ok (.invokevirtual 307, 3) := by decide +kernel
theorem dX11_block_40 : decode cX11_block 40 = .ok (.iconst 0, 1) := by decide +kernel
theorem dX11_block_41 : decode cX11_block 41 = .ok (.istore_n 3, 1) := by decide +kernel
theorem dX11_block_42 : decode cX11_block 42 = .ok (.iconst 0, 1) := by decide +kernel
theorem dX11_block_43 : decode cX11_block 43 = .ok (.istore 4, 2) := by decide +kernel
theorem dX11_block_45 : decode cX11_block 45 = .ok (.iload 4, 2) := by decide +kernel
theorem dX11_block_47 : decode cX11_block 47 = .ok (.bipush 12, 2) := by decide +kernel
theorem dX11_block_49 : decode cX11_block 49 = .ok (.if_icmp .ge 107, 3) := by decide +kernel
theorem dX11_block_52 : decode cX11_block 52 = .ok (.aload_n 0, 1) := by decide +kernel
theorem dX11_block_53 : decode cX11_block 53 = .ok (.iload 4, 2) := by decide +kernel
theorem dX11_block_55 : decode cX11_block 55 = .ok (.invokevirtual 310, 3) := by decide +kernel
theorem dX11_block_58 : decode cX11_block 58 = .ok (.ifCond .eq 92, 3) := by decide +kernel
theorem dX11_block_61 : decode cX11_block 61 = .ok (.aload_n 0, 1) := by decide +kernel
theorem dX11_block_62 : decode cX11_block 62 = .ok (.getfield 53, 3) := by decide +kernel
theorem dX11_block_65 : decode cX11_block 65 = .ok (.iload 4, 2) := by decide +kernel
theorem dX11_block_67 : decode cX11_block 67 = .ok (.iaload, 1) := by decide +kernel
theorem dX11_block_68 : decode cX11_block 68 = .ok (.iload 4, 2) := by decide +kernel
theorem dX11_block_70 : decode cX11_block 70 = .ok (.if_icmp .eq 6, 3) := by decide +kernel
theorem dX11_block_73 : decode cX11_block 73 = .ok (.goto 77, 3) := by decide +kernel
theorem dX11_block_76 : decode cX11_block 76 = .ok (.iload_n 3, 1) := by decide +kernel
theorem dX11_block_77 : decode cX11_block 77 = .ok (.iload_n 1, 1) := by decide +kernel
theorem dX11_block_78 : decode cX11_block 78 = .ok (.if_icmp .ne 69, 3) := by decide +kernel
theorem dX11_block_81 : decode cX11_block 81 = .ok (.iconst 0, 1) := by decide +kernel
theorem dX11_block_82 : decode cX11_block 82 = .ok (.istore 5, 2) := by decide +kernel
theorem dX11_block_84 : decode cX11_block 84 = .ok (.iconst 0, 1) := by decide +kernel
theorem dX11_block_85 : decode cX11_block 85 = .ok (.istore 6, 2) := by decide +kernel
theorem dX11_block_87 : decode cX11_block 87 = .ok (.iload 6, 2) := by decide +kernel
theorem dX11_block_89 : decode cX11_block 89 = .ok (.bipush 6, 2) := by decide +kernel
theorem dX11_block_91 : decode cX11_block 91 = .ok (.if_icmp .ge 53, 3) := by decide +kernel
theorem dX11_block_94 : decode cX11_block 94 = .ok (.iload 5, 2) := by decide +kernel
theorem dX11_block_96 : decode cX11_block 96 = .ok (.aload_n 0, 1) := by decide +kernel
theorem dX11_block_97 : decode cX11_block 97 = .ok (.bipush 6, 2) := by decide +kernel
theorem dX11_block_99 : decode cX11_block 99 = .ok (.iload_n 2, 1) := by decide +kernel
theorem dX11_block_100 : decode cX11_block 100 = .ok (.imul, 1) := by decide +kernel
theorem dX11_block_101 : decode cX11_block 101 = .ok (.iload 6, 2) := by decide +kernel
theorem dX11_block_103 : decode cX11_block 103 = .ok (.iadd, 1) := by decide +kernel
theorem dX11_block_104 : decode cX11_block 104 = .ok (.invokevirtual 310, 3) := by decide +kernel
theorem dX11_block_107 : decode cX11_block 107 = .ok (.ifCond .eq 27, 3) := by decide +kernel
theorem dX11_block_110 : decode cX11_block 110 = .ok (.aload_n 0, 1) := by decide +kernel
theorem dX11_block_111 : decode cX11_block 111 = .ok (.getfield 53, 3) := by decide +kernel
theorem dX11_block_114 : decode cX11_block 114 = .ok (.bipush 6, 2) := by decide +kernel
theorem dX11_block_116 : decode cX11_block 116 = .ok (.iload_n 2, 1) := by decide +kernel
theorem dX11_block_117 : decode cX11_block 117 = .ok (.imul, 1) := by decide +kernel
theorem dX11_block_118 : decode cX11_block 118 = .ok (.iload 6, 2) := by decide +kernel
theorem dX11_block_120 : decode cX11_block 120 = .ok (.iadd, 1) := by decide +kernel
theorem dX11_block_121 : decode cX11_block 121 = .ok (.iaload, 1) := by decide +kernel
theorem dX11_block_122 : decode cX11_block 122 = .ok (.iload 4, 2) := by decide +kernel
theorem dX11_block_124 : decode cX11_block 124 = .ok (.if_icmp .ne 10, 3) := by decide +kernel
theorem dX11_block_127 : decode cX11_block 127 = .ok (.iconst 1, 1) := by decide +kernel
theorem dX11_block_128 : decode cX11_block 128 = .ok (.iload 6, 2) := by decide +kernel
theorem dX11_block_130 : decode cX11_block 130 = .ok (.ishl, 1) := by decide +kernel
theorem dX11_block_131 : decode cX11_block 131 = .ok (.goto 4, 3) := by decide +kernel
theorem dX11_block_134 : decode cX11_block 134 = .ok (.iconst 0, 1) := by decide +kernel
theorem dX11_block_135 : decode cX11_block 135 = .ok (.ior, 1) := by decide +kernel
theorem dX11_block_136 : decode cX11_block 136 = .ok (.istore 5, 2) := by decide +kernel
theorem dX11_block_138 : decode cX11_block 138 = .ok (.iinc 6 1, 3) := by decide +kernel
theorem dX11_block_141 : decode cX11_block 141 = .ok (.goto (-54), 3) := by decide +kernel
theorem dX11_block_144 : decode cX11_block 144 = .ok (.iload 5, 2) := by decide +kernel
theorem dX11_block_146 : decode cX11_block 146 = .ok (.ireturn, 1) := by decide +kernel
theorem dX11_block_147 : decode cX11_block 147 = .ok (.iinc 3 1, 3) := by decide +kernel
theorem dX11_block_150 : decode cX11_block 150 = .ok (.iinc 4 1, 3) := by decide +kernel
theorem dX11_block_153 : decode cX11_block 153 = .ok (.goto (-108), 3) := by decide +kernel
theorem dX11_block_156 : decode cX11_block 156 = .ok (.iload_n 1, 1) := by decide +kernel
theorem dX11_block_157 : decode cX11_block 157 = .ok (.iconst (-1), 1) := by decide +kernel
theorem dX11_block_158 : decode cX11_block 158 = .ok (.if_icmp .ne 7, 3) := by decide +kernel
theorem dX11_block_161 : decode cX11_block 161 = .ok (.iload_n 3, 1) := by decide +kernel
theorem dX11_block_162 : decode cX11_block 162 = .ok (.goto 4, 3) := by decide +kernel
theorem dX11_block_165 : decode cX11_block 165 = .ok (.iconst (-1), 1) := by decide +kernel
theorem dX11_block_166 : decode cX11_block 166 = .ok (.ireturn, 1) := by decide +kernel
def there (T : tb) (k : Nat) : Prop := if k < 6 then k < T.1 else k - 6 < T.2.1
/-- the first of its part -/
def ldr (T : tb) (k : Nat) : Prop := there T k ∧ ∀ j, j < k → ¬ rel T k j
/-- labels of parts when the cells ahead of (n, m) have been met -/
def K1 (T : tb) (n m : Nat) (pt : Nat → Nat) : Prop := (∀ k, k < 12 → pt k ≤ k ∧ rel T k (pt k) ∧ pt (pt k) = pt k) ∧ ∀ r c, r < T.1 → c < T.2.1 → (r < n ∨ (r = n ∧ c < m)) → ¬ T.2.2 r c = 0 → pt r = pt (6 + c)
theorem K1_step {T : tb} {n m : Nat} {pt : Nat → Nat} (h6 : T.1 ≤ 6) (h7 : T.2.1 ≤ 6) (hn : n < T.1) (hm : m < T.2.1) (h : K1 T n m pt) (ht : ¬ T.2.2 n m = 0) {a b : Nat} (hab : (a = pt n ∧ b = pt (6 + m) ∧ a ≤ b) ∨ (b = pt n ∧ a = pt (6 + m) ∧ a ≤ b)) : K1 T n (m + 1) (fun k => if pt k = b then a else pt k) := by
  obtain ⟨i1, i2⟩ := h
  have l1 := i1 n (by omega)
  have l2 := i1 (6 + m) (by omega)
  have edge : rel T n (6 + m) := rel.e (by omega) (Or.inl ⟨by omega, by omega, hn, by rw [show 6 + m - 6 = m by omega]; exact hm, by rw [show 6 + m - 6 = m by omega]; exact ht⟩)
  have rab : rel T b a := by
    have q1 : rel T (pt n) (pt (6 + m)) := ((l1.2.1.sy (by omega) (by omega)).tr edge).tr l2.2.1
    rcases hab with ⟨rfl, rfl, -⟩ | ⟨rfl, rfl, -⟩
    · exact q1.sy (by omega) (by omega)
    · exact q1
  have pa : pt a = a := by rcases hab with ⟨rfl, rfl, -⟩ | ⟨rfl, rfl, -⟩; exact l1.2.2; exact l2.2.2
  have hle : a ≤ b := by rcases hab with ⟨-, -, z⟩ | ⟨-, -, z⟩ <;> exact z
  refine ⟨fun k hk => ?_, fun r c hr hc z y => ?_⟩
  · obtain ⟨k1, k2, k3⟩ := i1 k hk
    show (if pt k = b then a else pt k) ≤ k ∧ rel T k (if pt k = b then a else pt k) ∧ (if pt (if pt k = b then a else pt k) = b then a else pt (if pt k = b then a else pt k)) = (if pt k = b then a else pt k)
    by_cases e : pt k = b
    · rw [if_pos e, pa]
      refine ⟨by omega, (e ▸ k2).tr rab, ?_⟩
      split <;> rfl
    · rw [if_neg e, k3, if_neg e]
      exact ⟨k1, k2, rfl⟩
  · show (if pt r = b then a else pt r) = (if pt (6 + c) = b then a else pt (6 + c))
    by_cases q : r = n ∧ c = m
    · obtain ⟨rfl, rfl⟩ := q
      rcases hab with ⟨e1, e2, -⟩ | ⟨e1, e2, -⟩
      · rw [← e1, ← e2, if_pos rfl]; split <;> rfl
      · rw [← e1, ← e2, if_pos rfl]; split <;> rfl
    · rw [i2 r c hr hc (by omega) y]
theorem K1_next {T : tb} {n m : Nat} {pt : Nat → Nat} (h : K1 T n m pt) (ht : T.2.2 n m = 0) : K1 T n (m + 1) pt := ⟨h.1, fun r c hr hc z y => by
  by_cases q : r = n ∧ c = m
  · obtain ⟨rfl, rfl⟩ := q; exact absurd ht y
  · exact h.2 r c hr hc (by omega) y⟩
theorem K1_end {T : tb} {pt : Nat → Nat} (h6 : T.1 ≤ 6) (h7 : T.2.1 ≤ 6) (h : K1 T T.1 0 pt) : (∀ a b, a < 12 → b < 12 → (pt a = pt b ↔ rel T a b)) ∧ ∀ k, k < 12 → (pt k = k ↔ ∀ j, j < k → ¬ rel T k j) := by
  obtain ⟨i1, i2⟩ := h
  have ha : ∀ a b, adj T a b → pt a = pt b := by
    rintro a b (⟨z1, z2, z3⟩ | ⟨z1, z2, z3⟩)
    · have := i2 a (b - 6) z3.1 z3.2.1 (Or.inl z3.1) z3.2.2
      rwa [show 6 + (b - 6) = b by omega] at this
    · have := i2 b (a - 6) z3.1 z3.2.1 (Or.inl z3.1) z3.2.2
      rw [show 6 + (a - 6) = a by omega] at this
      exact this.symm
  have hr : ∀ a n b, rch T a n b → pt a = pt b := by
    intro a n
    induction n with
    | zero => intro b z; have z : b = a := z; rw [z]
    | succ n ih =>
      intro b z
      rcases z with z | ⟨d, d1, d2, d3⟩
      · exact ih b z
      · rw [ih d d2, ha d b d3]
  have e : ∀ a b, a < 12 → b < 12 → (pt a = pt b ↔ rel T a b) := fun a b h1 h2 => by
    refine ⟨fun z => ?_, fun ⟨n, z⟩ => hr a n b z⟩
    have q1 := i1 a h1
    have q2 := i1 b h2
    exact q1.2.1.tr (by rw [z]; exact q2.2.1.sy h2 (by omega))
  refine ⟨e, fun k hk => ⟨fun z j hj y => ?_, fun z => ?_⟩⟩
  · have := (e k j hk (by omega)).mpr y
    have := (i1 j (by omega)).1
    omega
  · have q := i1 k hk
    rcases Nat.lt_or_ge (pt k) k with y | y
    · exact absurd q.2.1 (z _ y)
    · omega
theorem min_n {a b : Nat} (ha : a < 2 ^ 31) (hb : b < 2 ^ 31) : (if nI b < nI a then nI b else nI a) = nI (min a b) := by
  by_cases e : b < a
  · rw [if_pos (nI_lt e ha), show min a b = b by omega]
  · rw [if_neg (nI_nlt (by omega) hb), show min a b = a by omega]
theorem max_n {a b : Nat} (ha : a < 2 ^ 31) (hb : b < 2 ^ 31) : (if nI a < nI b then nI b else nI a) = nI (max a b) := by
  by_cases e : a < b
  · rw [if_pos (nI_lt e hb), show max a b = b by omega]
  · rw [if_neg (nI_nlt (by omega) ha), show max a b = a by omega]
theorem s_laysParts {σ : sg} {x : aW} {α : aS} {ω : sg} (hω : MZ σ ω α) (ok : aOK α) :
    Mt mX11_laysParts 1 0 0 [.ref i_M] (wd ω x) (fun q w => q = none ∧ ∃ τ pt, w = wd τ x ∧ MZ σ τ α ∧ (∀ k, k < 12 → τ.2.2 i_m_part k = nI (pt k)) ∧ K1 (tT α) (tT α).1 0 pt) := by
  refine Mt.of MI_X11_laysParts (Nat.le_of_ble_eq_true rfl) (fun X hC hR hT => ?_)
  have h6 := ok.2.2.1.1
  have h7 := ok.2.2.1.2.1
  have rows : ∀ n, n ≤ (tT α).1 → ∀ τ pt, MZ σ τ α → (∀ k, k < 12 → τ.2.2 i_m_part k = nI (pt k)) → K1 (tT α) n 0 pt → ∀ u2 u3 u4 u5, Rw mX11_laysParts X 23 [some (.ref i_M), some (.int (nI n)), u2, u3, u4, u5] [] (wd τ x) 0 0 := by
    refine up_loop (tT α).1 ?_ ?_
    · intro τ pt hz hp hK u2 u3 u4 u5
      refine R_iload_n (i := 1) hC dX11_laysParts_23 rfl rfl (R_aload_n (i := 0) hC dX11_laysParts_24 rfl rfl (R_gR hC dX11_laysParts_25 fl_X11_13 L_M rfl (R_bipush (v := 36) hC dX11_laysParts_28 (by decide) (R_aI hC dX11_laysParts_30 L_m_now 36 rfl (by decide) (by decide) ?_))))
      refine R_top (y := nI (tT α).1) (hz.R) ?_
      refine R_icmp_ge hC 151 dX11_laysParts_31 (by decide) (fun _ => ?_) (fun h => absurd (Int32.le_refl _) h)
      exact R_vret hC hT dX11_laysParts_151 rfl ⟨rfl, τ, pt, rfl, hz, hp, hK⟩
    · intro n hn ih τ pt hz hp hK u2 u3 u4 u5
      have cols : ∀ m, m ≤ (tT α).2.1 → ∀ τ pt, MZ σ τ α → (∀ k, k < 12 → τ.2.2 i_m_part k = nI (pt k)) → K1 (tT α) n m pt → ∀ u3 u4 u5, Rw mX11_laysParts X 36 [some (.ref i_M), some (.int (nI n)), some (.int (nI m)), u3, u4, u5] [] (wd τ x) 0 0 := by
        refine up_loop (tT α).2.1 ?_ ?_
        · intro τ pt hz hp hK u3 u4 u5
          refine R_iload_n (i := 2) hC dX11_laysParts_36 rfl rfl (R_aload_n (i := 0) hC dX11_laysParts_37 rfl rfl (R_gR hC dX11_laysParts_38 fl_X11_13 L_M rfl (R_bipush (v := 37) hC dX11_laysParts_41 (by decide) (R_aI hC dX11_laysParts_43 L_m_now 37 rfl (by decide) (by decide) ?_))))
          refine R_top (y := nI (tT α).2.1) (hz.C) ?_
          refine R_icmp_ge hC 145 dX11_laysParts_44 (by decide) (fun _ => ?_) (fun h => absurd (Int32.le_refl _) h)
          refine R_iinc hC dX11_laysParts_145 rfl (inc1 _) (by decide) rfl (R_goto hC 23 dX11_laysParts_148 (by decide) ?_)
          exact ih τ pt hz hp ⟨hK.1, fun r c hr hc z y => hK.2 r c hr hc (by omega) y⟩ _ _ _ _
        · intro m hm ihm τ pt hz hp hK u3 u4 u5
          have g1 := hK.1 n (by omega)
          have g2 := hK.1 (6 + m) (by omega)
          have inn : ¬ (tT α).2.2 n m = 0 → ∀ k, k ≤ 12 → ∀ τ, MZ σ τ α → (∀ j, j < 12 → τ.2.2 i_m_part j = nI (if j < k ∧ pt j = max (pt n) (pt (6 + m)) then min (pt n) (pt (6 + m)) else pt j)) → Rw mX11_laysParts X 106 [some (.ref i_M), some (.int (nI n)), some (.int (nI m)), some (.int (nI (min (pt n) (pt (6 + m))))), some (.int (nI (max (pt n) (pt (6 + m))))), some (.int (nI k))] [] (wd τ x) 0 0 := by
            intro ht
            refine up_loop 12 ?_ ?_
            · intro τ hz hp2
              refine R_iload hC dX11_laysParts_106 rfl (R_bipush (v := 12) hC dX11_laysParts_108 (by decide) ?_)
              refine R_icmp_ge hC 139 dX11_laysParts_110 (by decide) (fun _ => ?_) (fun h => absurd (by decide) h)
              refine R_iinc hC dX11_laysParts_139 rfl (inc1 _) (by decide) rfl (R_goto hC 36 dX11_laysParts_142 (by decide) ?_)
              exact ihm τ (fun k => if pt k = max (pt n) (pt (6 + m)) then min (pt n) (pt (6 + m)) else pt k) hz (fun k hk => by
              rw [hp2 k hk]
              by_cases e : pt k = max (pt n) (pt (6 + m))
              · rw [if_pos ⟨hk, e⟩]; show _ = nI (if _ then _ else _); rw [if_pos e]
              · rw [if_neg (fun z => e z.2)]; show _ = nI (if _ then _ else _); rw [if_neg e]) (K1_step h6 h7 hn hm hK ht (by omega)) _ _ _
            · intro k hk ihk τ hz hp2
              have g3 := hK.1 k hk
              have em : (nI (pt k) = nI (max (pt n) (pt (6 + m)))) ↔ pt k = max (pt n) (pt (6 + m)) := nI_eq (by omega) (by omega)
              refine R_iload hC dX11_laysParts_106 rfl (R_bipush (v := 12) hC dX11_laysParts_108 (by decide) ?_)
              refine R_icmp_ge hC 139 dX11_laysParts_110 (by decide) (fun h => absurd h (nI_ge (b := 12) hk (by decide))) (fun _ => ?_)
              refine R_aload_n (i := 0) hC dX11_laysParts_113 rfl rfl (R_gR hC dX11_laysParts_114 fl_X11_53 L_M rfl (R_iload hC dX11_laysParts_117 rfl (R_aI hC dX11_laysParts_119 L_m_part _ rfl (by omega) (by decide) ?_)))
              refine R_top (y := nI (pt k)) (by rw [hp2 k hk, if_neg (by omega)]) ?_
              refine R_iload hC dX11_laysParts_120 rfl ?_
              refine R_icmp_ne hC 133 dX11_laysParts_122 (by decide) (fun h122 => ?_) (fun h122 => ?_)
              · refine R_iinc hC dX11_laysParts_133 rfl (inc1 _) (by decide) rfl (R_goto hC 106 dX11_laysParts_136 (by decide) ?_)
                first
                | (have h123 := em.mp h122
                   refine ihk _ (hz.a (by decide) (by decide)) (fun j hj => ?_)
                   by_cases e : j = k
                   · rw [sA_eq, upd, if_pos e, if_pos ⟨by omega, by rw [e]; exact h123⟩]
                   · rw [sA_eq, upd, if_neg e, hp2 j hj]
                     by_cases e2 : j < k ∧ pt j = max (pt n) (pt (6 + m))
                     · rw [if_pos e2, if_pos ⟨by omega, e2.2⟩]
                     · rw [if_neg e2, if_neg (fun z => e2 ⟨by omega, z.2⟩)])
                | (have h123 := fun z => h122 (em.mpr z)
                   refine ihk _ hz (fun j hj => ?_)
                   rw [hp2 j hj]
                   by_cases e2 : j < k ∧ pt j = max (pt n) (pt (6 + m))
                   · rw [if_pos e2, if_pos ⟨by omega, e2.2⟩]
                   · rw [if_neg e2, if_neg (fun z => by
                       by_cases e : j = k
                       · rw [e] at z; exact h123 z.2
                       · exact e2 ⟨by omega, z.2⟩)])
              · refine R_aload_n (i := 0) hC dX11_laysParts_125 rfl rfl (R_gR hC dX11_laysParts_126 fl_X11_53 L_M rfl (R_iload hC dX11_laysParts_129 rfl (R_iload_n (i := 3) hC dX11_laysParts_131 rfl rfl (R_sI hC dX11_laysParts_132 L_m_part _ rfl (by omega) (by decide) (R_iinc hC dX11_laysParts_133 rfl (inc1 _) (by decide) rfl (R_goto hC 106 dX11_laysParts_136 (by decide) ?_))))))
                first
                | (have h123 := em.mp h122
                   refine ihk _ (hz.a (by decide) (by decide)) (fun j hj => ?_)
                   by_cases e : j = k
                   · rw [sA_eq, upd, if_pos e, if_pos ⟨by omega, by rw [e]; exact h123⟩]
                   · rw [sA_eq, upd, if_neg e, hp2 j hj]
                     by_cases e2 : j < k ∧ pt j = max (pt n) (pt (6 + m))
                     · rw [if_pos e2, if_pos ⟨by omega, e2.2⟩]
                     · rw [if_neg e2, if_neg (fun z => e2 ⟨by omega, z.2⟩)])
                | (have h123 := fun z => h122 (em.mpr z)
                   refine ihk _ hz (fun j hj => ?_)
                   rw [hp2 j hj]
                   by_cases e2 : j < k ∧ pt j = max (pt n) (pt (6 + m))
                   · rw [if_pos e2, if_pos ⟨by omega, e2.2⟩]
                   · rw [if_neg e2, if_neg (fun z => by
                       by_cases e : j = k
                       · rw [e] at z; exact h123 z.2
                       · exact e2 ⟨by omega, z.2⟩)])
          refine R_iload_n (i := 2) hC dX11_laysParts_36 rfl rfl (R_aload_n (i := 0) hC dX11_laysParts_37 rfl rfl (R_gR hC dX11_laysParts_38 fl_X11_13 L_M rfl (R_bipush (v := 37) hC dX11_laysParts_41 (by decide) (R_aI hC dX11_laysParts_43 L_m_now 37 rfl (by decide) (by decide) ?_))))
          refine R_top (y := nI (tT α).2.1) (hz.C) ?_
          refine R_icmp_ge hC 145 dX11_laysParts_44 (by decide) (fun h => absurd h (nI_ge hm (by omega))) (fun _ => ?_)
          refine R_aload_n (i := 0) hC dX11_laysParts_47 rfl rfl (R_gR hC dX11_laysParts_48 fl_X11_53 L_M rfl (R_iload_n (i := 1) hC dX11_laysParts_51 rfl rfl (R_aI hC dX11_laysParts_52 L_m_part _ rfl (by omega) (by decide) ?_)))
          refine R_top (y := nI (pt n)) (hp n (by omega)) ?_
          refine R_aload_n (i := 0) hC dX11_laysParts_53 rfl rfl (R_gR hC dX11_laysParts_54 fl_X11_53 L_M rfl (R_bipush (v := 6) hC dX11_laysParts_57 (by decide) (R_iload_n (i := 2) hC dX11_laysParts_59 rfl rfl (R_iadd hC dX11_laysParts_60 (R_aI hC dX11_laysParts_61 L_m_part (6 + m) (nI_add 6 m) (by omega) (by decide) ?_)))))
          refine R_top (y := nI (pt (6 + m))) (hp (6 + m) (by omega)) ?_
          refine R_min hC hR dX11_laysParts_62 kl_X11_223 (by decide) ⟨by decide, by decide⟩ (Nat.le_of_ble_eq_true rfl) ?_
          refine R_top (y := nI (min (pt n) (pt (6 + m)))) (min_n (by omega) (by omega)) ?_
          refine R_istore_n (i := 3) hC dX11_laysParts_65 rfl (by decide) rfl (R_aload_n (i := 0) hC dX11_laysParts_66 rfl rfl (R_gR hC dX11_laysParts_67 fl_X11_53 L_M rfl (R_iload_n (i := 1) hC dX11_laysParts_70 rfl rfl (R_aI hC dX11_laysParts_71 L_m_part _ rfl (by omega) (by decide) ?_))))
          refine R_top (y := nI (pt n)) (hp n (by omega)) ?_
          refine R_aload_n (i := 0) hC dX11_laysParts_72 rfl rfl (R_gR hC dX11_laysParts_73 fl_X11_53 L_M rfl (R_bipush (v := 6) hC dX11_laysParts_76 (by decide) (R_iload_n (i := 2) hC dX11_laysParts_78 rfl rfl (R_iadd hC dX11_laysParts_79 (R_aI hC dX11_laysParts_80 L_m_part (6 + m) (nI_add 6 m) (by omega) (by decide) ?_)))))
          refine R_top (y := nI (pt (6 + m))) (hp (6 + m) (by omega)) ?_
          refine R_max hC hR dX11_laysParts_81 kl_X11_304 (by decide) ⟨by decide, by decide⟩ (Nat.le_of_ble_eq_true rfl) ?_
          refine R_top (y := nI (max (pt n) (pt (6 + m)))) (max_n (by omega) (by omega)) ?_
          refine R_istore hC dX11_laysParts_84 (by decide) rfl (R_aload_n (i := 0) hC dX11_laysParts_86 rfl rfl (R_gR hC dX11_laysParts_87 fl_X11_13 L_M rfl (R_bipush (v := 6) hC dX11_laysParts_90 (by decide) (R_iload_n (i := 1) hC dX11_laysParts_92 rfl rfl (R_imul hC dX11_laysParts_93 (R_iload_n (i := 2) hC dX11_laysParts_94 rfl rfl (R_iadd hC dX11_laysParts_95 ?_)))))))
          refine R_aI hC dX11_laysParts_96 L_m_now (6 * n + m) (n6 n m) (by omega) (by decide) ?_
          refine R_top (y := (tT α).2.2 n m) (hz.e hn hm) ?_
          refine R_if_ne hC 103 dX11_laysParts_97 (by decide) (fun h97 => ?_) (fun h97 => ?_)
          · refine R_iconst (v := 0) hC dX11_laysParts_103 (by decide) (R_istore hC dX11_laysParts_104 (by decide) rfl ?_)
            exact inn h97 0 (Nat.zero_le _) τ hz (fun j hj => by rw [if_neg (fun z => Nat.not_lt_zero _ z.1)]; exact hp j hj)
          · refine R_goto hC 139 dX11_laysParts_100 (by decide) (R_iinc hC dX11_laysParts_139 rfl (inc1 _) (by decide) rfl (R_goto hC 36 dX11_laysParts_142 (by decide) ?_))
            exact ihm τ pt hz hp (K1_next hK h97) _ _ _
      refine R_iload_n (i := 1) hC dX11_laysParts_23 rfl rfl (R_aload_n (i := 0) hC dX11_laysParts_24 rfl rfl (R_gR hC dX11_laysParts_25 fl_X11_13 L_M rfl (R_bipush (v := 36) hC dX11_laysParts_28 (by decide) (R_aI hC dX11_laysParts_30 L_m_now 36 rfl (by decide) (by decide) ?_))))
      refine R_top (y := nI (tT α).1) (hz.R) ?_
      refine R_icmp_ge hC 151 dX11_laysParts_31 (by decide) (fun h => absurd h (nI_ge hn (by omega))) (fun _ => ?_)
      refine R_iconst (v := 0) hC dX11_laysParts_34 (by decide) (R_istore_n (i := 2) hC dX11_laysParts_35 rfl (by decide) rfl ?_)
      exact cols 0 (Nat.zero_le _) τ pt hz hp hK _ _ _
  have init : ∀ n, n ≤ 12 → ∀ τ, MZ σ τ α → (∀ k, k < n → τ.2.2 i_m_part k = nI k) → ∀ u2 u3 u4 u5, Rw mX11_laysParts X 2 [some (.ref i_M), some (.int (nI n)), u2, u3, u4, u5] [] (wd τ x) 0 0 := by
    refine up_loop 12 ?_ ?_
    · intro τ hz hp u2 u3 u4 u5
      refine R_iload_n (i := 1) hC dX11_laysParts_2 rfl rfl (R_bipush (v := 12) hC dX11_laysParts_3 (by decide) ?_)
      refine R_icmp_ge hC 21 dX11_laysParts_5 (by decide) (fun _ => ?_) (fun h => absurd (by decide) h)
      refine R_iconst (v := 0) hC dX11_laysParts_21 (by decide) (R_istore_n (i := 1) hC dX11_laysParts_22 rfl (by decide) rfl ?_)
      exact rows 0 (Nat.zero_le _) τ id hz hp ⟨fun k hk => ⟨Nat.le_refl _, rel.rf _ _, rfl⟩, fun r c _ _ z => by omega⟩ _ _ _ _
    · intro n hn ih τ hz hp u2 u3 u4 u5
      refine R_iload_n (i := 1) hC dX11_laysParts_2 rfl rfl (R_bipush (v := 12) hC dX11_laysParts_3 (by decide) ?_)
      refine R_icmp_ge hC 21 dX11_laysParts_5 (by decide) (fun h => absurd h (nI_ge (b := 12) hn (by decide))) (fun _ => ?_)
      refine R_aload_n (i := 0) hC dX11_laysParts_8 rfl rfl (R_gR hC dX11_laysParts_9 fl_X11_53 L_M rfl (R_iload_n (i := 1) hC dX11_laysParts_12 rfl rfl (R_iload_n (i := 1) hC dX11_laysParts_13 rfl rfl (R_sI hC dX11_laysParts_14 L_m_part _ rfl (by omega) (by decide) (R_iinc hC dX11_laysParts_15 rfl (inc1 _) (by decide) rfl (R_goto hC 2 dX11_laysParts_18 (by decide) ?_))))))
      exact ih _ (hz.a (by decide) (by decide)) (fun k hk => by
      by_cases e : k = n
      · rw [sA_eq, upd, if_pos e, e]
      · rw [sA_eq, upd, if_neg e]; exact hp k (by omega)) _ _ _ _
  refine R_iconst (v := 0) hC dX11_laysParts_0 (by decide) (R_istore_n (i := 1) hC dX11_laysParts_1 rfl (by decide) rfl ?_)
  exact init 0 (Nat.zero_le _) _ hω (fun k hk => absurd hk (Nat.not_lt_zero _)) _ _ _ _
theorem s_isThere (σ : sg) (x : aW) (T : tb) (hT0 : TB (σ.2.2 i_m_now) T) (k : Nat) (hk : k < 12) : Mt mX11_isThere 0 0 0 [.ref i_M, .int (nI k)] (wd σ x) (QI (b2i (there T k)) (wd σ x)) := by
  refine Mt.of MI_X11_isThere (Nat.le_of_ble_eq_true rfl) (fun X hC hR hT => ?_)
  obtain ⟨hR1, hC1, hR6, hC6, hE⟩ := id hT0
  have e6 : ((6 : Int32) ≤ nI k) ↔ 6 ≤ k := nI_leI (a := 6) (by decide) (by omega)
  have e1 : (nI T.1 ≤ nI k) ↔ T.1 ≤ k := nI_leI (by omega) (by omega)
  have e2 : (nI T.2.1 ≤ nI (k - 6)) ↔ T.2.1 ≤ k - 6 := nI_leI (by omega) (by omega)
  have un : there T k ↔ (k < 6 ∧ k < T.1) ∨ (6 ≤ k ∧ k - 6 < T.2.1) := by unfold there; split <;> omega
  refine R_iload_n (i := 1) hC dX11_isThere_0 rfl rfl (R_bipush (v := 6) hC dX11_isThere_1 (by decide) ?_)
  refine R_icmp_ge hC 25 dX11_isThere_3 (by decide) (fun h3 => ?_) (fun h3 => ?_)
  · refine R_iload_n (i := 1) hC dX11_isThere_25 rfl rfl (R_bipush (v := 6) hC dX11_isThere_26 (by decide) (R_isub hC dX11_isThere_28 ?_))
    have k6 := e6.mp h3
    refine R_top (y := nI (k - 6)) (nI_sub (b := 6) k6) ?_
    refine R_aload_n (i := 0) hC dX11_isThere_29 rfl rfl (R_gR hC dX11_isThere_30 fl_X11_13 L_M rfl (R_bipush (v := 37) hC dX11_isThere_33 (by decide) (R_aI hC dX11_isThere_35 L_m_now 37 rfl (by decide) (by decide) ?_)))
    refine R_top (y := nI T.2.1) (hC1) ?_
    refine R_icmp_ge hC 43 dX11_isThere_36 (by decide) (fun h36 => ?_) (fun h36 => ?_)
    · refine R_iconst (v := 0) hC dX11_isThere_43 (by decide) ?_
      exact R_zret hC hT dX11_isThere_44 rfl (by decide) ⟨by
      first
      | (have h37 := e2.mp h36; rw [b2i_f (fun z => by have := un.mp z; omega)]; done)
      | (have h37 := mt e2.mpr h36; rw [b2i_t (un.mpr (by omega))]; done)
      | (have h15 := e1.mp h14; have h4 := mt e6.mpr h3; rw [b2i_f (fun z => by have := un.mp z; omega)]; done)
      | (have h15 := mt e1.mpr h14; have h4 := mt e6.mpr h3; rw [b2i_t (un.mpr (by omega))]; done), rfl⟩
    · refine R_iconst (v := 1) hC dX11_isThere_39 (by decide) (R_goto hC 44 dX11_isThere_40 (by decide) ?_)
      exact R_zret hC hT dX11_isThere_44 rfl (by decide) ⟨by
      first
      | (have h37 := e2.mp h36; rw [b2i_f (fun z => by have := un.mp z; omega)]; done)
      | (have h37 := mt e2.mpr h36; rw [b2i_t (un.mpr (by omega))]; done)
      | (have h15 := e1.mp h14; have h4 := mt e6.mpr h3; rw [b2i_f (fun z => by have := un.mp z; omega)]; done)
      | (have h15 := mt e1.mpr h14; have h4 := mt e6.mpr h3; rw [b2i_t (un.mpr (by omega))]; done), rfl⟩
  · refine R_iload_n (i := 1) hC dX11_isThere_6 rfl rfl (R_aload_n (i := 0) hC dX11_isThere_7 rfl rfl (R_gR hC dX11_isThere_8 fl_X11_13 L_M rfl (R_bipush (v := 36) hC dX11_isThere_11 (by decide) (R_aI hC dX11_isThere_13 L_m_now 36 rfl (by decide) (by decide) ?_))))
    refine R_top (y := nI T.1) (hR1) ?_
    refine R_icmp_ge hC 21 dX11_isThere_14 (by decide) (fun h14 => ?_) (fun h14 => ?_)
    · refine R_iconst (v := 0) hC dX11_isThere_21 (by decide) (R_goto hC 44 dX11_isThere_22 (by decide) ?_)
      exact R_zret hC hT dX11_isThere_44 rfl (by decide) ⟨by
      first
      | (have h37 := e2.mp h36; rw [b2i_f (fun z => by have := un.mp z; omega)]; done)
      | (have h37 := mt e2.mpr h36; rw [b2i_t (un.mpr (by omega))]; done)
      | (have h15 := e1.mp h14; have h4 := mt e6.mpr h3; rw [b2i_f (fun z => by have := un.mp z; omega)]; done)
      | (have h15 := mt e1.mpr h14; have h4 := mt e6.mpr h3; rw [b2i_t (un.mpr (by omega))]; done), rfl⟩
    · refine R_iconst (v := 1) hC dX11_isThere_17 (by decide) (R_goto hC 44 dX11_isThere_18 (by decide) ?_)
      exact R_zret hC hT dX11_isThere_44 rfl (by decide) ⟨by
      first
      | (have h37 := e2.mp h36; rw [b2i_f (fun z => by have := un.mp z; omega)]; done)
      | (have h37 := mt e2.mpr h36; rw [b2i_t (un.mpr (by omega))]; done)
      | (have h15 := e1.mp h14; have h4 := mt e6.mpr h3; rw [b2i_f (fun z => by have := un.mp z; omega)]; done)
      | (have h15 := mt e1.mpr h14; have h4 := mt e6.mpr h3; rw [b2i_t (un.mpr (by omega))]; done), rfl⟩
/-- rows (w = 0) or columns of k's part -/
noncomputable def bmask (T : tb) (k w : Nat) : Nat → Nat
  | 0 => 0
  | q + 1 => by classical exact (bmask T k w q ||| (if (there T (6 * w + q) ∧ rel T (6 * w + q) k) then 2 ^ q else 0))
theorem bmask_lt (T : tb) (k w : Nat) : ∀ n, bmask T k w n < 2 ^ n
  | 0 => by show (0 : Nat) < 1; decide
  | n + 1 => by
    rw [bmask]
    refine Nat.or_lt_two_pow (Nat.lt_trans (bmask_lt T k w n) (Nat.pow_lt_pow_right (by decide) (by omega))) ?_
    split
    · exact Nat.pow_lt_pow_right (by decide) (by omega)
    · exact Nat.two_pow_pos _
/-- the i-th part -/
def ith (T : tb) (i k : Nat) : Prop := k < 12 ∧ ldr T k ∧ cnO (ldr T) k = i
theorem ith_u {T : tb} {i j k : Nat} (h : ith T i j) (q : ith T i k) : j = k := by
  have mono : ∀ a b, a < b → ldr T a → cnO (ldr T) a < cnO (ldr T) b := by
    intro a b hab ha
    have h1 : cnO (ldr T) (a + 1) ≤ cnO (ldr T) b := by
      obtain ⟨d, rfl⟩ : ∃ d, b = a + 1 + d := ⟨b - (a + 1), by omega⟩
      clear hab
      induction d with
      | zero => exact Nat.le_refl _
      | succ d ih =>
        rw [← Nat.add_assoc]
        by_cases e : ldr T (a + 1 + d)
        · rw [cnO_y e]; omega
        · rw [cnO_n e]; exact ih
    rw [cnO_y ha] at h1
    omega
  rcases Nat.lt_trichotomy j k with z | z | z
  · have := mono j k z h.2.1; have := h.2.2; have := q.2.2; omega
  · exact z
  · have := mono k j z q.2.1; have := h.2.2; have := q.2.2; omega
noncomputable def opBlock (α : aS) (i w : Int32) : Int32 := by classical exact
  (if ((tT α).1 = 0 ∨ i.toInt < -1 ∨ (0 ≤ i.toInt ∧ ¬ (0 ≤ w.toInt ∧ w.toInt ≤ 1))) then -1 else if i = -1 then nI (cnO (ldr (tT α)) 12) else if h : ∃ k, ith (tT α) i.toNatClampNeg k then nI (bmask (tT α) (Classical.choose h) w.toNatClampNeg 6) else -1)
theorem mo_block {σ : sg} {x : aW} {α : aS} (h : MInv σ α) (ok : aOK α) (i w : Int32) : Mt mX11_block 2 0 0 [.ref i_M, .int i, .int w] (wd σ x) (MPost σ x (opBlock α i w) α) := by
  refine Mt.of MI_X11_block (Nat.le_of_ble_eq_true rfl) (fun X hC hR hT => ?_)
  have hω := MZ.of h
  have h6 := ok.2.2.1.1
  have h7 := ok.2.2.1.2.1
  have t1 : (-1 : Int32).toInt = -1 := by decide
  have loop : ¬ ((tT α).1 = 0 ∨ i.toInt < -1 ∨ (0 ≤ i.toInt ∧ ¬ (0 ≤ w.toInt ∧ w.toInt ≤ 1))) → ∀ τ pt, MZ σ τ α → (∀ k, k < 12 → τ.2.2 i_m_part k = nI (pt k)) → K1 (tT α) (tT α).1 0 pt → ∀ k, k ≤ 12 → (∀ j, ith (tT α) i.toNatClampNeg j → i = -1 ∨ k ≤ j) → ∀ u5 u6, Rw mX11_block X 45 [some (.ref i_M), some (.int i), some (.int w), some (.int (nI (cnO (ldr (tT α)) k))), some (.int (nI k)), u5, u6] [] (wd τ x) 0 0 := by
    intro hok τ pt hz hp hK
    obtain ⟨E1, E2⟩ := K1_end h6 h7 hK
    refine up_loop 12 ?_ ?_
    · intro hb u5 u6
      refine R_iload hC dX11_block_45 rfl (R_bipush (v := 12) hC dX11_block_47 (by decide) ?_)
      refine R_icmp_ge hC 156 dX11_block_49 (by decide) (fun _ => ?_) (fun h => absurd (by decide) h)
      refine R_iload_n (i := 1) hC dX11_block_156 rfl rfl (R_iconst (v := (-1)) hC dX11_block_157 (by decide) ?_)
      refine R_icmp_ne hC 165 dX11_block_158 (by decide) (fun h158 => ?_) (fun h158 => ?_)
      · refine R_iconst (v := (-1)) hC dX11_block_165 (by decide) ?_
        exact R_iret hC hT dX11_block_166 rfl (by
        have ev : opBlock α i w = (if i = -1 then nI (cnO (ldr (tT α)) 12) else -1) := by
          unfold opBlock
          rw [if_neg hok]
          by_cases e : i = -1
          · rw [if_pos e, if_pos e]
          · rw [if_neg e, if_neg e, dif_neg (fun ⟨k, q⟩ => by rcases hb k q with z | z; exact e z; have := q.1; omega)]
        rw [ev]
        first
        | (have h159 : i = -1 := h158; rw [if_pos h159]; exact hz.p)
        | (have h159 : ¬ i = -1 := h158; rw [if_neg h159]; exact hz.p))
      · refine R_iload_n (i := 3) hC dX11_block_161 rfl rfl (R_goto hC 166 dX11_block_162 (by decide) ?_)
        exact R_iret hC hT dX11_block_166 rfl (by
        have ev : opBlock α i w = (if i = -1 then nI (cnO (ldr (tT α)) 12) else -1) := by
          unfold opBlock
          rw [if_neg hok]
          by_cases e : i = -1
          · rw [if_pos e, if_pos e]
          · rw [if_neg e, if_neg e, dif_neg (fun ⟨k, q⟩ => by rcases hb k q with z | z; exact e z; have := q.1; omega)]
        rw [ev]
        first
        | (have h159 : i = -1 := h158; rw [if_pos h159]; exact hz.p)
        | (have h159 : ¬ i = -1 := h158; rw [if_neg h159]; exact hz.p))
    · intro k hk ih hb u5 u6
      have gk := hK.1 k hk
      have ek : (nI (pt k) = nI k) ↔ pt k = k := nI_eq (by omega) (by omega)
      have cl := cnO_le (p := ldr (tT α)) k
      have skp : ¬ ldr (tT α) k → Rw mX11_block X 150 [some (.ref i_M), some (.int i), some (.int w), some (.int (nI (cnO (ldr (tT α)) k))), some (.int (nI k)), u5, u6] [] (wd τ x) 0 0 := by
        intro z
        rw [cnO_n z] at ih
        refine R_iinc hC dX11_block_150 rfl (inc1 _) (by decide) rfl (R_goto hC 45 dX11_block_153 (by decide) ?_)
        exact ih (fun j q => (hb j q).elim Or.inl (fun y => Or.inr (by rcases (by omega : k + 1 ≤ j ∨ j = k) with s | rfl; exact s; exact absurd q.2.1 z))) _ _
      have fin2 : ldr (tT α) k → ¬ nI (cnO (ldr (tT α)) k) = i → Rw mX11_block X 150 [some (.ref i_M), some (.int i), some (.int w), some (.int (nI (cnO (ldr (tT α)) k + 1))), some (.int (nI k)), u5, u6] [] (wd τ x) 0 0 := by
        intro hl h78
        rw [cnO_y hl] at ih
        refine R_iinc hC dX11_block_150 rfl (inc1 _) (by decide) rfl (R_goto hC 45 dX11_block_153 (by decide) ?_)
        exact ih (fun j q => (hb j q).elim Or.inl (fun y => by
        rcases (by omega : k + 1 ≤ j ∨ j = k) with s | rfl
        · exact Or.inr s
        · left
          refine Classical.byContradiction fun z => h78 ?_
          have i0 : 0 ≤ i.toInt := by
            have : ¬ i.toInt < -1 := fun y => hok (Or.inr (Or.inl y))
            have : ¬ i.toInt = -1 := fun y => z (Int32.toInt_inj.mp (by rw [y, t1]))
            omega
          obtain ⟨I, rfl, hI, hI2⟩ := i32_nI i0
          rw [q.2.2, nI_clamp hI2])) _ _
      -- the bits
      have bits : ldr (tT α) k → nI (cnO (ldr (tT α)) k) = i → ∀ q, q ≤ 6 → Rw mX11_block X 87 [some (.ref i_M), some (.int i), some (.int w), some (.int (nI (cnO (ldr (tT α)) k))), some (.int (nI k)), some (.int (nI (bmask (tT α) k w.toNatClampNeg q))), some (.int (nI q))] [] (wd τ x) 0 0 := by
        intro hl hc
        have i0 : 0 ≤ i.toInt := by rw [← hc, nI_toInt (by omega)]; omega
        have ic : i.toNatClampNeg = cnO (ldr (tT α)) k := by rw [← hc, nI_clamp (by omega)]
        have hw : 0 ≤ w.toInt ∧ w.toInt ≤ 1 := Classical.byContradiction fun z => hok (Or.inr (Or.inr ⟨i0, z⟩))
        obtain ⟨W, rfl, hW, hW2⟩ := i32_nI hw.1
        rw [nI_clamp hW2]
        have hith : ith (tT α) i.toNatClampNeg k := ⟨hk, hl, ic.symm⟩
        have ev : opBlock α i (nI W) = nI (bmask (tT α) k W 6) := by
          unfold opBlock
          rw [if_neg hok, if_neg (fun z => by rw [z, t1] at i0; omega), dif_pos ⟨k, hith⟩, ith_u (Classical.choose_spec (⟨k, hith⟩ : ∃ k, ith (tT α) i.toNatClampNeg k)) hith, nI_clamp hW2]
        refine up_loop 6 ?_ ?_
        · refine R_iload hC dX11_block_87 rfl (R_bipush (v := 6) hC dX11_block_89 (by decide) ?_)
          refine R_icmp_ge hC 144 dX11_block_91 (by decide) (fun _ => ?_) (fun h => absurd (by decide) h)
          refine R_iload hC dX11_block_144 rfl ?_
          exact R_iret hC hT dX11_block_146 rfl (by rw [ev]; exact hz.p)
        · intro q hq ihq
          have lt1 := bmask_lt (tT α) k W q
          have lt2 := pw6 (n := q) (by omega)
          have lt3 : 2 ^ q < 64 := Nat.lt_of_lt_of_le (Nat.pow_lt_pow_right (by decide) hq) (by decide)
          have gq := hK.1 (6 * W + q) (by omega)
          have eq1 : (nI (pt (6 * W + q)) = nI k) ↔ pt (6 * W + q) = k := nI_eq (by omega) (by omega)
          have pk := (E2 k hk).mpr hl.2
          have nx : ∀ b, b < 64 → (∀ (_ : Decidable (there (tT α) (6 * W + q) ∧ rel (tT α) (6 * W + q) k)), (if (there (tT α) (6 * W + q) ∧ rel (tT α) (6 * W + q) k) then 2 ^ q else 0) = b) → Rw mX11_block X 135 [some (.ref i_M), some (.int i), some (.int (nI W)), some (.int (nI (cnO (ldr (tT α)) k))), some (.int (nI k)), some (.int (nI (bmask (tT α) k W q))), some (.int (nI q))] [.int (nI b), .int (nI (bmask (tT α) k W q))] (wd τ x) 0 0 := by
            intro b hb2 hb
            rw [bmask, hb] at ihq
            refine R_ior hC dX11_block_135 ?_
            refine R_top (y := nI (bmask (tT α) k W q ||| b)) (nI_or _ (by omega) _ hb2) ?_
            refine R_istore hC dX11_block_136 (by decide) rfl (R_iinc hC dX11_block_138 rfl (inc1 _) (by decide) rfl (R_goto hC 87 dX11_block_141 (by decide) ?_))
            exact ihq
          refine R_iload hC dX11_block_87 rfl (R_bipush (v := 6) hC dX11_block_89 (by decide) ?_)
          refine R_icmp_ge hC 144 dX11_block_91 (by decide) (fun h => absurd h (nI_ge (b := 6) hq (by decide))) (fun _ => ?_)
          refine R_iload hC dX11_block_94 rfl (R_aload_n (i := 0) hC dX11_block_96 rfl rfl (R_bipush (v := 6) hC dX11_block_97 (by decide) (R_iload_n (i := 2) hC dX11_block_99 rfl rfl (R_imul hC dX11_block_100 (R_iload hC dX11_block_101 rfl (R_iadd hC dX11_block_103 ?_))))))
          refine R_top (y := nI (6 * W + q)) (n6 W q) ?_
          refine R_V1i hC hR dX11_block_104 MV_X11_isThere ml_X11_310 L_M rfl (s_isThere τ x (tT α) (hz.T ok) (6 * W + q) (by omega)) (by decide) ⟨by decide, by decide⟩ (Nat.le_of_ble_eq_true rfl) ?_
          refine R_if_eq hC 134 dX11_block_107 (by decide) (fun h107 => ?_) (fun h107 => ?_)
          · refine R_iconst (v := 0) hC dX11_block_134 (by decide) ?_
            first
            | (have h125 : pt (6 * W + q) = k := eq1.mp h124
               refine R_top (shl1 q (by omega)) ?_
               exact nx _ lt3 (fun _ => if_pos ⟨b2i_ne h107, (E1 _ _ (by omega) hk).mp (by rw [h125, pk])⟩))
            | (have h125 : ¬ pt (6 * W + q) = k := fun z => h124 (eq1.mpr z)
               exact nx 0 (by decide) (fun _ => if_neg (fun z => h125 (by rw [(E1 _ _ (by omega) hk).mpr z.2, pk]))))
            | exact nx 0 (by decide) (fun _ => if_neg (fun z => b2i_0 h107 z.1))
          · refine R_aload_n (i := 0) hC dX11_block_110 rfl rfl (R_gR hC dX11_block_111 fl_X11_53 L_M rfl (R_bipush (v := 6) hC dX11_block_114 (by decide) (R_iload_n (i := 2) hC dX11_block_116 rfl rfl (R_imul hC dX11_block_117 (R_iload hC dX11_block_118 rfl (R_iadd hC dX11_block_120 (R_aI hC dX11_block_121 L_m_part (6 * W + q) (n6 W q) (by omega) (by decide) ?_)))))))
            refine R_top (y := nI (pt (6 * W + q))) (hp _ (by omega)) ?_
            refine R_iload hC dX11_block_122 rfl ?_
            refine R_icmp_ne hC 134 dX11_block_124 (by decide) (fun h124 => ?_) (fun h124 => ?_)
            · refine R_iconst (v := 0) hC dX11_block_134 (by decide) ?_
              first
              | (have h125 : pt (6 * W + q) = k := eq1.mp h124
                 refine R_top (shl1 q (by omega)) ?_
                 exact nx _ lt3 (fun _ => if_pos ⟨b2i_ne h107, (E1 _ _ (by omega) hk).mp (by rw [h125, pk])⟩))
              | (have h125 : ¬ pt (6 * W + q) = k := fun z => h124 (eq1.mpr z)
                 exact nx 0 (by decide) (fun _ => if_neg (fun z => h125 (by rw [(E1 _ _ (by omega) hk).mpr z.2, pk]))))
              | exact nx 0 (by decide) (fun _ => if_neg (fun z => b2i_0 h107 z.1))
            · refine R_iconst (v := 1) hC dX11_block_127 (by decide) (R_iload hC dX11_block_128 rfl (R_ishl hC dX11_block_130 (R_goto hC 135 dX11_block_131 (by decide) ?_)))
              first
              | (have h125 : pt (6 * W + q) = k := eq1.mp h124
                 refine R_top (shl1 q (by omega)) ?_
                 exact nx _ lt3 (fun _ => if_pos ⟨b2i_ne h107, (E1 _ _ (by omega) hk).mp (by rw [h125, pk])⟩))
              | (have h125 : ¬ pt (6 * W + q) = k := fun z => h124 (eq1.mpr z)
                 exact nx 0 (by decide) (fun _ => if_neg (fun z => h125 (by rw [(E1 _ _ (by omega) hk).mpr z.2, pk]))))
              | exact nx 0 (by decide) (fun _ => if_neg (fun z => b2i_0 h107 z.1))
      refine R_iload hC dX11_block_45 rfl (R_bipush (v := 12) hC dX11_block_47 (by decide) ?_)
      refine R_icmp_ge hC 156 dX11_block_49 (by decide) (fun h => absurd h (nI_ge (b := 12) hk (by decide))) (fun _ => ?_)
      refine R_aload_n (i := 0) hC dX11_block_52 rfl rfl (R_iload hC dX11_block_53 rfl ?_)
      refine R_V1i hC hR dX11_block_55 MV_X11_isThere ml_X11_310 L_M rfl (s_isThere τ x (tT α) (hz.T ok) k hk) (by decide) ⟨by decide, by decide⟩ (Nat.le_of_ble_eq_true rfl) ?_
      refine R_if_eq hC 150 dX11_block_58 (by decide) (fun h58 => ?_) (fun h58 => ?_)
      · first
        | (have h79 : ¬ nI (cnO (ldr (tT α)) k) = i := h78; exact fin2 hl h79)
        | exact skp (fun z => h70 (ek.mpr ((E2 k hk).mpr z.2)))
        | exact skp (fun z => b2i_0 h58 z.1)
      · refine R_aload_n (i := 0) hC dX11_block_61 rfl rfl (R_gR hC dX11_block_62 fl_X11_53 L_M rfl (R_iload hC dX11_block_65 rfl (R_aI hC dX11_block_67 L_m_part _ rfl (by omega) (by decide) ?_)))
        refine R_top (y := nI (pt k)) (hp k hk) ?_
        refine R_iload hC dX11_block_68 rfl ?_
        refine R_icmp_eq hC 76 dX11_block_70 (by decide) (fun h70 => ?_) (fun h70 => ?_)
        · have hl : ldr (tT α) k := ⟨b2i_ne h58, (E2 k hk).mp (ek.mp h70)⟩
          refine R_iload_n (i := 3) hC dX11_block_76 rfl rfl (R_iload_n (i := 1) hC dX11_block_77 rfl rfl ?_)
          refine R_icmp_ne hC 147 dX11_block_78 (by decide) (fun h78 => ?_) (fun h78 => ?_)
          · refine R_iinc hC dX11_block_147 rfl (inc1 _) (by decide) rfl ?_
            first
            | (have h79 : ¬ nI (cnO (ldr (tT α)) k) = i := h78; exact fin2 hl h79)
            | exact skp (fun z => h70 (ek.mpr ((E2 k hk).mpr z.2)))
            | exact skp (fun z => b2i_0 h58 z.1)
          · refine R_iconst (v := 0) hC dX11_block_81 (by decide) (R_istore hC dX11_block_82 (by decide) rfl (R_iconst (v := 0) hC dX11_block_84 (by decide) (R_istore hC dX11_block_85 (by decide) rfl ?_)))
            exact bits hl h78 0 (Nat.zero_le _)
        · refine R_goto hC 150 dX11_block_73 (by decide) ?_
          first
          | (have h79 : ¬ nI (cnO (ldr (tT α)) k) = i := h78; exact fin2 hl h79)
          | exact skp (fun z => h70 (ek.mpr ((E2 k hk).mpr z.2)))
          | exact skp (fun z => b2i_0 h58 z.1)
  refine R_aload_n (i := 0) hC dX11_block_0 rfl rfl (R_iconst (v := 0) hC dX11_block_1 (by decide) (R_pI hC dX11_block_2 fl_X11_83 L_M rfl (R_aload_n (i := 0) hC dX11_block_5 rfl rfl (R_gR hC dX11_block_6 fl_X11_13 L_M rfl (R_bipush (v := 36) hC dX11_block_9 (by decide) (R_aI hC dX11_block_11 L_m_now 36 rfl (by decide) (by decide) ?_))))))
  refine R_top (y := nI (tT α).1) (hω.R) ?_
  refine R_if_eq hC 34 dX11_block_12 (by decide) (fun h12 => ?_) (fun h12 => ?_)
  · refine R_iconst (v := (-1)) hC dX11_block_34 (by decide) ?_
    exact R_iret hC hT dX11_block_35 rfl (by
    have e : opBlock α i w = -1 := by
      unfold opBlock
      rw [if_pos]
      first
      | exact Or.inl ((T0_iff ok).mp h12)
      | (have h18 : i < -1 := h17; exact Or.inr (Or.inl (by rw [i32_lt, t1] at h18; exact h18)))
      | exact Or.inr (Or.inr ⟨by simp only [i32_lt, Int32.toInt_zero] at h21; omega, ite0 h31⟩)
    rw [e]; exact hω.p)
  · refine R_iload_n (i := 1) hC dX11_block_15 rfl rfl (R_iconst (v := (-1)) hC dX11_block_16 (by decide) ?_)
    refine R_icmp_lt hC 34 dX11_block_17 (by decide) (fun h17 => ?_) (fun h17 => ?_)
    · refine R_iconst (v := (-1)) hC dX11_block_34 (by decide) ?_
      exact R_iret hC hT dX11_block_35 rfl (by
      have e : opBlock α i w = -1 := by
        unfold opBlock
        rw [if_pos]
        first
        | exact Or.inl ((T0_iff ok).mp h12)
        | (have h18 : i < -1 := h17; exact Or.inr (Or.inl (by rw [i32_lt, t1] at h18; exact h18)))
        | exact Or.inr (Or.inr ⟨by simp only [i32_lt, Int32.toInt_zero] at h21; omega, ite0 h31⟩)
      rw [e]; exact hω.p)
    · refine R_iload_n (i := 1) hC dX11_block_20 rfl rfl ?_
      refine R_if_lt hC 36 dX11_block_21 (by decide) (fun h21 => ?_) (fun h21 => ?_)
      · refine R_aload_n (i := 0) hC dX11_block_36 rfl rfl ?_
        refine R_V0g hC hR dX11_block_37 MV_X11_laysParts ml_X11_307 L_M rfl (s_laysParts hω ok) (by decide) ⟨by decide, by decide⟩ (Nat.le_of_ble_eq_true rfl) (fun r w1 hq => ?_)
        obtain ⟨rfl, τ, pt, rfl, hz, hp, hK⟩ := hq
        have hok : ¬ ((tT α).1 = 0 ∨ i.toInt < -1 ∨ (0 ≤ i.toInt ∧ ¬ (0 ≤ w.toInt ∧ w.toInt ≤ 1))) := by
          rintro (z | z | ⟨z1, z2⟩)
          · exact h12 ((T0_iff ok).mpr z)
          · exact h17 (by rw [i32_lt, t1]; exact z)
          · first
            | exact z2 (ite1 h31)
            | (simp only [i32_lt, Int32.toInt_zero] at h21; omega)
        refine R_iconst (v := 0) hC dX11_block_40 (by decide) (R_istore_n (i := 3) hC dX11_block_41 rfl (by decide) rfl (R_iconst (v := 0) hC dX11_block_42 (by decide) (R_istore hC dX11_block_43 (by decide) rfl ?_)))
        exact loop hok τ pt hz hp hK 0 (Nat.zero_le _) (fun _ _ => Or.inr (Nat.zero_le _)) _ _
      · refine R_iload_n (i := 2) hC dX11_block_24 rfl rfl (R_i2l hC dX11_block_25 (R_lconst (v := 0) hC dX11_block_26 (by decide) (R_lconst (v := 1) hC dX11_block_27 (by decide) ?_)))
        refine R_S3i hC hR dX11_block_28 MS_X11_isIn ml_X11_140 (s_isInZ w 0 1 0 1 (by decide) (by decide) _) (by decide) ⟨by decide, by decide⟩ (Nat.le_of_ble_eq_true rfl) ?_
        refine R_if_ne hC 36 dX11_block_31 (by decide) (fun h31 => ?_) (fun h31 => ?_)
        · refine R_aload_n (i := 0) hC dX11_block_36 rfl rfl ?_
          refine R_V0g hC hR dX11_block_37 MV_X11_laysParts ml_X11_307 L_M rfl (s_laysParts hω ok) (by decide) ⟨by decide, by decide⟩ (Nat.le_of_ble_eq_true rfl) (fun r w1 hq => ?_)
          obtain ⟨rfl, τ, pt, rfl, hz, hp, hK⟩ := hq
          have hok : ¬ ((tT α).1 = 0 ∨ i.toInt < -1 ∨ (0 ≤ i.toInt ∧ ¬ (0 ≤ w.toInt ∧ w.toInt ≤ 1))) := by
            rintro (z | z | ⟨z1, z2⟩)
            · exact h12 ((T0_iff ok).mpr z)
            · exact h17 (by rw [i32_lt, t1]; exact z)
            · first
              | exact z2 (ite1 h31)
              | (simp only [i32_lt, Int32.toInt_zero] at h21; omega)
          refine R_iconst (v := 0) hC dX11_block_40 (by decide) (R_istore_n (i := 3) hC dX11_block_41 rfl (by decide) rfl (R_iconst (v := 0) hC dX11_block_42 (by decide) (R_istore hC dX11_block_43 (by decide) rfl ?_)))
          exact loop hok τ pt hz hp hK 0 (Nat.zero_le _) (fun _ _ => Or.inr (Nat.zero_le _)) _ _
        · refine R_iconst (v := (-1)) hC dX11_block_34 (by decide) ?_
          exact R_iret hC hT dX11_block_35 rfl (by
          have e : opBlock α i w = -1 := by
            unfold opBlock
            rw [if_pos]
            first
            | exact Or.inl ((T0_iff ok).mp h12)
            | (have h18 : i < -1 := h17; exact Or.inr (Or.inl (by rw [i32_lt, t1] at h18; exact h18)))
            | exact Or.inr (Or.inr ⟨by simp only [i32_lt, Int32.toInt_zero] at h21; omega, ite0 h31⟩)
          rw [e]; exact hω.p)
