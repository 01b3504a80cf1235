/-! ===== the class reads a script ===== -/
theorem R_signs {m : mi} {X : aX} {pc : Nat} {ls : List (Option Value)} {st : List Value} {w : aW} {cl sl : Nat} (hC : Cx m X) {q : Int32} (j : Nat) (hq : q = nI j) (hj : j < 7) (hd : decode m.2.1 pc = .ok (.iaload, 1)) (kk : Rw m X (pc + 1) ls (.int (nI (sgK j)) :: st) w cl sl) : Rw m X pc ls (.int q :: .ref 1 :: st) w cl sl := by
  have e : (([2, 2, 3, 3, 3, 1, 4] : List Int32).getD j 0) = nI (sgK j) := by
    rcases (by omega : j = 0 ∨ j = 1 ∨ j = 2 ∨ j = 3 ∨ j = 4 ∨ j = 5 ∨ j = 6) with rfl | rfl | rfl | rfl | rfl | rfl | rfl <;> decide
  rw [← e] at kk
  obtain ⟨p, l, e, R, s, mm, args, below, meth, c, Z, V⟩ := X
  obtain ⟨hV, hx, hb, hml, hr, hlk, hown, hts, hK, hnm⟩ := hC
  intro H locs la hH hL hl
  obtain ⟨cell, h1, h2, h3, h4, h5, h6, h7⟩ := (hK.2.2.2.2.1).kept hH.kq
  obtain ⟨g1, g2⟩ := vp_in_j hq hj (by decide)
  have hin' : ¬ (q < 0 ∨ cell.slots.size ≤ q.toNatClampNeg) := by
    rintro (z | z)
    · exact g1 (Or.inl z)
    · omega
  exact W.iald (v := .int (([2, 2, 3, 3, 3, 1, 4] : List Int32).getD j 0)) hx hb h1 h2 h3 hin' (by rw [g2]; exact h6 j hj) rfl rfl hd (kk H locs la hH hL hl)
theorem dX4_read_0 : decode cX4_read 0 = .ok (.aload_n 0, 1) := by decide +kernel
theorem dX4_read_1 : decode cX4_read 1 = .ok (.iconst 0, 1) := by decide +kernel
theorem dX4_read_2 : decode cX4_read 2 = .ok (.putfield 24, 3) := by decide +kernel
theorem dX4_read_5 : decode cX4_read 5 = .ok (.iconst 0, 1) := by decide +kernel
theorem dX4_read_6 : decode cX4_read 6 = .ok (.istore_n 2, 1) := by decide +kernel
theorem dX4_read_7 : decode cX4_read 7 = .ok (.iconst 0, 1) := by decide +kernel
theorem dX4_read_8 : decode cX4_read 8 = .ok (.istore_n 3, 1) := by decide +kernel
theorem dX4_read_9 : decode cX4_read 9 = .ok (.iload_n 3, 1) := by decide +kernel
theorem dX4_read_10 : decode cX4_read 10 = .ok (.aload_n 1, 1) := by decide +kernel
theorem dX4_read_11 : decode cX4_read 11 = .ok (.getfield 28, 3) := by decide +kernel
theorem dX4_read_14 : decode cX4_read 14 = .ok (.if_icmp .ge 88, 3) := by decide +kernel
theorem dX4_read_17 : decode cX4_read 17 = .ok (.aload_n 1, 1) := by decide +kernel
theorem dX4_read_18 : decode cX4_read 18 = .ok (.iload_n 3, 1) := by decide +kernel
theorem dX4_read_19 : decode cX4_read 19 = .ok (.invokevirtual 33, 3) := by decide +kernel
theorem dX4_read_22 : decode cX4_read 22 = .ok (.istore 4, 2) := by decide +kernel
theorem dX4_read_24 : decode cX4_read 24 = .ok (.iload 4, 2) := by decide +kernel
theorem dX4_read_26 : decode cX4_read 26 = .ok (.bipush 32, 2) := by decide +kernel
theorem dX4_read_28 : decode cX4_read 28 = .ok (.if_icmp .ne 6, 3) := by decide +kernel
theorem dX4_read_31 : decode cX4_read 31 = .ok (.goto 65, 3) := by decide +kernel
theorem dX4_read_34 : decode cX4_read 34 = .ok (.aload_n 0, 1) := by decide +kernel
theorem dX4_read_35 : decode cX4_read 35 = .ok (.iload_n 2, 1) := by decide +kernel
theorem dX4_read_36 : decode cX4_read 36 = .ok (.invokevirtual 37, 3) := by decide +kernel
theorem dX4_read_39 : decode cX4_read 39 = .ok (.ifCond .eq 26, 3) := by decide +kernel
theorem dX4_read_42 : decode cX4_read 42 = .ok (.iload 4, 2) := by decide +kernel
theorem dX4_read_44 : decode cX4_read 44 = .ok (.bipush 59, 2) := by decide +kernel
theorem dX4_read_46 : decode cX4_read 46 = .ok (.if_icmp .ne 12, 3) := by decide +kernel
theorem dX4_read_49 : decode cX4_read 49 = .ok (.aload_n 0, 1) := by decide +kernel
theorem dX4_read_50 : decode cX4_read 50 = .ok (.getfield 24, 3) := by decide +kernel
theorem dX4_read_53 : decode cX4_read 53 = .ok (.bipush 12, 2) := by decide +kernel
theorem dX4_read_55 : decode cX4_read 55 = .ok (.if_icmp .ne 5, 3) := by decide +kernel
theorem dX4_read_58 : decode cX4_read 58 = .ok (.iload_n 3, 1) := by decide +kernel
theorem dX4_read_59 : decode cX4_read 59 = .ok (.ireturn, 1) := by decide +kernel
theorem dX4_read_60 : decode cX4_read 60 = .ok (.iconst 0, 1) := by decide +kernel
theorem dX4_read_61 : decode cX4_read 61 = .ok (.istore_n 2, 1) := by decide +kernel
theorem dX4_read_62 : decode cX4_read 62 = .ok (.goto 34, 3) := by decide +kernel
theorem dX4_read_65 : decode cX4_read 65 = .ok (.iload_n 2, 1) := by decide +kernel
theorem dX4_read_66 : decode cX4_read 66 = .ok (.ifCond .ne 15, 3) := by decide +kernel
theorem dX4_read_69 : decode cX4_read 69 = .ok (.aload_n 0, 1) := by decide +kernel
theorem dX4_read_70 : decode cX4_read 70 = .ok (.iload 4, 2) := by decide +kernel
theorem dX4_read_72 : decode cX4_read 72 = .ok (.invokevirtual 41, 3) := by decide +kernel
theorem dX4_read_75 : decode cX4_read 75 = .ok (.ifCond .eq 16, 3) := by decide +kernel
theorem dX4_read_78 : decode cX4_read 78 = .ok (.goto 15, 3) := by decide +kernel
theorem dX4_read_81 : decode cX4_read 81 = .ok (.aload_n 0, 1) := by decide +kernel
theorem dX4_read_82 : decode cX4_read 82 = .ok (.iload_n 2, 1) := by decide +kernel
theorem dX4_read_83 : decode cX4_read 83 = .ok (.iload 4, 2) := by decide +kernel
theorem dX4_read_85 : decode cX4_read 85 = .ok (.invokevirtual 44, 3) := by decide +kernel
theorem dX4_read_88 : decode cX4_read 88 = .ok (.ifCond .ne 5, 3) := by decide +kernel
theorem dX4_read_91 : decode cX4_read 91 = .ok (.iload_n 3, 1) := by decide +kernel
theorem dX4_read_92 : decode cX4_read 92 = .ok (.ireturn, 1) := by decide +kernel
theorem dX4_read_93 : decode cX4_read 93 = .ok (.iinc 2 1, 3) := by decide +kernel
theorem dX4_read_96 : decode cX4_read 96 = .ok (.iinc 3 1, 3) := by decide +kernel
theorem dX4_read_99 : decode cX4_read 99 = .ok (.goto (-90), 3) := by decide +kernel
theorem dX4_read_102 : decode cX4_read 102 = .ok (.aload_n 0, 1) := by decide +kernel
theorem dX4_read_103 : decode cX4_read 103 = .ok (.iload_n 2, 1) := by decide +kernel
theorem dX4_read_104 : decode cX4_read 104 = .ok (.invokevirtual 37, 3) := by decide +kernel
theorem dX4_read_107 : decode cX4_read 107 = .ok (.ifCond .eq 7, 3) := by decide +kernel
theorem dX4_read_110 : decode cX4_read 110 = .ok (.iconst (-1), 1) := by decide +kernel
theorem dX4_read_111 : decode cX4_read 111 = .ok (.goto 7, 3) := by decide +kernel
theorem dX4_read_114 : decode cX4_read 114 = .ok (.aload_n 1, 1) := by decide +kernel
theorem dX4_read_115 : decode cX4_read 115 = .ok (.getfield 28, 3) := by decide +kernel
theorem dX4_read_118 : decode cX4_read 118 = .ok (.ireturn, 1) := by decide +kernel
theorem dX4_isWhole_0 : decode cX4_isWhole 0 = .ok (.iload_n 1, 1) := by decide +kernel
theorem dX4_isWhole_1 : decode cX4_isWhole 1 = .ok (.ifCond .le 33, 3) := by decide +kernel
theorem dX4_isWhole_4 : decode cX4_isWhole 4 = .ok (.aload_n 0, 1) := by decide +kernel
theorem dX4_isWhole_5 : decode cX4_isWhole 5 = .ok (.getfield 24, 3) := by decide +kernel
theorem dX4_isWhole_8 : decode cX4_isWhole 8 = .ok (.ifCond .le 26, 3) := by decide +kernel
theorem dX4_isWhole_11 : decode cX4_isWhole 11 = .ok (.iload_n 1, 1) := by decide +kernel
theorem dX4_isWhole_12 : decode cX4_isWhole 12 = .ok (.getstatic 48, 3) := by decide +kernel
theorem dX4_isWhole_15 : decode cX4_isWhole 15 = .ok (.aload_n 0, 1) := by decide +kernel
theorem dX4_isWhole_16 : decode cX4_isWhole 16 = .ok (.getfield 9, 3) := by decide +kernel
theorem dX4_isWhole_19 : decode cX4_isWhole 19 = .ok (.aload_n 0, 1) := by decide +kernel
theorem dX4_isWhole_20 : decode cX4_isWhole 20 = .ok (.getfield 24, 3) := by decide +kernel
theorem dX4_isWhole_23 : decode cX4_isWhole 23 = .ok (.iconst 1, 1) := by decide +kernel
theorem dX4_isWhole_24 : decode cX4_isWhole 24 = .ok (.isub, 1) := by decide +kernel
theorem dX4_isWhole_25 : decode cX4_isWhole 25 = .ok (.iaload, 1) := by decide +kernel
theorem dX4_isWhole_26 : decode cX4_isWhole 26 = .ok (.iaload, 1) := by decide +kernel
theorem dX4_isWhole_27 : decode cX4_isWhole 27 = .ok (.if_icmp .ne 7, 3) := by decide +kernel
theorem dX4_isWhole_30 : decode cX4_isWhole 30 = .ok (.iconst 1, 1) := by decide +kernel
theorem dX4_isWhole_31 : decode cX4_isWhole 31 = .ok (.goto 4, 3) := by decide +kernel
theorem dX4_isWhole_34 : decode cX4_isWhole 34 = .ok (.iconst 0, 1) := by decide +kernel
theorem dX4_isWhole_35 : decode cX4_isWhole 35 = .ok (.ireturn, 1) := by decide +kernel
theorem dX4_begins_0 : decode cX4_begins 0 = .ok (.ldc 51, 2) := by decide +kernel
theorem dX4_begins_2 : decode cX4_begins 2 = .ok (.iload_n 1, 1) := by decide +kernel
theorem dX4_begins_3 : decode cX4_begins 3 = .ok (.i2c, 1) := by decide +kernel
theorem dX4_begins_4 : decode cX4_begins 4 = .ok (.invokevirtual 53, 3) := by decide +kernel
theorem dX4_begins_7 : decode cX4_begins 7 = .ok (.istore_n 2, 1) := by decide +kernel
theorem dX4_begins_8 : decode cX4_begins 8 = .ok (.iload_n 2, 1) := by decide +kernel
theorem dX4_begins_9 : decode cX4_begins 9 = .ok (.ifCond .lt 12, 3) := by decide +kernel
theorem dX4_begins_12 : decode cX4_begins 12 = .ok (.aload_n 0, 1) := by decide +kernel
theorem dX4_begins_13 : decode cX4_begins 13 = .ok (.getfield 24, 3) := by decide +kernel
theorem dX4_begins_16 : decode cX4_begins 16 = .ok (.bipush 12, 2) := by decide +kernel
theorem dX4_begins_18 : decode cX4_begins 18 = .ok (.if_icmp .lt 5, 3) := by decide +kernel
theorem dX4_begins_21 : decode cX4_begins 21 = .ok (.iconst 0, 1) := by decide +kernel
theorem dX4_begins_22 : decode cX4_begins 22 = .ok (.ireturn, 1) := by decide +kernel
theorem dX4_begins_23 : decode cX4_begins 23 = .ok (.aload_n 0, 1) := by decide +kernel
theorem dX4_begins_24 : decode cX4_begins 24 = .ok (.getfield 9, 3) := by decide +kernel
theorem dX4_begins_27 : decode cX4_begins 27 = .ok (.aload_n 0, 1) := by decide +kernel
theorem dX4_begins_28 : decode cX4_begins 28 = .ok (.getfield 24, 3) := by decide +kernel
theorem dX4_begins_31 : decode cX4_begins 31 = .ok (.iload_n 2, 1) := by decide +kernel
theorem dX4_begins_32 : decode cX4_begins 32 = .ok (.iastore, 1) := by decide +kernel
theorem dX4_begins_33 : decode cX4_begins 33 = .ok (.aload_n 0, 1) := by decide +kernel
theorem dX4_begins_34 : decode cX4_begins 34 = .ok (.getfield 15, 3) := by decide +kernel
theorem dX4_begins_37 : decode cX4_begins 37 = .ok (.aload_n 0, 1) := by decide +kernel
theorem dX4_begins_38 : decode cX4_begins 38 = .ok (.getfield 24, 3) := by decide +kernel
theorem dX4_begins_41 : decode cX4_begins 41 = .ok (.ldc 58, 2) := by decide +kernel
theorem dX4_begins_43 : decode cX4_begins 43 = .ok (.iastore, 1) := by decide +kernel
theorem dX4_begins_44 : decode cX4_begins 44 = .ok (.aload_n 0, 1) := by decide +kernel
theorem dX4_begins_45 : decode cX4_begins 45 = .ok (.getfield 18, 3) := by decide +kernel
theorem dX4_begins_48 : decode cX4_begins 48 = .ok (.aload_n 0, 1) := by decide +kernel
theorem dX4_begins_49 : decode cX4_begins 49 = .ok (.getfield 24, 3) := by decide +kernel
theorem dX4_begins_52 : decode cX4_begins 52 = .ok (.ldc 58, 2) := by decide +kernel
theorem dX4_begins_54 : decode cX4_begins 54 = .ok (.iastore, 1) := by decide +kernel
theorem dX4_begins_55 : decode cX4_begins 55 = .ok (.aload_n 0, 1) := by decide +kernel
theorem dX4_begins_56 : decode cX4_begins 56 = .ok (.getfield 21, 3) := by decide +kernel
theorem dX4_begins_59 : decode cX4_begins 59 = .ok (.aload_n 0, 1) := by decide +kernel
theorem dX4_begins_60 : decode cX4_begins 60 = .ok (.getfield 24, 3) := by decide +kernel
theorem dX4_begins_63 : decode cX4_begins 63 = .ok (.ldc 58, 2) := by decide +kernel
theorem dX4_begins_65 : decode cX4_begins 65 = .ok (.iastore, 1) := by decide +kernel
theorem dX4_begins_66 : decode cX4_begins 66 = .ok (.aload_n 0, 1) := by decide +kernel
theorem dX4_begins_67 : decode cX4_begins 67 = .ok (.dup, 1) := by decide +kernel
theorem dX4_begins_68 : decode cX4_begins 68 = .ok (.getfield 24, 3) := by decide +kernel
theorem dX4_begins_71 : decode cX4_begins 71 = .ok (.iconst 1, 1) := by decide +kernel
theorem dX4_begins_72 : decode cX4_begins 72 = .ok (.iadd, 1) := by decide +kernel
theorem dX4_begins_73 : decode cX4_begins 73 = .ok (.putfield 24, 3) := by decide +kernel
theorem dX4_begins_76 : decode cX4_begins 76 = .ok (.iconst 1, 1) := by decide +kernel
theorem dX4_begins_77 : decode cX4_begins 77 = .ok (.ireturn, 1) := by decide +kernel
theorem dX4_goesOn_0 : decode cX4_goesOn 0 = .ok (.aload_n 0, 1) := by decide +kernel
theorem dX4_goesOn_1 : decode cX4_goesOn 1 = .ok (.getfield 24, 3) := by decide +kernel
theorem dX4_goesOn_4 : decode cX4_goesOn 4 = .ok (.iconst 1, 1) := by decide +kernel
theorem dX4_goesOn_5 : decode cX4_goesOn 5 = .ok (.isub, 1) := by decide +kernel
theorem dX4_goesOn_6 : decode cX4_goesOn 6 = .ok (.istore_n 3, 1) := by decide +kernel
theorem dX4_goesOn_7 : decode cX4_goesOn 7 = .ok (.iload_n 3, 1) := by decide +kernel
theorem dX4_goesOn_8 : decode cX4_goesOn 8 = .ok (.ifCond .ge 5, 3) := by decide +kernel
theorem dX4_goesOn_11 : decode cX4_goesOn 11 = .ok (.iconst 0, 1) := by decide +kernel
theorem dX4_goesOn_12 : decode cX4_goesOn 12 = .ok (.ireturn, 1) := by decide +kernel
theorem dX4_goesOn_13 : decode cX4_goesOn 13 = .ok (.iload_n 1, 1) := by decide +kernel
theorem dX4_goesOn_14 : decode cX4_goesOn 14 = .ok (.iconst 3, 1) := by decide +kernel
theorem dX4_goesOn_15 : decode cX4_goesOn 15 = .ok (.if_icmp .ne 30, 3) := by decide +kernel
theorem dX4_goesOn_18 : decode cX4_goesOn 18 = .ok (.aload_n 0, 1) := by decide +kernel
theorem dX4_goesOn_19 : decode cX4_goesOn 19 = .ok (.getfield 21, 3) := by decide +kernel
theorem dX4_goesOn_22 : decode cX4_goesOn 22 = .ok (.iload_n 3, 1) := by decide +kernel
theorem dX4_goesOn_23 : decode cX4_goesOn 23 = .ok (.iload_n 2, 1) := by decide +kernel
theorem dX4_goesOn_24 : decode cX4_goesOn 24 = .ok (.invokestatic 59, 3) := by decide +kernel
theorem dX4_goesOn_27 : decode cX4_goesOn 27 = .ok (.iastore, 1) := by decide +kernel
theorem dX4_goesOn_28 : decode cX4_goesOn 28 = .ok (.aload_n 0, 1) := by decide +kernel
theorem dX4_goesOn_29 : decode cX4_goesOn 29 = .ok (.getfield 21, 3) := by decide +kernel
theorem dX4_goesOn_32 : decode cX4_goesOn 32 = .ok (.iload_n 3, 1) := by decide +kernel
theorem dX4_goesOn_33 : decode cX4_goesOn 33 = .ok (.iaload, 1) := by decide +kernel
theorem dX4_goesOn_34 : decode cX4_goesOn 34 = .ok (.ldc 58, 2) := by decide +kernel
theorem dX4_goesOn_36 : decode cX4_goesOn 36 = .ok (.if_icmp .eq 7, 3) := by decide +kernel
theorem dX4_goesOn_39 : decode cX4_goesOn 39 = .ok (.iconst 1, 1) := by decide +kernel
theorem dX4_goesOn_40 : decode cX4_goesOn 40 = .ok (.goto 4, 3) := by decide +kernel
theorem dX4_goesOn_43 : decode cX4_goesOn 43 = .ok (.iconst 0, 1) := by decide +kernel
theorem dX4_goesOn_44 : decode cX4_goesOn 44 = .ok (.ireturn, 1) := by decide +kernel
theorem dX4_goesOn_45 : decode cX4_goesOn 45 = .ok (.iload_n 2, 1) := by decide +kernel
theorem dX4_goesOn_46 : decode cX4_goesOn 46 = .ok (.bipush 48, 2) := by decide +kernel
theorem dX4_goesOn_48 : decode cX4_goesOn 48 = .ok (.if_icmp .lt 9, 3) := by decide +kernel
theorem dX4_goesOn_51 : decode cX4_goesOn 51 = .ok (.iload_n 2, 1) := by decide +kernel
theorem dX4_goesOn_52 : decode cX4_goesOn 52 = .ok (.bipush 57, 2) := by decide +kernel
theorem dX4_goesOn_54 : decode cX4_goesOn 54 = .ok (.if_icmp .le 5, 3) := by decide +kernel
theorem dX4_goesOn_57 : decode cX4_goesOn 57 = .ok (.iconst 0, 1) := by decide +kernel
theorem dX4_goesOn_58 : decode cX4_goesOn 58 = .ok (.ireturn, 1) := by decide +kernel
theorem dX4_goesOn_59 : decode cX4_goesOn 59 = .ok (.iload_n 1, 1) := by decide +kernel
theorem dX4_goesOn_60 : decode cX4_goesOn 60 = .ok (.iconst 1, 1) := by decide +kernel
theorem dX4_goesOn_61 : decode cX4_goesOn 61 = .ok (.if_icmp .ne 16, 3) := by decide +kernel
theorem dX4_goesOn_64 : decode cX4_goesOn 64 = .ok (.aload_n 0, 1) := by decide +kernel
theorem dX4_goesOn_65 : decode cX4_goesOn 65 = .ok (.getfield 15, 3) := by decide +kernel
theorem dX4_goesOn_68 : decode cX4_goesOn 68 = .ok (.iload_n 3, 1) := by decide +kernel
theorem dX4_goesOn_69 : decode cX4_goesOn 69 = .ok (.iload_n 2, 1) := by decide +kernel
theorem dX4_goesOn_70 : decode cX4_goesOn 70 = .ok (.bipush 48, 2) := by decide +kernel
theorem dX4_goesOn_72 : decode cX4_goesOn 72 = .ok (.isub, 1) := by decide +kernel
theorem dX4_goesOn_73 : decode cX4_goesOn 73 = .ok (.iastore, 1) := by decide +kernel
theorem dX4_goesOn_74 : decode cX4_goesOn 74 = .ok (.goto 13, 3) := by decide +kernel
theorem dX4_goesOn_77 : decode cX4_goesOn 77 = .ok (.aload_n 0, 1) := by decide +kernel
theorem dX4_goesOn_78 : decode cX4_goesOn 78 = .ok (.getfield 18, 3) := by decide +kernel
theorem dX4_goesOn_81 : decode cX4_goesOn 81 = .ok (.iload_n 3, 1) := by decide +kernel
theorem dX4_goesOn_82 : decode cX4_goesOn 82 = .ok (.iload_n 2, 1) := by decide +kernel
theorem dX4_goesOn_83 : decode cX4_goesOn 83 = .ok (.bipush 48, 2) := by decide +kernel
theorem dX4_goesOn_85 : decode cX4_goesOn 85 = .ok (.isub, 1) := by decide +kernel
theorem dX4_goesOn_86 : decode cX4_goesOn 86 = .ok (.iastore, 1) := by decide +kernel
theorem dX4_goesOn_87 : decode cX4_goesOn 87 = .ok (.iconst 1, 1) := by decide +kernel
theorem dX4_goesOn_88 : decode cX4_goesOn 88 = .ok (.ireturn, 1) := by decide +kernel
theorem c_isWhole {σ : sg} {x : aW} {b size k sn : Nat} {S : Nat → Nat → Int32} (hS : SL b) (h : CS σ b (size, S)) (hz : size ≤ 12) (hk : 0 < sn → 1 ≤ size ∧ k < 7 ∧ S (size - 1) 0 = nI k) (hn : sn ≤ 4) : Mt mX4_isWhole 0 0 0 [.ref b, .int (nI sn)] (wd σ x) (QI (b2i (0 < sn ∧ sn = sgK k)) (wd σ x)) := by
  refine Mt.of MI_X4_isWhole (Nat.le_of_ble_eq_true rfl) (fun X hC hR hT => ?_)
  have s0 : nI sn ≤ 0 ↔ sn = 0 := by rw [i32_ge, nI_toInt (by omega), Int32.toInt_zero]; omega
  rcases (by omega : sn = 0 ∨ 0 < sn) with z | z
  · refine R_iload_n (i := 1) hC dX4_isWhole_0 rfl rfl ?_
    refine R_if_le hC 34 dX4_isWhole_1 (by decide) (fun _ => ?_) (fun h => absurd (s0.mpr z) h)
    refine R_iconst (v := 0) hC dX4_isWhole_34 (by decide) ?_
    exact R_zret hC hT dX4_isWhole_35 rfl (by decide) ⟨by rw [b2i_f (by omega)], rfl⟩
  · obtain ⟨k1, k2, k3⟩ := hk z
    have g := (h.2 (size - 1) (show size - 1 < size by omega)).1
    have g : σ.2.2 (b + 1) (size - 1) = nI k := g.trans k3
    have f0 : ¬ nI size ≤ 0 := fun y => by rw [i32_ge, nI_toInt (by omega), Int32.toInt_zero] at y; omega
    have sk : sgK k < 2 ^ 31 := by rcases (by omega : k = 0 ∨ k = 1 ∨ k = 2 ∨ k = 3 ∨ k = 4 ∨ k = 5 ∨ k = 6) with rfl | rfl | rfl | rfl | rfl | rfl | rfl <;> decide
    have ee := nI_eq (a := sn) (b := sgK k) (by omega) sk
    refine R_iload_n (i := 1) hC dX4_isWhole_0 rfl rfl ?_
    refine R_if_le hC 34 dX4_isWhole_1 (by decide) (fun h => absurd h (fun y => absurd (s0.mp y) (by omega))) (fun _ => ?_)
    refine R_aload_n (i := 0) hC dX4_isWhole_4 rfl rfl (R_gI hC dX4_isWhole_5 fl_X4_24 hS.1 rfl ?_)
    refine R_top (y := nI size) (h.1) ?_
    refine R_if_le hC 34 dX4_isWhole_8 (by decide) (fun h => absurd h f0) (fun _ => ?_)
    refine R_iload_n (i := 1) hC dX4_isWhole_11 rfl rfl ?_
    refine R_gst hC (v := .ref 1) (fun V s h => kz_signs h) kl_signs rfl dX4_isWhole_12 ?_
    refine R_aload_n (i := 0) hC dX4_isWhole_15 rfl rfl (R_gR hC dX4_isWhole_16 fl_X4_9 hS.1 rfl (R_aload_n (i := 0) hC dX4_isWhole_19 rfl rfl (R_gI hC dX4_isWhole_20 fl_X4_24 hS.1 rfl ?_)))
    refine R_top (y := nI size) (h.1) ?_
    refine R_iconst (v := 1) hC dX4_isWhole_23 (by decide) (R_isub hC dX4_isWhole_24 ?_)
    refine R_top (y := nI (size - 1)) (nI_dec (by omega)) ?_
    refine R_aI hC dX4_isWhole_25 hS.2.1 (size - 1) rfl (by omega) (by decide) ?_
    refine R_top g ?_
    refine R_signs hC k rfl k2 dX4_isWhole_26 ?_
    refine R_icmp_ne hC 34 dX4_isWhole_27 (by decide) (fun h27 => ?_) (fun h27 => ?_)
    · refine R_iconst (v := 0) hC dX4_isWhole_34 (by decide) ?_
      exact R_zret hC hT dX4_isWhole_35 rfl (by decide) ⟨by first | (rw [b2i_f (fun y => h27 (ee.mpr y.2))]; done) | (rw [b2i_t (show 0 < sn ∧ sn = sgK k from ⟨z, ee.mp h27⟩)]; done), rfl⟩
    · refine R_iconst (v := 1) hC dX4_isWhole_30 (by decide) (R_goto hC 35 dX4_isWhole_31 (by decide) ?_)
      exact R_zret hC hT dX4_isWhole_35 rfl (by decide) ⟨by first | (rw [b2i_f (fun y => h27 (ee.mpr y.2))]; done) | (rw [b2i_t (show 0 < sn ∧ sn = sgK k from ⟨z, ee.mp h27⟩)]; done), rfl⟩
theorem i2c_256 : ∀ b, b < 256 → ((nI b).toUInt32 % 65536).toInt32 = nI b := by decide +kernel
theorem kd_idx : ∀ b, b < 256 → (kdN b = none ∧ o2i (spt 0 (nI b)) < 0) ∨ ∃ k, k < 7 ∧ kdN b = some k ∧ o2i (spt 0 (nI b)) = nI k := by decide +kernel
theorem c_begins {σ : sg} {x : aW} {b size c : Nat} {S : Nat → Nat → Int32} (hS : SL b) (h : CS σ b (size, S)) (hz : size < 12) (hc : c < 256) : Mt mX4_begins 4 0 0 [.ref b, .int (nI c)] (wd σ x) (fun r w => ∃ τ, w = wd τ x ∧ AE (L5 b) σ τ ∧ ((kdN c = none ∧ r = some (.int 0)) ∨ ∃ k, k < 7 ∧ kdN c = some k ∧ r = some (.int 1) ∧ CS τ b (size + 1, stN S size k))) := by
  refine Mt.of MI_X4_begins (Nat.le_of_ble_eq_true rfl) (fun X hC hR hT => ?_)
  have m : ∀ j, j ≤ 4 → b + j ∈ L5 b := fun j hj => by unfold L5; simp; omega
  have go : ∀ v, v = o2i (spt 0 (nI c)) → Rw mX4_begins X 7 [some (.ref b), some (.int (nI c)), none] [.int v] (wd σ x) 0 0 := by
    rintro v rfl
    rcases kd_idx c hc with ⟨k1, k2⟩ | ⟨k, k7, k1, k2⟩
    · refine R_istore_n (i := 2) hC dX4_begins_7 rfl (by decide) rfl (R_iload_n (i := 2) hC dX4_begins_8 rfl rfl ?_)
      refine R_if_lt hC 21 dX4_begins_9 (by decide) (fun _ => ?_) (fun h => absurd k2 h)
      refine R_iconst (v := 0) hC dX4_begins_21 (by decide) ?_
      exact R_zret hC hT dX4_begins_22 rfl (by decide) ⟨σ, rfl, AE.rf _ _, Or.inl ⟨k1, rfl⟩⟩
    · rw [k2]
      have hA : ∀ (f g q r : Nat → Int32) v, AE (L5 b) σ (sG (sA (sA (sA (sA σ (b + 1) f) (b + 2) g) (b + 3) q) (b + 4) r) b 0 v) := fun f g q r v => (((((AE.rf (L5 b) σ).a (m 1 (by decide))).a (m 2 (by decide))).a (m 3 (by decide))).a (m 4 (by decide))).g (m 0 (by decide))
      refine R_istore_n (i := 2) hC dX4_begins_7 rfl (by decide) rfl (R_iload_n (i := 2) hC dX4_begins_8 rfl rfl ?_)
      refine R_if_lt hC 21 dX4_begins_9 (by decide) (fun h => absurd h (nI_pos (by omega))) (fun _ => ?_)
      refine R_aload_n (i := 0) hC dX4_begins_12 rfl rfl (R_gI hC dX4_begins_13 fl_X4_24 hS.1 rfl ?_)
      refine R_top (y := nI size) (h.1) ?_
      refine R_bipush (v := 12) hC dX4_begins_16 (by decide) ?_
      refine R_icmp_lt hC 23 dX4_begins_18 (by decide) (fun _ => ?_) (fun h => absurd (nI_lt (b := 12) hz (by decide)) h)
      refine R_aload_n (i := 0) hC dX4_begins_23 rfl rfl (R_gR hC dX4_begins_24 fl_X4_9 hS.1 rfl (R_aload_n (i := 0) hC dX4_begins_27 rfl rfl (R_gI hC dX4_begins_28 fl_X4_24 hS.1 rfl ?_)))
      refine R_top (y := nI size) (h.1) ?_
      refine R_iload_n (i := 2) hC dX4_begins_31 rfl rfl (R_sI hC dX4_begins_32 hS.2.1 size rfl (by omega) (by decide) (R_aload_n (i := 0) hC dX4_begins_33 rfl rfl (R_gR hC dX4_begins_34 fl_X4_15 hS.1 rfl (R_aload_n (i := 0) hC dX4_begins_37 rfl rfl (R_gI hC dX4_begins_38 fl_X4_24 hS.1 rfl ?_)))))
      refine R_top (y := nI size) (h.1) ?_
      refine R_ldc hC dX4_begins_41 kc_X4_58 (R_sI hC dX4_begins_43 hS.2.2.1 size rfl (by omega) (by decide) (R_aload_n (i := 0) hC dX4_begins_44 rfl rfl (R_gR hC dX4_begins_45 fl_X4_18 hS.1 rfl (R_aload_n (i := 0) hC dX4_begins_48 rfl rfl (R_gI hC dX4_begins_49 fl_X4_24 hS.1 rfl ?_)))))
      refine R_top (y := nI size) (h.1) ?_
      refine R_ldc hC dX4_begins_52 kc_X4_58 (R_sI hC dX4_begins_54 hS.2.2.2.1 size rfl (by omega) (by decide) (R_aload_n (i := 0) hC dX4_begins_55 rfl rfl (R_gR hC dX4_begins_56 fl_X4_21 hS.1 rfl (R_aload_n (i := 0) hC dX4_begins_59 rfl rfl (R_gI hC dX4_begins_60 fl_X4_24 hS.1 rfl ?_)))))
      refine R_top (y := nI size) (h.1) ?_
      refine R_ldc hC dX4_begins_63 kc_X4_58 (R_sI hC dX4_begins_65 hS.2.2.2.2 size rfl (by omega) (by decide) (R_aload_n (i := 0) hC dX4_begins_66 rfl rfl (R_dup hC dX4_begins_67 rfl (R_gI hC dX4_begins_68 fl_X4_24 hS.1 rfl ?_))))
      refine R_top (y := nI size) (h.1) ?_
      refine R_iconst (v := 1) hC dX4_begins_71 (by decide) (R_iadd hC dX4_begins_72 ?_)
      refine R_top (y := nI (size + 1)) (inc1 _) ?_
      refine R_pI hC dX4_begins_73 fl_X4_24 hS.1 rfl (R_iconst (v := 1) hC dX4_begins_76 (by decide) ?_)
      exact R_zret hC hT dX4_begins_77 rfl (by decide) (by
      refine ⟨_, rfl, hA _ _ _ _ _, Or.inr ⟨k, k7, k1, rfl, sG_eq _ _ _ _, fun i hi => ?_⟩⟩
      have hi : i < size + 1 := hi
      have o := fun z : i < size => h.2 i z
      rw [show ∀ τ : sg, (sG τ b 0 (nI (size + 1))).2.2 = τ.2.2 from fun _ => rfl]
      rw [sA_ne (show b + 1 ≠ b + 4 by omega), sA_ne (show b + 1 ≠ b + 3 by omega), sA_ne (show b + 1 ≠ b + 2 by omega), sA_eq, sA_ne (show b + 2 ≠ b + 4 by omega), sA_ne (show b + 2 ≠ b + 3 by omega), sA_eq, sA_ne (show b + 3 ≠ b + 4 by omega), sA_eq, sA_eq, sA_ne (show b + 2 ≠ b + 1 by omega), sA_ne (show b + 3 ≠ b + 2 by omega), sA_ne (show b + 3 ≠ b + 1 by omega), sA_ne (show b + 4 ≠ b + 3 by omega), sA_ne (show b + 4 ≠ b + 2 by omega), sA_ne (show b + 4 ≠ b + 1 by omega)]
      show _ = stN S size k i 0 ∧ _ = stN S size k i 1 ∧ _ = stN S size k i 2 ∧ _ = stN S size k i 3
      unfold upd stN
      by_cases z : i = size
      · rw [if_pos z, if_pos z, if_pos z, if_pos z, if_pos z, if_pos z, if_pos z, if_pos z]
        exact ⟨rfl, rfl, rfl, rfl⟩
      · rw [if_neg z, if_neg z, if_neg z, if_neg z, if_neg z, if_neg z, if_neg z, if_neg z]
        exact o (by omega))
  refine R_ldS hC 0 (by decide) rfl dX4_begins_0 (R_iload_n (i := 1) hC dX4_begins_2 rfl rfl (R_i2c hC dX4_begins_3 ?_))
  refine R_top (i2c_256 c hc) ?_
  refine R_K1 (i := 0) hC hR (by decide) dX4_begins_4 MV_J0_indexOf_0f7a4 rfl ml_X4_53 (k_indexOf c hc _) (by decide) ⟨by decide, by decide⟩ (Nat.le_of_ble_eq_true rfl) ?_
  exact go _ rfl
