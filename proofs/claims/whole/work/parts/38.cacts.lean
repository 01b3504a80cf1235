/-! ===== the class's acts on a table ===== -/
theorem dX7_negateRow_0 : decode cX7_negateRow 0 = .ok (.aload_n 0, 1) := by decide +kernel
theorem dX7_negateRow_1 : decode cX7_negateRow 1 = .ok (.iload_n 1, 1) := by decide +kernel
theorem dX7_negateRow_2 : decode cX7_negateRow 2 = .ok (.iconst 0, 1) := by decide +kernel
theorem dX7_negateRow_3 : decode cX7_negateRow 3 = .ok (.invokevirtual 79, 3) := by decide +kernel
theorem dX7_negateRow_6 : decode cX7_negateRow 6 = .ok (.ifCond .ne 5, 3) := by decide +kernel
theorem dX7_negateRow_9 : decode cX7_negateRow 9 = .ok (.iconst 1, 1) := by decide +kernel
theorem dX7_negateRow_10 : decode cX7_negateRow 10 = .ok (.ireturn, 1) := by decide +kernel
theorem dX7_negateRow_11 : decode cX7_negateRow 11 = .ok (.iconst 0, 1) := by decide +kernel
theorem dX7_negateRow_12 : decode cX7_negateRow 12 = .ok (.istore_n 2, 1) := by decide +kernel
theorem dX7_negateRow_13 : decode cX7_negateRow 13 = .ok (.iload_n 2, 1) := by decide +kernel
theorem dX7_negateRow_14 : decode cX7_negateRow 14 = .ok (.aload_n 0, 1) := by decide +kernel
theorem dX7_negateRow_15 : decode cX7_negateRow 15 = .ok (.getfield 19, 3) := by decide +kernel
theorem dX7_negateRow_18 : decode cX7_negateRow 18 = .ok (.if_icmp .ge 22, 3) := by decide +kernel
theorem dX7_negateRow_21 : decode cX7_negateRow 21 = .ok (.aload_n 0, 1) := by decide +kernel
theorem dX7_negateRow_22 : decode cX7_negateRow 22 = .ok (.iload_n 1, 1) := by decide +kernel
theorem dX7_negateRow_23 : decode cX7_negateRow 23 = .ok (.iload_n 2, 1) := by decide +kernel
theorem dX7_negateRow_24 : decode cX7_negateRow 24 = .ok (.aload_n 0, 1) := by decide +kernel
theorem dX7_negateRow_25 : decode cX7_negateRow 25 = .ok (.iload_n 1, 1) := by decide +kernel
theorem dX7_negateRow_26 : decode cX7_negateRow 26 = .ok (.iload_n 2, 1) := by decide +kernel
theorem dX7_negateRow_27 : decode cX7_negateRow 27 = .ok (.invokevirtual 28, 3) := by decide +kernel
theorem dX7_negateRow_30 : decode cX7_negateRow 30 = .ok (.ineg, 1) := by decide +kernel
theorem dX7_negateRow_31 : decode cX7_negateRow 31 = .ok (.invokevirtual 48, 3) := by decide +kernel
theorem dX7_negateRow_34 : decode cX7_negateRow 34 = .ok (.iinc 2 1, 3) := by decide +kernel
theorem dX7_negateRow_37 : decode cX7_negateRow 37 = .ok (.goto (-24), 3) := by decide +kernel
theorem dX7_negateRow_40 : decode cX7_negateRow 40 = .ok (.iconst (-1), 1) := by decide +kernel
theorem dX7_negateRow_41 : decode cX7_negateRow 41 = .ok (.ireturn, 1) := by decide +kernel
theorem dX7_changeRows_0 : decode cX7_changeRows 0 = .ok (.aload_n 0, 1) := by decide +kernel
theorem dX7_changeRows_1 : decode cX7_changeRows 1 = .ok (.iload_n 1, 1) := by decide +kernel
theorem dX7_changeRows_2 : decode cX7_changeRows 2 = .ok (.iconst 0, 1) := by decide +kernel
theorem dX7_changeRows_3 : decode cX7_changeRows 3 = .ok (.invokevirtual 79, 3) := by decide +kernel
theorem dX7_changeRows_6 : decode cX7_changeRows 6 = .ok (.ifCond .eq 12, 3) := by decide +kernel
theorem dX7_changeRows_9 : decode cX7_changeRows 9 = .ok (.aload_n 0, 1) := by decide +kernel
theorem dX7_changeRows_10 : decode cX7_changeRows 10 = .ok (.iload_n 2, 1) := by decide +kernel
theorem dX7_changeRows_11 : decode cX7_changeRows 11 = .ok (.iconst 0, 1) := by decide +kernel
theorem dX7_changeRows_12 : decode cX7_changeRows 12 = .ok (.invokevirtual 79, 3) := by decide +kernel
theorem dX7_changeRows_15 : decode cX7_changeRows 15 = .ok (.ifCond .ne 5, 3) := by decide +kernel
theorem dX7_changeRows_18 : decode cX7_changeRows 18 = .ok (.iconst 1, 1) := by decide +kernel
theorem dX7_changeRows_19 : decode cX7_changeRows 19 = .ok (.ireturn, 1) := by decide +kernel
theorem dX7_changeRows_20 : decode cX7_changeRows 20 = .ok (.iload_n 1, 1) := by decide +kernel
theorem dX7_changeRows_21 : decode cX7_changeRows 21 = .ok (.iload_n 2, 1) := by decide +kernel
theorem dX7_changeRows_22 : decode cX7_changeRows 22 = .ok (.if_icmp .ne 5, 3) := by decide +kernel
theorem dX7_changeRows_25 : decode cX7_changeRows 25 = .ok (.iconst 2, 1) := by decide +kernel
theorem dX7_changeRows_26 : decode cX7_changeRows 26 = .ok (.ireturn, 1) := by decide +kernel
theorem dX7_changeRows_27 : decode cX7_changeRows 27 = .ok (.iconst 0, 1) := by decide +kernel
theorem dX7_changeRows_28 : decode cX7_changeRows 28 = .ok (.istore_n 3, 1) := by decide +kernel
theorem dX7_changeRows_29 : decode cX7_changeRows 29 = .ok (.iload_n 3, 1) := by decide +kernel
theorem dX7_changeRows_30 : decode cX7_changeRows 30 = .ok (.aload_n 0, 1) := by decide +kernel
theorem dX7_changeRows_31 : decode cX7_changeRows 31 = .ok (.getfield 19, 3) := by decide +kernel
theorem dX7_changeRows_34 : decode cX7_changeRows 34 = .ok (.if_icmp .ge 37, 3) := by decide +kernel
theorem dX7_changeRows_37 : decode cX7_changeRows 37 = .ok (.aload_n 0, 1) := by decide +kernel
theorem dX7_changeRows_38 : decode cX7_changeRows 38 = .ok (.iload_n 1, 1) := by decide +kernel
theorem dX7_changeRows_39 : decode cX7_changeRows 39 = .ok (.iload_n 3, 1) := by decide +kernel
theorem dX7_changeRows_40 : decode cX7_changeRows 40 = .ok (.invokevirtual 28, 3) := by decide +kernel
theorem dX7_changeRows_43 : decode cX7_changeRows 43 = .ok (.istore 4, 2) := by decide +kernel
theorem dX7_changeRows_45 : decode cX7_changeRows 45 = .ok (.aload_n 0, 1) := by decide +kernel
theorem dX7_changeRows_46 : decode cX7_changeRows 46 = .ok (.iload_n 1, 1) := by decide +kernel
theorem dX7_changeRows_47 : decode cX7_changeRows 47 = .ok (.iload_n 3, 1) := by decide +kernel
theorem dX7_changeRows_48 : decode cX7_changeRows 48 = .ok (.aload_n 0, 1) := by decide +kernel
theorem dX7_changeRows_49 : decode cX7_changeRows 49 = .ok (.iload_n 2, 1) := by decide +kernel
theorem dX7_changeRows_50 : decode cX7_changeRows 50 = .ok (.iload_n 3, 1) := by decide +kernel
theorem dX7_changeRows_51 : decode cX7_changeRows 51 = .ok (.invokevirtual 28, 3) := by decide +kernel
theorem dX7_changeRows_54 : decode cX7_changeRows 54 = .ok (.invokevirtual 48, 3) := by decide +kernel
theorem dX7_changeRows_57 : decode cX7_changeRows 57 = .ok (.aload_n 0, 1) := by decide +kernel
theorem dX7_changeRows_58 : decode cX7_changeRows 58 = .ok (.iload_n 2, 1) := by decide +kernel
theorem dX7_changeRows_59 : decode cX7_changeRows 59 = .ok (.iload_n 3, 1) := by decide +kernel
theorem dX7_changeRows_60 : decode cX7_changeRows 60 = .ok (.iload 4, 2) := by decide +kernel
theorem dX7_changeRows_62 : decode cX7_changeRows 62 = .ok (.invokevirtual 48, 3) := by decide +kernel
theorem dX7_changeRows_65 : decode cX7_changeRows 65 = .ok (.iinc 3 1, 3) := by decide +kernel
theorem dX7_changeRows_68 : decode cX7_changeRows 68 = .ok (.goto (-39), 3) := by decide +kernel
theorem dX7_changeRows_71 : decode cX7_changeRows 71 = .ok (.iconst (-1), 1) := by decide +kernel
theorem dX7_changeRows_72 : decode cX7_changeRows 72 = .ok (.ireturn, 1) := by decide +kernel
theorem dX7_dropRow_0 : decode cX7_dropRow 0 = .ok (.aload_n 0, 1) := by decide +kernel
theorem dX7_dropRow_1 : decode cX7_dropRow 1 = .ok (.iload_n 1, 1) := by decide +kernel
theorem dX7_dropRow_2 : decode cX7_dropRow 2 = .ok (.iconst 0, 1) := by decide +kernel
theorem dX7_dropRow_3 : decode cX7_dropRow 3 = .ok (.invokevirtual 79, 3) := by decide +kernel
theorem dX7_dropRow_6 : decode cX7_dropRow 6 = .ok (.ifCond .ne 5, 3) := by decide +kernel
theorem dX7_dropRow_9 : decode cX7_dropRow 9 = .ok (.iconst 1, 1) := by decide +kernel
theorem dX7_dropRow_10 : decode cX7_dropRow 10 = .ok (.ireturn, 1) := by decide +kernel
theorem dX7_dropRow_11 : decode cX7_dropRow 11 = .ok (.aload_n 0, 1) := by decide +kernel
theorem dX7_dropRow_12 : decode cX7_dropRow 12 = .ok (.getfield 15, 3) := by decide +kernel
theorem dX7_dropRow_15 : decode cX7_dropRow 15 = .ok (.iconst 2, 1) := by decide +kernel
theorem dX7_dropRow_16 : decode cX7_dropRow 16 = .ok (.if_icmp .ge 5, 3) := by decide +kernel
theorem dX7_dropRow_19 : decode cX7_dropRow 19 = .ok (.iconst 3, 1) := by decide +kernel
theorem dX7_dropRow_20 : decode cX7_dropRow 20 = .ok (.ireturn, 1) := by decide +kernel
theorem dX7_dropRow_21 : decode cX7_dropRow 21 = .ok (.iload_n 1, 1) := by decide +kernel
theorem dX7_dropRow_22 : decode cX7_dropRow 22 = .ok (.iconst 1, 1) := by decide +kernel
theorem dX7_dropRow_23 : decode cX7_dropRow 23 = .ok (.iadd, 1) := by decide +kernel
theorem dX7_dropRow_24 : decode cX7_dropRow 24 = .ok (.istore_n 2, 1) := by decide +kernel
theorem dX7_dropRow_25 : decode cX7_dropRow 25 = .ok (.iload_n 2, 1) := by decide +kernel
theorem dX7_dropRow_26 : decode cX7_dropRow 26 = .ok (.aload_n 0, 1) := by decide +kernel
theorem dX7_dropRow_27 : decode cX7_dropRow 27 = .ok (.getfield 15, 3) := by decide +kernel
theorem dX7_dropRow_30 : decode cX7_dropRow 30 = .ok (.if_icmp .ge 39, 3) := by decide +kernel
theorem dX7_dropRow_33 : decode cX7_dropRow 33 = .ok (.iconst 0, 1) := by decide +kernel
theorem dX7_dropRow_34 : decode cX7_dropRow 34 = .ok (.istore_n 3, 1) := by decide +kernel
theorem dX7_dropRow_35 : decode cX7_dropRow 35 = .ok (.iload_n 3, 1) := by decide +kernel
theorem dX7_dropRow_36 : decode cX7_dropRow 36 = .ok (.aload_n 0, 1) := by decide +kernel
theorem dX7_dropRow_37 : decode cX7_dropRow 37 = .ok (.getfield 19, 3) := by decide +kernel
theorem dX7_dropRow_40 : decode cX7_dropRow 40 = .ok (.if_icmp .ge 23, 3) := by decide +kernel
theorem dX7_dropRow_43 : decode cX7_dropRow 43 = .ok (.aload_n 0, 1) := by decide +kernel
theorem dX7_dropRow_44 : decode cX7_dropRow 44 = .ok (.iload_n 2, 1) := by decide +kernel
theorem dX7_dropRow_45 : decode cX7_dropRow 45 = .ok (.iconst 1, 1) := by decide +kernel
theorem dX7_dropRow_46 : decode cX7_dropRow 46 = .ok (.isub, 1) := by decide +kernel
theorem dX7_dropRow_47 : decode cX7_dropRow 47 = .ok (.iload_n 3, 1) := by decide +kernel
theorem dX7_dropRow_48 : decode cX7_dropRow 48 = .ok (.aload_n 0, 1) := by decide +kernel
theorem dX7_dropRow_49 : decode cX7_dropRow 49 = .ok (.iload_n 2, 1) := by decide +kernel
theorem dX7_dropRow_50 : decode cX7_dropRow 50 = .ok (.iload_n 3, 1) := by decide +kernel
theorem dX7_dropRow_51 : decode cX7_dropRow 51 = .ok (.invokevirtual 28, 3) := by decide +kernel
theorem dX7_dropRow_54 : decode cX7_dropRow 54 = .ok (.invokevirtual 48, 3) := by decide +kernel
theorem dX7_dropRow_57 : decode cX7_dropRow 57 = .ok (.iinc 3 1, 3) := by decide +kernel
theorem dX7_dropRow_60 : decode cX7_dropRow 60 = .ok (.goto (-25), 3) := by decide +kernel
theorem dX7_dropRow_63 : decode cX7_dropRow 63 = .ok (.iinc 2 1, 3) := by decide +kernel
theorem dX7_dropRow_66 : decode cX7_dropRow 66 = .ok (.goto (-41), 3) := by decide +kernel
theorem dX7_dropRow_69 : decode cX7_dropRow 69 = .ok (.aload_n 0, 1) := by decide +kernel
theorem dX7_dropRow_70 : decode cX7_dropRow 70 = .ok (.dup, 1) := by decide +kernel
theorem dX7_dropRow_71 : decode cX7_dropRow 71 = .ok (.getfield 15, 3) := by decide +kernel
theorem dX7_dropRow_74 : decode cX7_dropRow 74 = .ok (.iconst 1, 1) := by decide +kernel
theorem dX7_dropRow_75 : decode cX7_dropRow 75 = .ok (.isub, 1) := by decide +kernel
theorem dX7_dropRow_76 : decode cX7_dropRow 76 = .ok (.putfield 15, 3) := by decide +kernel
theorem dX7_dropRow_79 : decode cX7_dropRow 79 = .ok (.iconst (-1), 1) := by decide +kernel
theorem dX7_dropRow_80 : decode cX7_dropRow 80 = .ok (.ireturn, 1) := by decide +kernel
theorem dX7_set_0 : decode cX7_set 0 = .ok (.aload_n 0, 1) := by decide +kernel
theorem dX7_set_1 : decode cX7_set 1 = .ok (.iload_n 1, 1) := by decide +kernel
theorem dX7_set_2 : decode cX7_set 2 = .ok (.iload_n 2, 1) := by decide +kernel
theorem dX7_set_3 : decode cX7_set 3 = .ok (.invokevirtual 79, 3) := by decide +kernel
theorem dX7_set_6 : decode cX7_set 6 = .ok (.ifCond .eq 13, 3) := by decide +kernel
theorem dX7_set_9 : decode cX7_set 9 = .ok (.iload_n 3, 1) := by decide +kernel
theorem dX7_set_10 : decode cX7_set 10 = .ok (.iconst (-1), 1) := by decide +kernel
theorem dX7_set_11 : decode cX7_set 11 = .ok (.if_icmp .lt 8, 3) := by decide +kernel
theorem dX7_set_14 : decode cX7_set 14 = .ok (.iload_n 3, 1) := by decide +kernel
theorem dX7_set_15 : decode cX7_set 15 = .ok (.iconst 1, 1) := by decide +kernel
theorem dX7_set_16 : decode cX7_set 16 = .ok (.if_icmp .le 5, 3) := by decide +kernel
theorem dX7_set_19 : decode cX7_set 19 = .ok (.iconst 1, 1) := by decide +kernel
theorem dX7_set_20 : decode cX7_set 20 = .ok (.ireturn, 1) := by decide +kernel
theorem dX7_set_21 : decode cX7_set 21 = .ok (.aload_n 0, 1) := by decide +kernel
theorem dX7_set_22 : decode cX7_set 22 = .ok (.iload_n 1, 1) := by decide +kernel
theorem dX7_set_23 : decode cX7_set 23 = .ok (.iload_n 2, 1) := by decide +kernel
theorem dX7_set_24 : decode cX7_set 24 = .ok (.invokevirtual 28, 3) := by decide +kernel
theorem dX7_set_27 : decode cX7_set 27 = .ok (.iload_n 3, 1) := by decide +kernel
theorem dX7_set_28 : decode cX7_set 28 = .ok (.if_icmp .ne 5, 3) := by decide +kernel
theorem dX7_set_31 : decode cX7_set 31 = .ok (.iconst 2, 1) := by decide +kernel
theorem dX7_set_32 : decode cX7_set 32 = .ok (.ireturn, 1) := by decide +kernel
theorem dX7_set_33 : decode cX7_set 33 = .ok (.aload_n 0, 1) := by decide +kernel
theorem dX7_set_34 : decode cX7_set 34 = .ok (.iload_n 1, 1) := by decide +kernel
theorem dX7_set_35 : decode cX7_set 35 = .ok (.iload_n 2, 1) := by decide +kernel
theorem dX7_set_36 : decode cX7_set 36 = .ok (.iload_n 3, 1) := by decide +kernel
theorem dX7_set_37 : decode cX7_set 37 = .ok (.invokevirtual 48, 3) := by decide +kernel
theorem dX7_set_40 : decode cX7_set 40 = .ok (.iconst (-1), 1) := by decide +kernel
theorem dX7_set_41 : decode cX7_set 41 = .ok (.ireturn, 1) := by decide +kernel
theorem dX7_turn_0 : decode cX7_turn 0 = .ok (.aload_n 0, 1) := by decide +kernel
theorem dX7_turn_1 : decode cX7_turn 1 = .ok (.iload_n 1, 1) := by decide +kernel
theorem dX7_turn_2 : decode cX7_turn 2 = .ok (.iload_n 2, 1) := by decide +kernel
theorem dX7_turn_3 : decode cX7_turn 3 = .ok (.invokevirtual 79, 3) := by decide +kernel
theorem dX7_turn_6 : decode cX7_turn 6 = .ok (.ifCond .ne 5, 3) := by decide +kernel
theorem dX7_turn_9 : decode cX7_turn 9 = .ok (.iconst 1, 1) := by decide +kernel
theorem dX7_turn_10 : decode cX7_turn 10 = .ok (.ireturn, 1) := by decide +kernel
theorem dX7_turn_11 : decode cX7_turn 11 = .ok (.aload_n 0, 1) := by decide +kernel
theorem dX7_turn_12 : decode cX7_turn 12 = .ok (.iload_n 1, 1) := by decide +kernel
theorem dX7_turn_13 : decode cX7_turn 13 = .ok (.iload_n 2, 1) := by decide +kernel
theorem dX7_turn_14 : decode cX7_turn 14 = .ok (.invokevirtual 28, 3) := by decide +kernel
theorem dX7_turn_17 : decode cX7_turn 17 = .ok (.ifCond .ne 5, 3) := by decide +kernel
theorem dX7_turn_20 : decode cX7_turn 20 = .ok (.iconst 2, 1) := by decide +kernel
theorem dX7_turn_21 : decode cX7_turn 21 = .ok (.ireturn, 1) := by decide +kernel
theorem dX7_turn_22 : decode cX7_turn 22 = .ok (.aload_n 0, 1) := by decide +kernel
theorem dX7_turn_23 : decode cX7_turn 23 = .ok (.iload_n 1, 1) := by decide +kernel
theorem dX7_turn_24 : decode cX7_turn 24 = .ok (.iload_n 2, 1) := by decide +kernel
theorem dX7_turn_25 : decode cX7_turn 25 = .ok (.invokevirtual 83, 3) := by decide +kernel
theorem dX7_turn_28 : decode cX7_turn 28 = .ok (.ifCond .ne 5, 3) := by decide +kernel
theorem dX7_turn_31 : decode cX7_turn 31 = .ok (.iconst 3, 1) := by decide +kernel
theorem dX7_turn_32 : decode cX7_turn 32 = .ok (.ireturn, 1) := by decide +kernel
theorem dX7_turn_33 : decode cX7_turn 33 = .ok (.aload_n 0, 1) := by decide +kernel
theorem dX7_turn_34 : decode cX7_turn 34 = .ok (.iload_n 1, 1) := by decide +kernel
theorem dX7_turn_35 : decode cX7_turn 35 = .ok (.iload_n 2, 1) := by decide +kernel
theorem dX7_turn_36 : decode cX7_turn 36 = .ok (.invokevirtual 28, 3) := by decide +kernel
theorem dX7_turn_39 : decode cX7_turn 39 = .ok (.istore_n 3, 1) := by decide +kernel
theorem dX7_turn_40 : decode cX7_turn 40 = .ok (.iconst 0, 1) := by decide +kernel
theorem dX7_turn_41 : decode cX7_turn 41 = .ok (.istore 4, 2) := by decide +kernel
theorem dX7_turn_43 : decode cX7_turn 43 = .ok (.iload 4, 2) := by decide +kernel
theorem dX7_turn_45 : decode cX7_turn 45 = .ok (.aload_n 0, 1) := by decide +kernel
theorem dX7_turn_46 : decode cX7_turn 46 = .ok (.getfield 15, 3) := by decide +kernel
theorem dX7_turn_49 : decode cX7_turn 49 = .ok (.if_icmp .ge 73, 3) := by decide +kernel
theorem dX7_turn_52 : decode cX7_turn 52 = .ok (.iconst 0, 1) := by decide +kernel
theorem dX7_turn_53 : decode cX7_turn 53 = .ok (.istore 5, 2) := by decide +kernel
theorem dX7_turn_55 : decode cX7_turn 55 = .ok (.iload 5, 2) := by decide +kernel
theorem dX7_turn_57 : decode cX7_turn 57 = .ok (.aload_n 0, 1) := by decide +kernel
theorem dX7_turn_58 : decode cX7_turn 58 = .ok (.getfield 19, 3) := by decide +kernel
theorem dX7_turn_61 : decode cX7_turn 61 = .ok (.if_icmp .ge 55, 3) := by decide +kernel
theorem dX7_turn_64 : decode cX7_turn 64 = .ok (.iload 4, 2) := by decide +kernel
theorem dX7_turn_66 : decode cX7_turn 66 = .ok (.iload_n 1, 1) := by decide +kernel
theorem dX7_turn_67 : decode cX7_turn 67 = .ok (.if_icmp .eq 43, 3) := by decide +kernel
theorem dX7_turn_70 : decode cX7_turn 70 = .ok (.iload 5, 2) := by decide +kernel
theorem dX7_turn_72 : decode cX7_turn 72 = .ok (.iload_n 2, 1) := by decide +kernel
theorem dX7_turn_73 : decode cX7_turn 73 = .ok (.if_icmp .eq 37, 3) := by decide +kernel
theorem dX7_turn_76 : decode cX7_turn 76 = .ok (.aload_n 0, 1) := by decide +kernel
theorem dX7_turn_77 : decode cX7_turn 77 = .ok (.iload 4, 2) := by decide +kernel
theorem dX7_turn_79 : decode cX7_turn 79 = .ok (.iload 5, 2) := by decide +kernel
theorem dX7_turn_81 : decode cX7_turn 81 = .ok (.aload_n 0, 1) := by decide +kernel
theorem dX7_turn_82 : decode cX7_turn 82 = .ok (.iload 4, 2) := by decide +kernel
theorem dX7_turn_84 : decode cX7_turn 84 = .ok (.iload 5, 2) := by decide +kernel
theorem dX7_turn_86 : decode cX7_turn 86 = .ok (.invokevirtual 28, 3) := by decide +kernel
theorem dX7_turn_89 : decode cX7_turn 89 = .ok (.iload_n 3, 1) := by decide +kernel
theorem dX7_turn_90 : decode cX7_turn 90 = .ok (.aload_n 0, 1) := by decide +kernel
theorem dX7_turn_91 : decode cX7_turn 91 = .ok (.iload 4, 2) := by decide +kernel
theorem dX7_turn_93 : decode cX7_turn 93 = .ok (.iload_n 2, 1) := by decide +kernel
theorem dX7_turn_94 : decode cX7_turn 94 = .ok (.invokevirtual 28, 3) := by decide +kernel
theorem dX7_turn_97 : decode cX7_turn 97 = .ok (.imul, 1) := by decide +kernel
theorem dX7_turn_98 : decode cX7_turn 98 = .ok (.aload_n 0, 1) := by decide +kernel
theorem dX7_turn_99 : decode cX7_turn 99 = .ok (.iload_n 1, 1) := by decide +kernel
theorem dX7_turn_100 : decode cX7_turn 100 = .ok (.iload 5, 2) := by decide +kernel
theorem dX7_turn_102 : decode cX7_turn 102 = .ok (.invokevirtual 28, 3) := by decide +kernel
theorem dX7_turn_105 : decode cX7_turn 105 = .ok (.imul, 1) := by decide +kernel
theorem dX7_turn_106 : decode cX7_turn 106 = .ok (.isub, 1) := by decide +kernel
theorem dX7_turn_107 : decode cX7_turn 107 = .ok (.invokevirtual 48, 3) := by decide +kernel
theorem dX7_turn_110 : decode cX7_turn 110 = .ok (.iinc 5 1, 3) := by decide +kernel
theorem dX7_turn_113 : decode cX7_turn 113 = .ok (.goto (-58), 3) := by decide +kernel
theorem dX7_turn_116 : decode cX7_turn 116 = .ok (.iinc 4 1, 3) := by decide +kernel
theorem dX7_turn_119 : decode cX7_turn 119 = .ok (.goto (-76), 3) := by decide +kernel
theorem dX7_turn_122 : decode cX7_turn 122 = .ok (.iconst 0, 1) := by decide +kernel
theorem dX7_turn_123 : decode cX7_turn 123 = .ok (.istore 4, 2) := by decide +kernel
theorem dX7_turn_125 : decode cX7_turn 125 = .ok (.iload 4, 2) := by decide +kernel
theorem dX7_turn_127 : decode cX7_turn 127 = .ok (.aload_n 0, 1) := by decide +kernel
theorem dX7_turn_128 : decode cX7_turn 128 = .ok (.getfield 15, 3) := by decide +kernel
theorem dX7_turn_131 : decode cX7_turn 131 = .ok (.if_icmp .ge 35, 3) := by decide +kernel
theorem dX7_turn_134 : decode cX7_turn 134 = .ok (.aload_n 0, 1) := by decide +kernel
theorem dX7_turn_135 : decode cX7_turn 135 = .ok (.iload 4, 2) := by decide +kernel
theorem dX7_turn_137 : decode cX7_turn 137 = .ok (.iload_n 2, 1) := by decide +kernel
theorem dX7_turn_138 : decode cX7_turn 138 = .ok (.aload_n 0, 1) := by decide +kernel
theorem dX7_turn_139 : decode cX7_turn 139 = .ok (.iload 4, 2) := by decide +kernel
theorem dX7_turn_141 : decode cX7_turn 141 = .ok (.iload_n 2, 1) := by decide +kernel
theorem dX7_turn_142 : decode cX7_turn 142 = .ok (.invokevirtual 28, 3) := by decide +kernel
theorem dX7_turn_145 : decode cX7_turn 145 = .ok (.iload 4, 2) := by decide +kernel
theorem dX7_turn_147 : decode cX7_turn 147 = .ok (.iload_n 1, 1) := by decide +kernel
theorem dX7_turn_148 : decode cX7_turn 148 = .ok (.if_icmp .ne 7, 3) := by decide +kernel
theorem dX7_turn_151 : decode cX7_turn 151 = .ok (.iconst 1, 1) := by decide +kernel
theorem dX7_turn_152 : decode cX7_turn 152 = .ok (.goto 4, 3) := by decide +kernel
theorem dX7_turn_155 : decode cX7_turn 155 = .ok (.iload_n 3, 1) := by decide +kernel
theorem dX7_turn_156 : decode cX7_turn 156 = .ok (.imul, 1) := by decide +kernel
theorem dX7_turn_157 : decode cX7_turn 157 = .ok (.invokevirtual 48, 3) := by decide +kernel
theorem dX7_turn_160 : decode cX7_turn 160 = .ok (.iinc 4 1, 3) := by decide +kernel
theorem dX7_turn_163 : decode cX7_turn 163 = .ok (.goto (-38), 3) := by decide +kernel
theorem dX7_turn_166 : decode cX7_turn 166 = .ok (.iconst 0, 1) := by decide +kernel
theorem dX7_turn_167 : decode cX7_turn 167 = .ok (.istore 4, 2) := by decide +kernel
theorem dX7_turn_169 : decode cX7_turn 169 = .ok (.iload 4, 2) := by decide +kernel
theorem dX7_turn_171 : decode cX7_turn 171 = .ok (.aload_n 0, 1) := by decide +kernel
theorem dX7_turn_172 : decode cX7_turn 172 = .ok (.getfield 19, 3) := by decide +kernel
theorem dX7_turn_175 : decode cX7_turn 175 = .ok (.if_icmp .ge 35, 3) := by decide +kernel
theorem dX7_turn_178 : decode cX7_turn 178 = .ok (.aload_n 0, 1) := by decide +kernel
theorem dX7_turn_179 : decode cX7_turn 179 = .ok (.iload_n 1, 1) := by decide +kernel
theorem dX7_turn_180 : decode cX7_turn 180 = .ok (.iload 4, 2) := by decide +kernel
theorem dX7_turn_182 : decode cX7_turn 182 = .ok (.aload_n 0, 1) := by decide +kernel
theorem dX7_turn_183 : decode cX7_turn 183 = .ok (.iload_n 1, 1) := by decide +kernel
theorem dX7_turn_184 : decode cX7_turn 184 = .ok (.iload 4, 2) := by decide +kernel
theorem dX7_turn_186 : decode cX7_turn 186 = .ok (.invokevirtual 28, 3) := by decide +kernel
theorem dX7_turn_189 : decode cX7_turn 189 = .ok (.iload 4, 2) := by decide +kernel
theorem dX7_turn_191 : decode cX7_turn 191 = .ok (.iload_n 2, 1) := by decide +kernel
theorem dX7_turn_192 : decode cX7_turn 192 = .ok (.if_icmp .ne 7, 3) := by decide +kernel
theorem dX7_turn_195 : decode cX7_turn 195 = .ok (.iconst (-1), 1) := by decide +kernel
theorem dX7_turn_196 : decode cX7_turn 196 = .ok (.goto 4, 3) := by decide +kernel
theorem dX7_turn_199 : decode cX7_turn 199 = .ok (.iload_n 3, 1) := by decide +kernel
theorem dX7_turn_200 : decode cX7_turn 200 = .ok (.imul, 1) := by decide +kernel
theorem dX7_turn_201 : decode cX7_turn 201 = .ok (.invokevirtual 48, 3) := by decide +kernel
theorem dX7_turn_204 : decode cX7_turn 204 = .ok (.iinc 4 1, 3) := by decide +kernel
theorem dX7_turn_207 : decode cX7_turn 207 = .ok (.goto (-38), 3) := by decide +kernel
theorem dX7_turn_210 : decode cX7_turn 210 = .ok (.iconst (-1), 1) := by decide +kernel
theorem dX7_turn_211 : decode cX7_turn 211 = .ok (.ireturn, 1) := by decide +kernel
theorem dX7_canTurn_0 : decode cX7_canTurn 0 = .ok (.aload_n 0, 1) := by decide +kernel
theorem dX7_canTurn_1 : decode cX7_canTurn 1 = .ok (.iload_n 1, 1) := by decide +kernel
theorem dX7_canTurn_2 : decode cX7_canTurn 2 = .ok (.iload_n 2, 1) := by decide +kernel
theorem dX7_canTurn_3 : decode cX7_canTurn 3 = .ok (.invokevirtual 28, 3) := by decide +kernel
theorem dX7_canTurn_6 : decode cX7_canTurn 6 = .ok (.istore_n 3, 1) := by decide +kernel
theorem dX7_canTurn_7 : decode cX7_canTurn 7 = .ok (.iconst 0, 1) := by decide +kernel
theorem dX7_canTurn_8 : decode cX7_canTurn 8 = .ok (.istore 4, 2) := by decide +kernel
theorem dX7_canTurn_10 : decode cX7_canTurn 10 = .ok (.iload 4, 2) := by decide +kernel
theorem dX7_canTurn_12 : decode cX7_canTurn 12 = .ok (.aload_n 0, 1) := by decide +kernel
theorem dX7_canTurn_13 : decode cX7_canTurn 13 = .ok (.getfield 15, 3) := by decide +kernel
theorem dX7_canTurn_16 : decode cX7_canTurn 16 = .ok (.if_icmp .ge 73, 3) := by decide +kernel
theorem dX7_canTurn_19 : decode cX7_canTurn 19 = .ok (.iconst 0, 1) := by decide +kernel
theorem dX7_canTurn_20 : decode cX7_canTurn 20 = .ok (.istore 5, 2) := by decide +kernel
theorem dX7_canTurn_22 : decode cX7_canTurn 22 = .ok (.iload 5, 2) := by decide +kernel
theorem dX7_canTurn_24 : decode cX7_canTurn 24 = .ok (.aload_n 0, 1) := by decide +kernel
theorem dX7_canTurn_25 : decode cX7_canTurn 25 = .ok (.getfield 19, 3) := by decide +kernel
theorem dX7_canTurn_28 : decode cX7_canTurn 28 = .ok (.if_icmp .ge 55, 3) := by decide +kernel
theorem dX7_canTurn_31 : decode cX7_canTurn 31 = .ok (.iload 4, 2) := by decide +kernel
theorem dX7_canTurn_33 : decode cX7_canTurn 33 = .ok (.iload_n 1, 1) := by decide +kernel
theorem dX7_canTurn_34 : decode cX7_canTurn 34 = .ok (.if_icmp .eq 43, 3) := by decide +kernel
theorem dX7_canTurn_37 : decode cX7_canTurn 37 = .ok (.iload 5, 2) := by decide +kernel
theorem dX7_canTurn_39 : decode cX7_canTurn 39 = .ok (.iload_n 2, 1) := by decide +kernel
theorem dX7_canTurn_40 : decode cX7_canTurn 40 = .ok (.if_icmp .eq 37, 3) := by decide +kernel
theorem dX7_canTurn_43 : decode cX7_canTurn 43 = .ok (.aload_n 0, 1) := by decide +kernel
theorem dX7_canTurn_44 : decode cX7_canTurn 44 = .ok (.iload 4, 2) := by decide +kernel
theorem dX7_canTurn_46 : decode cX7_canTurn 46 = .ok (.iload 5, 2) := by decide +kernel
theorem dX7_canTurn_48 : decode cX7_canTurn 48 = .ok (.invokevirtual 28, 3) := by decide +kernel
theorem dX7_canTurn_51 : decode cX7_canTurn 51 = .ok (.iload_n 3, 1) := by decide +kernel
theorem dX7_canTurn_52 : decode cX7_canTurn 52 = .ok (.aload_n 0, 1) := by decide +kernel
theorem dX7_canTurn_53 : decode cX7_canTurn 53 = .ok (.iload 4, 2) := by decide +kernel
theorem dX7_canTurn_55 : decode cX7_canTurn 55 = .ok (.iload_n 2, 1) := by decide +kernel
theorem dX7_canTurn_56 : decode cX7_canTurn 56 = .ok (.invokevirtual 28, 3) := by decide +kernel
theorem dX7_canTurn_59 : decode cX7_canTurn 59 = .ok (.imul, 1) := by decide +kernel
theorem dX7_canTurn_60 : decode cX7_canTurn 60 = .ok (.aload_n 0, 1) := by decide +kernel
theorem dX7_canTurn_61 : decode cX7_canTurn 61 = .ok (.iload_n 1, 1) := by decide +kernel
theorem dX7_canTurn_62 : decode cX7_canTurn 62 = .ok (.iload 5, 2) := by decide +kernel
theorem dX7_canTurn_64 : decode cX7_canTurn 64 = .ok (.invokevirtual 28, 3) := by decide +kernel
theorem dX7_canTurn_67 : decode cX7_canTurn 67 = .ok (.imul, 1) := by decide +kernel
theorem dX7_canTurn_68 : decode cX7_canTurn 68 = .ok (.isub, 1) := by decide +kernel
theorem dX7_canTurn_69 : decode cX7_canTurn 69 = .ok (.invokestatic 86, 3) := by decide +kernel
theorem dX7_canTurn_72 : decode cX7_canTurn 72 = .ok (.ifCond .eq 5, 3) := by decide +kernel
theorem dX7_canTurn_75 : decode cX7_canTurn 75 = .ok (.iconst 0, 1) := by decide +kernel
theorem dX7_canTurn_76 : decode cX7_canTurn 76 = .ok (.ireturn, 1) := by decide +kernel
theorem dX7_canTurn_77 : decode cX7_canTurn 77 = .ok (.iinc 5 1, 3) := by decide +kernel
theorem dX7_canTurn_80 : decode cX7_canTurn 80 = .ok (.goto (-58), 3) := by decide +kernel
theorem dX7_canTurn_83 : decode cX7_canTurn 83 = .ok (.iinc 4 1, 3) := by decide +kernel
theorem dX7_canTurn_86 : decode cX7_canTurn 86 = .ok (.goto (-76), 3) := by decide +kernel
theorem dX7_canTurn_89 : decode cX7_canTurn 89 = .ok (.iconst 1, 1) := by decide +kernel
theorem dX7_canTurn_90 : decode cX7_canTurn 90 = .ok (.ireturn, 1) := by decide +kernel
theorem dX7_onColumns_0 : decode cX7_onColumns 0 = .ok (.aload_n 0, 1) := by decide +kernel
theorem dX7_onColumns_1 : decode cX7_onColumns 1 = .ok (.invokevirtual 69, 3) := by decide +kernel
theorem dX7_onColumns_4 : decode cX7_onColumns 4 = .ok (.pop, 1) := by decide +kernel
theorem dX7_onColumns_5 : decode cX7_onColumns 5 = .ok (.iload_n 1, 1) := by decide +kernel
theorem dX7_onColumns_6 : decode cX7_onColumns 6 = .ok (.ifCond .ne 13, 3) := by decide +kernel
theorem dX7_onColumns_9 : decode cX7_onColumns 9 = .ok (.aload_n 0, 1) := by decide +kernel
theorem dX7_onColumns_10 : decode cX7_onColumns 10 = .ok (.iload_n 2, 1) := by decide +kernel
theorem dX7_onColumns_11 : decode cX7_onColumns 11 = .ok (.invokevirtual 56, 3) := by decide +kernel
theorem dX7_onColumns_14 : decode cX7_onColumns 14 = .ok (.istore 4, 2) := by decide +kernel
theorem dX7_onColumns_16 : decode cX7_onColumns 16 = .ok (.goto 26, 3) := by decide +kernel
theorem dX7_onColumns_19 : decode cX7_onColumns 19 = .ok (.iload_n 1, 1) := by decide +kernel
theorem dX7_onColumns_20 : decode cX7_onColumns 20 = .ok (.iconst 2, 1) := by decide +kernel
theorem dX7_onColumns_21 : decode cX7_onColumns 21 = .ok (.if_icmp .ne 14, 3) := by decide +kernel
theorem dX7_onColumns_24 : decode cX7_onColumns 24 = .ok (.aload_n 0, 1) := by decide +kernel
theorem dX7_onColumns_25 : decode cX7_onColumns 25 = .ok (.iload_n 2, 1) := by decide +kernel
theorem dX7_onColumns_26 : decode cX7_onColumns 26 = .ok (.iload_n 3, 1) := by decide +kernel
theorem dX7_onColumns_27 : decode cX7_onColumns 27 = .ok (.invokevirtual 63, 3) := by decide +kernel
theorem dX7_onColumns_30 : decode cX7_onColumns 30 = .ok (.istore 4, 2) := by decide +kernel
theorem dX7_onColumns_32 : decode cX7_onColumns 32 = .ok (.goto 10, 3) := by decide +kernel
theorem dX7_onColumns_35 : decode cX7_onColumns 35 = .ok (.aload_n 0, 1) := by decide +kernel
theorem dX7_onColumns_36 : decode cX7_onColumns 36 = .ok (.iload_n 2, 1) := by decide +kernel
theorem dX7_onColumns_37 : decode cX7_onColumns 37 = .ok (.invokevirtual 76, 3) := by decide +kernel
theorem dX7_onColumns_40 : decode cX7_onColumns 40 = .ok (.istore 4, 2) := by decide +kernel
theorem dX7_onColumns_42 : decode cX7_onColumns 42 = .ok (.aload_n 0, 1) := by decide +kernel
theorem dX7_onColumns_43 : decode cX7_onColumns 43 = .ok (.invokevirtual 69, 3) := by decide +kernel
theorem dX7_onColumns_46 : decode cX7_onColumns 46 = .ok (.pop, 1) := by decide +kernel
theorem dX7_onColumns_47 : decode cX7_onColumns 47 = .ok (.iload 4, 2) := by decide +kernel
theorem dX7_onColumns_49 : decode cX7_onColumns 49 = .ok (.ireturn, 1) := by decide +kernel
theorem dX7_act_0 : decode cX7_act 0 = .ok (.iload_n 1, 1) := by decide +kernel
theorem dX7_act_1 : decode cX7_act 1 = .ok (.tableswitch 116 0 8 #[51, 57, 65, 72, 80, 87, 92, 101, 107], 51) := by decide +kernel
theorem dX7_act_52 : decode cX7_act 52 = .ok (.aload_n 0, 1) := by decide +kernel
theorem dX7_act_53 : decode cX7_act 53 = .ok (.iload_n 2, 1) := by decide +kernel
theorem dX7_act_54 : decode cX7_act 54 = .ok (.invokevirtual 56, 3) := by decide +kernel
theorem dX7_act_57 : decode cX7_act 57 = .ok (.ireturn, 1) := by decide +kernel
theorem dX7_act_58 : decode cX7_act 58 = .ok (.aload_n 0, 1) := by decide +kernel
theorem dX7_act_59 : decode cX7_act 59 = .ok (.iconst 0, 1) := by decide +kernel
theorem dX7_act_60 : decode cX7_act 60 = .ok (.iload_n 2, 1) := by decide +kernel
theorem dX7_act_61 : decode cX7_act 61 = .ok (.iload_n 3, 1) := by decide +kernel
theorem dX7_act_62 : decode cX7_act 62 = .ok (.invokevirtual 59, 3) := by decide +kernel
theorem dX7_act_65 : decode cX7_act 65 = .ok (.ireturn, 1) := by decide +kernel
theorem dX7_act_66 : decode cX7_act 66 = .ok (.aload_n 0, 1) := by decide +kernel
theorem dX7_act_67 : decode cX7_act 67 = .ok (.iload_n 2, 1) := by decide +kernel
theorem dX7_act_68 : decode cX7_act 68 = .ok (.iload_n 3, 1) := by decide +kernel
theorem dX7_act_69 : decode cX7_act 69 = .ok (.invokevirtual 63, 3) := by decide +kernel
theorem dX7_act_72 : decode cX7_act 72 = .ok (.ireturn, 1) := by decide +kernel
theorem dX7_act_73 : decode cX7_act 73 = .ok (.aload_n 0, 1) := by decide +kernel
theorem dX7_act_74 : decode cX7_act 74 = .ok (.iconst 2, 1) := by decide +kernel
theorem dX7_act_75 : decode cX7_act 75 = .ok (.iload_n 2, 1) := by decide +kernel
theorem dX7_act_76 : decode cX7_act 76 = .ok (.iload_n 3, 1) := by decide +kernel
theorem dX7_act_77 : decode cX7_act 77 = .ok (.invokevirtual 59, 3) := by decide +kernel
theorem dX7_act_80 : decode cX7_act 80 = .ok (.ireturn, 1) := by decide +kernel
theorem dX7_act_81 : decode cX7_act 81 = .ok (.aload_n 0, 1) := by decide +kernel
theorem dX7_act_82 : decode cX7_act 82 = .ok (.iload_n 2, 1) := by decide +kernel
theorem dX7_act_83 : decode cX7_act 83 = .ok (.iload_n 3, 1) := by decide +kernel
theorem dX7_act_84 : decode cX7_act 84 = .ok (.invokevirtual 66, 3) := by decide +kernel
theorem dX7_act_87 : decode cX7_act 87 = .ok (.ireturn, 1) := by decide +kernel
theorem dX7_act_88 : decode cX7_act 88 = .ok (.aload_n 0, 1) := by decide +kernel
theorem dX7_act_89 : decode cX7_act 89 = .ok (.invokevirtual 69, 3) := by decide +kernel
theorem dX7_act_92 : decode cX7_act 92 = .ok (.ireturn, 1) := by decide +kernel
theorem dX7_act_93 : decode cX7_act 93 = .ok (.aload_n 0, 1) := by decide +kernel
theorem dX7_act_94 : decode cX7_act 94 = .ok (.iload_n 2, 1) := by decide +kernel
theorem dX7_act_95 : decode cX7_act 95 = .ok (.iload_n 3, 1) := by decide +kernel
theorem dX7_act_96 : decode cX7_act 96 = .ok (.iload 4, 2) := by decide +kernel
theorem dX7_act_98 : decode cX7_act 98 = .ok (.invokevirtual 73, 3) := by decide +kernel
theorem dX7_act_101 : decode cX7_act 101 = .ok (.ireturn, 1) := by decide +kernel
theorem dX7_act_102 : decode cX7_act 102 = .ok (.aload_n 0, 1) := by decide +kernel
theorem dX7_act_103 : decode cX7_act 103 = .ok (.iload_n 2, 1) := by decide +kernel
theorem dX7_act_104 : decode cX7_act 104 = .ok (.invokevirtual 76, 3) := by decide +kernel
theorem dX7_act_107 : decode cX7_act 107 = .ok (.ireturn, 1) := by decide +kernel
theorem dX7_act_108 : decode cX7_act 108 = .ok (.aload_n 0, 1) := by decide +kernel
theorem dX7_act_109 : decode cX7_act 109 = .ok (.bipush 7, 2) := by decide +kernel
theorem dX7_act_111 : decode cX7_act 111 = .ok (.iload_n 2, 1) := by decide +kernel
theorem dX7_act_112 : decode cX7_act 112 = .ok (.iload_n 3, 1) := by decide +kernel
theorem dX7_act_113 : decode cX7_act 113 = .ok (.invokevirtual 59, 3) := by decide +kernel
theorem dX7_act_116 : decode cX7_act 116 = .ok (.ireturn, 1) := by decide +kernel
theorem dX7_act_117 : decode cX7_act 117 = .ok (.iconst 1, 1) := by decide +kernel
theorem dX7_act_118 : decode cX7_act 118 = .ok (.ireturn, 1) := by decide +kernel
abbrev trT (T : tb) : tb := (T.2.1, T.1, fun i j => T.2.2 j i)
theorem c_transpose {σ : sg} {x : aW} {a : Nat} {T : tb} (hA : TL a) (h : CT σ a T) : Mt mX7_transpose 0 0 0 [.ref a] (wd σ x) (TQ σ x a (trT T) (some (.int (-1)))) := by
  refine Mt.of MI_X7_transpose (Nat.le_of_ble_eq_true rfl) (fun X hC hR hT => ?_)
  obtain ⟨k1, k2, k3, k4, k5⟩ := id h
  have outer : ∀ n, n ≤ 6 → ∀ g, grid g (σ.2.2 (a + 1)) (fun i j => if i < n ∧ j < n then σ.2.2 (a + 1) (6 * j + i) else σ.2.2 (a + 1) (6 * i + j)) → ∀ u2 u3, Rw mX7_transpose X 2 [some (.ref a), some (.int (nI n)), u2, u3] [] (wd (sA σ (a + 1) g) x) 0 0 := by
    refine up_loop 6 ?_ ?_
    · intro g hg u2 u3
      refine R_iload_n (i := 1) hC dX7_transpose_2 rfl rfl (R_bipush (v := 6) hC dX7_transpose_3 (by decide) ?_)
      refine R_icmp_ge hC 73 dX7_transpose_5 (by decide) (fun _ => ?_) (fun h => absurd (by decide) h)
      refine R_aload_n (i := 0) hC dX7_transpose_73 rfl rfl (R_gI hC dX7_transpose_74 fl_X7_15 hA.1 rfl ?_)
      refine R_top (y := nI T.1) (k1) ?_
      refine R_istore_n (i := 1) hC dX7_transpose_77 rfl (by decide) rfl (R_aload_n (i := 0) hC dX7_transpose_78 rfl rfl (R_aload_n (i := 0) hC dX7_transpose_79 rfl rfl (R_gI hC dX7_transpose_80 fl_X7_19 hA.1 rfl ?_)))
      refine R_top (y := nI T.2.1) (k2) ?_
      refine R_pI hC dX7_transpose_83 fl_X7_15 hA.1 rfl (R_aload_n (i := 0) hC dX7_transpose_86 rfl rfl (R_iload_n (i := 1) hC dX7_transpose_87 rfl rfl (R_pI hC dX7_transpose_88 fl_X7_19 hA.1 rfl (R_iconst (v := (-1)) hC dX7_transpose_91 (by decide) ?_))))
      exact R_iret hC hT dX7_transpose_92 rfl ⟨rfl, _, rfl, (((AE.rf _ σ).a (m2 _ _)).g (m1 _ _)).g (m1 _ _), by
      refine ⟨?_, sG_eq _ _ _ _, k4, k3, fun i j hi hj => ?_⟩
      · rw [sG_nk (by decide), sG_eq]
      · have hi : i < T.2.1 := hi
        have hj : j < T.1 := hj
        have e0 : g (6 * i + j) = if i < 6 ∧ j < 6 then σ.2.2 (a + 1) (6 * j + i) else σ.2.2 (a + 1) (6 * i + j) := hg.2.2 i j (by omega) (by omega)
        show (sA σ (a + 1) g).2.2 (a + 1) (6 * i + j) = _
        rw [sA_eq, e0, if_pos (by omega)]
        exact k5 j i hj hi⟩
    · intro n hn ih g hg u2 u3
      have inner : ∀ k, k ≤ n → ∀ g, grid g (σ.2.2 (a + 1)) (fun i j => if (i < n ∧ j < n) ∨ (i = n ∧ j < k) ∨ (j = n ∧ i < k) then σ.2.2 (a + 1) (6 * j + i) else σ.2.2 (a + 1) (6 * i + j)) → ∀ u3, Rw mX7_transpose X 10 [some (.ref a), some (.int (nI n)), some (.int (nI k)), u3] [] (wd (sA σ (a + 1) g) x) 0 0 := by
        refine up_loop n ?_ ?_
        · intro g hg u3
          refine R_iload_n (i := 2) hC dX7_transpose_10 rfl rfl (R_iload_n (i := 1) hC dX7_transpose_11 rfl rfl ?_)
          refine R_icmp_ge hC 67 dX7_transpose_12 (by decide) (fun _ => ?_) (fun h => absurd (Int32.le_refl _) h)
          refine R_iinc hC dX7_transpose_67 rfl (inc1 _) (by decide) rfl (R_goto hC 2 dX7_transpose_70 (by decide) ?_)
          exact ih _ (hg.cond (p2 := fun i j => i < n + 1 ∧ j < n + 1) (fun i j hi hj => by
          by_cases e : i = n ∧ j = n
          · obtain ⟨rfl, rfl⟩ := e; exact Or.inr rfl
          · exact Or.inl (by omega))) _ _
        · intro k hk ihk g hg u3
          refine R_iload_n (i := 2) hC dX7_transpose_10 rfl rfl (R_iload_n (i := 1) hC dX7_transpose_11 rfl rfl ?_)
          refine R_icmp_ge hC 67 dX7_transpose_12 (by decide) (fun h => absurd h (nI_ge hk (by omega))) (fun _ => ?_)
          refine R_aload_n (i := 0) hC dX7_transpose_15 rfl rfl (R_gR hC dX7_transpose_16 fl_X7_9 hA.1 rfl (R_iload_n (i := 1) hC dX7_transpose_19 rfl rfl (R_bipush (v := 6) hC dX7_transpose_20 (by decide) (R_imul hC dX7_transpose_22 (R_iload_n (i := 2) hC dX7_transpose_23 rfl rfl (R_iadd hC dX7_transpose_24 (R_aI hC dX7_transpose_25 hA.2 (6 * n + k) (n6b n k) (by omega) (by decide) ?_)))))))
          refine R_top (y := g (6 * n + k)) (by rw [sA_eq]) ?_
          refine R_istore_n (i := 3) hC dX7_transpose_26 rfl (by decide) rfl (R_aload_n (i := 0) hC dX7_transpose_27 rfl rfl (R_gR hC dX7_transpose_28 fl_X7_9 hA.1 rfl (R_iload_n (i := 1) hC dX7_transpose_31 rfl rfl (R_bipush (v := 6) hC dX7_transpose_32 (by decide) (R_imul hC dX7_transpose_34 (R_iload_n (i := 2) hC dX7_transpose_35 rfl rfl (R_iadd hC dX7_transpose_36 ?_)))))))
          refine R_aload_n (i := 0) hC dX7_transpose_37 rfl rfl (R_gR hC dX7_transpose_38 fl_X7_9 hA.1 rfl (R_iload_n (i := 2) hC dX7_transpose_41 rfl rfl (R_bipush (v := 6) hC dX7_transpose_42 (by decide) (R_imul hC dX7_transpose_44 (R_iload_n (i := 1) hC dX7_transpose_45 rfl rfl (R_iadd hC dX7_transpose_46 (R_aI hC dX7_transpose_47 hA.2 (6 * k + n) (n6b k n) (by omega) (by decide) ?_)))))))
          refine R_top (y := g (6 * k + n)) (by rw [sA_eq]) ?_
          refine R_sI hC dX7_transpose_48 hA.2 (6 * n + k) (n6b n k) (by omega) (by decide) ?_
          refine R_wd (by rw [sA_eq, sA_sA]) ?_
          refine R_aload_n (i := 0) hC dX7_transpose_49 rfl rfl (R_gR hC dX7_transpose_50 fl_X7_9 hA.1 rfl (R_iload_n (i := 2) hC dX7_transpose_53 rfl rfl (R_bipush (v := 6) hC dX7_transpose_54 (by decide) (R_imul hC dX7_transpose_56 (R_iload_n (i := 1) hC dX7_transpose_57 rfl rfl (R_iadd hC dX7_transpose_58 (R_iload_n (i := 3) hC dX7_transpose_59 rfl rfl ?_)))))))
          refine R_sI hC dX7_transpose_60 hA.2 (6 * k + n) (n6b k n) (by omega) (by decide) ?_
          refine R_wd (by rw [sA_eq, sA_sA]) ?_
          refine R_iinc hC dX7_transpose_61 rfl (inc1 _) (by decide) rfl (R_goto hC 10 dX7_transpose_64 (by decide) ?_)
          exact ihk _ (hg.put2 (a := n) (b := k) (c := k) (d := n) (p2 := fun i j => (i < n ∧ j < n) ∨ (i = n ∧ j < k + 1) ∨ (j = n ∧ i < k + 1)) hn (by omega) (by omega) hn (by rw [hg.2.2 k n (by omega) hn]; exact if_neg (by omega)) (by rw [hg.2.2 n k hn (by omega)]; exact if_neg (by omega)) (fun i j hi hj => by omega)) _
      refine R_iload_n (i := 1) hC dX7_transpose_2 rfl rfl (R_bipush (v := 6) hC dX7_transpose_3 (by decide) ?_)
      refine R_icmp_ge hC 73 dX7_transpose_5 (by decide) (fun h => absurd h (nI_ge (b := 6) hn (by decide))) (fun _ => ?_)
      refine R_iconst (v := 0) hC dX7_transpose_8 (by decide) (R_istore_n (i := 2) hC dX7_transpose_9 rfl (by decide) rfl ?_)
      exact inner 0 (Nat.zero_le _) g (hg.cond (p2 := fun i j => (i < n ∧ j < n) ∨ (i = n ∧ j < 0) ∨ (j = n ∧ i < 0)) (fun i j hi hj => Or.inl (by omega))) _
  refine R_iconst (v := 0) hC dX7_transpose_0 (by decide) (R_istore_n (i := 1) hC dX7_transpose_1 rfl (by decide) rfl ?_)
  (refine R_wd (τ := sA σ (a + 1) (σ.2.2 (a + 1))) (by rw [sA_self]) ?_; exact outer 0 (by decide) _ ⟨rfl, rfl, fun i j hi hj => (if_neg (by omega)).symm⟩ _ _)
/-- what an act of rows or columns answers, and the table behind it -/
noncomputable def actR (T : tb) (k : Nat) (a b : Int32) : Int32 × tb := (stopZ T k a b, if stopZ T k a b = -1 then doA k a.toNatClampNeg b.toNatClampNeg T else T)
theorem actR_y {T : tb} {k : Nat} {a b : Int32} (h : stopZ T k a b = -1) : actR T k a b = (-1, doA k a.toNatClampNeg b.toNatClampNeg T) := by unfold actR; rw [h, if_pos rfl]
theorem actR_n {T : tb} {k : Nat} {a b v : Int32} (h : stopZ T k a b = v) (hv : v ≠ -1) : actR T k a b = (v, T) := by unfold actR; rw [h, if_neg hv]
theorem TQ.i {σ τ : sg} {x : aW} {a : Nat} {T : tb} {v : Option Value} (c : AE [a, a + 1] σ τ) (h : CT τ a T) : TQ σ x a T v v (wd τ x) := ⟨rfl, τ, rfl, c, h⟩
/-- a table that is there -/
def tbI (T : tb) : Prop := 1 ≤ T.1 ∧ 1 ≤ T.2.1
theorem inR0 {n : Nat} (h : 1 ≤ n) (h6 : n ≤ 6) : inR n 0 := inR_n (i := 0) (by omega) h6
theorem c_negateRow {σ : sg} {x : aW} {a : Nat} {T : tb} (hA : TL a) (h : CT σ a T) (hI : tbI T) (r b : Int32) : Mt mX7_negateRow 1 0 0 [.ref a, .int r] (wd σ x) (TQ σ x a (actR T 0 r b).2 (some (.int (actR T 0 r b).1))) := by
  refine Mt.of MI_X7_negateRow (Nat.le_of_ble_eq_true rfl) (fun X hC hR hT => ?_)
  obtain ⟨k1, k2, k3, k4, k5⟩ := id h
  have h0 : ¬ T.1 = 0 := by have := hI.1; omega
  by_cases hr : inR T.1 r
  · have hs : stopZ T 0 r b = -1 := by simp [stopZ, h0, hr]
    rw [actR_y hs] at hT
    obtain ⟨i, rfl, hi, hi2⟩ := inR_i hr
    rw [nI_clamp hi2] at hT
    have loop : ∀ n, n ≤ T.2.1 → ∀ τ, AE [a, a + 1] σ τ → CT τ a (T.1, T.2.1, fun p q => if p = i ∧ q < n then -(T.2.2 p q) else T.2.2 p q) → Rw mX7_negateRow X 13 [some (.ref a), some (.int (nI i)), some (.int (nI n))] [] (wd τ x) 0 0 := by
      refine up_loop T.2.1 ?_ ?_
      · intro τ c ht
        refine R_iload_n (i := 2) hC dX7_negateRow_13 rfl rfl (R_aload_n (i := 0) hC dX7_negateRow_14 rfl rfl (R_gI hC dX7_negateRow_15 fl_X7_19 hA.1 rfl ?_))
        refine R_top (y := nI T.2.1) (ht.2.1) ?_
        refine R_icmp_ge hC 40 dX7_negateRow_18 (by decide) (fun _ => ?_) (fun h => absurd (Int32.le_refl _) h)
        refine R_iconst (v := (-1)) hC dX7_negateRow_40 (by decide) ?_
        exact R_iret hC hT dX7_negateRow_41 rfl (TQ.i c (ht.cg (f := (doA 0 i b.toNatClampNeg T).2.2) (fun p q hp hq => by
          have hq : q < T.2.1 := hq
          show (if p = i then -(T.2.2 p q) else T.2.2 p q) = if p = i ∧ q < T.2.1 then -(T.2.2 p q) else T.2.2 p q
          by_cases e : p = i <;> simp [e, hq])))
      · intro n hn ih τ c ht
        have ev : (if i = i ∧ n < n then -(T.2.2 i n) else T.2.2 i n) = T.2.2 i n := if_neg (by omega)
        refine R_iload_n (i := 2) hC dX7_negateRow_13 rfl rfl (R_aload_n (i := 0) hC dX7_negateRow_14 rfl rfl (R_gI hC dX7_negateRow_15 fl_X7_19 hA.1 rfl ?_))
        refine R_top (y := nI T.2.1) (ht.2.1) ?_
        refine R_icmp_ge hC 40 dX7_negateRow_18 (by decide) (fun h => absurd h (nI_ge hn (by omega))) (fun _ => ?_)
        refine R_aload_n (i := 0) hC dX7_negateRow_21 rfl rfl (R_iload_n (i := 1) hC dX7_negateRow_22 rfl rfl (R_iload_n (i := 2) hC dX7_negateRow_23 rfl rfl (R_aload_n (i := 0) hC dX7_negateRow_24 rfl rfl (R_iload_n (i := 1) hC dX7_negateRow_25 rfl rfl (R_iload_n (i := 2) hC dX7_negateRow_26 rfl rfl ?_)))))
        refine R_V2i hC hR dX7_negateRow_27 MV_X7_at ml_X7_28 hA.1 rfl (c_atN hA ht hi hn) (by first | decide | omega) ⟨by decide, by decide⟩ (Nat.le_of_ble_eq_true rfl) ?_
        refine R_ineg hC dX7_negateRow_30 ?_
        refine R_V3v hC hR dX7_negateRow_31 MV_X7_put ml_X7_48 hA.1 rfl (c_put hA ht hi hn _) (by first | decide | omega) ⟨by decide, by decide⟩ (Nat.le_of_ble_eq_true rfl) ?_
        refine R_iinc hC dX7_negateRow_34 rfl (inc1 _) (by decide) rfl (R_goto hC 13 dX7_negateRow_37 (by decide) ?_)
        exact ih _ (c.a (m2 _ _)) ((ht.put hn _).cg (fun p q hp hq => by
         show (if p = i ∧ q < n + 1 then _ else _) = (if p = i ∧ q = n then -(if i = i ∧ n < n then -(T.2.2 i n) else T.2.2 i n) else if p = i ∧ q < n then -(T.2.2 p q) else T.2.2 p q)
         rw [ev]
         by_cases e : p = i
         · subst e
           by_cases e2 : q = n
           · subst e2; simp
           · by_cases e3 : q < n
             · simp [e2, e3, show q < n + 1 by omega]
             · simp [e2, e3, show ¬ q < n + 1 by omega]
         · simp [e]))
    refine R_aload_n (i := 0) hC dX7_negateRow_0 rfl rfl (R_iload_n (i := 1) hC dX7_negateRow_1 rfl rfl (R_iconst (v := 0) hC dX7_negateRow_2 (by decide) ?_))
    refine R_V2i hC hR dX7_negateRow_3 MV_X7_has ml_X7_79 hA.1 rfl (c_has hA h _ _) (by first | decide | omega) ⟨by decide, by decide⟩ (Nat.le_of_ble_eq_true rfl) ?_
    refine R_top (y := 1) (b2i_t ⟨hr, inR0 hI.2 k4⟩) ?_
    refine R_if_ne hC 11 dX7_negateRow_6 (by decide) (fun _ => ?_) (fun h => absurd h (by decide))
    refine R_iconst (v := 0) hC dX7_negateRow_11 (by decide) (R_istore_n (i := 2) hC dX7_negateRow_12 rfl (by decide) rfl ?_)
    exact loop 0 (Nat.zero_le _) σ (AE.rf _ _) (h.cg (fun p q hp hq => if_neg (by omega)))
  · have hs : stopZ T 0 r b = 1 := by simp [stopZ, h0, hr]
    rw [actR_n hs (by decide)] at hT
    refine R_aload_n (i := 0) hC dX7_negateRow_0 rfl rfl (R_iload_n (i := 1) hC dX7_negateRow_1 rfl rfl (R_iconst (v := 0) hC dX7_negateRow_2 (by decide) ?_))
    refine R_V2i hC hR dX7_negateRow_3 MV_X7_has ml_X7_79 hA.1 rfl (c_has hA h _ _) (by first | decide | omega) ⟨by decide, by decide⟩ (Nat.le_of_ble_eq_true rfl) ?_
    refine R_top (y := 0) (b2i_f (fun q => hr q.1)) ?_
    refine R_if_ne hC 11 dX7_negateRow_6 (by decide) (fun h => absurd rfl h) (fun _ => ?_)
    refine R_iconst (v := 1) hC dX7_negateRow_9 (by decide) ?_
    exact R_iret hC hT dX7_negateRow_10 rfl (TQ.i (AE.rf _ _) h)
theorem c_changeRows {σ : sg} {x : aW} {a : Nat} {T : tb} (hA : TL a) (h : CT σ a T) (hI : tbI T) (r b : Int32) : Mt mX7_changeRows 1 0 0 [.ref a, .int r, .int b] (wd σ x) (TQ σ x a (actR T 2 r b).2 (some (.int (actR T 2 r b).1))) := by
  refine Mt.of MI_X7_changeRows (Nat.le_of_ble_eq_true rfl) (fun X hC hR hT => ?_)
  obtain ⟨k1, k2, k3, k4, k5⟩ := id h
  have h0 : ¬ T.1 = 0 := by have := hI.1; omega
  have z0 := inR0 hI.2 k4
  by_cases hr : inR T.1 r ∧ inR T.1 b
  · by_cases hab : r = b
    · have hs : stopZ T 2 r b = 2 := by simp [stopZ, h0, hr, hab]
      rw [actR_n hs (by decide)] at hT
      refine R_aload_n (i := 0) hC dX7_changeRows_0 rfl rfl (R_iload_n (i := 1) hC dX7_changeRows_1 rfl rfl (R_iconst (v := 0) hC dX7_changeRows_2 (by decide) ?_))
      refine R_V2i hC hR dX7_changeRows_3 MV_X7_has ml_X7_79 hA.1 rfl (c_has hA h _ _) (by first | decide | omega) ⟨by decide, by decide⟩ (Nat.le_of_ble_eq_true rfl) ?_
      refine R_top (y := 1) (b2i_t ⟨hr.1, z0⟩) ?_
      refine R_if_eq hC 18 dX7_changeRows_6 (by decide) (fun h => absurd h (by decide)) (fun _ => ?_)
      refine R_aload_n (i := 0) hC dX7_changeRows_9 rfl rfl (R_iload_n (i := 2) hC dX7_changeRows_10 rfl rfl (R_iconst (v := 0) hC dX7_changeRows_11 (by decide) ?_))
      refine R_V2i hC hR dX7_changeRows_12 MV_X7_has ml_X7_79 hA.1 rfl (c_has hA h _ _) (by first | decide | omega) ⟨by decide, by decide⟩ (Nat.le_of_ble_eq_true rfl) ?_
      refine R_top (y := 1) (b2i_t ⟨hr.2, z0⟩) ?_
      refine R_if_ne hC 20 dX7_changeRows_15 (by decide) (fun _ => ?_) (fun h => absurd h (by decide))
      refine R_iload_n (i := 1) hC dX7_changeRows_20 rfl rfl (R_iload_n (i := 2) hC dX7_changeRows_21 rfl rfl ?_)
      refine R_icmp_ne hC 27 dX7_changeRows_22 (by decide) (fun h => absurd hab h) (fun _ => ?_)
      refine R_iconst (v := 2) hC dX7_changeRows_25 (by decide) ?_
      exact R_iret hC hT dX7_changeRows_26 rfl (TQ.i (AE.rf _ _) h)
    · have hs : stopZ T 2 r b = -1 := by simp [stopZ, h0, hr, hab]
      rw [actR_y hs] at hT
      obtain ⟨i, rfl, hi, hi2⟩ := inR_i hr.1
      obtain ⟨k, rfl, hk, hk2⟩ := inR_i hr.2
      have hik : i ≠ k := fun e => hab (by rw [e])
      rw [nI_clamp hi2, nI_clamp hk2] at hT
      have loop : ∀ n, n ≤ T.2.1 → ∀ τ, AE [a, a + 1] σ τ → CT τ a (T.1, T.2.1, fun p q => if q < n then (if p = i then T.2.2 k q else if p = k then T.2.2 i q else T.2.2 p q) else T.2.2 p q) → ∀ u4, Rw mX7_changeRows X 29 [some (.ref a), some (.int (nI i)), some (.int (nI k)), some (.int (nI n)), u4] [] (wd τ x) 0 0 := by
        refine up_loop T.2.1 ?_ ?_
        · intro τ c ht u4
          refine R_iload_n (i := 3) hC dX7_changeRows_29 rfl rfl (R_aload_n (i := 0) hC dX7_changeRows_30 rfl rfl (R_gI hC dX7_changeRows_31 fl_X7_19 hA.1 rfl ?_))
          refine R_top (y := nI T.2.1) (ht.2.1) ?_
          refine R_icmp_ge hC 71 dX7_changeRows_34 (by decide) (fun _ => ?_) (fun h => absurd (Int32.le_refl _) h)
          refine R_iconst (v := (-1)) hC dX7_changeRows_71 (by decide) ?_
          exact R_iret hC hT dX7_changeRows_72 rfl (TQ.i c (ht.cg (f := (doA 2 i k T).2.2) (fun p q hp hq => (if_pos hq).symm)))
        · intro n hn ih τ c ht u4
          have e1 : ∀ p, (if n < n then (if p = i then T.2.2 k n else if p = k then T.2.2 i n else T.2.2 p n) else T.2.2 p n) = T.2.2 p n := fun p => if_neg (by omega)
          refine R_iload_n (i := 3) hC dX7_changeRows_29 rfl rfl (R_aload_n (i := 0) hC dX7_changeRows_30 rfl rfl (R_gI hC dX7_changeRows_31 fl_X7_19 hA.1 rfl ?_))
          refine R_top (y := nI T.2.1) (ht.2.1) ?_
          refine R_icmp_ge hC 71 dX7_changeRows_34 (by decide) (fun h => absurd h (nI_ge hn (by omega))) (fun _ => ?_)
          refine R_aload_n (i := 0) hC dX7_changeRows_37 rfl rfl (R_iload_n (i := 1) hC dX7_changeRows_38 rfl rfl (R_iload_n (i := 3) hC dX7_changeRows_39 rfl rfl ?_))
          refine R_V2i hC hR dX7_changeRows_40 MV_X7_at ml_X7_28 hA.1 rfl (c_atN hA ht hi hn) (by first | decide | omega) ⟨by decide, by decide⟩ (Nat.le_of_ble_eq_true rfl) ?_
          refine R_top (y := T.2.2 i n) (e1 i) ?_
          refine R_istore hC dX7_changeRows_43 (by decide) rfl (R_aload_n (i := 0) hC dX7_changeRows_45 rfl rfl (R_iload_n (i := 1) hC dX7_changeRows_46 rfl rfl (R_iload_n (i := 3) hC dX7_changeRows_47 rfl rfl (R_aload_n (i := 0) hC dX7_changeRows_48 rfl rfl (R_iload_n (i := 2) hC dX7_changeRows_49 rfl rfl (R_iload_n (i := 3) hC dX7_changeRows_50 rfl rfl ?_))))))
          refine R_V2i hC hR dX7_changeRows_51 MV_X7_at ml_X7_28 hA.1 rfl (c_atN hA ht hk hn) (by first | decide | omega) ⟨by decide, by decide⟩ (Nat.le_of_ble_eq_true rfl) ?_
          refine R_top (y := T.2.2 k n) (e1 k) ?_
          refine R_V3v hC hR dX7_changeRows_54 MV_X7_put ml_X7_48 hA.1 rfl (c_put hA ht hi hn _) (by first | decide | omega) ⟨by decide, by decide⟩ (Nat.le_of_ble_eq_true rfl) ?_
          have ht1 := ht.put (i := i) hn (T.2.2 k n)
          refine R_aload_n (i := 0) hC dX7_changeRows_57 rfl rfl (R_iload_n (i := 2) hC dX7_changeRows_58 rfl rfl (R_iload_n (i := 3) hC dX7_changeRows_59 rfl rfl (R_iload hC dX7_changeRows_60 rfl ?_)))
          refine R_V3v hC hR dX7_changeRows_62 MV_X7_put ml_X7_48 hA.1 rfl (c_put hA ht1 (i := k) (j := n) hk hn _) (by first | decide | omega) ⟨by decide, by decide⟩ (Nat.le_of_ble_eq_true rfl) ?_
          refine R_iinc hC dX7_changeRows_65 rfl (inc1 _) (by decide) rfl (R_goto hC 29 dX7_changeRows_68 (by decide) ?_)
          exact ih _ ((c.a (m2 _ _)).a (m2 _ _)) ((ht1.put (i := k) hn (T.2.2 i n)).cg (fun p q hp hq => by
           show (if q < n + 1 then _ else _) = (if p = k ∧ q = n then T.2.2 i n else if p = i ∧ q = n then T.2.2 k n else if q < n then (if p = i then T.2.2 k q else if p = k then T.2.2 i q else T.2.2 p q) else T.2.2 p q)
           by_cases e2 : q = n
           · subst e2
             by_cases e : p = i
             · subst e; simp [hik]
             · by_cases e3 : p = k
               · subst e3; simp [e]
               · simp [e, e3]
           · by_cases e3 : q < n
             · simp [e2, e3, show q < n + 1 by omega]
             · simp [e2, e3, show ¬ q < n + 1 by omega])) _
      refine R_aload_n (i := 0) hC dX7_changeRows_0 rfl rfl (R_iload_n (i := 1) hC dX7_changeRows_1 rfl rfl (R_iconst (v := 0) hC dX7_changeRows_2 (by decide) ?_))
      refine R_V2i hC hR dX7_changeRows_3 MV_X7_has ml_X7_79 hA.1 rfl (c_has hA h _ _) (by first | decide | omega) ⟨by decide, by decide⟩ (Nat.le_of_ble_eq_true rfl) ?_
      refine R_top (y := 1) (b2i_t ⟨hr.1, z0⟩) ?_
      refine R_if_eq hC 18 dX7_changeRows_6 (by decide) (fun h => absurd h (by decide)) (fun _ => ?_)
      refine R_aload_n (i := 0) hC dX7_changeRows_9 rfl rfl (R_iload_n (i := 2) hC dX7_changeRows_10 rfl rfl (R_iconst (v := 0) hC dX7_changeRows_11 (by decide) ?_))
      refine R_V2i hC hR dX7_changeRows_12 MV_X7_has ml_X7_79 hA.1 rfl (c_has hA h _ _) (by first | decide | omega) ⟨by decide, by decide⟩ (Nat.le_of_ble_eq_true rfl) ?_
      refine R_top (y := 1) (b2i_t ⟨hr.2, z0⟩) ?_
      refine R_if_ne hC 20 dX7_changeRows_15 (by decide) (fun _ => ?_) (fun h => absurd h (by decide))
      refine R_iload_n (i := 1) hC dX7_changeRows_20 rfl rfl (R_iload_n (i := 2) hC dX7_changeRows_21 rfl rfl ?_)
      refine R_icmp_ne hC 27 dX7_changeRows_22 (by decide) (fun _ => ?_) (fun h => absurd h hab)
      refine R_iconst (v := 0) hC dX7_changeRows_27 (by decide) (R_istore_n (i := 3) hC dX7_changeRows_28 rfl (by decide) rfl ?_)
      exact loop 0 (Nat.zero_le _) σ (AE.rf _ _) (h.cg (fun p q hp hq => if_neg (by omega))) _
  · have hs : stopZ T 2 r b = 1 := by simp [stopZ, h0, hr]
    rw [actR_n hs (by decide)] at hT
    refine R_aload_n (i := 0) hC dX7_changeRows_0 rfl rfl (R_iload_n (i := 1) hC dX7_changeRows_1 rfl rfl (R_iconst (v := 0) hC dX7_changeRows_2 (by decide) ?_))
    refine R_V2i hC hR dX7_changeRows_3 MV_X7_has ml_X7_79 hA.1 rfl (c_has hA h _ _) (by first | decide | omega) ⟨by decide, by decide⟩ (Nat.le_of_ble_eq_true rfl) ?_
    refine R_if_eq hC 18 dX7_changeRows_6 (by decide) (fun h6 => ?_) (fun h6 => ?_)
    · refine R_iconst (v := 1) hC dX7_changeRows_18 (by decide) ?_
      exact R_iret hC hT dX7_changeRows_19 rfl (TQ.i (AE.rf _ _) h)
    · refine R_aload_n (i := 0) hC dX7_changeRows_9 rfl rfl (R_iload_n (i := 2) hC dX7_changeRows_10 rfl rfl (R_iconst (v := 0) hC dX7_changeRows_11 (by decide) ?_))
      refine R_V2i hC hR dX7_changeRows_12 MV_X7_has ml_X7_79 hA.1 rfl (c_has hA h _ _) (by first | decide | omega) ⟨by decide, by decide⟩ (Nat.le_of_ble_eq_true rfl) ?_
      refine R_if_ne hC 20 dX7_changeRows_15 (by decide) (fun h15 => ?_) (fun h15 => ?_)
      · exact absurd ⟨(b2i_ne h6).1, (b2i_ne h15).1⟩ hr
      · refine R_iconst (v := 1) hC dX7_changeRows_18 (by decide) ?_
        exact R_iret hC hT dX7_changeRows_19 rfl (TQ.i (AE.rf _ _) h)
theorem c_dropRow {σ : sg} {x : aW} {a : Nat} {T : tb} (hA : TL a) (h : CT σ a T) (hI : tbI T) (r b : Int32) : Mt mX7_dropRow 1 0 0 [.ref a, .int r] (wd σ x) (TQ σ x a (actR T 6 r b).2 (some (.int (actR T 6 r b).1))) := by
  refine Mt.of MI_X7_dropRow (Nat.le_of_ble_eq_true rfl) (fun X hC hR hT => ?_)
  obtain ⟨k1, k2, k3, k4, k5⟩ := id h
  have h0 : ¬ T.1 = 0 := by have := hI.1; omega
  have z0 := inR0 hI.2 k4
  by_cases hr : inR T.1 r
  · by_cases hab : T.1 = 1
    · rw [actR_n (st_6b h0 hr hab) (by decide)] at hT
      refine R_aload_n (i := 0) hC dX7_dropRow_0 rfl rfl (R_iload_n (i := 1) hC dX7_dropRow_1 rfl rfl (R_iconst (v := 0) hC dX7_dropRow_2 (by decide) ?_))
      refine R_V2i hC hR dX7_dropRow_3 MV_X7_has ml_X7_79 hA.1 rfl (c_has hA h _ _) (by first | decide | omega) ⟨by decide, by decide⟩ (Nat.le_of_ble_eq_true rfl) ?_
      refine R_top (y := 1) (b2i_t ⟨hr, z0⟩) ?_
      refine R_if_ne hC 11 dX7_dropRow_6 (by decide) (fun _ => ?_) (fun h => absurd h (by decide))
      refine R_aload_n (i := 0) hC dX7_dropRow_11 rfl rfl (R_gI hC dX7_dropRow_12 fl_X7_15 hA.1 rfl ?_)
      refine R_top (y := nI 1) (by rw [k1, hab]) ?_
      refine R_iconst (v := 2) hC dX7_dropRow_15 (by decide) ?_
      refine R_icmp_ge hC 21 dX7_dropRow_16 (by decide) (fun h => absurd h (by decide)) (fun _ => ?_)
      refine R_iconst (v := 3) hC dX7_dropRow_19 (by decide) ?_
      exact R_iret hC hT dX7_dropRow_20 rfl (TQ.i (AE.rf _ _) h)
    · rw [actR_y (st_6c h0 hr hab)] at hT
      obtain ⟨i, rfl, hi, hi2⟩ := inR_i hr
      rw [nI_clamp hi2] at hT
      have loop : ∀ n, n ≤ T.1 → i + 1 ≤ n → ∀ τ, AE [a, a + 1] σ τ → CT τ a (T.1, T.2.1, fun p q => if i ≤ p ∧ p + 1 < n then T.2.2 (p + 1) q else T.2.2 p q) → ∀ u3, Rw mX7_dropRow X 25 [some (.ref a), some (.int (nI i)), some (.int (nI n)), u3] [] (wd τ x) 0 0 := by
        refine up_loop T.1 ?_ ?_
        · intro hin τ c ht u3
          refine R_iload_n (i := 2) hC dX7_dropRow_25 rfl rfl (R_aload_n (i := 0) hC dX7_dropRow_26 rfl rfl (R_gI hC dX7_dropRow_27 fl_X7_15 hA.1 rfl ?_))
          refine R_top (y := nI T.1) (ht.1) ?_
          refine R_icmp_ge hC 69 dX7_dropRow_30 (by decide) (fun _ => ?_) (fun h => absurd (Int32.le_refl _) h)
          refine R_aload_n (i := 0) hC dX7_dropRow_69 rfl rfl (R_dup hC dX7_dropRow_70 rfl (R_gI hC dX7_dropRow_71 fl_X7_15 hA.1 rfl ?_))
          refine R_top (y := nI T.1) (ht.1) ?_
          refine R_iconst (v := 1) hC dX7_dropRow_74 (by decide) (R_isub hC dX7_dropRow_75 ?_)
          refine R_top (y := nI (T.1 - 1)) (by rw [show T.1 = T.1 - 1 + 1 by omega, nI_pred]; rfl) ?_
          refine R_pI hC dX7_dropRow_76 fl_X7_15 hA.1 rfl (R_iconst (v := (-1)) hC dX7_dropRow_79 (by decide) ?_)
          exact R_iret hC hT dX7_dropRow_80 rfl (TQ.i (c.g (m1 _ _)) ⟨sG_eq _ _ _ _, by rw [sG_nk (by decide)]; exact ht.2.1, by show T.1 - 1 ≤ 6; omega, k4, fun p q hp hq => by
            have hp : p < T.1 - 1 := hp
            refine (ht.2.2.2.2 p q (by show p < T.1; omega) hq).trans ?_
            show (if i ≤ p ∧ p + 1 < T.1 then T.2.2 (p + 1) q else T.2.2 p q) = if p < i then T.2.2 p q else T.2.2 (p + 1) q
            by_cases e : p < i
            · rw [if_pos e, if_neg (by omega)]
            · rw [if_neg e, if_pos (by omega)]⟩)
        · intro n hn ih hin τ c ht u3
          have inner : ∀ m, m ≤ T.2.1 → ∀ τ, AE [a, a + 1] σ τ → CT τ a (T.1, T.2.1, fun p q => if (i ≤ p ∧ p + 1 < n) ∨ (p + 1 = n ∧ q < m) then T.2.2 (p + 1) q else T.2.2 p q) → Rw mX7_dropRow X 35 [some (.ref a), some (.int (nI i)), some (.int (nI n)), some (.int (nI m))] [] (wd τ x) 0 0 := by
            refine up_loop T.2.1 ?_ ?_
            · intro τ c ht
              refine R_iload_n (i := 3) hC dX7_dropRow_35 rfl rfl (R_aload_n (i := 0) hC dX7_dropRow_36 rfl rfl (R_gI hC dX7_dropRow_37 fl_X7_19 hA.1 rfl ?_))
              refine R_top (y := nI T.2.1) (ht.2.1) ?_
              refine R_icmp_ge hC 63 dX7_dropRow_40 (by decide) (fun _ => ?_) (fun h => absurd (Int32.le_refl _) h)
              refine R_iinc hC dX7_dropRow_63 rfl (inc1 _) (by decide) rfl (R_goto hC 25 dX7_dropRow_66 (by decide) ?_)
              exact ih (by omega) τ c (ht.cg (fun p q hp hq => by
                have hq : q < T.2.1 := hq
                show (if i ≤ p ∧ p + 1 < n + 1 then _ else _) = if (i ≤ p ∧ p + 1 < n) ∨ (p + 1 = n ∧ q < T.2.1) then _ else _
                by_cases e : i ≤ p ∧ p + 1 < n + 1
                · rw [if_pos e, if_pos (by omega)]
                · rw [if_neg e, if_neg (by omega)])) _
            · intro m hm ihm τ c ht
              refine R_iload_n (i := 3) hC dX7_dropRow_35 rfl rfl (R_aload_n (i := 0) hC dX7_dropRow_36 rfl rfl (R_gI hC dX7_dropRow_37 fl_X7_19 hA.1 rfl ?_))
              refine R_top (y := nI T.2.1) (ht.2.1) ?_
              refine R_icmp_ge hC 63 dX7_dropRow_40 (by decide) (fun h => absurd h (nI_ge hm (by omega))) (fun _ => ?_)
              refine R_aload_n (i := 0) hC dX7_dropRow_43 rfl rfl (R_iload_n (i := 2) hC dX7_dropRow_44 rfl rfl (R_iconst (v := 1) hC dX7_dropRow_45 (by decide) (R_isub hC dX7_dropRow_46 ?_)))
              refine R_top (y := nI (n - 1)) (by rw [show n = n - 1 + 1 by omega, nI_pred]; rfl) ?_
              refine R_iload_n (i := 3) hC dX7_dropRow_47 rfl rfl (R_aload_n (i := 0) hC dX7_dropRow_48 rfl rfl (R_iload_n (i := 2) hC dX7_dropRow_49 rfl rfl (R_iload_n (i := 3) hC dX7_dropRow_50 rfl rfl ?_)))
              refine R_V2i hC hR dX7_dropRow_51 MV_X7_at ml_X7_28 hA.1 rfl (c_atN hA ht hn hm) (by first | decide | omega) ⟨by decide, by decide⟩ (Nat.le_of_ble_eq_true rfl) ?_
              refine R_top (y := T.2.2 n m) (if_neg (by omega)) ?_
              refine R_V3v hC hR dX7_dropRow_54 MV_X7_put ml_X7_48 hA.1 rfl (c_put hA ht (i := n - 1) (j := m) (by show n - 1 < T.1; omega) hm _) (by first | decide | omega) ⟨by decide, by decide⟩ (Nat.le_of_ble_eq_true rfl) ?_
              refine R_iinc hC dX7_dropRow_57 rfl (inc1 _) (by decide) rfl (R_goto hC 35 dX7_dropRow_60 (by decide) ?_)
              exact ihm _ (c.a (m2 _ _)) ((ht.put (i := n - 1) hm (T.2.2 n m)).cg (fun p q hp hq => by
                show (if (i ≤ p ∧ p + 1 < n) ∨ (p + 1 = n ∧ q < m + 1) then _ else _) = if p = n - 1 ∧ q = m then T.2.2 n m else if (i ≤ p ∧ p + 1 < n) ∨ (p + 1 = n ∧ q < m) then _ else _
                by_cases e : p = n - 1 ∧ q = m
                · rw [if_pos e, if_pos (by omega), e.1, e.2, show n - 1 + 1 = n by omega]
                · rw [if_neg e]
                  by_cases e2 : (i ≤ p ∧ p + 1 < n) ∨ (p + 1 = n ∧ q < m)
                  · rw [if_pos e2, if_pos (by omega)]
                  · rw [if_neg e2, if_neg (by omega)]))
          refine R_iload_n (i := 2) hC dX7_dropRow_25 rfl rfl (R_aload_n (i := 0) hC dX7_dropRow_26 rfl rfl (R_gI hC dX7_dropRow_27 fl_X7_15 hA.1 rfl ?_))
          refine R_top (y := nI T.1) (ht.1) ?_
          refine R_icmp_ge hC 69 dX7_dropRow_30 (by decide) (fun h => absurd h (nI_ge hn (by omega))) (fun _ => ?_)
          refine R_iconst (v := 0) hC dX7_dropRow_33 (by decide) (R_istore_n (i := 3) hC dX7_dropRow_34 rfl (by decide) rfl ?_)
          exact inner 0 (Nat.zero_le _) τ c (ht.cg (fun p q hp hq => by
            show (if (i ≤ p ∧ p + 1 < n) ∨ (p + 1 = n ∧ q < 0) then _ else _) = if i ≤ p ∧ p + 1 < n then _ else _
            by_cases e : i ≤ p ∧ p + 1 < n
            · rw [if_pos e, if_pos (Or.inl e)]
            · rw [if_neg e, if_neg (by omega)]))
      refine R_aload_n (i := 0) hC dX7_dropRow_0 rfl rfl (R_iload_n (i := 1) hC dX7_dropRow_1 rfl rfl (R_iconst (v := 0) hC dX7_dropRow_2 (by decide) ?_))
      refine R_V2i hC hR dX7_dropRow_3 MV_X7_has ml_X7_79 hA.1 rfl (c_has hA h _ _) (by first | decide | omega) ⟨by decide, by decide⟩ (Nat.le_of_ble_eq_true rfl) ?_
      refine R_top (y := 1) (b2i_t ⟨hr, z0⟩) ?_
      refine R_if_ne hC 11 dX7_dropRow_6 (by decide) (fun _ => ?_) (fun h => absurd h (by decide))
      refine R_aload_n (i := 0) hC dX7_dropRow_11 rfl rfl (R_gI hC dX7_dropRow_12 fl_X7_15 hA.1 rfl ?_)
      refine R_top (y := nI T.1) (k1) ?_
      refine R_iconst (v := 2) hC dX7_dropRow_15 (by decide) ?_
      refine R_icmp_ge hC 21 dX7_dropRow_16 (by decide) (fun _ => ?_) (fun h => absurd (nI_le (a := 2) (by omega) (by omega)) h)
      refine R_iload_n (i := 1) hC dX7_dropRow_21 rfl rfl (R_iconst (v := 1) hC dX7_dropRow_22 (by decide) (R_iadd hC dX7_dropRow_23 ?_))
      refine R_top (y := nI (i + 1)) (nI_1 i) ?_
      refine R_istore_n (i := 2) hC dX7_dropRow_24 rfl (by decide) rfl ?_
      exact loop (i + 1) hi (Nat.le_refl _) σ (AE.rf _ _) (h.cg (fun p q hp hq => if_neg (by omega))) _
  · rw [actR_n (st_6a h0 hr) (by decide)] at hT
    refine R_aload_n (i := 0) hC dX7_dropRow_0 rfl rfl (R_iload_n (i := 1) hC dX7_dropRow_1 rfl rfl (R_iconst (v := 0) hC dX7_dropRow_2 (by decide) ?_))
    refine R_V2i hC hR dX7_dropRow_3 MV_X7_has ml_X7_79 hA.1 rfl (c_has hA h _ _) (by first | decide | omega) ⟨by decide, by decide⟩ (Nat.le_of_ble_eq_true rfl) ?_
    refine R_top (y := 0) (b2i_f (fun q => hr q.1)) ?_
    refine R_if_ne hC 11 dX7_dropRow_6 (by decide) (fun h => absurd rfl h) (fun _ => ?_)
    refine R_iconst (v := 1) hC dX7_dropRow_9 (by decide) ?_
    exact R_iret hC hT dX7_dropRow_10 rfl (TQ.i (AE.rf _ _) h)
