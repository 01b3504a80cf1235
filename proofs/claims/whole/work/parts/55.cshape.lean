/-! ===== where a table has no 0, as sets ===== -/
theorem dX5_takeFrom_0 : decode cX5_takeFrom 0 = .ok (.aload_n 0, 1) := by decide +kernel
theorem dX5_takeFrom_1 : decode cX5_takeFrom 1 = .ok (.aload_n 1, 1) := by decide +kernel
theorem dX5_takeFrom_2 : decode cX5_takeFrom 2 = .ok (.getfield 24, 3) := by decide +kernel
theorem dX5_takeFrom_5 : decode cX5_takeFrom 5 = .ok (.putfield 30, 3) := by decide +kernel
theorem dX5_takeFrom_8 : decode cX5_takeFrom 8 = .ok (.aload_n 0, 1) := by decide +kernel
theorem dX5_takeFrom_9 : decode cX5_takeFrom 9 = .ok (.aload_n 1, 1) := by decide +kernel
theorem dX5_takeFrom_10 : decode cX5_takeFrom 10 = .ok (.getfield 31, 3) := by decide +kernel
theorem dX5_takeFrom_13 : decode cX5_takeFrom 13 = .ok (.putfield 34, 3) := by decide +kernel
theorem dX5_takeFrom_16 : decode cX5_takeFrom 16 = .ok (.iconst 0, 1) := by decide +kernel
theorem dX5_takeFrom_17 : decode cX5_takeFrom 17 = .ok (.istore_n 2, 1) := by decide +kernel
theorem dX5_takeFrom_18 : decode cX5_takeFrom 18 = .ok (.iload_n 2, 1) := by decide +kernel
theorem dX5_takeFrom_19 : decode cX5_takeFrom 19 = .ok (.bipush 6, 2) := by decide +kernel
theorem dX5_takeFrom_21 : decode cX5_takeFrom 21 = .ok (.if_icmp .ge 23, 3) := by decide +kernel
theorem dX5_takeFrom_24 : decode cX5_takeFrom 24 = .ok (.aload_n 0, 1) := by decide +kernel
theorem dX5_takeFrom_25 : decode cX5_takeFrom 25 = .ok (.getfield 9, 3) := by decide +kernel
theorem dX5_takeFrom_28 : decode cX5_takeFrom 28 = .ok (.iload_n 2, 1) := by decide +kernel
theorem dX5_takeFrom_29 : decode cX5_takeFrom 29 = .ok (.iconst 0, 1) := by decide +kernel
theorem dX5_takeFrom_30 : decode cX5_takeFrom 30 = .ok (.iastore, 1) := by decide +kernel
theorem dX5_takeFrom_31 : decode cX5_takeFrom 31 = .ok (.aload_n 0, 1) := by decide +kernel
theorem dX5_takeFrom_32 : decode cX5_takeFrom 32 = .ok (.getfield 15, 3) := by decide +kernel
theorem dX5_takeFrom_35 : decode cX5_takeFrom 35 = .ok (.iload_n 2, 1) := by decide +kernel
theorem dX5_takeFrom_36 : decode cX5_takeFrom 36 = .ok (.iconst 0, 1) := by decide +kernel
theorem dX5_takeFrom_37 : decode cX5_takeFrom 37 = .ok (.iastore, 1) := by decide +kernel
theorem dX5_takeFrom_38 : decode cX5_takeFrom 38 = .ok (.iinc 2 1, 3) := by decide +kernel
theorem dX5_takeFrom_41 : decode cX5_takeFrom 41 = .ok (.goto (-23), 3) := by decide +kernel
theorem dX5_takeFrom_44 : decode cX5_takeFrom 44 = .ok (.iconst 0, 1) := by decide +kernel
theorem dX5_takeFrom_45 : decode cX5_takeFrom 45 = .ok (.istore_n 2, 1) := by decide +kernel
theorem dX5_takeFrom_46 : decode cX5_takeFrom 46 = .ok (.iload_n 2, 1) := by decide +kernel
theorem dX5_takeFrom_47 : decode cX5_takeFrom 47 = .ok (.aload_n 0, 1) := by decide +kernel
theorem dX5_takeFrom_48 : decode cX5_takeFrom 48 = .ok (.getfield 30, 3) := by decide +kernel
theorem dX5_takeFrom_51 : decode cX5_takeFrom 51 = .ok (.if_icmp .ge 58, 3) := by decide +kernel
theorem dX5_takeFrom_54 : decode cX5_takeFrom 54 = .ok (.iconst 0, 1) := by decide +kernel
theorem dX5_takeFrom_55 : decode cX5_takeFrom 55 = .ok (.istore_n 3, 1) := by decide +kernel
theorem dX5_takeFrom_56 : decode cX5_takeFrom 56 = .ok (.iload_n 3, 1) := by decide +kernel
theorem dX5_takeFrom_57 : decode cX5_takeFrom 57 = .ok (.aload_n 0, 1) := by decide +kernel
theorem dX5_takeFrom_58 : decode cX5_takeFrom 58 = .ok (.getfield 34, 3) := by decide +kernel
theorem dX5_takeFrom_61 : decode cX5_takeFrom 61 = .ok (.if_icmp .ge 42, 3) := by decide +kernel
theorem dX5_takeFrom_64 : decode cX5_takeFrom 64 = .ok (.aload_n 1, 1) := by decide +kernel
theorem dX5_takeFrom_65 : decode cX5_takeFrom 65 = .ok (.iload_n 2, 1) := by decide +kernel
theorem dX5_takeFrom_66 : decode cX5_takeFrom 66 = .ok (.iload_n 3, 1) := by decide +kernel
theorem dX5_takeFrom_67 : decode cX5_takeFrom 67 = .ok (.invokevirtual 35, 3) := by decide +kernel
theorem dX5_takeFrom_70 : decode cX5_takeFrom 70 = .ok (.ifCond .eq 27, 3) := by decide +kernel
theorem dX5_takeFrom_73 : decode cX5_takeFrom 73 = .ok (.aload_n 0, 1) := by decide +kernel
theorem dX5_takeFrom_74 : decode cX5_takeFrom 74 = .ok (.getfield 9, 3) := by decide +kernel
theorem dX5_takeFrom_77 : decode cX5_takeFrom 77 = .ok (.iload_n 2, 1) := by decide +kernel
theorem dX5_takeFrom_78 : decode cX5_takeFrom 78 = .ok (.dup2, 1) := by decide +kernel
theorem dX5_takeFrom_79 : decode cX5_takeFrom 79 = .ok (.iaload, 1) := by decide +kernel
theorem dX5_takeFrom_80 : decode cX5_takeFrom 80 = .ok (.iconst 1, 1) := by decide +kernel
theorem dX5_takeFrom_81 : decode cX5_takeFrom 81 = .ok (.iload_n 3, 1) := by decide +kernel
theorem dX5_takeFrom_82 : decode cX5_takeFrom 82 = .ok (.ishl, 1) := by decide +kernel
theorem dX5_takeFrom_83 : decode cX5_takeFrom 83 = .ok (.ior, 1) := by decide +kernel
theorem dX5_takeFrom_84 : decode cX5_takeFrom 84 = .ok (.iastore, 1) := by decide +kernel
theorem dX5_takeFrom_85 : decode cX5_takeFrom 85 = .ok (.aload_n 0, 1) := by decide +kernel
theorem dX5_takeFrom_86 : decode cX5_takeFrom 86 = .ok (.getfield 15, 3) := by decide +kernel
theorem dX5_takeFrom_89 : decode cX5_takeFrom 89 = .ok (.iload_n 3, 1) := by decide +kernel
theorem dX5_takeFrom_90 : decode cX5_takeFrom 90 = .ok (.dup2, 1) := by decide +kernel
theorem dX5_takeFrom_91 : decode cX5_takeFrom 91 = .ok (.iaload, 1) := by decide +kernel
theorem dX5_takeFrom_92 : decode cX5_takeFrom 92 = .ok (.iconst 1, 1) := by decide +kernel
theorem dX5_takeFrom_93 : decode cX5_takeFrom 93 = .ok (.iload_n 2, 1) := by decide +kernel
theorem dX5_takeFrom_94 : decode cX5_takeFrom 94 = .ok (.ishl, 1) := by decide +kernel
theorem dX5_takeFrom_95 : decode cX5_takeFrom 95 = .ok (.ior, 1) := by decide +kernel
theorem dX5_takeFrom_96 : decode cX5_takeFrom 96 = .ok (.iastore, 1) := by decide +kernel
theorem dX5_takeFrom_97 : decode cX5_takeFrom 97 = .ok (.iinc 3 1, 3) := by decide +kernel
theorem dX5_takeFrom_100 : decode cX5_takeFrom 100 = .ok (.goto (-44), 3) := by decide +kernel
theorem dX5_takeFrom_103 : decode cX5_takeFrom 103 = .ok (.iinc 2 1, 3) := by decide +kernel
theorem dX5_takeFrom_106 : decode cX5_takeFrom 106 = .ok (.goto (-60), 3) := by decide +kernel
theorem dX5_takeFrom_109 : decode cX5_takeFrom 109 = .ok (.return_, 1) := by decide +kernel
theorem dX5_columnsMetBy_0 : decode cX5_columnsMetBy 0 = .ok (.iconst 0, 1) := by decide +kernel
theorem dX5_columnsMetBy_1 : decode cX5_columnsMetBy 1 = .ok (.istore_n 2, 1) := by decide +kernel
theorem dX5_columnsMetBy_2 : decode cX5_columnsMetBy 2 = .ok (.iconst 0, 1) := by decide +kernel
theorem dX5_columnsMetBy_3 : decode cX5_columnsMetBy 3 = .ok (.istore_n 3, 1) := by decide +kernel
theorem dX5_columnsMetBy_4 : decode cX5_columnsMetBy 4 = .ok (.iload_n 3, 1) := by decide +kernel
theorem dX5_columnsMetBy_5 : decode cX5_columnsMetBy 5 = .ok (.aload_n 0, 1) := by decide +kernel
theorem dX5_columnsMetBy_6 : decode cX5_columnsMetBy 6 = .ok (.getfield 30, 3) := by decide +kernel
theorem dX5_columnsMetBy_9 : decode cX5_columnsMetBy 9 = .ok (.if_icmp .ge 26, 3) := by decide +kernel
theorem dX5_columnsMetBy_12 : decode cX5_columnsMetBy 12 = .ok (.iload_n 1, 1) := by decide +kernel
theorem dX5_columnsMetBy_13 : decode cX5_columnsMetBy 13 = .ok (.iload_n 3, 1) := by decide +kernel
theorem dX5_columnsMetBy_14 : decode cX5_columnsMetBy 14 = .ok (.invokestatic 39, 3) := by decide +kernel
theorem dX5_columnsMetBy_17 : decode cX5_columnsMetBy 17 = .ok (.ifCond .eq 12, 3) := by decide +kernel
theorem dX5_columnsMetBy_20 : decode cX5_columnsMetBy 20 = .ok (.iload_n 2, 1) := by decide +kernel
theorem dX5_columnsMetBy_21 : decode cX5_columnsMetBy 21 = .ok (.aload_n 0, 1) := by decide +kernel
theorem dX5_columnsMetBy_22 : decode cX5_columnsMetBy 22 = .ok (.getfield 9, 3) := by decide +kernel
theorem dX5_columnsMetBy_25 : decode cX5_columnsMetBy 25 = .ok (.iload_n 3, 1) := by decide +kernel
theorem dX5_columnsMetBy_26 : decode cX5_columnsMetBy 26 = .ok (.iaload, 1) := by decide +kernel
theorem dX5_columnsMetBy_27 : decode cX5_columnsMetBy 27 = .ok (.ior, 1) := by decide +kernel
theorem dX5_columnsMetBy_28 : decode cX5_columnsMetBy 28 = .ok (.istore_n 2, 1) := by decide +kernel
theorem dX5_columnsMetBy_29 : decode cX5_columnsMetBy 29 = .ok (.iinc 3 1, 3) := by decide +kernel
theorem dX5_columnsMetBy_32 : decode cX5_columnsMetBy 32 = .ok (.goto (-28), 3) := by decide +kernel
theorem dX5_columnsMetBy_35 : decode cX5_columnsMetBy 35 = .ok (.iload_n 2, 1) := by decide +kernel
theorem dX5_columnsMetBy_36 : decode cX5_columnsMetBy 36 = .ok (.ireturn, 1) := by decide +kernel
theorem dX5_rowsMetBy_0 : decode cX5_rowsMetBy 0 = .ok (.iconst 0, 1) := by decide +kernel
theorem dX5_rowsMetBy_1 : decode cX5_rowsMetBy 1 = .ok (.istore_n 2, 1) := by decide +kernel
theorem dX5_rowsMetBy_2 : decode cX5_rowsMetBy 2 = .ok (.iconst 0, 1) := by decide +kernel
theorem dX5_rowsMetBy_3 : decode cX5_rowsMetBy 3 = .ok (.istore_n 3, 1) := by decide +kernel
theorem dX5_rowsMetBy_4 : decode cX5_rowsMetBy 4 = .ok (.iload_n 3, 1) := by decide +kernel
theorem dX5_rowsMetBy_5 : decode cX5_rowsMetBy 5 = .ok (.aload_n 0, 1) := by decide +kernel
theorem dX5_rowsMetBy_6 : decode cX5_rowsMetBy 6 = .ok (.getfield 34, 3) := by decide +kernel
theorem dX5_rowsMetBy_9 : decode cX5_rowsMetBy 9 = .ok (.if_icmp .ge 26, 3) := by decide +kernel
theorem dX5_rowsMetBy_12 : decode cX5_rowsMetBy 12 = .ok (.iload_n 1, 1) := by decide +kernel
theorem dX5_rowsMetBy_13 : decode cX5_rowsMetBy 13 = .ok (.iload_n 3, 1) := by decide +kernel
theorem dX5_rowsMetBy_14 : decode cX5_rowsMetBy 14 = .ok (.invokestatic 39, 3) := by decide +kernel
theorem dX5_rowsMetBy_17 : decode cX5_rowsMetBy 17 = .ok (.ifCond .eq 12, 3) := by decide +kernel
theorem dX5_rowsMetBy_20 : decode cX5_rowsMetBy 20 = .ok (.iload_n 2, 1) := by decide +kernel
theorem dX5_rowsMetBy_21 : decode cX5_rowsMetBy 21 = .ok (.aload_n 0, 1) := by decide +kernel
theorem dX5_rowsMetBy_22 : decode cX5_rowsMetBy 22 = .ok (.getfield 15, 3) := by decide +kernel
theorem dX5_rowsMetBy_25 : decode cX5_rowsMetBy 25 = .ok (.iload_n 3, 1) := by decide +kernel
theorem dX5_rowsMetBy_26 : decode cX5_rowsMetBy 26 = .ok (.iaload, 1) := by decide +kernel
theorem dX5_rowsMetBy_27 : decode cX5_rowsMetBy 27 = .ok (.ior, 1) := by decide +kernel
theorem dX5_rowsMetBy_28 : decode cX5_rowsMetBy 28 = .ok (.istore_n 2, 1) := by decide +kernel
theorem dX5_rowsMetBy_29 : decode cX5_rowsMetBy 29 = .ok (.iinc 3 1, 3) := by decide +kernel
theorem dX5_rowsMetBy_32 : decode cX5_rowsMetBy 32 = .ok (.goto (-28), 3) := by decide +kernel
theorem dX5_rowsMetBy_35 : decode cX5_rowsMetBy 35 = .ok (.iload_n 2, 1) := by decide +kernel
theorem dX5_rowsMetBy_36 : decode cX5_rowsMetBy 36 = .ok (.ireturn, 1) := by decide +kernel
theorem dX5_findParts_0 : decode cX5_findParts 0 = .ok (.aload_n 0, 1) := by decide +kernel
theorem dX5_findParts_1 : decode cX5_findParts 1 = .ok (.iconst 0, 1) := by decide +kernel
theorem dX5_findParts_2 : decode cX5_findParts 2 = .ok (.putfield 43, 3) := by decide +kernel
theorem dX5_findParts_5 : decode cX5_findParts 5 = .ok (.iconst 0, 1) := by decide +kernel
theorem dX5_findParts_6 : decode cX5_findParts 6 = .ok (.istore_n 1, 1) := by decide +kernel
theorem dX5_findParts_7 : decode cX5_findParts 7 = .ok (.iconst 0, 1) := by decide +kernel
theorem dX5_findParts_8 : decode cX5_findParts 8 = .ok (.istore_n 2, 1) := by decide +kernel
theorem dX5_findParts_9 : decode cX5_findParts 9 = .ok (.iload_n 2, 1) := by decide +kernel
theorem dX5_findParts_10 : decode cX5_findParts 10 = .ok (.aload_n 0, 1) := by decide +kernel
theorem dX5_findParts_11 : decode cX5_findParts 11 = .ok (.getfield 30, 3) := by decide +kernel
theorem dX5_findParts_14 : decode cX5_findParts 14 = .ok (.if_icmp .ge 37, 3) := by decide +kernel
theorem dX5_findParts_17 : decode cX5_findParts 17 = .ok (.iload_n 1, 1) := by decide +kernel
theorem dX5_findParts_18 : decode cX5_findParts 18 = .ok (.iload_n 2, 1) := by decide +kernel
theorem dX5_findParts_19 : decode cX5_findParts 19 = .ok (.invokestatic 39, 3) := by decide +kernel
theorem dX5_findParts_22 : decode cX5_findParts 22 = .ok (.ifCond .ne 23, 3) := by decide +kernel
theorem dX5_findParts_25 : decode cX5_findParts 25 = .ok (.aload_n 0, 1) := by decide +kernel
theorem dX5_findParts_26 : decode cX5_findParts 26 = .ok (.iload_n 2, 1) := by decide +kernel
theorem dX5_findParts_27 : decode cX5_findParts 27 = .ok (.invokevirtual 46, 3) := by decide +kernel
theorem dX5_findParts_30 : decode cX5_findParts 30 = .ok (.istore_n 3, 1) := by decide +kernel
theorem dX5_findParts_31 : decode cX5_findParts 31 = .ok (.aload_n 0, 1) := by decide +kernel
theorem dX5_findParts_32 : decode cX5_findParts 32 = .ok (.iload_n 3, 1) := by decide +kernel
theorem dX5_findParts_33 : decode cX5_findParts 33 = .ok (.aload_n 0, 1) := by decide +kernel
theorem dX5_findParts_34 : decode cX5_findParts 34 = .ok (.iload_n 3, 1) := by decide +kernel
theorem dX5_findParts_35 : decode cX5_findParts 35 = .ok (.invokevirtual 50, 3) := by decide +kernel
theorem dX5_findParts_38 : decode cX5_findParts 38 = .ok (.invokevirtual 53, 3) := by decide +kernel
theorem dX5_findParts_41 : decode cX5_findParts 41 = .ok (.iload_n 1, 1) := by decide +kernel
theorem dX5_findParts_42 : decode cX5_findParts 42 = .ok (.iload_n 3, 1) := by decide +kernel
theorem dX5_findParts_43 : decode cX5_findParts 43 = .ok (.ior, 1) := by decide +kernel
theorem dX5_findParts_44 : decode cX5_findParts 44 = .ok (.istore_n 1, 1) := by decide +kernel
theorem dX5_findParts_45 : decode cX5_findParts 45 = .ok (.iinc 2 1, 3) := by decide +kernel
theorem dX5_findParts_48 : decode cX5_findParts 48 = .ok (.goto (-39), 3) := by decide +kernel
theorem dX5_findParts_51 : decode cX5_findParts 51 = .ok (.iconst 0, 1) := by decide +kernel
theorem dX5_findParts_52 : decode cX5_findParts 52 = .ok (.istore_n 2, 1) := by decide +kernel
theorem dX5_findParts_53 : decode cX5_findParts 53 = .ok (.iload_n 2, 1) := by decide +kernel
theorem dX5_findParts_54 : decode cX5_findParts 54 = .ok (.aload_n 0, 1) := by decide +kernel
theorem dX5_findParts_55 : decode cX5_findParts 55 = .ok (.getfield 34, 3) := by decide +kernel
theorem dX5_findParts_58 : decode cX5_findParts 58 = .ok (.if_icmp .ge 26, 3) := by decide +kernel
theorem dX5_findParts_61 : decode cX5_findParts 61 = .ok (.aload_n 0, 1) := by decide +kernel
theorem dX5_findParts_62 : decode cX5_findParts 62 = .ok (.getfield 15, 3) := by decide +kernel
theorem dX5_findParts_65 : decode cX5_findParts 65 = .ok (.iload_n 2, 1) := by decide +kernel
theorem dX5_findParts_66 : decode cX5_findParts 66 = .ok (.iaload, 1) := by decide +kernel
theorem dX5_findParts_67 : decode cX5_findParts 67 = .ok (.ifCond .ne 11, 3) := by decide +kernel
theorem dX5_findParts_70 : decode cX5_findParts 70 = .ok (.aload_n 0, 1) := by decide +kernel
theorem dX5_findParts_71 : decode cX5_findParts 71 = .ok (.iconst 0, 1) := by decide +kernel
theorem dX5_findParts_72 : decode cX5_findParts 72 = .ok (.iconst 1, 1) := by decide +kernel
theorem dX5_findParts_73 : decode cX5_findParts 73 = .ok (.iload_n 2, 1) := by decide +kernel
theorem dX5_findParts_74 : decode cX5_findParts 74 = .ok (.ishl, 1) := by decide +kernel
theorem dX5_findParts_75 : decode cX5_findParts 75 = .ok (.invokevirtual 53, 3) := by decide +kernel
theorem dX5_findParts_78 : decode cX5_findParts 78 = .ok (.iinc 2 1, 3) := by decide +kernel
theorem dX5_findParts_81 : decode cX5_findParts 81 = .ok (.goto (-28), 3) := by decide +kernel
theorem dX5_findParts_84 : decode cX5_findParts 84 = .ok (.return_, 1) := by decide +kernel
theorem dX5_allJoinedTo_0 : decode cX5_allJoinedTo 0 = .ok (.iconst 1, 1) := by decide +kernel
theorem dX5_allJoinedTo_1 : decode cX5_allJoinedTo 1 = .ok (.iload_n 1, 1) := by decide +kernel
theorem dX5_allJoinedTo_2 : decode cX5_allJoinedTo 2 = .ok (.ishl, 1) := by decide +kernel
theorem dX5_allJoinedTo_3 : decode cX5_allJoinedTo 3 = .ok (.istore_n 2, 1) := by decide +kernel
theorem dX5_allJoinedTo_4 : decode cX5_allJoinedTo 4 = .ok (.iconst 0, 1) := by decide +kernel
theorem dX5_allJoinedTo_5 : decode cX5_allJoinedTo 5 = .ok (.istore_n 3, 1) := by decide +kernel
theorem dX5_allJoinedTo_6 : decode cX5_allJoinedTo 6 = .ok (.iload_n 3, 1) := by decide +kernel
theorem dX5_allJoinedTo_7 : decode cX5_allJoinedTo 7 = .ok (.bipush 6, 2) := by decide +kernel
theorem dX5_allJoinedTo_9 : decode cX5_allJoinedTo 9 = .ok (.if_icmp .ge 21, 3) := by decide +kernel
theorem dX5_allJoinedTo_12 : decode cX5_allJoinedTo 12 = .ok (.iload_n 2, 1) := by decide +kernel
theorem dX5_allJoinedTo_13 : decode cX5_allJoinedTo 13 = .ok (.aload_n 0, 1) := by decide +kernel
theorem dX5_allJoinedTo_14 : decode cX5_allJoinedTo 14 = .ok (.aload_n 0, 1) := by decide +kernel
theorem dX5_allJoinedTo_15 : decode cX5_allJoinedTo 15 = .ok (.iload_n 2, 1) := by decide +kernel
theorem dX5_allJoinedTo_16 : decode cX5_allJoinedTo 16 = .ok (.invokevirtual 50, 3) := by decide +kernel
theorem dX5_allJoinedTo_19 : decode cX5_allJoinedTo 19 = .ok (.invokevirtual 57, 3) := by decide +kernel
theorem dX5_allJoinedTo_22 : decode cX5_allJoinedTo 22 = .ok (.ior, 1) := by decide +kernel
theorem dX5_allJoinedTo_23 : decode cX5_allJoinedTo 23 = .ok (.istore_n 2, 1) := by decide +kernel
theorem dX5_allJoinedTo_24 : decode cX5_allJoinedTo 24 = .ok (.iinc 3 1, 3) := by decide +kernel
theorem dX5_allJoinedTo_27 : decode cX5_allJoinedTo 27 = .ok (.goto (-21), 3) := by decide +kernel
theorem dX5_allJoinedTo_30 : decode cX5_allJoinedTo 30 = .ok (.iload_n 2, 1) := by decide +kernel
theorem dX5_allJoinedTo_31 : decode cX5_allJoinedTo 31 = .ok (.ireturn, 1) := by decide +kernel
theorem dX5_addPart_0 : decode cX5_addPart 0 = .ok (.aload_n 0, 1) := by decide +kernel
theorem dX5_addPart_1 : decode cX5_addPart 1 = .ok (.getfield 43, 3) := by decide +kernel
theorem dX5_addPart_4 : decode cX5_addPart 4 = .ok (.bipush 12, 2) := by decide +kernel
theorem dX5_addPart_6 : decode cX5_addPart 6 = .ok (.if_icmp .ge 33, 3) := by decide +kernel
theorem dX5_addPart_9 : decode cX5_addPart 9 = .ok (.aload_n 0, 1) := by decide +kernel
theorem dX5_addPart_10 : decode cX5_addPart 10 = .ok (.getfield 18, 3) := by decide +kernel
theorem dX5_addPart_13 : decode cX5_addPart 13 = .ok (.aload_n 0, 1) := by decide +kernel
theorem dX5_addPart_14 : decode cX5_addPart 14 = .ok (.getfield 43, 3) := by decide +kernel
theorem dX5_addPart_17 : decode cX5_addPart 17 = .ok (.iload_n 1, 1) := by decide +kernel
theorem dX5_addPart_18 : decode cX5_addPart 18 = .ok (.iastore, 1) := by decide +kernel
theorem dX5_addPart_19 : decode cX5_addPart 19 = .ok (.aload_n 0, 1) := by decide +kernel
theorem dX5_addPart_20 : decode cX5_addPart 20 = .ok (.getfield 21, 3) := by decide +kernel
theorem dX5_addPart_23 : decode cX5_addPart 23 = .ok (.aload_n 0, 1) := by decide +kernel
theorem dX5_addPart_24 : decode cX5_addPart 24 = .ok (.getfield 43, 3) := by decide +kernel
theorem dX5_addPart_27 : decode cX5_addPart 27 = .ok (.iload_n 2, 1) := by decide +kernel
theorem dX5_addPart_28 : decode cX5_addPart 28 = .ok (.iastore, 1) := by decide +kernel
theorem dX5_addPart_29 : decode cX5_addPart 29 = .ok (.aload_n 0, 1) := by decide +kernel
theorem dX5_addPart_30 : decode cX5_addPart 30 = .ok (.dup, 1) := by decide +kernel
theorem dX5_addPart_31 : decode cX5_addPart 31 = .ok (.getfield 43, 3) := by decide +kernel
theorem dX5_addPart_34 : decode cX5_addPart 34 = .ok (.iconst 1, 1) := by decide +kernel
theorem dX5_addPart_35 : decode cX5_addPart 35 = .ok (.iadd, 1) := by decide +kernel
theorem dX5_addPart_36 : decode cX5_addPart 36 = .ok (.putfield 43, 3) := by decide +kernel
theorem dX5_addPart_39 : decode cX5_addPart 39 = .ok (.return_, 1) := by decide +kernel
theorem dX5_partOf_0 : decode cX5_partOf 0 = .ok (.iload_n 1, 1) := by decide +kernel
theorem dX5_partOf_1 : decode cX5_partOf 1 = .ok (.ifCond .lt 20, 3) := by decide +kernel
theorem dX5_partOf_4 : decode cX5_partOf 4 = .ok (.iload_n 1, 1) := by decide +kernel
theorem dX5_partOf_5 : decode cX5_partOf 5 = .ok (.aload_n 0, 1) := by decide +kernel
theorem dX5_partOf_6 : decode cX5_partOf 6 = .ok (.getfield 43, 3) := by decide +kernel
theorem dX5_partOf_9 : decode cX5_partOf 9 = .ok (.if_icmp .ge 12, 3) := by decide +kernel
theorem dX5_partOf_12 : decode cX5_partOf 12 = .ok (.iload_n 2, 1) := by decide +kernel
theorem dX5_partOf_13 : decode cX5_partOf 13 = .ok (.ifCond .lt 8, 3) := by decide +kernel
theorem dX5_partOf_16 : decode cX5_partOf 16 = .ok (.iload_n 2, 1) := by decide +kernel
theorem dX5_partOf_17 : decode cX5_partOf 17 = .ok (.iconst 1, 1) := by decide +kernel
theorem dX5_partOf_18 : decode cX5_partOf 18 = .ok (.if_icmp .le 5, 3) := by decide +kernel
theorem dX5_partOf_21 : decode cX5_partOf 21 = .ok (.iconst (-1), 1) := by decide +kernel
theorem dX5_partOf_22 : decode cX5_partOf 22 = .ok (.ireturn, 1) := by decide +kernel
theorem dX5_partOf_23 : decode cX5_partOf 23 = .ok (.iload_n 2, 1) := by decide +kernel
theorem dX5_partOf_24 : decode cX5_partOf 24 = .ok (.ifCond .ne 12, 3) := by decide +kernel
theorem dX5_partOf_27 : decode cX5_partOf 27 = .ok (.aload_n 0, 1) := by decide +kernel
theorem dX5_partOf_28 : decode cX5_partOf 28 = .ok (.getfield 18, 3) := by decide +kernel
theorem dX5_partOf_31 : decode cX5_partOf 31 = .ok (.iload_n 1, 1) := by decide +kernel
theorem dX5_partOf_32 : decode cX5_partOf 32 = .ok (.iaload, 1) := by decide +kernel
theorem dX5_partOf_33 : decode cX5_partOf 33 = .ok (.goto 9, 3) := by decide +kernel
theorem dX5_partOf_36 : decode cX5_partOf 36 = .ok (.aload_n 0, 1) := by decide +kernel
theorem dX5_partOf_37 : decode cX5_partOf 37 = .ok (.getfield 21, 3) := by decide +kernel
theorem dX5_partOf_40 : decode cX5_partOf 40 = .ok (.iload_n 1, 1) := by decide +kernel
theorem dX5_partOf_41 : decode cX5_partOf 41 = .ok (.iaload, 1) := by decide +kernel
theorem dX5_partOf_42 : decode cX5_partOf 42 = .ok (.ireturn, 1) := by decide +kernel
theorem dX5_mostApart_0 : decode cX5_mostApart 0 = .ok (.iconst 0, 1) := by decide +kernel
theorem dX5_mostApart_1 : decode cX5_mostApart 1 = .ok (.istore_n 1, 1) := by decide +kernel
theorem dX5_mostApart_2 : decode cX5_mostApart 2 = .ok (.iconst 1, 1) := by decide +kernel
theorem dX5_mostApart_3 : decode cX5_mostApart 3 = .ok (.istore_n 2, 1) := by decide +kernel
theorem dX5_mostApart_4 : decode cX5_mostApart 4 = .ok (.iload_n 2, 1) := by decide +kernel
theorem dX5_mostApart_5 : decode cX5_mostApart 5 = .ok (.iconst 1, 1) := by decide +kernel
theorem dX5_mostApart_6 : decode cX5_mostApart 6 = .ok (.aload_n 0, 1) := by decide +kernel
theorem dX5_mostApart_7 : decode cX5_mostApart 7 = .ok (.getfield 34, 3) := by decide +kernel
theorem dX5_mostApart_10 : decode cX5_mostApart 10 = .ok (.ishl, 1) := by decide +kernel
theorem dX5_mostApart_11 : decode cX5_mostApart 11 = .ok (.if_icmp .ge 30, 3) := by decide +kernel
theorem dX5_mostApart_14 : decode cX5_mostApart 14 = .ok (.iload_n 2, 1) := by decide +kernel
theorem dX5_mostApart_15 : decode cX5_mostApart 15 = .ok (.invokestatic 60, 3) := by decide +kernel
theorem dX5_mostApart_18 : decode cX5_mostApart 18 = .ok (.iload_n 1, 1) := by decide +kernel
theorem dX5_mostApart_19 : decode cX5_mostApart 19 = .ok (.invokestatic 60, 3) := by decide +kernel
theorem dX5_mostApart_22 : decode cX5_mostApart 22 = .ok (.if_icmp .le 13, 3) := by decide +kernel
theorem dX5_mostApart_25 : decode cX5_mostApart 25 = .ok (.aload_n 0, 1) := by decide +kernel
theorem dX5_mostApart_26 : decode cX5_mostApart 26 = .ok (.iload_n 2, 1) := by decide +kernel
theorem dX5_mostApart_27 : decode cX5_mostApart 27 = .ok (.invokevirtual 65, 3) := by decide +kernel
theorem dX5_mostApart_30 : decode cX5_mostApart 30 = .ok (.ifCond .eq 5, 3) := by decide +kernel
theorem dX5_mostApart_33 : decode cX5_mostApart 33 = .ok (.iload_n 2, 1) := by decide +kernel
theorem dX5_mostApart_34 : decode cX5_mostApart 34 = .ok (.istore_n 1, 1) := by decide +kernel
theorem dX5_mostApart_35 : decode cX5_mostApart 35 = .ok (.iinc 2 1, 3) := by decide +kernel
theorem dX5_mostApart_38 : decode cX5_mostApart 38 = .ok (.goto (-34), 3) := by decide +kernel
theorem dX5_mostApart_41 : decode cX5_mostApart 41 = .ok (.iload_n 1, 1) := by decide +kernel
theorem dX5_mostApart_42 : decode cX5_mostApart 42 = .ok (.ireturn, 1) := by decide +kernel
theorem dX5_areApart_0 : decode cX5_areApart 0 = .ok (.iconst 0, 1) := by decide +kernel
theorem dX5_areApart_1 : decode cX5_areApart 1 = .ok (.istore_n 2, 1) := by decide +kernel
theorem dX5_areApart_2 : decode cX5_areApart 2 = .ok (.iload_n 2, 1) := by decide +kernel
theorem dX5_areApart_3 : decode cX5_areApart 3 = .ok (.aload_n 0, 1) := by decide +kernel
theorem dX5_areApart_4 : decode cX5_areApart 4 = .ok (.getfield 30, 3) := by decide +kernel
theorem dX5_areApart_7 : decode cX5_areApart 7 = .ok (.if_icmp .ge 26, 3) := by decide +kernel
theorem dX5_areApart_10 : decode cX5_areApart 10 = .ok (.aload_n 0, 1) := by decide +kernel
theorem dX5_areApart_11 : decode cX5_areApart 11 = .ok (.getfield 9, 3) := by decide +kernel
theorem dX5_areApart_14 : decode cX5_areApart 14 = .ok (.iload_n 2, 1) := by decide +kernel
theorem dX5_areApart_15 : decode cX5_areApart 15 = .ok (.iaload, 1) := by decide +kernel
theorem dX5_areApart_16 : decode cX5_areApart 16 = .ok (.iload_n 1, 1) := by decide +kernel
theorem dX5_areApart_17 : decode cX5_areApart 17 = .ok (.iand, 1) := by decide +kernel
theorem dX5_areApart_18 : decode cX5_areApart 18 = .ok (.invokestatic 60, 3) := by decide +kernel
theorem dX5_areApart_21 : decode cX5_areApart 21 = .ok (.iconst 1, 1) := by decide +kernel
theorem dX5_areApart_22 : decode cX5_areApart 22 = .ok (.if_icmp .le 5, 3) := by decide +kernel
theorem dX5_areApart_25 : decode cX5_areApart 25 = .ok (.iconst 0, 1) := by decide +kernel
theorem dX5_areApart_26 : decode cX5_areApart 26 = .ok (.ireturn, 1) := by decide +kernel
theorem dX5_areApart_27 : decode cX5_areApart 27 = .ok (.iinc 2 1, 3) := by decide +kernel
theorem dX5_areApart_30 : decode cX5_areApart 30 = .ok (.goto (-28), 3) := by decide +kernel
theorem dX5_areApart_33 : decode cX5_areApart 33 = .ok (.iconst 1, 1) := by decide +kernel
theorem dX5_areApart_34 : decode cX5_areApart 34 = .ok (.ireturn, 1) := by decide +kernel
theorem dX5_fewestMeeting_0 : decode cX5_fewestMeeting 0 = .ok (.iconst 1, 1) := by decide +kernel
theorem dX5_fewestMeeting_1 : decode cX5_fewestMeeting 1 = .ok (.aload_n 0, 1) := by decide +kernel
theorem dX5_fewestMeeting_2 : decode cX5_fewestMeeting 2 = .ok (.getfield 30, 3) := by decide +kernel
theorem dX5_fewestMeeting_5 : decode cX5_fewestMeeting 5 = .ok (.ishl, 1) := by decide +kernel
theorem dX5_fewestMeeting_6 : decode cX5_fewestMeeting 6 = .ok (.iconst 1, 1) := by decide +kernel
theorem dX5_fewestMeeting_7 : decode cX5_fewestMeeting 7 = .ok (.isub, 1) := by decide +kernel
theorem dX5_fewestMeeting_8 : decode cX5_fewestMeeting 8 = .ok (.istore_n 1, 1) := by decide +kernel
theorem dX5_fewestMeeting_9 : decode cX5_fewestMeeting 9 = .ok (.iload_n 1, 1) := by decide +kernel
theorem dX5_fewestMeeting_10 : decode cX5_fewestMeeting 10 = .ok (.istore_n 2, 1) := by decide +kernel
theorem dX5_fewestMeeting_11 : decode cX5_fewestMeeting 11 = .ok (.iconst 0, 1) := by decide +kernel
theorem dX5_fewestMeeting_12 : decode cX5_fewestMeeting 12 = .ok (.istore_n 3, 1) := by decide +kernel
theorem dX5_fewestMeeting_13 : decode cX5_fewestMeeting 13 = .ok (.iload_n 3, 1) := by decide +kernel
theorem dX5_fewestMeeting_14 : decode cX5_fewestMeeting 14 = .ok (.iload_n 1, 1) := by decide +kernel
theorem dX5_fewestMeeting_15 : decode cX5_fewestMeeting 15 = .ok (.if_icmp .ge 35, 3) := by decide +kernel
theorem dX5_fewestMeeting_18 : decode cX5_fewestMeeting 18 = .ok (.aload_n 0, 1) := by decide +kernel
theorem dX5_fewestMeeting_19 : decode cX5_fewestMeeting 19 = .ok (.iload_n 3, 1) := by decide +kernel
theorem dX5_fewestMeeting_20 : decode cX5_fewestMeeting 20 = .ok (.invokevirtual 50, 3) := by decide +kernel
theorem dX5_fewestMeeting_23 : decode cX5_fewestMeeting 23 = .ok (.aload_n 0, 1) := by decide +kernel
theorem dX5_fewestMeeting_24 : decode cX5_fewestMeeting 24 = .ok (.iload_n 1, 1) := by decide +kernel
theorem dX5_fewestMeeting_25 : decode cX5_fewestMeeting 25 = .ok (.invokevirtual 50, 3) := by decide +kernel
theorem dX5_fewestMeeting_28 : decode cX5_fewestMeeting 28 = .ok (.if_icmp .ne 16, 3) := by decide +kernel
theorem dX5_fewestMeeting_31 : decode cX5_fewestMeeting 31 = .ok (.iload_n 3, 1) := by decide +kernel
theorem dX5_fewestMeeting_32 : decode cX5_fewestMeeting 32 = .ok (.invokestatic 60, 3) := by decide +kernel
theorem dX5_fewestMeeting_35 : decode cX5_fewestMeeting 35 = .ok (.iload_n 2, 1) := by decide +kernel
theorem dX5_fewestMeeting_36 : decode cX5_fewestMeeting 36 = .ok (.invokestatic 60, 3) := by decide +kernel
theorem dX5_fewestMeeting_39 : decode cX5_fewestMeeting 39 = .ok (.if_icmp .ge 5, 3) := by decide +kernel
theorem dX5_fewestMeeting_42 : decode cX5_fewestMeeting 42 = .ok (.iload_n 3, 1) := by decide +kernel
theorem dX5_fewestMeeting_43 : decode cX5_fewestMeeting 43 = .ok (.istore_n 2, 1) := by decide +kernel
theorem dX5_fewestMeeting_44 : decode cX5_fewestMeeting 44 = .ok (.iinc 3 1, 3) := by decide +kernel
theorem dX5_fewestMeeting_47 : decode cX5_fewestMeeting 47 = .ok (.goto (-34), 3) := by decide +kernel
theorem dX5_fewestMeeting_50 : decode cX5_fewestMeeting 50 = .ok (.iload_n 2, 1) := by decide +kernel
theorem dX5_fewestMeeting_51 : decode cX5_fewestMeeting 51 = .ok (.ireturn, 1) := by decide +kernel
theorem dX5_shortestRound_0 : decode cX5_shortestRound 0 = .ok (.iconst (-1), 1) := by decide +kernel
theorem dX5_shortestRound_1 : decode cX5_shortestRound 1 = .ok (.istore_n 1, 1) := by decide +kernel
theorem dX5_shortestRound_2 : decode cX5_shortestRound 2 = .ok (.iconst 0, 1) := by decide +kernel
theorem dX5_shortestRound_3 : decode cX5_shortestRound 3 = .ok (.istore_n 2, 1) := by decide +kernel
theorem dX5_shortestRound_4 : decode cX5_shortestRound 4 = .ok (.iload_n 2, 1) := by decide +kernel
theorem dX5_shortestRound_5 : decode cX5_shortestRound 5 = .ok (.aload_n 0, 1) := by decide +kernel
theorem dX5_shortestRound_6 : decode cX5_shortestRound 6 = .ok (.getfield 30, 3) := by decide +kernel
theorem dX5_shortestRound_9 : decode cX5_shortestRound 9 = .ok (.if_icmp .ge 70, 3) := by decide +kernel
theorem dX5_shortestRound_12 : decode cX5_shortestRound 12 = .ok (.iconst 0, 1) := by decide +kernel
theorem dX5_shortestRound_13 : decode cX5_shortestRound 13 = .ok (.istore_n 3, 1) := by decide +kernel
theorem dX5_shortestRound_14 : decode cX5_shortestRound 14 = .ok (.iload_n 3, 1) := by decide +kernel
theorem dX5_shortestRound_15 : decode cX5_shortestRound 15 = .ok (.aload_n 0, 1) := by decide +kernel
theorem dX5_shortestRound_16 : decode cX5_shortestRound 16 = .ok (.getfield 34, 3) := by decide +kernel
theorem dX5_shortestRound_19 : decode cX5_shortestRound 19 = .ok (.if_icmp .ge 54, 3) := by decide +kernel
theorem dX5_shortestRound_22 : decode cX5_shortestRound 22 = .ok (.aload_n 0, 1) := by decide +kernel
theorem dX5_shortestRound_23 : decode cX5_shortestRound 23 = .ok (.getfield 9, 3) := by decide +kernel
theorem dX5_shortestRound_26 : decode cX5_shortestRound 26 = .ok (.iload_n 2, 1) := by decide +kernel
theorem dX5_shortestRound_27 : decode cX5_shortestRound 27 = .ok (.iaload, 1) := by decide +kernel
theorem dX5_shortestRound_28 : decode cX5_shortestRound 28 = .ok (.iload_n 3, 1) := by decide +kernel
theorem dX5_shortestRound_29 : decode cX5_shortestRound 29 = .ok (.invokestatic 39, 3) := by decide +kernel
theorem dX5_shortestRound_32 : decode cX5_shortestRound 32 = .ok (.ifCond .eq 12, 3) := by decide +kernel
theorem dX5_shortestRound_35 : decode cX5_shortestRound 35 = .ok (.aload_n 0, 1) := by decide +kernel
theorem dX5_shortestRound_36 : decode cX5_shortestRound 36 = .ok (.iload_n 2, 1) := by decide +kernel
theorem dX5_shortestRound_37 : decode cX5_shortestRound 37 = .ok (.iload_n 3, 1) := by decide +kernel
theorem dX5_shortestRound_38 : decode cX5_shortestRound 38 = .ok (.invokevirtual 69, 3) := by decide +kernel
theorem dX5_shortestRound_41 : decode cX5_shortestRound 41 = .ok (.goto 4, 3) := by decide +kernel
theorem dX5_shortestRound_44 : decode cX5_shortestRound 44 = .ok (.iconst (-1), 1) := by decide +kernel
theorem dX5_shortestRound_45 : decode cX5_shortestRound 45 = .ok (.istore 4, 2) := by decide +kernel
theorem dX5_shortestRound_47 : decode cX5_shortestRound 47 = .ok (.iload 4, 2) := by decide +kernel
theorem dX5_shortestRound_49 : decode cX5_shortestRound 49 = .ok (.iconst (-1), 1) := by decide +kernel
theorem dX5_shortestRound_50 : decode cX5_shortestRound 50 = .ok (.if_icmp .eq 17, 3) := by decide +kernel
theorem dX5_shortestRound_53 : decode cX5_shortestRound 53 = .ok (.iload_n 1, 1) := by decide +kernel
theorem dX5_shortestRound_54 : decode cX5_shortestRound 54 = .ok (.iconst (-1), 1) := by decide +kernel
theorem dX5_shortestRound_55 : decode cX5_shortestRound 55 = .ok (.if_icmp .eq 9, 3) := by decide +kernel
theorem dX5_shortestRound_58 : decode cX5_shortestRound 58 = .ok (.iload 4, 2) := by decide +kernel
theorem dX5_shortestRound_60 : decode cX5_shortestRound 60 = .ok (.iload_n 1, 1) := by decide +kernel
theorem dX5_shortestRound_61 : decode cX5_shortestRound 61 = .ok (.if_icmp .ge 6, 3) := by decide +kernel
theorem dX5_shortestRound_64 : decode cX5_shortestRound 64 = .ok (.iload 4, 2) := by decide +kernel
theorem dX5_shortestRound_66 : decode cX5_shortestRound 66 = .ok (.istore_n 1, 1) := by decide +kernel
theorem dX5_shortestRound_67 : decode cX5_shortestRound 67 = .ok (.iinc 3 1, 3) := by decide +kernel
theorem dX5_shortestRound_70 : decode cX5_shortestRound 70 = .ok (.goto (-56), 3) := by decide +kernel
theorem dX5_shortestRound_73 : decode cX5_shortestRound 73 = .ok (.iinc 2 1, 3) := by decide +kernel
theorem dX5_shortestRound_76 : decode cX5_shortestRound 76 = .ok (.goto (-72), 3) := by decide +kernel
theorem dX5_shortestRound_79 : decode cX5_shortestRound 79 = .ok (.iload_n 1, 1) := by decide +kernel
theorem dX5_shortestRound_80 : decode cX5_shortestRound 80 = .ok (.ireturn, 1) := by decide +kernel
theorem dX5_roundBy_0 : decode cX5_roundBy 0 = .ok (.aload_n 0, 1) := by decide +kernel
theorem dX5_roundBy_1 : decode cX5_roundBy 1 = .ok (.getfield 9, 3) := by decide +kernel
theorem dX5_roundBy_4 : decode cX5_roundBy 4 = .ok (.iload_n 1, 1) := by decide +kernel
theorem dX5_roundBy_5 : decode cX5_roundBy 5 = .ok (.iaload, 1) := by decide +kernel
theorem dX5_roundBy_6 : decode cX5_roundBy 6 = .ok (.iconst 1, 1) := by decide +kernel
theorem dX5_roundBy_7 : decode cX5_roundBy 7 = .ok (.iload_n 2, 1) := by decide +kernel
theorem dX5_roundBy_8 : decode cX5_roundBy 8 = .ok (.ishl, 1) := by decide +kernel
theorem dX5_roundBy_9 : decode cX5_roundBy 9 = .ok (.iconst (-1), 1) := by decide +kernel
theorem dX5_roundBy_10 : decode cX5_roundBy 10 = .ok (.ixor, 1) := by decide +kernel
theorem dX5_roundBy_11 : decode cX5_roundBy 11 = .ok (.iand, 1) := by decide +kernel
theorem dX5_roundBy_12 : decode cX5_roundBy 12 = .ok (.istore_n 3, 1) := by decide +kernel
theorem dX5_roundBy_13 : decode cX5_roundBy 13 = .ok (.iconst 4, 1) := by decide +kernel
theorem dX5_roundBy_14 : decode cX5_roundBy 14 = .ok (.istore 4, 2) := by decide +kernel
theorem dX5_roundBy_16 : decode cX5_roundBy 16 = .ok (.iload 4, 2) := by decide +kernel
theorem dX5_roundBy_18 : decode cX5_roundBy 18 = .ok (.bipush 12, 2) := by decide +kernel
theorem dX5_roundBy_20 : decode cX5_roundBy 20 = .ok (.if_icmp .gt 42, 3) := by decide +kernel
theorem dX5_roundBy_23 : decode cX5_roundBy 23 = .ok (.aload_n 0, 1) := by decide +kernel
theorem dX5_roundBy_24 : decode cX5_roundBy 24 = .ok (.iload_n 3, 1) := by decide +kernel
theorem dX5_roundBy_25 : decode cX5_roundBy 25 = .ok (.invokevirtual 57, 3) := by decide +kernel
theorem dX5_roundBy_28 : decode cX5_roundBy 28 = .ok (.iconst 1, 1) := by decide +kernel
theorem dX5_roundBy_29 : decode cX5_roundBy 29 = .ok (.iload_n 1, 1) := by decide +kernel
theorem dX5_roundBy_30 : decode cX5_roundBy 30 = .ok (.ishl, 1) := by decide +kernel
theorem dX5_roundBy_31 : decode cX5_roundBy 31 = .ok (.iconst (-1), 1) := by decide +kernel
theorem dX5_roundBy_32 : decode cX5_roundBy 32 = .ok (.ixor, 1) := by decide +kernel
theorem dX5_roundBy_33 : decode cX5_roundBy 33 = .ok (.iand, 1) := by decide +kernel
theorem dX5_roundBy_34 : decode cX5_roundBy 34 = .ok (.istore 5, 2) := by decide +kernel
theorem dX5_roundBy_36 : decode cX5_roundBy 36 = .ok (.iload_n 3, 1) := by decide +kernel
theorem dX5_roundBy_37 : decode cX5_roundBy 37 = .ok (.aload_n 0, 1) := by decide +kernel
theorem dX5_roundBy_38 : decode cX5_roundBy 38 = .ok (.iload 5, 2) := by decide +kernel
theorem dX5_roundBy_40 : decode cX5_roundBy 40 = .ok (.invokevirtual 50, 3) := by decide +kernel
theorem dX5_roundBy_43 : decode cX5_roundBy 43 = .ok (.ior, 1) := by decide +kernel
theorem dX5_roundBy_44 : decode cX5_roundBy 44 = .ok (.istore_n 3, 1) := by decide +kernel
theorem dX5_roundBy_45 : decode cX5_roundBy 45 = .ok (.iload_n 3, 1) := by decide +kernel
theorem dX5_roundBy_46 : decode cX5_roundBy 46 = .ok (.iload_n 2, 1) := by decide +kernel
theorem dX5_roundBy_47 : decode cX5_roundBy 47 = .ok (.invokestatic 39, 3) := by decide +kernel
theorem dX5_roundBy_50 : decode cX5_roundBy 50 = .ok (.ifCond .eq 6, 3) := by decide +kernel
theorem dX5_roundBy_53 : decode cX5_roundBy 53 = .ok (.iload 4, 2) := by decide +kernel
theorem dX5_roundBy_55 : decode cX5_roundBy 55 = .ok (.ireturn, 1) := by decide +kernel
theorem dX5_roundBy_56 : decode cX5_roundBy 56 = .ok (.iinc 4 2, 3) := by decide +kernel
theorem dX5_roundBy_59 : decode cX5_roundBy 59 = .ok (.goto (-43), 3) := by decide +kernel
theorem dX5_roundBy_62 : decode cX5_roundBy 62 = .ok (.iconst (-1), 1) := by decide +kernel
theorem dX5_roundBy_63 : decode cX5_roundBy 63 = .ok (.ireturn, 1) := by decide +kernel
theorem dX10_block_0 : decode cX10_block 0 = .ok (.aload_n 0, 1) := by decide +kernel
theorem dX10_block_1 : decode cX10_block 1 = .ok (.getfield 19, 3) := by decide +kernel
theorem dX10_block_4 : decode cX10_block 4 = .ok (.invokevirtual 152, 3) := by decide +kernel
theorem dX10_block_7 : decode cX10_block 7 = .ok (.ifCond .eq 5, 3) := by decide +kernel
theorem dX10_block_10 : decode cX10_block 10 = .ok (.iconst (-1), 1) := by decide +kernel
theorem dX10_block_11 : decode cX10_block 11 = .ok (.ireturn, 1) := by decide +kernel
theorem dX10_block_12 : decode cX10_block 12 = .ok (.aload_n 0, 1) := by decide +kernel
theorem dX10_block_13 : decode cX10_block 13 = .ok (.getfield 80, 3) := by decide +kernel
theorem dX10_block_16 : decode cX10_block 16 = .ok (.aload_n 0, 1) := by decide +kernel
theorem dX10_block_17 : decode cX10_block 17 = .ok (.getfield 19, 3) := by decide +kernel
theorem dX10_block_20 : decode cX10_block 20 = .ok (.invokevirtual 248, 3) := by decide +kernel
theorem dX10_block_23 : decode cX10_block 23 = .ok (.aload_n 0, 1) := by decide +kernel
theorem dX10_block_24 : decode cX10_block 24 = .ok (.getfield 80, 3) := by decide +kernel
theorem dX10_block_27 : decode cX10_block 27 = .ok (.invokevirtual 251, 3) := by decide +kernel
theorem dX10_block_30 : decode cX10_block 30 = .ok (.iload_n 1, 1) := by decide +kernel
theorem dX10_block_31 : decode cX10_block 31 = .ok (.iconst (-1), 1) := by decide +kernel
theorem dX10_block_32 : decode cX10_block 32 = .ok (.if_icmp .ne 13, 3) := by decide +kernel
theorem dX10_block_35 : decode cX10_block 35 = .ok (.aload_n 0, 1) := by decide +kernel
theorem dX10_block_36 : decode cX10_block 36 = .ok (.getfield 80, 3) := by decide +kernel
theorem dX10_block_39 : decode cX10_block 39 = .ok (.getfield 254, 3) := by decide +kernel
theorem dX10_block_42 : decode cX10_block 42 = .ok (.goto 12, 3) := by decide +kernel
theorem dX10_block_45 : decode cX10_block 45 = .ok (.aload_n 0, 1) := by decide +kernel
theorem dX10_block_46 : decode cX10_block 46 = .ok (.getfield 80, 3) := by decide +kernel
theorem dX10_block_49 : decode cX10_block 49 = .ok (.iload_n 1, 1) := by decide +kernel
theorem dX10_block_50 : decode cX10_block 50 = .ok (.iload_n 2, 1) := by decide +kernel
theorem dX10_block_51 : decode cX10_block 51 = .ok (.invokevirtual 257, 3) := by decide +kernel
theorem dX10_block_54 : decode cX10_block 54 = .ok (.ireturn, 1) := by decide +kernel
theorem dX10_pack_0 : decode cX10_pack 0 = .ok (.aload_n 0, 1) := by decide +kernel
theorem dX10_pack_1 : decode cX10_pack 1 = .ok (.getfield 19, 3) := by decide +kernel
theorem dX10_pack_4 : decode cX10_pack 4 = .ok (.invokevirtual 152, 3) := by decide +kernel
theorem dX10_pack_7 : decode cX10_pack 7 = .ok (.ifCond .ne 12, 3) := by decide +kernel
theorem dX10_pack_10 : decode cX10_pack 10 = .ok (.iload_n 1, 1) := by decide +kernel
theorem dX10_pack_11 : decode cX10_pack 11 = .ok (.ifCond .lt 8, 3) := by decide +kernel
theorem dX10_pack_14 : decode cX10_pack 14 = .ok (.iload_n 1, 1) := by decide +kernel
theorem dX10_pack_15 : decode cX10_pack 15 = .ok (.iconst 1, 1) := by decide +kernel
theorem dX10_pack_16 : decode cX10_pack 16 = .ok (.if_icmp .le 5, 3) := by decide +kernel
theorem dX10_pack_19 : decode cX10_pack 19 = .ok (.iconst (-1), 1) := by decide +kernel
theorem dX10_pack_20 : decode cX10_pack 20 = .ok (.ireturn, 1) := by decide +kernel
theorem dX10_pack_21 : decode cX10_pack 21 = .ok (.aload_n 0, 1) := by decide +kernel
theorem dX10_pack_22 : decode cX10_pack 22 = .ok (.getfield 80, 3) := by decide +kernel
theorem dX10_pack_25 : decode cX10_pack 25 = .ok (.aload_n 0, 1) := by decide +kernel
theorem dX10_pack_26 : decode cX10_pack 26 = .ok (.getfield 19, 3) := by decide +kernel
theorem dX10_pack_29 : decode cX10_pack 29 = .ok (.invokevirtual 248, 3) := by decide +kernel
theorem dX10_pack_32 : decode cX10_pack 32 = .ok (.iload_n 1, 1) := by decide +kernel
theorem dX10_pack_33 : decode cX10_pack 33 = .ok (.ifCond .ne 13, 3) := by decide +kernel
theorem dX10_pack_36 : decode cX10_pack 36 = .ok (.aload_n 0, 1) := by decide +kernel
theorem dX10_pack_37 : decode cX10_pack 37 = .ok (.getfield 80, 3) := by decide +kernel
theorem dX10_pack_40 : decode cX10_pack 40 = .ok (.invokevirtual 276, 3) := by decide +kernel
theorem dX10_pack_43 : decode cX10_pack 43 = .ok (.goto 10, 3) := by decide +kernel
theorem dX10_pack_46 : decode cX10_pack 46 = .ok (.aload_n 0, 1) := by decide +kernel
theorem dX10_pack_47 : decode cX10_pack 47 = .ok (.getfield 80, 3) := by decide +kernel
theorem dX10_pack_50 : decode cX10_pack 50 = .ok (.invokevirtual 279, 3) := by decide +kernel
theorem dX10_pack_53 : decode cX10_pack 53 = .ok (.ireturn, 1) := by decide +kernel
theorem dX10_cycle_0 : decode cX10_cycle 0 = .ok (.aload_n 0, 1) := by decide +kernel
theorem dX10_cycle_1 : decode cX10_cycle 1 = .ok (.getfield 19, 3) := by decide +kernel
theorem dX10_cycle_4 : decode cX10_cycle 4 = .ok (.invokevirtual 152, 3) := by decide +kernel
theorem dX10_cycle_7 : decode cX10_cycle 7 = .ok (.ifCond .eq 5, 3) := by decide +kernel
theorem dX10_cycle_10 : decode cX10_cycle 10 = .ok (.iconst (-1), 1) := by decide +kernel
theorem dX10_cycle_11 : decode cX10_cycle 11 = .ok (.ireturn, 1) := by decide +kernel
theorem dX10_cycle_12 : decode cX10_cycle 12 = .ok (.aload_n 0, 1) := by decide +kernel
theorem dX10_cycle_13 : decode cX10_cycle 13 = .ok (.getfield 80, 3) := by decide +kernel
theorem dX10_cycle_16 : decode cX10_cycle 16 = .ok (.aload_n 0, 1) := by decide +kernel
theorem dX10_cycle_17 : decode cX10_cycle 17 = .ok (.getfield 19, 3) := by decide +kernel
theorem dX10_cycle_20 : decode cX10_cycle 20 = .ok (.invokevirtual 248, 3) := by decide +kernel
theorem dX10_cycle_23 : decode cX10_cycle 23 = .ok (.aload_n 0, 1) := by decide +kernel
theorem dX10_cycle_24 : decode cX10_cycle 24 = .ok (.getfield 80, 3) := by decide +kernel
theorem dX10_cycle_27 : decode cX10_cycle 27 = .ok (.invokevirtual 282, 3) := by decide +kernel
theorem dX10_cycle_30 : decode cX10_cycle 30 = .ok (.ireturn, 1) := by decide +kernel
noncomputable def mkm (p : Nat → Prop) : Nat → Nat
  | 0 => 0
  | n + 1 => cnd (p n) (mkm p n + 2 ^ n) (mkm p n)
theorem mkm_lt (p : Nat → Prop) : ∀ n, mkm p n < 2 ^ n
  | 0 => by simp [mkm]
  | n + 1 => by
    have := mkm_lt p n
    rw [mkm, Nat.pow_succ]
    by_cases q : p n
    · rw [cnd_t q]; omega
    · rw [cnd_f q]; omega
theorem mkm_bit (p : Nat → Prop) (i : Nat) : ∀ n, (mkm p n).testBit i = true ↔ i < n ∧ p i
  | 0 => by simp [mkm]
  | n + 1 => by
    have ih := mkm_bit p i n
    have lt := mkm_lt p n
    rw [mkm]
    by_cases q : p n
    · rw [cnd_t q, Nat.add_comm]
      rcases Nat.lt_trichotomy i n with z | z | z
      · rw [Nat.testBit_two_pow_add_gt z, ih]
        exact ⟨fun ⟨a, b⟩ => ⟨by omega, b⟩, fun ⟨a, b⟩ => ⟨z, b⟩⟩
      · subst z
        rw [Nat.testBit_two_pow_add_eq, Nat.testBit_lt_two_pow lt]
        simp [q]
      · rw [Nat.testBit_lt_two_pow (Nat.lt_of_lt_of_le (show 2 ^ n + mkm p n < 2 ^ (n + 1) by rw [Nat.pow_succ]; omega) (Nat.pow_le_pow_right (by decide) z))]
        simp; omega
    · rw [cnd_f q, ih]
      refine ⟨fun ⟨a, b⟩ => ⟨by omega, b⟩, fun ⟨a, b⟩ => ?_⟩
      rcases (by omega : i < n ∨ i = n) with z | rfl
      · exact ⟨z, b⟩
      · exact absurd b q
theorem eq_bits {a b : Nat} (ha : a < 64) (hb : b < 64) (h : ∀ i, i < 6 → (a.testBit i = true ↔ b.testBit i = true)) : a = b := by
  apply Nat.eq_of_testBit_eq
  intro i
  by_cases q : i < 6
  · have := h i q
    cases h1 : a.testBit i <;> cases h2 : b.testBit i <;> simp [h1, h2] at this ⊢
  · have p : 64 ≤ 2 ^ i := Nat.pow_le_pow_right (n := 2) (by decide) (show 6 ≤ i by omega)
    rw [Nat.testBit_lt_two_pow (Nat.lt_of_lt_of_le ha p), Nat.testBit_lt_two_pow (Nat.lt_of_lt_of_le hb p)]
theorem mkm64 (p : Nat → Prop) {n : Nat} (h : n ≤ 6) : mkm p n < 64 := Nat.lt_of_lt_of_le (mkm_lt p n) (pw6 h)
theorem mkm_ext {p q : Nat → Prop} : ∀ n, (∀ i, i < n → (p i ↔ q i)) → mkm p n = mkm q n
  | 0, _ => rfl
  | n + 1, h => by
    rw [mkm, mkm, mkm_ext n (fun i hi => h i (by omega))]
    by_cases z : p n
    · rw [cnd_t z, cnd_t ((h n (by omega)).mp z)]
    · rw [cnd_f z, cnd_f (fun y => z ((h n (by omega)).mpr y))]
theorem or64 : ∀ a, a < 64 → ∀ b, b < 64 → a ||| b < 64 := by decide +kernel
theorem and64 : ∀ a, a < 64 → ∀ b, b < 64 → a &&& b < 64 := by decide +kernel
/-- a row's columns, a column's rows -/
noncomputable def acr (T : tb) (r : Nat) : Nat := mkm (fun c => ¬ T.2.2 r c = 0) T.2.1
noncomputable def dwn (T : tb) (c : Nat) : Nat := mkm (fun r => ¬ T.2.2 r c = 0) T.1
def SH (σ : sg) (T : tb) : Prop := σ.1 i_shape 0 = nI T.1 ∧ σ.1 i_shape 1 = nI T.2.1 ∧ T.1 ≤ 6 ∧ T.2.1 ≤ 6 ∧ (∀ r, r < T.1 → σ.2.2 i_across r = nI (acr T r)) ∧ ∀ c, c < T.2.1 → σ.2.2 i_down c = nI (dwn T c)
noncomputable def cmet (T : tb) (S : Nat) : Nat := mkm (fun c => ∃ r, r < T.1 ∧ S.testBit r = true ∧ ¬ T.2.2 r c = 0) T.2.1
noncomputable def rmet (T : tb) (S : Nat) : Nat := mkm (fun r => ∃ c, c < T.2.1 ∧ S.testBit c = true ∧ ¬ T.2.2 r c = 0) T.1
theorem or_2 : ∀ i, i < 6 → nI 0 ||| nI (2 ^ i) = nI (2 ^ i) := by decide
theorem mkm_or {p : Nat → Prop} {n : Nat} (hn : n < 6) (h : p n) : nI (mkm p n) ||| nI (2 ^ n) = nI (mkm p (n + 1)) := by
  have l := mkm64 p (n := n) (by omega)
  have l2 := mkm64 p (n := n + 1) (by omega)
  have l3 : 2 ^ n < 64 := Nat.pow_lt_pow_right (by decide) hn
  rw [nI_or _ l _ l3]
  congr 1
  refine eq_bits (or64 _ l _ l3) l2 (fun i hi => ?_)
  rw [Nat.testBit_or, mkm_bit, Bool.or_eq_true, mkm_bit, Nat.testBit_two_pow]
  simp only [decide_eq_true_eq]
  constructor
  · rintro (⟨a, b⟩ | rfl)
    · exact ⟨by omega, b⟩
    · exact ⟨by omega, h⟩
  · rintro ⟨a, b⟩
    rcases (by omega : i < n ∨ n = i) with z | z
    · exact Or.inl ⟨z, b⟩
    · exact Or.inr z
theorem mkm_n {p : Nat → Prop} {n : Nat} (h : ¬ p n) : mkm p (n + 1) = mkm p n := by rw [mkm, cnd_f h]
/-- rows and columns up to a place -/
noncomputable def dwnP (T : tb) (n m c : Nat) : Nat := mkm (fun r => ¬ T.2.2 r c = 0) (if c < m then n + 1 else n)
theorem c_takeFrom {σ : sg} {x : aW} {T : tb} (h : CT σ i_table T) : Mt mX5_takeFrom 1 0 0 [.ref i_shape, .ref i_table] (wd σ x) (fun r w => r = none ∧ ∃ τ, w = wd τ x ∧ AE [131, 132, 133] σ τ ∧ SH τ T) := by
  refine Mt.of MI_X5_takeFrom (Nat.le_of_ble_eq_true rfl) (fun X hC hR hT => ?_)
  obtain ⟨k1, k2, k3, k4, k5⟩ := id h
  have ct : ∀ τ, AE [131, 132, 133] σ τ → CT τ i_table T := fun τ e => h.ae e (by decide) (by decide)
  have outer : ∀ n, n ≤ T.1 → ∀ τ, AE [131, 132, 133] σ τ → τ.1 i_shape 0 = nI T.1 → τ.1 i_shape 1 = nI T.2.1 → (∀ r, r < T.1 → τ.2.2 i_across r = nI (if r < n then acr T r else 0)) → (∀ c, c < T.2.1 → τ.2.2 i_down c = nI (mkm (fun r => ¬ T.2.2 r c = 0) n)) → ∀ u3, Rw mX5_takeFrom X 46 [some (.ref i_shape), some (.ref i_table), some (.int (nI n)), u3] [] (wd τ x) 0 0 := by
    refine up_loop T.1 ?_ ?_
    · intro τ e f1 f2 ha hd u3
      refine R_iload_n (i := 2) hC dX5_takeFrom_46 rfl rfl (R_aload_n (i := 0) hC dX5_takeFrom_47 rfl rfl (R_gI hC dX5_takeFrom_48 fl_X5_30 L_shape rfl ?_))
      refine R_top (y := nI T.1) (f1) ?_
      refine R_icmp_ge hC 109 dX5_takeFrom_51 (by decide) (fun _ => ?_) (fun h => absurd (Int32.le_refl _) h)
      exact R_vret hC hT dX5_takeFrom_109 rfl ⟨rfl, τ, rfl, e, f1, f2, k3, k4, fun r hr => by rw [ha r hr, if_pos hr], fun c hc => hd c hc⟩
    · intro n hn ih τ e f1 f2 ha hd u3
      have inner : ∀ m, m ≤ T.2.1 → ∀ τ, AE [131, 132, 133] σ τ → τ.1 i_shape 0 = nI T.1 → τ.1 i_shape 1 = nI T.2.1 → (∀ r, r < T.1 → τ.2.2 i_across r = nI (if r < n then acr T r else if r = n then mkm (fun c => ¬ T.2.2 n c = 0) m else 0)) → (∀ c, c < T.2.1 → τ.2.2 i_down c = nI (dwnP T n m c)) → Rw mX5_takeFrom X 56 [some (.ref i_shape), some (.ref i_table), some (.int (nI n)), some (.int (nI m))] [] (wd τ x) 0 0 := by
        refine up_loop T.2.1 ?_ ?_
        · intro τ e f1 f2 ha hd
          refine R_iload_n (i := 3) hC dX5_takeFrom_56 rfl rfl (R_aload_n (i := 0) hC dX5_takeFrom_57 rfl rfl (R_gI hC dX5_takeFrom_58 fl_X5_34 L_shape rfl ?_))
          refine R_top (y := nI T.2.1) (f2) ?_
          refine R_icmp_ge hC 103 dX5_takeFrom_61 (by decide) (fun _ => ?_) (fun h => absurd (Int32.le_refl _) h)
          refine R_iinc hC dX5_takeFrom_103 rfl (inc1 _) (by decide) rfl (R_goto hC 46 dX5_takeFrom_106 (by decide) ?_)
          exact ih τ e f1 f2 (fun r hr => by
            rw [ha r hr]
            by_cases z : r < n
            · rw [if_pos z, if_pos (by omega)]
            · by_cases z2 : r = n
              · subst z2; rw [if_neg z, if_pos rfl, if_pos (by omega)]; rfl
              · rw [if_neg z, if_neg z2, if_neg (by omega)]) (fun c hc => by rw [hd c hc]; unfold dwnP; rw [if_pos hc]) _
        · intro m hm ihm τ e f1 f2 ha hd
          have hct := ct τ e
          by_cases hz : T.2.2 n m = 0
          · refine R_iload_n (i := 3) hC dX5_takeFrom_56 rfl rfl (R_aload_n (i := 0) hC dX5_takeFrom_57 rfl rfl (R_gI hC dX5_takeFrom_58 fl_X5_34 L_shape rfl ?_))
            refine R_top (y := nI T.2.1) (f2) ?_
            refine R_icmp_ge hC 103 dX5_takeFrom_61 (by decide) (fun h => absurd h (nI_ge hm (by omega))) (fun _ => ?_)
            refine R_aload_n (i := 1) hC dX5_takeFrom_64 rfl rfl (R_iload_n (i := 2) hC dX5_takeFrom_65 rfl rfl (R_iload_n (i := 3) hC dX5_takeFrom_66 rfl rfl ?_))
            refine R_V2i hC hR dX5_takeFrom_67 MV_X7_at ml_X5_35 L_table rfl (c_atN TL_table hct hn hm) (by first | decide | omega) ⟨by decide, by decide⟩ (Nat.le_of_ble_eq_true rfl) ?_
            refine R_if_eq hC 97 dX5_takeFrom_70 (by decide) (fun _ => ?_) (fun h => absurd hz h)
            refine R_iinc hC dX5_takeFrom_97 rfl (inc1 _) (by decide) rfl (R_goto hC 56 dX5_takeFrom_100 (by decide) ?_)
            exact ihm τ e f1 f2 (fun r hr => by rw [ha r hr, mkm_n (fun y => y hz)]) (fun c hc => by
              rw [hd c hc]
              unfold dwnP
              by_cases z : c = m
              · subst z; rw [if_neg (by omega), if_pos (by omega), mkm_n (fun y => y hz)]
              · by_cases z2 : c < m
                · rw [if_pos z2, if_pos (by omega)]
                · rw [if_neg z2, if_neg (by omega)])
          · have a0 := ha n hn
            rw [if_neg (by omega), if_pos rfl] at a0
            have d0 := hd m hm
            unfold dwnP at d0
            rw [if_neg (by omega)] at d0
            refine R_iload_n (i := 3) hC dX5_takeFrom_56 rfl rfl (R_aload_n (i := 0) hC dX5_takeFrom_57 rfl rfl (R_gI hC dX5_takeFrom_58 fl_X5_34 L_shape rfl ?_))
            refine R_top (y := nI T.2.1) (f2) ?_
            refine R_icmp_ge hC 103 dX5_takeFrom_61 (by decide) (fun h => absurd h (nI_ge hm (by omega))) (fun _ => ?_)
            refine R_aload_n (i := 1) hC dX5_takeFrom_64 rfl rfl (R_iload_n (i := 2) hC dX5_takeFrom_65 rfl rfl (R_iload_n (i := 3) hC dX5_takeFrom_66 rfl rfl ?_))
            refine R_V2i hC hR dX5_takeFrom_67 MV_X7_at ml_X5_35 L_table rfl (c_atN TL_table hct hn hm) (by first | decide | omega) ⟨by decide, by decide⟩ (Nat.le_of_ble_eq_true rfl) ?_
            refine R_if_eq hC 97 dX5_takeFrom_70 (by decide) (fun h => absurd h hz) (fun _ => ?_)
            refine R_aload_n (i := 0) hC dX5_takeFrom_73 rfl rfl (R_gR hC dX5_takeFrom_74 fl_X5_9 L_shape rfl (R_iload_n (i := 2) hC dX5_takeFrom_77 rfl rfl (R_dup2 hC dX5_takeFrom_78 rfl rfl (R_aI hC dX5_takeFrom_79 L_across n rfl (by omega) (by decide) ?_))))
            refine R_top (y := nI (mkm (fun c => ¬ T.2.2 n c = 0) m)) (a0) ?_
            refine R_iconst (v := 1) hC dX5_takeFrom_80 (by decide) (R_iload_n (i := 3) hC dX5_takeFrom_81 rfl rfl (R_ishl hC dX5_takeFrom_82 ?_))
            refine R_top (y := nI (2 ^ m)) (shl1 m (by omega)) ?_
            refine R_ior hC dX5_takeFrom_83 ?_
            refine R_top (y := nI (mkm (fun c => ¬ T.2.2 n c = 0) (m + 1))) (mkm_or (by omega) hz) ?_
            refine R_sI hC dX5_takeFrom_84 L_across n rfl (by omega) (by decide) (R_aload_n (i := 0) hC dX5_takeFrom_85 rfl rfl (R_gR hC dX5_takeFrom_86 fl_X5_15 L_shape rfl (R_iload_n (i := 3) hC dX5_takeFrom_89 rfl rfl (R_dup2 hC dX5_takeFrom_90 rfl rfl (R_aI hC dX5_takeFrom_91 L_down m rfl (by omega) (by decide) ?_)))))
            refine R_top (y := nI (mkm (fun r => ¬ T.2.2 r m = 0) n)) ((by rw [sA_ne (by decide)]; exact d0)) ?_
            refine R_iconst (v := 1) hC dX5_takeFrom_92 (by decide) (R_iload_n (i := 2) hC dX5_takeFrom_93 rfl rfl (R_ishl hC dX5_takeFrom_94 ?_))
            refine R_top (y := nI (2 ^ n)) (shl1 n (by omega)) ?_
            refine R_ior hC dX5_takeFrom_95 ?_
            refine R_top (y := nI (mkm (fun r => ¬ T.2.2 r m = 0) (n + 1))) (mkm_or (p := fun r => ¬ T.2.2 r m = 0) (by omega) hz) ?_
            refine R_sI hC dX5_takeFrom_96 L_down m rfl (by omega) (by decide) (R_iinc hC dX5_takeFrom_97 rfl (inc1 _) (by decide) rfl (R_goto hC 56 dX5_takeFrom_100 (by decide) ?_))
            exact ihm _ ((e.a (by decide)).a (by decide)) f1 f2 (fun r hr => by
              rw [sA_ne (by decide), sA_eq]
              unfold upd
              by_cases z : r = n
              · subst z; rw [if_pos rfl, if_neg (by omega), if_pos rfl]
              · rw [if_neg z, ha r hr, if_neg z, if_neg z]) (fun c hc => by
              rw [sA_eq, sA_ne (by decide)]
              unfold upd
              by_cases z : c = m
              · subst z; rw [if_pos rfl]; unfold dwnP; rw [if_pos (by omega)]
              · rw [if_neg z, hd c hc]
                unfold dwnP
                by_cases z2 : c < m
                · rw [if_pos z2, if_pos (by omega)]
                · rw [if_neg z2, if_neg (by omega)])
      refine R_iload_n (i := 2) hC dX5_takeFrom_46 rfl rfl (R_aload_n (i := 0) hC dX5_takeFrom_47 rfl rfl (R_gI hC dX5_takeFrom_48 fl_X5_30 L_shape rfl ?_))
      refine R_top (y := nI T.1) (f1) ?_
      refine R_icmp_ge hC 109 dX5_takeFrom_51 (by decide) (fun h => absurd h (nI_ge hn (by omega))) (fun _ => ?_)
      refine R_iconst (v := 0) hC dX5_takeFrom_54 (by decide) (R_istore_n (i := 3) hC dX5_takeFrom_55 rfl (by decide) rfl ?_)
      exact inner 0 (Nat.zero_le _) τ e f1 f2 (fun r hr => by
        rw [ha r hr]
        by_cases z : r < n
        · rw [if_pos z, if_pos z]
        · rw [if_neg z, if_neg z]; split <;> rfl) (fun c hc => by rw [hd c hc]; unfold dwnP; rw [if_neg (by omega)])
  have clr0 : ∀ n, n ≤ 6 → ∀ τ, AE [131, 132, 133] σ τ → τ.1 i_shape 0 = nI T.1 → τ.1 i_shape 1 = nI T.2.1 → (∀ k, k < n → τ.2.2 i_across k = 0 ∧ τ.2.2 i_down k = 0) → Rw mX5_takeFrom X 18 [some (.ref i_shape), some (.ref i_table), some (.int (nI n)), none] [] (wd τ x) 0 0 := by
    refine up_loop 6 ?_ ?_
    · intro τ e f1 f2 hz
      refine R_iload_n (i := 2) hC dX5_takeFrom_18 rfl rfl (R_bipush (v := 6) hC dX5_takeFrom_19 (by decide) ?_)
      refine R_icmp_ge hC 44 dX5_takeFrom_21 (by decide) (fun _ => ?_) (fun h => absurd (by decide) h)
      refine R_iconst (v := 0) hC dX5_takeFrom_44 (by decide) (R_istore_n (i := 2) hC dX5_takeFrom_45 rfl (by decide) rfl ?_)
      exact outer 0 (Nat.zero_le _) τ e f1 f2 (fun r hr => by rw [(hz r (by omega)).1]; rfl) (fun c hc => by rw [(hz c (by omega)).2]; rfl) _
    · intro n hn ih τ e f1 f2 hz
      refine R_iload_n (i := 2) hC dX5_takeFrom_18 rfl rfl (R_bipush (v := 6) hC dX5_takeFrom_19 (by decide) ?_)
      refine R_icmp_ge hC 44 dX5_takeFrom_21 (by decide) (fun h => absurd h (nI_ge (b := 6) hn (by decide))) (fun _ => ?_)
      refine R_aload_n (i := 0) hC dX5_takeFrom_24 rfl rfl (R_gR hC dX5_takeFrom_25 fl_X5_9 L_shape rfl (R_iload_n (i := 2) hC dX5_takeFrom_28 rfl rfl (R_iconst (v := 0) hC dX5_takeFrom_29 (by decide) (R_sI hC dX5_takeFrom_30 L_across n rfl hn (by decide) (R_aload_n (i := 0) hC dX5_takeFrom_31 rfl rfl (R_gR hC dX5_takeFrom_32 fl_X5_15 L_shape rfl (R_iload_n (i := 2) hC dX5_takeFrom_35 rfl rfl ?_)))))))
      refine R_iconst (v := 0) hC dX5_takeFrom_36 (by decide) (R_sI hC dX5_takeFrom_37 L_down n rfl hn (by decide) (R_iinc hC dX5_takeFrom_38 rfl (inc1 _) (by decide) rfl (R_goto hC 18 dX5_takeFrom_41 (by decide) ?_)))
      exact ih _ ((e.a (by decide)).a (by decide)) f1 f2 (fun k hk => by
        refine ⟨?_, ?_⟩
        · rw [sA_ne (by decide), sA_eq]; unfold upd; split
          · rfl
          · exact (hz k (by omega)).1
        · rw [sA_eq, sA_ne (by decide)]; unfold upd; split
          · rfl
          · exact (hz k (by omega)).2)
  refine R_aload_n (i := 0) hC dX5_takeFrom_0 rfl rfl (R_aload_n (i := 1) hC dX5_takeFrom_1 rfl rfl (R_gI hC dX5_takeFrom_2 fl_X5_24 L_table rfl ?_))
  refine R_top (y := nI T.1) (k1) ?_
  refine R_pI hC dX5_takeFrom_5 fl_X5_30 L_shape rfl (R_aload_n (i := 0) hC dX5_takeFrom_8 rfl rfl (R_aload_n (i := 1) hC dX5_takeFrom_9 rfl rfl (R_gI hC dX5_takeFrom_10 fl_X5_31 L_table rfl ?_)))
  refine R_top (y := nI T.2.1) ((sG_ni (by decide)).trans k2) ?_
  refine R_pI hC dX5_takeFrom_13 fl_X5_34 L_shape rfl (R_iconst (v := 0) hC dX5_takeFrom_16 (by decide) (R_istore_n (i := 2) hC dX5_takeFrom_17 rfl (by decide) rfl ?_))
  exact clr0 0 (by decide) _ (((AE.rf _ σ).g (by decide)).g (by decide)) ((sG_nk (by decide)).trans (sG_eq _ _ _ _)) (sG_eq _ _ _ _) (fun k hk => absurd hk (Nat.not_lt_zero _))
theorem acr64 (T : tb) (h : T.2.1 ≤ 6) (r : Nat) : acr T r < 64 := mkm64 _ h
theorem dwn64 (T : tb) (h : T.1 ≤ 6) (c : Nat) : dwn T c < 64 := mkm64 _ h
theorem cmet64 (T : tb) (h : T.2.1 ≤ 6) (S : Nat) : cmet T S < 64 := mkm64 _ h
theorem rmet64 (T : tb) (h : T.1 ≤ 6) (S : Nat) : rmet T S < 64 := mkm64 _ h
theorem c_cmet {σ : sg} {x : aW} {T : tb} (h : SH σ T) (S : Nat) (hS : S < 64) : Mt mX5_columnsMetBy 1 0 0 [.ref i_shape, .int (nI S)] (wd σ x) (QI (nI (cmet T S)) (wd σ x)) := by
  refine Mt.of MI_X5_columnsMetBy (Nat.le_of_ble_eq_true rfl) (fun X hC hR hT => ?_)
  obtain ⟨f1, f2, k3, k4, ha, hd⟩ := h
  have loop : ∀ n, n ≤ T.1 → Rw mX5_columnsMetBy X 4 [some (.ref i_shape), some (.int (nI S)), some (.int (nI (mkm (fun c => ∃ r, r < n ∧ S.testBit r = true ∧ ¬ T.2.2 r c = 0) T.2.1))), some (.int (nI n))] [] (wd σ x) 0 0 := by
    refine up_loop T.1 ?_ ?_
    · refine R_iload_n (i := 3) hC dX5_columnsMetBy_4 rfl rfl (R_aload_n (i := 0) hC dX5_columnsMetBy_5 rfl rfl (R_gI hC dX5_columnsMetBy_6 fl_X5_30 L_shape rfl ?_))
      refine R_top (y := nI T.1) (f1) ?_
      refine R_icmp_ge hC 35 dX5_columnsMetBy_9 (by decide) (fun _ => ?_) (fun h => absurd (Int32.le_refl _) h)
      refine R_iload_n (i := 2) hC dX5_columnsMetBy_35 rfl rfl ?_
      exact R_iret hC hT dX5_columnsMetBy_36 rfl ⟨rfl, rfl⟩
    · intro n hn ih
      have l1 := mkm64 (fun c => ∃ r, r < n ∧ S.testBit r = true ∧ ¬ T.2.2 r c = 0) k4
      have l2 := mkm64 (fun c => ∃ r, r < n + 1 ∧ S.testBit r = true ∧ ¬ T.2.2 r c = 0) k4
      by_cases hb : S.testBit n = true
      · have e : nI (mkm (fun c => ∃ r, r < n ∧ S.testBit r = true ∧ ¬ T.2.2 r c = 0) T.2.1) ||| nI (acr T n) = nI (mkm (fun c => ∃ r, r < n + 1 ∧ S.testBit r = true ∧ ¬ T.2.2 r c = 0) T.2.1) := by
          rw [nI_or _ l1 _ (acr64 T k4 n)]
          congr 1
          refine eq_bits (or64 _ l1 _ (acr64 T k4 n)) l2 (fun i hi => ?_)
          rw [Nat.testBit_or, Bool.or_eq_true, mkm_bit]
          unfold acr
          rw [mkm_bit, mkm_bit]
          constructor
          · rintro (⟨a, r, b1, b2, b3⟩ | ⟨a, b⟩)
            · exact ⟨a, r, by omega, b2, b3⟩
            · exact ⟨a, n, by omega, hb, b⟩
          · rintro ⟨a, r, b1, b2, b3⟩
            rcases (by omega : r < n ∨ r = n) with z | rfl
            · exact Or.inl ⟨a, r, z, b2, b3⟩
            · exact Or.inr ⟨a, b3⟩
        rw [← e] at ih
        refine R_iload_n (i := 3) hC dX5_columnsMetBy_4 rfl rfl (R_aload_n (i := 0) hC dX5_columnsMetBy_5 rfl rfl (R_gI hC dX5_columnsMetBy_6 fl_X5_30 L_shape rfl ?_))
        refine R_top (y := nI T.1) (f1) ?_
        refine R_icmp_ge hC 35 dX5_columnsMetBy_9 (by decide) (fun h => absurd h (nI_ge hn (by omega))) (fun _ => ?_)
        refine R_iload_n (i := 1) hC dX5_columnsMetBy_12 rfl rfl (R_iload_n (i := 3) hC dX5_columnsMetBy_13 rfl rfl ?_)
        refine R_S2i hC hR dX5_columnsMetBy_14 MS_X10_isIn ml_X5_39 (c_isIn S n hS (by omega) _) (by first | decide | omega) ⟨by decide, by decide⟩ (Nat.le_of_ble_eq_true rfl) ?_
        refine R_top (y := 1) (if_pos hb) ?_
        refine R_if_eq hC 29 dX5_columnsMetBy_17 (by decide) (fun h => absurd h (by decide)) (fun _ => ?_)
        refine R_iload_n (i := 2) hC dX5_columnsMetBy_20 rfl rfl (R_aload_n (i := 0) hC dX5_columnsMetBy_21 rfl rfl (R_gR hC dX5_columnsMetBy_22 fl_X5_9 L_shape rfl (R_iload_n (i := 3) hC dX5_columnsMetBy_25 rfl rfl (R_aI hC dX5_columnsMetBy_26 L_across n rfl (by omega) (by decide) ?_))))
        refine R_top (y := nI (acr T n)) (ha n hn) ?_
        refine R_ior hC dX5_columnsMetBy_27 (R_istore_n (i := 2) hC dX5_columnsMetBy_28 rfl (by decide) rfl (R_iinc hC dX5_columnsMetBy_29 rfl (inc1 _) (by decide) rfl (R_goto hC 4 dX5_columnsMetBy_32 (by decide) ?_)))
        exact ih
      · have e : mkm (fun c => ∃ r, r < n + 1 ∧ S.testBit r = true ∧ ¬ T.2.2 r c = 0) T.2.1 = mkm (fun c => ∃ r, r < n ∧ S.testBit r = true ∧ ¬ T.2.2 r c = 0) T.2.1 := mkm_ext _ (fun i hi => ⟨fun ⟨r, b1, b2, b3⟩ => ⟨r, by
          rcases (by omega : r < n ∨ r = n) with z | rfl
          · exact z
          · exact absurd b2 hb, b2, b3⟩, fun ⟨r, b1, b2, b3⟩ => ⟨r, by omega, b2, b3⟩⟩)
        rw [e] at ih
        refine R_iload_n (i := 3) hC dX5_columnsMetBy_4 rfl rfl (R_aload_n (i := 0) hC dX5_columnsMetBy_5 rfl rfl (R_gI hC dX5_columnsMetBy_6 fl_X5_30 L_shape rfl ?_))
        refine R_top (y := nI T.1) (f1) ?_
        refine R_icmp_ge hC 35 dX5_columnsMetBy_9 (by decide) (fun h => absurd h (nI_ge hn (by omega))) (fun _ => ?_)
        refine R_iload_n (i := 1) hC dX5_columnsMetBy_12 rfl rfl (R_iload_n (i := 3) hC dX5_columnsMetBy_13 rfl rfl ?_)
        refine R_S2i hC hR dX5_columnsMetBy_14 MS_X10_isIn ml_X5_39 (c_isIn S n hS (by omega) _) (by first | decide | omega) ⟨by decide, by decide⟩ (Nat.le_of_ble_eq_true rfl) ?_
        refine R_top (y := 0) (if_neg hb) ?_
        refine R_if_eq hC 29 dX5_columnsMetBy_17 (by decide) (fun _ => ?_) (fun h => absurd rfl h)
        refine R_iinc hC dX5_columnsMetBy_29 rfl (inc1 _) (by decide) rfl (R_goto hC 4 dX5_columnsMetBy_32 (by decide) ?_)
        exact ih
  have l0 := loop 0 (Nat.zero_le _)
  rw [show mkm (fun c => ∃ r, r < 0 ∧ S.testBit r = true ∧ ¬ T.2.2 r c = 0) T.2.1 = 0 from eq_bits (mkm64 _ k4) (by decide) (fun i hi => by rw [mkm_bit]; simp)] at l0
  refine R_iconst (v := 0) hC dX5_columnsMetBy_0 (by decide) (R_istore_n (i := 2) hC dX5_columnsMetBy_1 rfl (by decide) rfl (R_iconst (v := 0) hC dX5_columnsMetBy_2 (by decide) (R_istore_n (i := 3) hC dX5_columnsMetBy_3 rfl (by decide) rfl ?_)))
  exact l0
theorem c_rmet {σ : sg} {x : aW} {T : tb} (h : SH σ T) (S : Nat) (hS : S < 64) : Mt mX5_rowsMetBy 1 0 0 [.ref i_shape, .int (nI S)] (wd σ x) (QI (nI (rmet T S)) (wd σ x)) := by
  refine Mt.of MI_X5_rowsMetBy (Nat.le_of_ble_eq_true rfl) (fun X hC hR hT => ?_)
  obtain ⟨f1, f2, k3, k4, ha, hd⟩ := h
  have loop : ∀ n, n ≤ T.2.1 → Rw mX5_rowsMetBy X 4 [some (.ref i_shape), some (.int (nI S)), some (.int (nI (mkm (fun r => ∃ c, c < n ∧ S.testBit c = true ∧ ¬ T.2.2 r c = 0) T.1))), some (.int (nI n))] [] (wd σ x) 0 0 := by
    refine up_loop T.2.1 ?_ ?_
    · refine R_iload_n (i := 3) hC dX5_rowsMetBy_4 rfl rfl (R_aload_n (i := 0) hC dX5_rowsMetBy_5 rfl rfl (R_gI hC dX5_rowsMetBy_6 fl_X5_34 L_shape rfl ?_))
      refine R_top (y := nI T.2.1) (f2) ?_
      refine R_icmp_ge hC 35 dX5_rowsMetBy_9 (by decide) (fun _ => ?_) (fun h => absurd (Int32.le_refl _) h)
      refine R_iload_n (i := 2) hC dX5_rowsMetBy_35 rfl rfl ?_
      exact R_iret hC hT dX5_rowsMetBy_36 rfl ⟨rfl, rfl⟩
    · intro n hn ih
      have l1 := mkm64 (fun r => ∃ c, c < n ∧ S.testBit c = true ∧ ¬ T.2.2 r c = 0) k3
      have l2 := mkm64 (fun r => ∃ c, c < n + 1 ∧ S.testBit c = true ∧ ¬ T.2.2 r c = 0) k3
      by_cases hb : S.testBit n = true
      · have e : nI (mkm (fun r => ∃ c, c < n ∧ S.testBit c = true ∧ ¬ T.2.2 r c = 0) T.1) ||| nI (dwn T n) = nI (mkm (fun r => ∃ c, c < n + 1 ∧ S.testBit c = true ∧ ¬ T.2.2 r c = 0) T.1) := by
          rw [nI_or _ l1 _ (dwn64 T k3 n)]
          congr 1
          refine eq_bits (or64 _ l1 _ (dwn64 T k3 n)) l2 (fun i hi => ?_)
          rw [Nat.testBit_or, Bool.or_eq_true, mkm_bit]
          unfold dwn
          rw [mkm_bit, mkm_bit]
          constructor
          · rintro (⟨a, r, b1, b2, b3⟩ | ⟨a, b⟩)
            · exact ⟨a, r, by omega, b2, b3⟩
            · exact ⟨a, n, by omega, hb, b⟩
          · rintro ⟨a, r, b1, b2, b3⟩
            rcases (by omega : r < n ∨ r = n) with z | rfl
            · exact Or.inl ⟨a, r, z, b2, b3⟩
            · exact Or.inr ⟨a, b3⟩
        rw [← e] at ih
        refine R_iload_n (i := 3) hC dX5_rowsMetBy_4 rfl rfl (R_aload_n (i := 0) hC dX5_rowsMetBy_5 rfl rfl (R_gI hC dX5_rowsMetBy_6 fl_X5_34 L_shape rfl ?_))
        refine R_top (y := nI T.2.1) (f2) ?_
        refine R_icmp_ge hC 35 dX5_rowsMetBy_9 (by decide) (fun h => absurd h (nI_ge hn (by omega))) (fun _ => ?_)
        refine R_iload_n (i := 1) hC dX5_rowsMetBy_12 rfl rfl (R_iload_n (i := 3) hC dX5_rowsMetBy_13 rfl rfl ?_)
        refine R_S2i hC hR dX5_rowsMetBy_14 MS_X10_isIn ml_X5_39 (c_isIn S n hS (by omega) _) (by first | decide | omega) ⟨by decide, by decide⟩ (Nat.le_of_ble_eq_true rfl) ?_
        refine R_top (y := 1) (if_pos hb) ?_
        refine R_if_eq hC 29 dX5_rowsMetBy_17 (by decide) (fun h => absurd h (by decide)) (fun _ => ?_)
        refine R_iload_n (i := 2) hC dX5_rowsMetBy_20 rfl rfl (R_aload_n (i := 0) hC dX5_rowsMetBy_21 rfl rfl (R_gR hC dX5_rowsMetBy_22 fl_X5_15 L_shape rfl (R_iload_n (i := 3) hC dX5_rowsMetBy_25 rfl rfl (R_aI hC dX5_rowsMetBy_26 L_down n rfl (by omega) (by decide) ?_))))
        refine R_top (y := nI (dwn T n)) (hd n hn) ?_
        refine R_ior hC dX5_rowsMetBy_27 (R_istore_n (i := 2) hC dX5_rowsMetBy_28 rfl (by decide) rfl (R_iinc hC dX5_rowsMetBy_29 rfl (inc1 _) (by decide) rfl (R_goto hC 4 dX5_rowsMetBy_32 (by decide) ?_)))
        exact ih
      · have e : mkm (fun r => ∃ c, c < n + 1 ∧ S.testBit c = true ∧ ¬ T.2.2 r c = 0) T.1 = mkm (fun r => ∃ c, c < n ∧ S.testBit c = true ∧ ¬ T.2.2 r c = 0) T.1 := mkm_ext _ (fun i hi => ⟨fun ⟨r, b1, b2, b3⟩ => ⟨r, by
          rcases (by omega : r < n ∨ r = n) with z | rfl
          · exact z
          · exact absurd b2 hb, b2, b3⟩, fun ⟨r, b1, b2, b3⟩ => ⟨r, by omega, b2, b3⟩⟩)
        rw [e] at ih
        refine R_iload_n (i := 3) hC dX5_rowsMetBy_4 rfl rfl (R_aload_n (i := 0) hC dX5_rowsMetBy_5 rfl rfl (R_gI hC dX5_rowsMetBy_6 fl_X5_34 L_shape rfl ?_))
        refine R_top (y := nI T.2.1) (f2) ?_
        refine R_icmp_ge hC 35 dX5_rowsMetBy_9 (by decide) (fun h => absurd h (nI_ge hn (by omega))) (fun _ => ?_)
        refine R_iload_n (i := 1) hC dX5_rowsMetBy_12 rfl rfl (R_iload_n (i := 3) hC dX5_rowsMetBy_13 rfl rfl ?_)
        refine R_S2i hC hR dX5_rowsMetBy_14 MS_X10_isIn ml_X5_39 (c_isIn S n hS (by omega) _) (by first | decide | omega) ⟨by decide, by decide⟩ (Nat.le_of_ble_eq_true rfl) ?_
        refine R_top (y := 0) (if_neg hb) ?_
        refine R_if_eq hC 29 dX5_rowsMetBy_17 (by decide) (fun _ => ?_) (fun h => absurd rfl h)
        refine R_iinc hC dX5_rowsMetBy_29 rfl (inc1 _) (by decide) rfl (R_goto hC 4 dX5_rowsMetBy_32 (by decide) ?_)
        exact ih
  have l0 := loop 0 (Nat.zero_le _)
  rw [show mkm (fun r => ∃ c, c < 0 ∧ S.testBit c = true ∧ ¬ T.2.2 r c = 0) T.1 = 0 from eq_bits (mkm64 _ k3) (by decide) (fun i hi => by rw [mkm_bit]; simp)] at l0
  refine R_iconst (v := 0) hC dX5_rowsMetBy_0 (by decide) (R_istore_n (i := 2) hC dX5_rowsMetBy_1 rfl (by decide) rfl (R_iconst (v := 0) hC dX5_rowsMetBy_2 (by decide) (R_istore_n (i := 3) hC dX5_rowsMetBy_3 rfl (by decide) rfl ?_)))
  exact l0
