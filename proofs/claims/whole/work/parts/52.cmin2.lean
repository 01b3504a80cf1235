/-! ===== the class's calls on determinants ===== -/
theorem dX10_det_0 : decode cX10_det 0 = .ok (.aload_n 0, 1) := by decide +kernel
theorem dX10_det_1 : decode cX10_det 1 = .ok (.getfield 19, 3) := by decide +kernel
theorem dX10_det_4 : decode cX10_det 4 = .ok (.iload_n 1, 1) := by decide +kernel
theorem dX10_det_5 : decode cX10_det 5 = .ok (.invokevirtual 179, 3) := by decide +kernel
theorem dX10_det_8 : decode cX10_det 8 = .ok (.ifCond .eq 14, 3) := by decide +kernel
theorem dX10_det_11 : decode cX10_det 11 = .ok (.aload_n 0, 1) := by decide +kernel
theorem dX10_det_12 : decode cX10_det 12 = .ok (.getfield 19, 3) := by decide +kernel
theorem dX10_det_15 : decode cX10_det 15 = .ok (.iload_n 2, 1) := by decide +kernel
theorem dX10_det_16 : decode cX10_det 16 = .ok (.invokevirtual 182, 3) := by decide +kernel
theorem dX10_det_19 : decode cX10_det 19 = .ok (.ifCond .ne 6, 3) := by decide +kernel
theorem dX10_det_22 : decode cX10_det 22 = .ok (.ldc 145, 2) := by decide +kernel
theorem dX10_det_24 : decode cX10_det 24 = .ok (.ireturn, 1) := by decide +kernel
theorem dX10_det_25 : decode cX10_det 25 = .ok (.iload_n 1, 1) := by decide +kernel
theorem dX10_det_26 : decode cX10_det 26 = .ok (.ifCond .eq 14, 3) := by decide +kernel
theorem dX10_det_29 : decode cX10_det 29 = .ok (.iload_n 1, 1) := by decide +kernel
theorem dX10_det_30 : decode cX10_det 30 = .ok (.invokestatic 185, 3) := by decide +kernel
theorem dX10_det_33 : decode cX10_det 33 = .ok (.iload_n 2, 1) := by decide +kernel
theorem dX10_det_34 : decode cX10_det 34 = .ok (.invokestatic 185, 3) := by decide +kernel
theorem dX10_det_37 : decode cX10_det 37 = .ok (.if_icmp .eq 6, 3) := by decide +kernel
theorem dX10_det_40 : decode cX10_det 40 = .ok (.ldc 145, 2) := by decide +kernel
theorem dX10_det_42 : decode cX10_det 42 = .ok (.ireturn, 1) := by decide +kernel
theorem dX10_det_43 : decode cX10_det 43 = .ok (.aload_n 0, 1) := by decide +kernel
theorem dX10_det_44 : decode cX10_det 44 = .ok (.invokevirtual 190, 3) := by decide +kernel
theorem dX10_det_47 : decode cX10_det 47 = .ok (.iload_n 1, 1) := by decide +kernel
theorem dX10_det_48 : decode cX10_det 48 = .ok (.iload_n 2, 1) := by decide +kernel
theorem dX10_det_49 : decode cX10_det 49 = .ok (.invokevirtual 194, 3) := by decide +kernel
theorem dX10_det_52 : decode cX10_det 52 = .ok (.ireturn, 1) := by decide +kernel
theorem dX10_squares_0 : decode cX10_squares 0 = .ok (.aload_n 0, 1) := by decide +kernel
theorem dX10_squares_1 : decode cX10_squares 1 = .ok (.getfield 19, 3) := by decide +kernel
theorem dX10_squares_4 : decode cX10_squares 4 = .ok (.invokevirtual 152, 3) := by decide +kernel
theorem dX10_squares_7 : decode cX10_squares 7 = .ok (.ifCond .ne 23, 3) := by decide +kernel
theorem dX10_squares_10 : decode cX10_squares 10 = .ok (.iload_n 1, 1) := by decide +kernel
theorem dX10_squares_11 : decode cX10_squares 11 = .ok (.iconst 1, 1) := by decide +kernel
theorem dX10_squares_12 : decode cX10_squares 12 = .ok (.if_icmp .lt 18, 3) := by decide +kernel
theorem dX10_squares_15 : decode cX10_squares 15 = .ok (.iload_n 1, 1) := by decide +kernel
theorem dX10_squares_16 : decode cX10_squares 16 = .ok (.bipush 6, 2) := by decide +kernel
theorem dX10_squares_18 : decode cX10_squares 18 = .ok (.if_icmp .gt 12, 3) := by decide +kernel
theorem dX10_squares_21 : decode cX10_squares 21 = .ok (.iload_n 2, 1) := by decide +kernel
theorem dX10_squares_22 : decode cX10_squares 22 = .ok (.ifCond .lt 8, 3) := by decide +kernel
theorem dX10_squares_25 : decode cX10_squares 25 = .ok (.iload_n 2, 1) := by decide +kernel
theorem dX10_squares_26 : decode cX10_squares 26 = .ok (.iconst 2, 1) := by decide +kernel
theorem dX10_squares_27 : decode cX10_squares 27 = .ok (.if_icmp .le 5, 3) := by decide +kernel
theorem dX10_squares_30 : decode cX10_squares 30 = .ok (.iconst (-1), 1) := by decide +kernel
theorem dX10_squares_31 : decode cX10_squares 31 = .ok (.ireturn, 1) := by decide +kernel
theorem dX10_squares_32 : decode cX10_squares 32 = .ok (.aload_n 0, 1) := by decide +kernel
theorem dX10_squares_33 : decode cX10_squares 33 = .ok (.invokevirtual 190, 3) := by decide +kernel
theorem dX10_squares_36 : decode cX10_squares 36 = .ok (.iload_n 1, 1) := by decide +kernel
theorem dX10_squares_37 : decode cX10_squares 37 = .ok (.iload_n 2, 1) := by decide +kernel
theorem dX10_squares_38 : decode cX10_squares 38 = .ok (.invokevirtual 197, 3) := by decide +kernel
theorem dX10_squares_41 : decode cX10_squares 41 = .ok (.ireturn, 1) := by decide +kernel
theorem dX10_total_0 : decode cX10_total 0 = .ok (.aload_n 0, 1) := by decide +kernel
theorem dX10_total_1 : decode cX10_total 1 = .ok (.getfield 19, 3) := by decide +kernel
theorem dX10_total_4 : decode cX10_total 4 = .ok (.invokevirtual 152, 3) := by decide +kernel
theorem dX10_total_7 : decode cX10_total 7 = .ok (.ifCond .eq 5, 3) := by decide +kernel
theorem dX10_total_10 : decode cX10_total 10 = .ok (.iconst (-1), 1) := by decide +kernel
theorem dX10_total_11 : decode cX10_total 11 = .ok (.ireturn, 1) := by decide +kernel
theorem dX10_total_12 : decode cX10_total 12 = .ok (.aload_n 0, 1) := by decide +kernel
theorem dX10_total_13 : decode cX10_total 13 = .ok (.invokevirtual 190, 3) := by decide +kernel
theorem dX10_total_16 : decode cX10_total 16 = .ok (.invokevirtual 200, 3) := by decide +kernel
theorem dX10_total_19 : decode cX10_total 19 = .ok (.ifCond .eq 7, 3) := by decide +kernel
theorem dX10_total_22 : decode cX10_total 22 = .ok (.iconst 1, 1) := by decide +kernel
theorem dX10_total_23 : decode cX10_total 23 = .ok (.goto 4, 3) := by decide +kernel
theorem dX10_total_26 : decode cX10_total 26 = .ok (.iconst 0, 1) := by decide +kernel
theorem dX10_total_27 : decode cX10_total 27 = .ok (.ireturn, 1) := by decide +kernel
theorem dX10_witness_0 : decode cX10_witness 0 = .ok (.aload_n 0, 1) := by decide +kernel
theorem dX10_witness_1 : decode cX10_witness 1 = .ok (.getfield 19, 3) := by decide +kernel
theorem dX10_witness_4 : decode cX10_witness 4 = .ok (.invokevirtual 152, 3) := by decide +kernel
theorem dX10_witness_7 : decode cX10_witness 7 = .ok (.ifCond .ne 13, 3) := by decide +kernel
theorem dX10_witness_10 : decode cX10_witness 10 = .ok (.aload_n 0, 1) := by decide +kernel
theorem dX10_witness_11 : decode cX10_witness 11 = .ok (.invokevirtual 190, 3) := by decide +kernel
theorem dX10_witness_14 : decode cX10_witness 14 = .ok (.invokevirtual 200, 3) := by decide +kernel
theorem dX10_witness_17 : decode cX10_witness 17 = .ok (.ifCond .eq 6, 3) := by decide +kernel
theorem dX10_witness_20 : decode cX10_witness 20 = .ok (.ldc 145, 2) := by decide +kernel
theorem dX10_witness_22 : decode cX10_witness 22 = .ok (.ireturn, 1) := by decide +kernel
theorem dX10_witness_23 : decode cX10_witness 23 = .ok (.iload_n 1, 1) := by decide +kernel
theorem dX10_witness_24 : decode cX10_witness 24 = .ok (.tableswitch 81 0 3 #[32, 43, 51, 59], 32) := by decide +kernel
theorem dX10_witness_56 : decode cX10_witness 56 = .ok (.aload_n 0, 1) := by decide +kernel
theorem dX10_witness_57 : decode cX10_witness 57 = .ok (.getfield 56, 3) := by decide +kernel
theorem dX10_witness_60 : decode cX10_witness 60 = .ok (.getfield 203, 3) := by decide +kernel
theorem dX10_witness_63 : decode cX10_witness 63 = .ok (.invokestatic 185, 3) := by decide +kernel
theorem dX10_witness_66 : decode cX10_witness 66 = .ok (.ireturn, 1) := by decide +kernel
theorem dX10_witness_67 : decode cX10_witness 67 = .ok (.aload_n 0, 1) := by decide +kernel
theorem dX10_witness_68 : decode cX10_witness 68 = .ok (.getfield 56, 3) := by decide +kernel
theorem dX10_witness_71 : decode cX10_witness 71 = .ok (.getfield 203, 3) := by decide +kernel
theorem dX10_witness_74 : decode cX10_witness 74 = .ok (.ireturn, 1) := by decide +kernel
theorem dX10_witness_75 : decode cX10_witness 75 = .ok (.aload_n 0, 1) := by decide +kernel
theorem dX10_witness_76 : decode cX10_witness 76 = .ok (.getfield 56, 3) := by decide +kernel
theorem dX10_witness_79 : decode cX10_witness 79 = .ok (.getfield 206, 3) := by decide +kernel
theorem dX10_witness_82 : decode cX10_witness 82 = .ok (.ireturn, 1) := by decide +kernel
theorem dX10_witness_83 : decode cX10_witness 83 = .ok (.aload_n 0, 1) := by decide +kernel
theorem dX10_witness_84 : decode cX10_witness 84 = .ok (.getfield 56, 3) := by decide +kernel
theorem dX10_witness_87 : decode cX10_witness 87 = .ok (.aload_n 0, 1) := by decide +kernel
theorem dX10_witness_88 : decode cX10_witness 88 = .ok (.getfield 56, 3) := by decide +kernel
theorem dX10_witness_91 : decode cX10_witness 91 = .ok (.getfield 203, 3) := by decide +kernel
theorem dX10_witness_94 : decode cX10_witness 94 = .ok (.aload_n 0, 1) := by decide +kernel
theorem dX10_witness_95 : decode cX10_witness 95 = .ok (.getfield 56, 3) := by decide +kernel
theorem dX10_witness_98 : decode cX10_witness 98 = .ok (.getfield 206, 3) := by decide +kernel
theorem dX10_witness_101 : decode cX10_witness 101 = .ok (.invokevirtual 194, 3) := by decide +kernel
theorem dX10_witness_104 : decode cX10_witness 104 = .ok (.ireturn, 1) := by decide +kernel
theorem dX10_witness_105 : decode cX10_witness 105 = .ok (.ldc 145, 2) := by decide +kernel
theorem dX10_witness_107 : decode cX10_witness 107 = .ok (.ireturn, 1) := by decide +kernel
theorem dX10_rank_0 : decode cX10_rank 0 = .ok (.aload_n 0, 1) := by decide +kernel
theorem dX10_rank_1 : decode cX10_rank 1 = .ok (.getfield 19, 3) := by decide +kernel
theorem dX10_rank_4 : decode cX10_rank 4 = .ok (.invokevirtual 152, 3) := by decide +kernel
theorem dX10_rank_7 : decode cX10_rank 7 = .ok (.ifCond .ne 17, 3) := by decide +kernel
theorem dX10_rank_10 : decode cX10_rank 10 = .ok (.iload_n 1, 1) := by decide +kernel
theorem dX10_rank_11 : decode cX10_rank 11 = .ok (.ifCond .eq 15, 3) := by decide +kernel
theorem dX10_rank_14 : decode cX10_rank 14 = .ok (.iload_n 1, 1) := by decide +kernel
theorem dX10_rank_15 : decode cX10_rank 15 = .ok (.iconst 2, 1) := by decide +kernel
theorem dX10_rank_16 : decode cX10_rank 16 = .ok (.if_icmp .eq 10, 3) := by decide +kernel
theorem dX10_rank_19 : decode cX10_rank 19 = .ok (.iload_n 1, 1) := by decide +kernel
theorem dX10_rank_20 : decode cX10_rank 20 = .ok (.iconst 3, 1) := by decide +kernel
theorem dX10_rank_21 : decode cX10_rank 21 = .ok (.if_icmp .eq 5, 3) := by decide +kernel
theorem dX10_rank_24 : decode cX10_rank 24 = .ok (.iconst (-1), 1) := by decide +kernel
theorem dX10_rank_25 : decode cX10_rank 25 = .ok (.ireturn, 1) := by decide +kernel
theorem dX10_rank_26 : decode cX10_rank 26 = .ok (.aload_n 0, 1) := by decide +kernel
theorem dX10_rank_27 : decode cX10_rank 27 = .ok (.invokevirtual 190, 3) := by decide +kernel
theorem dX10_rank_30 : decode cX10_rank 30 = .ok (.iload_n 1, 1) := by decide +kernel
theorem dX10_rank_31 : decode cX10_rank 31 = .ok (.invokevirtual 260, 3) := by decide +kernel
theorem dX10_rank_34 : decode cX10_rank 34 = .ok (.ireturn, 1) := by decide +kernel
theorem dX10_bases_0 : decode cX10_bases 0 = .ok (.aload_n 0, 1) := by decide +kernel
theorem dX10_bases_1 : decode cX10_bases 1 = .ok (.getfield 19, 3) := by decide +kernel
theorem dX10_bases_4 : decode cX10_bases 4 = .ok (.invokevirtual 152, 3) := by decide +kernel
theorem dX10_bases_7 : decode cX10_bases 7 = .ok (.ifCond .eq 5, 3) := by decide +kernel
theorem dX10_bases_10 : decode cX10_bases 10 = .ok (.iconst (-1), 1) := by decide +kernel
theorem dX10_bases_11 : decode cX10_bases 11 = .ok (.ireturn, 1) := by decide +kernel
theorem dX10_bases_12 : decode cX10_bases 12 = .ok (.aload_n 0, 1) := by decide +kernel
theorem dX10_bases_13 : decode cX10_bases 13 = .ok (.invokevirtual 190, 3) := by decide +kernel
theorem dX10_bases_16 : decode cX10_bases 16 = .ok (.invokevirtual 263, 3) := by decide +kernel
theorem dX10_bases_19 : decode cX10_bases 19 = .ok (.iconst 1, 1) := by decide +kernel
theorem dX10_bases_20 : decode cX10_bases 20 = .ok (.iadd, 1) := by decide +kernel
theorem dX10_bases_21 : decode cX10_bases 21 = .ok (.ireturn, 1) := by decide +kernel
theorem dX10_adjoint_0 : decode cX10_adjoint 0 = .ok (.aload_n 0, 1) := by decide +kernel
theorem dX10_adjoint_1 : decode cX10_adjoint 1 = .ok (.getfield 19, 3) := by decide +kernel
theorem dX10_adjoint_4 : decode cX10_adjoint 4 = .ok (.iload_n 1, 1) := by decide +kernel
theorem dX10_adjoint_5 : decode cX10_adjoint 5 = .ok (.iload_n 2, 1) := by decide +kernel
theorem dX10_adjoint_6 : decode cX10_adjoint 6 = .ok (.invokevirtual 126, 3) := by decide +kernel
theorem dX10_adjoint_9 : decode cX10_adjoint 9 = .ok (.ifCond .eq 20, 3) := by decide +kernel
theorem dX10_adjoint_12 : decode cX10_adjoint 12 = .ok (.aload_n 0, 1) := by decide +kernel
theorem dX10_adjoint_13 : decode cX10_adjoint 13 = .ok (.getfield 19, 3) := by decide +kernel
theorem dX10_adjoint_16 : decode cX10_adjoint 16 = .ok (.getfield 170, 3) := by decide +kernel
theorem dX10_adjoint_19 : decode cX10_adjoint 19 = .ok (.aload_n 0, 1) := by decide +kernel
theorem dX10_adjoint_20 : decode cX10_adjoint 20 = .ok (.getfield 19, 3) := by decide +kernel
theorem dX10_adjoint_23 : decode cX10_adjoint 23 = .ok (.getfield 269, 3) := by decide +kernel
theorem dX10_adjoint_26 : decode cX10_adjoint 26 = .ok (.if_icmp .eq 6, 3) := by decide +kernel
theorem dX10_adjoint_29 : decode cX10_adjoint 29 = .ok (.ldc 145, 2) := by decide +kernel
theorem dX10_adjoint_31 : decode cX10_adjoint 31 = .ok (.ireturn, 1) := by decide +kernel
theorem dX10_adjoint_32 : decode cX10_adjoint 32 = .ok (.iconst 1, 1) := by decide +kernel
theorem dX10_adjoint_33 : decode cX10_adjoint 33 = .ok (.aload_n 0, 1) := by decide +kernel
theorem dX10_adjoint_34 : decode cX10_adjoint 34 = .ok (.getfield 19, 3) := by decide +kernel
theorem dX10_adjoint_37 : decode cX10_adjoint 37 = .ok (.getfield 170, 3) := by decide +kernel
theorem dX10_adjoint_40 : decode cX10_adjoint 40 = .ok (.ishl, 1) := by decide +kernel
theorem dX10_adjoint_41 : decode cX10_adjoint 41 = .ok (.iconst 1, 1) := by decide +kernel
theorem dX10_adjoint_42 : decode cX10_adjoint 42 = .ok (.isub, 1) := by decide +kernel
theorem dX10_adjoint_43 : decode cX10_adjoint 43 = .ok (.istore_n 3, 1) := by decide +kernel
theorem dX10_adjoint_44 : decode cX10_adjoint 44 = .ok (.aload_n 0, 1) := by decide +kernel
theorem dX10_adjoint_45 : decode cX10_adjoint 45 = .ok (.invokevirtual 190, 3) := by decide +kernel
theorem dX10_adjoint_48 : decode cX10_adjoint 48 = .ok (.iload_n 3, 1) := by decide +kernel
theorem dX10_adjoint_49 : decode cX10_adjoint 49 = .ok (.iconst 1, 1) := by decide +kernel
theorem dX10_adjoint_50 : decode cX10_adjoint 50 = .ok (.iload_n 2, 1) := by decide +kernel
theorem dX10_adjoint_51 : decode cX10_adjoint 51 = .ok (.ishl, 1) := by decide +kernel
theorem dX10_adjoint_52 : decode cX10_adjoint 52 = .ok (.ixor, 1) := by decide +kernel
theorem dX10_adjoint_53 : decode cX10_adjoint 53 = .ok (.iload_n 3, 1) := by decide +kernel
theorem dX10_adjoint_54 : decode cX10_adjoint 54 = .ok (.iconst 1, 1) := by decide +kernel
theorem dX10_adjoint_55 : decode cX10_adjoint 55 = .ok (.iload_n 1, 1) := by decide +kernel
theorem dX10_adjoint_56 : decode cX10_adjoint 56 = .ok (.ishl, 1) := by decide +kernel
theorem dX10_adjoint_57 : decode cX10_adjoint 57 = .ok (.ixor, 1) := by decide +kernel
theorem dX10_adjoint_58 : decode cX10_adjoint 58 = .ok (.invokevirtual 194, 3) := by decide +kernel
theorem dX10_adjoint_61 : decode cX10_adjoint 61 = .ok (.istore 4, 2) := by decide +kernel
theorem dX10_adjoint_63 : decode cX10_adjoint 63 = .ok (.iload_n 1, 1) := by decide +kernel
theorem dX10_adjoint_64 : decode cX10_adjoint 64 = .ok (.iload_n 2, 1) := by decide +kernel
theorem dX10_adjoint_65 : decode cX10_adjoint 65 = .ok (.iadd, 1) := by decide +kernel
theorem dX10_adjoint_66 : decode cX10_adjoint 66 = .ok (.iconst 1, 1) := by decide +kernel
theorem dX10_adjoint_67 : decode cX10_adjoint 67 = .ok (.iand, 1) := by decide +kernel
theorem dX10_adjoint_68 : decode cX10_adjoint 68 = .ok (.ifCond .ne 8, 3) := by decide +kernel
theorem dX10_adjoint_71 : decode cX10_adjoint 71 = .ok (.iload 4, 2) := by decide +kernel
theorem dX10_adjoint_73 : decode cX10_adjoint 73 = .ok (.goto 6, 3) := by decide +kernel
theorem dX10_adjoint_76 : decode cX10_adjoint 76 = .ok (.iload 4, 2) := by decide +kernel
theorem dX10_adjoint_78 : decode cX10_adjoint 78 = .ok (.ineg, 1) := by decide +kernel
theorem dX10_adjoint_79 : decode cX10_adjoint 79 = .ok (.ireturn, 1) := by decide +kernel
theorem dX10_run_0 : decode cX10_run 0 = .ok (.aload_n 0, 1) := by decide +kernel
theorem dX10_run_1 : decode cX10_run 1 = .ok (.getfield 19, 3) := by decide +kernel
theorem dX10_run_4 : decode cX10_run 4 = .ok (.invokevirtual 152, 3) := by decide +kernel
theorem dX10_run_7 : decode cX10_run 7 = .ok (.ifCond .ne 20, 3) := by decide +kernel
theorem dX10_run_10 : decode cX10_run 10 = .ok (.aload_n 0, 1) := by decide +kernel
theorem dX10_run_11 : decode cX10_run 11 = .ok (.iload_n 1, 1) := by decide +kernel
theorem dX10_run_12 : decode cX10_run 12 = .ok (.invokevirtual 285, 3) := by decide +kernel
theorem dX10_run_15 : decode cX10_run 15 = .ok (.ifCond .eq 12, 3) := by decide +kernel
theorem dX10_run_18 : decode cX10_run 18 = .ok (.iload_n 2, 1) := by decide +kernel
theorem dX10_run_19 : decode cX10_run 19 = .ok (.ifCond .lt 8, 3) := by decide +kernel
theorem dX10_run_22 : decode cX10_run 22 = .ok (.iload_n 2, 1) := by decide +kernel
theorem dX10_run_23 : decode cX10_run 23 = .ok (.iconst 1, 1) := by decide +kernel
theorem dX10_run_24 : decode cX10_run 24 = .ok (.if_icmp .le 6, 3) := by decide +kernel
theorem dX10_run_27 : decode cX10_run 27 = .ok (.ldc 145, 2) := by decide +kernel
theorem dX10_run_29 : decode cX10_run 29 = .ok (.ireturn, 1) := by decide +kernel
theorem dX10_run_30 : decode cX10_run 30 = .ok (.aload_n 0, 1) := by decide +kernel
theorem dX10_run_31 : decode cX10_run 31 = .ok (.getfield 42, 3) := by decide +kernel
theorem dX10_run_34 : decode cX10_run 34 = .ok (.iload_n 1, 1) := by decide +kernel
theorem dX10_run_35 : decode cX10_run 35 = .ok (.aaload, 1) := by decide +kernel
theorem dX10_run_36 : decode cX10_run 36 = .ok (.astore_n 3, 1) := by decide +kernel
theorem dX10_run_37 : decode cX10_run 37 = .ok (.aload_n 0, 1) := by decide +kernel
theorem dX10_run_38 : decode cX10_run 38 = .ok (.getfield 26, 3) := by decide +kernel
theorem dX10_run_41 : decode cX10_run 41 = .ok (.aload_n 0, 1) := by decide +kernel
theorem dX10_run_42 : decode cX10_run 42 = .ok (.getfield 19, 3) := by decide +kernel
theorem dX10_run_45 : decode cX10_run 45 = .ok (.invokevirtual 159, 3) := by decide +kernel
theorem dX10_run_48 : decode cX10_run 48 = .ok (.iconst 0, 1) := by decide +kernel
theorem dX10_run_49 : decode cX10_run 49 = .ok (.istore 4, 2) := by decide +kernel
theorem dX10_run_51 : decode cX10_run 51 = .ok (.iload 4, 2) := by decide +kernel
theorem dX10_run_53 : decode cX10_run 53 = .ok (.aload_n 3, 1) := by decide +kernel
theorem dX10_run_54 : decode cX10_run 54 = .ok (.getfield 291, 3) := by decide +kernel
theorem dX10_run_57 : decode cX10_run 57 = .ok (.if_icmp .ge 48, 3) := by decide +kernel
theorem dX10_run_60 : decode cX10_run 60 = .ok (.aload_n 0, 1) := by decide +kernel
theorem dX10_run_61 : decode cX10_run 61 = .ok (.getfield 26, 3) := by decide +kernel
theorem dX10_run_64 : decode cX10_run 64 = .ok (.aload_n 3, 1) := by decide +kernel
theorem dX10_run_65 : decode cX10_run 65 = .ok (.getfield 292, 3) := by decide +kernel
theorem dX10_run_68 : decode cX10_run 68 = .ok (.iload 4, 2) := by decide +kernel
theorem dX10_run_70 : decode cX10_run 70 = .ok (.iaload, 1) := by decide +kernel
theorem dX10_run_71 : decode cX10_run 71 = .ok (.aload_n 3, 1) := by decide +kernel
theorem dX10_run_72 : decode cX10_run 72 = .ok (.getfield 295, 3) := by decide +kernel
theorem dX10_run_75 : decode cX10_run 75 = .ok (.iload 4, 2) := by decide +kernel
theorem dX10_run_77 : decode cX10_run 77 = .ok (.iaload, 1) := by decide +kernel
theorem dX10_run_78 : decode cX10_run 78 = .ok (.aload_n 3, 1) := by decide +kernel
theorem dX10_run_79 : decode cX10_run 79 = .ok (.getfield 298, 3) := by decide +kernel
theorem dX10_run_82 : decode cX10_run 82 = .ok (.iload 4, 2) := by decide +kernel
theorem dX10_run_84 : decode cX10_run 84 = .ok (.iaload, 1) := by decide +kernel
theorem dX10_run_85 : decode cX10_run 85 = .ok (.aload_n 3, 1) := by decide +kernel
theorem dX10_run_86 : decode cX10_run 86 = .ok (.getfield 301, 3) := by decide +kernel
theorem dX10_run_89 : decode cX10_run 89 = .ok (.iload 4, 2) := by decide +kernel
theorem dX10_run_91 : decode cX10_run 91 = .ok (.iaload, 1) := by decide +kernel
theorem dX10_run_92 : decode cX10_run 92 = .ok (.invokevirtual 304, 3) := by decide +kernel
theorem dX10_run_95 : decode cX10_run 95 = .ok (.iconst (-1), 1) := by decide +kernel
theorem dX10_run_96 : decode cX10_run 96 = .ok (.if_icmp .ne 9, 3) := by decide +kernel
theorem dX10_run_99 : decode cX10_run 99 = .ok (.iinc 4 1, 3) := by decide +kernel
theorem dX10_run_102 : decode cX10_run 102 = .ok (.goto (-51), 3) := by decide +kernel
theorem dX10_run_105 : decode cX10_run 105 = .ok (.iload_n 2, 1) := by decide +kernel
theorem dX10_run_106 : decode cX10_run 106 = .ok (.iconst 1, 1) := by decide +kernel
theorem dX10_run_107 : decode cX10_run 107 = .ok (.if_icmp .ne 20, 3) := by decide +kernel
theorem dX10_run_110 : decode cX10_run 110 = .ok (.aload_n 0, 1) := by decide +kernel
theorem dX10_run_111 : decode cX10_run 111 = .ok (.aload_n 0, 1) := by decide +kernel
theorem dX10_run_112 : decode cX10_run 112 = .ok (.getfield 26, 3) := by decide +kernel
theorem dX10_run_115 : decode cX10_run 115 = .ok (.invokevirtual 233, 3) := by decide +kernel
theorem dX10_run_118 : decode cX10_run 118 = .ok (.ifCond .eq 7, 3) := by decide +kernel
theorem dX10_run_121 : decode cX10_run 121 = .ok (.iconst 1, 1) := by decide +kernel
theorem dX10_run_122 : decode cX10_run 122 = .ok (.goto 4, 3) := by decide +kernel
theorem dX10_run_125 : decode cX10_run 125 = .ok (.iconst 0, 1) := by decide +kernel
theorem dX10_run_126 : decode cX10_run 126 = .ok (.ireturn, 1) := by decide +kernel
theorem dX10_run_127 : decode cX10_run 127 = .ok (.iload 4, 2) := by decide +kernel
theorem dX10_run_129 : decode cX10_run 129 = .ok (.aload_n 3, 1) := by decide +kernel
theorem dX10_run_130 : decode cX10_run 130 = .ok (.getfield 291, 3) := by decide +kernel
theorem dX10_run_133 : decode cX10_run 133 = .ok (.if_icmp .ne 7, 3) := by decide +kernel
theorem dX10_run_136 : decode cX10_run 136 = .ok (.iconst (-1), 1) := by decide +kernel
theorem dX10_run_137 : decode cX10_run 137 = .ok (.goto 5, 3) := by decide +kernel
theorem dX10_run_140 : decode cX10_run 140 = .ok (.iload 4, 2) := by decide +kernel
theorem dX10_run_142 : decode cX10_run 142 = .ok (.ireturn, 1) := by decide +kernel
def ofZ (T : tb) (R C : Nat) : Int32 := if pc6 R = pc6 C then dD T.2.2 R C else 0
theorem CKm.of {σ : sg} {T : tb} (h : CKm σ T) (k : KD σ) (h6 : T.1 ≤ 6) (h7 : T.2.1 ≤ 6) {R C : Nat} (hR : R < 2 ^ T.1) (hC : C < 2 ^ T.2.1) : σ.2.2 i_cdets (64 * R + C) = ofZ T R C := by
  have p1 := pw6 h6
  have p2 := pw6 h7
  unfold ofZ
  split
  · rename_i q; exact h.2.2.1 R C hR hC q
  · rename_i q; exact k R C (by omega) (by omega) q
theorem c_ofZ {σ : sg} {x : aW} {T : tb} (h : CKm σ T) (k : KD σ) (h6 : T.1 ≤ 6) (h7 : T.2.1 ≤ 6) {R C : Nat} (hR : R < 2 ^ T.1) (hC : C < 2 ^ T.2.1) : Mt mX1_of 0 0 0 [.ref i_minors, .int (nI R), .int (nI C)] (wd σ x) (QI (ofZ T R C) (wd σ x)) := by
  have p1 := pw6 h6
  have p2 := pw6 h7
  have q := c_of σ x R C (by omega) (by omega)
  rwa [h.of k h6 h7 hR hC] at q
theorem c_known {σ : sg} {x : aW} {α : aS} (h : CInv σ α) (ok : aOK α) : Mt mX10_knownMinors 3 0 0 [.ref i_U] (wd σ x) (fun r w => r = some (.ref i_minors) ∧ ∃ τ, w = wd τ x ∧ CInv τ α ∧ CKm τ (tT α) ∧ KD τ ∧ MEq σ τ ∧ AE [112, 113] σ τ) := by
  refine Mt.of MI_X10_knownMinors (Nat.le_of_ble_eq_true rfl) (fun X hC hR hT => ?_)
  rcases h.2.2.2.2.2.2.2.2.1 with q | ⟨q, q2⟩
  · refine R_aload_n (i := 0) hC dX10_knownMinors_0 rfl rfl (R_gR hC dX10_knownMinors_1 fl_X10_56 L_U rfl (R_gI hC dX10_knownMinors_4 fl_X10_339 L_minors rfl ?_))
    refine R_top (y := 0) (q) ?_
    refine R_if_ne hC 29 dX10_knownMinors_7 (by decide) (fun h => absurd rfl h) (fun _ => ?_)
    refine R_aload_n (i := 0) hC dX10_knownMinors_10 rfl rfl (R_gR hC dX10_knownMinors_11 fl_X10_56 L_U rfl (R_aload_n (i := 0) hC dX10_knownMinors_14 rfl rfl (R_gR hC dX10_knownMinors_15 fl_X10_19 L_U rfl ?_)))
    refine R_V1g hC hR dX10_knownMinors_18 MV_X1_reckon ml_X10_344 L_minors rfl (c_reckon TL_table (by decide) h.2.1 h.2.2.2.2.2.2.2.1) (by first | decide | omega) ⟨by decide, by decide⟩ (Nat.le_of_ble_eq_true rfl) (fun r w1 hq => ?_)
    obtain ⟨rfl, τ, rfl, c, hk, kd, h5⟩ := hq
    refine R_aload_n (i := 0) hC dX10_knownMinors_21 rfl rfl (R_gR hC dX10_knownMinors_22 fl_X10_56 L_U rfl (R_iconst (v := 1) hC dX10_knownMinors_25 (by decide) (R_pZ hC dX10_knownMinors_26 fl_X10_339 L_minors rfl (by first | exact Or.inl rfl | exact Or.inr rfl) (R_aload_n (i := 0) hC dX10_knownMinors_29 rfl rfl (R_gR hC dX10_knownMinors_30 fl_X10_56 L_U rfl ?_)))))
    exact R_aret hC hT dX10_knownMinors_33 rfl (by
    have ca : AE [112, 113] σ (sG τ i_minors 5 1) := c.g (by decide)
    have e : ∀ b, b ≠ 5 → (sG τ i_minors 5 1).1 i_minors b = τ.1 i_minors b := fun b hb => sG_nk hb
    have k2 : CKm (sG τ i_minors 5 1) (tT α) := by
      unfold CKm at *
      rw [e 1 (by decide), e 2 (by decide), e 3 (by decide), e 4 (by decide)]
      exact hk
    refine ⟨rfl, _, rfl, ?_, k2, kd, ca.meq (by decide), ca⟩
    obtain ⟨q1, q2, q3, q4, q5, q6, q7, q8, ⟨q9, q10, q11, q12⟩⟩ := h
    have s4 := ok.2.2.2.2.1.1
    refine ⟨q1.ae ca (by decide), q2.ae ca (by decide) (by decide), q3.ae ok.2.2.2.1.1 ca (by decide), q4.ae ca (by intro i z; simp at z; omega), q5.ae ca (by decide), q6.ae ca (by decide), q7.ae ca (by decide), kd, Or.inr ⟨sG_eq _ _ _ _, k2⟩, ?_, ?_, ?_⟩
    · rw [(ca 114 (by decide)).1]; exact q10.imp id (fun z => ⟨z.1, z.2.ae ca (by decide)⟩)
    · rw [(ca 119 (by decide)).1]; exact q11.imp id (fun z => ⟨z.1, z.2.ae ca (by decide)⟩)
    · rw [(ca 124 (by decide)).1]; exact q12.imp id (fun z => ⟨z.1, z.2.ae ca (by decide) (by decide)⟩))
  · refine R_aload_n (i := 0) hC dX10_knownMinors_0 rfl rfl (R_gR hC dX10_knownMinors_1 fl_X10_56 L_U rfl (R_gI hC dX10_knownMinors_4 fl_X10_339 L_minors rfl ?_))
    refine R_top (y := 1) (q) ?_
    refine R_if_ne hC 29 dX10_knownMinors_7 (by decide) (fun _ => ?_) (fun h => absurd h (by decide))
    refine R_aload_n (i := 0) hC dX10_knownMinors_29 rfl rfl (R_gR hC dX10_knownMinors_30 fl_X10_56 L_U rfl ?_)
    exact R_aret hC hT dX10_knownMinors_33 rfl ⟨rfl, σ, rfl, h, q2, h.2.2.2.2.2.2.2.1, MEq.rf _, AE.rf _ _⟩
theorem c_allWithin {σ : sg} {x : aW} {T : tb} (h6 : T.1 ≤ 6) (h : CKm σ T) : Mt mX1_allWithin 0 0 0 [.ref i_minors] (wd σ x) (QI (b2i (tot T)) (wd σ x)) := by
  refine Mt.of MI_X1_allWithin (Nat.le_of_ble_eq_true rfl) (fun X hC hR hT => ?_)
  have p1 := pw6 h6
  rcases h.2.2.2 with ⟨q1, q2⟩ | ⟨p, q1, q2, q3⟩
  · refine R_aload_n (i := 0) hC dX1_allWithin_0 rfl rfl (R_gI hC dX1_allWithin_1 fl_X1_30 L_minors rfl ?_)
    refine R_top (y := 0) (q2) ?_
    refine R_if_ne hC 11 dX1_allWithin_4 (by decide) (fun h => absurd rfl h) (fun _ => ?_)
    refine R_iconst (v := 1) hC dX1_allWithin_7 (by decide) (R_goto hC 12 dX1_allWithin_8 (by decide) ?_)
    exact R_zret hC hT dX1_allWithin_12 rfl (by decide) ⟨by rw [b2i_t q1], rfl⟩
  · refine R_aload_n (i := 0) hC dX1_allWithin_0 rfl rfl (R_gI hC dX1_allWithin_1 fl_X1_30 L_minors rfl ?_)
    refine R_top (y := nI p.1) (q2) ?_
    refine R_if_ne hC 11 dX1_allWithin_4 (by decide) (fun _ => ?_) (fun h => absurd h (nI_ne0 (by have := q1.1.1.1; omega) (by have := q1.1.1.2.1; omega)))
    refine R_iconst (v := 0) hC dX1_allWithin_11 (by decide) ?_
    exact R_zret hC hT dX1_allWithin_12 rfl (by decide) ⟨by rw [b2i_f (fun z => q1.1.2 (z _ _ q1.1.1))], rfl⟩
theorem co_total {σ : sg} {x : aW} {α : aS} (h : CInv σ α) (ok : aOK α) : Mt mX10_total 4 0 0 [.ref i_U] (wd σ x) (CPost σ x (opTotal α) α) := by
  refine Mt.of MI_X10_total (Nat.le_of_ble_eq_true rfl) (fun X hC hR hT => ?_)
  by_cases h0 : (tT α).1 = 0
  · have e : opTotal α = -1 := by unfold opTotal; rw [if_pos h0]
    refine R_aload_n (i := 0) hC dX10_total_0 rfl rfl (R_gR hC dX10_total_1 fl_X10_19 L_U rfl ?_)
    refine R_V0i hC hR dX10_total_4 MV_X7_isNone ml_X10_152 L_table rfl (c_isNone TL_table h.2.1) (by first | decide | omega) ⟨by decide, by decide⟩ (Nat.le_of_ble_eq_true rfl) ?_
    refine R_top (y := 1) (b2i_t h0) ?_
    refine R_if_eq hC 12 dX10_total_7 (by decide) (fun h => absurd h (by decide)) (fun _ => ?_)
    refine R_iconst (v := (-1)) hC dX10_total_10 (by decide) ?_
    exact R_iret hC hT dX10_total_11 rfl (by rw [e]; exact CPost.i h (MEq.rf _))
  · have e : opTotal α = b2i (tot (tT α)) := by unfold opTotal; rw [if_neg h0]
    refine R_aload_n (i := 0) hC dX10_total_0 rfl rfl (R_gR hC dX10_total_1 fl_X10_19 L_U rfl ?_)
    refine R_V0i hC hR dX10_total_4 MV_X7_isNone ml_X10_152 L_table rfl (c_isNone TL_table h.2.1) (by first | decide | omega) ⟨by decide, by decide⟩ (Nat.le_of_ble_eq_true rfl) ?_
    refine R_top (y := 0) (b2i_f h0) ?_
    refine R_if_eq hC 12 dX10_total_7 (by decide) (fun _ => ?_) (fun h => absurd rfl h)
    refine R_aload_n (i := 0) hC dX10_total_12 rfl rfl ?_
    refine R_V0g hC hR dX10_total_13 MV_X10_knownMinors ml_X10_190 L_U rfl (c_known h ok) (by first | decide | omega) ⟨by decide, by decide⟩ (Nat.le_of_ble_eq_true rfl) (fun r w1 hq => ?_)
    obtain ⟨rfl, τ, rfl, hτ, hk, kd, c, -⟩ := hq
    refine R_V0i hC hR dX10_total_16 MV_X1_allWithin ml_X10_200 L_minors rfl (c_allWithin ok.2.2.1.1 hk) (by first | decide | omega) ⟨by decide, by decide⟩ (Nat.le_of_ble_eq_true rfl) ?_
    refine R_if_eq hC 26 dX10_total_19 (by decide) (fun h19 => ?_) (fun h19 => ?_)
    · refine R_iconst (v := 0) hC dX10_total_26 (by decide) ?_
      exact R_iret hC hT dX10_total_27 rfl (by rw [e]; first | (rw [b2i_t (b2i_ne h19)]; exact CPost.i hτ c) | (rw [b2i_f (b2i_0 h19)]; exact CPost.i hτ c))
    · refine R_iconst (v := 1) hC dX10_total_22 (by decide) (R_goto hC 27 dX10_total_23 (by decide) ?_)
      exact R_iret hC hT dX10_total_27 rfl (by rw [e]; first | (rw [b2i_t (b2i_ne h19)]; exact CPost.i hτ c) | (rw [b2i_f (b2i_0 h19)]; exact CPost.i hτ c))
theorem co_det {σ : sg} {x : aW} {α : aS} (h : CInv σ α) (ok : aOK α) (r c : Int32) : Mt mX10_det 4 0 0 [.ref i_U, .int r, .int c] (wd σ x) (CPost σ x (opDet α r c) α) := by
  refine Mt.of MI_X10_det (Nat.le_of_ble_eq_true rfl) (fun X hC hR hT => ?_)
  have r6 := ok.2.2.1.1
  have c6 := ok.2.2.1.2.1
  have p1 := pw6 r6
  have p2 := pw6 c6
  have no : ¬ (¬ (tT α).1 = 0 ∧ sqI (tT α) r c) → opDet α r c = -1000000 := fun q => by unfold opDet; rw [if_neg q]
  by_cases h0 : (¬ (tT α).1 = 0 ∧ 0 ≤ r.toInt ∧ r.toInt < (2 : Int) ^ (tT α).1) ∧ ¬ (tT α).2.1 = 0 ∧ 0 ≤ c.toInt ∧ c.toInt < (2 : Int) ^ (tT α).2.1
  · obtain ⟨R, rfl, hRi, hR2⟩ := i32_nI h0.1.2.1
    obtain ⟨C, rfl, hC0, hC2⟩ := i32_nI h0.2.2.1
    have hRl : R < 2 ^ (tT α).1 := by have := h0.1.2.2; rw [← pwI] at this; omega
    have hCl : C < 2 ^ (tT α).2.1 := by have := h0.2.2.2; rw [← pwI] at this; omega
    have ceq := nI_eq (a := pc6 R) (b := pc6 C) (by have := pc6_le R (by omega); omega) (by have := pc6_le C (by omega); omega)
    have sqi : sqI (tT α) (nI R) (nI C) ↔ 1 ≤ R ∧ 1 ≤ C ∧ pc6 R = pc6 C := by
      unfold sqI sq
      rw [nI_clamp hR2, nI_clamp hC2, nI_toInt hR2, nI_toInt hC2]
      constructor
      · rintro ⟨a, b, _, _, _, _, e⟩; exact ⟨by omega, by omega, e⟩
      · rintro ⟨a, b, e⟩; exact ⟨by omega, by omega, by omega, hRl, by omega, hCl, e⟩
    refine R_aload_n (i := 0) hC dX10_det_0 rfl rfl (R_gR hC dX10_det_1 fl_X10_19 L_U rfl (R_iload_n (i := 1) hC dX10_det_4 rfl rfl ?_))
    refine R_V1i hC hR dX10_det_5 MV_X7_hasRowSet ml_X10_179 L_table rfl (c_rowSet TL_table h.2.1 _) (by first | decide | omega) ⟨by decide, by decide⟩ (Nat.le_of_ble_eq_true rfl) ?_
    refine R_top (y := 1) (b2i_t h0.1) ?_
    refine R_if_eq hC 22 dX10_det_8 (by decide) (fun h => absurd h (by decide)) (fun _ => ?_)
    refine R_aload_n (i := 0) hC dX10_det_11 rfl rfl (R_gR hC dX10_det_12 fl_X10_19 L_U rfl (R_iload_n (i := 2) hC dX10_det_15 rfl rfl ?_))
    refine R_V1i hC hR dX10_det_16 MV_X7_hasColumnSet ml_X10_182 L_table rfl (c_colSet TL_table h.2.1 _) (by first | decide | omega) ⟨by decide, by decide⟩ (Nat.le_of_ble_eq_true rfl) ?_
    refine R_top (y := 1) (b2i_t h0.2) ?_
    refine R_if_ne hC 25 dX10_det_19 (by decide) (fun _ => ?_) (fun h => absurd h (by decide))
    refine R_iload_n (i := 1) hC dX10_det_25 rfl rfl ?_
    refine R_if_eq hC 40 dX10_det_26 (by decide) (fun h26 => ?_) (fun h26 => ?_)
    · refine R_ldc hC dX10_det_40 kc_X10_145 ?_
      exact R_iret hC hT dX10_det_42 rfl (by
      rw [no (fun z => by
        have y := sqi.mp z.2
        first
        | (exact nI_ne0 (n := R) (by omega) hR2 h26)
        | (have h27 := h37; exact h27 (ceq.mpr y.2.2)))]
      exact CPost.i h (MEq.rf _))
    · refine R_iload_n (i := 1) hC dX10_det_29 rfl rfl ?_
      refine R_S1i hC hR dX10_det_30 MS_J6_bitCount_0f7a4 ml_X10_185 (c_bit R (by omega) _) (by first | decide | omega) ⟨by decide, by decide⟩ (Nat.le_of_ble_eq_true rfl) ?_
      refine R_iload_n (i := 2) hC dX10_det_33 rfl rfl ?_
      refine R_S1i hC hR dX10_det_34 MS_J6_bitCount_0f7a4 ml_X10_185 (c_bit C (by omega) _) (by first | decide | omega) ⟨by decide, by decide⟩ (Nat.le_of_ble_eq_true rfl) ?_
      refine R_icmp_eq hC 43 dX10_det_37 (by decide) (fun h37 => ?_) (fun h37 => ?_)
      · refine R_aload_n (i := 0) hC dX10_det_43 rfl rfl ?_
        refine R_V0g hC hR dX10_det_44 MV_X10_knownMinors ml_X10_190 L_U rfl (c_known h ok) (by first | decide | omega) ⟨by decide, by decide⟩ (Nat.le_of_ble_eq_true rfl) (fun r w1 hq => ?_)
        obtain ⟨rfl, τ, rfl, hτ, hk, kd, c1, -⟩ := hq
        refine R_iload_n (i := 1) hC dX10_det_47 rfl rfl (R_iload_n (i := 2) hC dX10_det_48 rfl rfl ?_)
        refine R_V2i hC hR dX10_det_49 MV_X1_of ml_X10_194 L_minors rfl (c_ofZ hk kd r6 c6 hRl hCl) (by first | decide | omega) ⟨by decide, by decide⟩ (Nat.le_of_ble_eq_true rfl) ?_
        exact R_iret hC hT dX10_det_52 rfl (by
        have pe := ceq.mp h37
        have r1 : 1 ≤ R := by
          rcases Nat.eq_zero_or_pos R with z | z
          · subst z; exact absurd rfl h26
          · exact z
        have c1' : 1 ≤ C := by
          rcases Nat.eq_zero_or_pos C with z | z
          · subst z; have := pc6_0 R (by omega) (by rw [pe]; decide); omega
          · exact z
        have eo : opDet α (nI R) (nI C) = dD (tT α).2.2 R C := by unfold opDet; rw [if_pos ⟨h0.1.1, sqi.mpr ⟨r1, c1', pe⟩⟩, nI_clamp hR2, nI_clamp hC2]
        rw [eo]
        unfold ofZ
        rw [if_pos pe]
        exact CPost.i hτ c1)
      · refine R_ldc hC dX10_det_40 kc_X10_145 ?_
        exact R_iret hC hT dX10_det_42 rfl (by
        rw [no (fun z => by
          have y := sqi.mp z.2
          first
          | (exact nI_ne0 (n := R) (by omega) hR2 h26)
          | (have h27 := h37; exact h27 (ceq.mpr y.2.2)))]
        exact CPost.i h (MEq.rf _))
  · have e : opDet α r c = -1000000 := no (fun z => h0 (by
      obtain ⟨a1, a2, a3, a4, a5, a6, a7, a8⟩ := z
      obtain ⟨R, rfl, hR, hR2⟩ := i32_nI (k := r) (by omega)
      obtain ⟨C, rfl, hC0, hC2⟩ := i32_nI (k := c) (by omega)
      rw [nI_clamp hR2] at a5
      rw [nI_clamp hC2] at a7
      have t3 := ok.2.2.1.2.2.1
      refine ⟨⟨a1, by omega, by rw [← pwI]; omega⟩, by omega, by omega, by rw [← pwI]; omega⟩))
    refine R_aload_n (i := 0) hC dX10_det_0 rfl rfl (R_gR hC dX10_det_1 fl_X10_19 L_U rfl (R_iload_n (i := 1) hC dX10_det_4 rfl rfl ?_))
    refine R_V1i hC hR dX10_det_5 MV_X7_hasRowSet ml_X10_179 L_table rfl (c_rowSet TL_table h.2.1 _) (by first | decide | omega) ⟨by decide, by decide⟩ (Nat.le_of_ble_eq_true rfl) ?_
    refine R_if_eq hC 22 dX10_det_8 (by decide) (fun h8 => ?_) (fun h8 => ?_)
    · refine R_ldc hC dX10_det_22 kc_X10_145 ?_
      exact R_iret hC hT dX10_det_24 rfl (by rw [e]; exact CPost.i h (MEq.rf _))
    · refine R_aload_n (i := 0) hC dX10_det_11 rfl rfl (R_gR hC dX10_det_12 fl_X10_19 L_U rfl (R_iload_n (i := 2) hC dX10_det_15 rfl rfl ?_))
      refine R_V1i hC hR dX10_det_16 MV_X7_hasColumnSet ml_X10_182 L_table rfl (c_colSet TL_table h.2.1 _) (by first | decide | omega) ⟨by decide, by decide⟩ (Nat.le_of_ble_eq_true rfl) ?_
      refine R_if_ne hC 25 dX10_det_19 (by decide) (fun h19 => ?_) (fun h19 => ?_)
      · exact absurd ⟨b2i_ne h8, b2i_ne h19⟩ h0
      · refine R_ldc hC dX10_det_22 kc_X10_145 ?_
        exact R_iret hC hT dX10_det_24 rfl (by rw [e]; exact CPost.i h (MEq.rf _))
theorem c_sortOf (v : Int32) (w : aW) : Mt mX1_sortOf 1 0 0 [.int v] w (QI (sortZ v) w) := by
  refine Mt.of MI_X1_sortOf (Nat.le_of_ble_eq_true rfl) (fun X hC hR hT => ?_)
  by_cases h0 : v = 0
  · refine R_iload_n (i := 0) hC dX1_sortOf_0 rfl rfl ?_
    refine R_S1i hC hR dX1_sortOf_1 MS_X10_isBeyond ml_X1_46 (c_isBeyond _ _) (by first | decide | omega) ⟨by decide, by decide⟩ (Nat.le_of_ble_eq_true rfl) ?_
    refine R_top (y := 0) (b2i_f (fun z => z (Or.inr (Or.inl h0)))) ?_
    refine R_if_eq hC 9 dX1_sortOf_4 (by decide) (fun _ => ?_) (fun h => absurd rfl h)
    refine R_iload_n (i := 0) hC dX1_sortOf_9 rfl rfl ?_
    refine R_if_ne hC 17 dX1_sortOf_10 (by decide) (fun h => absurd h0 h) (fun _ => ?_)
    refine R_iconst (v := 0) hC dX1_sortOf_13 (by decide) (R_goto hC 18 dX1_sortOf_14 (by decide) ?_)
    exact R_iret hC hT dX1_sortOf_18 rfl ⟨by unfold sortZ; rw [if_pos h0], rfl⟩
  · by_cases h1 : v = 1 ∨ v = -1
    · have hs : sml v := by rcases h1 with q | q; exact Or.inr (Or.inr q); exact Or.inl q
      refine R_iload_n (i := 0) hC dX1_sortOf_0 rfl rfl ?_
      refine R_S1i hC hR dX1_sortOf_1 MS_X10_isBeyond ml_X1_46 (c_isBeyond _ _) (by first | decide | omega) ⟨by decide, by decide⟩ (Nat.le_of_ble_eq_true rfl) ?_
      refine R_top (y := 0) (b2i_f (fun z => z hs)) ?_
      refine R_if_eq hC 9 dX1_sortOf_4 (by decide) (fun _ => ?_) (fun h => absurd rfl h)
      refine R_iload_n (i := 0) hC dX1_sortOf_9 rfl rfl ?_
      refine R_if_ne hC 17 dX1_sortOf_10 (by decide) (fun _ => ?_) (fun h => absurd h h0)
      refine R_iconst (v := 1) hC dX1_sortOf_17 (by decide) ?_
      exact R_iret hC hT dX1_sortOf_18 rfl ⟨by unfold sortZ; rw [if_neg h0, if_pos h1], rfl⟩
    · have hs : ¬ sml v := by rintro (q | q | q); exact h1 (Or.inr q); exact h0 q; exact h1 (Or.inl q)
      refine R_iload_n (i := 0) hC dX1_sortOf_0 rfl rfl ?_
      refine R_S1i hC hR dX1_sortOf_1 MS_X10_isBeyond ml_X1_46 (c_isBeyond _ _) (by first | decide | omega) ⟨by decide, by decide⟩ (Nat.le_of_ble_eq_true rfl) ?_
      refine R_top (y := 1) (b2i_t hs) ?_
      refine R_if_eq hC 9 dX1_sortOf_4 (by decide) (fun h => absurd h (by decide)) (fun _ => ?_)
      refine R_iconst (v := 2) hC dX1_sortOf_7 (by decide) ?_
      exact R_iret hC hT dX1_sortOf_8 rfl ⟨by unfold sortZ; rw [if_neg h0, if_neg h1], rfl⟩
theorem c_howMany {σ : sg} {x : aW} {T : tb} (h : CKm σ T) (k : KD σ) (h6 : T.1 ≤ 6) (h7 : T.2.1 ≤ 6) (K : Nat) (hK : K < 2 ^ 31) (w : Int32) : Mt mX1_howMany 2 0 0 [.ref i_minors, .int (nI K), .int w] (wd σ x) (QI (fo2 (sqH T K w) (2 ^ T.1) (2 ^ T.2.1) 0) (wd σ x)) := by
  refine Mt.of MI_X1_howMany (Nat.le_of_ble_eq_true rfl) (fun X hC hR hT => ?_)
  have p1 := pw6 h6
  have p2 := pw6 h7
  have outer : ∀ n, n ≤ 2 ^ T.1 → 1 ≤ n → ∀ u5, Rw mX1_howMany X 5 [some (.ref i_minors), some (.int (nI K)), some (.int w), some (.int (fo (fun r v => fo (sqH T K w r) 1 (2 ^ T.2.1) v) 1 n 0)), some (.int (nI n)), u5] [] (wd σ x) 0 0 := by
    refine up_loop (2 ^ T.1) ?_ ?_
    · intro n1 u5
      refine R_iload hC dX1_howMany_5 rfl (R_aload_n (i := 0) hC dX1_howMany_7 rfl rfl (R_gI hC dX1_howMany_8 fl_X1_21 L_minors rfl ?_))
      refine R_top (y := nI (2 ^ T.1)) (h.1) ?_
      refine R_icmp_ge hC 74 dX1_howMany_11 (by decide) (fun _ => ?_) (fun h => absurd (Int32.le_refl _) h)
      refine R_iload_n (i := 3) hC dX1_howMany_74 rfl rfl ?_
      exact R_iret hC hT dX1_howMany_75 rfl ⟨rfl, rfl⟩
    · intro n hn ih n1 u5
      have ih2 := ih (by omega)
      rw [fo_s _ n1] at ih2
      generalize fo (fun r v => fo (sqH T K w r) 1 (2 ^ T.2.1) v) 1 n 0 = v0 at ih2 ⊢
      have inner : ∀ c, c ≤ 2 ^ T.2.1 → 1 ≤ c → Rw mX1_howMany X 17 [some (.ref i_minors), some (.int (nI K)), some (.int w), some (.int (fo (sqH T K w n) 1 c v0)), some (.int (nI n)), some (.int (nI c))] [] (wd σ x) 0 0 := by
        refine up_loop (2 ^ T.2.1) ?_ ?_
        · intro c1
          refine R_iload hC dX1_howMany_17 rfl (R_aload_n (i := 0) hC dX1_howMany_19 rfl rfl (R_gI hC dX1_howMany_20 fl_X1_27 L_minors rfl ?_))
          refine R_top (y := nI (2 ^ T.2.1)) (h.2.1) ?_
          refine R_icmp_ge hC 68 dX1_howMany_23 (by decide) (fun _ => ?_) (fun h => absurd (Int32.le_refl _) h)
          refine R_iinc hC dX1_howMany_68 rfl (inc1 _) (by decide) rfl (R_goto hC 5 dX1_howMany_71 (by decide) ?_)
          exact ih2 _
        · intro c hc ihc c1
          have ihc2 := ihc (by omega)
          rw [fo_s _ c1] at ihc2
          generalize fo (sqH T K w n) 1 c v0 = v1 at ihc2 ⊢
          have em := pcI (s := n) (by omega) hK
          have em2 := pcI (s := c) (by omega) hK
          have nx : ¬ (pc6 n = K ∧ pc6 c = K ∧ sortZ (dD T.2.2 n c) = w) → Rw mX1_howMany X 62 [some (.ref i_minors), some (.int (nI K)), some (.int w), some (.int v1), some (.int (nI n)), some (.int (nI c))] [] (wd σ x) 0 0 := by
            intro z
            have e : sqH T K w n c v1 = v1 := by unfold sqH; rw [if_neg z]
            rw [e] at ihc2
            refine R_iinc hC dX1_howMany_62 rfl (inc1 _) (by decide) rfl (R_goto hC 17 dX1_howMany_65 (by decide) ?_)
            exact ihc2
          refine R_iload hC dX1_howMany_17 rfl (R_aload_n (i := 0) hC dX1_howMany_19 rfl rfl (R_gI hC dX1_howMany_20 fl_X1_27 L_minors rfl ?_))
          refine R_top (y := nI (2 ^ T.2.1)) (h.2.1) ?_
          refine R_icmp_ge hC 68 dX1_howMany_23 (by decide) (fun h => absurd h (nI_ge hc (by omega))) (fun _ => ?_)
          refine R_iload hC dX1_howMany_26 rfl ?_
          refine R_S1i hC hR dX1_howMany_28 MS_J6_bitCount_0f7a4 ml_X1_36 (c_bit n (by omega) _) (by first | decide | omega) ⟨by decide, by decide⟩ (Nat.le_of_ble_eq_true rfl) ?_
          refine R_iload_n (i := 1) hC dX1_howMany_31 rfl rfl ?_
          refine R_icmp_ne hC 62 dX1_howMany_32 (by decide) (fun h32 => ?_) (fun h32 => ?_)
          · first
            | exact nx (fun z => h32 (em.mpr z.1))
            | exact nx (fun z => h41 (em2.mpr z.2.1))
            | exact nx (fun z => h56 (by unfold ofZ; rw [if_pos (by omega)]; exact z.2.2))
            | skip
          · refine R_iload hC dX1_howMany_35 rfl ?_
            refine R_S1i hC hR dX1_howMany_37 MS_J6_bitCount_0f7a4 ml_X1_36 (c_bit c (by omega) _) (by first | decide | omega) ⟨by decide, by decide⟩ (Nat.le_of_ble_eq_true rfl) ?_
            refine R_iload_n (i := 1) hC dX1_howMany_40 rfl rfl ?_
            refine R_icmp_ne hC 62 dX1_howMany_41 (by decide) (fun h41 => ?_) (fun h41 => ?_)
            · first
              | exact nx (fun z => h32 (em.mpr z.1))
              | exact nx (fun z => h41 (em2.mpr z.2.1))
              | exact nx (fun z => h56 (by unfold ofZ; rw [if_pos (by omega)]; exact z.2.2))
              | skip
            · refine R_aload_n (i := 0) hC dX1_howMany_44 rfl rfl (R_iload hC dX1_howMany_45 rfl (R_iload hC dX1_howMany_47 rfl ?_))
              refine R_V2i hC hR dX1_howMany_49 MV_X1_of ml_X1_62 L_minors rfl (c_ofZ h k h6 h7 hn hc) (by first | decide | omega) ⟨by decide, by decide⟩ (Nat.le_of_ble_eq_true rfl) ?_
              refine R_S1i hC hR dX1_howMany_52 MS_X1_sortOf ml_X1_69 (c_sortOf _ _) (by first | decide | omega) ⟨by decide, by decide⟩ (Nat.le_of_ble_eq_true rfl) ?_
              refine R_iload_n (i := 2) hC dX1_howMany_55 rfl rfl ?_
              refine R_icmp_ne hC 62 dX1_howMany_56 (by decide) (fun h56 => ?_) (fun h56 => ?_)
              · first
                | exact nx (fun z => h32 (em.mpr z.1))
                | exact nx (fun z => h41 (em2.mpr z.2.1))
                | exact nx (fun z => h56 (by unfold ofZ; rw [if_pos (by omega)]; exact z.2.2))
                | skip
              · have e : sqH T K w n c v1 = v1 + 1 := by
                  unfold sqH
                  have q1 := em.mp h32
                  have q2 := em2.mp h41
                  rw [if_pos ⟨q1, q2, by have q := h56; unfold ofZ at q; rwa [if_pos (by omega)] at q⟩]
                rw [e] at ihc2
                refine R_iinc hC dX1_howMany_59 rfl rfl (by decide) rfl (R_iinc hC dX1_howMany_62 rfl (inc1 _) (by decide) rfl (R_goto hC 17 dX1_howMany_65 (by decide) ?_))
                exact ihc2
      have i1 := inner 1 (Nat.one_le_two_pow) (Nat.le_refl _)
      rw [fo_0 _ (Nat.le_refl 1)] at i1
      refine R_iload hC dX1_howMany_5 rfl (R_aload_n (i := 0) hC dX1_howMany_7 rfl rfl (R_gI hC dX1_howMany_8 fl_X1_21 L_minors rfl ?_))
      refine R_top (y := nI (2 ^ T.1)) (h.1) ?_
      refine R_icmp_ge hC 74 dX1_howMany_11 (by decide) (fun h => absurd h (nI_ge hn (by omega))) (fun _ => ?_)
      refine R_iconst (v := 1) hC dX1_howMany_14 (by decide) (R_istore hC dX1_howMany_15 (by decide) rfl ?_)
      exact i1
  have o1 := outer 1 (Nat.one_le_two_pow) (Nat.le_refl _)
  rw [fo_0 _ (Nat.le_refl 1)] at o1
  refine R_iconst (v := 0) hC dX1_howMany_0 (by decide) (R_istore_n (i := 3) hC dX1_howMany_1 rfl (by decide) rfl (R_iconst (v := 1) hC dX1_howMany_2 (by decide) (R_istore hC dX1_howMany_3 (by decide) rfl ?_)))
  exact o1 _
theorem co_squares {σ : sg} {x : aW} {α : aS} (h : CInv σ α) (ok : aOK α) (k w : Int32) : Mt mX10_squares 4 0 0 [.ref i_U, .int k, .int w] (wd σ x) (CPost σ x (opSquares α k w) α) := by
  refine Mt.of MI_X10_squares (Nat.le_of_ble_eq_true rfl) (fun X hC hR hT => ?_)
  have no : ¬ (¬ (tT α).1 = 0 ∧ (1 ≤ k.toInt ∧ k.toInt ≤ 6) ∧ (0 ≤ w.toInt ∧ w.toInt ≤ 2)) → opSquares α k w = -1 := fun q => by unfold opSquares; rw [if_neg q]
  have e1 : (1 : Int32).toInt = 1 := by decide
  have e6 : (6 : Int32).toInt = 6 := by decide
  have e2 : (2 : Int32).toInt = 2 := by decide
  by_cases h0 : ¬ (tT α).1 = 0 ∧ (1 ≤ k.toInt ∧ k.toInt ≤ 6) ∧ (0 ≤ w.toInt ∧ w.toInt ≤ 2)
  · have e : opSquares α k w = fo2 (sqH (tT α) k.toNatClampNeg w) (2 ^ (tT α).1) (2 ^ (tT α).2.1) 0 := by unfold opSquares; rw [if_pos h0]
    obtain ⟨K, rfl, hK, hK2⟩ := i32_nI (k := k) (by omega)
    rw [nI_clamp hK2] at e
    refine R_aload_n (i := 0) hC dX10_squares_0 rfl rfl (R_gR hC dX10_squares_1 fl_X10_19 L_U rfl ?_)
    refine R_V0i hC hR dX10_squares_4 MV_X7_isNone ml_X10_152 L_table rfl (c_isNone TL_table h.2.1) (by first | decide | omega) ⟨by decide, by decide⟩ (Nat.le_of_ble_eq_true rfl) ?_
    refine R_top (y := 0) (b2i_f h0.1) ?_
    refine R_if_ne hC 30 dX10_squares_7 (by decide) (fun h => absurd rfl h) (fun _ => ?_)
    refine R_iload_n (i := 1) hC dX10_squares_10 rfl rfl (R_iconst (v := 1) hC dX10_squares_11 (by decide) ?_)
    refine R_icmp_lt hC 30 dX10_squares_12 (by decide) (fun h => absurd h (by simp only [i32_lt, e1]; omega)) (fun _ => ?_)
    refine R_iload_n (i := 1) hC dX10_squares_15 rfl rfl (R_bipush (v := 6) hC dX10_squares_16 (by decide) ?_)
    refine R_icmp_gt hC 30 dX10_squares_18 (by decide) (fun h => absurd h (by simp only [i32_lt, e6]; omega)) (fun _ => ?_)
    refine R_iload_n (i := 2) hC dX10_squares_21 rfl rfl ?_
    refine R_if_lt hC 30 dX10_squares_22 (by decide) (fun h => absurd h (by simp only [i32_lt, Int32.toInt_zero]; omega)) (fun _ => ?_)
    refine R_iload_n (i := 2) hC dX10_squares_25 rfl rfl (R_iconst (v := 2) hC dX10_squares_26 (by decide) ?_)
    refine R_icmp_le hC 32 dX10_squares_27 (by decide) (fun _ => ?_) (fun h => absurd (by simp only [i32_ge, e2]; omega) h)
    refine R_aload_n (i := 0) hC dX10_squares_32 rfl rfl ?_
    refine R_V0g hC hR dX10_squares_33 MV_X10_knownMinors ml_X10_190 L_U rfl (c_known h ok) (by first | decide | omega) ⟨by decide, by decide⟩ (Nat.le_of_ble_eq_true rfl) (fun r w1 hq => ?_)
    obtain ⟨rfl, τ, rfl, hτ, hk, kd, c1, -⟩ := hq
    refine R_iload_n (i := 1) hC dX10_squares_36 rfl rfl (R_iload_n (i := 2) hC dX10_squares_37 rfl rfl ?_)
    refine R_V2i hC hR dX10_squares_38 MV_X1_howMany ml_X10_197 L_minors rfl (c_howMany hk kd ok.2.2.1.1 ok.2.2.1.2.1 K hK2 w) (by first | decide | omega) ⟨by decide, by decide⟩ (Nat.le_of_ble_eq_true rfl) ?_
    exact R_iret hC hT dX10_squares_41 rfl (by rw [e]; exact CPost.i hτ c1)
  · refine R_aload_n (i := 0) hC dX10_squares_0 rfl rfl (R_gR hC dX10_squares_1 fl_X10_19 L_U rfl ?_)
    refine R_V0i hC hR dX10_squares_4 MV_X7_isNone ml_X10_152 L_table rfl (c_isNone TL_table h.2.1) (by first | decide | omega) ⟨by decide, by decide⟩ (Nat.le_of_ble_eq_true rfl) ?_
    refine R_if_ne hC 30 dX10_squares_7 (by decide) (fun h7 => ?_) (fun h7 => ?_)
    · refine R_iconst (v := (-1)) hC dX10_squares_30 (by decide) ?_
      exact R_iret hC hT dX10_squares_31 rfl (by rw [no h0]; exact CPost.i h (MEq.rf _))
    · refine R_iload_n (i := 1) hC dX10_squares_10 rfl rfl (R_iconst (v := 1) hC dX10_squares_11 (by decide) ?_)
      refine R_icmp_lt hC 30 dX10_squares_12 (by decide) (fun h12 => ?_) (fun h12 => ?_)
      · refine R_iconst (v := (-1)) hC dX10_squares_30 (by decide) ?_
        exact R_iret hC hT dX10_squares_31 rfl (by rw [no h0]; exact CPost.i h (MEq.rf _))
      · refine R_iload_n (i := 1) hC dX10_squares_15 rfl rfl (R_bipush (v := 6) hC dX10_squares_16 (by decide) ?_)
        refine R_icmp_gt hC 30 dX10_squares_18 (by decide) (fun h18 => ?_) (fun h18 => ?_)
        · refine R_iconst (v := (-1)) hC dX10_squares_30 (by decide) ?_
          exact R_iret hC hT dX10_squares_31 rfl (by rw [no h0]; exact CPost.i h (MEq.rf _))
        · refine R_iload_n (i := 2) hC dX10_squares_21 rfl rfl ?_
          refine R_if_lt hC 30 dX10_squares_22 (by decide) (fun h22 => ?_) (fun h22 => ?_)
          · refine R_iconst (v := (-1)) hC dX10_squares_30 (by decide) ?_
            exact R_iret hC hT dX10_squares_31 rfl (by rw [no h0]; exact CPost.i h (MEq.rf _))
          · refine R_iload_n (i := 2) hC dX10_squares_25 rfl rfl (R_iconst (v := 2) hC dX10_squares_26 (by decide) ?_)
            refine R_icmp_le hC 32 dX10_squares_27 (by decide) (fun h27 => ?_) (fun h27 => ?_)
            · exact absurd ⟨b2i_0 h7, by simp only [i32_ge, i32_lt, Int32.toInt_zero, e1, e2, e6] at *; omega⟩ h0
            · refine R_iconst (v := (-1)) hC dX10_squares_30 (by decide) ?_
              exact R_iret hC hT dX10_squares_31 rfl (by rw [no h0]; exact CPost.i h (MEq.rf _))
theorem c_notN {σ : sg} {x : aW} {T : tb} (h : CKm σ T) (k : KD σ) (h6 : T.1 ≤ 6) (h7 : T.2.1 ≤ 6) : Mt mX1_howManyNotNought 1 0 0 [.ref i_minors] (wd σ x) (fun r w => w = wd σ x ∧ ∃ v, r = some (.int v) ∧ v + 1 = fo2 (bsH T) (2 ^ T.1) (2 ^ T.2.1) 1) := by
  refine Mt.of MI_X1_howManyNotNought (Nat.le_of_ble_eq_true rfl) (fun X hC hR hT => ?_)
  have p1 := pw6 h6
  have p2 := pw6 h7
  have outer : ∀ n, n ≤ 2 ^ T.1 → 1 ≤ n → ∀ v, v + 1 = fo (fun r v => fo (bsH T r) 1 (2 ^ T.2.1) v) 1 n 1 → ∀ u3, Rw mX1_howManyNotNought X 4 [some (.ref i_minors), some (.int v), some (.int (nI n)), u3] [] (wd σ x) 0 0 := by
    refine up_loop (2 ^ T.1) ?_ ?_
    · intro n1 v hv u3
      refine R_iload_n (i := 2) hC dX1_howManyNotNought_4 rfl rfl (R_aload_n (i := 0) hC dX1_howManyNotNought_5 rfl rfl (R_gI hC dX1_howManyNotNought_6 fl_X1_21 L_minors rfl ?_))
      refine R_top (y := nI (2 ^ T.1)) (h.1) ?_
      refine R_icmp_ge hC 46 dX1_howManyNotNought_9 (by decide) (fun _ => ?_) (fun h => absurd (Int32.le_refl _) h)
      refine R_iload_n (i := 1) hC dX1_howManyNotNought_46 rfl rfl ?_
      exact R_iret hC hT dX1_howManyNotNought_47 rfl ⟨rfl, v, rfl, hv⟩
    · intro n hn ih n1 v hv u3
      have ih2 := ih (by omega)
      rw [fo_s _ n1] at ih2
      generalize fo (fun r v => fo (bsH T r) 1 (2 ^ T.2.1) v) 1 n 1 = v0 at ih2 hv
      have inner : ∀ c, c ≤ 2 ^ T.2.1 → 1 ≤ c → ∀ v, v + 1 = fo (bsH T n) 1 c v0 → Rw mX1_howManyNotNought X 14 [some (.ref i_minors), some (.int v), some (.int (nI n)), some (.int (nI c))] [] (wd σ x) 0 0 := by
        refine up_loop (2 ^ T.2.1) ?_ ?_
        · intro c1 v hv
          refine R_iload_n (i := 3) hC dX1_howManyNotNought_14 rfl rfl (R_aload_n (i := 0) hC dX1_howManyNotNought_15 rfl rfl (R_gI hC dX1_howManyNotNought_16 fl_X1_27 L_minors rfl ?_))
          refine R_top (y := nI (2 ^ T.2.1)) (h.2.1) ?_
          refine R_icmp_ge hC 40 dX1_howManyNotNought_19 (by decide) (fun _ => ?_) (fun h => absurd (Int32.le_refl _) h)
          refine R_iinc hC dX1_howManyNotNought_40 rfl (inc1 _) (by decide) rfl (R_goto hC 4 dX1_howManyNotNought_43 (by decide) ?_)
          exact ih2 v hv _
        · intro c hc ihc c1 v hv
          have ihc2 := ihc (by omega)
          rw [fo_s _ c1] at ihc2
          rw [← hv] at ihc2
          refine R_iload_n (i := 3) hC dX1_howManyNotNought_14 rfl rfl (R_aload_n (i := 0) hC dX1_howManyNotNought_15 rfl rfl (R_gI hC dX1_howManyNotNought_16 fl_X1_27 L_minors rfl ?_))
          refine R_top (y := nI (2 ^ T.2.1)) (h.2.1) ?_
          refine R_icmp_ge hC 40 dX1_howManyNotNought_19 (by decide) (fun h => absurd h (nI_ge hc (by omega))) (fun _ => ?_)
          refine R_aload_n (i := 0) hC dX1_howManyNotNought_22 rfl rfl (R_iload_n (i := 2) hC dX1_howManyNotNought_23 rfl rfl (R_iload_n (i := 3) hC dX1_howManyNotNought_24 rfl rfl ?_))
          refine R_V2i hC hR dX1_howManyNotNought_25 MV_X1_of ml_X1_62 L_minors rfl (c_ofZ h k h6 h7 hn hc) (by first | decide | omega) ⟨by decide, by decide⟩ (Nat.le_of_ble_eq_true rfl) ?_
          refine R_if_eq hC 34 dX1_howManyNotNought_28 (by decide) (fun h28 => ?_) (fun h28 => ?_)
          · (refine R_iinc hC dX1_howManyNotNought_34 rfl (inc1 _) (by decide) rfl (R_goto hC 14 dX1_howManyNotNought_37 (by decide) ?_); exact ihc2 v (by
              unfold bsH
              unfold ofZ at h28
              rw [if_neg (fun z => z.2 (by rwa [if_pos z.1] at h28))]))
          · (refine R_iinc hC dX1_howManyNotNought_31 rfl rfl (by decide) rfl (R_iinc hC dX1_howManyNotNought_34 rfl (inc1 _) (by decide) rfl (R_goto hC 14 dX1_howManyNotNought_37 (by decide) ?_)); exact ihc2 (v + 1) (by
              unfold bsH
              unfold ofZ at h28
              by_cases q : pc6 n = pc6 c
              · rw [if_pos q] at h28; rw [if_pos ⟨q, h28⟩]
              · rw [if_neg q] at h28; exact absurd rfl h28))
      refine R_iload_n (i := 2) hC dX1_howManyNotNought_4 rfl rfl (R_aload_n (i := 0) hC dX1_howManyNotNought_5 rfl rfl (R_gI hC dX1_howManyNotNought_6 fl_X1_21 L_minors rfl ?_))
      refine R_top (y := nI (2 ^ T.1)) (h.1) ?_
      refine R_icmp_ge hC 46 dX1_howManyNotNought_9 (by decide) (fun h => absurd h (nI_ge hn (by omega))) (fun _ => ?_)
      refine R_iconst (v := 1) hC dX1_howManyNotNought_12 (by decide) (R_istore_n (i := 3) hC dX1_howManyNotNought_13 rfl (by decide) rfl ?_)
      exact inner 1 (Nat.one_le_two_pow) (Nat.le_refl _) v (by rw [fo_0 _ (Nat.le_refl 1)]; exact hv)
  refine R_iconst (v := 0) hC dX1_howManyNotNought_0 (by decide) (R_istore_n (i := 1) hC dX1_howManyNotNought_1 rfl (by decide) rfl (R_iconst (v := 1) hC dX1_howManyNotNought_2 (by decide) (R_istore_n (i := 2) hC dX1_howManyNotNought_3 rfl (by decide) rfl ?_)))
  exact outer 1 (Nat.one_le_two_pow) (Nat.le_refl _) 0 (by rw [fo_0 _ (Nat.le_refl 1)]; rfl) _
theorem co_bases {σ : sg} {x : aW} {α : aS} (h : CInv σ α) (ok : aOK α) : Mt mX10_bases 4 0 0 [.ref i_U] (wd σ x) (CPost σ x (opBases α) α) := by
  refine Mt.of MI_X10_bases (Nat.le_of_ble_eq_true rfl) (fun X hC hR hT => ?_)
  by_cases h0 : (tT α).1 = 0
  · have e : opBases α = -1 := by unfold opBases; rw [if_pos h0]
    refine R_aload_n (i := 0) hC dX10_bases_0 rfl rfl (R_gR hC dX10_bases_1 fl_X10_19 L_U rfl ?_)
    refine R_V0i hC hR dX10_bases_4 MV_X7_isNone ml_X10_152 L_table rfl (c_isNone TL_table h.2.1) (by first | decide | omega) ⟨by decide, by decide⟩ (Nat.le_of_ble_eq_true rfl) ?_
    refine R_top (y := 1) (b2i_t h0) ?_
    refine R_if_eq hC 12 dX10_bases_7 (by decide) (fun h => absurd h (by decide)) (fun _ => ?_)
    refine R_iconst (v := (-1)) hC dX10_bases_10 (by decide) ?_
    exact R_iret hC hT dX10_bases_11 rfl (by rw [e]; exact CPost.i h (MEq.rf _))
  · have e : opBases α = fo2 (bsH (tT α)) (2 ^ (tT α).1) (2 ^ (tT α).2.1) 1 := by unfold opBases; rw [if_neg h0]
    refine R_aload_n (i := 0) hC dX10_bases_0 rfl rfl (R_gR hC dX10_bases_1 fl_X10_19 L_U rfl ?_)
    refine R_V0i hC hR dX10_bases_4 MV_X7_isNone ml_X10_152 L_table rfl (c_isNone TL_table h.2.1) (by first | decide | omega) ⟨by decide, by decide⟩ (Nat.le_of_ble_eq_true rfl) ?_
    refine R_top (y := 0) (b2i_f h0) ?_
    refine R_if_eq hC 12 dX10_bases_7 (by decide) (fun _ => ?_) (fun h => absurd rfl h)
    refine R_aload_n (i := 0) hC dX10_bases_12 rfl rfl ?_
    refine R_V0g hC hR dX10_bases_13 MV_X10_knownMinors ml_X10_190 L_U rfl (c_known h ok) (by first | decide | omega) ⟨by decide, by decide⟩ (Nat.le_of_ble_eq_true rfl) (fun r w1 hq => ?_)
    obtain ⟨rfl, τ, rfl, hτ, hk, kd, c, -⟩ := hq
    refine R_V0g hC hR dX10_bases_16 MV_X1_howManyNotNought ml_X10_263 L_minors rfl (c_notN hk kd ok.2.2.1.1 ok.2.2.1.2.1) (by first | decide | omega) ⟨by decide, by decide⟩ (Nat.le_of_ble_eq_true rfl) (fun r w1 hq => ?_)
    obtain ⟨rfl, v, rfl, hv⟩ := hq
    refine R_iconst (v := 1) hC dX10_bases_19 (by decide) (R_iadd hC dX10_bases_20 ?_)
    exact R_iret hC hT dX10_bases_21 rfl (by rw [e, ← hv]; exact CPost.i hτ c)
theorem c_largest {σ : sg} {x : aW} {T : tb} (h : CKm σ T) (k : KD σ) (h6 : T.1 ≤ 6) (h7 : T.2.1 ≤ 6) (b : Int32) : Mt mX1_largestNotNought 1 0 0 [.ref i_minors, .int b] (wd σ x) (QI (fo2 (rkH T b) (2 ^ T.1) (2 ^ T.2.1) 0) (wd σ x)) := by
  refine Mt.of MI_X1_largestNotNought (Nat.le_of_ble_eq_true rfl) (fun X hC hR hT => ?_)
  have p1 := pw6 h6
  have p2 := pw6 h7
  have outer : ∀ n, n ≤ 2 ^ T.1 → 1 ≤ n → ∀ u4 u5 u6, Rw mX1_largestNotNought X 4 [some (.ref i_minors), some (.int b), some (.int (fo (fun r v => fo (rkH T b r) 1 (2 ^ T.2.1) v) 1 n 0)), some (.int (nI n)), u4, u5, u6] [] (wd σ x) 0 0 := by
    refine up_loop (2 ^ T.1) ?_ ?_
    · intro n1 u4 u5 u6
      refine R_iload_n (i := 3) hC dX1_largestNotNought_4 rfl rfl (R_aload_n (i := 0) hC dX1_largestNotNought_5 rfl rfl (R_gI hC dX1_largestNotNought_6 fl_X1_21 L_minors rfl ?_))
      refine R_top (y := nI (2 ^ T.1)) (h.1) ?_
      refine R_icmp_ge hC 90 dX1_largestNotNought_9 (by decide) (fun _ => ?_) (fun h => absurd (Int32.le_refl _) h)
      refine R_iload_n (i := 2) hC dX1_largestNotNought_90 rfl rfl ?_
      exact R_iret hC hT dX1_largestNotNought_91 rfl ⟨rfl, rfl⟩
    · intro n hn ih n1 u4 u5 u6
      have ih2 := ih (by omega)
      rw [fo_s _ n1] at ih2
      generalize fo (fun r v => fo (rkH T b r) 1 (2 ^ T.2.1) v) 1 n 0 = v0 at ih2 ⊢
      have inner : ∀ c, c ≤ 2 ^ T.2.1 → 1 ≤ c → ∀ u5 u6, Rw mX1_largestNotNought X 15 [some (.ref i_minors), some (.int b), some (.int (fo (rkH T b n) 1 c v0)), some (.int (nI n)), some (.int (nI c)), u5, u6] [] (wd σ x) 0 0 := by
        refine up_loop (2 ^ T.2.1) ?_ ?_
        · intro c1 u5 u6
          refine R_iload hC dX1_largestNotNought_15 rfl (R_aload_n (i := 0) hC dX1_largestNotNought_17 rfl rfl (R_gI hC dX1_largestNotNought_18 fl_X1_27 L_minors rfl ?_))
          refine R_top (y := nI (2 ^ T.2.1)) (h.2.1) ?_
          refine R_icmp_ge hC 84 dX1_largestNotNought_21 (by decide) (fun _ => ?_) (fun h => absurd (Int32.le_refl _) h)
          refine R_iinc hC dX1_largestNotNought_84 rfl (inc1 _) (by decide) rfl (R_goto hC 4 dX1_largestNotNought_87 (by decide) ?_)
          exact ih2 _ _ _
        · intro c hc ihc c1 u5 u6
          have ihc2 := ihc (by omega)
          rw [fo_s _ c1] at ihc2
          generalize fo (rkH T b n) 1 c v0 = v1 at ihc2 ⊢
          have no : ¬ (pc6 n = pc6 c ∧ nzB b (dD T.2.2 n c)) → ∀ u6, Rw mX1_largestNotNought X 62 [some (.ref i_minors), some (.int b), some (.int v1), some (.int (nI n)), some (.int (nI c)), some (.int (ofZ T n c)), u6] [.int 1] (wd σ x) 0 0 := by
            intro z u6
            have e : rkH T b n c v1 = v1 := by unfold rkH; rw [if_neg z]
            rw [e] at ihc2
            refine R_istore hC dX1_largestNotNought_62 (by decide) rfl (R_iload hC dX1_largestNotNought_64 rfl ?_)
            refine R_if_ne hC 78 dX1_largestNotNought_66 (by decide) (fun _ => ?_) (fun h => absurd h (by decide))
            refine R_iinc hC dX1_largestNotNought_78 rfl (inc1 _) (by decide) rfl (R_goto hC 15 dX1_largestNotNought_81 (by decide) ?_)
            exact ihc2 _ _
          have ys : (pc6 n = pc6 c ∧ nzB b (dD T.2.2 n c)) → ∀ u6, Rw mX1_largestNotNought X 62 [some (.ref i_minors), some (.int b), some (.int v1), some (.int (nI n)), some (.int (nI c)), some (.int (ofZ T n c)), u6] [.int 0] (wd σ x) 0 0 := by
            intro z u6
            have e : rkH T b n c v1 = (if v1 < nI (pc6 n) then nI (pc6 n) else v1) := by unfold rkH; rw [if_pos z]
            rw [e] at ihc2
            refine R_istore hC dX1_largestNotNought_62 (by decide) rfl (R_iload hC dX1_largestNotNought_64 rfl ?_)
            refine R_if_ne hC 78 dX1_largestNotNought_66 (by decide) (fun h => absurd rfl h) (fun _ => ?_)
            refine R_iload_n (i := 2) hC dX1_largestNotNought_69 rfl rfl (R_iload_n (i := 3) hC dX1_largestNotNought_70 rfl rfl ?_)
            refine R_S1i hC hR dX1_largestNotNought_71 MS_J6_bitCount_0f7a4 ml_X1_36 (c_bit n (by omega) _) (by first | decide | omega) ⟨by decide, by decide⟩ (Nat.le_of_ble_eq_true rfl) ?_
            refine R_max hC hR dX1_largestNotNought_74 kl_X1_72 (by decide) ⟨by decide, by decide⟩ (Nat.le_of_ble_eq_true rfl) ?_
            refine R_istore_n (i := 2) hC dX1_largestNotNought_77 rfl (by decide) rfl (R_iinc hC dX1_largestNotNought_78 rfl (inc1 _) (by decide) rfl (R_goto hC 15 dX1_largestNotNought_81 (by decide) ?_))
            exact ihc2 _ _
          have nz : ∀ q : pc6 n = pc6 c, ofZ T n c = dD T.2.2 n c := fun q => by unfold ofZ; rw [if_pos q]
          have zz : ¬ pc6 n = pc6 c → ofZ T n c = 0 := fun q => by unfold ofZ; rw [if_neg q]
          by_cases hb : b = 0
          · subst hb
            refine R_iload hC dX1_largestNotNought_15 rfl (R_aload_n (i := 0) hC dX1_largestNotNought_17 rfl rfl (R_gI hC dX1_largestNotNought_18 fl_X1_27 L_minors rfl ?_))
            refine R_top (y := nI (2 ^ T.2.1)) (h.2.1) ?_
            refine R_icmp_ge hC 84 dX1_largestNotNought_21 (by decide) (fun h => absurd h (nI_ge hc (by omega))) (fun _ => ?_)
            refine R_aload_n (i := 0) hC dX1_largestNotNought_24 rfl rfl (R_iload_n (i := 3) hC dX1_largestNotNought_25 rfl rfl (R_iload hC dX1_largestNotNought_26 rfl ?_))
            refine R_V2i hC hR dX1_largestNotNought_28 MV_X1_of ml_X1_62 L_minors rfl (c_ofZ h k h6 h7 hn hc) (by first | decide | omega) ⟨by decide, by decide⟩ (Nat.le_of_ble_eq_true rfl) ?_
            refine R_istore hC dX1_largestNotNought_31 (by decide) rfl (R_iload_n (i := 1) hC dX1_largestNotNought_33 rfl rfl ?_)
            refine R_if_ne hC 50 dX1_largestNotNought_34 (by decide) (fun h => absurd rfl h) (fun _ => ?_)
            refine R_iload hC dX1_largestNotNought_37 rfl ?_
            refine R_if_ne hC 46 dX1_largestNotNought_39 (by decide) (fun h39 => ?_) (fun h39 => ?_)
            · refine R_iconst (v := 0) hC dX1_largestNotNought_46 (by decide) (R_goto hC 62 dX1_largestNotNought_47 (by decide) ?_)
              first
              | (refine no (fun z => ?_) _; have y := z.2; unfold nzB at y; rw [if_pos rfl, ← nz z.1] at y; exact y h39)
              | (refine ys (by
                   have q : pc6 n = pc6 c := Classical.byContradiction fun q => h39 (zz q)
                   refine ⟨q, ?_⟩; unfold nzB; rw [if_pos rfl, ← nz q]; exact h39) _)
            · refine R_iconst (v := 1) hC dX1_largestNotNought_42 (by decide) (R_goto hC 62 dX1_largestNotNought_43 (by decide) ?_)
              first
              | (refine no (fun z => ?_) _; have y := z.2; unfold nzB at y; rw [if_pos rfl, ← nz z.1] at y; exact y h39)
              | (refine ys (by
                   have q : pc6 n = pc6 c := Classical.byContradiction fun q => h39 (zz q)
                   refine ⟨q, ?_⟩; unfold nzB; rw [if_pos rfl, ← nz q]; exact h39) _)
          · refine R_iload hC dX1_largestNotNought_15 rfl (R_aload_n (i := 0) hC dX1_largestNotNought_17 rfl rfl (R_gI hC dX1_largestNotNought_18 fl_X1_27 L_minors rfl ?_))
            refine R_top (y := nI (2 ^ T.2.1)) (h.2.1) ?_
            refine R_icmp_ge hC 84 dX1_largestNotNought_21 (by decide) (fun h => absurd h (nI_ge hc (by omega))) (fun _ => ?_)
            refine R_aload_n (i := 0) hC dX1_largestNotNought_24 rfl rfl (R_iload_n (i := 3) hC dX1_largestNotNought_25 rfl rfl (R_iload hC dX1_largestNotNought_26 rfl ?_))
            refine R_V2i hC hR dX1_largestNotNought_28 MV_X1_of ml_X1_62 L_minors rfl (c_ofZ h k h6 h7 hn hc) (by first | decide | omega) ⟨by decide, by decide⟩ (Nat.le_of_ble_eq_true rfl) ?_
            refine R_istore hC dX1_largestNotNought_31 (by decide) rfl (R_iload_n (i := 1) hC dX1_largestNotNought_33 rfl rfl ?_)
            refine R_if_ne hC 50 dX1_largestNotNought_34 (by decide) (fun _ => ?_) (fun h => absurd h hb)
            refine R_iload hC dX1_largestNotNought_50 rfl (R_iload_n (i := 1) hC dX1_largestNotNought_52 rfl rfl (R_irem hC dX1_largestNotNought_53 hb ?_))
            refine R_if_ne hC 61 dX1_largestNotNought_54 (by decide) (fun h54 => ?_) (fun h54 => ?_)
            · refine R_iconst (v := 0) hC dX1_largestNotNought_61 (by decide) ?_
              first
              | (refine no (fun z => ?_) _; have y := z.2; unfold nzB at y; rw [if_neg hb, ← nz z.1] at y; exact y h54)
              | (refine ys (by
                   have q : pc6 n = pc6 c := Classical.byContradiction fun q => h54 (by rw [zz q, Int32.zero_div, Int32.zero_mul]; rfl)
                   refine ⟨q, ?_⟩; unfold nzB; rw [if_neg hb, ← nz q]; exact h54) _)
            · refine R_iconst (v := 1) hC dX1_largestNotNought_57 (by decide) (R_goto hC 62 dX1_largestNotNought_58 (by decide) ?_)
              first
              | (refine no (fun z => ?_) _; have y := z.2; unfold nzB at y; rw [if_neg hb, ← nz z.1] at y; exact y h54)
              | (refine ys (by
                   have q : pc6 n = pc6 c := Classical.byContradiction fun q => h54 (by rw [zz q, Int32.zero_div, Int32.zero_mul]; rfl)
                   refine ⟨q, ?_⟩; unfold nzB; rw [if_neg hb, ← nz q]; exact h54) _)
      have i1 := inner 1 (Nat.one_le_two_pow) (Nat.le_refl _)
      rw [fo_0 _ (Nat.le_refl 1)] at i1
      refine R_iload_n (i := 3) hC dX1_largestNotNought_4 rfl rfl (R_aload_n (i := 0) hC dX1_largestNotNought_5 rfl rfl (R_gI hC dX1_largestNotNought_6 fl_X1_21 L_minors rfl ?_))
      refine R_top (y := nI (2 ^ T.1)) (h.1) ?_
      refine R_icmp_ge hC 90 dX1_largestNotNought_9 (by decide) (fun h => absurd h (nI_ge hn (by omega))) (fun _ => ?_)
      refine R_iconst (v := 1) hC dX1_largestNotNought_12 (by decide) (R_istore hC dX1_largestNotNought_13 (by decide) rfl ?_)
      exact i1 _ _
  have o1 := outer 1 (Nat.one_le_two_pow) (Nat.le_refl _)
  rw [fo_0 _ (Nat.le_refl 1)] at o1
  refine R_iconst (v := 0) hC dX1_largestNotNought_0 (by decide) (R_istore_n (i := 2) hC dX1_largestNotNought_1 rfl (by decide) rfl (R_iconst (v := 1) hC dX1_largestNotNought_2 (by decide) (R_istore_n (i := 3) hC dX1_largestNotNought_3 rfl (by decide) rfl ?_)))
  exact o1 _ _ _
theorem co_rank {σ : sg} {x : aW} {α : aS} (h : CInv σ α) (ok : aOK α) (b : Int32) : Mt mX10_rank 4 0 0 [.ref i_U, .int b] (wd σ x) (CPost σ x (opRank α b) α) := by
  refine Mt.of MI_X10_rank (Nat.le_of_ble_eq_true rfl) (fun X hC hR hT => ?_)
  by_cases h0 : ¬ (tT α).1 = 0 ∧ (b = 0 ∨ b = 2 ∨ b = 3)
  · have e : opRank α b = fo2 (rkH (tT α) b) (2 ^ (tT α).1) (2 ^ (tT α).2.1) 0 := by unfold opRank; rw [if_pos h0]
    refine R_aload_n (i := 0) hC dX10_rank_0 rfl rfl (R_gR hC dX10_rank_1 fl_X10_19 L_U rfl ?_)
    refine R_V0i hC hR dX10_rank_4 MV_X7_isNone ml_X10_152 L_table rfl (c_isNone TL_table h.2.1) (by first | decide | omega) ⟨by decide, by decide⟩ (Nat.le_of_ble_eq_true rfl) ?_
    refine R_top (y := 0) (b2i_f h0.1) ?_
    refine R_if_ne hC 24 dX10_rank_7 (by decide) (fun h => absurd rfl h) (fun _ => ?_)
    refine R_iload_n (i := 1) hC dX10_rank_10 rfl rfl ?_
    refine R_if_eq hC 26 dX10_rank_11 (by decide) (fun h11 => ?_) (fun h11 => ?_)
    · refine R_aload_n (i := 0) hC dX10_rank_26 rfl rfl ?_
      refine R_V0g hC hR dX10_rank_27 MV_X10_knownMinors ml_X10_190 L_U rfl (c_known h ok) (by first | decide | omega) ⟨by decide, by decide⟩ (Nat.le_of_ble_eq_true rfl) (fun r w1 hq => ?_)
      obtain ⟨rfl, τ, rfl, hτ, hk, kd, c, -⟩ := hq
      refine R_iload_n (i := 1) hC dX10_rank_30 rfl rfl ?_
      refine R_V1i hC hR dX10_rank_31 MV_X1_largestNotNought ml_X10_260 L_minors rfl (c_largest hk kd ok.2.2.1.1 ok.2.2.1.2.1 b) (by first | decide | omega) ⟨by decide, by decide⟩ (Nat.le_of_ble_eq_true rfl) ?_
      exact R_iret hC hT dX10_rank_34 rfl (by rw [e]; exact CPost.i hτ c)
    · refine R_iload_n (i := 1) hC dX10_rank_14 rfl rfl (R_iconst (v := 2) hC dX10_rank_15 (by decide) ?_)
      refine R_icmp_eq hC 26 dX10_rank_16 (by decide) (fun h16 => ?_) (fun h16 => ?_)
      · refine R_aload_n (i := 0) hC dX10_rank_26 rfl rfl ?_
        refine R_V0g hC hR dX10_rank_27 MV_X10_knownMinors ml_X10_190 L_U rfl (c_known h ok) (by first | decide | omega) ⟨by decide, by decide⟩ (Nat.le_of_ble_eq_true rfl) (fun r w1 hq => ?_)
        obtain ⟨rfl, τ, rfl, hτ, hk, kd, c, -⟩ := hq
        refine R_iload_n (i := 1) hC dX10_rank_30 rfl rfl ?_
        refine R_V1i hC hR dX10_rank_31 MV_X1_largestNotNought ml_X10_260 L_minors rfl (c_largest hk kd ok.2.2.1.1 ok.2.2.1.2.1 b) (by first | decide | omega) ⟨by decide, by decide⟩ (Nat.le_of_ble_eq_true rfl) ?_
        exact R_iret hC hT dX10_rank_34 rfl (by rw [e]; exact CPost.i hτ c)
      · refine R_iload_n (i := 1) hC dX10_rank_19 rfl rfl (R_iconst (v := 3) hC dX10_rank_20 (by decide) ?_)
        refine R_icmp_eq hC 26 dX10_rank_21 (by decide) (fun h21 => ?_) (fun h21 => ?_)
        · refine R_aload_n (i := 0) hC dX10_rank_26 rfl rfl ?_
          refine R_V0g hC hR dX10_rank_27 MV_X10_knownMinors ml_X10_190 L_U rfl (c_known h ok) (by first | decide | omega) ⟨by decide, by decide⟩ (Nat.le_of_ble_eq_true rfl) (fun r w1 hq => ?_)
          obtain ⟨rfl, τ, rfl, hτ, hk, kd, c, -⟩ := hq
          refine R_iload_n (i := 1) hC dX10_rank_30 rfl rfl ?_
          refine R_V1i hC hR dX10_rank_31 MV_X1_largestNotNought ml_X10_260 L_minors rfl (c_largest hk kd ok.2.2.1.1 ok.2.2.1.2.1 b) (by first | decide | omega) ⟨by decide, by decide⟩ (Nat.le_of_ble_eq_true rfl) ?_
          exact R_iret hC hT dX10_rank_34 rfl (by rw [e]; exact CPost.i hτ c)
        · refine R_iconst (v := (-1)) hC dX10_rank_24 (by decide) ?_
          exact R_iret hC hT dX10_rank_25 rfl (by rcases h0.2 with z | z | z; exact absurd z h11; exact absurd z h16; exact absurd z h21)
  · have e : opRank α b = -1 := by unfold opRank; rw [if_neg h0]
    refine R_aload_n (i := 0) hC dX10_rank_0 rfl rfl (R_gR hC dX10_rank_1 fl_X10_19 L_U rfl ?_)
    refine R_V0i hC hR dX10_rank_4 MV_X7_isNone ml_X10_152 L_table rfl (c_isNone TL_table h.2.1) (by first | decide | omega) ⟨by decide, by decide⟩ (Nat.le_of_ble_eq_true rfl) ?_
    refine R_if_ne hC 24 dX10_rank_7 (by decide) (fun h7 => ?_) (fun h7 => ?_)
    · refine R_iconst (v := (-1)) hC dX10_rank_24 (by decide) ?_
      exact R_iret hC hT dX10_rank_25 rfl (by rw [e]; exact CPost.i h (MEq.rf _))
    · refine R_iload_n (i := 1) hC dX10_rank_10 rfl rfl ?_
      refine R_if_eq hC 26 dX10_rank_11 (by decide) (fun h11 => ?_) (fun h11 => ?_)
      · exact absurd ⟨b2i_0 h7, (by first | exact Or.inl h11 | exact Or.inr (Or.inl h16) | exact Or.inr (Or.inr h21))⟩ h0
      · refine R_iload_n (i := 1) hC dX10_rank_14 rfl rfl (R_iconst (v := 2) hC dX10_rank_15 (by decide) ?_)
        refine R_icmp_eq hC 26 dX10_rank_16 (by decide) (fun h16 => ?_) (fun h16 => ?_)
        · exact absurd ⟨b2i_0 h7, (by first | exact Or.inl h11 | exact Or.inr (Or.inl h16) | exact Or.inr (Or.inr h21))⟩ h0
        · refine R_iload_n (i := 1) hC dX10_rank_19 rfl rfl (R_iconst (v := 3) hC dX10_rank_20 (by decide) ?_)
          refine R_icmp_eq hC 26 dX10_rank_21 (by decide) (fun h21 => ?_) (fun h21 => ?_)
          · exact absurd ⟨b2i_0 h7, (by first | exact Or.inl h11 | exact Or.inr (Or.inl h16) | exact Or.inr (Or.inr h21))⟩ h0
          · refine R_iconst (v := (-1)) hC dX10_rank_24 (by decide) ?_
            exact R_iret hC hT dX10_rank_25 rfl (by rw [e]; exact CPost.i h (MEq.rf _))
theorem all_lt : ∀ n, n < 7 → 2 ^ n - 1 < 64 ∧ nI (2 ^ n) - 1 = nI (2 ^ n - 1) := by decide +kernel
theorem par2 : ∀ a, a < 6 → ∀ b, b < 6 → ((nI a + nI b) &&& 1 = 0 ↔ (a + b) % 2 = 0) := by decide +kernel
theorem co_adjoint {σ : sg} {x : aW} {α : aS} (h : CInv σ α) (ok : aOK α) (r c : Int32) : Mt mX10_adjoint 4 0 0 [.ref i_U, .int r, .int c] (wd σ x) (CPost σ x (opAdjoint α r c) α) := by
  refine Mt.of MI_X10_adjoint (Nat.le_of_ble_eq_true rfl) (fun X hC hR hT => ?_)
  have r6 := ok.2.2.1.1
  have c6 := ok.2.2.1.2.1
  have no : ¬ (inR (tT α).1 r ∧ inR (tT α).2.1 c ∧ (tT α).1 = (tT α).2.1) → opAdjoint α r c = -1000000 := fun q => by unfold opAdjoint; rw [if_neg q]
  have ceq := nI_eq (a := (tT α).1) (b := (tT α).2.1) (by omega) (by omega)
  by_cases h0 : inR (tT α).1 r ∧ inR (tT α).2.1 c ∧ (tT α).1 = (tT α).2.1
  · have e : opAdjoint α r c = (if (r.toNatClampNeg + c.toNatClampNeg) % 2 = 0 then dD (tT α).2.2 (clr (2 ^ (tT α).1 - 1) c.toNatClampNeg) (clr (2 ^ (tT α).1 - 1) r.toNatClampNeg) else -(dD (tT α).2.2 (clr (2 ^ (tT α).1 - 1) c.toNatClampNeg) (clr (2 ^ (tT α).1 - 1) r.toNatClampNeg))) := by unfold opAdjoint; rw [if_pos h0]
    obtain ⟨i, rfl, hi, hi2⟩ := inR_i h0.1
    obtain ⟨j, rfl, hj, hj2⟩ := inR_i h0.2.1
    rw [nI_clamp hi2, nI_clamp hj2] at e
    have e3 := h0.2.2
    obtain ⟨al, al2⟩ := all_lt (tT α).1 (by omega)
    have bi := all_bit (tT α).1 (by omega) i (by omega) hi
    have bj := all_bit (tT α).1 (by omega) j (by omega) (by omega)
    have l1 := clr_lt _ al i (by omega) bi
    have l2 := clr_lt _ al j (by omega) bj
    have q1 := clr_pc _ al i (by omega) bi
    have q2 := clr_pc _ al j (by omega) bj
    have one1 : 1 ≤ 2 ^ (tT α).1 := Nat.one_le_two_pow
    have ov : ofZ (tT α) (clr (2 ^ (tT α).1 - 1) j) (clr (2 ^ (tT α).1 - 1) i) = dD (tT α).2.2 (clr (2 ^ (tT α).1 - 1) j) (clr (2 ^ (tT α).1 - 1) i) := by unfold ofZ; rw [if_pos (by omega)]
    have pr := par2 i (by omega) j (by omega)
    refine R_aload_n (i := 0) hC dX10_adjoint_0 rfl rfl (R_gR hC dX10_adjoint_1 fl_X10_19 L_U rfl (R_iload_n (i := 1) hC dX10_adjoint_4 rfl rfl (R_iload_n (i := 2) hC dX10_adjoint_5 rfl rfl ?_)))
    refine R_V2i hC hR dX10_adjoint_6 MV_X7_has ml_X10_126 L_table rfl (c_has TL_table h.2.1 _ _) (by first | decide | omega) ⟨by decide, by decide⟩ (Nat.le_of_ble_eq_true rfl) ?_
    refine R_top (y := 1) (b2i_t ⟨h0.1, h0.2.1⟩) ?_
    refine R_if_eq hC 29 dX10_adjoint_9 (by decide) (fun h => absurd h (by decide)) (fun _ => ?_)
    refine R_aload_n (i := 0) hC dX10_adjoint_12 rfl rfl (R_gR hC dX10_adjoint_13 fl_X10_19 L_U rfl (R_gI hC dX10_adjoint_16 fl_X10_170 L_table rfl ?_))
    refine R_top (y := nI (tT α).1) (h.2.1.1) ?_
    refine R_aload_n (i := 0) hC dX10_adjoint_19 rfl rfl (R_gR hC dX10_adjoint_20 fl_X10_19 L_U rfl (R_gI hC dX10_adjoint_23 fl_X10_269 L_table rfl ?_))
    refine R_top (y := nI (tT α).2.1) (h.2.1.2.1) ?_
    refine R_icmp_eq hC 32 dX10_adjoint_26 (by decide) (fun _ => ?_) (fun h => absurd (ceq.mpr e3) h)
    refine R_iconst (v := 1) hC dX10_adjoint_32 (by decide) (R_aload_n (i := 0) hC dX10_adjoint_33 rfl rfl (R_gR hC dX10_adjoint_34 fl_X10_19 L_U rfl (R_gI hC dX10_adjoint_37 fl_X10_170 L_table rfl ?_)))
    refine R_top (y := nI (tT α).1) (h.2.1.1) ?_
    refine R_ishl hC dX10_adjoint_40 ?_
    refine R_top (y := nI (2 ^ (tT α).1)) (shl1 _ r6) ?_
    refine R_iconst (v := 1) hC dX10_adjoint_41 (by decide) (R_isub hC dX10_adjoint_42 ?_)
    refine R_top (y := nI (2 ^ (tT α).1 - 1)) (al2) ?_
    refine R_istore_n (i := 3) hC dX10_adjoint_43 rfl (by decide) rfl (R_aload_n (i := 0) hC dX10_adjoint_44 rfl rfl ?_)
    refine R_V0g hC hR dX10_adjoint_45 MV_X10_knownMinors ml_X10_190 L_U rfl (c_known h ok) (by first | decide | omega) ⟨by decide, by decide⟩ (Nat.le_of_ble_eq_true rfl) (fun r w1 hq => ?_)
    obtain ⟨rfl, τ, rfl, hτ, hk, kd, c1, -⟩ := hq
    refine R_iload_n (i := 3) hC dX10_adjoint_48 rfl rfl (R_iconst (v := 1) hC dX10_adjoint_49 (by decide) (R_iload_n (i := 2) hC dX10_adjoint_50 rfl rfl (R_ishl hC dX10_adjoint_51 ?_)))
    refine R_top (y := nI (2 ^ j)) (shl1 j (by omega)) ?_
    refine R_ixor hC dX10_adjoint_52 ?_
    refine R_top (y := nI (clr (2 ^ (tT α).1 - 1) j)) (xor_clr _ al j (by omega) bj) ?_
    refine R_iload_n (i := 3) hC dX10_adjoint_53 rfl rfl (R_iconst (v := 1) hC dX10_adjoint_54 (by decide) (R_iload_n (i := 1) hC dX10_adjoint_55 rfl rfl (R_ishl hC dX10_adjoint_56 ?_)))
    refine R_top (y := nI (2 ^ i)) (shl1 i (by omega)) ?_
    refine R_ixor hC dX10_adjoint_57 ?_
    refine R_top (y := nI (clr (2 ^ (tT α).1 - 1) i)) (xor_clr _ al i (by omega) bi) ?_
    refine R_V2i hC hR dX10_adjoint_58 MV_X1_of ml_X10_194 L_minors rfl (c_ofZ hk kd r6 c6 (by omega) (by rw [← e3]; omega)) (by first | decide | omega) ⟨by decide, by decide⟩ (Nat.le_of_ble_eq_true rfl) ?_
    refine R_top (y := dD (tT α).2.2 (clr (2 ^ (tT α).1 - 1) j) (clr (2 ^ (tT α).1 - 1) i)) (ov) ?_
    refine R_istore hC dX10_adjoint_61 (by decide) rfl (R_iload_n (i := 1) hC dX10_adjoint_63 rfl rfl (R_iload_n (i := 2) hC dX10_adjoint_64 rfl rfl (R_iadd hC dX10_adjoint_65 (R_iconst (v := 1) hC dX10_adjoint_66 (by decide) (R_iand hC dX10_adjoint_67 ?_)))))
    refine R_if_ne hC 76 dX10_adjoint_68 (by decide) (fun h68 => ?_) (fun h68 => ?_)
    · refine R_iload hC dX10_adjoint_76 rfl (R_ineg hC dX10_adjoint_78 ?_)
      exact R_iret hC hT dX10_adjoint_79 rfl (by rw [e]; first | (rw [if_pos (pr.mp h68)]; exact CPost.i hτ c1) | (rw [if_neg (fun z => h68 (pr.mpr z))]; exact CPost.i hτ c1))
    · refine R_iload hC dX10_adjoint_71 rfl (R_goto hC 79 dX10_adjoint_73 (by decide) ?_)
      exact R_iret hC hT dX10_adjoint_79 rfl (by rw [e]; first | (rw [if_pos (pr.mp h68)]; exact CPost.i hτ c1) | (rw [if_neg (fun z => h68 (pr.mpr z))]; exact CPost.i hτ c1))
  · refine R_aload_n (i := 0) hC dX10_adjoint_0 rfl rfl (R_gR hC dX10_adjoint_1 fl_X10_19 L_U rfl (R_iload_n (i := 1) hC dX10_adjoint_4 rfl rfl (R_iload_n (i := 2) hC dX10_adjoint_5 rfl rfl ?_)))
    refine R_V2i hC hR dX10_adjoint_6 MV_X7_has ml_X10_126 L_table rfl (c_has TL_table h.2.1 _ _) (by first | decide | omega) ⟨by decide, by decide⟩ (Nat.le_of_ble_eq_true rfl) ?_
    refine R_if_eq hC 29 dX10_adjoint_9 (by decide) (fun h9 => ?_) (fun h9 => ?_)
    · refine R_ldc hC dX10_adjoint_29 kc_X10_145 ?_
      exact R_iret hC hT dX10_adjoint_31 rfl (by rw [no h0]; exact CPost.i h (MEq.rf _))
    · refine R_aload_n (i := 0) hC dX10_adjoint_12 rfl rfl (R_gR hC dX10_adjoint_13 fl_X10_19 L_U rfl (R_gI hC dX10_adjoint_16 fl_X10_170 L_table rfl ?_))
      refine R_top (y := nI (tT α).1) (h.2.1.1) ?_
      refine R_aload_n (i := 0) hC dX10_adjoint_19 rfl rfl (R_gR hC dX10_adjoint_20 fl_X10_19 L_U rfl (R_gI hC dX10_adjoint_23 fl_X10_269 L_table rfl ?_))
      refine R_top (y := nI (tT α).2.1) (h.2.1.2.1) ?_
      refine R_icmp_eq hC 32 dX10_adjoint_26 (by decide) (fun h26 => ?_) (fun h26 => ?_)
      · exact absurd ⟨(b2i_ne h9).1, (b2i_ne h9).2, ceq.mp h26⟩ h0
      · refine R_ldc hC dX10_adjoint_29 kc_X10_145 ?_
        exact R_iret hC hT dX10_adjoint_31 rfl (by rw [no h0]; exact CPost.i h (MEq.rf _))
theorem co_witness {σ : sg} {x : aW} {α : aS} (h : CInv σ α) (ok : aOK α) (w : Int32) : Mt mX10_witness 4 0 0 [.ref i_U, .int w] (wd σ x) (CPost σ x (opWitness α w) α) := by
  refine Mt.of MI_X10_witness (Nat.le_of_ble_eq_true rfl) (fun X hC hR hT => ?_)
  have r6 := ok.2.2.1.1
  have c6 := ok.2.2.1.2.1
  have p1 := pw6 r6
  have p2 := pw6 c6
  by_cases h0 : (tT α).1 = 0
  · have e : opWitness α w = -1000000 := by unfold opWitness; rw [if_neg (fun z => z.1 h0)]
    refine R_aload_n (i := 0) hC dX10_witness_0 rfl rfl (R_gR hC dX10_witness_1 fl_X10_19 L_U rfl ?_)
    refine R_V0i hC hR dX10_witness_4 MV_X7_isNone ml_X10_152 L_table rfl (c_isNone TL_table h.2.1) (by first | decide | omega) ⟨by decide, by decide⟩ (Nat.le_of_ble_eq_true rfl) ?_
    refine R_top (y := 1) (b2i_t h0) ?_
    refine R_if_ne hC 20 dX10_witness_7 (by decide) (fun _ => ?_) (fun h => absurd h (by decide))
    refine R_ldc hC dX10_witness_20 kc_X10_145 ?_
    exact R_iret hC hT dX10_witness_22 rfl (by rw [e]; exact CPost.i h (MEq.rf _))
  · refine R_aload_n (i := 0) hC dX10_witness_0 rfl rfl (R_gR hC dX10_witness_1 fl_X10_19 L_U rfl ?_)
    refine R_V0i hC hR dX10_witness_4 MV_X7_isNone ml_X10_152 L_table rfl (c_isNone TL_table h.2.1) (by first | decide | omega) ⟨by decide, by decide⟩ (Nat.le_of_ble_eq_true rfl) ?_
    refine R_top (y := 0) (b2i_f h0) ?_
    refine R_if_ne hC 20 dX10_witness_7 (by decide) (fun h => absurd rfl h) (fun _ => ?_)
    refine R_aload_n (i := 0) hC dX10_witness_10 rfl rfl ?_
    refine R_V0g hC hR dX10_witness_11 MV_X10_knownMinors ml_X10_190 L_U rfl (c_known h ok) (by first | decide | omega) ⟨by decide, by decide⟩ (Nat.le_of_ble_eq_true rfl) (fun r w1 hq => ?_)
    obtain ⟨rfl, τ, rfl, hτ, hk, kd, c1, -⟩ := hq
    refine R_V0i hC hR dX10_witness_14 MV_X1_allWithin ml_X10_200 L_minors rfl (c_allWithin r6 hk) (by first | decide | omega) ⟨by decide, by decide⟩ (Nat.le_of_ble_eq_true rfl) ?_
    skip
    by_cases ht : tot (tT α)
    · have e : opWitness α w = -1000000 := opWitness_n (fun R C y => y.2 (ht R C y.1))
      refine R_top (y := 1) (b2i_t ht) ?_
      refine R_if_eq hC 23 dX10_witness_17 (by decide) (fun h => absurd h (by decide)) (fun _ => ?_)
      refine R_ldc hC dX10_witness_20 kc_X10_145 ?_
      exact R_iret hC hT dX10_witness_22 rfl (by rw [e]; exact CPost.i hτ c1)
    · obtain ⟨p, q1, q2, q3⟩ := hk.2.2.2.resolve_left (fun z => ht z.1)
      have pr1 := q1.1.1.2.1
      have pr2 := q1.1.1.2.2.2.1
      have go : Rw mX10_witness X 23 [some (.ref i_U), some (.int w)] [] (wd τ x) 0 0 := by
        by_cases hw : 0 ≤ w.toInt ∧ w.toInt ≤ 3
        · have e := opWitness_y (w := w) ⟨h0, hw.1, hw.2⟩ q1
          obtain ⟨n, rfl, hn, hn2⟩ := i32_nI hw.1
          rcases (by omega : n = 0 ∨ n = 1 ∨ n = 2 ∨ n = 3) with rfl | rfl | rfl | rfl
          · refine R_iload_n (i := 1) hC dX10_witness_23 rfl rfl ?_
            refine R_tableIn hC 56 dX10_witness_24 (by decide) (by decide) rfl (by decide) ?_
            refine R_aload_n (i := 0) hC dX10_witness_56 rfl rfl (R_gR hC dX10_witness_57 fl_X10_56 L_U rfl (R_gI hC dX10_witness_60 fl_X10_203 L_minors rfl ?_))
            refine R_top (y := nI p.1) (q2) ?_
            refine R_S1i hC hR dX10_witness_63 MS_J6_bitCount_0f7a4 ml_X10_185 (c_bit p.1 (by omega) _) (by first | decide | omega) ⟨by decide, by decide⟩ (Nat.le_of_ble_eq_true rfl) ?_
            exact R_iret hC hT dX10_witness_66 rfl (by rw [e]; exact CPost.i hτ c1)
          · refine R_iload_n (i := 1) hC dX10_witness_23 rfl rfl ?_
            refine R_tableIn hC 67 dX10_witness_24 (by decide) (by decide) rfl (by decide) ?_
            refine R_aload_n (i := 0) hC dX10_witness_67 rfl rfl (R_gR hC dX10_witness_68 fl_X10_56 L_U rfl (R_gI hC dX10_witness_71 fl_X10_203 L_minors rfl ?_))
            exact R_iret hC hT dX10_witness_74 rfl (by rw [e, q2]; exact CPost.i hτ c1)
          · refine R_iload_n (i := 1) hC dX10_witness_23 rfl rfl ?_
            refine R_tableIn hC 75 dX10_witness_24 (by decide) (by decide) rfl (by decide) ?_
            refine R_aload_n (i := 0) hC dX10_witness_75 rfl rfl (R_gR hC dX10_witness_76 fl_X10_56 L_U rfl (R_gI hC dX10_witness_79 fl_X10_206 L_minors rfl ?_))
            exact R_iret hC hT dX10_witness_82 rfl (by rw [e, q3]; exact CPost.i hτ c1)
          · refine R_iload_n (i := 1) hC dX10_witness_23 rfl rfl ?_
            refine R_tableIn hC 83 dX10_witness_24 (by decide) (by decide) rfl (by decide) ?_
            refine R_aload_n (i := 0) hC dX10_witness_83 rfl rfl (R_gR hC dX10_witness_84 fl_X10_56 L_U rfl (R_aload_n (i := 0) hC dX10_witness_87 rfl rfl (R_gR hC dX10_witness_88 fl_X10_56 L_U rfl (R_gI hC dX10_witness_91 fl_X10_203 L_minors rfl ?_))))
            refine R_top (y := nI p.1) (q2) ?_
            refine R_aload_n (i := 0) hC dX10_witness_94 rfl rfl (R_gR hC dX10_witness_95 fl_X10_56 L_U rfl (R_gI hC dX10_witness_98 fl_X10_206 L_minors rfl ?_))
            refine R_top (y := nI p.2) (q3) ?_
            refine R_V2i hC hR dX10_witness_101 MV_X1_of ml_X10_194 L_minors rfl (c_ofZ hk kd r6 c6 pr1 pr2) (by first | decide | omega) ⟨by decide, by decide⟩ (Nat.le_of_ble_eq_true rfl) ?_
            exact R_iret hC hT dX10_witness_104 rfl (by rw [e]; unfold ofZ; rw [if_pos q1.1.1.2.2.2.2]; exact CPost.i hτ c1)
        · have e : opWitness α w = -1000000 := by unfold opWitness; rw [if_neg (fun z => hw z.2)]
          refine R_iload_n (i := 1) hC dX10_witness_23 rfl rfl ?_
          refine R_tableOut hC 105 dX10_witness_24 (by omega) (by decide) ?_
          refine R_ldc hC dX10_witness_105 kc_X10_145 ?_
          exact R_iret hC hT dX10_witness_107 rfl (by rw [e]; exact CPost.i hτ c1)
      refine R_top (y := 0) (b2i_f ht) ?_
      refine R_if_eq hC 23 dX10_witness_17 (by decide) (fun _ => ?_) (fun h => absurd rfl h)
      exact go
