/-! ===== the class's step, perform, draws ===== -/
theorem dX10_step_0 : decode cX10_step 0 = .ok (.aload_n 0, 1) := by decide +kernel
theorem dX10_step_1 : decode cX10_step 1 = .ok (.iload_n 1, 1) := by decide +kernel
theorem dX10_step_2 : decode cX10_step 2 = .ok (.invokevirtual 285, 3) := by decide +kernel
theorem dX10_step_5 : decode cX10_step 5 = .ok (.ifCond .eq 17, 3) := by decide +kernel
theorem dX10_step_8 : decode cX10_step 8 = .ok (.aload_n 0, 1) := by decide +kernel
theorem dX10_step_9 : decode cX10_step 9 = .ok (.getfield 42, 3) := by decide +kernel
theorem dX10_step_12 : decode cX10_step 12 = .ok (.iload_n 1, 1) := by decide +kernel
theorem dX10_step_13 : decode cX10_step 13 = .ok (.aaload, 1) := by decide +kernel
theorem dX10_step_14 : decode cX10_step 14 = .ok (.iload_n 2, 1) := by decide +kernel
theorem dX10_step_15 : decode cX10_step 15 = .ok (.iload_n 3, 1) := by decide +kernel
theorem dX10_step_16 : decode cX10_step 16 = .ok (.invokevirtual 288, 3) := by decide +kernel
theorem dX10_step_19 : decode cX10_step 19 = .ok (.goto 5, 3) := by decide +kernel
theorem dX10_step_22 : decode cX10_step 22 = .ok (.ldc 145, 2) := by decide +kernel
theorem dX10_step_24 : decode cX10_step 24 = .ok (.ireturn, 1) := by decide +kernel
theorem dX4_tell_0 : decode cX4_tell 0 = .ok (.iload_n 1, 1) := by decide +kernel
theorem dX4_tell_1 : decode cX4_tell 1 = .ok (.ifCond .lt 11, 3) := by decide +kernel
theorem dX4_tell_4 : decode cX4_tell 4 = .ok (.iload_n 1, 1) := by decide +kernel
theorem dX4_tell_5 : decode cX4_tell 5 = .ok (.aload_n 0, 1) := by decide +kernel
theorem dX4_tell_6 : decode cX4_tell 6 = .ok (.getfield 24, 3) := by decide +kernel
theorem dX4_tell_9 : decode cX4_tell 9 = .ok (.if_icmp .lt 6, 3) := by decide +kernel
theorem dX4_tell_12 : decode cX4_tell 12 = .ok (.ldc 58, 2) := by decide +kernel
theorem dX4_tell_14 : decode cX4_tell 14 = .ok (.ireturn, 1) := by decide +kernel
theorem dX4_tell_15 : decode cX4_tell 15 = .ok (.iload_n 2, 1) := by decide +kernel
theorem dX4_tell_16 : decode cX4_tell 16 = .ok (.tableswitch 60 0 3 #[32, 39, 46, 53], 32) := by decide +kernel
theorem dX4_tell_48 : decode cX4_tell 48 = .ok (.aload_n 0, 1) := by decide +kernel
theorem dX4_tell_49 : decode cX4_tell 49 = .ok (.getfield 9, 3) := by decide +kernel
theorem dX4_tell_52 : decode cX4_tell 52 = .ok (.iload_n 1, 1) := by decide +kernel
theorem dX4_tell_53 : decode cX4_tell 53 = .ok (.iaload, 1) := by decide +kernel
theorem dX4_tell_54 : decode cX4_tell 54 = .ok (.ireturn, 1) := by decide +kernel
theorem dX4_tell_55 : decode cX4_tell 55 = .ok (.aload_n 0, 1) := by decide +kernel
theorem dX4_tell_56 : decode cX4_tell 56 = .ok (.getfield 15, 3) := by decide +kernel
theorem dX4_tell_59 : decode cX4_tell 59 = .ok (.iload_n 1, 1) := by decide +kernel
theorem dX4_tell_60 : decode cX4_tell 60 = .ok (.iaload, 1) := by decide +kernel
theorem dX4_tell_61 : decode cX4_tell 61 = .ok (.ireturn, 1) := by decide +kernel
theorem dX4_tell_62 : decode cX4_tell 62 = .ok (.aload_n 0, 1) := by decide +kernel
theorem dX4_tell_63 : decode cX4_tell 63 = .ok (.getfield 18, 3) := by decide +kernel
theorem dX4_tell_66 : decode cX4_tell 66 = .ok (.iload_n 1, 1) := by decide +kernel
theorem dX4_tell_67 : decode cX4_tell 67 = .ok (.iaload, 1) := by decide +kernel
theorem dX4_tell_68 : decode cX4_tell 68 = .ok (.ireturn, 1) := by decide +kernel
theorem dX4_tell_69 : decode cX4_tell 69 = .ok (.aload_n 0, 1) := by decide +kernel
theorem dX4_tell_70 : decode cX4_tell 70 = .ok (.getfield 21, 3) := by decide +kernel
theorem dX4_tell_73 : decode cX4_tell 73 = .ok (.iload_n 1, 1) := by decide +kernel
theorem dX4_tell_74 : decode cX4_tell 74 = .ok (.iaload, 1) := by decide +kernel
theorem dX4_tell_75 : decode cX4_tell 75 = .ok (.ireturn, 1) := by decide +kernel
theorem dX4_tell_76 : decode cX4_tell 76 = .ok (.ldc 58, 2) := by decide +kernel
theorem dX4_tell_78 : decode cX4_tell 78 = .ok (.ireturn, 1) := by decide +kernel
theorem dX10_perform_0 : decode cX10_perform 0 = .ok (.aload_n 0, 1) := by decide +kernel
theorem dX10_perform_1 : decode cX10_perform 1 = .ok (.getfield 19, 3) := by decide +kernel
theorem dX10_perform_4 : decode cX10_perform 4 = .ok (.invokevirtual 152, 3) := by decide +kernel
theorem dX10_perform_7 : decode cX10_perform 7 = .ok (.ifCond .ne 11, 3) := by decide +kernel
theorem dX10_perform_10 : decode cX10_perform 10 = .ok (.aload_n 0, 1) := by decide +kernel
theorem dX10_perform_11 : decode cX10_perform 11 = .ok (.iload_n 1, 1) := by decide +kernel
theorem dX10_perform_12 : decode cX10_perform 12 = .ok (.invokevirtual 285, 3) := by decide +kernel
theorem dX10_perform_15 : decode cX10_perform 15 = .ok (.ifCond .ne 5, 3) := by decide +kernel
theorem dX10_perform_18 : decode cX10_perform 18 = .ok (.iconst (-1), 1) := by decide +kernel
theorem dX10_perform_19 : decode cX10_perform 19 = .ok (.ireturn, 1) := by decide +kernel
theorem dX10_perform_20 : decode cX10_perform 20 = .ok (.aload_n 0, 1) := by decide +kernel
theorem dX10_perform_21 : decode cX10_perform 21 = .ok (.getfield 42, 3) := by decide +kernel
theorem dX10_perform_24 : decode cX10_perform 24 = .ok (.iload_n 1, 1) := by decide +kernel
theorem dX10_perform_25 : decode cX10_perform 25 = .ok (.aaload, 1) := by decide +kernel
theorem dX10_perform_26 : decode cX10_perform 26 = .ok (.astore_n 2, 1) := by decide +kernel
theorem dX10_perform_27 : decode cX10_perform 27 = .ok (.iconst 0, 1) := by decide +kernel
theorem dX10_perform_28 : decode cX10_perform 28 = .ok (.istore_n 3, 1) := by decide +kernel
theorem dX10_perform_29 : decode cX10_perform 29 = .ok (.iload_n 3, 1) := by decide +kernel
theorem dX10_perform_30 : decode cX10_perform 30 = .ok (.aload_n 2, 1) := by decide +kernel
theorem dX10_perform_31 : decode cX10_perform 31 = .ok (.getfield 291, 3) := by decide +kernel
theorem dX10_perform_34 : decode cX10_perform 34 = .ok (.if_icmp .ge 41, 3) := by decide +kernel
theorem dX10_perform_37 : decode cX10_perform 37 = .ok (.aload_n 0, 1) := by decide +kernel
theorem dX10_perform_38 : decode cX10_perform 38 = .ok (.aload_n 2, 1) := by decide +kernel
theorem dX10_perform_39 : decode cX10_perform 39 = .ok (.getfield 292, 3) := by decide +kernel
theorem dX10_perform_42 : decode cX10_perform 42 = .ok (.iload_n 3, 1) := by decide +kernel
theorem dX10_perform_43 : decode cX10_perform 43 = .ok (.iaload, 1) := by decide +kernel
theorem dX10_perform_44 : decode cX10_perform 44 = .ok (.aload_n 2, 1) := by decide +kernel
theorem dX10_perform_45 : decode cX10_perform 45 = .ok (.getfield 295, 3) := by decide +kernel
theorem dX10_perform_48 : decode cX10_perform 48 = .ok (.iload_n 3, 1) := by decide +kernel
theorem dX10_perform_49 : decode cX10_perform 49 = .ok (.iaload, 1) := by decide +kernel
theorem dX10_perform_50 : decode cX10_perform 50 = .ok (.aload_n 2, 1) := by decide +kernel
theorem dX10_perform_51 : decode cX10_perform 51 = .ok (.getfield 298, 3) := by decide +kernel
theorem dX10_perform_54 : decode cX10_perform 54 = .ok (.iload_n 3, 1) := by decide +kernel
theorem dX10_perform_55 : decode cX10_perform 55 = .ok (.iaload, 1) := by decide +kernel
theorem dX10_perform_56 : decode cX10_perform 56 = .ok (.aload_n 2, 1) := by decide +kernel
theorem dX10_perform_57 : decode cX10_perform 57 = .ok (.getfield 301, 3) := by decide +kernel
theorem dX10_perform_60 : decode cX10_perform 60 = .ok (.iload_n 3, 1) := by decide +kernel
theorem dX10_perform_61 : decode cX10_perform 61 = .ok (.iaload, 1) := by decide +kernel
theorem dX10_perform_62 : decode cX10_perform 62 = .ok (.invokevirtual 137, 3) := by decide +kernel
theorem dX10_perform_65 : decode cX10_perform 65 = .ok (.iconst (-1), 1) := by decide +kernel
theorem dX10_perform_66 : decode cX10_perform 66 = .ok (.if_icmp .ne 9, 3) := by decide +kernel
theorem dX10_perform_69 : decode cX10_perform 69 = .ok (.iinc 3 1, 3) := by decide +kernel
theorem dX10_perform_72 : decode cX10_perform 72 = .ok (.goto (-43), 3) := by decide +kernel
theorem dX10_perform_75 : decode cX10_perform 75 = .ok (.iload_n 3, 1) := by decide +kernel
theorem dX10_perform_76 : decode cX10_perform 76 = .ok (.ireturn, 1) := by decide +kernel
theorem dX10_draws_0 : decode cX10_draws 0 = .ok (.aload_n 0, 1) := by decide +kernel
theorem dX10_draws_1 : decode cX10_draws 1 = .ok (.getfield 19, 3) := by decide +kernel
theorem dX10_draws_4 : decode cX10_draws 4 = .ok (.invokevirtual 152, 3) := by decide +kernel
theorem dX10_draws_7 : decode cX10_draws 7 = .ok (.ifCond .ne 14, 3) := by decide +kernel
theorem dX10_draws_10 : decode cX10_draws 10 = .ok (.iload_n 1, 1) := by decide +kernel
theorem dX10_draws_11 : decode cX10_draws 11 = .ok (.iconst 1, 1) := by decide +kernel
theorem dX10_draws_12 : decode cX10_draws 12 = .ok (.if_icmp .lt 9, 3) := by decide +kernel
theorem dX10_draws_15 : decode cX10_draws 15 = .ok (.iload_n 1, 1) := by decide +kernel
theorem dX10_draws_16 : decode cX10_draws 16 = .ok (.bipush 30, 2) := by decide +kernel
theorem dX10_draws_18 : decode cX10_draws 18 = .ok (.if_icmp .le 5, 3) := by decide +kernel
theorem dX10_draws_21 : decode cX10_draws 21 = .ok (.iconst (-1), 1) := by decide +kernel
theorem dX10_draws_22 : decode cX10_draws 22 = .ok (.ireturn, 1) := by decide +kernel
theorem dX10_draws_23 : decode cX10_draws 23 = .ok (.aload_n 0, 1) := by decide +kernel
theorem dX10_draws_24 : decode cX10_draws 24 = .ok (.getfield 94, 3) := by decide +kernel
theorem dX10_draws_27 : decode cX10_draws 27 = .ok (.lload_n 2, 1) := by decide +kernel
theorem dX10_draws_28 : decode cX10_draws 28 = .ok (.putfield 307, 3) := by decide +kernel
theorem dX10_draws_31 : decode cX10_draws 31 = .ok (.iconst 0, 1) := by decide +kernel
theorem dX10_draws_32 : decode cX10_draws 32 = .ok (.istore 4, 2) := by decide +kernel
theorem dX10_draws_34 : decode cX10_draws 34 = .ok (.iconst 0, 1) := by decide +kernel
theorem dX10_draws_35 : decode cX10_draws 35 = .ok (.istore 5, 2) := by decide +kernel
theorem dX10_draws_37 : decode cX10_draws 37 = .ok (.iload 5, 2) := by decide +kernel
theorem dX10_draws_39 : decode cX10_draws 39 = .ok (.iload_n 1, 1) := by decide +kernel
theorem dX10_draws_40 : decode cX10_draws 40 = .ok (.if_icmp .ge 20, 3) := by decide +kernel
theorem dX10_draws_43 : decode cX10_draws 43 = .ok (.aload_n 0, 1) := by decide +kernel
theorem dX10_draws_44 : decode cX10_draws 44 = .ok (.invokevirtual 311, 3) := by decide +kernel
theorem dX10_draws_47 : decode cX10_draws 47 = .ok (.iconst (-1), 1) := by decide +kernel
theorem dX10_draws_48 : decode cX10_draws 48 = .ok (.if_icmp .ne 6, 3) := by decide +kernel
theorem dX10_draws_51 : decode cX10_draws 51 = .ok (.iinc 4 1, 3) := by decide +kernel
theorem dX10_draws_54 : decode cX10_draws 54 = .ok (.iinc 5 1, 3) := by decide +kernel
theorem dX10_draws_57 : decode cX10_draws 57 = .ok (.goto (-20), 3) := by decide +kernel
theorem dX10_draws_60 : decode cX10_draws 60 = .ok (.iload 4, 2) := by decide +kernel
theorem dX10_draws_62 : decode cX10_draws 62 = .ok (.ireturn, 1) := by decide +kernel
theorem dX0_draw_0 : decode cX0_draw 0 = .ok (.aload_n 0, 1) := by decide +kernel
theorem dX0_draw_1 : decode cX0_draw 1 = .ok (.aload_n 0, 1) := by decide +kernel
theorem dX0_draw_2 : decode cX0_draw 2 = .ok (.getfield 7, 3) := by decide +kernel
theorem dX0_draw_5 : decode cX0_draw 5 = .ok (.ldc2_w 13, 3) := by decide +kernel
theorem dX0_draw_8 : decode cX0_draw 8 = .ok (.lmul, 1) := by decide +kernel
theorem dX0_draw_9 : decode cX0_draw 9 = .ok (.ldc2_w 15, 3) := by decide +kernel
theorem dX0_draw_12 : decode cX0_draw 12 = .ok (.ladd, 1) := by decide +kernel
theorem dX0_draw_13 : decode cX0_draw 13 = .ok (.putfield 7, 3) := by decide +kernel
theorem dX0_draw_16 : decode cX0_draw 16 = .ok (.iload_n 1, 1) := by decide +kernel
theorem dX0_draw_17 : decode cX0_draw 17 = .ok (.ifCond .le 17, 3) := by decide +kernel
theorem dX0_draw_20 : decode cX0_draw 20 = .ok (.aload_n 0, 1) := by decide +kernel
theorem dX0_draw_21 : decode cX0_draw 21 = .ok (.getfield 7, 3) := by decide +kernel
theorem dX0_draw_24 : decode cX0_draw 24 = .ok (.bipush 33, 2) := by decide +kernel
theorem dX0_draw_26 : decode cX0_draw 26 = .ok (.lushr, 1) := by decide +kernel
theorem dX0_draw_27 : decode cX0_draw 27 = .ok (.iload_n 1, 1) := by decide +kernel
theorem dX0_draw_28 : decode cX0_draw 28 = .ok (.i2l, 1) := by decide +kernel
theorem dX0_draw_29 : decode cX0_draw 29 = .ok (.lrem, 1) := by decide +kernel
theorem dX0_draw_30 : decode cX0_draw 30 = .ok (.l2i, 1) := by decide +kernel
theorem dX0_draw_31 : decode cX0_draw 31 = .ok (.goto 4, 3) := by decide +kernel
theorem dX0_draw_34 : decode cX0_draw 34 = .ok (.iconst 0, 1) := by decide +kernel
theorem dX0_draw_35 : decode cX0_draw 35 = .ok (.ireturn, 1) := by decide +kernel
theorem dX10_attemptDraw_0 : decode cX10_attemptDraw 0 = .ok (.aload_n 0, 1) := by decide +kernel
theorem dX10_attemptDraw_1 : decode cX10_attemptDraw 1 = .ok (.getfield 19, 3) := by decide +kernel
theorem dX10_attemptDraw_4 : decode cX10_attemptDraw 4 = .ok (.getfield 170, 3) := by decide +kernel
theorem dX10_attemptDraw_7 : decode cX10_attemptDraw 7 = .ok (.istore_n 1, 1) := by decide +kernel
theorem dX10_attemptDraw_8 : decode cX10_attemptDraw 8 = .ok (.aload_n 0, 1) := by decide +kernel
theorem dX10_attemptDraw_9 : decode cX10_attemptDraw 9 = .ok (.getfield 19, 3) := by decide +kernel
theorem dX10_attemptDraw_12 : decode cX10_attemptDraw 12 = .ok (.getfield 269, 3) := by decide +kernel
theorem dX10_attemptDraw_15 : decode cX10_attemptDraw 15 = .ok (.istore_n 2, 1) := by decide +kernel
theorem dX10_attemptDraw_16 : decode cX10_attemptDraw 16 = .ok (.aload_n 0, 1) := by decide +kernel
theorem dX10_attemptDraw_17 : decode cX10_attemptDraw 17 = .ok (.getfield 94, 3) := by decide +kernel
theorem dX10_attemptDraw_20 : decode cX10_attemptDraw 20 = .ok (.bipush 6, 2) := by decide +kernel
theorem dX10_attemptDraw_22 : decode cX10_attemptDraw 22 = .ok (.invokevirtual 333, 3) := by decide +kernel
theorem dX10_attemptDraw_25 : decode cX10_attemptDraw 25 = .ok (.tableswitch 136 0 4 #[35, 51, 67, 90, 113], 35) := by decide +kernel
theorem dX10_attemptDraw_60 : decode cX10_attemptDraw 60 = .ok (.aload_n 0, 1) := by decide +kernel
theorem dX10_attemptDraw_61 : decode cX10_attemptDraw 61 = .ok (.iconst 0, 1) := by decide +kernel
theorem dX10_attemptDraw_62 : decode cX10_attemptDraw 62 = .ok (.aload_n 0, 1) := by decide +kernel
theorem dX10_attemptDraw_63 : decode cX10_attemptDraw 63 = .ok (.getfield 94, 3) := by decide +kernel
theorem dX10_attemptDraw_66 : decode cX10_attemptDraw 66 = .ok (.iload_n 1, 1) := by decide +kernel
theorem dX10_attemptDraw_67 : decode cX10_attemptDraw 67 = .ok (.invokevirtual 333, 3) := by decide +kernel
theorem dX10_attemptDraw_70 : decode cX10_attemptDraw 70 = .ok (.iconst 0, 1) := by decide +kernel
theorem dX10_attemptDraw_71 : decode cX10_attemptDraw 71 = .ok (.iconst 0, 1) := by decide +kernel
theorem dX10_attemptDraw_72 : decode cX10_attemptDraw 72 = .ok (.invokevirtual 137, 3) := by decide +kernel
theorem dX10_attemptDraw_75 : decode cX10_attemptDraw 75 = .ok (.ireturn, 1) := by decide +kernel
theorem dX10_attemptDraw_76 : decode cX10_attemptDraw 76 = .ok (.aload_n 0, 1) := by decide +kernel
theorem dX10_attemptDraw_77 : decode cX10_attemptDraw 77 = .ok (.iconst 1, 1) := by decide +kernel
theorem dX10_attemptDraw_78 : decode cX10_attemptDraw 78 = .ok (.aload_n 0, 1) := by decide +kernel
theorem dX10_attemptDraw_79 : decode cX10_attemptDraw 79 = .ok (.getfield 94, 3) := by decide +kernel
theorem dX10_attemptDraw_82 : decode cX10_attemptDraw 82 = .ok (.iload_n 2, 1) := by decide +kernel
theorem dX10_attemptDraw_83 : decode cX10_attemptDraw 83 = .ok (.invokevirtual 333, 3) := by decide +kernel
theorem dX10_attemptDraw_86 : decode cX10_attemptDraw 86 = .ok (.iconst 0, 1) := by decide +kernel
theorem dX10_attemptDraw_87 : decode cX10_attemptDraw 87 = .ok (.iconst 0, 1) := by decide +kernel
theorem dX10_attemptDraw_88 : decode cX10_attemptDraw 88 = .ok (.invokevirtual 137, 3) := by decide +kernel
theorem dX10_attemptDraw_91 : decode cX10_attemptDraw 91 = .ok (.ireturn, 1) := by decide +kernel
theorem dX10_attemptDraw_92 : decode cX10_attemptDraw 92 = .ok (.aload_n 0, 1) := by decide +kernel
theorem dX10_attemptDraw_93 : decode cX10_attemptDraw 93 = .ok (.iconst 2, 1) := by decide +kernel
theorem dX10_attemptDraw_94 : decode cX10_attemptDraw 94 = .ok (.aload_n 0, 1) := by decide +kernel
theorem dX10_attemptDraw_95 : decode cX10_attemptDraw 95 = .ok (.getfield 94, 3) := by decide +kernel
theorem dX10_attemptDraw_98 : decode cX10_attemptDraw 98 = .ok (.iload_n 1, 1) := by decide +kernel
theorem dX10_attemptDraw_99 : decode cX10_attemptDraw 99 = .ok (.invokevirtual 333, 3) := by decide +kernel
theorem dX10_attemptDraw_102 : decode cX10_attemptDraw 102 = .ok (.aload_n 0, 1) := by decide +kernel
theorem dX10_attemptDraw_103 : decode cX10_attemptDraw 103 = .ok (.getfield 94, 3) := by decide +kernel
theorem dX10_attemptDraw_106 : decode cX10_attemptDraw 106 = .ok (.iload_n 1, 1) := by decide +kernel
theorem dX10_attemptDraw_107 : decode cX10_attemptDraw 107 = .ok (.invokevirtual 333, 3) := by decide +kernel
theorem dX10_attemptDraw_110 : decode cX10_attemptDraw 110 = .ok (.iconst 0, 1) := by decide +kernel
theorem dX10_attemptDraw_111 : decode cX10_attemptDraw 111 = .ok (.invokevirtual 137, 3) := by decide +kernel
theorem dX10_attemptDraw_114 : decode cX10_attemptDraw 114 = .ok (.ireturn, 1) := by decide +kernel
theorem dX10_attemptDraw_115 : decode cX10_attemptDraw 115 = .ok (.aload_n 0, 1) := by decide +kernel
theorem dX10_attemptDraw_116 : decode cX10_attemptDraw 116 = .ok (.iconst 3, 1) := by decide +kernel
theorem dX10_attemptDraw_117 : decode cX10_attemptDraw 117 = .ok (.aload_n 0, 1) := by decide +kernel
theorem dX10_attemptDraw_118 : decode cX10_attemptDraw 118 = .ok (.getfield 94, 3) := by decide +kernel
theorem dX10_attemptDraw_121 : decode cX10_attemptDraw 121 = .ok (.iload_n 2, 1) := by decide +kernel
theorem dX10_attemptDraw_122 : decode cX10_attemptDraw 122 = .ok (.invokevirtual 333, 3) := by decide +kernel
theorem dX10_attemptDraw_125 : decode cX10_attemptDraw 125 = .ok (.aload_n 0, 1) := by decide +kernel
theorem dX10_attemptDraw_126 : decode cX10_attemptDraw 126 = .ok (.getfield 94, 3) := by decide +kernel
theorem dX10_attemptDraw_129 : decode cX10_attemptDraw 129 = .ok (.iload_n 2, 1) := by decide +kernel
theorem dX10_attemptDraw_130 : decode cX10_attemptDraw 130 = .ok (.invokevirtual 333, 3) := by decide +kernel
theorem dX10_attemptDraw_133 : decode cX10_attemptDraw 133 = .ok (.iconst 0, 1) := by decide +kernel
theorem dX10_attemptDraw_134 : decode cX10_attemptDraw 134 = .ok (.invokevirtual 137, 3) := by decide +kernel
theorem dX10_attemptDraw_137 : decode cX10_attemptDraw 137 = .ok (.ireturn, 1) := by decide +kernel
theorem dX10_attemptDraw_138 : decode cX10_attemptDraw 138 = .ok (.aload_n 0, 1) := by decide +kernel
theorem dX10_attemptDraw_139 : decode cX10_attemptDraw 139 = .ok (.iconst 4, 1) := by decide +kernel
theorem dX10_attemptDraw_140 : decode cX10_attemptDraw 140 = .ok (.aload_n 0, 1) := by decide +kernel
theorem dX10_attemptDraw_141 : decode cX10_attemptDraw 141 = .ok (.getfield 94, 3) := by decide +kernel
theorem dX10_attemptDraw_144 : decode cX10_attemptDraw 144 = .ok (.iload_n 1, 1) := by decide +kernel
theorem dX10_attemptDraw_145 : decode cX10_attemptDraw 145 = .ok (.invokevirtual 333, 3) := by decide +kernel
theorem dX10_attemptDraw_148 : decode cX10_attemptDraw 148 = .ok (.aload_n 0, 1) := by decide +kernel
theorem dX10_attemptDraw_149 : decode cX10_attemptDraw 149 = .ok (.getfield 94, 3) := by decide +kernel
theorem dX10_attemptDraw_152 : decode cX10_attemptDraw 152 = .ok (.iload_n 2, 1) := by decide +kernel
theorem dX10_attemptDraw_153 : decode cX10_attemptDraw 153 = .ok (.invokevirtual 333, 3) := by decide +kernel
theorem dX10_attemptDraw_156 : decode cX10_attemptDraw 156 = .ok (.iconst 0, 1) := by decide +kernel
theorem dX10_attemptDraw_157 : decode cX10_attemptDraw 157 = .ok (.invokevirtual 137, 3) := by decide +kernel
theorem dX10_attemptDraw_160 : decode cX10_attemptDraw 160 = .ok (.ireturn, 1) := by decide +kernel
theorem dX10_attemptDraw_161 : decode cX10_attemptDraw 161 = .ok (.aload_n 0, 1) := by decide +kernel
theorem dX10_attemptDraw_162 : decode cX10_attemptDraw 162 = .ok (.bipush 6, 2) := by decide +kernel
theorem dX10_attemptDraw_164 : decode cX10_attemptDraw 164 = .ok (.aload_n 0, 1) := by decide +kernel
theorem dX10_attemptDraw_165 : decode cX10_attemptDraw 165 = .ok (.getfield 94, 3) := by decide +kernel
theorem dX10_attemptDraw_168 : decode cX10_attemptDraw 168 = .ok (.iload_n 1, 1) := by decide +kernel
theorem dX10_attemptDraw_169 : decode cX10_attemptDraw 169 = .ok (.invokevirtual 333, 3) := by decide +kernel
theorem dX10_attemptDraw_172 : decode cX10_attemptDraw 172 = .ok (.aload_n 0, 1) := by decide +kernel
theorem dX10_attemptDraw_173 : decode cX10_attemptDraw 173 = .ok (.getfield 94, 3) := by decide +kernel
theorem dX10_attemptDraw_176 : decode cX10_attemptDraw 176 = .ok (.iload_n 2, 1) := by decide +kernel
theorem dX10_attemptDraw_177 : decode cX10_attemptDraw 177 = .ok (.invokevirtual 333, 3) := by decide +kernel
theorem dX10_attemptDraw_180 : decode cX10_attemptDraw 180 = .ok (.aload_n 0, 1) := by decide +kernel
theorem dX10_attemptDraw_181 : decode cX10_attemptDraw 181 = .ok (.getfield 94, 3) := by decide +kernel
theorem dX10_attemptDraw_184 : decode cX10_attemptDraw 184 = .ok (.iconst 3, 1) := by decide +kernel
theorem dX10_attemptDraw_185 : decode cX10_attemptDraw 185 = .ok (.invokevirtual 333, 3) := by decide +kernel
theorem dX10_attemptDraw_188 : decode cX10_attemptDraw 188 = .ok (.iconst 1, 1) := by decide +kernel
theorem dX10_attemptDraw_189 : decode cX10_attemptDraw 189 = .ok (.isub, 1) := by decide +kernel
theorem dX10_attemptDraw_190 : decode cX10_attemptDraw 190 = .ok (.invokevirtual 137, 3) := by decide +kernel
theorem dX10_attemptDraw_193 : decode cX10_attemptDraw 193 = .ok (.ireturn, 1) := by decide +kernel
theorem c_tell {σ : sg} {x : aW} {b : Nat} {s : scr} (hB : SL b) (h : CS σ b s) (h12 : s.1 ≤ 12) (i w : Int32) : Mt mX4_tell 0 0 0 [.ref b, .int i, .int w] (wd σ x) (QI (cnd (inR s.1 i ∧ inR 4 w) (s.2 i.toNatClampNeg w.toNatClampNeg) (-1000000)) (wd σ x)) := by
  refine Mt.of MI_X4_tell (Nat.le_of_ble_eq_true rfl) (fun X hC hR hT => ?_)
  have e1 := nI_toInt (n := s.1) (by omega)
  by_cases hi : inR s.1 i
  · obtain ⟨j, rfl, hj, hj2⟩ := inR_i hi
    obtain ⟨g1, g2, g3, g4⟩ := h.2 j hj
    rw [nI_clamp hj2] at hT
    have go : Rw mX4_tell X 15 [some (.ref b), some (.int (nI j)), some (.int w)] [] (wd σ x) 0 0 := by
      by_cases hw : inR 4 w
      · obtain ⟨n, rfl, hn, hn2⟩ := inR_i hw
        rw [cnd_t ⟨hi, hw⟩, nI_clamp hn2] at hT
        rcases (by omega : n = 0 ∨ n = 1 ∨ n = 2 ∨ n = 3) with rfl | rfl | rfl | rfl
        · refine R_iload_n (i := 2) hC dX4_tell_15 rfl rfl ?_
          refine R_tableIn hC 48 dX4_tell_16 (by decide) (by decide) rfl (by decide) ?_
          refine R_aload_n (i := 0) hC dX4_tell_48 rfl rfl (R_gR hC dX4_tell_49 fl_X4_9 hB.1 rfl (R_iload_n (i := 1) hC dX4_tell_52 rfl rfl (R_aI hC dX4_tell_53 hB.2.1 j rfl (by omega) (by decide) ?_)))
          exact R_iret hC hT dX4_tell_54 rfl ⟨by rw [g1], rfl⟩
        · refine R_iload_n (i := 2) hC dX4_tell_15 rfl rfl ?_
          refine R_tableIn hC 55 dX4_tell_16 (by decide) (by decide) rfl (by decide) ?_
          refine R_aload_n (i := 0) hC dX4_tell_55 rfl rfl (R_gR hC dX4_tell_56 fl_X4_15 hB.1 rfl (R_iload_n (i := 1) hC dX4_tell_59 rfl rfl (R_aI hC dX4_tell_60 hB.2.2.1 j rfl (by omega) (by decide) ?_)))
          exact R_iret hC hT dX4_tell_61 rfl ⟨by rw [g2], rfl⟩
        · refine R_iload_n (i := 2) hC dX4_tell_15 rfl rfl ?_
          refine R_tableIn hC 62 dX4_tell_16 (by decide) (by decide) rfl (by decide) ?_
          refine R_aload_n (i := 0) hC dX4_tell_62 rfl rfl (R_gR hC dX4_tell_63 fl_X4_18 hB.1 rfl (R_iload_n (i := 1) hC dX4_tell_66 rfl rfl (R_aI hC dX4_tell_67 hB.2.2.2.1 j rfl (by omega) (by decide) ?_)))
          exact R_iret hC hT dX4_tell_68 rfl ⟨by rw [g3], rfl⟩
        · refine R_iload_n (i := 2) hC dX4_tell_15 rfl rfl ?_
          refine R_tableIn hC 69 dX4_tell_16 (by decide) (by decide) rfl (by decide) ?_
          refine R_aload_n (i := 0) hC dX4_tell_69 rfl rfl (R_gR hC dX4_tell_70 fl_X4_21 hB.1 rfl (R_iload_n (i := 1) hC dX4_tell_73 rfl rfl (R_aI hC dX4_tell_74 hB.2.2.2.2 j rfl (by omega) (by decide) ?_)))
          exact R_iret hC hT dX4_tell_75 rfl ⟨by rw [g4], rfl⟩
      · rw [cnd_f (fun z => hw z.2)] at hT
        refine R_iload_n (i := 2) hC dX4_tell_15 rfl rfl ?_
        refine R_tableOut hC 76 dX4_tell_16 (by unfold inR at hw; omega) (by decide) ?_
        refine R_ldc hC dX4_tell_76 kc_X4_58 ?_
        exact R_iret hC hT dX4_tell_78 rfl ⟨rfl, rfl⟩
    refine R_iload_n (i := 1) hC dX4_tell_0 rfl rfl ?_
    refine R_if_lt hC 12 dX4_tell_1 (by decide) (fun h => absurd h (nI_pos hj2)) (fun _ => ?_)
    refine R_iload_n (i := 1) hC dX4_tell_4 rfl rfl (R_aload_n (i := 0) hC dX4_tell_5 rfl rfl (R_gI hC dX4_tell_6 fl_X4_24 hB.1 rfl ?_))
    refine R_top (y := nI s.1) (h.1) ?_
    refine R_icmp_lt hC 15 dX4_tell_9 (by decide) (fun _ => ?_) (fun h => absurd (nI_lt hj (by omega)) h)
    exact go
  · rw [cnd_f (fun z => hi z.1)] at hT
    unfold inR at hi
    refine R_iload_n (i := 1) hC dX4_tell_0 rfl rfl ?_
    refine R_if_lt hC 12 dX4_tell_1 (by decide) (fun h1 => ?_) (fun h1 => ?_)
    · refine R_ldc hC dX4_tell_12 kc_X4_58 ?_
      exact R_iret hC hT dX4_tell_14 rfl ⟨rfl, rfl⟩
    · refine R_iload_n (i := 1) hC dX4_tell_4 rfl rfl (R_aload_n (i := 0) hC dX4_tell_5 rfl rfl (R_gI hC dX4_tell_6 fl_X4_24 hB.1 rfl ?_))
      refine R_top (y := nI s.1) (h.1) ?_
      refine R_icmp_lt hC 15 dX4_tell_9 (by decide) (fun h9 => ?_) (fun h9 => ?_)
      · exact absurd (show 0 ≤ i.toInt ∧ i.toInt < s.1 from by simp only [i32_lt, Int32.toInt_zero, e1] at *; omega) hi
      · refine R_ldc hC dX4_tell_12 kc_X4_58 ?_
        exact R_iret hC hT dX4_tell_14 rfl ⟨rfl, rfl⟩
theorem co_step {σ : sg} {x : aW} {α : aS} (h : CInv σ α) (ok : aOK α) (k i w : Int32) : Mt mX10_step 1 0 0 [.ref i_U, .int k, .int i, .int w] (wd σ x) (CPost σ x (opStep α k i w) α) := by
  refine Mt.of MI_X10_step (Nat.le_of_ble_eq_true rfl) (fun X hC hR hT => ?_)
  have s4 := ok.2.2.2.2.1.1
  by_cases h0 : inR (tS α).1 k
  · obtain ⟨j, rfl, hj, hj2⟩ := inR_i h0
    have hA := SL_scr j (by omega)
    have e : opStep α (nI j) i w = cnd (inR ((tS α).2 j).1 i ∧ inR 4 w) (((tS α).2 j).2 i.toNatClampNeg w.toNatClampNeg) (-1000000) := by
      unfold opStep
      rw [nI_clamp hj2]
      by_cases q : inR ((tS α).2 j).1 i ∧ inR 4 w
      · rw [cnd_t q, if_pos ⟨h0, q⟩]
      · rw [cnd_f q, if_neg (fun z => q z.2)]
    refine R_aload_n (i := 0) hC dX10_step_0 rfl rfl (R_iload_n (i := 1) hC dX10_step_1 rfl rfl ?_)
    refine R_V1i hC hR dX10_step_2 MV_X10_isScript ml_X10_285 L_U rfl (c_isScript h ok _) (by first | decide | omega) ⟨by decide, by decide⟩ (Nat.le_of_ble_eq_true rfl) ?_
    refine R_top (y := 1) (b2i_t h0) ?_
    refine R_if_eq hC 22 dX10_step_5 (by decide) (fun h => absurd h (by decide)) (fun _ => ?_)
    refine R_aload_n (i := 0) hC dX10_step_8 rfl rfl (R_gR hC dX10_step_9 fl_X10_42 L_U rfl (R_iload_n (i := 1) hC dX10_step_12 rfl rfl (R_aR hC dX10_step_13 L_scr_a (Or.inr rfl) j rfl (by omega) (by decide) (fl_scr _ (by omega)) (R_iload_n (i := 2) hC dX10_step_14 rfl rfl (R_iload_n (i := 3) hC dX10_step_15 rfl rfl ?_)))))
    refine R_V2i hC hR dX10_step_16 MV_X4_tell ml_X10_288 hA.1 rfl (c_tell hA (h.2.2.2.1.2 j hj) (ok.2.2.2.2.1.2 j hj).2.1 i w) (by first | decide | omega) ⟨by decide, by decide⟩ (Nat.le_of_ble_eq_true rfl) ?_
    refine R_goto hC 24 dX10_step_19 (by decide) ?_
    exact R_iret hC hT dX10_step_24 rfl (by rw [e]; exact CPost.i h (MEq.rf _))
  · have e : opStep α k i w = -1000000 := by unfold opStep; rw [if_neg (fun z => h0 z.1)]
    refine R_aload_n (i := 0) hC dX10_step_0 rfl rfl (R_iload_n (i := 1) hC dX10_step_1 rfl rfl ?_)
    refine R_V1i hC hR dX10_step_2 MV_X10_isScript ml_X10_285 L_U rfl (c_isScript h ok _) (by first | decide | omega) ⟨by decide, by decide⟩ (Nat.le_of_ble_eq_true rfl) ?_
    refine R_top (y := 0) (b2i_f h0) ?_
    refine R_if_eq hC 22 dX10_step_5 (by decide) (fun _ => ?_) (fun h => absurd rfl h)
    refine R_ldc hC dX10_step_22 kc_X10_145 ?_
    exact R_iret hC hT dX10_step_24 rfl (by rw [e]; exact CPost.i h (MEq.rf _))
theorem act_step {T : tb} {s : Nat → Int32} {k : Nat} (hk : k ≤ 6) (h0 : s 0 = nI k) (hs : k = 6 → sml (s 3)) : ((actC T k (s 1) (s 2) (s 3)).1 = -1 ↔ stepCan T s) ∧ ((actC T k (s 1) (s 2) (s 3)).1 = -1 → (actC T k (s 1) (s 2) (s 3)).2 = stepA T s) := by
  have inj : ∀ a b : Nat, a ≤ 6 → b ≤ 6 → nI a = nI b → a = b := fun a b ha hb z => (nI_eq (by omega) (by omega)).mp z
  by_cases h5 : k ≤ 5
  · have e : actC T k (s 1) (s 2) (s 3) = actR T k (s 1) (s 2) := by unfold actC; rw [if_pos h5]
    rw [e]
    refine ⟨⟨fun z => Or.inl ⟨k, by omega, h0, z⟩, fun z => ?_⟩, fun z => ?_⟩
    · rcases z with ⟨j, hj, q1, q2⟩ | ⟨q1, _⟩
      · have : j = k := inj j k (by omega) hk (by rw [← q1, h0]); subst this; exact q2
      · have := inj k 6 hk (by omega) (by rw [← h0, q1]); omega
    · have z : stopZ T k (s 1) (s 2) = -1 := z
      rw [actR_y z]
      unfold stepA
      rw [if_neg (fun q => by have := inj k 6 hk (by omega) (by rw [← h0, q]); omega), h0, nI_clamp (by omega)]
  · have e6 : k = 6 := by omega
    subst e6
    have e : actC T 6 (s 1) (s 2) (s 3) = setR T (s 1) (s 2) (s 3) := rfl
    rw [e]
    unfold setR
    have h3 := hs rfl
    by_cases q : inR T.1 (s 1) ∧ inR T.2.1 (s 2)
    · rw [if_neg (fun z => z ⟨q.1, q.2, h3⟩)]
      by_cases q2 : T.2.2 (s 1).toNatClampNeg (s 2).toNatClampNeg = s 3
      · rw [if_pos q2]
        refine ⟨⟨fun z => absurd (show (2 : Int32) = -1 from z) (by decide), fun z => ?_⟩, fun z => absurd (show (2 : Int32) = -1 from z) (by decide)⟩
        rcases z with ⟨j, hj, y1, _⟩ | ⟨_, _, _, y⟩
        · have := inj j 6 (by omega) (by omega) (by rw [← y1, h0]); omega
        · exact absurd q2 y
      · rw [if_neg q2]
        exact ⟨⟨fun _ => Or.inr ⟨h0, q.1, q.2, q2⟩, fun _ => rfl⟩, fun _ => by unfold stepA; rw [if_pos h0]⟩
    · rw [if_pos (fun z => q ⟨z.1, z.2.1⟩)]
      refine ⟨⟨fun z => absurd (show (1 : Int32) = -1 from z) (by decide), fun z => ?_⟩, fun z => absurd (show (1 : Int32) = -1 from z) (by decide)⟩
      rcases z with ⟨j, hj, y1, _⟩ | ⟨_, y1, y2, _⟩
      · have := inj j 6 (by omega) (by omega) (by rw [← y1, h0]); omega
      · exact absurd ⟨y1, y2⟩ q
