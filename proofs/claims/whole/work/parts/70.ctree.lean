/-! ===== the class's trees: arcs, ends, starts ===== -/
def AC (σ : sg) (b : Nat) (t : tre) (n : Nat) : Prop := ∀ r, r < n → σ.2.2 (b + 3) r = nI (t.1 r) ∧ σ.2.2 (b + 4) r = nI (t.2 r)
theorem AC.ae {L : List Nat} {σ τ : sg} {b n : Nat} {t : tre} (h : AC σ b t n) (e : AE L σ τ) (h3 : b + 3 ∉ L) (h4 : b + 4 ∉ L) : AC τ b t n := by
  unfold AC; rw [(e _ h3).2.2, (e _ h4).2.2]; exact h
theorem AC.cut {σ : sg} {b n k : Nat} {t : tre} (h : AC σ b t n) (hk : k ≤ n) : AC σ b t k := fun r hr => h r (by omega)
theorem AC.to {σ : sg} {b n : Nat} {t u : tre} (h : AC σ b t n) (e : ∀ r, r < n → u.1 r = t.1 r ∧ u.2 r = t.2 r) : AC σ b u n := fun r hr => by
  rw [(e r hr).1, (e r hr).2]; exact h r hr
theorem dX9_seek_0 : decode cX9_seek 0 = .ok (.aload_n 0, 1) := by decide +kernel
theorem dX9_seek_1 : decode cX9_seek 1 = .ok (.getfield 12, 3) := by decide +kernel
theorem dX9_seek_4 : decode cX9_seek 4 = .ok (.aload_n 1, 1) := by decide +kernel
theorem dX9_seek_5 : decode cX9_seek 5 = .ok (.invokevirtual 25, 3) := by decide +kernel
theorem dX9_seek_8 : decode cX9_seek 8 = .ok (.iload_n 2, 1) := by decide +kernel
theorem dX9_seek_9 : decode cX9_seek 9 = .ok (.ifCond .eq 11, 3) := by decide +kernel
theorem dX9_seek_12 : decode cX9_seek 12 = .ok (.aload_n 0, 1) := by decide +kernel
theorem dX9_seek_13 : decode cX9_seek 13 = .ok (.getfield 12, 3) := by decide +kernel
theorem dX9_seek_16 : decode cX9_seek 16 = .ok (.invokevirtual 29, 3) := by decide +kernel
theorem dX9_seek_19 : decode cX9_seek 19 = .ok (.pop, 1) := by decide +kernel
theorem dX9_seek_20 : decode cX9_seek 20 = .ok (.aload_n 0, 1) := by decide +kernel
theorem dX9_seek_21 : decode cX9_seek 21 = .ok (.iload_n 3, 1) := by decide +kernel
theorem dX9_seek_22 : decode cX9_seek 22 = .ok (.ifCond .eq 15, 3) := by decide +kernel
theorem dX9_seek_25 : decode cX9_seek 25 = .ok (.aload_n 0, 1) := by decide +kernel
theorem dX9_seek_26 : decode cX9_seek 26 = .ok (.iconst 0, 1) := by decide +kernel
theorem dX9_seek_27 : decode cX9_seek 27 = .ok (.invokevirtual 33, 3) := by decide +kernel
theorem dX9_seek_30 : decode cX9_seek 30 = .ok (.ifCond .eq 7, 3) := by decide +kernel
theorem dX9_seek_33 : decode cX9_seek 33 = .ok (.iconst 1, 1) := by decide +kernel
theorem dX9_seek_34 : decode cX9_seek 34 = .ok (.goto 4, 3) := by decide +kernel
theorem dX9_seek_37 : decode cX9_seek 37 = .ok (.iconst 0, 1) := by decide +kernel
theorem dX9_seek_38 : decode cX9_seek 38 = .ok (.putfield 37, 3) := by decide +kernel
theorem dX9_seek_41 : decode cX9_seek 41 = .ok (.return_, 1) := by decide +kernel
theorem dX9_grow_0 : decode cX9_grow 0 = .ok (.iload_n 1, 1) := by decide +kernel
theorem dX9_grow_1 : decode cX9_grow 1 = .ok (.aload_n 0, 1) := by decide +kernel
theorem dX9_grow_2 : decode cX9_grow 2 = .ok (.getfield 12, 3) := by decide +kernel
theorem dX9_grow_5 : decode cX9_grow 5 = .ok (.getfield 41, 3) := by decide +kernel
theorem dX9_grow_8 : decode cX9_grow 8 = .ok (.if_icmp .ge 9, 3) := by decide +kernel
theorem dX9_grow_11 : decode cX9_grow 11 = .ok (.iload_n 1, 1) := by decide +kernel
theorem dX9_grow_12 : decode cX9_grow 12 = .ok (.bipush 6, 2) := by decide +kernel
theorem dX9_grow_14 : decode cX9_grow 14 = .ok (.if_icmp .lt 5, 3) := by decide +kernel
theorem dX9_grow_17 : decode cX9_grow 17 = .ok (.iconst 1, 1) := by decide +kernel
theorem dX9_grow_18 : decode cX9_grow 18 = .ok (.ireturn, 1) := by decide +kernel
theorem dX9_grow_19 : decode cX9_grow 19 = .ok (.iconst 0, 1) := by decide +kernel
theorem dX9_grow_20 : decode cX9_grow 20 = .ok (.istore_n 2, 1) := by decide +kernel
theorem dX9_grow_21 : decode cX9_grow 21 = .ok (.iload_n 2, 1) := by decide +kernel
theorem dX9_grow_22 : decode cX9_grow 22 = .ok (.iload_n 1, 1) := by decide +kernel
theorem dX9_grow_23 : decode cX9_grow 23 = .ok (.if_icmp .gt 77, 3) := by decide +kernel
theorem dX9_grow_26 : decode cX9_grow 26 = .ok (.aload_n 0, 1) := by decide +kernel
theorem dX9_grow_27 : decode cX9_grow 27 = .ok (.iload_n 2, 1) := by decide +kernel
theorem dX9_grow_28 : decode cX9_grow 28 = .ok (.iload_n 1, 1) := by decide +kernel
theorem dX9_grow_29 : decode cX9_grow 29 = .ok (.invokevirtual 45, 3) := by decide +kernel
theorem dX9_grow_32 : decode cX9_grow 32 = .ok (.istore_n 3, 1) := by decide +kernel
theorem dX9_grow_33 : decode cX9_grow 33 = .ok (.iconst 0, 1) := by decide +kernel
theorem dX9_grow_34 : decode cX9_grow 34 = .ok (.istore 4, 2) := by decide +kernel
theorem dX9_grow_36 : decode cX9_grow 36 = .ok (.iload 4, 2) := by decide +kernel
theorem dX9_grow_38 : decode cX9_grow 38 = .ok (.bipush 64, 2) := by decide +kernel
theorem dX9_grow_40 : decode cX9_grow 40 = .ok (.if_icmp .ge 54, 3) := by decide +kernel
theorem dX9_grow_43 : decode cX9_grow 43 = .ok (.iload 4, 2) := by decide +kernel
theorem dX9_grow_45 : decode cX9_grow 45 = .ok (.iload_n 3, 1) := by decide +kernel
theorem dX9_grow_46 : decode cX9_grow 46 = .ok (.if_icmp .gt 48, 3) := by decide +kernel
theorem dX9_grow_49 : decode cX9_grow 49 = .ok (.iload 4, 2) := by decide +kernel
theorem dX9_grow_51 : decode cX9_grow 51 = .ok (.iload_n 3, 1) := by decide +kernel
theorem dX9_grow_52 : decode cX9_grow 52 = .ok (.invokestatic 49, 3) := by decide +kernel
theorem dX9_grow_55 : decode cX9_grow 55 = .ok (.ifCond .eq 33, 3) := by decide +kernel
theorem dX9_grow_58 : decode cX9_grow 58 = .ok (.aload_n 0, 1) := by decide +kernel
theorem dX9_grow_59 : decode cX9_grow 59 = .ok (.iload_n 1, 1) := by decide +kernel
theorem dX9_grow_60 : decode cX9_grow 60 = .ok (.iload_n 2, 1) := by decide +kernel
theorem dX9_grow_61 : decode cX9_grow 61 = .ok (.iload 4, 2) := by decide +kernel
theorem dX9_grow_63 : decode cX9_grow 63 = .ok (.iconst 0, 1) := by decide +kernel
theorem dX9_grow_64 : decode cX9_grow 64 = .ok (.invokevirtual 53, 3) := by decide +kernel
theorem dX9_grow_67 : decode cX9_grow 67 = .ok (.ifCond .ne 19, 3) := by decide +kernel
theorem dX9_grow_70 : decode cX9_grow 70 = .ok (.iload_n 3, 1) := by decide +kernel
theorem dX9_grow_71 : decode cX9_grow 71 = .ok (.ifCond .eq 17, 3) := by decide +kernel
theorem dX9_grow_74 : decode cX9_grow 74 = .ok (.aload_n 0, 1) := by decide +kernel
theorem dX9_grow_75 : decode cX9_grow 75 = .ok (.iload_n 1, 1) := by decide +kernel
theorem dX9_grow_76 : decode cX9_grow 76 = .ok (.iload_n 2, 1) := by decide +kernel
theorem dX9_grow_77 : decode cX9_grow 77 = .ok (.iload 4, 2) := by decide +kernel
theorem dX9_grow_79 : decode cX9_grow 79 = .ok (.iconst 1, 1) := by decide +kernel
theorem dX9_grow_80 : decode cX9_grow 80 = .ok (.invokevirtual 53, 3) := by decide +kernel
theorem dX9_grow_83 : decode cX9_grow 83 = .ok (.ifCond .eq 5, 3) := by decide +kernel
theorem dX9_grow_86 : decode cX9_grow 86 = .ok (.iconst 1, 1) := by decide +kernel
theorem dX9_grow_87 : decode cX9_grow 87 = .ok (.ireturn, 1) := by decide +kernel
theorem dX9_grow_88 : decode cX9_grow 88 = .ok (.iinc 4 1, 3) := by decide +kernel
theorem dX9_grow_91 : decode cX9_grow 91 = .ok (.goto (-55), 3) := by decide +kernel
theorem dX9_grow_94 : decode cX9_grow 94 = .ok (.iinc 2 1, 3) := by decide +kernel
theorem dX9_grow_97 : decode cX9_grow 97 = .ok (.goto (-76), 3) := by decide +kernel
theorem dX9_grow_100 : decode cX9_grow 100 = .ok (.iconst 0, 1) := by decide +kernel
theorem dX9_grow_101 : decode cX9_grow 101 = .ok (.ireturn, 1) := by decide +kernel
theorem dX9_isNew_0 : decode cX9_isNew 0 = .ok (.iload_n 0, 1) := by decide +kernel
theorem dX9_isNew_1 : decode cX9_isNew 1 = .ok (.iload_n 1, 1) := by decide +kernel
theorem dX9_isNew_2 : decode cX9_isNew 2 = .ok (.iconst (-1), 1) := by decide +kernel
theorem dX9_isNew_3 : decode cX9_isNew 3 = .ok (.ixor, 1) := by decide +kernel
theorem dX9_isNew_4 : decode cX9_isNew 4 = .ok (.iand, 1) := by decide +kernel
theorem dX9_isNew_5 : decode cX9_isNew 5 = .ok (.ifCond .ne 14, 3) := by decide +kernel
theorem dX9_isNew_8 : decode cX9_isNew 8 = .ok (.iload_n 0, 1) := by decide +kernel
theorem dX9_isNew_9 : decode cX9_isNew 9 = .ok (.iload_n 1, 1) := by decide +kernel
theorem dX9_isNew_10 : decode cX9_isNew 10 = .ok (.iload_n 0, 1) := by decide +kernel
theorem dX9_isNew_11 : decode cX9_isNew 11 = .ok (.ixor, 1) := by decide +kernel
theorem dX9_isNew_12 : decode cX9_isNew 12 = .ok (.if_icmp .gt 7, 3) := by decide +kernel
theorem dX9_isNew_15 : decode cX9_isNew 15 = .ok (.iconst 1, 1) := by decide +kernel
theorem dX9_isNew_16 : decode cX9_isNew 16 = .ok (.goto 4, 3) := by decide +kernel
theorem dX9_isNew_19 : decode cX9_isNew 19 = .ok (.iconst 0, 1) := by decide +kernel
theorem dX9_isNew_20 : decode cX9_isNew 20 = .ok (.ireturn, 1) := by decide +kernel
theorem dX9_growBy_0 : decode cX9_growBy 0 = .ok (.iload_n 1, 1) := by decide +kernel
theorem dX9_growBy_1 : decode cX9_growBy 1 = .ok (.iconst 1, 1) := by decide +kernel
theorem dX9_growBy_2 : decode cX9_growBy 2 = .ok (.iadd, 1) := by decide +kernel
theorem dX9_growBy_3 : decode cX9_growBy 3 = .ok (.istore 5, 2) := by decide +kernel
theorem dX9_growBy_5 : decode cX9_growBy 5 = .ok (.aload_n 0, 1) := by decide +kernel
theorem dX9_growBy_6 : decode cX9_growBy 6 = .ok (.iload_n 3, 1) := by decide +kernel
theorem dX9_growBy_7 : decode cX9_growBy 7 = .ok (.iload_n 2, 1) := by decide +kernel
theorem dX9_growBy_8 : decode cX9_growBy 8 = .ok (.iload 5, 2) := by decide +kernel
theorem dX9_growBy_10 : decode cX9_growBy 10 = .ok (.invokevirtual 57, 3) := by decide +kernel
theorem dX9_growBy_13 : decode cX9_growBy 13 = .ok (.aload_n 0, 1) := by decide +kernel
theorem dX9_growBy_14 : decode cX9_growBy 14 = .ok (.getfield 18, 3) := by decide +kernel
theorem dX9_growBy_17 : decode cX9_growBy 17 = .ok (.iload_n 1, 1) := by decide +kernel
theorem dX9_growBy_18 : decode cX9_growBy 18 = .ok (.iload 4, 2) := by decide +kernel
theorem dX9_growBy_20 : decode cX9_growBy 20 = .ok (.ifCond .ne 7, 3) := by decide +kernel
theorem dX9_growBy_23 : decode cX9_growBy 23 = .ok (.iload_n 2, 1) := by decide +kernel
theorem dX9_growBy_24 : decode cX9_growBy 24 = .ok (.goto 5, 3) := by decide +kernel
theorem dX9_growBy_27 : decode cX9_growBy 27 = .ok (.iload 5, 2) := by decide +kernel
theorem dX9_growBy_29 : decode cX9_growBy 29 = .ok (.iastore, 1) := by decide +kernel
theorem dX9_growBy_30 : decode cX9_growBy 30 = .ok (.aload_n 0, 1) := by decide +kernel
theorem dX9_growBy_31 : decode cX9_growBy 31 = .ok (.getfield 22, 3) := by decide +kernel
theorem dX9_growBy_34 : decode cX9_growBy 34 = .ok (.iload_n 1, 1) := by decide +kernel
theorem dX9_growBy_35 : decode cX9_growBy 35 = .ok (.iload 4, 2) := by decide +kernel
theorem dX9_growBy_37 : decode cX9_growBy 37 = .ok (.ifCond .ne 8, 3) := by decide +kernel
theorem dX9_growBy_40 : decode cX9_growBy 40 = .ok (.iload 5, 2) := by decide +kernel
theorem dX9_growBy_42 : decode cX9_growBy 42 = .ok (.goto 4, 3) := by decide +kernel
theorem dX9_growBy_45 : decode cX9_growBy 45 = .ok (.iload_n 2, 1) := by decide +kernel
theorem dX9_growBy_46 : decode cX9_growBy 46 = .ok (.iastore, 1) := by decide +kernel
theorem dX9_growBy_47 : decode cX9_growBy 47 = .ok (.aload_n 0, 1) := by decide +kernel
theorem dX9_growBy_48 : decode cX9_growBy 48 = .ok (.iload_n 1, 1) := by decide +kernel
theorem dX9_growBy_49 : decode cX9_growBy 49 = .ok (.invokevirtual 61, 3) := by decide +kernel
theorem dX9_growBy_52 : decode cX9_growBy 52 = .ok (.ifCond .eq 15, 3) := by decide +kernel
theorem dX9_growBy_55 : decode cX9_growBy 55 = .ok (.aload_n 0, 1) := by decide +kernel
theorem dX9_growBy_56 : decode cX9_growBy 56 = .ok (.iload_n 1, 1) := by decide +kernel
theorem dX9_growBy_57 : decode cX9_growBy 57 = .ok (.iconst 1, 1) := by decide +kernel
theorem dX9_growBy_58 : decode cX9_growBy 58 = .ok (.iadd, 1) := by decide +kernel
theorem dX9_growBy_59 : decode cX9_growBy 59 = .ok (.invokevirtual 33, 3) := by decide +kernel
theorem dX9_growBy_62 : decode cX9_growBy 62 = .ok (.ifCond .eq 5, 3) := by decide +kernel
theorem dX9_growBy_65 : decode cX9_growBy 65 = .ok (.iconst 1, 1) := by decide +kernel
theorem dX9_growBy_66 : decode cX9_growBy 66 = .ok (.ireturn, 1) := by decide +kernel
theorem dX9_growBy_67 : decode cX9_growBy 67 = .ok (.aload_n 0, 1) := by decide +kernel
theorem dX9_growBy_68 : decode cX9_growBy 68 = .ok (.iload_n 3, 1) := by decide +kernel
theorem dX9_growBy_69 : decode cX9_growBy 69 = .ok (.iload 5, 2) := by decide +kernel
theorem dX9_growBy_71 : decode cX9_growBy 71 = .ok (.iload_n 2, 1) := by decide +kernel
theorem dX9_growBy_72 : decode cX9_growBy 72 = .ok (.invokevirtual 57, 3) := by decide +kernel
theorem dX9_growBy_75 : decode cX9_growBy 75 = .ok (.iconst 0, 1) := by decide +kernel
theorem dX9_growBy_76 : decode cX9_growBy 76 = .ok (.ireturn, 1) := by decide +kernel
theorem dX9_arcsAt_0 : decode cX9_arcsAt 0 = .ok (.iconst 0, 1) := by decide +kernel
theorem dX9_arcsAt_1 : decode cX9_arcsAt 1 = .ok (.istore_n 3, 1) := by decide +kernel
theorem dX9_arcsAt_2 : decode cX9_arcsAt 2 = .ok (.iconst 0, 1) := by decide +kernel
theorem dX9_arcsAt_3 : decode cX9_arcsAt 3 = .ok (.istore 4, 2) := by decide +kernel
theorem dX9_arcsAt_5 : decode cX9_arcsAt 5 = .ok (.iload 4, 2) := by decide +kernel
theorem dX9_arcsAt_7 : decode cX9_arcsAt 7 = .ok (.iload_n 2, 1) := by decide +kernel
theorem dX9_arcsAt_8 : decode cX9_arcsAt 8 = .ok (.if_icmp .ge 45, 3) := by decide +kernel
theorem dX9_arcsAt_11 : decode cX9_arcsAt 11 = .ok (.iload 4, 2) := by decide +kernel
theorem dX9_arcsAt_13 : decode cX9_arcsAt 13 = .ok (.bipush 6, 2) := by decide +kernel
theorem dX9_arcsAt_15 : decode cX9_arcsAt 15 = .ok (.if_icmp .ge 38, 3) := by decide +kernel
theorem dX9_arcsAt_18 : decode cX9_arcsAt 18 = .ok (.aload_n 0, 1) := by decide +kernel
theorem dX9_arcsAt_19 : decode cX9_arcsAt 19 = .ok (.getfield 18, 3) := by decide +kernel
theorem dX9_arcsAt_22 : decode cX9_arcsAt 22 = .ok (.iload 4, 2) := by decide +kernel
theorem dX9_arcsAt_24 : decode cX9_arcsAt 24 = .ok (.iaload, 1) := by decide +kernel
theorem dX9_arcsAt_25 : decode cX9_arcsAt 25 = .ok (.iload_n 1, 1) := by decide +kernel
theorem dX9_arcsAt_26 : decode cX9_arcsAt 26 = .ok (.if_icmp .eq 14, 3) := by decide +kernel
theorem dX9_arcsAt_29 : decode cX9_arcsAt 29 = .ok (.aload_n 0, 1) := by decide +kernel
theorem dX9_arcsAt_30 : decode cX9_arcsAt 30 = .ok (.getfield 22, 3) := by decide +kernel
theorem dX9_arcsAt_33 : decode cX9_arcsAt 33 = .ok (.iload 4, 2) := by decide +kernel
theorem dX9_arcsAt_35 : decode cX9_arcsAt 35 = .ok (.iaload, 1) := by decide +kernel
theorem dX9_arcsAt_36 : decode cX9_arcsAt 36 = .ok (.iload_n 1, 1) := by decide +kernel
theorem dX9_arcsAt_37 : decode cX9_arcsAt 37 = .ok (.if_icmp .ne 10, 3) := by decide +kernel
theorem dX9_arcsAt_40 : decode cX9_arcsAt 40 = .ok (.iload_n 3, 1) := by decide +kernel
theorem dX9_arcsAt_41 : decode cX9_arcsAt 41 = .ok (.iconst 1, 1) := by decide +kernel
theorem dX9_arcsAt_42 : decode cX9_arcsAt 42 = .ok (.iload 4, 2) := by decide +kernel
theorem dX9_arcsAt_44 : decode cX9_arcsAt 44 = .ok (.ishl, 1) := by decide +kernel
theorem dX9_arcsAt_45 : decode cX9_arcsAt 45 = .ok (.ior, 1) := by decide +kernel
theorem dX9_arcsAt_46 : decode cX9_arcsAt 46 = .ok (.istore_n 3, 1) := by decide +kernel
theorem dX9_arcsAt_47 : decode cX9_arcsAt 47 = .ok (.iinc 4 1, 3) := by decide +kernel
theorem dX9_arcsAt_50 : decode cX9_arcsAt 50 = .ok (.goto (-45), 3) := by decide +kernel
theorem dX9_arcsAt_53 : decode cX9_arcsAt 53 = .ok (.iload_n 3, 1) := by decide +kernel
theorem dX9_arcsAt_54 : decode cX9_arcsAt 54 = .ok (.ireturn, 1) := by decide +kernel
theorem dX9_moveEnds_0 : decode cX9_moveEnds 0 = .ok (.iconst 0, 1) := by decide +kernel
theorem dX9_moveEnds_1 : decode cX9_moveEnds 1 = .ok (.istore 4, 2) := by decide +kernel
theorem dX9_moveEnds_3 : decode cX9_moveEnds 3 = .ok (.iload 4, 2) := by decide +kernel
theorem dX9_moveEnds_5 : decode cX9_moveEnds 5 = .ok (.bipush 6, 2) := by decide +kernel
theorem dX9_moveEnds_7 : decode cX9_moveEnds 7 = .ok (.if_icmp .ge 48, 3) := by decide +kernel
theorem dX9_moveEnds_10 : decode cX9_moveEnds 10 = .ok (.iload_n 1, 1) := by decide +kernel
theorem dX9_moveEnds_11 : decode cX9_moveEnds 11 = .ok (.iload 4, 2) := by decide +kernel
theorem dX9_moveEnds_13 : decode cX9_moveEnds 13 = .ok (.invokestatic 64, 3) := by decide +kernel
theorem dX9_moveEnds_16 : decode cX9_moveEnds 16 = .ok (.ifCond .eq 33, 3) := by decide +kernel
theorem dX9_moveEnds_19 : decode cX9_moveEnds 19 = .ok (.aload_n 0, 1) := by decide +kernel
theorem dX9_moveEnds_20 : decode cX9_moveEnds 20 = .ok (.getfield 18, 3) := by decide +kernel
theorem dX9_moveEnds_23 : decode cX9_moveEnds 23 = .ok (.iload 4, 2) := by decide +kernel
theorem dX9_moveEnds_25 : decode cX9_moveEnds 25 = .ok (.iaload, 1) := by decide +kernel
theorem dX9_moveEnds_26 : decode cX9_moveEnds 26 = .ok (.iload_n 2, 1) := by decide +kernel
theorem dX9_moveEnds_27 : decode cX9_moveEnds 27 = .ok (.if_icmp .ne 14, 3) := by decide +kernel
theorem dX9_moveEnds_30 : decode cX9_moveEnds 30 = .ok (.aload_n 0, 1) := by decide +kernel
theorem dX9_moveEnds_31 : decode cX9_moveEnds 31 = .ok (.getfield 18, 3) := by decide +kernel
theorem dX9_moveEnds_34 : decode cX9_moveEnds 34 = .ok (.iload 4, 2) := by decide +kernel
theorem dX9_moveEnds_36 : decode cX9_moveEnds 36 = .ok (.iload_n 3, 1) := by decide +kernel
theorem dX9_moveEnds_37 : decode cX9_moveEnds 37 = .ok (.iastore, 1) := by decide +kernel
theorem dX9_moveEnds_38 : decode cX9_moveEnds 38 = .ok (.goto 11, 3) := by decide +kernel
theorem dX9_moveEnds_41 : decode cX9_moveEnds 41 = .ok (.aload_n 0, 1) := by decide +kernel
theorem dX9_moveEnds_42 : decode cX9_moveEnds 42 = .ok (.getfield 22, 3) := by decide +kernel
theorem dX9_moveEnds_45 : decode cX9_moveEnds 45 = .ok (.iload 4, 2) := by decide +kernel
theorem dX9_moveEnds_47 : decode cX9_moveEnds 47 = .ok (.iload_n 3, 1) := by decide +kernel
theorem dX9_moveEnds_48 : decode cX9_moveEnds 48 = .ok (.iastore, 1) := by decide +kernel
theorem dX9_moveEnds_49 : decode cX9_moveEnds 49 = .ok (.iinc 4 1, 3) := by decide +kernel
theorem dX9_moveEnds_52 : decode cX9_moveEnds 52 = .ok (.goto (-49), 3) := by decide +kernel
theorem dX9_moveEnds_55 : decode cX9_moveEnds 55 = .ok (.return_, 1) := by decide +kernel
theorem dX9_areWays_0 : decode cX9_areWays 0 = .ok (.iconst 0, 1) := by decide +kernel
theorem dX9_areWays_1 : decode cX9_areWays 1 = .ok (.istore_n 2, 1) := by decide +kernel
theorem dX9_areWays_2 : decode cX9_areWays 2 = .ok (.iload_n 2, 1) := by decide +kernel
theorem dX9_areWays_3 : decode cX9_areWays 3 = .ok (.aload_n 0, 1) := by decide +kernel
theorem dX9_areWays_4 : decode cX9_areWays 4 = .ok (.getfield 12, 3) := by decide +kernel
theorem dX9_areWays_7 : decode cX9_areWays 7 = .ok (.getfield 67, 3) := by decide +kernel
theorem dX9_areWays_10 : decode cX9_areWays 10 = .ok (.if_icmp .ge 24, 3) := by decide +kernel
theorem dX9_areWays_13 : decode cX9_areWays 13 = .ok (.aload_n 0, 1) := by decide +kernel
theorem dX9_areWays_14 : decode cX9_areWays 14 = .ok (.iload_n 2, 1) := by decide +kernel
theorem dX9_areWays_15 : decode cX9_areWays 15 = .ok (.iload_n 1, 1) := by decide +kernel
theorem dX9_areWays_16 : decode cX9_areWays 16 = .ok (.invokevirtual 70, 3) := by decide +kernel
theorem dX9_areWays_19 : decode cX9_areWays 19 = .ok (.invokestatic 73, 3) := by decide +kernel
theorem dX9_areWays_22 : decode cX9_areWays 22 = .ok (.iconst 1, 1) := by decide +kernel
theorem dX9_areWays_23 : decode cX9_areWays 23 = .ok (.if_icmp .le 5, 3) := by decide +kernel
theorem dX9_areWays_26 : decode cX9_areWays 26 = .ok (.iconst 0, 1) := by decide +kernel
theorem dX9_areWays_27 : decode cX9_areWays 27 = .ok (.ireturn, 1) := by decide +kernel
theorem dX9_areWays_28 : decode cX9_areWays 28 = .ok (.iinc 2 1, 3) := by decide +kernel
theorem dX9_areWays_31 : decode cX9_areWays 31 = .ok (.goto (-29), 3) := by decide +kernel
theorem dX9_areWays_34 : decode cX9_areWays 34 = .ok (.iconst 1, 1) := by decide +kernel
theorem dX9_areWays_35 : decode cX9_areWays 35 = .ok (.ireturn, 1) := by decide +kernel
theorem dX9_starts_0 : decode cX9_starts 0 = .ok (.iconst 0, 1) := by decide +kernel
theorem dX9_starts_1 : decode cX9_starts 1 = .ok (.istore_n 3, 1) := by decide +kernel
theorem dX9_starts_2 : decode cX9_starts 2 = .ok (.iconst 0, 1) := by decide +kernel
theorem dX9_starts_3 : decode cX9_starts 3 = .ok (.istore 4, 2) := by decide +kernel
theorem dX9_starts_5 : decode cX9_starts 5 = .ok (.iconst 0, 1) := by decide +kernel
theorem dX9_starts_6 : decode cX9_starts 6 = .ok (.istore 5, 2) := by decide +kernel
theorem dX9_starts_8 : decode cX9_starts 8 = .ok (.iload 5, 2) := by decide +kernel
theorem dX9_starts_10 : decode cX9_starts 10 = .ok (.iload_n 2, 1) := by decide +kernel
theorem dX9_starts_11 : decode cX9_starts 11 = .ok (.if_icmp .gt 86, 3) := by decide +kernel
theorem dX9_starts_14 : decode cX9_starts 14 = .ok (.iload 5, 2) := by decide +kernel
theorem dX9_starts_16 : decode cX9_starts 16 = .ok (.bipush 6, 2) := by decide +kernel
theorem dX9_starts_18 : decode cX9_starts 18 = .ok (.if_icmp .ge 79, 3) := by decide +kernel
theorem dX9_starts_21 : decode cX9_starts 21 = .ok (.aload_n 0, 1) := by decide +kernel
theorem dX9_starts_22 : decode cX9_starts 22 = .ok (.getfield 12, 3) := by decide +kernel
theorem dX9_starts_25 : decode cX9_starts 25 = .ok (.iload 5, 2) := by decide +kernel
theorem dX9_starts_27 : decode cX9_starts 27 = .ok (.iload_n 1, 1) := by decide +kernel
theorem dX9_starts_28 : decode cX9_starts 28 = .ok (.invokevirtual 79, 3) := by decide +kernel
theorem dX9_starts_31 : decode cX9_starts 31 = .ok (.istore 6, 2) := by decide +kernel
theorem dX9_starts_33 : decode cX9_starts 33 = .ok (.iload 6, 2) := by decide +kernel
theorem dX9_starts_35 : decode cX9_starts 35 = .ok (.ifCond .eq 56, 3) := by decide +kernel
theorem dX9_starts_38 : decode cX9_starts 38 = .ok (.iconst 1, 1) := by decide +kernel
theorem dX9_starts_39 : decode cX9_starts 39 = .ok (.aload_n 0, 1) := by decide +kernel
theorem dX9_starts_40 : decode cX9_starts 40 = .ok (.iload 5, 2) := by decide +kernel
theorem dX9_starts_42 : decode cX9_starts 42 = .ok (.iload 6, 2) := by decide +kernel
theorem dX9_starts_44 : decode cX9_starts 44 = .ok (.invokevirtual 82, 3) := by decide +kernel
theorem dX9_starts_47 : decode cX9_starts 47 = .ok (.ishl, 1) := by decide +kernel
theorem dX9_starts_48 : decode cX9_starts 48 = .ok (.istore 7, 2) := by decide +kernel
theorem dX9_starts_50 : decode cX9_starts 50 = .ok (.iconst 1, 1) := by decide +kernel
theorem dX9_starts_51 : decode cX9_starts 51 = .ok (.aload_n 0, 1) := by decide +kernel
theorem dX9_starts_52 : decode cX9_starts 52 = .ok (.iload 5, 2) := by decide +kernel
theorem dX9_starts_54 : decode cX9_starts 54 = .ok (.iload 6, 2) := by decide +kernel
theorem dX9_starts_56 : decode cX9_starts 56 = .ok (.invokevirtual 85, 3) := by decide +kernel
theorem dX9_starts_59 : decode cX9_starts 59 = .ok (.ishl, 1) := by decide +kernel
theorem dX9_starts_60 : decode cX9_starts 60 = .ok (.istore 8, 2) := by decide +kernel
theorem dX9_starts_62 : decode cX9_starts 62 = .ok (.iload_n 3, 1) := by decide +kernel
theorem dX9_starts_63 : decode cX9_starts 63 = .ok (.iload 7, 2) := by decide +kernel
theorem dX9_starts_65 : decode cX9_starts 65 = .ok (.iand, 1) := by decide +kernel
theorem dX9_starts_66 : decode cX9_starts 66 = .ok (.ifCond .ne 11, 3) := by decide +kernel
theorem dX9_starts_69 : decode cX9_starts 69 = .ok (.iload 4, 2) := by decide +kernel
theorem dX9_starts_71 : decode cX9_starts 71 = .ok (.iload 8, 2) := by decide +kernel
theorem dX9_starts_73 : decode cX9_starts 73 = .ok (.iand, 1) := by decide +kernel
theorem dX9_starts_74 : decode cX9_starts 74 = .ok (.ifCond .eq 5, 3) := by decide +kernel
theorem dX9_starts_77 : decode cX9_starts 77 = .ok (.iconst (-1), 1) := by decide +kernel
theorem dX9_starts_78 : decode cX9_starts 78 = .ok (.ireturn, 1) := by decide +kernel
theorem dX9_starts_79 : decode cX9_starts 79 = .ok (.iload_n 3, 1) := by decide +kernel
theorem dX9_starts_80 : decode cX9_starts 80 = .ok (.iload 7, 2) := by decide +kernel
theorem dX9_starts_82 : decode cX9_starts 82 = .ok (.ior, 1) := by decide +kernel
theorem dX9_starts_83 : decode cX9_starts 83 = .ok (.istore_n 3, 1) := by decide +kernel
theorem dX9_starts_84 : decode cX9_starts 84 = .ok (.iload 4, 2) := by decide +kernel
theorem dX9_starts_86 : decode cX9_starts 86 = .ok (.iload 8, 2) := by decide +kernel
theorem dX9_starts_88 : decode cX9_starts 88 = .ok (.ior, 1) := by decide +kernel
theorem dX9_starts_89 : decode cX9_starts 89 = .ok (.istore 4, 2) := by decide +kernel
theorem dX9_starts_91 : decode cX9_starts 91 = .ok (.iinc 5 1, 3) := by decide +kernel
theorem dX9_starts_94 : decode cX9_starts 94 = .ok (.goto (-86), 3) := by decide +kernel
theorem dX9_starts_97 : decode cX9_starts 97 = .ok (.iload_n 3, 1) := by decide +kernel
theorem dX9_starts_98 : decode cX9_starts 98 = .ok (.iload 4, 2) := by decide +kernel
theorem dX9_starts_100 : decode cX9_starts 100 = .ok (.iconst (-1), 1) := by decide +kernel
theorem dX9_starts_101 : decode cX9_starts 101 = .ok (.ixor, 1) := by decide +kernel
theorem dX9_starts_102 : decode cX9_starts 102 = .ok (.iand, 1) := by decide +kernel
theorem dX9_starts_103 : decode cX9_starts 103 = .ok (.ireturn, 1) := by decide +kernel
theorem dX9_leaves_0 : decode cX9_leaves 0 = .ok (.iload_n 2, 1) := by decide +kernel
theorem dX9_leaves_1 : decode cX9_leaves 1 = .ok (.ifCond .le 12, 3) := by decide +kernel
theorem dX9_leaves_4 : decode cX9_leaves 4 = .ok (.aload_n 0, 1) := by decide +kernel
theorem dX9_leaves_5 : decode cX9_leaves 5 = .ok (.getfield 18, 3) := by decide +kernel
theorem dX9_leaves_8 : decode cX9_leaves 8 = .ok (.iload_n 1, 1) := by decide +kernel
theorem dX9_leaves_9 : decode cX9_leaves 9 = .ok (.iaload, 1) := by decide +kernel
theorem dX9_leaves_10 : decode cX9_leaves 10 = .ok (.goto 9, 3) := by decide +kernel
theorem dX9_leaves_13 : decode cX9_leaves 13 = .ok (.aload_n 0, 1) := by decide +kernel
theorem dX9_leaves_14 : decode cX9_leaves 14 = .ok (.getfield 22, 3) := by decide +kernel
theorem dX9_leaves_17 : decode cX9_leaves 17 = .ok (.iload_n 1, 1) := by decide +kernel
theorem dX9_leaves_18 : decode cX9_leaves 18 = .ok (.iaload, 1) := by decide +kernel
theorem dX9_leaves_19 : decode cX9_leaves 19 = .ok (.ireturn, 1) := by decide +kernel
theorem dX9_reaches_0 : decode cX9_reaches 0 = .ok (.iload_n 2, 1) := by decide +kernel
theorem dX9_reaches_1 : decode cX9_reaches 1 = .ok (.ifCond .le 12, 3) := by decide +kernel
theorem dX9_reaches_4 : decode cX9_reaches 4 = .ok (.aload_n 0, 1) := by decide +kernel
theorem dX9_reaches_5 : decode cX9_reaches 5 = .ok (.getfield 22, 3) := by decide +kernel
theorem dX9_reaches_8 : decode cX9_reaches 8 = .ok (.iload_n 1, 1) := by decide +kernel
theorem dX9_reaches_9 : decode cX9_reaches 9 = .ok (.iaload, 1) := by decide +kernel
theorem dX9_reaches_10 : decode cX9_reaches 10 = .ok (.goto 9, 3) := by decide +kernel
theorem dX9_reaches_13 : decode cX9_reaches 13 = .ok (.aload_n 0, 1) := by decide +kernel
theorem dX9_reaches_14 : decode cX9_reaches 14 = .ok (.getfield 18, 3) := by decide +kernel
theorem dX9_reaches_17 : decode cX9_reaches 17 = .ok (.iload_n 1, 1) := by decide +kernel
theorem dX9_reaches_18 : decode cX9_reaches 18 = .ok (.iaload, 1) := by decide +kernel
theorem dX9_reaches_19 : decode cX9_reaches 19 = .ok (.ireturn, 1) := by decide +kernel
theorem dX9_endOf_0 : decode cX9_endOf 0 = .ok (.aload_n 0, 1) := by decide +kernel
theorem dX9_endOf_1 : decode cX9_endOf 1 = .ok (.getfield 37, 3) := by decide +kernel
theorem dX9_endOf_4 : decode cX9_endOf 4 = .ok (.ifCond .eq 33, 3) := by decide +kernel
theorem dX9_endOf_7 : decode cX9_endOf 7 = .ok (.iload_n 1, 1) := by decide +kernel
theorem dX9_endOf_8 : decode cX9_endOf 8 = .ok (.ifCond .lt 29, 3) := by decide +kernel
theorem dX9_endOf_11 : decode cX9_endOf 11 = .ok (.iload_n 1, 1) := by decide +kernel
theorem dX9_endOf_12 : decode cX9_endOf 12 = .ok (.aload_n 0, 1) := by decide +kernel
theorem dX9_endOf_13 : decode cX9_endOf 13 = .ok (.getfield 12, 3) := by decide +kernel
theorem dX9_endOf_16 : decode cX9_endOf 16 = .ok (.getfield 41, 3) := by decide +kernel
theorem dX9_endOf_19 : decode cX9_endOf 19 = .ok (.if_icmp .ge 18, 3) := by decide +kernel
theorem dX9_endOf_22 : decode cX9_endOf 22 = .ok (.iload_n 1, 1) := by decide +kernel
theorem dX9_endOf_23 : decode cX9_endOf 23 = .ok (.bipush 6, 2) := by decide +kernel
theorem dX9_endOf_25 : decode cX9_endOf 25 = .ok (.if_icmp .ge 12, 3) := by decide +kernel
theorem dX9_endOf_28 : decode cX9_endOf 28 = .ok (.iload_n 2, 1) := by decide +kernel
theorem dX9_endOf_29 : decode cX9_endOf 29 = .ok (.ifCond .lt 8, 3) := by decide +kernel
theorem dX9_endOf_32 : decode cX9_endOf 32 = .ok (.iload_n 2, 1) := by decide +kernel
theorem dX9_endOf_33 : decode cX9_endOf 33 = .ok (.iconst 1, 1) := by decide +kernel
theorem dX9_endOf_34 : decode cX9_endOf 34 = .ok (.if_icmp .le 5, 3) := by decide +kernel
theorem dX9_endOf_37 : decode cX9_endOf 37 = .ok (.iconst (-1), 1) := by decide +kernel
theorem dX9_endOf_38 : decode cX9_endOf 38 = .ok (.ireturn, 1) := by decide +kernel
theorem dX9_endOf_39 : decode cX9_endOf 39 = .ok (.iload_n 2, 1) := by decide +kernel
theorem dX9_endOf_40 : decode cX9_endOf 40 = .ok (.ifCond .ne 12, 3) := by decide +kernel
theorem dX9_endOf_43 : decode cX9_endOf 43 = .ok (.aload_n 0, 1) := by decide +kernel
theorem dX9_endOf_44 : decode cX9_endOf 44 = .ok (.getfield 18, 3) := by decide +kernel
theorem dX9_endOf_47 : decode cX9_endOf 47 = .ok (.iload_n 1, 1) := by decide +kernel
theorem dX9_endOf_48 : decode cX9_endOf 48 = .ok (.iaload, 1) := by decide +kernel
theorem dX9_endOf_49 : decode cX9_endOf 49 = .ok (.goto 9, 3) := by decide +kernel
theorem dX9_endOf_52 : decode cX9_endOf 52 = .ok (.aload_n 0, 1) := by decide +kernel
theorem dX9_endOf_53 : decode cX9_endOf 53 = .ok (.getfield 22, 3) := by decide +kernel
theorem dX9_endOf_56 : decode cX9_endOf 56 = .ok (.iload_n 1, 1) := by decide +kernel
theorem dX9_endOf_57 : decode cX9_endOf 57 = .ok (.iaload, 1) := by decide +kernel
theorem dX9_endOf_58 : decode cX9_endOf 58 = .ok (.ireturn, 1) := by decide +kernel
theorem dX9_arcOnWay_0 : decode cX9_arcOnWay 0 = .ok (.aload_n 0, 1) := by decide +kernel
theorem dX9_arcOnWay_1 : decode cX9_arcOnWay 1 = .ok (.getfield 37, 3) := by decide +kernel
theorem dX9_arcOnWay_4 : decode cX9_arcOnWay 4 = .ok (.ifCond .eq 33, 3) := by decide +kernel
theorem dX9_arcOnWay_7 : decode cX9_arcOnWay 7 = .ok (.iload_n 2, 1) := by decide +kernel
theorem dX9_arcOnWay_8 : decode cX9_arcOnWay 8 = .ok (.ifCond .lt 29, 3) := by decide +kernel
theorem dX9_arcOnWay_11 : decode cX9_arcOnWay 11 = .ok (.iload_n 2, 1) := by decide +kernel
theorem dX9_arcOnWay_12 : decode cX9_arcOnWay 12 = .ok (.aload_n 0, 1) := by decide +kernel
theorem dX9_arcOnWay_13 : decode cX9_arcOnWay 13 = .ok (.getfield 12, 3) := by decide +kernel
theorem dX9_arcOnWay_16 : decode cX9_arcOnWay 16 = .ok (.getfield 41, 3) := by decide +kernel
theorem dX9_arcOnWay_19 : decode cX9_arcOnWay 19 = .ok (.if_icmp .ge 18, 3) := by decide +kernel
theorem dX9_arcOnWay_22 : decode cX9_arcOnWay 22 = .ok (.iload_n 1, 1) := by decide +kernel
theorem dX9_arcOnWay_23 : decode cX9_arcOnWay 23 = .ok (.ifCond .lt 14, 3) := by decide +kernel
theorem dX9_arcOnWay_26 : decode cX9_arcOnWay 26 = .ok (.iload_n 1, 1) := by decide +kernel
theorem dX9_arcOnWay_27 : decode cX9_arcOnWay 27 = .ok (.aload_n 0, 1) := by decide +kernel
theorem dX9_arcOnWay_28 : decode cX9_arcOnWay 28 = .ok (.getfield 12, 3) := by decide +kernel
theorem dX9_arcOnWay_31 : decode cX9_arcOnWay 31 = .ok (.getfield 67, 3) := by decide +kernel
theorem dX9_arcOnWay_34 : decode cX9_arcOnWay 34 = .ok (.if_icmp .lt 5, 3) := by decide +kernel
theorem dX9_arcOnWay_37 : decode cX9_arcOnWay 37 = .ok (.iconst (-1), 1) := by decide +kernel
theorem dX9_arcOnWay_38 : decode cX9_arcOnWay 38 = .ok (.ireturn, 1) := by decide +kernel
theorem dX9_arcOnWay_39 : decode cX9_arcOnWay 39 = .ok (.aload_n 0, 1) := by decide +kernel
theorem dX9_arcOnWay_40 : decode cX9_arcOnWay 40 = .ok (.iload_n 1, 1) := by decide +kernel
theorem dX9_arcOnWay_41 : decode cX9_arcOnWay 41 = .ok (.aload_n 0, 1) := by decide +kernel
theorem dX9_arcOnWay_42 : decode cX9_arcOnWay 42 = .ok (.getfield 12, 3) := by decide +kernel
theorem dX9_arcOnWay_45 : decode cX9_arcOnWay 45 = .ok (.getfield 41, 3) := by decide +kernel
theorem dX9_arcOnWay_48 : decode cX9_arcOnWay 48 = .ok (.iconst 1, 1) := by decide +kernel
theorem dX9_arcOnWay_49 : decode cX9_arcOnWay 49 = .ok (.isub, 1) := by decide +kernel
theorem dX9_arcOnWay_50 : decode cX9_arcOnWay 50 = .ok (.invokevirtual 70, 3) := by decide +kernel
theorem dX9_arcOnWay_53 : decode cX9_arcOnWay 53 = .ok (.iconst 1, 1) := by decide +kernel
theorem dX9_arcOnWay_54 : decode cX9_arcOnWay 54 = .ok (.isub, 1) := by decide +kernel
theorem dX9_arcOnWay_55 : decode cX9_arcOnWay 55 = .ok (.invokestatic 73, 3) := by decide +kernel
theorem dX9_arcOnWay_58 : decode cX9_arcOnWay 58 = .ok (.istore_n 3, 1) := by decide +kernel
theorem dX9_arcOnWay_59 : decode cX9_arcOnWay 59 = .ok (.aload_n 0, 1) := by decide +kernel
theorem dX9_arcOnWay_60 : decode cX9_arcOnWay 60 = .ok (.iload_n 1, 1) := by decide +kernel
theorem dX9_arcOnWay_61 : decode cX9_arcOnWay 61 = .ok (.iload_n 3, 1) := by decide +kernel
theorem dX9_arcOnWay_62 : decode cX9_arcOnWay 62 = .ok (.invokevirtual 88, 3) := by decide +kernel
theorem dX9_arcOnWay_65 : decode cX9_arcOnWay 65 = .ok (.istore 4, 2) := by decide +kernel
theorem dX9_arcOnWay_67 : decode cX9_arcOnWay 67 = .ok (.iconst 0, 1) := by decide +kernel
theorem dX9_arcOnWay_68 : decode cX9_arcOnWay 68 = .ok (.istore 5, 2) := by decide +kernel
theorem dX9_arcOnWay_70 : decode cX9_arcOnWay 70 = .ok (.iload 5, 2) := by decide +kernel
theorem dX9_arcOnWay_72 : decode cX9_arcOnWay 72 = .ok (.iload_n 2, 1) := by decide +kernel
theorem dX9_arcOnWay_73 : decode cX9_arcOnWay 73 = .ok (.if_icmp .ge 45, 3) := by decide +kernel
theorem dX9_arcOnWay_76 : decode cX9_arcOnWay 76 = .ok (.iload 5, 2) := by decide +kernel
theorem dX9_arcOnWay_78 : decode cX9_arcOnWay 78 = .ok (.bipush 6, 2) := by decide +kernel
theorem dX9_arcOnWay_80 : decode cX9_arcOnWay 80 = .ok (.if_icmp .ge 38, 3) := by decide +kernel
theorem dX9_arcOnWay_83 : decode cX9_arcOnWay 83 = .ok (.iload 4, 2) := by decide +kernel
theorem dX9_arcOnWay_85 : decode cX9_arcOnWay 85 = .ok (.iconst (-1), 1) := by decide +kernel
theorem dX9_arcOnWay_86 : decode cX9_arcOnWay 86 = .ok (.if_icmp .eq 32, 3) := by decide +kernel
theorem dX9_arcOnWay_89 : decode cX9_arcOnWay 89 = .ok (.aload_n 0, 1) := by decide +kernel
theorem dX9_arcOnWay_90 : decode cX9_arcOnWay 90 = .ok (.iload_n 1, 1) := by decide +kernel
theorem dX9_arcOnWay_91 : decode cX9_arcOnWay 91 = .ok (.aload_n 0, 1) := by decide +kernel
theorem dX9_arcOnWay_92 : decode cX9_arcOnWay 92 = .ok (.iload 4, 2) := by decide +kernel
theorem dX9_arcOnWay_94 : decode cX9_arcOnWay 94 = .ok (.aload_n 0, 1) := by decide +kernel
theorem dX9_arcOnWay_95 : decode cX9_arcOnWay 95 = .ok (.getfield 12, 3) := by decide +kernel
theorem dX9_arcOnWay_98 : decode cX9_arcOnWay 98 = .ok (.iload 4, 2) := by decide +kernel
theorem dX9_arcOnWay_100 : decode cX9_arcOnWay 100 = .ok (.iload_n 1, 1) := by decide +kernel
theorem dX9_arcOnWay_101 : decode cX9_arcOnWay 101 = .ok (.invokevirtual 79, 3) := by decide +kernel
theorem dX9_arcOnWay_104 : decode cX9_arcOnWay 104 = .ok (.invokevirtual 85, 3) := by decide +kernel
theorem dX9_arcOnWay_107 : decode cX9_arcOnWay 107 = .ok (.invokevirtual 88, 3) := by decide +kernel
theorem dX9_arcOnWay_110 : decode cX9_arcOnWay 110 = .ok (.istore 4, 2) := by decide +kernel
theorem dX9_arcOnWay_112 : decode cX9_arcOnWay 112 = .ok (.iinc 5 1, 3) := by decide +kernel
theorem dX9_arcOnWay_115 : decode cX9_arcOnWay 115 = .ok (.goto (-45), 3) := by decide +kernel
theorem dX9_arcOnWay_118 : decode cX9_arcOnWay 118 = .ok (.iload 4, 2) := by decide +kernel
theorem dX9_arcOnWay_120 : decode cX9_arcOnWay 120 = .ok (.ireturn, 1) := by decide +kernel
theorem dX9_arcFrom_0 : decode cX9_arcFrom 0 = .ok (.iconst 0, 1) := by decide +kernel
theorem dX9_arcFrom_1 : decode cX9_arcFrom 1 = .ok (.istore_n 3, 1) := by decide +kernel
theorem dX9_arcFrom_2 : decode cX9_arcFrom 2 = .ok (.iload_n 3, 1) := by decide +kernel
theorem dX9_arcFrom_3 : decode cX9_arcFrom 3 = .ok (.aload_n 0, 1) := by decide +kernel
theorem dX9_arcFrom_4 : decode cX9_arcFrom 4 = .ok (.getfield 12, 3) := by decide +kernel
theorem dX9_arcFrom_7 : decode cX9_arcFrom 7 = .ok (.getfield 41, 3) := by decide +kernel
theorem dX9_arcFrom_10 : decode cX9_arcFrom 10 = .ok (.if_icmp .ge 44, 3) := by decide +kernel
theorem dX9_arcFrom_13 : decode cX9_arcFrom 13 = .ok (.iload_n 3, 1) := by decide +kernel
theorem dX9_arcFrom_14 : decode cX9_arcFrom 14 = .ok (.bipush 6, 2) := by decide +kernel
theorem dX9_arcFrom_16 : decode cX9_arcFrom 16 = .ok (.if_icmp .ge 38, 3) := by decide +kernel
theorem dX9_arcFrom_19 : decode cX9_arcFrom 19 = .ok (.aload_n 0, 1) := by decide +kernel
theorem dX9_arcFrom_20 : decode cX9_arcFrom 20 = .ok (.getfield 12, 3) := by decide +kernel
theorem dX9_arcFrom_23 : decode cX9_arcFrom 23 = .ok (.iload_n 3, 1) := by decide +kernel
theorem dX9_arcFrom_24 : decode cX9_arcFrom 24 = .ok (.iload_n 1, 1) := by decide +kernel
theorem dX9_arcFrom_25 : decode cX9_arcFrom 25 = .ok (.invokevirtual 79, 3) := by decide +kernel
theorem dX9_arcFrom_28 : decode cX9_arcFrom 28 = .ok (.istore 4, 2) := by decide +kernel
theorem dX9_arcFrom_30 : decode cX9_arcFrom 30 = .ok (.iload 4, 2) := by decide +kernel
theorem dX9_arcFrom_32 : decode cX9_arcFrom 32 = .ok (.ifCond .eq 16, 3) := by decide +kernel
theorem dX9_arcFrom_35 : decode cX9_arcFrom 35 = .ok (.aload_n 0, 1) := by decide +kernel
theorem dX9_arcFrom_36 : decode cX9_arcFrom 36 = .ok (.iload_n 3, 1) := by decide +kernel
theorem dX9_arcFrom_37 : decode cX9_arcFrom 37 = .ok (.iload 4, 2) := by decide +kernel
theorem dX9_arcFrom_39 : decode cX9_arcFrom 39 = .ok (.invokevirtual 82, 3) := by decide +kernel
theorem dX9_arcFrom_42 : decode cX9_arcFrom 42 = .ok (.iload_n 2, 1) := by decide +kernel
theorem dX9_arcFrom_43 : decode cX9_arcFrom 43 = .ok (.if_icmp .ne 5, 3) := by decide +kernel
theorem dX9_arcFrom_46 : decode cX9_arcFrom 46 = .ok (.iload_n 3, 1) := by decide +kernel
theorem dX9_arcFrom_47 : decode cX9_arcFrom 47 = .ok (.ireturn, 1) := by decide +kernel
theorem dX9_arcFrom_48 : decode cX9_arcFrom 48 = .ok (.iinc 3 1, 3) := by decide +kernel
theorem dX9_arcFrom_51 : decode cX9_arcFrom 51 = .ok (.goto (-49), 3) := by decide +kernel
theorem dX9_arcFrom_54 : decode cX9_arcFrom 54 = .ok (.iconst (-1), 1) := by decide +kernel
theorem dX9_arcFrom_55 : decode cX9_arcFrom 55 = .ok (.ireturn, 1) := by decide +kernel
theorem dX10_knownTree_0 : decode cX10_knownTree 0 = .ok (.iload_n 1, 1) := by decide +kernel
theorem dX10_knownTree_1 : decode cX10_knownTree 1 = .ok (.ifCond .ne 10, 3) := by decide +kernel
theorem dX10_knownTree_4 : decode cX10_knownTree 4 = .ok (.aload_n 0, 1) := by decide +kernel
theorem dX10_knownTree_5 : decode cX10_knownTree 5 = .ok (.getfield 63, 3) := by decide +kernel
theorem dX10_knownTree_8 : decode cX10_knownTree 8 = .ok (.goto 7, 3) := by decide +kernel
theorem dX10_knownTree_11 : decode cX10_knownTree 11 = .ok (.aload_n 0, 1) := by decide +kernel
theorem dX10_knownTree_12 : decode cX10_knownTree 12 = .ok (.getfield 67, 3) := by decide +kernel
theorem dX10_knownTree_15 : decode cX10_knownTree 15 = .ok (.astore_n 2, 1) := by decide +kernel
theorem dX10_knownTree_16 : decode cX10_knownTree 16 = .ok (.aload_n 2, 1) := by decide +kernel
theorem dX10_knownTree_17 : decode cX10_knownTree 17 = .ok (.getfield 342, 3) := by decide +kernel
theorem dX10_knownTree_20 : decode cX10_knownTree 20 = .ok (.ifCond .ne 33, 3) := by decide +kernel
theorem dX10_knownTree_23 : decode cX10_knownTree 23 = .ok (.aload_n 2, 1) := by decide +kernel
theorem dX10_knownTree_24 : decode cX10_knownTree 24 = .ok (.aload_n 0, 1) := by decide +kernel
theorem dX10_knownTree_25 : decode cX10_knownTree 25 = .ok (.getfield 19, 3) := by decide +kernel
theorem dX10_knownTree_28 : decode cX10_knownTree 28 = .ok (.iload_n 1, 1) := by decide +kernel
theorem dX10_knownTree_29 : decode cX10_knownTree 29 = .ok (.iconst 1, 1) := by decide +kernel
theorem dX10_knownTree_30 : decode cX10_knownTree 30 = .ok (.if_icmp .ne 7, 3) := by decide +kernel
theorem dX10_knownTree_33 : decode cX10_knownTree 33 = .ok (.iconst 1, 1) := by decide +kernel
theorem dX10_knownTree_34 : decode cX10_knownTree 34 = .ok (.goto 4, 3) := by decide +kernel
theorem dX10_knownTree_37 : decode cX10_knownTree 37 = .ok (.iconst 0, 1) := by decide +kernel
theorem dX10_knownTree_38 : decode cX10_knownTree 38 = .ok (.aload_n 0, 1) := by decide +kernel
theorem dX10_knownTree_39 : decode cX10_knownTree 39 = .ok (.invokevirtual 190, 3) := by decide +kernel
theorem dX10_knownTree_42 : decode cX10_knownTree 42 = .ok (.invokevirtual 200, 3) := by decide +kernel
theorem dX10_knownTree_45 : decode cX10_knownTree 45 = .ok (.invokevirtual 347, 3) := by decide +kernel
theorem dX10_knownTree_48 : decode cX10_knownTree 48 = .ok (.aload_n 2, 1) := by decide +kernel
theorem dX10_knownTree_49 : decode cX10_knownTree 49 = .ok (.iconst 1, 1) := by decide +kernel
theorem dX10_knownTree_50 : decode cX10_knownTree 50 = .ok (.putfield 342, 3) := by decide +kernel
theorem dX10_knownTree_53 : decode cX10_knownTree 53 = .ok (.aload_n 2, 1) := by decide +kernel
theorem dX10_knownTree_54 : decode cX10_knownTree 54 = .ok (.areturn, 1) := by decide +kernel
theorem dX10_network_0 : decode cX10_network 0 = .ok (.aload_n 0, 1) := by decide +kernel
theorem dX10_network_1 : decode cX10_network 1 = .ok (.iload_n 1, 1) := by decide +kernel
theorem dX10_network_2 : decode cX10_network 2 = .ok (.invokevirtual 212, 3) := by decide +kernel
theorem dX10_network_5 : decode cX10_network 5 = .ok (.ifCond .ne 5, 3) := by decide +kernel
theorem dX10_network_8 : decode cX10_network 8 = .ok (.iconst (-1), 1) := by decide +kernel
theorem dX10_network_9 : decode cX10_network 9 = .ok (.ireturn, 1) := by decide +kernel
theorem dX10_network_10 : decode cX10_network 10 = .ok (.aload_n 0, 1) := by decide +kernel
theorem dX10_network_11 : decode cX10_network 11 = .ok (.iload_n 1, 1) := by decide +kernel
theorem dX10_network_12 : decode cX10_network 12 = .ok (.invokevirtual 215, 3) := by decide +kernel
theorem dX10_network_15 : decode cX10_network 15 = .ok (.getfield 219, 3) := by decide +kernel
theorem dX10_network_18 : decode cX10_network 18 = .ok (.ifCond .eq 7, 3) := by decide +kernel
theorem dX10_network_21 : decode cX10_network 21 = .ok (.iconst 1, 1) := by decide +kernel
theorem dX10_network_22 : decode cX10_network 22 = .ok (.goto 4, 3) := by decide +kernel
theorem dX10_network_25 : decode cX10_network 25 = .ok (.iconst 0, 1) := by decide +kernel
theorem dX10_network_26 : decode cX10_network 26 = .ok (.ireturn, 1) := by decide +kernel
theorem dX10_arc_0 : decode cX10_arc 0 = .ok (.aload_n 0, 1) := by decide +kernel
theorem dX10_arc_1 : decode cX10_arc 1 = .ok (.iload_n 1, 1) := by decide +kernel
theorem dX10_arc_2 : decode cX10_arc 2 = .ok (.invokevirtual 212, 3) := by decide +kernel
theorem dX10_arc_5 : decode cX10_arc 5 = .ok (.ifCond .eq 16, 3) := by decide +kernel
theorem dX10_arc_8 : decode cX10_arc 8 = .ok (.aload_n 0, 1) := by decide +kernel
theorem dX10_arc_9 : decode cX10_arc 9 = .ok (.iload_n 1, 1) := by decide +kernel
theorem dX10_arc_10 : decode cX10_arc 10 = .ok (.invokevirtual 215, 3) := by decide +kernel
theorem dX10_arc_13 : decode cX10_arc 13 = .ok (.iload_n 2, 1) := by decide +kernel
theorem dX10_arc_14 : decode cX10_arc 14 = .ok (.iload_n 3, 1) := by decide +kernel
theorem dX10_arc_15 : decode cX10_arc 15 = .ok (.invokevirtual 223, 3) := by decide +kernel
theorem dX10_arc_18 : decode cX10_arc 18 = .ok (.goto 4, 3) := by decide +kernel
theorem dX10_arc_21 : decode cX10_arc 21 = .ok (.iconst (-1), 1) := by decide +kernel
theorem dX10_arc_22 : decode cX10_arc 22 = .ok (.ireturn, 1) := by decide +kernel
theorem dX10_way_0 : decode cX10_way 0 = .ok (.aload_n 0, 1) := by decide +kernel
theorem dX10_way_1 : decode cX10_way 1 = .ok (.iload_n 1, 1) := by decide +kernel
theorem dX10_way_2 : decode cX10_way 2 = .ok (.invokevirtual 212, 3) := by decide +kernel
theorem dX10_way_5 : decode cX10_way 5 = .ok (.ifCond .eq 16, 3) := by decide +kernel
theorem dX10_way_8 : decode cX10_way 8 = .ok (.aload_n 0, 1) := by decide +kernel
theorem dX10_way_9 : decode cX10_way 9 = .ok (.iload_n 1, 1) := by decide +kernel
theorem dX10_way_10 : decode cX10_way 10 = .ok (.invokevirtual 215, 3) := by decide +kernel
theorem dX10_way_13 : decode cX10_way 13 = .ok (.iload_n 2, 1) := by decide +kernel
theorem dX10_way_14 : decode cX10_way 14 = .ok (.iload_n 3, 1) := by decide +kernel
theorem dX10_way_15 : decode cX10_way 15 = .ok (.invokevirtual 226, 3) := by decide +kernel
theorem dX10_way_18 : decode cX10_way 18 = .ok (.goto 4, 3) := by decide +kernel
theorem dX10_way_21 : decode cX10_way 21 = .ok (.iconst (-1), 1) := by decide +kernel
theorem dX10_way_22 : decode cX10_way 22 = .ok (.ireturn, 1) := by decide +kernel
theorem dX10_hasSide_0 : decode cX10_hasSide 0 = .ok (.aload_n 0, 1) := by decide +kernel
theorem dX10_hasSide_1 : decode cX10_hasSide 1 = .ok (.getfield 19, 3) := by decide +kernel
theorem dX10_hasSide_4 : decode cX10_hasSide 4 = .ok (.invokevirtual 152, 3) := by decide +kernel
theorem dX10_hasSide_7 : decode cX10_hasSide 7 = .ok (.ifCond .ne 16, 3) := by decide +kernel
theorem dX10_hasSide_10 : decode cX10_hasSide 10 = .ok (.iload_n 1, 1) := by decide +kernel
theorem dX10_hasSide_11 : decode cX10_hasSide 11 = .ok (.ifCond .eq 8, 3) := by decide +kernel
theorem dX10_hasSide_14 : decode cX10_hasSide 14 = .ok (.iload_n 1, 1) := by decide +kernel
theorem dX10_hasSide_15 : decode cX10_hasSide 15 = .ok (.iconst 1, 1) := by decide +kernel
theorem dX10_hasSide_16 : decode cX10_hasSide 16 = .ok (.if_icmp .ne 7, 3) := by decide +kernel
theorem dX10_hasSide_19 : decode cX10_hasSide 19 = .ok (.iconst 1, 1) := by decide +kernel
theorem dX10_hasSide_20 : decode cX10_hasSide 20 = .ok (.goto 4, 3) := by decide +kernel
theorem dX10_hasSide_23 : decode cX10_hasSide 23 = .ok (.iconst 0, 1) := by decide +kernel
theorem dX10_hasSide_24 : decode cX10_hasSide 24 = .ok (.ireturn, 1) := by decide +kernel
theorem sml_pos {v : Int32} (h : sml v) : (v ≤ 0 ↔ ¬ v = 1) := by rcases h with rfl | rfl | rfl <;> decide
theorem c_leaves {σ : sg} {x : aW} {b n r : Nat} {t : tre} (hD : DL b) (ha : AC σ b t n) (hn : n ≤ 6) (hr : r < n) {v : Int32} (hv : sml v) : Mt mX9_leaves 0 0 0 [.ref b, .int (nI r), .int v] (wd σ x) (QI (nI (if v = 1 then t.1 r else t.2 r)) (wd σ x)) := by
  refine Mt.of MI_X9_leaves (Nat.le_of_ble_eq_true rfl) (fun X hC hR hT => ?_)
  obtain ⟨a1, a2⟩ := ha r hr
  refine R_iload_n (i := 2) hC dX9_leaves_0 rfl rfl ?_
  refine R_if_le hC 13 dX9_leaves_1 (by decide) (fun h1 => ?_) (fun h1 => ?_)
  · refine R_aload_n (i := 0) hC dX9_leaves_13 rfl rfl (R_gR hC dX9_leaves_14 fl_X9_22 hD.1 rfl (R_iload_n (i := 1) hC dX9_leaves_17 rfl rfl (R_aI hC dX9_leaves_18 hD.2.2.2 r rfl (by omega) (by decide) ?_)))
    exact R_iret hC hT dX9_leaves_19 rfl ⟨by first | (rw [a2, if_neg ((sml_pos hv).mp h1)]) | (rw [a1, if_pos (Classical.byContradiction fun z => h1 ((sml_pos hv).mpr z))]), rfl⟩
  · refine R_aload_n (i := 0) hC dX9_leaves_4 rfl rfl (R_gR hC dX9_leaves_5 fl_X9_18 hD.1 rfl (R_iload_n (i := 1) hC dX9_leaves_8 rfl rfl (R_aI hC dX9_leaves_9 hD.2.2.1 r rfl (by omega) (by decide) (R_goto hC 19 dX9_leaves_10 (by decide) ?_))))
    exact R_iret hC hT dX9_leaves_19 rfl ⟨by first | (rw [a2, if_neg ((sml_pos hv).mp h1)]) | (rw [a1, if_pos (Classical.byContradiction fun z => h1 ((sml_pos hv).mpr z))]), rfl⟩
theorem c_reaches {σ : sg} {x : aW} {b n r : Nat} {t : tre} (hD : DL b) (ha : AC σ b t n) (hn : n ≤ 6) (hr : r < n) {v : Int32} (hv : sml v) : Mt mX9_reaches 0 0 0 [.ref b, .int (nI r), .int v] (wd σ x) (QI (nI (if v = 1 then t.2 r else t.1 r)) (wd σ x)) := by
  refine Mt.of MI_X9_reaches (Nat.le_of_ble_eq_true rfl) (fun X hC hR hT => ?_)
  obtain ⟨a1, a2⟩ := ha r hr
  refine R_iload_n (i := 2) hC dX9_reaches_0 rfl rfl ?_
  refine R_if_le hC 13 dX9_reaches_1 (by decide) (fun h1 => ?_) (fun h1 => ?_)
  · refine R_aload_n (i := 0) hC dX9_reaches_13 rfl rfl (R_gR hC dX9_reaches_14 fl_X9_18 hD.1 rfl (R_iload_n (i := 1) hC dX9_reaches_17 rfl rfl (R_aI hC dX9_reaches_18 hD.2.2.1 r rfl (by omega) (by decide) ?_)))
    exact R_iret hC hT dX9_reaches_19 rfl ⟨by first | (rw [a1, if_neg ((sml_pos hv).mp h1)]) | (rw [a2, if_pos (Classical.byContradiction fun z => h1 ((sml_pos hv).mpr z))]), rfl⟩
  · refine R_aload_n (i := 0) hC dX9_reaches_4 rfl rfl (R_gR hC dX9_reaches_5 fl_X9_22 hD.1 rfl (R_iload_n (i := 1) hC dX9_reaches_8 rfl rfl (R_aI hC dX9_reaches_9 hD.2.2.2 r rfl (by omega) (by decide) (R_goto hC 19 dX9_reaches_10 (by decide) ?_))))
    exact R_iret hC hT dX9_reaches_19 rfl ⟨by first | (rw [a1, if_neg ((sml_pos hv).mp h1)]) | (rw [a2, if_pos (Classical.byContradiction fun z => h1 ((sml_pos hv).mpr z))]), rfl⟩
theorem c_arcsAt {σ : sg} {x : aW} {b n node : Nat} {t : tre} (hD : DL b) (ha : AC σ b t n) (hn : n ≤ 6) (hnode : node ≤ 6) (hok : ∀ r, r < n → t.1 r ≤ 6 ∧ t.2 r ≤ 6) : Mt mX9_arcsAt 0 0 0 [.ref b, .int (nI node), .int (nI n)] (wd σ x) (QI (nI (endM t node n)) (wd σ x)) := by
  refine Mt.of MI_X9_arcsAt (Nat.le_of_ble_eq_true rfl) (fun X hC hR hT => ?_)
  have lp : ∀ j, j ≤ n → Rw mX9_arcsAt X 5 [some (.ref b), some (.int (nI node)), some (.int (nI n)), some (.int (nI (endM t node j))), some (.int (nI j))] [] (wd σ x) 0 0 := by
    refine up_loop n ?_ ?_
    · refine R_iload hC dX9_arcsAt_5 rfl (R_iload_n (i := 2) hC dX9_arcsAt_7 rfl rfl ?_)
      refine R_icmp_ge hC 53 dX9_arcsAt_8 (by decide) (fun _ => ?_) (fun h => absurd (Int32.le_refl _) h)
      refine R_iload_n (i := 3) hC dX9_arcsAt_53 rfl rfl ?_
      exact R_iret hC hT dX9_arcsAt_54 rfl ⟨rfl, rfl⟩
    · intro j hj ih
      obtain ⟨a1, a2⟩ := ha j hj
      obtain ⟨b1, b2⟩ := hok j hj
      have e1 := nI_eq (a := t.1 j) (b := node) (by omega) (by omega)
      have e2 := nI_eq (a := t.2 j) (b := node) (by omega) (by omega)
      have lt := endM_lt t node j
      have p6 : 2 ^ j ≤ 32 := Nat.pow_le_pow_right (n := 2) (by decide) (show j ≤ 5 by omega)
      have add : nI (endM t node j) ||| nI (2 ^ j) = nI (endM t node j + 2 ^ j) := by
        have z := Nat.two_pow_add_eq_or_of_lt lt 1
        rw [Nat.mul_one] at z
        rw [nI_or _ (by omega) _ (by omega), Nat.add_comm, Nat.or_comm, z]
      have mt1 : (t.1 j = node ∨ t.2 j = node) → endM t node (j + 1) = endM t node j + 2 ^ j := fun z => by rw [endM, if_pos z]
      have mt0 : ¬ (t.1 j = node ∨ t.2 j = node) → endM t node (j + 1) = endM t node j := fun z => by rw [endM, if_neg z]
      have yes : (t.1 j = node ∨ t.2 j = node) → Rw mX9_arcsAt X 40 [some (.ref b), some (.int (nI node)), some (.int (nI n)), some (.int (nI (endM t node j))), some (.int (nI j))] [] (wd σ x) 0 0 := by
        intro z
        have ih := ih
        rw [mt1 z] at ih
        refine R_iload_n (i := 3) hC dX9_arcsAt_40 rfl rfl (R_iconst (v := 1) hC dX9_arcsAt_41 (by decide) (R_iload hC dX9_arcsAt_42 rfl (R_ishl hC dX9_arcsAt_44 ?_)))
        refine R_top (y := nI (2 ^ j)) (shl1 _ (by omega)) ?_
        refine R_ior hC dX9_arcsAt_45 ?_
        refine R_top (y := nI (endM t node j + 2 ^ j)) (add) ?_
        refine R_istore_n (i := 3) hC dX9_arcsAt_46 rfl (by decide) rfl (R_iinc hC dX9_arcsAt_47 rfl (inc1 _) (by decide) rfl (R_goto hC 5 dX9_arcsAt_50 (by decide) ?_))
        exact ih
      have no : ¬ (t.1 j = node ∨ t.2 j = node) → Rw mX9_arcsAt X 47 [some (.ref b), some (.int (nI node)), some (.int (nI n)), some (.int (nI (endM t node j))), some (.int (nI j))] [] (wd σ x) 0 0 := by
        intro z
        have ih := ih
        rw [mt0 z] at ih
        refine R_iinc hC dX9_arcsAt_47 rfl (inc1 _) (by decide) rfl (R_goto hC 5 dX9_arcsAt_50 (by decide) ?_)
        exact ih
      refine R_iload hC dX9_arcsAt_5 rfl (R_iload_n (i := 2) hC dX9_arcsAt_7 rfl rfl ?_)
      refine R_icmp_ge hC 53 dX9_arcsAt_8 (by decide) (fun h => absurd h (nI_ge hj (by omega))) (fun _ => ?_)
      refine R_iload hC dX9_arcsAt_11 rfl (R_bipush (v := 6) hC dX9_arcsAt_13 (by decide) ?_)
      refine R_icmp_ge hC 53 dX9_arcsAt_15 (by decide) (fun h => absurd h (nI_ge (show j < 6 by omega) (by decide))) (fun _ => ?_)
      refine R_aload_n (i := 0) hC dX9_arcsAt_18 rfl rfl (R_gR hC dX9_arcsAt_19 fl_X9_18 hD.1 rfl (R_iload hC dX9_arcsAt_22 rfl (R_aI hC dX9_arcsAt_24 hD.2.2.1 j rfl (by omega) (by decide) ?_)))
      refine R_top (y := nI (t.1 j)) (a1) ?_
      refine R_iload_n (i := 1) hC dX9_arcsAt_25 rfl rfl ?_
      refine R_icmp_eq hC 40 dX9_arcsAt_26 (by decide) (fun h26 => ?_) (fun h26 => ?_)
      · first | exact yes (Or.inl (e1.mp h26)) | exact yes (Or.inr (e2.mp h37))
      · refine R_aload_n (i := 0) hC dX9_arcsAt_29 rfl rfl (R_gR hC dX9_arcsAt_30 fl_X9_22 hD.1 rfl (R_iload hC dX9_arcsAt_33 rfl (R_aI hC dX9_arcsAt_35 hD.2.2.2 j rfl (by omega) (by decide) ?_)))
        refine R_top (y := nI (t.2 j)) (a2) ?_
        refine R_iload_n (i := 1) hC dX9_arcsAt_36 rfl rfl ?_
        refine R_icmp_ne hC 47 dX9_arcsAt_37 (by decide) (fun h37 => ?_) (fun h37 => ?_)
        · exact no (fun y => y.elim (fun z => h26 (e1.mpr z)) (fun z => h37 (e2.mpr z)))
        · first | exact yes (Or.inl (e1.mp h26)) | exact yes (Or.inr (e2.mp h37))
  refine R_iconst (v := 0) hC dX9_arcsAt_0 (by decide) (R_istore_n (i := 3) hC dX9_arcsAt_1 rfl (by decide) rfl (R_iconst (v := 0) hC dX9_arcsAt_2 (by decide) (R_istore hC dX9_arcsAt_3 (by decide) rfl ?_)))
  exact lp 0 (Nat.zero_le _)
theorem c_moveEnds {σ : sg} {x : aW} {b n set node other : Nat} {t : tre} (hD : DL b) (ha : AC σ b t n) (hn : n ≤ 6) (hnode : node ≤ 6) (hset : set < 64) (hb : ∀ r, set.testBit r = true → r < n) (hok : ∀ r, r < n → t.1 r ≤ 6 ∧ t.2 r ≤ 6) : Mt mX9_moveEnds 1 0 0 [.ref b, .int (nI set), .int (nI node), .int (nI other)] (wd σ x) (fun r w => r = none ∧ ∃ τ, w = wd τ x ∧ AE [b + 3, b + 4] σ τ ∧ AC τ b (bnd set node other t) n) := by
  refine Mt.of MI_X9_moveEnds (Nat.le_of_ble_eq_true rfl) (fun X hC hR hT => ?_)
  have m3 : b + 3 ∈ [b + 3, b + 4] := List.mem_cons_self
  have m4 : b + 4 ∈ [b + 3, b + 4] := List.mem_cons_of_mem _ List.mem_cons_self
  have lp : ∀ j, j ≤ 6 → ∀ τ, AE [b + 3, b + 4] σ τ → AC τ b (bnj set node other j t) n → Rw mX9_moveEnds X 3 [some (.ref b), some (.int (nI set)), some (.int (nI node)), some (.int (nI other)), some (.int (nI j))] [] (wd τ x) 0 0 := by
    refine up_loop 6 ?_ ?_
    · intro τ hg hA
      have fin : AC τ b (bnd set node other t) n := fun r hr => by
        have := hA r hr
        unfold bnj at this
        simp only [show r < 6 by omega, if_true] at this
        exact this
      refine R_iload hC dX9_moveEnds_3 rfl (R_bipush (v := 6) hC dX9_moveEnds_5 (by decide) ?_)
      refine R_icmp_ge hC 55 dX9_moveEnds_7 (by decide) (fun _ => ?_) (fun h => absurd (Int32.le_refl _) h)
      exact R_vret hC hT dX9_moveEnds_55 rfl ⟨rfl, τ, rfl, hg, fin⟩
    · intro j hj ih τ hg hA
      have stay : set.testBit j = false → AC τ b (bnj set node other (j + 1) t) n := fun z r hr => by
        have := hA r hr
        unfold bnj at this ⊢
        by_cases y : r = j
        · subst y
          simp only [show ¬ r < r by omega, if_false] at this
          simp only [show r < r + 1 by omega, if_true, bnd, z, Bool.false_eq_true, false_and, if_false]
          exact this
        · by_cases y2 : r < j
          · simp only [y2, show r < j + 1 by omega, if_true] at this ⊢; exact this
          · simp only [y2, show ¬ r < j + 1 by omega, if_false] at this ⊢; exact this
      have now : j < n → τ.2.2 (b + 3) j = nI (t.1 j) := fun z => by
        have := (hA j z).1
        unfold bnj at this
        simp only [Nat.lt_irrefl, if_false] at this
        exact this
      have e1 : j < n → (nI (t.1 j) = nI node ↔ t.1 j = node) := fun z => nI_eq (by have := hok j z; omega) (by omega)
      have toF : set.testBit j = true → t.1 j = node → AC (sA τ (b + 3) (upd (τ.2.2 (b + 3)) j (nI other))) b (bnj set node other (j + 1) t) n := fun z z2 r hr => by
        have := hA r hr
        have jn := hb j z
        rw [sA_eq, sA_ne (show b + 4 ≠ b + 3 by omega)]
        unfold bnj at this ⊢
        by_cases y : r = j
        · subst y
          simp only [Nat.lt_irrefl, if_false] at this
          simp only [show r < r + 1 by omega, if_true, bnd, z, z2, true_and, not_true_eq_false, and_false, if_false]
          exact ⟨by unfold upd; rw [if_pos rfl], this.2⟩
        · rw [show upd (τ.2.2 (b + 3)) j (nI other) r = τ.2.2 (b + 3) r by unfold upd; rw [if_neg (by omega)]]
          by_cases y2 : r < j
          · simp only [y2, show r < j + 1 by omega, if_true] at this ⊢; exact this
          · simp only [y2, show ¬ r < j + 1 by omega, if_false] at this ⊢; exact this
      have toT : set.testBit j = true → ¬ t.1 j = node → AC (sA τ (b + 4) (upd (τ.2.2 (b + 4)) j (nI other))) b (bnj set node other (j + 1) t) n := fun z z2 r hr => by
        have := hA r hr
        have jn := hb j z
        rw [sA_eq, sA_ne (show b + 3 ≠ b + 4 by omega)]
        unfold bnj at this ⊢
        by_cases y : r = j
        · subst y
          simp only [Nat.lt_irrefl, if_false] at this
          simp only [show r < r + 1 by omega, if_true, bnd, z, z2, true_and, and_false, and_true, not_false_eq_true, if_false]
          exact ⟨this.1, by unfold upd; rw [if_pos rfl]⟩
        · rw [show upd (τ.2.2 (b + 4)) j (nI other) r = τ.2.2 (b + 4) r by unfold upd; rw [if_neg (by omega)]]
          by_cases y2 : r < j
          · simp only [y2, show r < j + 1 by omega, if_true] at this ⊢; exact this
          · simp only [y2, show ¬ r < j + 1 by omega, if_false] at this ⊢; exact this
      refine R_iload hC dX9_moveEnds_3 rfl (R_bipush (v := 6) hC dX9_moveEnds_5 (by decide) ?_)
      refine R_icmp_ge hC 55 dX9_moveEnds_7 (by decide) (fun h => absurd h (nI_ge hj (show (6 : Nat) < 2147483648 by decide))) (fun _ => ?_)
      refine R_iload_n (i := 1) hC dX9_moveEnds_10 rfl rfl (R_iload hC dX9_moveEnds_11 rfl ?_)
      refine R_S2i hC hR dX9_moveEnds_13 MS_X10_isIn ml_X9_64 (c_isIn _ j hset (by omega) _) (by first | decide | omega) ⟨by decide, by decide⟩ (Nat.le_of_ble_eq_true rfl) ?_
      refine R_if_eq hC 49 dX9_moveEnds_16 (by decide) (fun h16 => ?_) (fun h16 => ?_)
      · refine R_iinc hC dX9_moveEnds_49 rfl (inc1 _) (by decide) rfl (R_goto hC 3 dX9_moveEnds_52 (by decide) ?_)
        first | (have z := tst0 h16; exact ih τ hg (stay (Bool.eq_false_iff.mpr z))) | (have z := toF (tst h16) ((e1 (hb j (tst h16))).mp h27); exact ih _ (hg.a m3) z) | (have z := toT (tst h16) (mt (e1 (hb j (tst h16))).mpr h27); exact ih _ (hg.a m4) z)
      · refine R_aload_n (i := 0) hC dX9_moveEnds_19 rfl rfl (R_gR hC dX9_moveEnds_20 fl_X9_18 hD.1 rfl (R_iload hC dX9_moveEnds_23 rfl (R_aI hC dX9_moveEnds_25 hD.2.2.1 j rfl (by omega) (by decide) ?_)))
        refine R_top (y := nI (t.1 j)) (now (hb j (tst h16))) ?_
        refine R_iload_n (i := 2) hC dX9_moveEnds_26 rfl rfl ?_
        refine R_icmp_ne hC 41 dX9_moveEnds_27 (by decide) (fun h27 => ?_) (fun h27 => ?_)
        · refine R_aload_n (i := 0) hC dX9_moveEnds_41 rfl rfl (R_gR hC dX9_moveEnds_42 fl_X9_22 hD.1 rfl (R_iload hC dX9_moveEnds_45 rfl (R_iload_n (i := 3) hC dX9_moveEnds_47 rfl rfl (R_sI hC dX9_moveEnds_48 hD.2.2.2 j rfl (by omega) (by decide) (R_iinc hC dX9_moveEnds_49 rfl (inc1 _) (by decide) rfl (R_goto hC 3 dX9_moveEnds_52 (by decide) ?_))))))
          first | (have z := tst0 h16; exact ih τ hg (stay (Bool.eq_false_iff.mpr z))) | (have z := toF (tst h16) ((e1 (hb j (tst h16))).mp h27); exact ih _ (hg.a m3) z) | (have z := toT (tst h16) (mt (e1 (hb j (tst h16))).mpr h27); exact ih _ (hg.a m4) z)
        · refine R_aload_n (i := 0) hC dX9_moveEnds_30 rfl rfl (R_gR hC dX9_moveEnds_31 fl_X9_18 hD.1 rfl (R_iload hC dX9_moveEnds_34 rfl (R_iload_n (i := 3) hC dX9_moveEnds_36 rfl rfl (R_sI hC dX9_moveEnds_37 hD.2.2.1 j rfl (by omega) (by decide) (R_goto hC 49 dX9_moveEnds_38 (by decide) (R_iinc hC dX9_moveEnds_49 rfl (inc1 _) (by decide) rfl (R_goto hC 3 dX9_moveEnds_52 (by decide) ?_)))))))
          first | (have z := tst0 h16; exact ih τ hg (stay (Bool.eq_false_iff.mpr z))) | (have z := toF (tst h16) ((e1 (hb j (tst h16))).mp h27); exact ih _ (hg.a m3) z) | (have z := toT (tst h16) (mt (e1 (hb j (tst h16))).mpr h27); exact ih _ (hg.a m4) z)
  refine R_iconst (v := 0) hC dX9_moveEnds_0 (by decide) (R_istore hC dX9_moveEnds_1 (by decide) rfl ?_)
  exact lp 0 (by decide) σ (AE.rf _ σ) (fun r hr => by unfold bnj; simp only [Nat.not_lt_zero, if_false]; exact ha r hr)
