theorem MInv.now {σ : sg} {α : aS} (h : MInv σ α) {g : Nat → Int32} {T : tb} (hg : TR g T) : MInv (sA σ i_m_now g) (α.1, T, α.2.2) := by
  obtain ⟨q1, q3, q4, q5, q6, q7, q8⟩ := h
  exact ⟨q1, by rw [sA_eq]; exact hg, q4, q5, q6, q7, q8⟩
abbrev withZ (α : aS) (j : Nat) : aS := (α.1, α.2.1, α.2.2.1, α.2.2.2.1, α.2.2.2.2.1, (fun i => if i = j then tZ α i + 1 else tZ α i), α.2.2.2.2.2.2)
theorem MInv.stat {σ : sg} {α : aS} (h : MInv σ α) {j : Nat} (hj : j < 4) : MInv (sA σ i_m_status (upd (σ.2.2 i_m_status) j (σ.2.2 i_m_status j + 1))) (withZ α j) := by
  obtain ⟨q1, q3, q4, q5, q6, q7, q8⟩ := h
  refine ⟨q1, q3, q4, q5, q6, fun i hi => ?_, q8⟩
  rw [sA_eq]
  show upd _ j _ i = if i = j then tZ α i + 1 else tZ α i
  unfold upd
  by_cases e : i = j
  · rw [if_pos e, if_pos e, e, q7 j hj]
  · rw [if_neg e, if_neg e, q7 i hi]
abbrev pushT (α : aS) (T : tb) : aS := (α.1, T, α.2.2.1, α.2.2.2.1, pushP (tP α) (tT α), α.2.2.2.2.2)
noncomputable def opChange (α : aS) (r c v : Int32) : Int32 × aS := by classical exact
  if (tT α).1 = 0 then (-1000000, withZ α 0)
  else if ¬ (inR (tT α).1 r ∧ inR (tT α).2.1 c ∧ sml v) then (-1000000, withZ α 1)
  else if ((tT α).2.2 r.toNatClampNeg c.toNatClampNeg = v) then (-1000000, withZ α 2)
  else ((tT α).2.2 r.toNatClampNeg c.toNatClampNeg, pushT α ((tT α).1, (tT α).2.1, fun i j => if i = r.toNatClampNeg ∧ j = c.toNatClampNeg then v else (tT α).2.2 i j))
theorem dX11_change_0 : decode cX11_change 0 = .ok (.aload_n 0, 1) := by decide +kernel
theorem dX11_change_1 : decode cX11_change 1 = .ok (.iconst 0, 1) := by decide +kernel
theorem dX11_change_2 : decode cX11_change 2 = .ok (.putfield 83, 3) := by decide +kernel
theorem dX11_change_5 : decode cX11_change 5 = .ok (.aload_n 0, 1) := by decide +kernel
theorem dX11_change_6 : decode cX11_change 6 = .ok (.getfield 13, 3) := by decide +kernel
theorem dX11_change_9 : decode cX11_change 9 = .ok (.bipush 36, 2) := by decide +kernel
theorem dX11_change_11 : decode cX11_change 11 = .ok (.iaload, 1) := by decide +kernel
theorem dX11_change_12 : decode cX11_change 12 = .ok (.ifCond .ne 7, 3) := by decide +kernel
theorem dX11_change_15 : decode cX11_change 15 = .ok (.iconst 0, 1) := by decide +kernel
theorem dX11_change_16 : decode cX11_change 16 = .ok (.goto 52, 3) := by decide +kernel
theorem dX11_change_19 : decode cX11_change 19 = .ok (.aload_n 0, 1) := by decide +kernel
theorem dX11_change_20 : decode cX11_change 20 = .ok (.aload_n 0, 1) := by decide +kernel
theorem dX11_change_21 : decode cX11_change 21 = .ok (.getfield 13, 3) := by decide +kernel
theorem dX11_change_24 : decode cX11_change 24 = .ok (.iload_n 1, 1) := by decide +kernel
theorem dX11_change_25 : decode cX11_change 25 = .ok (.iload_n 2, 1) := by decide +kernel
theorem dX11_change_26 : decode cX11_change 26 = .ok (.invokevirtual 158, 3) := by decide +kernel
theorem dX11_change_29 : decode cX11_change 29 = .ok (.ifCond .eq 15, 3) := by decide +kernel
theorem dX11_change_32 : decode cX11_change 32 = .ok (.iload_n 3, 1) := by decide +kernel
theorem dX11_change_33 : decode cX11_change 33 = .ok (.i2l, 1) := by decide +kernel
theorem dX11_change_34 : decode cX11_change 34 = .ok (.ldc2_w 162, 3) := by decide +kernel
theorem dX11_change_37 : decode cX11_change 37 = .ok (.lconst 1, 1) := by decide +kernel
theorem dX11_change_38 : decode cX11_change 38 = .ok (.invokestatic 140, 3) := by decide +kernel
theorem dX11_change_41 : decode cX11_change 41 = .ok (.ifCond .ne 7, 3) := by decide +kernel
theorem dX11_change_44 : decode cX11_change 44 = .ok (.iconst 1, 1) := by decide +kernel
theorem dX11_change_45 : decode cX11_change 45 = .ok (.goto 23, 3) := by decide +kernel
theorem dX11_change_48 : decode cX11_change 48 = .ok (.aload_n 0, 1) := by decide +kernel
theorem dX11_change_49 : decode cX11_change 49 = .ok (.getfield 13, 3) := by decide +kernel
theorem dX11_change_52 : decode cX11_change 52 = .ok (.bipush 6, 2) := by decide +kernel
theorem dX11_change_54 : decode cX11_change 54 = .ok (.iload_n 1, 1) := by decide +kernel
theorem dX11_change_55 : decode cX11_change 55 = .ok (.imul, 1) := by decide +kernel
theorem dX11_change_56 : decode cX11_change 56 = .ok (.iload_n 2, 1) := by decide +kernel
theorem dX11_change_57 : decode cX11_change 57 = .ok (.iadd, 1) := by decide +kernel
theorem dX11_change_58 : decode cX11_change 58 = .ok (.iaload, 1) := by decide +kernel
theorem dX11_change_59 : decode cX11_change 59 = .ok (.iload_n 3, 1) := by decide +kernel
theorem dX11_change_60 : decode cX11_change 60 = .ok (.if_icmp .ne 7, 3) := by decide +kernel
theorem dX11_change_63 : decode cX11_change 63 = .ok (.iconst 2, 1) := by decide +kernel
theorem dX11_change_64 : decode cX11_change 64 = .ok (.goto 4, 3) := by decide +kernel
theorem dX11_change_67 : decode cX11_change 67 = .ok (.iconst (-1), 1) := by decide +kernel
theorem dX11_change_68 : decode cX11_change 68 = .ok (.istore 4, 2) := by decide +kernel
theorem dX11_change_70 : decode cX11_change 70 = .ok (.iload 4, 2) := by decide +kernel
theorem dX11_change_72 : decode cX11_change 72 = .ok (.iconst (-1), 1) := by decide +kernel
theorem dX11_change_73 : decode cX11_change 73 = .ok (.if_icmp .eq 14, 3) := by decide +kernel
theorem dX11_change_76 : decode cX11_change 76 = .ok (.aload_n 0, 1) := by decide +kernel
theorem dX11_change_77 : decode cX11_change 77 = .ok (.iload 4, 2) := by decide +kernel
theorem dX11_change_79 : decode cX11_change 79 = .ok (.invokevirtual 164, 3) := by decide +kernel
theorem dX11_change_82 : decode cX11_change 82 = .ok (.istore 5, 2) := by decide +kernel
theorem dX11_change_84 : decode cX11_change 84 = .ok (.ldc 133, 2) := by decide +kernel
theorem dX11_change_86 : decode cX11_change 86 = .ok (.ireturn, 1) := by decide +kernel
theorem dX11_change_87 : decode cX11_change 87 = .ok (.aload_n 0, 1) := by decide +kernel
theorem dX11_change_88 : decode cX11_change 88 = .ok (.invokevirtual 167, 3) := by decide +kernel
theorem dX11_change_91 : decode cX11_change 91 = .ok (.aload_n 0, 1) := by decide +kernel
theorem dX11_change_92 : decode cX11_change 92 = .ok (.getfield 13, 3) := by decide +kernel
theorem dX11_change_95 : decode cX11_change 95 = .ok (.bipush 6, 2) := by decide +kernel
theorem dX11_change_97 : decode cX11_change 97 = .ok (.iload_n 1, 1) := by decide +kernel
theorem dX11_change_98 : decode cX11_change 98 = .ok (.imul, 1) := by decide +kernel
theorem dX11_change_99 : decode cX11_change 99 = .ok (.iload_n 2, 1) := by decide +kernel
theorem dX11_change_100 : decode cX11_change 100 = .ok (.iadd, 1) := by decide +kernel
theorem dX11_change_101 : decode cX11_change 101 = .ok (.iaload, 1) := by decide +kernel
theorem dX11_change_102 : decode cX11_change 102 = .ok (.istore 5, 2) := by decide +kernel
theorem dX11_change_104 : decode cX11_change 104 = .ok (.aload_n 0, 1) := by decide +kernel
theorem dX11_change_105 : decode cX11_change 105 = .ok (.getfield 13, 3) := by decide +kernel
theorem dX11_change_108 : decode cX11_change 108 = .ok (.bipush 6, 2) := by decide +kernel
theorem dX11_change_110 : decode cX11_change 110 = .ok (.iload_n 1, 1) := by decide +kernel
theorem dX11_change_111 : decode cX11_change 111 = .ok (.imul, 1) := by decide +kernel
theorem dX11_change_112 : decode cX11_change 112 = .ok (.iload_n 2, 1) := by decide +kernel
theorem dX11_change_113 : decode cX11_change 113 = .ok (.iadd, 1) := by decide +kernel
theorem dX11_change_114 : decode cX11_change 114 = .ok (.iload_n 3, 1) := by decide +kernel
theorem dX11_change_115 : decode cX11_change 115 = .ok (.iastore, 1) := by decide +kernel
theorem dX11_change_116 : decode cX11_change 116 = .ok (.iload 5, 2) := by decide +kernel
theorem dX11_change_118 : decode cX11_change 118 = .ok (.ireturn, 1) := by decide +kernel
theorem dX11_deal_0 : decode cX11_deal 0 = .ok (.aload_n 0, 1) := by decide +kernel
theorem dX11_deal_1 : decode cX11_deal 1 = .ok (.iconst 0, 1) := by decide +kernel
theorem dX11_deal_2 : decode cX11_deal 2 = .ok (.putfield 83, 3) := by decide +kernel
theorem dX11_deal_5 : decode cX11_deal 5 = .ok (.aload_n 0, 1) := by decide +kernel
theorem dX11_deal_6 : decode cX11_deal 6 = .ok (.aload_n 0, 1) := by decide +kernel
theorem dX11_deal_7 : decode cX11_deal 7 = .ok (.getfield 13, 3) := by decide +kernel
theorem dX11_deal_10 : decode cX11_deal 10 = .ok (.iload_n 1, 1) := by decide +kernel
theorem dX11_deal_11 : decode cX11_deal 11 = .ok (.iload_n 2, 1) := by decide +kernel
theorem dX11_deal_12 : decode cX11_deal 12 = .ok (.iload_n 3, 1) := by decide +kernel
theorem dX11_deal_13 : decode cX11_deal 13 = .ok (.invokevirtual 181, 3) := by decide +kernel
theorem dX11_deal_16 : decode cX11_deal 16 = .ok (.istore 4, 2) := by decide +kernel
theorem dX11_deal_18 : decode cX11_deal 18 = .ok (.iload 4, 2) := by decide +kernel
theorem dX11_deal_20 : decode cX11_deal 20 = .ok (.iconst (-1), 1) := by decide +kernel
theorem dX11_deal_21 : decode cX11_deal 21 = .ok (.if_icmp .eq 10, 3) := by decide +kernel
theorem dX11_deal_24 : decode cX11_deal 24 = .ok (.aload_n 0, 1) := by decide +kernel
theorem dX11_deal_25 : decode cX11_deal 25 = .ok (.iload 4, 2) := by decide +kernel
theorem dX11_deal_27 : decode cX11_deal 27 = .ok (.invokevirtual 164, 3) := by decide +kernel
theorem dX11_deal_30 : decode cX11_deal 30 = .ok (.ireturn, 1) := by decide +kernel
theorem dX11_deal_31 : decode cX11_deal 31 = .ok (.aload_n 0, 1) := by decide +kernel
theorem dX11_deal_32 : decode cX11_deal 32 = .ok (.invokevirtual 167, 3) := by decide +kernel
theorem dX11_deal_35 : decode cX11_deal 35 = .ok (.aload_n 0, 1) := by decide +kernel
theorem dX11_deal_36 : decode cX11_deal 36 = .ok (.aload_n 0, 1) := by decide +kernel
theorem dX11_deal_37 : decode cX11_deal 37 = .ok (.getfield 13, 3) := by decide +kernel
theorem dX11_deal_40 : decode cX11_deal 40 = .ok (.iload_n 1, 1) := by decide +kernel
theorem dX11_deal_41 : decode cX11_deal 41 = .ok (.iload_n 2, 1) := by decide +kernel
theorem dX11_deal_42 : decode cX11_deal 42 = .ok (.iload_n 3, 1) := by decide +kernel
theorem dX11_deal_43 : decode cX11_deal 43 = .ok (.invokevirtual 185, 3) := by decide +kernel
theorem dX11_deal_46 : decode cX11_deal 46 = .ok (.aload_n 0, 1) := by decide +kernel
theorem dX11_deal_47 : decode cX11_deal 47 = .ok (.getfield 155, 3) := by decide +kernel
theorem dX11_deal_50 : decode cX11_deal 50 = .ok (.ireturn, 1) := by decide +kernel
theorem mo_change {σ : sg} {x : aW} {α : aS} (h : MInv σ α) (ok : aOK α) (r c v : Int32) : Mt mX11_change 1 0 0 [.ref i_M, .int r, .int c, .int v] (wd σ x) (MPost σ x (opChange α r c v).1 (opChange α r c v).2) := by
  refine Mt.of MI_X11_change (Nat.le_of_ble_eq_true rfl) (fun X hC hR hT => ?_)
  have hT1 : σ.2.2 i_m_now 36 = nI (tT α).1 := h.2.1.1
  have hTB : TB (σ.2.2 i_m_now) (tT α) := h.2.1.TB ok.2.2.1
  have h1 := M_thr h 0
  have c1 : CEq σ (sG σ i_M 0 0) := (CEq.rf σ).g (Nat.le_refl _)
  have refu : ∀ j, j < 4 → opChange α r c v = (-1000000, withZ α j) → ∀ u5, Rw mX11_change X 68 [some (.ref i_M), some (.int r), some (.int c), some (.int v), none, u5] [.int (nI j)] (wd (sG σ i_M 0 0) x) 0 0 := by
    intro j hj e u5
    refine R_istore hC dX11_change_68 (by decide) rfl (R_iload hC dX11_change_70 rfl (R_iconst (v := (-1)) hC dX11_change_72 (by decide) ?_))
    refine R_icmp_eq hC 87 dX11_change_73 (by decide) (fun h => absurd h (fun q => absurd (congrArg Int32.toInt q) (by rw [nI_toInt (by omega)]; show ¬ (j : Int) = -1; omega))) (fun _ => ?_)
    refine R_aload_n (i := 0) hC dX11_change_76 rfl rfl (R_iload hC dX11_change_77 rfl ?_)
    refine R_V1i hC hR dX11_change_79 MV_X11_refused ml_X11_164 L_M rfl (s_refused _ _ j hj) (by decide) ⟨by decide, by decide⟩ (Nat.le_of_ble_eq_true rfl) ?_
    refine R_istore hC dX11_change_82 (by decide) rfl (R_ldc hC dX11_change_84 kc_X11_133 ?_)
    exact R_iret hC hT dX11_change_86 rfl (by rw [e]; exact MPost.i (h1.stat hj) (c1.a (by decide)))
  have e0 : (tT α).1 = 0 → opChange α r c v = (-1000000, withZ α 0) := fun q => by unfold opChange; rw [if_pos q]
  have e1 : ¬ (tT α).1 = 0 → ¬ (inR (tT α).1 r ∧ inR (tT α).2.1 c ∧ sml v) → opChange α r c v = (-1000000, withZ α 1) := fun q q2 => by unfold opChange; rw [if_neg q, if_pos q2]
  have good : ∀ i j : Nat, r = nI i → c = nI j → i < (tT α).1 → j < (tT α).2.1 → sml v → opChange α r c v = ((tT α).2.2 i j, pushT α ((tT α).1, (tT α).2.1, fun a b => if a = i ∧ b = j then v else (tT α).2.2 a b)) → ∀ u5, Rw mX11_change X 68 [some (.ref i_M), some (.int r), some (.int c), some (.int v), none, u5] [.int (-1)] (wd (sG σ i_M 0 0) x) 0 0 := by
    intro i j ei ej hi hj hv e3 u5
    have b1 := ok.2.2.1.1
    have b2 := ok.2.2.1.2.1
    refine R_istore hC dX11_change_68 (by decide) rfl (R_iload hC dX11_change_70 rfl (R_iconst (v := (-1)) hC dX11_change_72 (by decide) ?_))
    refine R_icmp_eq hC 87 dX11_change_73 (by decide) (fun _ => ?_) (fun h => absurd rfl h)
    refine R_aload_n (i := 0) hC dX11_change_87 rfl rfl ?_
    refine R_V0g hC hR dX11_change_88 MV_X11_remember ml_X11_167 L_M rfl (s_remember h1 ok) (by decide) ⟨by decide, by decide⟩ (Nat.le_of_ble_eq_true rfl) (fun r w1 hq => ?_)
    obtain ⟨rfl, p, g, rfl, hm⟩ := hq
    refine R_aload_n (i := 0) hC dX11_change_91 rfl rfl (R_gR hC dX11_change_92 fl_X11_13 L_M rfl (R_bipush (v := 6) hC dX11_change_95 (by decide) (R_iload_n (i := 1) hC dX11_change_97 rfl rfl (R_imul hC dX11_change_98 (R_iload_n (i := 2) hC dX11_change_99 rfl rfl (R_iadd hC dX11_change_100 (R_aI hC dX11_change_101 L_m_now (6 * i + j) (by rw [ei, ej]; exact n6 i j) (by omega) (by decide) ?_)))))))
    refine R_top (y := (tT α).2.2 i j) (h.2.1.2.2 i j hi hj) ?_
    refine R_istore hC dX11_change_102 (by decide) rfl (R_aload_n (i := 0) hC dX11_change_104 rfl rfl (R_gR hC dX11_change_105 fl_X11_13 L_M rfl (R_bipush (v := 6) hC dX11_change_108 (by decide) (R_iload_n (i := 1) hC dX11_change_110 rfl rfl (R_imul hC dX11_change_111 (R_iload_n (i := 2) hC dX11_change_112 rfl rfl (R_iadd hC dX11_change_113 ?_)))))))
    refine R_iload_n (i := 3) hC dX11_change_114 rfl rfl (R_sI hC dX11_change_115 L_m_now (6 * i + j) (by rw [ei, ej]; exact n6 i j) (by omega) (by decide) (R_iload hC dX11_change_116 rfl ?_))
    exact R_iret hC hT dX11_change_118 rfl (by
    rw [e3]
    refine MPost.i (hm.now (T := ((tT α).1, (tT α).2.1, fun a b => if a = i ∧ b = j then v else (tT α).2.2 a b)) ?_) (((c1.g (Nat.le_refl _)).a (by decide)).a (by decide))
    refine ⟨?_, ?_, fun a b ha hb => ?_⟩
    · have q := upd_36 (g := σ.2.2 i_m_now) (v := v) (k := 36) (Or.inl rfl) (show i < 6 by omega) (show j < 6 by omega); exact q.trans h.2.1.1
    · have q := upd_36 (g := σ.2.2 i_m_now) (v := v) (k := 37) (Or.inr rfl) (show i < 6 by omega) (show j < 6 by omega); exact q.trans h.2.1.2.1
    · have ha : a < (tT α).1 := ha
      have hb : b < (tT α).2.1 := hb
      have q := upd6 (g := σ.2.2 i_m_now) (v := v) (a := i) (b := j) (i := a) (j := b) (by omega) (by omega)
      refine q.trans ?_
      show (if a = i ∧ b = j then v else σ.2.2 i_m_now (6 * a + b)) = if a = i ∧ b = j then v else (tT α).2.2 a b
      rw [h.2.1.2.2 a b ha hb])
  refine R_aload_n (i := 0) hC dX11_change_0 rfl rfl (R_iconst (v := 0) hC dX11_change_1 (by decide) (R_pI hC dX11_change_2 fl_X11_83 L_M rfl (R_aload_n (i := 0) hC dX11_change_5 rfl rfl (R_gR hC dX11_change_6 fl_X11_13 L_M rfl (R_bipush (v := 36) hC dX11_change_9 (by decide) (R_aI hC dX11_change_11 L_m_now 36 rfl (by decide) (by decide) ?_))))))
  refine R_top (y := nI (tT α).1) hT1 ?_
  refine R_if_ne hC 19 dX11_change_12 (by decide) (fun h12 => ?_) (fun h12 => ?_)
  · have n0 : ¬ (tT α).1 = 0 := fun q => h12 ((T0_iff ok).mpr q)
    refine R_aload_n (i := 0) hC dX11_change_19 rfl rfl (R_aload_n (i := 0) hC dX11_change_20 rfl rfl (R_gR hC dX11_change_21 fl_X11_13 L_M rfl (R_iload_n (i := 1) hC dX11_change_24 rfl rfl (R_iload_n (i := 2) hC dX11_change_25 rfl rfl ?_))))
    refine R_V3i hC hR dX11_change_26 MV_X11_isCell ml_X11_158 L_M rfl (s_isCell _ _ _ L_m_now _ _) (by decide) ⟨by decide, by decide⟩ (Nat.le_of_ble_eq_true rfl) ?_
    refine R_if_eq hC 44 dX11_change_29 (by decide) (fun h29 => ?_) (fun h29 => ?_)
    · refine R_iconst (v := 1) hC dX11_change_44 (by decide) (R_goto hC 68 dX11_change_45 (by decide) ?_)
      first | exact good i j rfl rfl hi hj hv e3 _ | exact refu 0 (by decide) (e0 ((T0_iff ok).mp h12)) _ | exact refu 1 (by decide) (e1 n0 (fun q => b2i_0 h29 (hTB.inT_iff.mpr ⟨q.1, q.2.1⟩))) _ | exact refu 1 (by decide) (e1 n0 (fun q => ite0 h41 (sml_in.mp q.2.2))) _ | exact refu 2 (by decide) e2 _
    · refine R_iload_n (i := 3) hC dX11_change_32 rfl rfl (R_i2l hC dX11_change_33 (R_ldc2 hC dX11_change_34 kc_X11_162 (R_lconst (v := 1) hC dX11_change_37 (by decide) ?_)))
      refine R_S3i hC hR dX11_change_38 MS_X11_isIn ml_X11_140 (s_isInZ v (-1) 1 (-1) 1 (by decide) (by decide) _) (by decide) ⟨by decide, by decide⟩ (Nat.le_of_ble_eq_true rfl) ?_
      refine R_if_ne hC 48 dX11_change_41 (by decide) (fun h41 => ?_) (fun h41 => ?_)
      · obtain ⟨i, j, rfl, rfl, hi, hj⟩ := hTB.in (b2i_ne h29)
        have hv : sml v := sml_in.mpr (ite1 h41)
        have hin : inR (tT α).1 (nI i) ∧ inR (tT α).2.1 (nI j) ∧ sml v := ⟨inR_n hi ok.2.2.1.1, inR_n hj ok.2.2.1.2.1, hv⟩
        have c2 : (nI i).toNatClampNeg = i := nI_clamp (by have := ok.2.2.1.1; omega)
        have c3 : (nI j).toNatClampNeg = j := nI_clamp (by have := ok.2.2.1.2.1; omega)
        have b1 := ok.2.2.1.1
        have b2 := ok.2.2.1.2.1
        refine R_aload_n (i := 0) hC dX11_change_48 rfl rfl (R_gR hC dX11_change_49 fl_X11_13 L_M rfl (R_bipush (v := 6) hC dX11_change_52 (by decide) (R_iload_n (i := 1) hC dX11_change_54 rfl rfl (R_imul hC dX11_change_55 (R_iload_n (i := 2) hC dX11_change_56 rfl rfl (R_iadd hC dX11_change_57 (R_aI hC dX11_change_58 L_m_now (6 * i + j) (n6 i j) (by omega) (by decide) ?_)))))))
        refine R_top (y := (tT α).2.2 i j) (h.2.1.2.2 i j hi hj) ?_
        refine R_iload_n (i := 3) hC dX11_change_59 rfl rfl ?_
        refine R_icmp_ne hC 67 dX11_change_60 (by decide) (fun h60 => ?_) (fun h60 => ?_)
        · have e3 : opChange α (nI i) (nI j) v = ((tT α).2.2 i j, pushT α ((tT α).1, (tT α).2.1, fun a b => if a = i ∧ b = j then v else (tT α).2.2 a b)) := by unfold opChange; rw [if_neg n0, if_neg (fun q => q hin), if_neg (by rw [c2, c3]; exact h60), c2, c3]
          refine R_iconst (v := (-1)) hC dX11_change_67 (by decide) ?_
          first | exact good i j rfl rfl hi hj hv e3 _ | exact refu 0 (by decide) (e0 ((T0_iff ok).mp h12)) _ | exact refu 1 (by decide) (e1 n0 (fun q => b2i_0 h29 (hTB.inT_iff.mpr ⟨q.1, q.2.1⟩))) _ | exact refu 1 (by decide) (e1 n0 (fun q => ite0 h41 (sml_in.mp q.2.2))) _ | exact refu 2 (by decide) e2 _
        · have e2 : opChange α (nI i) (nI j) v = (-1000000, withZ α 2) := by unfold opChange; rw [if_neg n0, if_neg (fun q => q hin), if_pos (by rw [c2, c3]; exact h60)]
          refine R_iconst (v := 2) hC dX11_change_63 (by decide) (R_goto hC 68 dX11_change_64 (by decide) ?_)
          first | exact good i j rfl rfl hi hj hv e3 _ | exact refu 0 (by decide) (e0 ((T0_iff ok).mp h12)) _ | exact refu 1 (by decide) (e1 n0 (fun q => b2i_0 h29 (hTB.inT_iff.mpr ⟨q.1, q.2.1⟩))) _ | exact refu 1 (by decide) (e1 n0 (fun q => ite0 h41 (sml_in.mp q.2.2))) _ | exact refu 2 (by decide) e2 _
      · refine R_iconst (v := 1) hC dX11_change_44 (by decide) (R_goto hC 68 dX11_change_45 (by decide) ?_)
        first | exact good i j rfl rfl hi hj hv e3 _ | exact refu 0 (by decide) (e0 ((T0_iff ok).mp h12)) _ | exact refu 1 (by decide) (e1 n0 (fun q => b2i_0 h29 (hTB.inT_iff.mpr ⟨q.1, q.2.1⟩))) _ | exact refu 1 (by decide) (e1 n0 (fun q => ite0 h41 (sml_in.mp q.2.2))) _ | exact refu 2 (by decide) e2 _
  · refine R_iconst (v := 0) hC dX11_change_15 (by decide) (R_goto hC 68 dX11_change_16 (by decide) ?_)
    first | exact good i j rfl rfl hi hj hv e3 _ | exact refu 0 (by decide) (e0 ((T0_iff ok).mp h12)) _ | exact refu 1 (by decide) (e1 n0 (fun q => b2i_0 h29 (hTB.inT_iff.mpr ⟨q.1, q.2.1⟩))) _ | exact refu 1 (by decide) (e1 n0 (fun q => ite0 h41 (sml_in.mp q.2.2))) _ | exact refu 2 (by decide) e2 _
-- deal
noncomputable def opDeal (α : aS) (kd a b : Int32) : Int32 × aS := by classical exact
  (fun k => if stopZ (tT α) k a b = -1 then (nI (pushP (tP α) (tT α)).1, pushT α (doA k a.toNatClampNeg b.toNatClampNeg (tT α))) else (-1, withZ α (stopZ (tT α) k a b).toNatClampNeg)) (if 0 ≤ kd.toInt ∧ kd.toInt ≤ 7 then kd.toNatClampNeg else 8)
/-- the answers of stopZ -/
theorem stopZ_val (T : tb) (k : Nat) (a b : Int32) : stopZ T k a b = -1 ∨ ∃ j : Nat, j < 4 ∧ stopZ T k a b = nI j := by
  have h : stopZ T k a b = -1 ∨ stopZ T k a b = 0 ∨ stopZ T k a b = 1 ∨ stopZ T k a b = 2 ∨ stopZ T k a b = 3 := by
    unfold stopZ
    repeat' split
    all_goals simp
  rcases h with h | h | h | h | h
  · exact Or.inl h
  · exact Or.inr ⟨0, by decide, h⟩
  · exact Or.inr ⟨1, by decide, h⟩
  · exact Or.inr ⟨2, by decide, h⟩
  · exact Or.inr ⟨3, by decide, h⟩
/-- what it means that a deed can be -/
theorem stopZ_ok {T : tb} {k : Nat} {a b : Int32} (h : stopZ T k a b = -1) : ¬ T.1 = 0 ∧ k ≤ 7 ∧ ((k = 0 ∨ k = 6) → inR T.1 a) ∧ ((k = 1 ∨ k = 7) → inR T.2.1 a) ∧ (k = 2 → inR T.1 a ∧ inR T.1 b ∧ a ≠ b) ∧ (k = 3 → inR T.2.1 a ∧ inR T.2.1 b ∧ a ≠ b) ∧ (k = 4 → inR T.1 a ∧ inR T.2.1 b ∧ ¬ T.2.2 a.toNatClampNeg b.toNatClampNeg = 0 ∧ ∀ i j, i < T.1 → j < T.2.1 → sml (tturn a.toNatClampNeg b.toNatClampNeg T.2.2 i j)) ∧ (k = 6 → ¬ T.1 = 1) ∧ (k = 7 → ¬ T.2.1 = 1) := by
  unfold stopZ at h
  by_cases h0 : T.1 = 0
  · rw [if_pos h0] at h; exact absurd h (by decide)
  rw [if_neg h0] at h
  by_cases k0 : k = 0
  · subst k0
    rw [if_pos rfl] at h
    by_cases q : inR T.1 a
    · exact ⟨h0, by decide, fun _ => q, fun e => by omega, fun e => by omega, fun e => by omega, fun e => by omega, fun e => by omega, fun e => by omega⟩
    · rw [if_neg q] at h; exact absurd h (by decide)
  rw [if_neg k0] at h
  by_cases k1 : k = 1
  · subst k1
    rw [if_pos rfl] at h
    by_cases q : inR T.2.1 a
    · exact ⟨h0, by decide, fun e => by omega, fun _ => q, fun e => by omega, fun e => by omega, fun e => by omega, fun e => by omega, fun e => by omega⟩
    · rw [if_neg q] at h; exact absurd h (by decide)
  rw [if_neg k1] at h
  by_cases k2 : k = 2
  · subst k2
    rw [if_pos rfl] at h
    by_cases q : inR T.1 a ∧ inR T.1 b
    · rw [if_pos q] at h
      by_cases e : a = b
      · rw [if_pos e] at h; exact absurd h (by decide)
      · exact ⟨h0, by decide, fun e => by omega, fun e => by omega, fun _ => ⟨q.1, q.2, e⟩, fun e => by omega, fun e => by omega, fun e => by omega, fun e => by omega⟩
    · rw [if_neg q] at h; exact absurd h (by decide)
  rw [if_neg k2] at h
  by_cases k3 : k = 3
  · subst k3
    rw [if_pos rfl] at h
    by_cases q : inR T.2.1 a ∧ inR T.2.1 b
    · rw [if_pos q] at h
      by_cases e : a = b
      · rw [if_pos e] at h; exact absurd h (by decide)
      · exact ⟨h0, by decide, fun e => by omega, fun e => by omega, fun e => by omega, fun _ => ⟨q.1, q.2, e⟩, fun e => by omega, fun e => by omega, fun e => by omega⟩
    · rw [if_neg q] at h; exact absurd h (by decide)
  rw [if_neg k3] at h
  by_cases k4 : k = 4
  · subst k4
    rw [if_pos rfl] at h
    by_cases q : inR T.1 a ∧ inR T.2.1 b
    · rw [if_pos q] at h
      by_cases e : T.2.2 a.toNatClampNeg b.toNatClampNeg = 0
      · rw [if_pos e] at h; exact absurd h (by decide)
      · rw [if_neg e] at h
        by_cases e2 : ∀ i j, i < T.1 → j < T.2.1 → sml (tturn a.toNatClampNeg b.toNatClampNeg T.2.2 i j)
        · exact ⟨h0, by decide, fun e => by omega, fun e => by omega, fun e => by omega, fun e => by omega, fun _ => ⟨q.1, q.2, e, e2⟩, fun e => by omega, fun e => by omega⟩
        · rw [if_neg e2] at h; exact absurd h (by decide)
    · rw [if_neg q] at h; exact absurd h (by decide)
  rw [if_neg k4] at h
  by_cases k5 : k = 5
  · subst k5
    exact ⟨h0, by decide, fun e => by omega, fun e => by omega, fun e => by omega, fun e => by omega, fun e => by omega, fun e => by omega, fun e => by omega⟩
  rw [if_neg k5] at h
  by_cases k6 : k = 6
  · subst k6
    rw [if_pos rfl] at h
    by_cases q : inR T.1 a
    · rw [if_pos q] at h
      by_cases e : T.1 = 1
      · rw [if_pos e] at h; exact absurd h (by decide)
      · exact ⟨h0, by decide, fun _ => q, fun e => by omega, fun e => by omega, fun e => by omega, fun e => by omega, fun _ => e, fun e => by omega⟩
    · rw [if_neg q] at h; exact absurd h (by decide)
  rw [if_neg k6] at h
  by_cases k7 : k = 7
  · subst k7
    rw [if_pos rfl] at h
    by_cases q : inR T.2.1 a
    · rw [if_pos q] at h
      by_cases e : T.2.1 = 1
      · rw [if_pos e] at h; exact absurd h (by decide)
      · exact ⟨h0, by decide, fun e => by omega, fun _ => q, fun e => by omega, fun e => by omega, fun e => by omega, fun e => by omega, fun _ => e⟩
    · rw [if_neg q] at h; exact absurd h (by decide)
  rw [if_neg k7] at h
  exact absurd h (by decide)
/-- does, whatever the kind, where it can be -/
theorem s_does {σ : sg} {x : aW} {t : Nat} (ht : LY t (0, 38, [])) (hne : t ≠ i_m_trial) {T : tb} (hT0 : TB (σ.2.2 t) T) (ok : tbOK T) {k : Nat} {a b : Int32} (h : stopZ T k a b = -1) :
    Mt mX11_does 2 0 0 [.ref i_M, .ref t, .int (nI k), .int a, .int b] (wd σ x) (fun q w => q = none ∧ ∃ g h : Nat → Int32, w = wd (sA (sA σ i_m_trial h) t g) x ∧ TB g (doA k a.toNatClampNeg b.toNatClampNeg T)) := by
  obtain ⟨h0, hk, o1, o2, o3, o4, o5, o6, o7⟩ := stopZ_ok h
  have b1 := ok.1
  have b2 := ok.2.1
  have b3 := ok.2.2.1
  match k, hk with
  | 0, _ =>
    obtain ⟨i, rfl, hi, hi2⟩ := inR_i (o1 (Or.inl rfl))
    rw [nI_clamp hi2]; exact s_does0 σ x t ht hne T hT0 i hi b
  | 1, _ =>
    obtain ⟨i, rfl, hi, hi2⟩ := inR_i (o2 (Or.inl rfl))
    rw [nI_clamp hi2]; exact s_does1 σ x t ht hne T hT0 i hi b
  | 2, _ =>
    obtain ⟨u1, u2, u3⟩ := o3 rfl
    obtain ⟨i, rfl, hi, hi2⟩ := inR_i u1
    obtain ⟨j, rfl, hj, hj2⟩ := inR_i u2
    rw [nI_clamp hi2, nI_clamp hj2]; exact s_does2 σ x t ht hne T hT0 i j hi hj (fun e => u3 (by rw [e]))
  | 3, _ =>
    obtain ⟨u1, u2, u3⟩ := o4 rfl
    obtain ⟨i, rfl, hi, hi2⟩ := inR_i u1
    obtain ⟨j, rfl, hj, hj2⟩ := inR_i u2
    rw [nI_clamp hi2, nI_clamp hj2]; exact s_does3 σ x t ht hne T hT0 i j hi hj (fun e => u3 (by rw [e]))
  | 4, _ =>
    obtain ⟨u1, u2, u3, u4⟩ := o5 rfl
    obtain ⟨i, rfl, hi, hi2⟩ := inR_i u1
    obtain ⟨j, rfl, hj, hj2⟩ := inR_i u2
    rw [nI_clamp hi2, nI_clamp hj2] at u4 ⊢; exact s_does4 σ x t ht hne T hT0 i j hi hj u4
  | 5, _ => exact s_does5 σ x t ht hne T hT0 a b
  | 6, _ =>
    obtain ⟨i, rfl, hi, hi2⟩ := inR_i (o1 (Or.inr rfl))
    rw [nI_clamp hi2]; exact s_does6 σ x t ht hne T hT0 i hi (by have := o6 rfl; omega) b
  | 7, _ =>
    obtain ⟨i, rfl, hi, hi2⟩ := inR_i (o2 (Or.inr rfl))
    rw [nI_clamp hi2]; exact s_does7 σ x t ht hne T hT0 i hi (by have := o7 rfl; omega) b
theorem mo_deal {σ : sg} {x : aW} {α : aS} (h : MInv σ α) (ok : aOK α) (kd a b : Int32) : Mt mX11_deal 3 0 0 [.ref i_M, .int kd, .int a, .int b] (wd σ x) (MPost σ x (opDeal α kd a b).1 (opDeal α kd a b).2) := by
  refine Mt.of MI_X11_deal (Nat.le_of_ble_eq_true rfl) (fun X hC hR hT => ?_)
  have h1 := M_thr h 0
  have c1 : CEq σ (sG σ i_M 0 0) := (CEq.rf σ).g (Nat.le_refl _)
  have hTB : TB (σ.2.2 i_m_now) (tT α) := h.2.1.TB ok.2.2.1
  have fin : ∀ k g, (k ≤ 7 → kd = nI k) → opDeal α kd a b = (if stopZ (tT α) k a b = -1 then (nI (pushP (tP α) (tT α)).1, pushT α (doA k a.toNatClampNeg b.toNatClampNeg (tT α))) else (-1, withZ α (stopZ (tT α) k a b).toNatClampNeg)) → Rw mX11_deal X 16 [some (.ref i_M), some (.int kd), some (.int a), some (.int b), none] [.int (stopZ (tT α) k a b)] (wd (sA (sG σ i_M 0 0) i_m_trial g) x) 0 0 := by
    intro k g ek e
    have h2 : MInv (sA (sG σ i_M 0 0) i_m_trial g) α := h1.a (by decide)
    have c2 : CEq σ (sA (sG σ i_M 0 0) i_m_trial g) := c1.a (by decide)
    rcases stopZ_val (tT α) k a b with hs | ⟨j, hj, hs⟩
    · rw [if_pos hs] at e
      rw [hs]
      have hk := (stopZ_ok hs).2.1
      have ek := ek hk
      subst ek
      refine R_istore hC dX11_deal_16 (by decide) rfl (R_iload hC dX11_deal_18 rfl (R_iconst (v := (-1)) hC dX11_deal_20 (by decide) ?_))
      refine R_icmp_eq hC 31 dX11_deal_21 (by decide) (fun _ => ?_) (fun h => absurd rfl h)
      refine R_aload_n (i := 0) hC dX11_deal_31 rfl rfl ?_
      refine R_V0g hC hR dX11_deal_32 MV_X11_remember ml_X11_167 L_M rfl (s_remember h2 ok) (by decide) ⟨by decide, by decide⟩ (Nat.le_of_ble_eq_true rfl) (fun r w1 hq => ?_)
      obtain ⟨rfl, p, g2, rfl, hm⟩ := hq
      refine R_aload_n (i := 0) hC dX11_deal_35 rfl rfl (R_aload_n (i := 0) hC dX11_deal_36 rfl rfl (R_gR hC dX11_deal_37 fl_X11_13 L_M rfl (R_iload_n (i := 1) hC dX11_deal_40 rfl rfl (R_iload_n (i := 2) hC dX11_deal_41 rfl rfl (R_iload_n (i := 3) hC dX11_deal_42 rfl rfl ?_)))))
      refine R_V4g hC hR dX11_deal_43 MV_X11_does ml_X11_185 L_M rfl (s_does L_m_now (by decide) (hm.2.1.TB ok.2.2.1) ok.2.2.1 hs) (by decide) ⟨by decide, by decide⟩ (Nat.le_of_ble_eq_true rfl) (fun r w1 hq => ?_)
      obtain ⟨rfl, g3, h3, rfl, hg3⟩ := hq
      refine R_aload_n (i := 0) hC dX11_deal_46 rfl rfl (R_gI hC dX11_deal_47 fl_X11_155 L_M rfl ?_)
      exact R_iret hC hT dX11_deal_50 rfl (by
      rw [e]
      have ev : (sA (sA (sA (sG (sA (sG σ i_M 0 0) i_m_trial g) i_M 15 p) i_m_undoRow g2) i_m_trial h3) i_m_now g3).1 i_M 15 = nI (pushP (tP α) (tT α)).1 := hm.2.2.2.2.1.1
      rw [ev]
      exact MPost.i ((hm.a (i := i_m_trial) (by decide)).now hg3.TR) ((((c2.g (Nat.le_refl _)).a (by decide)).a (by decide)).a (by decide)))
    · rw [if_neg (by rw [hs]; intro q; exact absurd (congrArg Int32.toInt q) (by rw [nI_toInt (by omega)]; show ¬ (j : Int) = -1; omega)), hs, nI_clamp (by omega)] at e
      rw [hs]
      refine R_istore hC dX11_deal_16 (by decide) rfl (R_iload hC dX11_deal_18 rfl (R_iconst (v := (-1)) hC dX11_deal_20 (by decide) ?_))
      refine R_icmp_eq hC 31 dX11_deal_21 (by decide) (fun h => absurd h (fun q => absurd (congrArg Int32.toInt q) (by rw [nI_toInt (by omega)]; show ¬ (j : Int) = -1; omega))) (fun _ => ?_)
      refine R_aload_n (i := 0) hC dX11_deal_24 rfl rfl (R_iload hC dX11_deal_25 rfl ?_)
      refine R_V1i hC hR dX11_deal_27 MV_X11_refused ml_X11_164 L_M rfl (s_refused _ _ j hj) (by decide) ⟨by decide, by decide⟩ (Nat.le_of_ble_eq_true rfl) ?_
      exact R_iret hC hT dX11_deal_30 rfl (by rw [e]; exact MPost.i (h2.stat hj) (c2.a (by decide)))
  refine R_aload_n (i := 0) hC dX11_deal_0 rfl rfl (R_iconst (v := 0) hC dX11_deal_1 (by decide) (R_pI hC dX11_deal_2 fl_X11_83 L_M rfl (R_aload_n (i := 0) hC dX11_deal_5 rfl rfl (R_aload_n (i := 0) hC dX11_deal_6 rfl rfl (R_gR hC dX11_deal_7 fl_X11_13 L_M rfl (R_iload_n (i := 1) hC dX11_deal_10 rfl rfl (R_iload_n (i := 2) hC dX11_deal_11 rfl rfl ?_)))))))
  refine R_iload_n (i := 3) hC dX11_deal_12 rfl rfl ?_
  refine R_V4g hC hR dX11_deal_13 MV_X11_stops ml_X11_181 L_M rfl (s_stops (sG σ i_M 0 0) x _ L_m_now (by decide) (tT α) hTB kd a b) (by decide) ⟨by decide, by decide⟩ (Nat.le_of_ble_eq_true rfl) (fun r w1 hq => ?_)
  obtain ⟨g, rfl, ⟨k, hk, rfl, rfl⟩ | ⟨hk, rfl⟩⟩ := hq
  · exact fin k g (fun _ => rfl) (by unfold opDeal; rw [if_pos (by rw [nI_toInt (by omega)]; omega), nI_clamp (by omega)])
  · exact fin 8 g (fun q => absurd q (by decide)) (by unfold opDeal; rw [if_neg hk])
  skip
