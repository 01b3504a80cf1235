/-! ===== the class reads a table ===== -/
theorem vs_vsg : ∀ b, b < 256 → (vsN b = none ∧ vsg (nI b) = -1000000) ∨ (vsN b = some (vsg (nI b)) ∧ ¬ vsg (nI b) = -1000000) := by decide +kernel
def rdQ (σ : sg) (x : aW) (a : Nat) (res : Nat ⊕ tb) : Option Value → aW → Prop := fun r w => ∃ τ v, w = wd τ x ∧ AE [a, a + 1] σ τ ∧ r = some (.int v) ∧ ((∃ p, p ≤ 240 ∧ res = .inl p ∧ v = nI p) ∨ ∃ T, res = .inr T ∧ v = -1 ∧ CT τ a T)
theorem c_readT {σ : sg} {x : aW} {a : Nat} {t : tap} (hA : TL a) (ha : a ≠ 17 ∧ a ≠ 18 ∧ a + 1 ≠ 17 ∧ a + 1 ≠ 18) (ht : CI1 σ t) (ok : tpOK t) : Mt mX7_read 1 0 0 [.ref a, .ref i_tape] (wd σ x) (rdQ σ x a (RT t 0 0 0 6 (fun _ _ => 0))) := by
  refine Mt.of MI_X7_read (Nat.le_of_ble_eq_true rfl) (fun X hC hR hT => ?_)
  have o1 := ok.1
  generalize hres : RT t 0 0 0 6 (fun _ _ => 0) = res at hT
  have hta : ∀ τ, AE [a, a + 1] σ τ → CI1 τ t := fun τ hg => ht.ae hg (by intro i z; simp at z; omega)
  have m0 : a ∈ [a, a + 1] := List.mem_cons_self
  have m1 : a + 1 ∈ [a, a + 1] := List.mem_cons_of_mem _ List.mem_cons_self
  have bad : ∀ τ p, AE [a, a + 1] σ τ → p ≤ 240 → res = .inl p → rdQ σ x a res (some (.int (nI p))) (wd τ x) := fun τ p hg hp hr => ⟨τ, nI p, rfl, hg, rfl, Or.inl ⟨p, hp, hr, rfl⟩⟩
  have lp : ∀ i, i ≤ t.1 → ∀ τ row col wid f l6 l7, AE [a, a + 1] σ τ → CT τ a (6, 6, f) → row ≤ 5 → col ≤ wid → wid ≤ 6 → res = RT t i row col wid f → Rw mX7_read X 19 [some (.ref a), some (.ref i_tape), some (.int (nI row)), some (.int (nI col)), some (.int (nI wid)), some (.int (nI i)), l6, l7] [] (wd τ x) 0 0 := by
    refine up_loop t.1 ?_ ?_
    · intro τ row col wid f l6 l7 hg hc h1 h2 h3 hr
      have htt := hta τ hg
      rw [RT_end] at hr
      obtain ⟨k1, k2, k3, k4, k5⟩ := hc
      refine R_iload hC dX7_read_19 rfl (R_aload_n (i := 1) hC dX7_read_21 rfl rfl (R_gI hC dX7_read_22 fl_X7_36 L_tape rfl ?_))
      refine R_top (y := nI t.1) (htt.1) ?_
      refine R_icmp_ge hC 125 dX7_read_25 (by decide) (fun _ => ?_) (fun h => absurd (Int32.le_refl _) h)
      refine R_iload_n (i := 2) hC dX7_read_125 rfl rfl (R_iload_n (i := 3) hC dX7_read_126 rfl rfl (R_iload hC dX7_read_127 rfl ?_))
      refine R_S3i hC hR dX7_read_129 MS_X7_isRowFull ml_X7_52 (c_full row col wid (by omega) (by omega) h3 _) (by first | decide | omega) ⟨by decide, by decide⟩ (Nat.le_of_ble_eq_true rfl) ?_
      refine R_if_ne hC 140 dX7_read_132 (by decide) (fun h132 => ?_) (fun h132 => ?_)
      · refine R_aload_n (i := 0) hC dX7_read_140 rfl rfl (R_iload_n (i := 2) hC dX7_read_141 rfl rfl (R_iconst (v := 1) hC dX7_read_142 (by decide) (R_iadd hC dX7_read_143 ?_)))
        refine R_top (y := nI (row + 1)) (inc1 _) ?_
        refine R_pI hC dX7_read_144 fl_X7_15 hA.1 rfl (R_aload_n (i := 0) hC dX7_read_147 rfl rfl (R_iload_n (i := 3) hC dX7_read_148 rfl rfl (R_pI hC dX7_read_149 fl_X7_19 hA.1 rfl (R_iconst (v := (-1)) hC dX7_read_152 (by decide) ?_))))
        exact R_iret hC hT dX7_read_153 rfl (by
        refine ⟨_, -1, rfl, (hg.g m0).g m0, rfl, Or.inr ⟨(row + 1, col, f), by rw [hr, cnd_t (b2i_ne h132)], rfl, ?_⟩⟩
        refine ⟨?_, sG_eq _ _ _ _, by show row + 1 ≤ 6; omega, by show col ≤ 6; omega, fun i j hi hj => ?_⟩
        · rw [sG_nk (by decide)]; exact sG_eq _ _ _ _
        · have hi : i < row + 1 := hi
          have hj : j < col := hj
          exact k5 i j (show i < 6 by omega) (show j < 6 by omega))
      · refine R_aload_n (i := 1) hC dX7_read_135 rfl rfl (R_gI hC dX7_read_136 fl_X7_36 L_tape rfl ?_)
        refine R_top (y := nI t.1) (htt.1) ?_
        exact R_iret hC hT dX7_read_139 rfl (bad τ t.1 hg o1 (by rw [hr, cnd_f (b2i_0 h132)]))
    · intro i hi ih τ row col wid f l6 l7 hg hc h1 h2 h3 hr
      have htt := hta τ hg
      have c1 := ok.2 i hi
      have e47 := nI_eq (a := t.2 i) (b := 47) (by omega) (by decide)
      have e32 := nI_eq (a := t.2 i) (b := 32) (by omega) (by decide)
      have cw := nI_eq (a := col) (b := wid) (by omega) (by omega)
      have r5 := nI_eq (a := row) (b := 5) (by omega) (by decide)
      have bd := fun h => bad τ i hg (by omega) h
      rcases vs_vsg (t.2 i) (by omega) with ⟨v1, v2⟩ | ⟨v1, v2⟩
      · refine R_iload hC dX7_read_19 rfl (R_aload_n (i := 1) hC dX7_read_21 rfl rfl (R_gI hC dX7_read_22 fl_X7_36 L_tape rfl ?_))
        refine R_top (y := nI t.1) (htt.1) ?_
        refine R_icmp_ge hC 125 dX7_read_25 (by decide) (fun h => absurd h (nI_ge hi (by omega))) (fun _ => ?_)
        refine R_aload_n (i := 1) hC dX7_read_28 rfl rfl (R_iload hC dX7_read_29 rfl ?_)
        refine R_V1i hC hR dX7_read_31 MV_X8_at ml_X7_41 L_tape rfl (c_tat htt o1 hi) (by first | decide | omega) ⟨by decide, by decide⟩ (Nat.le_of_ble_eq_true rfl) ?_
        refine R_istore hC dX7_read_34 (by decide) rfl (R_iload hC dX7_read_36 rfl ?_)
        refine R_S1i hC hR dX7_read_38 MS_X10_valueOfSign ml_X7_44 (c_valSign _ _) (by first | decide | omega) ⟨by decide, by decide⟩ (Nat.le_of_ble_eq_true rfl) ?_
        refine R_istore hC dX7_read_41 (by decide) rfl (R_iload hC dX7_read_43 rfl (R_ldc hC dX7_read_45 kc_X7_47 ?_))
        refine R_icmp_eq hC 73 dX7_read_47 (by decide) (fun _ => ?_) (fun h => absurd v2 h)
        refine R_iload hC dX7_read_73 rfl (R_bipush (v := 47) hC dX7_read_75 (by decide) ?_)
        refine R_icmp_ne hC 109 dX7_read_77 (by decide) (fun h77 => ?_) (fun h77 => ?_)
        · refine R_iload hC dX7_read_109 rfl (R_bipush (v := 32) hC dX7_read_111 (by decide) ?_)
          refine R_icmp_eq hC 119 dX7_read_113 (by decide) (fun h113 => ?_) (fun h113 => ?_)
          · refine R_iinc hC dX7_read_119 rfl (inc1 _) (by decide) rfl (R_goto hC 19 dX7_read_122 (by decide) ?_)
            first
              | exact ih τ row col wid f _ _ hg hc h1 h2 h3 (by rw [hr, RT_b hi (e32.mp h113)])
              | exact ih τ (row + 1) 0 col f _ _ hg hc (by have := mt r5.mpr h92; omega) (Nat.zero_le _) (by omega) (by rw [hr, RT_s hi (e47.mp h77) ⟨b2i_ne h87, fun z => h92 (r5.mpr z)⟩])
          · refine R_iload hC dX7_read_116 rfl ?_
            exact R_iret hC hT dX7_read_118 rfl (bd (by rw [hr]; exact RT_o hi v1 (fun z => h77 (e47.mpr z)) (fun z => h113 (e32.mpr z))))
        · refine R_iload_n (i := 2) hC dX7_read_80 rfl rfl (R_iload_n (i := 3) hC dX7_read_81 rfl rfl (R_iload hC dX7_read_82 rfl ?_))
          refine R_S3i hC hR dX7_read_84 MS_X7_isRowFull ml_X7_52 (c_full row col wid (by omega) (by omega) h3 _) (by first | decide | omega) ⟨by decide, by decide⟩ (Nat.le_of_ble_eq_true rfl) ?_
          refine R_if_eq hC 95 dX7_read_87 (by decide) (fun h87 => ?_) (fun h87 => ?_)
          · refine R_iload hC dX7_read_95 rfl ?_
            exact R_iret hC hT dX7_read_97 rfl (bd (by rw [hr]; first | exact RT_s0 hi (e47.mp h77) (fun z => b2i_0 h87 z.1) | exact RT_s0 hi (e47.mp h77) (fun z => z.2 (r5.mp h92))))
          · refine R_iload_n (i := 2) hC dX7_read_90 rfl rfl (R_iconst (v := 5) hC dX7_read_91 (by decide) ?_)
            refine R_icmp_ne hC 98 dX7_read_92 (by decide) (fun h92 => ?_) (fun h92 => ?_)
            · refine R_iload_n (i := 3) hC dX7_read_98 rfl rfl (R_istore hC dX7_read_99 (by decide) rfl (R_iinc hC dX7_read_101 rfl (inc1 _) (by decide) rfl (R_iconst (v := 0) hC dX7_read_104 (by decide) (R_istore_n (i := 3) hC dX7_read_105 rfl (by decide) rfl (R_goto hC 119 dX7_read_106 (by decide) (R_iinc hC dX7_read_119 rfl (inc1 _) (by decide) rfl (R_goto hC 19 dX7_read_122 (by decide) ?_)))))))
              first
                | exact ih τ row col wid f _ _ hg hc h1 h2 h3 (by rw [hr, RT_b hi (e32.mp h113)])
                | exact ih τ (row + 1) 0 col f _ _ hg hc (by have := mt r5.mpr h92; omega) (Nat.zero_le _) (by omega) (by rw [hr, RT_s hi (e47.mp h77) ⟨b2i_ne h87, fun z => h92 (r5.mpr z)⟩])
            · refine R_iload hC dX7_read_95 rfl ?_
              exact R_iret hC hT dX7_read_97 rfl (bd (by rw [hr]; first | exact RT_s0 hi (e47.mp h77) (fun z => b2i_0 h87 z.1) | exact RT_s0 hi (e47.mp h77) (fun z => z.2 (r5.mp h92))))
      · refine R_iload hC dX7_read_19 rfl (R_aload_n (i := 1) hC dX7_read_21 rfl rfl (R_gI hC dX7_read_22 fl_X7_36 L_tape rfl ?_))
        refine R_top (y := nI t.1) (htt.1) ?_
        refine R_icmp_ge hC 125 dX7_read_25 (by decide) (fun h => absurd h (nI_ge hi (by omega))) (fun _ => ?_)
        refine R_aload_n (i := 1) hC dX7_read_28 rfl rfl (R_iload hC dX7_read_29 rfl ?_)
        refine R_V1i hC hR dX7_read_31 MV_X8_at ml_X7_41 L_tape rfl (c_tat htt o1 hi) (by first | decide | omega) ⟨by decide, by decide⟩ (Nat.le_of_ble_eq_true rfl) ?_
        refine R_istore hC dX7_read_34 (by decide) rfl (R_iload hC dX7_read_36 rfl ?_)
        refine R_S1i hC hR dX7_read_38 MS_X10_valueOfSign ml_X7_44 (c_valSign _ _) (by first | decide | omega) ⟨by decide, by decide⟩ (Nat.le_of_ble_eq_true rfl) ?_
        refine R_istore hC dX7_read_41 (by decide) rfl (R_iload hC dX7_read_43 rfl (R_ldc hC dX7_read_45 kc_X7_47 ?_))
        refine R_icmp_eq hC 73 dX7_read_47 (by decide) (fun h => absurd h v2) (fun _ => ?_)
        refine R_iload_n (i := 3) hC dX7_read_50 rfl rfl (R_iload hC dX7_read_51 rfl ?_)
        refine R_icmp_ne hC 59 dX7_read_53 (by decide) (fun h53 => ?_) (fun h53 => ?_)
        · have cl : col < wid := by have := mt cw.mpr h53; omega
          refine R_aload_n (i := 0) hC dX7_read_59 rfl rfl (R_iload_n (i := 2) hC dX7_read_60 rfl rfl (R_iload_n (i := 3) hC dX7_read_61 rfl rfl (R_iload hC dX7_read_62 rfl ?_)))
          refine R_V3v hC hR dX7_read_64 MV_X7_put ml_X7_48 hA.1 rfl (c_put hA hc (show row < 6 by omega) (show col < 6 by omega) (vsg (nI (t.2 i)))) (by first | decide | omega) ⟨by decide, by decide⟩ (Nat.le_of_ble_eq_true rfl) ?_
          refine R_iinc hC dX7_read_67 rfl (inc1 _) (by decide) rfl (R_goto hC 119 dX7_read_70 (by decide) (R_iinc hC dX7_read_119 rfl (inc1 _) (by decide) rfl (R_goto hC 19 dX7_read_122 (by decide) ?_)))
          exact ih _ row (col + 1) wid _ _ _ (hg.a m1) (hc.put (show col < 6 by omega) (vsg (nI (t.2 i)))) h1 (by omega) h3 (by rw [hr, RT_v hi v1 (by omega)])
        · refine R_iload hC dX7_read_56 rfl ?_
          exact R_iret hC hT dX7_read_58 rfl (bd (by rw [hr, RT_v0 hi v1 (cw.mp h53)]))
  refine R_aload_n (i := 0) hC dX7_read_0 rfl rfl (R_bipush (v := 6) hC dX7_read_1 (by decide) (R_bipush (v := 6) hC dX7_read_3 (by decide) ?_))
  refine R_V2g hC hR dX7_read_5 MV_X7_clear ml_X7_32 hA.1 rfl (c_clear hA 6 6 (by decide) (by decide)) (by first | decide | omega) ⟨by decide, by decide⟩ (Nat.le_of_ble_eq_true rfl) (fun r w1 hq => ?_)
  obtain ⟨rfl, τ, rfl, hg, hc⟩ := hq
  refine R_iconst (v := 0) hC dX7_read_8 (by decide) (R_istore_n (i := 2) hC dX7_read_9 rfl (by decide) rfl (R_iconst (v := 0) hC dX7_read_10 (by decide) (R_istore_n (i := 3) hC dX7_read_11 rfl (by decide) rfl (R_bipush (v := 6) hC dX7_read_12 (by decide) (R_istore hC dX7_read_14 (by decide) rfl (R_iconst (v := 0) hC dX7_read_16 (by decide) (R_istore hC dX7_read_17 (by decide) rfl ?_)))))))
  exact lp 0 (Nat.zero_le _) τ 0 0 6 (fun _ _ => 0) _ _ hg hc (by decide) (Nat.zero_le _) (Nat.le_refl _) hres.symm
