theorem MD.R {σ ω : sg} {α : aS} (h : MD σ ω α) : ω.2.2 i_m_now 36 = nI (tT α).1 := h.1.2.1.1
theorem MD.C {σ ω : sg} {α : aS} (h : MD σ ω α) : ω.2.2 i_m_now 37 = nI (tT α).2.1 := h.1.2.1.2.1
theorem pcI {s : Nat} (hs : s < 64) {k : Nat} (hk : k < 2 ^ 31) : (nI (pc6 s) = nI k) ↔ pc6 s = k := nI_eq (by have := pc6_le s hs; omega) hk
-- squares
noncomputable def sqH (T : tb) (k : Nat) (w : Int32) (r c : Nat) (v : Int32) : Int32 := by classical exact if (pc6 r = k ∧ pc6 c = k ∧ sortZ (dD T.2.2 r c) = w) then v + 1 else v
noncomputable def opSquares (α : aS) (k w : Int32) : Int32 := by classical exact if (¬ (tT α).1 = 0 ∧ (1 ≤ k.toInt ∧ k.toInt ≤ 6) ∧ (0 ≤ w.toInt ∧ w.toInt ≤ 2)) then fo2 (sqH (tT α) k.toNatClampNeg w) (2 ^ (tT α).1) (2 ^ (tT α).2.1) 0 else -1
theorem mo_squares {σ : sg} {x : aW} {α : aS} (h : MInv σ α) (ok : aOK α) (k w : Int32) : Mt mX11_squares 2 0 0 [.ref i_M, .int k, .int w] (wd σ x) (MPost σ x (opSquares α k w) α) := by
  refine Mt.of MI_X11_squares (Nat.le_of_ble_eq_true rfl) (fun X hC hR hT => ?_)
  have hT1 : σ.2.2 i_m_now 36 = nI (tT α).1 := h.2.1.1
  have hTB : TB (σ.2.2 i_m_now) (tT α) := h.2.1.TB ok.2.2.1
  have h1 := M_thr h 0
  have hR6 := ok.2.2.1.1
  have hC6 := ok.2.2.1.2.1
  have p1 := pw6 hR6
  have p2 := pw6 hC6
  have no : ¬ (¬ (tT α).1 = 0 ∧ (1 ≤ k.toInt ∧ k.toInt ≤ 6) ∧ (0 ≤ w.toInt ∧ w.toInt ≤ 2)) → opSquares α k w = -1 := fun q => by unfold opSquares; rw [if_neg q]
  have loop : ∀ ω, MD σ ω α → ∀ K : Nat, k = nI K → K < 2 ^ 31 → opSquares α k w = fo2 (sqH (tT α) K w) (2 ^ (tT α).1) (2 ^ (tT α).2.1) 0 → ∀ n, n ≤ 2 ^ (tT α).1 → 1 ≤ n → ∀ u5 u6, Rw mX11_squares X 54 [some (.ref i_M), some (.int k), some (.int w), some (.int (fo (fun r v => fo (sqH (tT α) K w r) 1 (2 ^ (tT α).2.1) v) 1 n 0)), some (.int (nI n)), u5, u6] [] (wd ω x) 0 0 := by
    intro ω hω K ek hK eo
    refine up_loop (2 ^ (tT α).1) ?_ ?_
    · intro n1 u5 u6
      refine R_iload hC dX11_squares_54 rfl (R_iconst (v := 1) hC dX11_squares_56 (by decide) (R_aload_n (i := 0) hC dX11_squares_57 rfl rfl (R_gR hC dX11_squares_58 fl_X11_13 L_M rfl (R_bipush (v := 36) hC dX11_squares_61 (by decide) (R_aI hC dX11_squares_63 L_m_now 36 rfl (by decide) (by decide) ?_)))))
      refine R_top (y := nI (tT α).1) (hω.R) ?_
      refine R_ishl hC dX11_squares_64 ?_
      refine R_top (y := nI (2 ^ (tT α).1)) (shl1 _ hR6) ?_
      refine R_icmp_ge hC 154 dX11_squares_65 (by decide) (fun _ => ?_) (fun h => absurd (Int32.le_refl _) h)
      refine R_iload_n (i := 3) hC dX11_squares_154 rfl rfl ?_
      exact R_iret hC hT dX11_squares_155 rfl (by rw [eo]; exact hω.p)
    · intro n hn ih n1 u5 u6
      have ih2 := ih (by omega)
      rw [fo_s _ n1] at ih2
      have inn : ∀ c, c ≤ 2 ^ (tT α).2.1 → 1 ≤ c → ∀ u6, Rw mX11_squares X 71 [some (.ref i_M), some (.int k), some (.int w), some (.int (fo (sqH (tT α) K w n) 1 c (fo (fun r v => fo (sqH (tT α) K w r) 1 (2 ^ (tT α).2.1) v) 1 n 0))), some (.int (nI n)), some (.int (nI c)), u6] [] (wd ω x) 0 0 := by
        generalize hv0 : fo (fun r v => fo (sqH (tT α) K w r) 1 (2 ^ (tT α).2.1) v) 1 n 0 = v0 at ih2 ⊢
        refine up_loop (2 ^ (tT α).2.1) ?_ ?_
        · intro c1 u6
          refine R_iload hC dX11_squares_71 rfl (R_iconst (v := 1) hC dX11_squares_73 (by decide) (R_aload_n (i := 0) hC dX11_squares_74 rfl rfl (R_gR hC dX11_squares_75 fl_X11_13 L_M rfl (R_bipush (v := 37) hC dX11_squares_78 (by decide) (R_aI hC dX11_squares_80 L_m_now 37 rfl (by decide) (by decide) ?_)))))
          refine R_top (y := nI (tT α).2.1) (hω.C) ?_
          refine R_ishl hC dX11_squares_81 ?_
          refine R_top (y := nI (2 ^ (tT α).2.1)) (shl1 _ hC6) ?_
          refine R_icmp_ge hC 148 dX11_squares_82 (by decide) (fun _ => ?_) (fun h => absurd (Int32.le_refl _) h)
          refine R_iinc hC dX11_squares_148 rfl (inc1 _) (by decide) rfl (R_goto hC 54 dX11_squares_151 (by decide) ?_)
          exact ih2 _ _
        · intro c hc ihc c1 u6
          have em := pcI (s := n) (by omega) hK
          have em2 := pcI (s := c) (by omega) hK
          have ihc2 := ihc (by omega)
          rw [fo_s _ c1] at ihc2
          by_cases hpn : pc6 n = K
          · have nx : ∀ b : Int32, sqH (tT α) K w n c (fo (sqH (tT α) K w n) 1 c v0) = fo (sqH (tT α) K w n) 1 c v0 + b → ∀ u6, Rw mX11_squares X 140 [some (.ref i_M), some (.int k), some (.int w), some (.int (fo (sqH (tT α) K w n) 1 c v0)), some (.int (nI n)), some (.int (nI c)), u6] [.int b, .int (fo (sqH (tT α) K w n) 1 c v0)] (wd ω x) 0 0 := by
              intro b hb u6
              rw [hb] at ihc2
              refine R_iadd hC dX11_squares_140 (R_istore_n (i := 3) hC dX11_squares_141 rfl (by decide) rfl (R_iinc hC dX11_squares_142 rfl (inc1 _) (by decide) rfl (R_goto hC 71 dX11_squares_145 (by decide) ?_)))
              exact ihc2 _
            refine R_iload hC dX11_squares_71 rfl (R_iconst (v := 1) hC dX11_squares_73 (by decide) (R_aload_n (i := 0) hC dX11_squares_74 rfl rfl (R_gR hC dX11_squares_75 fl_X11_13 L_M rfl (R_bipush (v := 37) hC dX11_squares_78 (by decide) (R_aI hC dX11_squares_80 L_m_now 37 rfl (by decide) (by decide) ?_)))))
            refine R_top (y := nI (tT α).2.1) (hω.C) ?_
            refine R_ishl hC dX11_squares_81 ?_
            refine R_top (y := nI (2 ^ (tT α).2.1)) (shl1 _ hC6) ?_
            refine R_icmp_ge hC 148 dX11_squares_82 (by decide) (fun h => absurd h (nI_ge hc (by omega))) (fun _ => ?_)
            refine R_iload hC dX11_squares_85 rfl ?_
            refine R_S1i hC hR dX11_squares_87 MS_X11_sizeOf ml_X11_204 (s_sizeOf n (by omega) _) (by decide) ⟨by decide, by decide⟩ (Nat.le_of_ble_eq_true rfl) ?_
            refine R_iload_n (i := 1) hC dX11_squares_90 rfl rfl ?_
            refine R_icmp_ne hC 148 dX11_squares_91 (by decide) (fun h => absurd (by rw [ek]; exact em.mpr hpn) h) (fun _ => ?_)
            refine R_iload hC dX11_squares_94 rfl ?_
            refine R_S1i hC hR dX11_squares_96 MS_X11_sizeOf ml_X11_204 (s_sizeOf c (by omega) _) (by decide) ⟨by decide, by decide⟩ (Nat.le_of_ble_eq_true rfl) ?_
            refine R_iload_n (i := 1) hC dX11_squares_99 rfl rfl ?_
            refine R_icmp_eq hC 106 dX11_squares_100 (by decide) (fun h100 => ?_) (fun h100 => ?_)
            · rw [ek] at h100
              have hpc := em2.mp h100
              refine R_aload_n (i := 0) hC dX11_squares_106 rfl rfl (R_gR hC dX11_squares_107 fl_X11_38 L_M rfl (R_bipush (v := 64) hC dX11_squares_110 (by decide) (R_iload hC dX11_squares_112 rfl (R_imul hC dX11_squares_114 (R_iload hC dX11_squares_115 rfl (R_iadd hC dX11_squares_117 (R_aI hC dX11_squares_118 L_m_dets (64 * n + c) (n64 n c) (by omega) (by decide) ?_)))))))
              refine R_top (y := dD (tT α).2.2 n c) (hω.2.2 n c hn hc (by omega)) ?_
              refine R_abs hC hR dX11_squares_119 kl_X11_218 (by decide) ⟨by decide, by decide⟩ (Nat.le_of_ble_eq_true rfl) ?_
              refine R_istore hC dX11_squares_122 (by decide) rfl (R_iload_n (i := 3) hC dX11_squares_124 rfl rfl (R_iconst (v := 2) hC dX11_squares_125 (by decide) (R_iload hC dX11_squares_126 rfl ?_)))
              refine R_min hC hR dX11_squares_128 kl_X11_223 (by decide) ⟨by decide, by decide⟩ (Nat.le_of_ble_eq_true rfl) ?_
              refine R_top (y := sortZ (dD (tT α).2.2 n c)) (sort_eq (dD_bd ok.2.2.1 hn hc)) ?_
              refine R_iload_n (i := 2) hC dX11_squares_131 rfl rfl ?_
              refine R_icmp_ne hC 139 dX11_squares_132 (by decide) (fun h132 => ?_) (fun h132 => ?_)
              · refine R_iconst (v := 0) hC dX11_squares_139 (by decide) ?_
                exact nx _ (by
                unfold sqH
                first
                | (rw [if_pos ⟨hpn, hpc, h132⟩]; done)
                | (have h133 := h132; rw [if_neg (fun z => h133 z.2.2), Int32.add_zero]; done)) _
              · refine R_iconst (v := 1) hC dX11_squares_135 (by decide) (R_goto hC 140 dX11_squares_136 (by decide) ?_)
                exact nx _ (by
                unfold sqH
                first
                | (rw [if_pos ⟨hpn, hpc, h132⟩]; done)
                | (have h133 := h132; rw [if_neg (fun z => h133 z.2.2), Int32.add_zero]; done)) _
            · refine R_goto hC 142 dX11_squares_103 (by decide) (R_iinc hC dX11_squares_142 rfl (inc1 _) (by decide) rfl (R_goto hC 71 dX11_squares_145 (by decide) ?_))
              exact (by
              have e : sqH (tT α) K w n c (fo (sqH (tT α) K w n) 1 c v0) = fo (sqH (tT α) K w n) 1 c v0 := by unfold sqH; rw [if_neg (fun z => h100 (by rw [ek]; exact em2.mpr z.2.1))]
              rw [e] at ihc2
              exact ihc2 _)
          · have e : ∀ b v, fo (sqH (tT α) K w n) 1 b v = v := fun b v => fo_id b (fun i v _ _ => by unfold sqH; rw [if_neg (fun z => hpn z.1)]) v
            rw [e] at ih2
            rw [e]
            refine R_iload hC dX11_squares_71 rfl (R_iconst (v := 1) hC dX11_squares_73 (by decide) (R_aload_n (i := 0) hC dX11_squares_74 rfl rfl (R_gR hC dX11_squares_75 fl_X11_13 L_M rfl (R_bipush (v := 37) hC dX11_squares_78 (by decide) (R_aI hC dX11_squares_80 L_m_now 37 rfl (by decide) (by decide) ?_)))))
            refine R_top (y := nI (tT α).2.1) (hω.C) ?_
            refine R_ishl hC dX11_squares_81 ?_
            refine R_top (y := nI (2 ^ (tT α).2.1)) (shl1 _ hC6) ?_
            refine R_icmp_ge hC 148 dX11_squares_82 (by decide) (fun h => absurd h (nI_ge hc (by omega))) (fun _ => ?_)
            refine R_iload hC dX11_squares_85 rfl ?_
            refine R_S1i hC hR dX11_squares_87 MS_X11_sizeOf ml_X11_204 (s_sizeOf n (by omega) _) (by decide) ⟨by decide, by decide⟩ (Nat.le_of_ble_eq_true rfl) ?_
            refine R_iload_n (i := 1) hC dX11_squares_90 rfl rfl ?_
            refine R_icmp_ne hC 148 dX11_squares_91 (by decide) (fun _ => ?_) (fun h => absurd h (by rw [ek]; exact fun z => hpn (em.mp z)))
            refine R_iinc hC dX11_squares_148 rfl (inc1 _) (by decide) rfl (R_goto hC 54 dX11_squares_151 (by decide) ?_)
            exact ih2 _ _
      have i1 := inn 1 (Nat.one_le_two_pow) (Nat.le_refl _)
      rw [fo_0 _ (Nat.le_refl 1)] at i1
      refine R_iload hC dX11_squares_54 rfl (R_iconst (v := 1) hC dX11_squares_56 (by decide) (R_aload_n (i := 0) hC dX11_squares_57 rfl rfl (R_gR hC dX11_squares_58 fl_X11_13 L_M rfl (R_bipush (v := 36) hC dX11_squares_61 (by decide) (R_aI hC dX11_squares_63 L_m_now 36 rfl (by decide) (by decide) ?_)))))
      refine R_top (y := nI (tT α).1) (hω.R) ?_
      refine R_ishl hC dX11_squares_64 ?_
      refine R_top (y := nI (2 ^ (tT α).1)) (shl1 _ hR6) ?_
      refine R_icmp_ge hC 154 dX11_squares_65 (by decide) (fun h => absurd h (nI_ge hn (by omega))) (fun _ => ?_)
      refine R_iconst (v := 1) hC dX11_squares_68 (by decide) (R_istore hC dX11_squares_69 (by decide) rfl ?_)
      exact i1 _
  refine R_aload_n (i := 0) hC dX11_squares_0 rfl rfl (R_iconst (v := 0) hC dX11_squares_1 (by decide) (R_pI hC dX11_squares_2 fl_X11_83 L_M rfl (R_aload_n (i := 0) hC dX11_squares_5 rfl rfl (R_gR hC dX11_squares_6 fl_X11_13 L_M rfl (R_bipush (v := 36) hC dX11_squares_9 (by decide) (R_aI hC dX11_squares_11 L_m_now 36 rfl (by decide) (by decide) ?_))))))
  refine R_top (y := nI (tT α).1) hT1 ?_
  refine R_if_eq hC 39 dX11_squares_12 (by decide) (fun h12 => ?_) (fun h12 => ?_)
  · refine R_iconst (v := (-1)) hC dX11_squares_39 (by decide) ?_
    exact R_iret hC hT dX11_squares_40 rfl (by
    first
    | (rw [no (fun z => z.1 ((T0_iff ok).mp h12))]; exact MPost.i h1 (M_ceq σ))
    | (rw [no (fun z => ite0 h24 z.2.1)]; exact MPost.i h1 (M_ceq σ))
    | (rw [no (fun z => ite0 h36 z.2.2)]; exact MPost.i h1 (M_ceq σ)))
  · refine R_iload_n (i := 1) hC dX11_squares_15 rfl rfl (R_i2l hC dX11_squares_16 (R_lconst (v := 1) hC dX11_squares_17 (by decide) (R_ldc2 hC dX11_squares_18 kc_X11_214 ?_)))
    refine R_S3i hC hR dX11_squares_21 MS_X11_isIn ml_X11_140 (s_isInZ k 1 6 1 6 (by decide) (by decide) _) (by decide) ⟨by decide, by decide⟩ (Nat.le_of_ble_eq_true rfl) ?_
    refine R_if_eq hC 39 dX11_squares_24 (by decide) (fun h24 => ?_) (fun h24 => ?_)
    · refine R_iconst (v := (-1)) hC dX11_squares_39 (by decide) ?_
      exact R_iret hC hT dX11_squares_40 rfl (by
      first
      | (rw [no (fun z => z.1 ((T0_iff ok).mp h12))]; exact MPost.i h1 (M_ceq σ))
      | (rw [no (fun z => ite0 h24 z.2.1)]; exact MPost.i h1 (M_ceq σ))
      | (rw [no (fun z => ite0 h36 z.2.2)]; exact MPost.i h1 (M_ceq σ)))
    · refine R_iload_n (i := 2) hC dX11_squares_27 rfl rfl (R_i2l hC dX11_squares_28 (R_lconst (v := 0) hC dX11_squares_29 (by decide) (R_ldc2 hC dX11_squares_30 kc_X11_216 ?_)))
      refine R_S3i hC hR dX11_squares_33 MS_X11_isIn ml_X11_140 (s_isInZ w 0 2 0 2 (by decide) (by decide) _) (by decide) ⟨by decide, by decide⟩ (Nat.le_of_ble_eq_true rfl) ?_
      refine R_if_ne hC 41 dX11_squares_36 (by decide) (fun h36 => ?_) (fun h36 => ?_)
      · refine R_aload_n (i := 0) hC dX11_squares_41 rfl rfl (R_aload_n (i := 0) hC dX11_squares_42 rfl rfl (R_gR hC dX11_squares_43 fl_X11_13 L_M rfl ?_))
        refine R_V1g hC hR dX11_squares_46 MV_X11_laysDets ml_X11_207 L_M rfl (s_laysDets (sG σ i_M 0 0) x i_m_now L_m_now (by decide) (tT α) hTB) (by decide) ⟨by decide, by decide⟩ (Nat.le_of_ble_eq_true rfl) (fun r w1 hq => ?_)
        obtain ⟨rfl, g, rfl, hg⟩ := hq
        have k1 := ite1 h24
        have k2 := ite1 h36
        have n0 : ¬ (tT α).1 = 0 := fun z => h12 ((T0_iff ok).mpr z)
        obtain ⟨K, ek, hK, hK2⟩ := i32_nI (show 0 ≤ k.toInt by omega)
        have l1 := loop _ (MD.of h hg) K ek hK2 (by unfold opSquares; rw [if_pos ⟨n0, k1, k2⟩, ek, nI_clamp hK2]) 1 (Nat.one_le_two_pow) (Nat.le_refl _)
        rw [fo_0 _ (Nat.le_refl 1)] at l1
        refine R_iconst (v := 0) hC dX11_squares_49 (by decide) (R_istore_n (i := 3) hC dX11_squares_50 rfl (by decide) rfl (R_iconst (v := 1) hC dX11_squares_51 (by decide) (R_istore hC dX11_squares_52 (by decide) rfl ?_)))
        exact l1 _ _
      · refine R_iconst (v := (-1)) hC dX11_squares_39 (by decide) ?_
        exact R_iret hC hT dX11_squares_40 rfl (by
        first
        | (rw [no (fun z => z.1 ((T0_iff ok).mp h12))]; exact MPost.i h1 (M_ceq σ))
        | (rw [no (fun z => ite0 h24 z.2.1)]; exact MPost.i h1 (M_ceq σ))
        | (rw [no (fun z => ite0 h36 z.2.2)]; exact MPost.i h1 (M_ceq σ)))
-- rank
def nzB (b d : Int32) : Prop := if b = 0 then ¬ d = 0 else ¬ d - d / b * b = 0
noncomputable def rkH (T : tb) (b : Int32) (r c : Nat) (v : Int32) : Int32 := by classical exact if (pc6 r = pc6 c ∧ nzB b (dD T.2.2 r c)) then (if v < nI (pc6 r) then nI (pc6 r) else v) else v
noncomputable def opRank (α : aS) (b : Int32) : Int32 := by classical exact if (¬ (tT α).1 = 0 ∧ (b = 0 ∨ b = 2 ∨ b = 3)) then fo2 (rkH (tT α) b) (2 ^ (tT α).1) (2 ^ (tT α).2.1) 0 else -1
theorem mo_rank {σ : sg} {x : aW} {α : aS} (h : MInv σ α) (ok : aOK α) (b : Int32) : Mt mX11_rank 2 0 0 [.ref i_M, .int b] (wd σ x) (MPost σ x (opRank α b) α) := by
  refine Mt.of MI_X11_rank (Nat.le_of_ble_eq_true rfl) (fun X hC hR hT => ?_)
  have hT1 : σ.2.2 i_m_now 36 = nI (tT α).1 := h.2.1.1
  have hTB : TB (σ.2.2 i_m_now) (tT α) := h.2.1.TB ok.2.2.1
  have h1 := M_thr h 0
  have hR6 := ok.2.2.1.1
  have hC6 := ok.2.2.1.2.1
  have p1 := pw6 hR6
  have p2 := pw6 hC6
  have no : ¬ (¬ (tT α).1 = 0 ∧ (b = 0 ∨ b = 2 ∨ b = 3)) → opRank α b = -1 := fun q => by unfold opRank; rw [if_neg q]
  have loop : ∀ ω, MD σ ω α → opRank α b = fo2 (rkH (tT α) b) (2 ^ (tT α).1) (2 ^ (tT α).2.1) 0 → ∀ n, n ≤ 2 ^ (tT α).1 → 1 ≤ n → ∀ u5 u6, Rw mX11_rank X 43 [some (.ref i_M), some (.int b), some (.int (fo (fun r v => fo (rkH (tT α) b r) 1 (2 ^ (tT α).2.1) v) 1 n 0)), some (.int (nI n)), u5, u6] [] (wd ω x) 0 0 := by
    intro ω hω eo
    refine up_loop (2 ^ (tT α).1) ?_ ?_
    · intro n1 u5 u6
      refine R_iload_n (i := 3) hC dX11_rank_43 rfl rfl (R_iconst (v := 1) hC dX11_rank_44 (by decide) (R_aload_n (i := 0) hC dX11_rank_45 rfl rfl (R_gR hC dX11_rank_46 fl_X11_13 L_M rfl (R_bipush (v := 36) hC dX11_rank_49 (by decide) (R_aI hC dX11_rank_51 L_m_now 36 rfl (by decide) (by decide) ?_)))))
      refine R_top (y := nI (tT α).1) (hω.R) ?_
      refine R_ishl hC dX11_rank_52 ?_
      refine R_top (y := nI (2 ^ (tT α).1)) (shl1 _ hR6) ?_
      refine R_icmp_ge hC 142 dX11_rank_53 (by decide) (fun _ => ?_) (fun h => absurd (Int32.le_refl _) h)
      refine R_iload_n (i := 2) hC dX11_rank_142 rfl rfl ?_
      exact R_iret hC hT dX11_rank_143 rfl (by rw [eo]; exact hω.p)
    · intro n hn ih n1 u5 u6
      have ih2 := ih (by omega)
      rw [fo_s _ n1] at ih2
      have inn : ∀ c, c ≤ 2 ^ (tT α).2.1 → 1 ≤ c → ∀ u6, Rw mX11_rank X 59 [some (.ref i_M), some (.int b), some (.int (fo (rkH (tT α) b n) 1 c (fo (fun r v => fo (rkH (tT α) b r) 1 (2 ^ (tT α).2.1) v) 1 n 0))), some (.int (nI n)), some (.int (nI c)), u6] [] (wd ω x) 0 0 := by
        generalize hv0 : fo (fun r v => fo (rkH (tT α) b r) 1 (2 ^ (tT α).2.1) v) 1 n 0 = v0 at ih2 ⊢
        refine up_loop (2 ^ (tT α).2.1) ?_ ?_
        · intro c1 u6
          refine R_iload hC dX11_rank_59 rfl (R_iconst (v := 1) hC dX11_rank_61 (by decide) (R_aload_n (i := 0) hC dX11_rank_62 rfl rfl (R_gR hC dX11_rank_63 fl_X11_13 L_M rfl (R_bipush (v := 37) hC dX11_rank_66 (by decide) (R_aI hC dX11_rank_68 L_m_now 37 rfl (by decide) (by decide) ?_)))))
          refine R_top (y := nI (tT α).2.1) (hω.C) ?_
          refine R_ishl hC dX11_rank_69 ?_
          refine R_top (y := nI (2 ^ (tT α).2.1)) (shl1 _ hC6) ?_
          refine R_icmp_ge hC 136 dX11_rank_70 (by decide) (fun _ => ?_) (fun h => absurd (Int32.le_refl _) h)
          refine R_iinc hC dX11_rank_136 rfl (inc1 _) (by decide) rfl (R_goto hC 43 dX11_rank_139 (by decide) ?_)
          exact ih2 _ _
        · intro c hc ihc c1 u6
          have q2 := pc6_le c (by omega)
          have em := pcI (s := n) (k := pc6 c) (by omega) (by omega)
          have ihc2 := ihc (by omega)
          rw [fo_s _ c1] at ihc2
          generalize hvc : fo (rkH (tT α) b n) 1 c v0 = vc at ihc2 ⊢
          have sk : ¬ (pc6 n = pc6 c ∧ nzB b (dD (tT α).2.2 n c)) → ∀ u6, Rw mX11_rank X 59 [some (.ref i_M), some (.int b), some (.int vc), some (.int (nI n)), some (.int (nI (c + 1))), u6] [] (wd ω x) 0 0 := by
            intro q u6
            have e : rkH (tT α) b n c vc = vc := by unfold rkH; rw [if_neg q]
            rw [e] at ihc2; exact ihc2 _
          refine R_iload hC dX11_rank_59 rfl (R_iconst (v := 1) hC dX11_rank_61 (by decide) (R_aload_n (i := 0) hC dX11_rank_62 rfl rfl (R_gR hC dX11_rank_63 fl_X11_13 L_M rfl (R_bipush (v := 37) hC dX11_rank_66 (by decide) (R_aI hC dX11_rank_68 L_m_now 37 rfl (by decide) (by decide) ?_)))))
          refine R_top (y := nI (tT α).2.1) (hω.C) ?_
          refine R_ishl hC dX11_rank_69 ?_
          refine R_top (y := nI (2 ^ (tT α).2.1)) (shl1 _ hC6) ?_
          refine R_icmp_ge hC 136 dX11_rank_70 (by decide) (fun h => absurd h (nI_ge hc (by omega))) (fun _ => ?_)
          refine R_iload_n (i := 3) hC dX11_rank_73 rfl rfl ?_
          refine R_S1i hC hR dX11_rank_74 MS_X11_sizeOf ml_X11_204 (s_sizeOf n (by omega) _) (by decide) ⟨by decide, by decide⟩ (Nat.le_of_ble_eq_true rfl) ?_
          refine R_iload hC dX11_rank_77 rfl ?_
          refine R_S1i hC hR dX11_rank_79 MS_X11_sizeOf ml_X11_204 (s_sizeOf c (by omega) _) (by decide) ⟨by decide, by decide⟩ (Nat.le_of_ble_eq_true rfl) ?_
          refine R_icmp_eq hC 88 dX11_rank_82 (by decide) (fun h82 => ?_) (fun h82 => ?_)
          · have hpc := em.mp h82
            refine R_aload_n (i := 0) hC dX11_rank_88 rfl rfl (R_gR hC dX11_rank_89 fl_X11_38 L_M rfl (R_bipush (v := 64) hC dX11_rank_92 (by decide) (R_iload_n (i := 3) hC dX11_rank_94 rfl rfl (R_imul hC dX11_rank_95 (R_iload hC dX11_rank_96 rfl (R_iadd hC dX11_rank_98 (R_aI hC dX11_rank_99 L_m_dets (64 * n + c) (n64 n c) (by omega) (by decide) ?_)))))))
            refine R_top (y := dD (tT α).2.2 n c) (hω.2.2 n c hn hc hpc) ?_
            refine R_istore hC dX11_rank_100 (by decide) rfl (R_iload_n (i := 1) hC dX11_rank_102 rfl rfl ?_)
            refine R_if_ne hC 114 dX11_rank_103 (by decide) (fun h103 => ?_) (fun h103 => ?_)
            · refine R_iload hC dX11_rank_114 rfl (R_iload_n (i := 1) hC dX11_rank_116 rfl rfl (R_irem hC dX11_rank_117 h103 ?_))
              refine R_if_eq hC 130 dX11_rank_118 (by decide) (fun h118 => ?_) (fun h118 => ?_)
              · refine R_iinc hC dX11_rank_130 rfl (inc1 _) (by decide) rfl (R_goto hC 59 dX11_rank_133 (by decide) ?_)
                first
                | exact ihc2 _
                | exact sk (fun z => h82 (em.mpr z.1)) _
                | (refine sk (fun z => ?_) _; have y := z.2; unfold nzB at y; first | (rw [if_neg h103] at y; exact y h118) | (have h104 := h103; rw [if_pos h104] at y; exact y h108))
              · refine R_iload_n (i := 2) hC dX11_rank_121 rfl rfl (R_iload_n (i := 3) hC dX11_rank_122 rfl rfl ?_)
                refine R_S1i hC hR dX11_rank_123 MS_X11_sizeOf ml_X11_204 (s_sizeOf n (by omega) _) (by decide) ⟨by decide, by decide⟩ (Nat.le_of_ble_eq_true rfl) ?_
                refine R_max hC hR dX11_rank_126 kl_X11_304 (by decide) ⟨by decide, by decide⟩ (Nat.le_of_ble_eq_true rfl) ?_
                have hnz : nzB b (dD (tT α).2.2 n c) := by
                  unfold nzB
                  first
                  | (rw [if_neg h103]; exact h118)
                  | (have h104 := h103; rw [if_pos h104]; exact h108)
                have e : rkH (tT α) b n c vc = if vc < nI (pc6 n) then nI (pc6 n) else vc := by unfold rkH; rw [if_pos ⟨hpc, hnz⟩]
                rw [e] at ihc2
                refine R_istore_n (i := 2) hC dX11_rank_129 rfl (by decide) rfl (R_iinc hC dX11_rank_130 rfl (inc1 _) (by decide) rfl (R_goto hC 59 dX11_rank_133 (by decide) ?_))
                first
                | exact ihc2 _
                | exact sk (fun z => h82 (em.mpr z.1)) _
                | (refine sk (fun z => ?_) _; have y := z.2; unfold nzB at y; first | (rw [if_neg h103] at y; exact y h118) | (have h104 := h103; rw [if_pos h104] at y; exact y h108))
            · refine R_iload hC dX11_rank_106 rfl ?_
              refine R_if_eq hC 130 dX11_rank_108 (by decide) (fun h108 => ?_) (fun h108 => ?_)
              · refine R_iinc hC dX11_rank_130 rfl (inc1 _) (by decide) rfl (R_goto hC 59 dX11_rank_133 (by decide) ?_)
                first
                | exact ihc2 _
                | exact sk (fun z => h82 (em.mpr z.1)) _
                | (refine sk (fun z => ?_) _; have y := z.2; unfold nzB at y; first | (rw [if_neg h103] at y; exact y h118) | (have h104 := h103; rw [if_pos h104] at y; exact y h108))
              · refine R_goto hC 121 dX11_rank_111 (by decide) (R_iload_n (i := 2) hC dX11_rank_121 rfl rfl (R_iload_n (i := 3) hC dX11_rank_122 rfl rfl ?_))
                refine R_S1i hC hR dX11_rank_123 MS_X11_sizeOf ml_X11_204 (s_sizeOf n (by omega) _) (by decide) ⟨by decide, by decide⟩ (Nat.le_of_ble_eq_true rfl) ?_
                refine R_max hC hR dX11_rank_126 kl_X11_304 (by decide) ⟨by decide, by decide⟩ (Nat.le_of_ble_eq_true rfl) ?_
                have hnz : nzB b (dD (tT α).2.2 n c) := by
                  unfold nzB
                  first
                  | (rw [if_neg h103]; exact h118)
                  | (have h104 := h103; rw [if_pos h104]; exact h108)
                have e : rkH (tT α) b n c vc = if vc < nI (pc6 n) then nI (pc6 n) else vc := by unfold rkH; rw [if_pos ⟨hpc, hnz⟩]
                rw [e] at ihc2
                refine R_istore_n (i := 2) hC dX11_rank_129 rfl (by decide) rfl (R_iinc hC dX11_rank_130 rfl (inc1 _) (by decide) rfl (R_goto hC 59 dX11_rank_133 (by decide) ?_))
                first
                | exact ihc2 _
                | exact sk (fun z => h82 (em.mpr z.1)) _
                | (refine sk (fun z => ?_) _; have y := z.2; unfold nzB at y; first | (rw [if_neg h103] at y; exact y h118) | (have h104 := h103; rw [if_pos h104] at y; exact y h108))
          · refine R_goto hC 130 dX11_rank_85 (by decide) (R_iinc hC dX11_rank_130 rfl (inc1 _) (by decide) rfl (R_goto hC 59 dX11_rank_133 (by decide) ?_))
            first
            | exact ihc2 _
            | exact sk (fun z => h82 (em.mpr z.1)) _
            | (refine sk (fun z => ?_) _; have y := z.2; unfold nzB at y; first | (rw [if_neg h103] at y; exact y h118) | (have h104 := h103; rw [if_pos h104] at y; exact y h108))
      have i1 := inn 1 (Nat.one_le_two_pow) (Nat.le_refl _)
      rw [fo_0 _ (Nat.le_refl 1)] at i1
      refine R_iload_n (i := 3) hC dX11_rank_43 rfl rfl (R_iconst (v := 1) hC dX11_rank_44 (by decide) (R_aload_n (i := 0) hC dX11_rank_45 rfl rfl (R_gR hC dX11_rank_46 fl_X11_13 L_M rfl (R_bipush (v := 36) hC dX11_rank_49 (by decide) (R_aI hC dX11_rank_51 L_m_now 36 rfl (by decide) (by decide) ?_)))))
      refine R_top (y := nI (tT α).1) (hω.R) ?_
      refine R_ishl hC dX11_rank_52 ?_
      refine R_top (y := nI (2 ^ (tT α).1)) (shl1 _ hR6) ?_
      refine R_icmp_ge hC 142 dX11_rank_53 (by decide) (fun h => absurd h (nI_ge hn (by omega))) (fun _ => ?_)
      refine R_iconst (v := 1) hC dX11_rank_56 (by decide) (R_istore hC dX11_rank_57 (by decide) rfl ?_)
      exact i1 _
  refine R_aload_n (i := 0) hC dX11_rank_0 rfl rfl (R_iconst (v := 0) hC dX11_rank_1 (by decide) (R_pI hC dX11_rank_2 fl_X11_83 L_M rfl (R_aload_n (i := 0) hC dX11_rank_5 rfl rfl (R_gR hC dX11_rank_6 fl_X11_13 L_M rfl (R_bipush (v := 36) hC dX11_rank_9 (by decide) (R_aI hC dX11_rank_11 L_m_now 36 rfl (by decide) (by decide) ?_))))))
  refine R_top (y := nI (tT α).1) hT1 ?_
  refine R_if_eq hC 29 dX11_rank_12 (by decide) (fun h12 => ?_) (fun h12 => ?_)
  · refine R_iconst (v := (-1)) hC dX11_rank_29 (by decide) ?_
    exact R_iret hC hT dX11_rank_30 rfl (by
    first
    | (rw [no (fun z => z.1 ((T0_iff ok).mp h12))]; exact MPost.i h1 (M_ceq σ))
    | (rw [no (fun z => by rcases z.2 with y | y | y; exact h16 y; exact h21 y; exact h26 y)]; exact MPost.i h1 (M_ceq σ)))
  · refine R_iload_n (i := 1) hC dX11_rank_15 rfl rfl ?_
    refine R_if_eq hC 31 dX11_rank_16 (by decide) (fun h16 => ?_) (fun h16 => ?_)
    · refine R_aload_n (i := 0) hC dX11_rank_31 rfl rfl (R_aload_n (i := 0) hC dX11_rank_32 rfl rfl (R_gR hC dX11_rank_33 fl_X11_13 L_M rfl ?_))
      refine R_V1g hC hR dX11_rank_36 MV_X11_laysDets ml_X11_207 L_M rfl (s_laysDets (sG σ i_M 0 0) x i_m_now L_m_now (by decide) (tT α) hTB) (by decide) ⟨by decide, by decide⟩ (Nat.le_of_ble_eq_true rfl) (fun r w1 hq => ?_)
      obtain ⟨rfl, g, rfl, hg⟩ := hq
      have n0 : ¬ (tT α).1 = 0 := fun z => h12 ((T0_iff ok).mpr z)
      have hb : b = 0 ∨ b = 2 ∨ b = 3 := by first | exact Or.inl h16 | exact Or.inr (Or.inl h21) | exact Or.inr (Or.inr h26)
      have l1 := loop _ (MD.of h hg) (by unfold opRank; rw [if_pos ⟨n0, hb⟩]) 1 (Nat.one_le_two_pow) (Nat.le_refl _)
      rw [fo_0 _ (Nat.le_refl 1)] at l1
      refine R_iconst (v := 0) hC dX11_rank_39 (by decide) (R_istore_n (i := 2) hC dX11_rank_40 rfl (by decide) rfl (R_iconst (v := 1) hC dX11_rank_41 (by decide) (R_istore_n (i := 3) hC dX11_rank_42 rfl (by decide) rfl ?_)))
      exact l1 _ _
    · refine R_iload_n (i := 1) hC dX11_rank_19 rfl rfl (R_iconst (v := 2) hC dX11_rank_20 (by decide) ?_)
      refine R_icmp_eq hC 31 dX11_rank_21 (by decide) (fun h21 => ?_) (fun h21 => ?_)
      · refine R_aload_n (i := 0) hC dX11_rank_31 rfl rfl (R_aload_n (i := 0) hC dX11_rank_32 rfl rfl (R_gR hC dX11_rank_33 fl_X11_13 L_M rfl ?_))
        refine R_V1g hC hR dX11_rank_36 MV_X11_laysDets ml_X11_207 L_M rfl (s_laysDets (sG σ i_M 0 0) x i_m_now L_m_now (by decide) (tT α) hTB) (by decide) ⟨by decide, by decide⟩ (Nat.le_of_ble_eq_true rfl) (fun r w1 hq => ?_)
        obtain ⟨rfl, g, rfl, hg⟩ := hq
        have n0 : ¬ (tT α).1 = 0 := fun z => h12 ((T0_iff ok).mpr z)
        have hb : b = 0 ∨ b = 2 ∨ b = 3 := by first | exact Or.inl h16 | exact Or.inr (Or.inl h21) | exact Or.inr (Or.inr h26)
        have l1 := loop _ (MD.of h hg) (by unfold opRank; rw [if_pos ⟨n0, hb⟩]) 1 (Nat.one_le_two_pow) (Nat.le_refl _)
        rw [fo_0 _ (Nat.le_refl 1)] at l1
        refine R_iconst (v := 0) hC dX11_rank_39 (by decide) (R_istore_n (i := 2) hC dX11_rank_40 rfl (by decide) rfl (R_iconst (v := 1) hC dX11_rank_41 (by decide) (R_istore_n (i := 3) hC dX11_rank_42 rfl (by decide) rfl ?_)))
        exact l1 _ _
      · refine R_iload_n (i := 1) hC dX11_rank_24 rfl rfl (R_iconst (v := 3) hC dX11_rank_25 (by decide) ?_)
        refine R_icmp_eq hC 31 dX11_rank_26 (by decide) (fun h26 => ?_) (fun h26 => ?_)
        · refine R_aload_n (i := 0) hC dX11_rank_31 rfl rfl (R_aload_n (i := 0) hC dX11_rank_32 rfl rfl (R_gR hC dX11_rank_33 fl_X11_13 L_M rfl ?_))
          refine R_V1g hC hR dX11_rank_36 MV_X11_laysDets ml_X11_207 L_M rfl (s_laysDets (sG σ i_M 0 0) x i_m_now L_m_now (by decide) (tT α) hTB) (by decide) ⟨by decide, by decide⟩ (Nat.le_of_ble_eq_true rfl) (fun r w1 hq => ?_)
          obtain ⟨rfl, g, rfl, hg⟩ := hq
          have n0 : ¬ (tT α).1 = 0 := fun z => h12 ((T0_iff ok).mpr z)
          have hb : b = 0 ∨ b = 2 ∨ b = 3 := by first | exact Or.inl h16 | exact Or.inr (Or.inl h21) | exact Or.inr (Or.inr h26)
          have l1 := loop _ (MD.of h hg) (by unfold opRank; rw [if_pos ⟨n0, hb⟩]) 1 (Nat.one_le_two_pow) (Nat.le_refl _)
          rw [fo_0 _ (Nat.le_refl 1)] at l1
          refine R_iconst (v := 0) hC dX11_rank_39 (by decide) (R_istore_n (i := 2) hC dX11_rank_40 rfl (by decide) rfl (R_iconst (v := 1) hC dX11_rank_41 (by decide) (R_istore_n (i := 3) hC dX11_rank_42 rfl (by decide) rfl ?_)))
          exact l1 _ _
        · refine R_iconst (v := (-1)) hC dX11_rank_29 (by decide) ?_
          exact R_iret hC hT dX11_rank_30 rfl (by
          first
          | (rw [no (fun z => z.1 ((T0_iff ok).mp h12))]; exact MPost.i h1 (M_ceq σ))
          | (rw [no (fun z => by rcases z.2 with y | y | y; exact h16 y; exact h21 y; exact h26 y)]; exact MPost.i h1 (M_ceq σ)))
-- bases
noncomputable def bsH (T : tb) (r c : Nat) (v : Int32) : Int32 := by classical exact if (pc6 r = pc6 c ∧ ¬ dD T.2.2 r c = 0) then v + 1 else v
noncomputable def opBases (α : aS) : Int32 := if (tT α).1 = 0 then -1 else fo2 (bsH (tT α)) (2 ^ (tT α).1) (2 ^ (tT α).2.1) 1
theorem mo_bases {σ : sg} {x : aW} {α : aS} (h : MInv σ α) (ok : aOK α) : Mt mX11_bases 2 0 0 [.ref i_M] (wd σ x) (MPost σ x (opBases α) α) := by
  refine Mt.of MI_X11_bases (Nat.le_of_ble_eq_true rfl) (fun X hC hR hT => ?_)
  have hT1 : σ.2.2 i_m_now 36 = nI (tT α).1 := h.2.1.1
  have hTB : TB (σ.2.2 i_m_now) (tT α) := h.2.1.TB ok.2.2.1
  have h1 := M_thr h 0
  have hR6 := ok.2.2.1.1
  have hC6 := ok.2.2.1.2.1
  have p1 := pw6 hR6
  have p2 := pw6 hC6
  have loop : ∀ ω, MD σ ω α → opBases α = fo2 (bsH (tT α)) (2 ^ (tT α).1) (2 ^ (tT α).2.1) 1 → ∀ n, n ≤ 2 ^ (tT α).1 → 1 ≤ n → ∀ u5, Rw mX11_bases X 29 [some (.ref i_M), some (.int (fo (fun r v => fo (bsH (tT α) r) 1 (2 ^ (tT α).2.1) v) 1 n 1)), some (.int (nI n)), u5] [] (wd ω x) 0 0 := by
    intro ω hω eo
    refine up_loop (2 ^ (tT α).1) ?_ ?_
    · intro n1 u5
      refine R_iload_n (i := 2) hC dX11_bases_29 rfl rfl (R_iconst (v := 1) hC dX11_bases_30 (by decide) (R_aload_n (i := 0) hC dX11_bases_31 rfl rfl (R_gR hC dX11_bases_32 fl_X11_13 L_M rfl (R_bipush (v := 36) hC dX11_bases_35 (by decide) (R_aI hC dX11_bases_37 L_m_now 36 rfl (by decide) (by decide) ?_)))))
      refine R_top (y := nI (tT α).1) (hω.R) ?_
      refine R_ishl hC dX11_bases_38 ?_
      refine R_top (y := nI (2 ^ (tT α).1)) (shl1 _ hR6) ?_
      refine R_icmp_ge hC 105 dX11_bases_39 (by decide) (fun _ => ?_) (fun h => absurd (Int32.le_refl _) h)
      refine R_iload_n (i := 1) hC dX11_bases_105 rfl rfl ?_
      exact R_iret hC hT dX11_bases_106 rfl (by rw [eo]; exact hω.p)
    · intro n hn ih n1 u5
      have ih2 := ih (by omega)
      rw [fo_s _ n1] at ih2
      have inn : ∀ c, c ≤ 2 ^ (tT α).2.1 → 1 ≤ c → Rw mX11_bases X 44 [some (.ref i_M), some (.int (fo (bsH (tT α) n) 1 c (fo (fun r v => fo (bsH (tT α) r) 1 (2 ^ (tT α).2.1) v) 1 n 1))), some (.int (nI n)), some (.int (nI c))] [] (wd ω x) 0 0 := by
        generalize hv0 : fo (fun r v => fo (bsH (tT α) r) 1 (2 ^ (tT α).2.1) v) 1 n 1 = v0 at ih2 ⊢
        refine up_loop (2 ^ (tT α).2.1) ?_ ?_
        · intro c1
          refine R_iload_n (i := 3) hC dX11_bases_44 rfl rfl (R_iconst (v := 1) hC dX11_bases_45 (by decide) (R_aload_n (i := 0) hC dX11_bases_46 rfl rfl (R_gR hC dX11_bases_47 fl_X11_13 L_M rfl (R_bipush (v := 37) hC dX11_bases_50 (by decide) (R_aI hC dX11_bases_52 L_m_now 37 rfl (by decide) (by decide) ?_)))))
          refine R_top (y := nI (tT α).2.1) (hω.C) ?_
          refine R_ishl hC dX11_bases_53 ?_
          refine R_top (y := nI (2 ^ (tT α).2.1)) (shl1 _ hC6) ?_
          refine R_icmp_ge hC 99 dX11_bases_54 (by decide) (fun _ => ?_) (fun h => absurd (Int32.le_refl _) h)
          refine R_iinc hC dX11_bases_99 rfl (inc1 _) (by decide) rfl (R_goto hC 29 dX11_bases_102 (by decide) ?_)
          exact ih2 _
        · intro c hc ihc c1
          have q2 := pc6_le c (by omega)
          have em := pcI (s := n) (k := pc6 c) (by omega) (by omega)
          have ihc2 := ihc (by omega)
          rw [fo_s _ c1] at ihc2
          generalize hvc : fo (bsH (tT α) n) 1 c v0 = vc at ihc2 ⊢
          have nx : ∀ b, bsH (tT α) n c vc = vc + b → Rw mX11_bases X 91 [some (.ref i_M), some (.int vc), some (.int (nI n)), some (.int (nI c))] [.int b, .int vc] (wd ω x) 0 0 := by
            intro b hb
            rw [hb] at ihc2
            refine R_iadd hC dX11_bases_91 (R_istore_n (i := 1) hC dX11_bases_92 rfl (by decide) rfl (R_iinc hC dX11_bases_93 rfl (inc1 _) (by decide) rfl (R_goto hC 44 dX11_bases_96 (by decide) ?_)))
            exact ihc2
          refine R_iload_n (i := 3) hC dX11_bases_44 rfl rfl (R_iconst (v := 1) hC dX11_bases_45 (by decide) (R_aload_n (i := 0) hC dX11_bases_46 rfl rfl (R_gR hC dX11_bases_47 fl_X11_13 L_M rfl (R_bipush (v := 37) hC dX11_bases_50 (by decide) (R_aI hC dX11_bases_52 L_m_now 37 rfl (by decide) (by decide) ?_)))))
          refine R_top (y := nI (tT α).2.1) (hω.C) ?_
          refine R_ishl hC dX11_bases_53 ?_
          refine R_top (y := nI (2 ^ (tT α).2.1)) (shl1 _ hC6) ?_
          refine R_icmp_ge hC 99 dX11_bases_54 (by decide) (fun h => absurd h (nI_ge hc (by omega))) (fun _ => ?_)
          refine R_iload_n (i := 2) hC dX11_bases_57 rfl rfl ?_
          refine R_S1i hC hR dX11_bases_58 MS_X11_sizeOf ml_X11_204 (s_sizeOf n (by omega) _) (by decide) ⟨by decide, by decide⟩ (Nat.le_of_ble_eq_true rfl) ?_
          refine R_iload_n (i := 3) hC dX11_bases_61 rfl rfl ?_
          refine R_S1i hC hR dX11_bases_62 MS_X11_sizeOf ml_X11_204 (s_sizeOf c (by omega) _) (by decide) ⟨by decide, by decide⟩ (Nat.le_of_ble_eq_true rfl) ?_
          refine R_icmp_eq hC 71 dX11_bases_65 (by decide) (fun h65 => ?_) (fun h65 => ?_)
          · have hpc := em.mp h65
            refine R_iload_n (i := 1) hC dX11_bases_71 rfl rfl (R_aload_n (i := 0) hC dX11_bases_72 rfl rfl (R_gR hC dX11_bases_73 fl_X11_38 L_M rfl (R_bipush (v := 64) hC dX11_bases_76 (by decide) (R_iload_n (i := 2) hC dX11_bases_78 rfl rfl (R_imul hC dX11_bases_79 (R_iload_n (i := 3) hC dX11_bases_80 rfl rfl (R_iadd hC dX11_bases_81 ?_)))))))
            refine R_aI hC dX11_bases_82 L_m_dets (64 * n + c) (n64 n c) (by omega) (by decide) ?_
            refine R_top (y := dD (tT α).2.2 n c) (hω.2.2 n c hn hc hpc) ?_
            refine R_if_ne hC 90 dX11_bases_83 (by decide) (fun h83 => ?_) (fun h83 => ?_)
            · refine R_iconst (v := 1) hC dX11_bases_90 (by decide) ?_
              exact nx _ (by
              unfold bsH
              first
              | (rw [if_pos ⟨hpc, h83⟩]; done)
              | (have h84 := h83; rw [if_neg (fun z => z.2 h84), Int32.add_zero]; done))
            · refine R_iconst (v := 0) hC dX11_bases_86 (by decide) (R_goto hC 91 dX11_bases_87 (by decide) ?_)
              exact nx _ (by
              unfold bsH
              first
              | (rw [if_pos ⟨hpc, h83⟩]; done)
              | (have h84 := h83; rw [if_neg (fun z => z.2 h84), Int32.add_zero]; done))
          · refine R_goto hC 93 dX11_bases_68 (by decide) (R_iinc hC dX11_bases_93 rfl (inc1 _) (by decide) rfl (R_goto hC 44 dX11_bases_96 (by decide) ?_))
            (have e : bsH (tT α) n c vc = vc := (by unfold bsH; rw [if_neg (fun z => h65 (em.mpr z.1))]); rw [e] at ihc2; exact ihc2)
      have i1 := inn 1 (Nat.one_le_two_pow) (Nat.le_refl _)
      rw [fo_0 _ (Nat.le_refl 1)] at i1
      refine R_iload_n (i := 2) hC dX11_bases_29 rfl rfl (R_iconst (v := 1) hC dX11_bases_30 (by decide) (R_aload_n (i := 0) hC dX11_bases_31 rfl rfl (R_gR hC dX11_bases_32 fl_X11_13 L_M rfl (R_bipush (v := 36) hC dX11_bases_35 (by decide) (R_aI hC dX11_bases_37 L_m_now 36 rfl (by decide) (by decide) ?_)))))
      refine R_top (y := nI (tT α).1) (hω.R) ?_
      refine R_ishl hC dX11_bases_38 ?_
      refine R_top (y := nI (2 ^ (tT α).1)) (shl1 _ hR6) ?_
      refine R_icmp_ge hC 105 dX11_bases_39 (by decide) (fun h => absurd h (nI_ge hn (by omega))) (fun _ => ?_)
      refine R_iconst (v := 1) hC dX11_bases_42 (by decide) (R_istore_n (i := 3) hC dX11_bases_43 rfl (by decide) rfl ?_)
      exact i1
  refine R_aload_n (i := 0) hC dX11_bases_0 rfl rfl (R_iconst (v := 0) hC dX11_bases_1 (by decide) (R_pI hC dX11_bases_2 fl_X11_83 L_M rfl (R_aload_n (i := 0) hC dX11_bases_5 rfl rfl (R_gR hC dX11_bases_6 fl_X11_13 L_M rfl (R_bipush (v := 36) hC dX11_bases_9 (by decide) (R_aI hC dX11_bases_11 L_m_now 36 rfl (by decide) (by decide) ?_))))))
  refine R_top (y := nI (tT α).1) hT1 ?_
  refine R_if_ne hC 17 dX11_bases_12 (by decide) (fun h12 => ?_) (fun h12 => ?_)
  · refine R_aload_n (i := 0) hC dX11_bases_17 rfl rfl (R_aload_n (i := 0) hC dX11_bases_18 rfl rfl (R_gR hC dX11_bases_19 fl_X11_13 L_M rfl ?_))
    refine R_V1g hC hR dX11_bases_22 MV_X11_laysDets ml_X11_207 L_M rfl (s_laysDets (sG σ i_M 0 0) x i_m_now L_m_now (by decide) (tT α) hTB) (by decide) ⟨by decide, by decide⟩ (Nat.le_of_ble_eq_true rfl) (fun r w1 hq => ?_)
    obtain ⟨rfl, g, rfl, hg⟩ := hq
    have l1 := loop _ (MD.of h hg) (if_neg (fun z => h12 ((T0_iff ok).mpr z))) 1 (Nat.one_le_two_pow) (Nat.le_refl _)
    rw [fo_0 _ (Nat.le_refl 1)] at l1
    refine R_iconst (v := 1) hC dX11_bases_25 (by decide) (R_istore_n (i := 1) hC dX11_bases_26 rfl (by decide) rfl (R_iconst (v := 1) hC dX11_bases_27 (by decide) (R_istore_n (i := 2) hC dX11_bases_28 rfl (by decide) rfl ?_)))
    exact l1 _
  · refine R_iconst (v := (-1)) hC dX11_bases_15 (by decide) ?_
    exact R_iret hC hT dX11_bases_16 rfl (by have e : opBases α = -1 := if_pos ((T0_iff ok).mp h12); rw [e]; exact MPost.i h1 (M_ceq σ))
-- adjoint
noncomputable def opAdjoint (α : aS) (r c : Int32) : Int32 := by classical exact
  if (inR (tT α).1 r ∧ inR (tT α).2.1 c ∧ (tT α).1 = (tT α).2.1) then (if (r.toNatClampNeg + c.toNatClampNeg) % 2 = 0 then dD (tT α).2.2 (clr (2 ^ (tT α).1 - 1) c.toNatClampNeg) (clr (2 ^ (tT α).1 - 1) r.toNatClampNeg) else -(dD (tT α).2.2 (clr (2 ^ (tT α).1 - 1) c.toNatClampNeg) (clr (2 ^ (tT α).1 - 1) r.toNatClampNeg))) else -1000000
theorem all_bit : ∀ n, n < 7 → ∀ i, i < 6 → i < n → (2 ^ n - 1).testBit i = true := by decide +kernel
theorem mo_adjoint {σ : sg} {x : aW} {α : aS} (h : MInv σ α) (ok : aOK α) (r c : Int32) : Mt mX11_adjoint 2 0 0 [.ref i_M, .int r, .int c] (wd σ x) (MPost σ x (opAdjoint α r c) α) := by
  refine Mt.of MI_X11_adjoint (Nat.le_of_ble_eq_true rfl) (fun X hC hR hT => ?_)
  have hT1 : σ.2.2 i_m_now 36 = nI (tT α).1 := h.2.1.1
  have hT2 : σ.2.2 i_m_now 37 = nI (tT α).2.1 := h.2.1.2.1
  have hTB : TB (σ.2.2 i_m_now) (tT α) := h.2.1.TB ok.2.2.1
  have h1 := M_thr h 0
  have hR6 := ok.2.2.1.1
  have hC6 := ok.2.2.1.2.1
  have p1 := pw6 hR6
  have p2 := pw6 hC6
  have no : ¬ (inR (tT α).1 r ∧ inR (tT α).2.1 c ∧ (tT α).1 = (tT α).2.1) → opAdjoint α r c = -1000000 := fun q => by unfold opAdjoint; rw [if_neg q]
  have eRC : (nI (tT α).1 = nI (tT α).2.1) ↔ (tT α).1 = (tT α).2.1 := nI_eq (by omega) (by omega)
  refine R_aload_n (i := 0) hC dX11_adjoint_0 rfl rfl (R_iconst (v := 0) hC dX11_adjoint_1 (by decide) (R_pI hC dX11_adjoint_2 fl_X11_83 L_M rfl (R_aload_n (i := 0) hC dX11_adjoint_5 rfl rfl (R_aload_n (i := 0) hC dX11_adjoint_6 rfl rfl (R_gR hC dX11_adjoint_7 fl_X11_13 L_M rfl (R_iload_n (i := 1) hC dX11_adjoint_10 rfl rfl (R_iload_n (i := 2) hC dX11_adjoint_11 rfl rfl ?_)))))))
  refine R_V3i hC hR dX11_adjoint_12 MV_X11_isCell ml_X11_158 L_M rfl (s_isCell _ _ _ L_m_now _ _) (by decide) ⟨by decide, by decide⟩ (Nat.le_of_ble_eq_true rfl) ?_
  refine R_if_eq hC 35 dX11_adjoint_15 (by decide) (fun h15 => ?_) (fun h15 => ?_)
  · refine R_ldc hC dX11_adjoint_35 kc_X11_133 ?_
    exact R_iret hC hT dX11_adjoint_37 rfl (by
    first
    | (rw [no (fun z => b2i_0 h15 (hTB.inT_iff.mpr ⟨z.1, z.2.1⟩))]; exact MPost.i h1 (M_ceq σ))
    | (rw [no (fun z => h32 (eRC.mpr z.2.2))]; exact MPost.i h1 (M_ceq σ))
    | (have h89 := h88; rw [ev, if_pos (em.mp h89)]; exact hω.p)
    | (rw [ev, if_neg (fun z => h88 (em.mpr z))]; exact hω.p))
  · refine R_aload_n (i := 0) hC dX11_adjoint_18 rfl rfl (R_gR hC dX11_adjoint_19 fl_X11_13 L_M rfl (R_bipush (v := 36) hC dX11_adjoint_22 (by decide) (R_aI hC dX11_adjoint_24 L_m_now 36 rfl (by decide) (by decide) ?_)))
    refine R_top (y := nI (tT α).1) (hT1) ?_
    refine R_aload_n (i := 0) hC dX11_adjoint_25 rfl rfl (R_gR hC dX11_adjoint_26 fl_X11_13 L_M rfl (R_bipush (v := 37) hC dX11_adjoint_29 (by decide) (R_aI hC dX11_adjoint_31 L_m_now 37 rfl (by decide) (by decide) ?_)))
    refine R_top (y := nI (tT α).2.1) (hT2) ?_
    refine R_icmp_eq hC 38 dX11_adjoint_32 (by decide) (fun h32 => ?_) (fun h32 => ?_)
    · refine R_aload_n (i := 0) hC dX11_adjoint_38 rfl rfl (R_aload_n (i := 0) hC dX11_adjoint_39 rfl rfl (R_gR hC dX11_adjoint_40 fl_X11_13 L_M rfl ?_))
      refine R_V1g hC hR dX11_adjoint_43 MV_X11_laysDets ml_X11_207 L_M rfl (s_laysDets (sG σ i_M 0 0) x i_m_now L_m_now (by decide) (tT α) hTB) (by decide) ⟨by decide, by decide⟩ (Nat.le_of_ble_eq_true rfl) (fun r w1 hq => ?_)
      obtain ⟨rfl, g, rfl, hg⟩ := hq
      have hin := hTB.inT_iff.mp (b2i_ne h15)
      obtain ⟨i, rfl, hi, hi2⟩ := inR_i hin.1
      obtain ⟨j, rfl, hj, hj2⟩ := inR_i hin.2
      have hsq := eRC.mp h32
      have hω := MD.of h hg
      have b1 := all_bit (tT α).1 (by omega) i (by omega) hi
      have b2 := all_bit (tT α).1 (by omega) j (by omega) (by omega)
      have l1 := clr_lt (2 ^ (tT α).1 - 1) (by omega) i (by omega) b1
      have l2 := clr_lt (2 ^ (tT α).1 - 1) (by omega) j (by omega) b2
      have l3 := clr_pc (2 ^ (tT α).1 - 1) (by omega) i (by omega) b1
      have l4 := clr_pc (2 ^ (tT α).1 - 1) (by omega) j (by omega) b2
      have e2 : 2 ^ (tT α).1 = 2 ^ (tT α).2.1 := by rw [hsq]
      generalize hgω : sA (sG σ i_M 0 0) i_m_dets g = ω at hω ⊢
      refine R_iconst (v := 1) hC dX11_adjoint_46 (by decide) (R_aload_n (i := 0) hC dX11_adjoint_47 rfl rfl (R_gR hC dX11_adjoint_48 fl_X11_13 L_M rfl (R_bipush (v := 36) hC dX11_adjoint_51 (by decide) (R_aI hC dX11_adjoint_53 L_m_now 36 rfl (by decide) (by decide) ?_))))
      refine R_top (y := nI (tT α).1) (hω.R) ?_
      refine R_ishl hC dX11_adjoint_54 ?_
      refine R_top (y := nI (2 ^ (tT α).1)) (shl1 _ hR6) ?_
      refine R_iconst (v := 1) hC dX11_adjoint_55 (by decide) (R_isub hC dX11_adjoint_56 ?_)
      refine R_top (y := nI (2 ^ (tT α).1 - 1)) (nI_dec (by have := Nat.one_le_two_pow (n := (tT α).1); omega)) ?_
      refine R_istore_n (i := 3) hC dX11_adjoint_57 rfl (by decide) rfl (R_aload_n (i := 0) hC dX11_adjoint_58 rfl rfl (R_gR hC dX11_adjoint_59 fl_X11_38 L_M rfl (R_bipush (v := 64) hC dX11_adjoint_62 (by decide) (R_iload_n (i := 3) hC dX11_adjoint_64 rfl rfl (R_iconst (v := 1) hC dX11_adjoint_65 (by decide) (R_iload_n (i := 2) hC dX11_adjoint_66 rfl rfl (R_ishl hC dX11_adjoint_67 ?_)))))))
      refine R_iconst (v := (-1)) hC dX11_adjoint_68 (by decide) (R_ixor hC dX11_adjoint_69 (R_iand hC dX11_adjoint_70 ?_))
      refine R_top (y := nI (clr (2 ^ (tT α).1 - 1) j)) (and_clr _ (by omega) j (by omega)) ?_
      refine R_imul hC dX11_adjoint_71 (R_iload_n (i := 3) hC dX11_adjoint_72 rfl rfl (R_iconst (v := 1) hC dX11_adjoint_73 (by decide) (R_iload_n (i := 1) hC dX11_adjoint_74 rfl rfl (R_ishl hC dX11_adjoint_75 (R_iconst (v := (-1)) hC dX11_adjoint_76 (by decide) (R_ixor hC dX11_adjoint_77 (R_iand hC dX11_adjoint_78 ?_)))))))
      refine R_top (y := nI (clr (2 ^ (tT α).1 - 1) i)) (and_clr _ (by omega) i (by omega)) ?_
      refine R_iadd hC dX11_adjoint_79 (R_aI hC dX11_adjoint_80 L_m_dets (64 * clr (2 ^ (tT α).1 - 1) j + clr (2 ^ (tT α).1 - 1) i) (n64 _ _) (by omega) (by decide) ?_)
      refine R_top (y := dD (tT α).2.2 (clr (2 ^ (tT α).1 - 1) j) (clr (2 ^ (tT α).1 - 1) i)) (hω.2.2 _ _ (by omega) (by omega) (by omega)) ?_
      refine R_istore hC dX11_adjoint_81 (by decide) rfl (R_iload_n (i := 1) hC dX11_adjoint_83 rfl rfl (R_iload_n (i := 2) hC dX11_adjoint_84 rfl rfl (R_iadd hC dX11_adjoint_85 ?_)))
      refine R_top (y := nI (i + j)) (nI_add i j) ?_
      refine R_iconst (v := 2) hC dX11_adjoint_86 (by decide) (R_irem hC dX11_adjoint_87 (by decide) ?_)
      refine R_top (y := nI ((i + j) % 2)) (by rw [show (2 : Int32) = nI 2 from rfl]; exact pk_rem (by omega) (by decide) (by decide)) ?_
      have em : (nI ((i + j) % 2) = (0 : Int32)) ↔ (i + j) % 2 = 0 := nI_eq (b := 0) (by omega) (by decide)
      have ev : opAdjoint α (nI i) (nI j) = if (i + j) % 2 = 0 then dD (tT α).2.2 (clr (2 ^ (tT α).1 - 1) j) (clr (2 ^ (tT α).1 - 1) i) else -(dD (tT α).2.2 (clr (2 ^ (tT α).1 - 1) j) (clr (2 ^ (tT α).1 - 1) i)) := by
        unfold opAdjoint; rw [if_pos ⟨hin.1, hin.2, hsq⟩, nI_clamp hi2, nI_clamp hj2]
      refine R_if_ne hC 96 dX11_adjoint_88 (by decide) (fun h88 => ?_) (fun h88 => ?_)
      · refine R_iload hC dX11_adjoint_96 rfl (R_ineg hC dX11_adjoint_98 ?_)
        exact R_iret hC hT dX11_adjoint_99 rfl (by
        first
        | (rw [no (fun z => b2i_0 h15 (hTB.inT_iff.mpr ⟨z.1, z.2.1⟩))]; exact MPost.i h1 (M_ceq σ))
        | (rw [no (fun z => h32 (eRC.mpr z.2.2))]; exact MPost.i h1 (M_ceq σ))
        | (have h89 := h88; rw [ev, if_pos (em.mp h89)]; exact hω.p)
        | (rw [ev, if_neg (fun z => h88 (em.mpr z))]; exact hω.p))
      · refine R_iload hC dX11_adjoint_91 rfl (R_goto hC 99 dX11_adjoint_93 (by decide) ?_)
        exact R_iret hC hT dX11_adjoint_99 rfl (by
        first
        | (rw [no (fun z => b2i_0 h15 (hTB.inT_iff.mpr ⟨z.1, z.2.1⟩))]; exact MPost.i h1 (M_ceq σ))
        | (rw [no (fun z => h32 (eRC.mpr z.2.2))]; exact MPost.i h1 (M_ceq σ))
        | (have h89 := h88; rw [ev, if_pos (em.mp h89)]; exact hω.p)
        | (rw [ev, if_neg (fun z => h88 (em.mpr z))]; exact hω.p))
    · refine R_ldc hC dX11_adjoint_35 kc_X11_133 ?_
      exact R_iret hC hT dX11_adjoint_37 rfl (by
      first
      | (rw [no (fun z => b2i_0 h15 (hTB.inT_iff.mpr ⟨z.1, z.2.1⟩))]; exact MPost.i h1 (M_ceq σ))
      | (rw [no (fun z => h32 (eRC.mpr z.2.2))]; exact MPost.i h1 (M_ceq σ))
      | (have h89 := h88; rw [ev, if_pos (em.mp h89)]; exact hω.p)
      | (rw [ev, if_neg (fun z => h88 (em.mpr z))]; exact hω.p))
