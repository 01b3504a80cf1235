/-! ===== the model's trees: network, arc, way ===== -/
def sdT (T : tb) (s : Nat) : tb := if s = 0 then T else trT T
def HL (σ τ : sg) : Prop := (∀ i, i ≠ i_m_walk → i ≠ i_m_from → i ≠ i_m_to → i ≠ i_m_treeRow → i ≠ i_m_trial → i ≠ i_m_dets → τ.2.2 i = σ.2.2 i) ∧ τ.2.1 = σ.2.1 ∧ ∀ a b, ¬ (a = i_M ∧ b = 21) → τ.1 a b = σ.1 a b
theorem HL.rf (σ : sg) : HL σ σ := ⟨fun _ _ _ _ _ _ _ => rfl, rfl, fun _ _ _ => rfl⟩
theorem HL.tr {σ τ υ : sg} (h : HL σ τ) (h2 : HL τ υ) : HL σ υ := ⟨fun i a b c d e f => (h2.1 i a b c d e f).trans (h.1 i a b c d e f), h2.2.1.trans h.2.1, fun a b c => (h2.2.2 a b c).trans (h.2.2 a b c)⟩
theorem GL.hl {σ τ : sg} (h : GL σ τ) : HL σ τ := ⟨fun i a b c _ _ _ => h.1 i a b c, h.2.1, h.2.2⟩
theorem HL.aR (σ : sg) (g : Nat → Int32) : HL σ (sA σ i_m_treeRow g) := ⟨fun i _ _ _ a _ _ => sA_ne a, rfl, fun _ _ _ => rfl⟩
theorem HL.aT (σ : sg) (g : Nat → Int32) : HL σ (sA σ i_m_trial g) := ⟨fun i _ _ _ _ a _ => sA_ne a, rfl, fun _ _ _ => rfl⟩
theorem HL.aD (σ : sg) (g : Nat → Int32) : HL σ (sA σ i_m_dets g) := ⟨fun i _ _ _ _ _ a => sA_ne a, rfl, fun _ _ _ => rfl⟩
theorem HL.minv {σ τ : sg} {α : aS} (h : HL σ τ) (hi : MInv σ α) : MInv τ α := by
  obtain ⟨h1, h2, h3⟩ := h
  exact hi.of (h3 _ _ (by decide)) (h3 _ _ (by decide)) (h3 _ _ (by decide)) (h3 _ _ (by decide)) (h3 _ _ (by decide)) (h3 _ _ (by decide)) (h1 _ (by decide) (by decide) (by decide) (by decide) (by decide) (by decide)) (h1 _ (by decide) (by decide) (by decide) (by decide) (by decide) (by decide)) (h1 _ (by decide) (by decide) (by decide) (by decide) (by decide) (by decide)) (h1 _ (by decide) (by decide) (by decide) (by decide) (by decide) (by decide)) (h1 _ (by decide) (by decide) (by decide) (by decide) (by decide) (by decide)) (h1 _ (by decide) (by decide) (by decide) (by decide) (by decide) (by decide)) (h1 _ (by decide) (by decide) (by decide) (by decide) (by decide) (by decide)) (h1 _ (by decide) (by decide) (by decide) (by decide) (by decide) (by decide))
theorem HL.ceq {σ τ : sg} (h : HL σ τ) : CEq σ τ := fun i hi => by
  have k : ∀ j, i_M ≤ j → i ≠ j := fun j hj => by omega
  exact ⟨funext fun b => h.2.2 i b (fun z => k i_M (Nat.le_refl _) z.1), by rw [h.2.1], h.1 i (k _ (by decide)) (k _ (by decide)) (k _ (by decide)) (k _ (by decide)) (k _ (by decide)) (k _ (by decide))⟩
theorem HL.mz {σ ω τ : sg} {α : aS} (h : MZ σ ω α) (k : HL ω τ) : MZ σ τ α := ⟨k.minv h.1, h.2.tr k.ceq⟩
theorem TB_cpy38 {f g : Nat → Int32} {T : tb} (h : TB f T) : TB (cpy f g 38) T := by
  obtain ⟨h1, h2, h3, h4, h5⟩ := h
  have e : ∀ k, k < 38 → cpy f g 38 k = f k := fun k hk => by unfold cpy; rw [if_pos hk]
  exact ⟨by rw [e _ (by decide)]; exact h1, by rw [e _ (by decide)]; exact h2, h3, h4, fun i j hi hj => by rw [e _ (by omega)]; exact h5 i j hi hj⟩
theorem s_laysSide {σ : sg} {x : aW} {T : tb} {s : Nat} (hT0 : TB (σ.2.2 i_m_now) T) (hs : s < 2) : Mt mX11_laysSide 3 0 0 [.ref i_M, .int (nI s)] (wd σ x) (fun r w => r = none ∧ ∃ τ, w = wd τ x ∧ HL σ τ ∧ TB (τ.2.2 i_m_treeRow) (sdT T s)) := by
  refine Mt.of MI_X11_laysSide (Nat.le_of_ble_eq_true rfl) (fun X hC hR hT => ?_)
  have hc : TB ((sA σ i_m_treeRow (cpy (σ.2.2 i_m_now) (σ.2.2 i_m_treeRow) 38)).2.2 i_m_treeRow) T := by
    rw [sA_eq]
    exact TB_cpy38 hT0
  rcases (by omega : s = 0 ∨ s = 1) with rfl | rfl
  · refine R_aload_n (i := 0) hC dX11_laysSide_0 rfl rfl (R_gR hC dX11_laysSide_1 fl_X11_13 L_M rfl (R_aload_n (i := 0) hC dX11_laysSide_4 rfl rfl (R_gR hC dX11_laysSide_5 fl_X11_47 L_M rfl ?_)))
    refine R_S2v hC hR dX11_laysSide_8 MS_X11_copy ml_X11_170 (s_copy σ x i_m_now i_m_treeRow L_m_now L_m_treeRow (by decide)) (by first | decide | omega) ⟨by decide, by decide⟩ (Nat.le_of_ble_eq_true rfl) ?_
    refine R_iload_n (i := 1) hC dX11_laysSide_11 rfl rfl (R_iconst (v := 1) hC dX11_laysSide_12 (by decide) ?_)
    refine R_icmp_ne hC 27 dX11_laysSide_13 (by decide) (fun _ => ?_) (fun h => absurd h (by decide))
    exact R_vret hC hT dX11_laysSide_27 rfl ⟨rfl, _, rfl, HL.aR _ _, hc⟩
  · refine R_aload_n (i := 0) hC dX11_laysSide_0 rfl rfl (R_gR hC dX11_laysSide_1 fl_X11_13 L_M rfl (R_aload_n (i := 0) hC dX11_laysSide_4 rfl rfl (R_gR hC dX11_laysSide_5 fl_X11_47 L_M rfl ?_)))
    refine R_S2v hC hR dX11_laysSide_8 MS_X11_copy ml_X11_170 (s_copy σ x i_m_now i_m_treeRow L_m_now L_m_treeRow (by decide)) (by first | decide | omega) ⟨by decide, by decide⟩ (Nat.le_of_ble_eq_true rfl) ?_
    refine R_iload_n (i := 1) hC dX11_laysSide_11 rfl rfl (R_iconst (v := 1) hC dX11_laysSide_12 (by decide) ?_)
    refine R_icmp_ne hC 27 dX11_laysSide_13 (by decide) (fun h => absurd rfl h) (fun _ => ?_)
    refine R_aload_n (i := 0) hC dX11_laysSide_16 rfl rfl (R_aload_n (i := 0) hC dX11_laysSide_17 rfl rfl (R_gR hC dX11_laysSide_18 fl_X11_47 L_M rfl (R_iconst (v := 5) hC dX11_laysSide_21 (by decide) (R_iconst (v := 0) hC dX11_laysSide_22 (by decide) (R_iconst (v := 0) hC dX11_laysSide_23 (by decide) ?_)))))
    refine R_V4g hC hR dX11_laysSide_24 MV_X11_does ml_X11_185 L_M rfl (s_does5 (sA σ i_m_treeRow (cpy (σ.2.2 i_m_now) (σ.2.2 i_m_treeRow) 38)) x i_m_treeRow L_m_treeRow (by decide) T hc 0 0) (by first | decide | omega) ⟨by decide, by decide⟩ (Nat.le_of_ble_eq_true rfl) (fun r w1 hq => ?_)
    obtain ⟨rfl, g, h, rfl, hg⟩ := hq
    exact R_vret hC hT dX11_laysSide_27 rfl ⟨rfl, _, rfl, ((HL.aR _ _).tr (HL.aT _ _)).tr (HL.aR _ _), by rw [sA_eq]; exact hg⟩
theorem sd6 {T : tb} {s : Nat} (h1 : T.1 ≤ 6) (h2 : T.2.1 ≤ 6) : (sdT T s).1 ≤ 6 ∧ (sdT T s).2.1 ≤ 6 := by
  unfold sdT; split
  · exact ⟨h1, h2⟩
  · exact ⟨h2, h1⟩
theorem s_hasTree {σ : sg} {x : aW} {T : tb} {s : Nat} (hT0 : TB (σ.2.2 i_m_now) T) (hs : s < 2) : Mt mX11_hasTree 10 0 0 [.ref i_M, .int (nI s)] (wd σ x) (fun r w => ∃ τ, w = wd τ x ∧ HL σ τ ∧ r = some (.int (b2i (∃ t, treeR (sdT T s) = some t))) ∧ TB (τ.2.2 i_m_treeRow) (sdT T s) ∧ ∀ t, treeR (sdT T s) = some t → AR τ s t (sdT T s).1) := by
  refine Mt.of MI_X11_hasTree (Nat.le_of_ble_eq_true rfl) (fun X hC hR hT => ?_)
  obtain ⟨d1, d2⟩ := sd6 (s := s) hT0.2.2.1 hT0.2.2.2.1
  refine R_aload_n (i := 0) hC dX11_hasTree_0 rfl rfl (R_iload_n (i := 1) hC dX11_hasTree_1 rfl rfl ?_)
  refine R_V1g hC hR dX11_hasTree_2 MV_X11_laysSide ml_X11_265 L_M rfl (s_laysSide hT0 hs) (by first | decide | omega) ⟨by decide, by decide⟩ (Nat.le_of_ble_eq_true rfl) (fun r w1 hq => ?_)
  obtain ⟨rfl, τ, rfl, hl, hT1⟩ := hq
  refine R_aload_n (i := 0) hC dX11_hasTree_5 rfl rfl (R_aload_n (i := 0) hC dX11_hasTree_6 rfl rfl (R_gR hC dX11_hasTree_7 fl_X11_47 L_M rfl ?_))
  refine R_V1g hC hR dX11_hasTree_10 MV_X11_isTotal ml_X11_227 L_M rfl (s_isTotal τ x i_m_treeRow L_m_treeRow (by decide) (sdT T s) hT1) (by first | decide | omega) ⟨by decide, by decide⟩ (Nat.le_of_ble_eq_true rfl) (fun r w1 hq => ?_)
  obtain ⟨rfl, g, rfl, -⟩ := hq
  have hT2 : TB ((sA τ i_m_dets g).2.2 i_m_treeRow) (sdT T s) := by rw [sA_ne (by decide)]; exact hT1
  refine R_if_ne hC 18 dX11_hasTree_13 (by decide) (fun h13 => ?_) (fun h13 => ?_)
  · refine R_aload_n (i := 0) hC dX11_hasTree_18 rfl rfl (R_aload_n (i := 0) hC dX11_hasTree_19 rfl rfl (R_gR hC dX11_hasTree_20 fl_X11_47 L_M rfl (R_iload_n (i := 1) hC dX11_hasTree_23 rfl rfl (R_iconst (v := 0) hC dX11_hasTree_24 (by decide) ?_))))
    refine R_V3g hC hR dX11_hasTree_25 MV_X11_grows ml_X11_262 L_M rfl (s_grows hs d1 (sdT T s).1 0 (sA τ i_m_dets g) (fun _ => 0, fun _ => 0) (by omega) hT2 (fun r hr => absurd hr (Nat.not_lt_zero _)) (F2_0 _) (fun r hr => absurd hr (Nat.not_lt_zero _))) (by first | decide | omega) ⟨by decide, by decide⟩ (Nat.le_of_ble_eq_true rfl) (fun r w1 hq => ?_)
    obtain ⟨υ, rfl, hg, rfl, q1, q2⟩ := hq
    have te : treeR (sdT T s) = grw (sdT T s) (sdT T s).1 0 (fun _ => 0, fun _ => 0) := by unfold treeR; rw [cnd_t (b2i_ne h13)]
    exact R_zret hC hT dX11_hasTree_28 rfl (b2i_z _) ⟨_, rfl, (hl.tr (HL.aD _ _)).tr hg.hl, by rw [te], hg.tw hT2, fun t z => q1 t (by rw [← te]; exact z)⟩
  · have nt := b2i_0 h13
    have no : ¬ ∃ t, treeR (sdT T s) = some t := fun ⟨t, z⟩ => by unfold treeR at z; rw [cnd_f nt] at z; cases z
    refine R_iconst (v := 0) hC dX11_hasTree_16 (by decide) ?_
    exact R_zret hC hT dX11_hasTree_17 rfl (by decide) ⟨_, rfl, hl.tr (HL.aD _ _), by rw [b2i_f no], hT2, fun t z => absurd ⟨t, z⟩ no⟩
noncomputable def opNetwork (α : aS) (s : Int32) : Int32 := cnd (¬ (tT α).1 = 0 ∧ 0 ≤ s.toInt ∧ s.toInt ≤ 1) (b2i (∃ t, treeR (sdT (tT α) s.toNatClampNeg) = some t)) (-1)
theorem side01 {s : Int32} (h : 0 ≤ s.toInt ∧ s.toInt ≤ 1) : ∃ n : Nat, n < 2 ∧ s = nI n ∧ s.toNatClampNeg = n := by
  obtain ⟨n, rfl, h1, h2⟩ := i32_nI h.1
  exact ⟨n, by omega, rfl, nI_clamp h2⟩
theorem mo_network {σ : sg} {x : aW} {α : aS} (h : MInv σ α) (ok : aOK α) (s : Int32) : Mt mX11_network 11 0 0 [.ref i_M, .int s] (wd σ x) (MPost σ x (opNetwork α s) α) := by
  refine Mt.of MI_X11_network (Nat.le_of_ble_eq_true rfl) (fun X hC hR hT => ?_)
  have hω := MZ.of h
  have t0 := T0_iff ok
  have no : ¬ (¬ (tT α).1 = 0 ∧ 0 ≤ s.toInt ∧ s.toInt ≤ 1) → opNetwork α s = -1 := fun q => by unfold opNetwork; rw [cnd_f q]
  have yes : (¬ (tT α).1 = 0 ∧ 0 ≤ s.toInt ∧ s.toInt ≤ 1) → opNetwork α s = b2i (∃ t, treeR (sdT (tT α) s.toNatClampNeg) = some t) := fun q => by unfold opNetwork; rw [cnd_t q]
  refine R_aload_n (i := 0) hC dX11_network_0 rfl rfl (R_iconst (v := 0) hC dX11_network_1 (by decide) (R_pI hC dX11_network_2 fl_X11_83 L_M rfl (R_aload_n (i := 0) hC dX11_network_5 rfl rfl (R_gR hC dX11_network_6 fl_X11_13 L_M rfl (R_bipush (v := 36) hC dX11_network_9 (by decide) (R_aI hC dX11_network_11 L_m_now 36 rfl (by decide) (by decide) ?_))))))
  refine R_top (y := nI (tT α).1) (hω.R) ?_
  refine R_if_eq hC 25 dX11_network_12 (by decide) (fun h12 => ?_) (fun h12 => ?_)
  · refine R_iconst (v := (-1)) hC dX11_network_25 (by decide) (R_goto hC 42 dX11_network_26 (by decide) ?_)
    exact R_iret hC hT dX11_network_42 rfl (by
    first
    | (rw [no (fun z => z.1 (t0.mp h12))]; exact hω.p)
    | (rw [no (fun z => (ite0 h22) z.2)]; exact hω.p)
    | (rw [ye, b2i_f (b2i_0 h34)]; exact (HL.mz hω hl).p)
    | (rw [ye, b2i_t (b2i_ne h34)]; exact (HL.mz hω hl).p))
  · refine R_iload_n (i := 1) hC dX11_network_15 rfl rfl (R_i2l hC dX11_network_16 (R_lconst (v := 0) hC dX11_network_17 (by decide) (R_lconst (v := 1) hC dX11_network_18 (by decide) ?_)))
    refine R_S3i hC hR dX11_network_19 MS_X11_isIn ml_X11_140 (s_isInZ s 0 1 0 1 (by decide) (by decide) _) (by first | decide | omega) ⟨by decide, by decide⟩ (Nat.le_of_ble_eq_true rfl) ?_
    refine R_if_ne hC 29 dX11_network_22 (by decide) (fun h22 => ?_) (fun h22 => ?_)
    · have hc := ite1 h22
      obtain ⟨n, n2, rfl, nc⟩ := side01 hc
      have ye := yes ⟨fun z => h12 (t0.mpr z), hc⟩
      rw [nc] at ye
      refine R_aload_n (i := 0) hC dX11_network_29 rfl rfl (R_iload_n (i := 1) hC dX11_network_30 rfl rfl ?_)
      refine R_V1g hC hR dX11_network_31 MV_X11_hasTree ml_X11_268 L_M rfl (s_hasTree (hω.T ok) n2) (by first | decide | omega) ⟨by decide, by decide⟩ (Nat.le_of_ble_eq_true rfl) (fun r w1 hq => ?_)
      obtain ⟨τ, rfl, hl, rfl, -, -⟩ := hq
      refine R_if_eq hC 41 dX11_network_34 (by decide) (fun h34 => ?_) (fun h34 => ?_)
      · refine R_iconst (v := 0) hC dX11_network_41 (by decide) ?_
        exact R_iret hC hT dX11_network_42 rfl (by
        first
        | (rw [no (fun z => z.1 (t0.mp h12))]; exact hω.p)
        | (rw [no (fun z => (ite0 h22) z.2)]; exact hω.p)
        | (rw [ye, b2i_f (b2i_0 h34)]; exact (HL.mz hω hl).p)
        | (rw [ye, b2i_t (b2i_ne h34)]; exact (HL.mz hω hl).p))
      · refine R_iconst (v := 1) hC dX11_network_37 (by decide) (R_goto hC 42 dX11_network_38 (by decide) ?_)
        exact R_iret hC hT dX11_network_42 rfl (by
        first
        | (rw [no (fun z => z.1 (t0.mp h12))]; exact hω.p)
        | (rw [no (fun z => (ite0 h22) z.2)]; exact hω.p)
        | (rw [ye, b2i_f (b2i_0 h34)]; exact (HL.mz hω hl).p)
        | (rw [ye, b2i_t (b2i_ne h34)]; exact (HL.mz hω hl).p))
    · refine R_iconst (v := (-1)) hC dX11_network_25 (by decide) (R_goto hC 42 dX11_network_26 (by decide) ?_)
      exact R_iret hC hT dX11_network_42 rfl (by
      first
      | (rw [no (fun z => z.1 (t0.mp h12))]; exact hω.p)
      | (rw [no (fun z => (ite0 h22) z.2)]; exact hω.p)
      | (rw [ye, b2i_f (b2i_0 h34)]; exact (HL.mz hω hl).p)
      | (rw [ye, b2i_t (b2i_ne h34)]; exact (HL.mz hω hl).p))
noncomputable def opArc (α : aS) (s a q : Int32) : Int32 := cnd (¬ (tT α).1 = 0 ∧ (0 ≤ s.toInt ∧ s.toInt ≤ 1) ∧ (0 ≤ a.toInt ∧ a.toInt < (sdT (tT α) s.toNatClampNeg).1) ∧ (0 ≤ q.toInt ∧ q.toInt ≤ 1)) (match treeR (sdT (tT α) s.toNatClampNeg) with
    | some t => nI (if q = 0 then t.1 a.toNatClampNeg else t.2 a.toNatClampNeg)
    | none => -1) (-1)
noncomputable def opWay (α : aS) (s c i : Int32) : Int32 := cnd (¬ (tT α).1 = 0 ∧ (0 ≤ s.toInt ∧ s.toInt ≤ 1) ∧ (0 ≤ c.toInt ∧ c.toInt < (sdT (tT α) s.toNatClampNeg).2.1) ∧ 0 ≤ i.toInt) (match treeR (sdT (tT α) s.toNatClampNeg) with
    | some t => o2i (wsq (sdT (tT α) s.toNatClampNeg) t (sdT (tT α) s.toNatClampNeg).1 c.toNatClampNeg i.toNatClampNeg)
    | none => -1) (-1)
theorem grw_ok {T : tb} : ∀ k row t u, nodOK t row → F2 t row → WaysP T t row → grw T k row t = some u → nodOK u (row + k) ∧ F2 u (row + k) ∧ WaysP T u (row + k)
  | 0, row, t, u, h1, h2, h3, e => by
    rw [grw] at e
    cases e
    exact ⟨h1, h2, h3⟩
  | k + 1, row, t, u, h1, h2, h3, e => by
    rw [grw_s] at e
    obtain ⟨node, _, n2, e⟩ := fs_in _ _ e
    unfold gN at e
    obtain ⟨set, _, s2, e⟩ := fs_in _ _ e
    unfold gS at e
    by_cases hs : set &&& endM t node row = set
    · rw [cnd_t hs] at e
      obtain ⟨way, _, w2, e⟩ := fs_in _ _ e
      unfold gW at e
      by_cases hw : WaysP T (extT t row node set way) (row + 1)
      · rw [cnd_t hw] at e
        have z := grw_ok k (row + 1) _ u (ext_ok h1 (by omega) hs) (F2_ext h2 h1 (by omega) hs (by omega)) hw e
        rw [show row + (k + 1) = row + 1 + k by omega]
        exact z
      · rw [cnd_f hw] at e; cases e
    · rw [cnd_f hs] at e; cases e
theorem treeR_ok {T : tb} {t : tre} (h : treeR T = some t) : nodOK t T.1 ∧ F2 t T.1 ∧ WaysP T t T.1 := by
  unfold treeR at h
  by_cases q : tot T
  · rw [cnd_t q] at h
    have := grw_ok T.1 0 _ t (fun r hr => absurd hr (Nat.not_lt_zero _)) (F2_0 _) (fun c _ => ⟨fun r _ z => absurd z.1 (Nat.not_lt_zero _), fun r _ z => absurd z.1.1 (Nat.not_lt_zero _)⟩) h
    rwa [Nat.zero_add] at this
  · rw [cnd_f q] at h; cases h
theorem sdr0 {T : tb} {n : Nat} {v : Int32} (h : n = 0) (e : v = nI T.1) : v = nI (sdT T n).1 := by unfold sdT; rw [if_pos h]; exact e
theorem sdr1 {T : tb} {n : Nat} {v : Int32} (h : ¬ n = 0) (e : v = nI T.2.1) : v = nI (sdT T n).1 := by unfold sdT; rw [if_neg h]; exact e
theorem sdc0 {T : tb} {n : Nat} {v : Int32} (h : n = 0) (e : v = nI T.2.1) : v = nI (sdT T n).2.1 := by unfold sdT; rw [if_pos h]; exact e
theorem sdc1 {T : tb} {n : Nat} {v : Int32} (h : ¬ n = 0) (e : v = nI T.1) : v = nI (sdT T n).2.1 := by unfold sdT; rw [if_neg h]; exact e
theorem mo_arc {σ : sg} {x : aW} {α : aS} (h : MInv σ α) (ok : aOK α) (s a q : Int32) : Mt mX11_arc 11 0 0 [.ref i_M, .int s, .int a, .int q] (wd σ x) (MPost σ x (opArc α s a q) α) := by
  refine Mt.of MI_X11_arc (Nat.le_of_ble_eq_true rfl) (fun X hC hR hT => ?_)
  have hω := MZ.of h
  have t0 := T0_iff ok
  have h61 := ok.2.2.1.1
  have h62 := ok.2.2.1.2.1
  have no : ¬ (¬ (tT α).1 = 0 ∧ (0 ≤ s.toInt ∧ s.toInt ≤ 1) ∧ (0 ≤ a.toInt ∧ a.toInt < (sdT (tT α) s.toNatClampNeg).1) ∧ (0 ≤ q.toInt ∧ q.toInt ≤ 1)) → opArc α s a q = -1 := fun z => by unfold opArc; rw [cnd_f z]
  have bad : ∀ ω, MZ σ ω α → opArc α s a q = -1 → Rw mX11_arc X 67 [some (.ref i_M), some (.int s), some (.int a), some (.int q)] [] (wd ω x) 0 0 := by
    intro ω hz e
    refine R_iconst (v := (-1)) hC dX11_arc_67 (by decide) ?_
    exact R_iret hC hT dX11_arc_68 rfl (by rw [e]; exact hz.p)
  refine R_aload_n (i := 0) hC dX11_arc_0 rfl rfl (R_iconst (v := 0) hC dX11_arc_1 (by decide) (R_pI hC dX11_arc_2 fl_X11_83 L_M rfl (R_aload_n (i := 0) hC dX11_arc_5 rfl rfl (R_gR hC dX11_arc_6 fl_X11_13 L_M rfl (R_bipush (v := 36) hC dX11_arc_9 (by decide) (R_aI hC dX11_arc_11 L_m_now 36 rfl (by decide) (by decide) ?_))))))
  refine R_top (y := nI (tT α).1) (hω.R) ?_
  refine R_if_eq hC 67 dX11_arc_12 (by decide) (fun h12 => ?_) (fun h12 => ?_)
  · first | exact bad _ hω (no (fun z => z.1 (t0.mp h12))) | exact bad _ hω (no (fun z => (ite0 h22) z.2.1)) | exact bad _ hω (no (fun z => by have := z.2.2.1.1; simp only [i32_lt, Int32.toInt_zero] at h26; omega)) | exact bad _ hω (no (fun z => by rw [nc] at z; have := z.2.2.1.2; simp only [i32_ge, t1] at h46; omega)) | exact bad _ hω (no (fun z => ite0 h56 z.2.2.2)) | exact bad _ (HL.mz hω hl) (by unfold opArc; rw [nc, op_nn (b2i_0 h64), cnd_t cn])
  · refine R_iload_n (i := 1) hC dX11_arc_15 rfl rfl (R_i2l hC dX11_arc_16 (R_lconst (v := 0) hC dX11_arc_17 (by decide) (R_lconst (v := 1) hC dX11_arc_18 (by decide) ?_)))
    refine R_S3i hC hR dX11_arc_19 MS_X11_isIn ml_X11_140 (s_isInZ s 0 1 0 1 (by decide) (by decide) _) (by first | decide | omega) ⟨by decide, by decide⟩ (Nat.le_of_ble_eq_true rfl) ?_
    refine R_if_eq hC 67 dX11_arc_22 (by decide) (fun h22 => ?_) (fun h22 => ?_)
    · first | exact bad _ hω (no (fun z => z.1 (t0.mp h12))) | exact bad _ hω (no (fun z => (ite0 h22) z.2.1)) | exact bad _ hω (no (fun z => by have := z.2.2.1.1; simp only [i32_lt, Int32.toInt_zero] at h26; omega)) | exact bad _ hω (no (fun z => by rw [nc] at z; have := z.2.2.1.2; simp only [i32_ge, t1] at h46; omega)) | exact bad _ hω (no (fun z => ite0 h56 z.2.2.2)) | exact bad _ (HL.mz hω hl) (by unfold opArc; rw [nc, op_nn (b2i_0 h64), cnd_t cn])
    · refine R_iload_n (i := 2) hC dX11_arc_25 rfl rfl ?_
      refine R_if_lt hC 67 dX11_arc_26 (by decide) (fun h26 => ?_) (fun h26 => ?_)
      · first | exact bad _ hω (no (fun z => z.1 (t0.mp h12))) | exact bad _ hω (no (fun z => (ite0 h22) z.2.1)) | exact bad _ hω (no (fun z => by have := z.2.2.1.1; simp only [i32_lt, Int32.toInt_zero] at h26; omega)) | exact bad _ hω (no (fun z => by rw [nc] at z; have := z.2.2.1.2; simp only [i32_ge, t1] at h46; omega)) | exact bad _ hω (no (fun z => ite0 h56 z.2.2.2)) | exact bad _ (HL.mz hω hl) (by unfold opArc; rw [nc, op_nn (b2i_0 h64), cnd_t cn])
      · have hc := ite1 h22
        have ha0 : 0 ≤ a.toInt := by simp only [i32_lt, Int32.toInt_zero] at h26; omega
        obtain ⟨n, n2, rfl, nc⟩ := side01 hc
        obtain ⟨i, rfl, hi1, hi2⟩ := i32_nI ha0
        have n0 := nI_eq (a := n) (b := 0) (by omega) (by decide)
        obtain ⟨d1, d2⟩ := sd6 (s := n) h61 h62
        have t1 := nI_toInt (n := (sdT (tT α) n).1) (by omega)
        refine R_iload_n (i := 2) hC dX11_arc_29 rfl rfl (R_aload_n (i := 0) hC dX11_arc_30 rfl rfl (R_gR hC dX11_arc_31 fl_X11_13 L_M rfl (R_iload_n (i := 1) hC dX11_arc_34 rfl rfl ?_)))
        refine R_if_ne hC 43 dX11_arc_35 (by decide) (fun h35 => ?_) (fun h35 => ?_)
        · refine R_bipush (v := 37) hC dX11_arc_43 (by decide) (R_aI hC dX11_arc_45 L_m_now 37 rfl (by decide) (by decide) ?_)
          first | refine R_top (y := nI (sdT (tT α) n).1) (sdr0 (n0.mp h35) hω.R) ?_ | refine R_top (y := nI (sdT (tT α) n).1) (sdr1 (fun z => h35 (n0.mpr z)) hω.C) ?_
          refine R_icmp_ge hC 67 dX11_arc_46 (by decide) (fun h46 => ?_) (fun h46 => ?_)
          · first | exact bad _ hω (no (fun z => z.1 (t0.mp h12))) | exact bad _ hω (no (fun z => (ite0 h22) z.2.1)) | exact bad _ hω (no (fun z => by have := z.2.2.1.1; simp only [i32_lt, Int32.toInt_zero] at h26; omega)) | exact bad _ hω (no (fun z => by rw [nc] at z; have := z.2.2.1.2; simp only [i32_ge, t1] at h46; omega)) | exact bad _ hω (no (fun z => ite0 h56 z.2.2.2)) | exact bad _ (HL.mz hω hl) (by unfold opArc; rw [nc, op_nn (b2i_0 h64), cnd_t cn])
          · refine R_iload_n (i := 3) hC dX11_arc_49 rfl rfl (R_i2l hC dX11_arc_50 (R_lconst (v := 0) hC dX11_arc_51 (by decide) (R_lconst (v := 1) hC dX11_arc_52 (by decide) ?_)))
            refine R_S3i hC hR dX11_arc_53 MS_X11_isIn ml_X11_140 (s_isInZ q 0 1 0 1 (by decide) (by decide) _) (by first | decide | omega) ⟨by decide, by decide⟩ (Nat.le_of_ble_eq_true rfl) ?_
            refine R_if_eq hC 67 dX11_arc_56 (by decide) (fun h56 => ?_) (fun h56 => ?_)
            · first | exact bad _ hω (no (fun z => z.1 (t0.mp h12))) | exact bad _ hω (no (fun z => (ite0 h22) z.2.1)) | exact bad _ hω (no (fun z => by have := z.2.2.1.1; simp only [i32_lt, Int32.toInt_zero] at h26; omega)) | exact bad _ hω (no (fun z => by rw [nc] at z; have := z.2.2.1.2; simp only [i32_ge, t1] at h46; omega)) | exact bad _ hω (no (fun z => ite0 h56 z.2.2.2)) | exact bad _ (HL.mz hω hl) (by unfold opArc; rw [nc, op_nn (b2i_0 h64), cnd_t cn])
            · have hqq := ite1 h56
              have il : i < (sdT (tT α) n).1 := by simp only [i32_ge, t1] at h46; omega
              have cn : ¬ (tT α).1 = 0 ∧ (0 ≤ (nI n).toInt ∧ (nI n).toInt ≤ 1) ∧ (0 ≤ (nI i).toInt ∧ (nI i).toInt < (sdT (tT α) n).1) ∧ (0 ≤ q.toInt ∧ q.toInt ≤ 1) := ⟨fun z => h12 (t0.mpr z), hc, ⟨ha0, by omega⟩, hqq⟩
              refine R_aload_n (i := 0) hC dX11_arc_59 rfl rfl (R_iload_n (i := 1) hC dX11_arc_60 rfl rfl ?_)
              refine R_V1g hC hR dX11_arc_61 MV_X11_hasTree ml_X11_268 L_M rfl (s_hasTree (hω.T ok) n2) (by first | decide | omega) ⟨by decide, by decide⟩ (Nat.le_of_ble_eq_true rfl) (fun r w1 hq => ?_)
              obtain ⟨τ, rfl, hl, rfl, -, hA⟩ := hq
              refine R_if_ne hC 69 dX11_arc_64 (by decide) (fun h64 => ?_) (fun h64 => ?_)
              · obtain ⟨t, ht⟩ := b2i_ne h64
                have hv := hA t ht i il
                have ye : opArc α (nI n) (nI i) q = nI (if q = 0 then t.1 i else t.2 i) := by unfold opArc; rw [nc, cnd_t cn, ht, nI_clamp hi2]
                refine R_iload_n (i := 3) hC dX11_arc_69 rfl rfl ?_
                refine R_if_ne hC 87 dX11_arc_70 (by decide) (fun h70 => ?_) (fun h70 => ?_)
                · refine R_aload_n (i := 0) hC dX11_arc_87 rfl rfl (R_gR hC dX11_arc_88 fl_X11_44 L_M rfl (R_bipush (v := 6) hC dX11_arc_91 (by decide) (R_iload_n (i := 1) hC dX11_arc_93 rfl rfl (R_imul hC dX11_arc_94 (R_iload_n (i := 2) hC dX11_arc_95 rfl rfl (R_iadd hC dX11_arc_96 (R_aI hC dX11_arc_97 L_m_to (6 * n + i) (n6 n i) (by omega) (by decide) ?_)))))))
                  first | refine R_top (y := nI (t.1 i)) hv.1 ?_ | refine R_top (y := nI (t.2 i)) hv.2 ?_
                  exact R_iret hC hT dX11_arc_98 rfl (by first | (rw [ye, if_pos h70]; exact (HL.mz hω hl).p) | (rw [ye, if_neg h70]; exact (HL.mz hω hl).p))
                · refine R_aload_n (i := 0) hC dX11_arc_73 rfl rfl (R_gR hC dX11_arc_74 fl_X11_41 L_M rfl (R_bipush (v := 6) hC dX11_arc_77 (by decide) (R_iload_n (i := 1) hC dX11_arc_79 rfl rfl (R_imul hC dX11_arc_80 (R_iload_n (i := 2) hC dX11_arc_81 rfl rfl (R_iadd hC dX11_arc_82 (R_aI hC dX11_arc_83 L_m_from (6 * n + i) (n6 n i) (by omega) (by decide) ?_)))))))
                  refine R_goto hC 98 dX11_arc_84 (by decide) ?_
                  first | refine R_top (y := nI (t.1 i)) hv.1 ?_ | refine R_top (y := nI (t.2 i)) hv.2 ?_
                  exact R_iret hC hT dX11_arc_98 rfl (by first | (rw [ye, if_pos h70]; exact (HL.mz hω hl).p) | (rw [ye, if_neg h70]; exact (HL.mz hω hl).p))
              · first | exact bad _ hω (no (fun z => z.1 (t0.mp h12))) | exact bad _ hω (no (fun z => (ite0 h22) z.2.1)) | exact bad _ hω (no (fun z => by have := z.2.2.1.1; simp only [i32_lt, Int32.toInt_zero] at h26; omega)) | exact bad _ hω (no (fun z => by rw [nc] at z; have := z.2.2.1.2; simp only [i32_ge, t1] at h46; omega)) | exact bad _ hω (no (fun z => ite0 h56 z.2.2.2)) | exact bad _ (HL.mz hω hl) (by unfold opArc; rw [nc, op_nn (b2i_0 h64), cnd_t cn])
        · refine R_bipush (v := 36) hC dX11_arc_38 (by decide) (R_goto hC 45 dX11_arc_40 (by decide) (R_aI hC dX11_arc_45 L_m_now 36 rfl (by decide) (by decide) ?_))
          first | refine R_top (y := nI (sdT (tT α) n).1) (sdr0 (n0.mp h35) hω.R) ?_ | refine R_top (y := nI (sdT (tT α) n).1) (sdr1 (fun z => h35 (n0.mpr z)) hω.C) ?_
          refine R_icmp_ge hC 67 dX11_arc_46 (by decide) (fun h46 => ?_) (fun h46 => ?_)
          · first | exact bad _ hω (no (fun z => z.1 (t0.mp h12))) | exact bad _ hω (no (fun z => (ite0 h22) z.2.1)) | exact bad _ hω (no (fun z => by have := z.2.2.1.1; simp only [i32_lt, Int32.toInt_zero] at h26; omega)) | exact bad _ hω (no (fun z => by rw [nc] at z; have := z.2.2.1.2; simp only [i32_ge, t1] at h46; omega)) | exact bad _ hω (no (fun z => ite0 h56 z.2.2.2)) | exact bad _ (HL.mz hω hl) (by unfold opArc; rw [nc, op_nn (b2i_0 h64), cnd_t cn])
          · refine R_iload_n (i := 3) hC dX11_arc_49 rfl rfl (R_i2l hC dX11_arc_50 (R_lconst (v := 0) hC dX11_arc_51 (by decide) (R_lconst (v := 1) hC dX11_arc_52 (by decide) ?_)))
            refine R_S3i hC hR dX11_arc_53 MS_X11_isIn ml_X11_140 (s_isInZ q 0 1 0 1 (by decide) (by decide) _) (by first | decide | omega) ⟨by decide, by decide⟩ (Nat.le_of_ble_eq_true rfl) ?_
            refine R_if_eq hC 67 dX11_arc_56 (by decide) (fun h56 => ?_) (fun h56 => ?_)
            · first | exact bad _ hω (no (fun z => z.1 (t0.mp h12))) | exact bad _ hω (no (fun z => (ite0 h22) z.2.1)) | exact bad _ hω (no (fun z => by have := z.2.2.1.1; simp only [i32_lt, Int32.toInt_zero] at h26; omega)) | exact bad _ hω (no (fun z => by rw [nc] at z; have := z.2.2.1.2; simp only [i32_ge, t1] at h46; omega)) | exact bad _ hω (no (fun z => ite0 h56 z.2.2.2)) | exact bad _ (HL.mz hω hl) (by unfold opArc; rw [nc, op_nn (b2i_0 h64), cnd_t cn])
            · have hqq := ite1 h56
              have il : i < (sdT (tT α) n).1 := by simp only [i32_ge, t1] at h46; omega
              have cn : ¬ (tT α).1 = 0 ∧ (0 ≤ (nI n).toInt ∧ (nI n).toInt ≤ 1) ∧ (0 ≤ (nI i).toInt ∧ (nI i).toInt < (sdT (tT α) n).1) ∧ (0 ≤ q.toInt ∧ q.toInt ≤ 1) := ⟨fun z => h12 (t0.mpr z), hc, ⟨ha0, by omega⟩, hqq⟩
              refine R_aload_n (i := 0) hC dX11_arc_59 rfl rfl (R_iload_n (i := 1) hC dX11_arc_60 rfl rfl ?_)
              refine R_V1g hC hR dX11_arc_61 MV_X11_hasTree ml_X11_268 L_M rfl (s_hasTree (hω.T ok) n2) (by first | decide | omega) ⟨by decide, by decide⟩ (Nat.le_of_ble_eq_true rfl) (fun r w1 hq => ?_)
              obtain ⟨τ, rfl, hl, rfl, -, hA⟩ := hq
              refine R_if_ne hC 69 dX11_arc_64 (by decide) (fun h64 => ?_) (fun h64 => ?_)
              · obtain ⟨t, ht⟩ := b2i_ne h64
                have hv := hA t ht i il
                have ye : opArc α (nI n) (nI i) q = nI (if q = 0 then t.1 i else t.2 i) := by unfold opArc; rw [nc, cnd_t cn, ht, nI_clamp hi2]
                refine R_iload_n (i := 3) hC dX11_arc_69 rfl rfl ?_
                refine R_if_ne hC 87 dX11_arc_70 (by decide) (fun h70 => ?_) (fun h70 => ?_)
                · refine R_aload_n (i := 0) hC dX11_arc_87 rfl rfl (R_gR hC dX11_arc_88 fl_X11_44 L_M rfl (R_bipush (v := 6) hC dX11_arc_91 (by decide) (R_iload_n (i := 1) hC dX11_arc_93 rfl rfl (R_imul hC dX11_arc_94 (R_iload_n (i := 2) hC dX11_arc_95 rfl rfl (R_iadd hC dX11_arc_96 (R_aI hC dX11_arc_97 L_m_to (6 * n + i) (n6 n i) (by omega) (by decide) ?_)))))))
                  first | refine R_top (y := nI (t.1 i)) hv.1 ?_ | refine R_top (y := nI (t.2 i)) hv.2 ?_
                  exact R_iret hC hT dX11_arc_98 rfl (by first | (rw [ye, if_pos h70]; exact (HL.mz hω hl).p) | (rw [ye, if_neg h70]; exact (HL.mz hω hl).p))
                · refine R_aload_n (i := 0) hC dX11_arc_73 rfl rfl (R_gR hC dX11_arc_74 fl_X11_41 L_M rfl (R_bipush (v := 6) hC dX11_arc_77 (by decide) (R_iload_n (i := 1) hC dX11_arc_79 rfl rfl (R_imul hC dX11_arc_80 (R_iload_n (i := 2) hC dX11_arc_81 rfl rfl (R_iadd hC dX11_arc_82 (R_aI hC dX11_arc_83 L_m_from (6 * n + i) (n6 n i) (by omega) (by decide) ?_)))))))
                  refine R_goto hC 98 dX11_arc_84 (by decide) ?_
                  first | refine R_top (y := nI (t.1 i)) hv.1 ?_ | refine R_top (y := nI (t.2 i)) hv.2 ?_
                  exact R_iret hC hT dX11_arc_98 rfl (by first | (rw [ye, if_pos h70]; exact (HL.mz hω hl).p) | (rw [ye, if_neg h70]; exact (HL.mz hω hl).p))
              · first | exact bad _ hω (no (fun z => z.1 (t0.mp h12))) | exact bad _ hω (no (fun z => (ite0 h22) z.2.1)) | exact bad _ hω (no (fun z => by have := z.2.2.1.1; simp only [i32_lt, Int32.toInt_zero] at h26; omega)) | exact bad _ hω (no (fun z => by rw [nc] at z; have := z.2.2.1.2; simp only [i32_ge, t1] at h46; omega)) | exact bad _ hω (no (fun z => ite0 h56 z.2.2.2)) | exact bad _ (HL.mz hω hl) (by unfold opArc; rw [nc, op_nn (b2i_0 h64), cnd_t cn])
theorem WL.hl {σ τ : sg} (h : WL σ τ) : HL σ τ := h.gl.hl
theorem mo_way {σ : sg} {x : aW} {α : aS} (h : MInv σ α) (ok : aOK α) (s c q : Int32) : Mt mX11_way 11 0 0 [.ref i_M, .int s, .int c, .int q] (wd σ x) (MPost σ x (opWay α s c q) α) := by
  refine Mt.of MI_X11_way (Nat.le_of_ble_eq_true rfl) (fun X hC hR hT => ?_)
  have hω := MZ.of h
  have t0 := T0_iff ok
  have h61 := ok.2.2.1.1
  have h62 := ok.2.2.1.2.1
  have no : ¬ (¬ (tT α).1 = 0 ∧ (0 ≤ s.toInt ∧ s.toInt ≤ 1) ∧ (0 ≤ c.toInt ∧ c.toInt < (sdT (tT α) s.toNatClampNeg).2.1) ∧ 0 ≤ q.toInt) → opWay α s c q = -1 := fun z => by unfold opWay; rw [cnd_f z]
  have bad : ∀ ω l4, MZ σ ω α → opWay α s c q = -1 → Rw mX11_way X 61 [some (.ref i_M), some (.int s), some (.int c), some (.int q), l4] [] (wd ω x) 0 0 := by
    intro ω l4 hz e
    refine R_iconst (v := (-1)) hC dX11_way_61 (by decide) ?_
    exact R_iret hC hT dX11_way_62 rfl (by rw [e]; exact hz.p)
  refine R_aload_n (i := 0) hC dX11_way_0 rfl rfl (R_iconst (v := 0) hC dX11_way_1 (by decide) (R_pI hC dX11_way_2 fl_X11_83 L_M rfl (R_aload_n (i := 0) hC dX11_way_5 rfl rfl (R_gR hC dX11_way_6 fl_X11_13 L_M rfl (R_bipush (v := 36) hC dX11_way_9 (by decide) (R_aI hC dX11_way_11 L_m_now 36 rfl (by decide) (by decide) ?_))))))
  refine R_top (y := nI (tT α).1) (hω.R) ?_
  refine R_if_eq hC 61 dX11_way_12 (by decide) (fun h12 => ?_) (fun h12 => ?_)
  · first | exact bad _ _ hω (no (fun z => z.1 (t0.mp h12))) | exact bad _ _ hω (no (fun z => (ite0 h22) z.2.1)) | exact bad _ _ hω (no (fun z => by have := z.2.2.1.1; simp only [i32_lt, Int32.toInt_zero] at h26; omega)) | exact bad _ _ hω (no (fun z => by rw [nc] at z; have := z.2.2.1.2; simp only [i32_ge, t1] at h46; omega)) | exact bad _ _ hω (no (fun z => by have := z.2.2.2; simp only [i32_lt, Int32.toInt_zero] at h50; omega)) | exact bad _ _ (HL.mz hω hl) (by unfold opWay; rw [nc, op_nn (b2i_0 h58), cnd_t cn])
  · refine R_iload_n (i := 1) hC dX11_way_15 rfl rfl (R_i2l hC dX11_way_16 (R_lconst (v := 0) hC dX11_way_17 (by decide) (R_lconst (v := 1) hC dX11_way_18 (by decide) ?_)))
    refine R_S3i hC hR dX11_way_19 MS_X11_isIn ml_X11_140 (s_isInZ s 0 1 0 1 (by decide) (by decide) _) (by first | decide | omega) ⟨by decide, by decide⟩ (Nat.le_of_ble_eq_true rfl) ?_
    refine R_if_eq hC 61 dX11_way_22 (by decide) (fun h22 => ?_) (fun h22 => ?_)
    · first | exact bad _ _ hω (no (fun z => z.1 (t0.mp h12))) | exact bad _ _ hω (no (fun z => (ite0 h22) z.2.1)) | exact bad _ _ hω (no (fun z => by have := z.2.2.1.1; simp only [i32_lt, Int32.toInt_zero] at h26; omega)) | exact bad _ _ hω (no (fun z => by rw [nc] at z; have := z.2.2.1.2; simp only [i32_ge, t1] at h46; omega)) | exact bad _ _ hω (no (fun z => by have := z.2.2.2; simp only [i32_lt, Int32.toInt_zero] at h50; omega)) | exact bad _ _ (HL.mz hω hl) (by unfold opWay; rw [nc, op_nn (b2i_0 h58), cnd_t cn])
    · refine R_iload_n (i := 2) hC dX11_way_25 rfl rfl ?_
      refine R_if_lt hC 61 dX11_way_26 (by decide) (fun h26 => ?_) (fun h26 => ?_)
      · first | exact bad _ _ hω (no (fun z => z.1 (t0.mp h12))) | exact bad _ _ hω (no (fun z => (ite0 h22) z.2.1)) | exact bad _ _ hω (no (fun z => by have := z.2.2.1.1; simp only [i32_lt, Int32.toInt_zero] at h26; omega)) | exact bad _ _ hω (no (fun z => by rw [nc] at z; have := z.2.2.1.2; simp only [i32_ge, t1] at h46; omega)) | exact bad _ _ hω (no (fun z => by have := z.2.2.2; simp only [i32_lt, Int32.toInt_zero] at h50; omega)) | exact bad _ _ (HL.mz hω hl) (by unfold opWay; rw [nc, op_nn (b2i_0 h58), cnd_t cn])
      · have hc := ite1 h22
        have ha0 : 0 ≤ c.toInt := by simp only [i32_lt, Int32.toInt_zero] at h26; omega
        obtain ⟨n, n2, rfl, nc⟩ := side01 hc
        obtain ⟨i, rfl, hi1, hi2⟩ := i32_nI ha0
        have n0 := nI_eq (a := n) (b := 0) (by omega) (by decide)
        obtain ⟨d1, d2⟩ := sd6 (s := n) h61 h62
        have t1 := nI_toInt (n := (sdT (tT α) n).2.1) (by omega)
        refine R_iload_n (i := 2) hC dX11_way_29 rfl rfl (R_aload_n (i := 0) hC dX11_way_30 rfl rfl (R_gR hC dX11_way_31 fl_X11_13 L_M rfl (R_iload_n (i := 1) hC dX11_way_34 rfl rfl ?_)))
        refine R_if_ne hC 43 dX11_way_35 (by decide) (fun h35 => ?_) (fun h35 => ?_)
        · refine R_bipush (v := 36) hC dX11_way_43 (by decide) (R_aI hC dX11_way_45 L_m_now 36 rfl (by decide) (by decide) ?_)
          first | refine R_top (y := nI (sdT (tT α) n).2.1) (sdc0 (n0.mp h35) hω.C) ?_ | refine R_top (y := nI (sdT (tT α) n).2.1) (sdc1 (fun z => h35 (n0.mpr z)) hω.R) ?_
          refine R_icmp_ge hC 61 dX11_way_46 (by decide) (fun h46 => ?_) (fun h46 => ?_)
          · first | exact bad _ _ hω (no (fun z => z.1 (t0.mp h12))) | exact bad _ _ hω (no (fun z => (ite0 h22) z.2.1)) | exact bad _ _ hω (no (fun z => by have := z.2.2.1.1; simp only [i32_lt, Int32.toInt_zero] at h26; omega)) | exact bad _ _ hω (no (fun z => by rw [nc] at z; have := z.2.2.1.2; simp only [i32_ge, t1] at h46; omega)) | exact bad _ _ hω (no (fun z => by have := z.2.2.2; simp only [i32_lt, Int32.toInt_zero] at h50; omega)) | exact bad _ _ (HL.mz hω hl) (by unfold opWay; rw [nc, op_nn (b2i_0 h58), cnd_t cn])
          · refine R_iload_n (i := 3) hC dX11_way_49 rfl rfl ?_
            refine R_if_lt hC 61 dX11_way_50 (by decide) (fun h50 => ?_) (fun h50 => ?_)
            · first | exact bad _ _ hω (no (fun z => z.1 (t0.mp h12))) | exact bad _ _ hω (no (fun z => (ite0 h22) z.2.1)) | exact bad _ _ hω (no (fun z => by have := z.2.2.1.1; simp only [i32_lt, Int32.toInt_zero] at h26; omega)) | exact bad _ _ hω (no (fun z => by rw [nc] at z; have := z.2.2.1.2; simp only [i32_ge, t1] at h46; omega)) | exact bad _ _ hω (no (fun z => by have := z.2.2.2; simp only [i32_lt, Int32.toInt_zero] at h50; omega)) | exact bad _ _ (HL.mz hω hl) (by unfold opWay; rw [nc, op_nn (b2i_0 h58), cnd_t cn])
            · have hqq : 0 ≤ q.toInt := by simp only [i32_lt, Int32.toInt_zero] at h50; omega
              have il : i < (sdT (tT α) n).2.1 := by simp only [i32_ge, t1] at h46; omega
              have cn : ¬ (tT α).1 = 0 ∧ (0 ≤ (nI n).toInt ∧ (nI n).toInt ≤ 1) ∧ (0 ≤ (nI i).toInt ∧ (nI i).toInt < (sdT (tT α) n).2.1) ∧ 0 ≤ q.toInt := ⟨fun z => h12 (t0.mpr z), hc, ⟨ha0, by omega⟩, hqq⟩
              refine R_aload_n (i := 0) hC dX11_way_53 rfl rfl (R_iload_n (i := 1) hC dX11_way_54 rfl rfl ?_)
              refine R_V1g hC hR dX11_way_55 MV_X11_hasTree ml_X11_268 L_M rfl (s_hasTree (hω.T ok) n2) (by first | decide | omega) ⟨by decide, by decide⟩ (Nat.le_of_ble_eq_true rfl) (fun r w1 hq => ?_)
              obtain ⟨τ, rfl, hl, rfl, hTr, hA⟩ := hq
              refine R_if_ne hC 63 dX11_way_58 (by decide) (fun h58 => ?_) (fun h58 => ?_)
              · obtain ⟨t, ht⟩ := b2i_ne h58
                obtain ⟨k1, k2, k3⟩ := treeR_ok ht
                obtain ⟨j, rfl, hj1, hj2⟩ := i32_nI hqq
                have ye : opWay α (nI n) (nI i) (nI j) = o2i (wsq (sdT (tT α) n) t (sdT (tT α) n).1 i j) := by unfold opWay; rw [nc, cnd_t cn, ht, nI_clamp hi2, nI_clamp hj2]
                refine R_aload_n (i := 0) hC dX11_way_63 rfl rfl (R_aload_n (i := 0) hC dX11_way_64 rfl rfl (R_gR hC dX11_way_65 fl_X11_47 L_M rfl (R_iload_n (i := 1) hC dX11_way_68 rfl rfl (R_iload_n (i := 2) hC dX11_way_69 rfl rfl (R_aload_n (i := 0) hC dX11_way_70 rfl rfl (R_gR hC dX11_way_71 fl_X11_47 L_M rfl (R_bipush (v := 36) hC dX11_way_74 (by decide) ?_)))))))
                refine R_aI hC dX11_way_76 L_m_treeRow 36 rfl (by decide) (by decide) ?_
                refine R_top (y := nI (sdT (tT α) n).1) (hTr.1) ?_
                refine R_V4g hC hR dX11_way_77 MV_X11_isWay ml_X11_248 L_M rfl (s_isWay hTr (hA t ht) n2 (Nat.le_refl _) il k2 k1) (by first | decide | omega) ⟨by decide, by decide⟩ (Nat.le_of_ble_eq_true rfl) (fun r w1 hq => ?_)
                obtain ⟨υ, rfl, hl2, rfl, we⟩ := hq
                obtain ⟨K, K6, kf, kw, kn⟩ := we (k3 i il)
                refine R_istore hC dX11_way_80 (by decide) rfl (R_iload_n (i := 3) hC dX11_way_82 rfl rfl (R_aload_n (i := 0) hC dX11_way_83 rfl rfl (R_gI hC dX11_way_84 fl_X11_239 L_M rfl ?_)))
                refine R_top (y := nI K) (kf) ?_
                refine R_icmp_ge hC 99 dX11_way_87 (by decide) (fun h87 => ?_) (fun h87 => ?_)
                · refine R_iconst (v := (-1)) hC dX11_way_99 (by decide) ?_
                  exact R_iret hC hT dX11_way_100 rfl (by first
                  | (have jl : K ≤ j := (by simp only [i32_ge] at h87; have := nI_toInt (n := K) (by omega); omega); rw [ye, kn j jl]; exact (HL.mz hω (hl.tr hl2.hl)).p)
                  | (have jl : j < K := (by have := mt (nI_le (a := K) (b := j) · hj2) h87; omega); obtain ⟨a, a6, e1, e2⟩ := kw j jl; rw [ye, e1, e2]; exact (HL.mz hω (hl.tr hl2.hl)).p))
                · refine R_aload_n (i := 0) hC dX11_way_90 rfl rfl (R_gR hC dX11_way_91 fl_X11_50 L_M rfl (R_iload_n (i := 3) hC dX11_way_94 rfl rfl (R_aI hC dX11_way_95 L_m_walk j rfl (by have := mt (nI_le (a := K) (b := j) · hj2) h87; omega) (by decide) (R_goto hC 100 dX11_way_96 (by decide) ?_))))
                  exact R_iret hC hT dX11_way_100 rfl (by first
                  | (have jl : K ≤ j := (by simp only [i32_ge] at h87; have := nI_toInt (n := K) (by omega); omega); rw [ye, kn j jl]; exact (HL.mz hω (hl.tr hl2.hl)).p)
                  | (have jl : j < K := (by have := mt (nI_le (a := K) (b := j) · hj2) h87; omega); obtain ⟨a, a6, e1, e2⟩ := kw j jl; rw [ye, e1, e2]; exact (HL.mz hω (hl.tr hl2.hl)).p))
              · first | exact bad _ _ hω (no (fun z => z.1 (t0.mp h12))) | exact bad _ _ hω (no (fun z => (ite0 h22) z.2.1)) | exact bad _ _ hω (no (fun z => by have := z.2.2.1.1; simp only [i32_lt, Int32.toInt_zero] at h26; omega)) | exact bad _ _ hω (no (fun z => by rw [nc] at z; have := z.2.2.1.2; simp only [i32_ge, t1] at h46; omega)) | exact bad _ _ hω (no (fun z => by have := z.2.2.2; simp only [i32_lt, Int32.toInt_zero] at h50; omega)) | exact bad _ _ (HL.mz hω hl) (by unfold opWay; rw [nc, op_nn (b2i_0 h58), cnd_t cn])
        · refine R_bipush (v := 37) hC dX11_way_38 (by decide) (R_goto hC 45 dX11_way_40 (by decide) (R_aI hC dX11_way_45 L_m_now 37 rfl (by decide) (by decide) ?_))
          first | refine R_top (y := nI (sdT (tT α) n).2.1) (sdc0 (n0.mp h35) hω.C) ?_ | refine R_top (y := nI (sdT (tT α) n).2.1) (sdc1 (fun z => h35 (n0.mpr z)) hω.R) ?_
          refine R_icmp_ge hC 61 dX11_way_46 (by decide) (fun h46 => ?_) (fun h46 => ?_)
          · first | exact bad _ _ hω (no (fun z => z.1 (t0.mp h12))) | exact bad _ _ hω (no (fun z => (ite0 h22) z.2.1)) | exact bad _ _ hω (no (fun z => by have := z.2.2.1.1; simp only [i32_lt, Int32.toInt_zero] at h26; omega)) | exact bad _ _ hω (no (fun z => by rw [nc] at z; have := z.2.2.1.2; simp only [i32_ge, t1] at h46; omega)) | exact bad _ _ hω (no (fun z => by have := z.2.2.2; simp only [i32_lt, Int32.toInt_zero] at h50; omega)) | exact bad _ _ (HL.mz hω hl) (by unfold opWay; rw [nc, op_nn (b2i_0 h58), cnd_t cn])
          · refine R_iload_n (i := 3) hC dX11_way_49 rfl rfl ?_
            refine R_if_lt hC 61 dX11_way_50 (by decide) (fun h50 => ?_) (fun h50 => ?_)
            · first | exact bad _ _ hω (no (fun z => z.1 (t0.mp h12))) | exact bad _ _ hω (no (fun z => (ite0 h22) z.2.1)) | exact bad _ _ hω (no (fun z => by have := z.2.2.1.1; simp only [i32_lt, Int32.toInt_zero] at h26; omega)) | exact bad _ _ hω (no (fun z => by rw [nc] at z; have := z.2.2.1.2; simp only [i32_ge, t1] at h46; omega)) | exact bad _ _ hω (no (fun z => by have := z.2.2.2; simp only [i32_lt, Int32.toInt_zero] at h50; omega)) | exact bad _ _ (HL.mz hω hl) (by unfold opWay; rw [nc, op_nn (b2i_0 h58), cnd_t cn])
            · have hqq : 0 ≤ q.toInt := by simp only [i32_lt, Int32.toInt_zero] at h50; omega
              have il : i < (sdT (tT α) n).2.1 := by simp only [i32_ge, t1] at h46; omega
              have cn : ¬ (tT α).1 = 0 ∧ (0 ≤ (nI n).toInt ∧ (nI n).toInt ≤ 1) ∧ (0 ≤ (nI i).toInt ∧ (nI i).toInt < (sdT (tT α) n).2.1) ∧ 0 ≤ q.toInt := ⟨fun z => h12 (t0.mpr z), hc, ⟨ha0, by omega⟩, hqq⟩
              refine R_aload_n (i := 0) hC dX11_way_53 rfl rfl (R_iload_n (i := 1) hC dX11_way_54 rfl rfl ?_)
              refine R_V1g hC hR dX11_way_55 MV_X11_hasTree ml_X11_268 L_M rfl (s_hasTree (hω.T ok) n2) (by first | decide | omega) ⟨by decide, by decide⟩ (Nat.le_of_ble_eq_true rfl) (fun r w1 hq => ?_)
              obtain ⟨τ, rfl, hl, rfl, hTr, hA⟩ := hq
              refine R_if_ne hC 63 dX11_way_58 (by decide) (fun h58 => ?_) (fun h58 => ?_)
              · obtain ⟨t, ht⟩ := b2i_ne h58
                obtain ⟨k1, k2, k3⟩ := treeR_ok ht
                obtain ⟨j, rfl, hj1, hj2⟩ := i32_nI hqq
                have ye : opWay α (nI n) (nI i) (nI j) = o2i (wsq (sdT (tT α) n) t (sdT (tT α) n).1 i j) := by unfold opWay; rw [nc, cnd_t cn, ht, nI_clamp hi2, nI_clamp hj2]
                refine R_aload_n (i := 0) hC dX11_way_63 rfl rfl (R_aload_n (i := 0) hC dX11_way_64 rfl rfl (R_gR hC dX11_way_65 fl_X11_47 L_M rfl (R_iload_n (i := 1) hC dX11_way_68 rfl rfl (R_iload_n (i := 2) hC dX11_way_69 rfl rfl (R_aload_n (i := 0) hC dX11_way_70 rfl rfl (R_gR hC dX11_way_71 fl_X11_47 L_M rfl (R_bipush (v := 36) hC dX11_way_74 (by decide) ?_)))))))
                refine R_aI hC dX11_way_76 L_m_treeRow 36 rfl (by decide) (by decide) ?_
                refine R_top (y := nI (sdT (tT α) n).1) (hTr.1) ?_
                refine R_V4g hC hR dX11_way_77 MV_X11_isWay ml_X11_248 L_M rfl (s_isWay hTr (hA t ht) n2 (Nat.le_refl _) il k2 k1) (by first | decide | omega) ⟨by decide, by decide⟩ (Nat.le_of_ble_eq_true rfl) (fun r w1 hq => ?_)
                obtain ⟨υ, rfl, hl2, rfl, we⟩ := hq
                obtain ⟨K, K6, kf, kw, kn⟩ := we (k3 i il)
                refine R_istore hC dX11_way_80 (by decide) rfl (R_iload_n (i := 3) hC dX11_way_82 rfl rfl (R_aload_n (i := 0) hC dX11_way_83 rfl rfl (R_gI hC dX11_way_84 fl_X11_239 L_M rfl ?_)))
                refine R_top (y := nI K) (kf) ?_
                refine R_icmp_ge hC 99 dX11_way_87 (by decide) (fun h87 => ?_) (fun h87 => ?_)
                · refine R_iconst (v := (-1)) hC dX11_way_99 (by decide) ?_
                  exact R_iret hC hT dX11_way_100 rfl (by first
                  | (have jl : K ≤ j := (by simp only [i32_ge] at h87; have := nI_toInt (n := K) (by omega); omega); rw [ye, kn j jl]; exact (HL.mz hω (hl.tr hl2.hl)).p)
                  | (have jl : j < K := (by have := mt (nI_le (a := K) (b := j) · hj2) h87; omega); obtain ⟨a, a6, e1, e2⟩ := kw j jl; rw [ye, e1, e2]; exact (HL.mz hω (hl.tr hl2.hl)).p))
                · refine R_aload_n (i := 0) hC dX11_way_90 rfl rfl (R_gR hC dX11_way_91 fl_X11_50 L_M rfl (R_iload_n (i := 3) hC dX11_way_94 rfl rfl (R_aI hC dX11_way_95 L_m_walk j rfl (by have := mt (nI_le (a := K) (b := j) · hj2) h87; omega) (by decide) (R_goto hC 100 dX11_way_96 (by decide) ?_))))
                  exact R_iret hC hT dX11_way_100 rfl (by first
                  | (have jl : K ≤ j := (by simp only [i32_ge] at h87; have := nI_toInt (n := K) (by omega); omega); rw [ye, kn j jl]; exact (HL.mz hω (hl.tr hl2.hl)).p)
                  | (have jl : j < K := (by have := mt (nI_le (a := K) (b := j) · hj2) h87; omega); obtain ⟨a, a6, e1, e2⟩ := kw j jl; rw [ye, e1, e2]; exact (HL.mz hω (hl.tr hl2.hl)).p))
              · first | exact bad _ _ hω (no (fun z => z.1 (t0.mp h12))) | exact bad _ _ hω (no (fun z => (ite0 h22) z.2.1)) | exact bad _ _ hω (no (fun z => by have := z.2.2.1.1; simp only [i32_lt, Int32.toInt_zero] at h26; omega)) | exact bad _ _ hω (no (fun z => by rw [nc] at z; have := z.2.2.1.2; simp only [i32_ge, t1] at h46; omega)) | exact bad _ _ hω (no (fun z => by have := z.2.2.2; simp only [i32_lt, Int32.toInt_zero] at h50; omega)) | exact bad _ _ (HL.mz hω hl) (by unfold opWay; rw [nc, op_nn (b2i_0 h58), cnd_t cn])
