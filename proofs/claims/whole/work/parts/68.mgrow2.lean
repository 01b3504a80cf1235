/-! ===== bending back ===== -/
theorem bnd_back {t : tre} {row node set : Nat} (h : nodOK t row) (hs : ∀ r, set.testBit r = true → r < row ∧ (t.1 r = node ∨ t.2 r = node)) : ∀ r, r < row → (bnd set (row + 1) node (bnd set node (row + 1) t)).1 r = t.1 r ∧ (bnd set (row + 1) node (bnd set node (row + 1) t)).2 r = t.2 r := by
  intro r hr
  have o := h r hr
  unfold bnd
  by_cases z : set.testBit r = true
  · have q := (hs r z).2
    by_cases y : t.1 r = node
    · simp [z, y]
    · have y2 : t.2 r = node := q.resolve_left y
      have n1 : ¬ t.1 r = row + 1 := by omega
      simp [z, y, y2, n1]
  · simp [z]
theorem and_not : ∀ a, a < 64 → ∀ b, b < 64 → (nI a &&& (nI b ^^^ (-1))) = nI (a &&& (63 - b)) := by decide +kernel
theorem and_sub : ∀ a, a < 64 → ∀ b, b < 64 → (a &&& (63 - b) = 0 ↔ a &&& b = a) := by decide +kernel
noncomputable def gW (T : tb) (k row : Nat) (t : tre) (node set way : Nat) : Option tre := cnd (WaysP T (extT t row node set way) (row + 1)) (grw T k (row + 1) (extT t row node set way)) none
noncomputable def gS (T : tb) (k row : Nat) (t : tre) (node set : Nat) : Option tre := cnd (set &&& endM t node row = set) (fs (gW T k row t node set) 0 2) none
noncomputable def gN (T : tb) (k row : Nat) (t : tre) (node : Nat) : Option tre := fs (gS T k row t node) 0 (endM t node row + 1)
theorem grw_s (T : tb) (k row : Nat) (t : tre) : grw T (k + 1) row t = fs (gN T k row t) 0 (row + 1) := by rw [grw]; rfl
theorem sub_b {t : tre} {row node set : Nat} (hs : set &&& endM t node row = set) : ∀ r, set.testBit r = true → r < row ∧ (t.1 r = node ∨ t.2 r = node) := fun r z => by
  have : (set &&& endM t node row).testBit r = true := by rw [hs]; exact z
  rw [Nat.testBit_and, Bool.and_eq_true] at this
  exact (endM_bit t node r row).mp this.2
theorem AR.cut {σ : sg} {s n k : Nat} {t : tre} (h : AR σ s t n) (hk : k ≤ n) : AR σ s t k := fun r hr => h r (by omega)
theorem AR.to {σ : sg} {s n : Nat} {t u : tre} (h : AR σ s t n) (e : ∀ r, r < n → u.1 r = t.1 r ∧ u.2 r = t.2 r) : AR σ s u n := fun r hr => by
  rw [(e r hr).1, (e r hr).2]; exact h r hr
theorem AR.ext {σ : sg} {s row node set way : Nat} {t : tre} (h : AR σ s (bnd set node (row + 1) t) row) : AR (sA (sA σ i_m_from (upd (σ.2.2 i_m_from) (6 * s + row) (nI (if way = 0 then node else row + 1)))) i_m_to (upd (σ.2.2 i_m_to) (6 * s + row) (nI (if way = 0 then row + 1 else node)))) s (extT t row node set way) (row + 1) := by
  intro r hr
  have e1 : ∀ f : Nat → Int32, ∀ g : Nat → Int32, (sA (sA σ i_m_from f) i_m_to g).2.2 i_m_from = f := fun f g => by rw [sA_ne (by decide), sA_eq]
  have e2 : ∀ f : Nat → Int32, ∀ g : Nat → Int32, (sA (sA σ i_m_from f) i_m_to g).2.2 i_m_to = g := fun f g => by rw [sA_eq]
  rw [e1, e2]
  unfold extT upd
  simp only
  rcases (by omega : r < row ∨ r = row) with z | rfl
  · rw [if_pos z, if_pos z, if_neg (by omega), if_neg (by omega)]
    exact h r z
  · rw [if_pos rfl, if_pos rfl, if_neg (Nat.lt_irrefl _), if_neg (Nat.lt_irrefl _), if_pos rfl, if_pos rfl]
    exact ⟨rfl, rfl⟩
theorem ext_bnd {t : tre} {row node set way : Nat} : ∀ r, r < row → (bnd set node (row + 1) t).1 r = (extT t row node set way).1 r ∧ (bnd set node (row + 1) t).2 r = (extT t row node set way).2 r := fun r hr => by
  unfold extT
  simp only [if_pos hr]
  exact ⟨trivial, trivial⟩
theorem GL.tw {σ τ : sg} (h : GL σ τ) {T : tb} (hT : TB (σ.2.2 i_m_treeRow) T) : TB (τ.2.2 i_m_treeRow) T := by
  rw [h.1 i_m_treeRow (by decide) (by decide) (by decide)]; exact hT
def GQ (σ : sg) (x : aW) (s : Nat) (T : tb) (k row : Nat) (t : tre) : Option Value → aW → Prop := fun r w => ∃ τ, w = wd τ x ∧ GL σ τ ∧ r = some (.int (b2i (∃ t', grw T k row t = some t'))) ∧ (∀ t', grw T k row t = some t' → AR τ s t' T.1) ∧ (grw T k row t = none → AR τ s t row)
theorem GQ.y {σ τ : sg} {x : aW} {s : Nat} {T : tb} {k row : Nat} {t t' : tre} (hg : GL σ τ) (e : grw T k row t = some t') (h : AR τ s t' T.1) : GQ σ x s T k row t (some (.int 1)) (wd τ x) := ⟨τ, rfl, hg, by rw [b2i_t ⟨t', e⟩], fun u z => by rw [e] at z; cases z; exact h, fun z => (by rw [e] at z; cases z)⟩
theorem GQ.n {σ τ : sg} {x : aW} {s : Nat} {T : tb} {k row : Nat} {t : tre} (hg : GL σ τ) (e : grw T k row t = none) (h : AR τ s t row) : GQ σ x s T k row t (some (.int 0)) (wd τ x) := ⟨τ, rfl, hg, by rw [b2i_f (fun ⟨u, z⟩ => (by rw [e] at z; cases z))], fun u z => (by rw [e] at z; cases z), fun _ => h⟩
theorem op_nn {A : Type} {o : Option A} (h : ¬ ∃ v, o = some v) : o = none := by
  cases o with
  | none => rfl
  | some v => exact absurd ⟨v, rfl⟩ h
theorem s_grows {x : aW} {T : tb} {s : Nat} (hs : s < 2) (h6 : T.1 ≤ 6) : ∀ (k row : Nat) (σ : sg) (t : tre), row + k = T.1 → TB (σ.2.2 i_m_treeRow) T → AR σ s t row → F2 t row → nodOK t row → Mt mX11_grows (k + 3) 0 0 [.ref i_M, .ref i_m_treeRow, .int (nI s), .int (nI row)] (wd σ x) (GQ σ x s T k row t) := by
  intro k
  induction k with
  | zero =>
    intro row σ t hk hT0 ha hF hok
    refine Mt.of MI_X11_grows (Nat.le_of_ble_eq_true rfl) (fun X hC hR hT => ?_)
    have e36 : σ.2.2 i_m_treeRow 36 = nI row := by rw [hT0.1, ← hk]; rfl
    refine R_iload_n (i := 3) hC dX11_grows_0 rfl rfl (R_aload_n (i := 1) hC dX11_grows_1 rfl rfl (R_bipush (v := 36) hC dX11_grows_2 (by decide) (R_aI hC dX11_grows_4 L_m_treeRow 36 rfl (by decide) (by decide) ?_)))
    refine R_top (y := nI row) (e36) ?_
    refine R_icmp_ne hC 10 dX11_grows_5 (by decide) (fun h => absurd rfl h) (fun _ => ?_)
    refine R_iconst (v := 1) hC dX11_grows_8 (by decide) ?_
    exact R_zret hC hT dX11_grows_9 rfl (by decide) (GQ.y (GL.rf σ) (t' := t) rfl (by rw [← hk]; exact ha))
  | succ k ih =>
    intro row σ t hk hT0 ha hF hok
    refine Mt.of MI_X11_grows (Nat.le_of_ble_eq_true rfl) (fun X hC hR hT => ?_)
    have hlt : row < T.1 := by omega
    have ne36 : ¬ nI row = nI T.1 := nI_ne (by omega) (by omega) (by omega)
    have ok6 : ∀ r, r < row → t.1 r ≤ 6 ∧ t.2 r ≤ 6 := fun r hr => by have := hok r hr; omega
    have p32 : 2 ^ row ≤ 32 := Nat.pow_le_pow_right (n := 2) (by decide) (show row ≤ 5 by omega)
    have lpN : ∀ node, node ≤ row + 1 → ∀ τ l6 l7 l8, GL σ τ → AR τ s t row → grw T (k + 1) row t = fs (gN T k row t) node (row + 1 - node) → Rw mX11_grows X 18 [some (.ref i_M), some (.ref i_m_treeRow), some (.int (nI s)), some (.int (nI row)), some (.int (nI (row + 1))), some (.int (nI node)), l6, l7, l8] [] (wd τ x) 0 0 := by
      refine up_loop (row + 1) ?_ ?_
      · intro τ l6 l7 l8 hg hA e
        rw [fs_0 (Nat.le_refl _)] at e
        refine R_iload hC dX11_grows_18 rfl (R_iload_n (i := 3) hC dX11_grows_20 rfl rfl ?_)
        refine R_icmp_gt hC 178 dX11_grows_21 (by decide) (fun _ => ?_) (fun h => absurd (nI_lt (by omega) (by omega)) h)
        refine R_iconst (v := 0) hC dX11_grows_178 (by decide) ?_
        exact R_zret hC hT dX11_grows_179 rfl (by decide) (GQ.n hg e hA)
      · intro node hnode ihN τ l6 l7 l8 hg hA e
        generalize hen : endM t node row = en
        have en64 : en < 2 ^ row := by rw [← hen]; exact endM_lt t node row
        have lpS : ∀ set, set ≤ en + 1 → ∀ τ l8, GL σ τ → AR τ s t row → fs (gN T k row t) node (row + 1 - node) = (match fs (gS T k row t node) set (en + 1 - set) with | some v => some v | none => fs (gN T k row t) (node + 1) (row + 1 - (node + 1))) → Rw mX11_grows X 37 [some (.ref i_M), some (.ref i_m_treeRow), some (.int (nI s)), some (.int (nI row)), some (.int (nI (row + 1))), some (.int (nI node)), some (.int (nI en)), some (.int (nI set)), l8] [] (wd τ x) 0 0 := by
          refine up_loop (en + 1) ?_ ?_
          · intro τ l8 hg hA e2
            rw [fs_0 (Nat.le_refl _)] at e2
            refine R_iload hC dX11_grows_37 rfl (R_iload hC dX11_grows_39 rfl ?_)
            refine R_icmp_gt hC 172 dX11_grows_41 (by decide) (fun _ => ?_) (fun h => absurd (nI_lt (by omega) (by omega)) h)
            refine R_iinc hC dX11_grows_172 rfl (inc1 _) (by decide) rfl (R_goto hC 18 dX11_grows_175 (by decide) ?_)
            exact ihN τ _ _ _ hg hA (e.trans e2)
          · intro set hset ihS τ l8 hg hA e2
            have m1 := and_not set (by omega) en (by omega)
            have m2 := and_sub set (by omega) en (by omega)
            have skip : gS T k row t node set = none → ∀ τ l8, GL σ τ → AR τ s t row → Rw mX11_grows X 37 [some (.ref i_M), some (.ref i_m_treeRow), some (.int (nI s)), some (.int (nI row)), some (.int (nI (row + 1))), some (.int (nI node)), some (.int (nI en)), some (.int (nI (set + 1))), l8] [] (wd τ x) 0 0 := fun z τ l8 hg hA => ihS τ l8 hg hA (by rw [e2, fs_n (by omega) z])
            have z63 : set &&& (63 - en) < 64 := Nat.lt_of_le_of_lt Nat.and_le_left (by omega)
            have lpW : set &&& en = set → ∀ way, way ≤ 2 → ∀ τ, GL σ τ → AR τ s (bnd set node (row + 1) t) row → gS T k row t node set = fs (gW T k row t node set) way (2 - way) → Rw mX11_grows X 71 [some (.ref i_M), some (.ref i_m_treeRow), some (.int (nI s)), some (.int (nI row)), some (.int (nI (row + 1))), some (.int (nI node)), some (.int (nI en)), some (.int (nI set)), some (.int (nI way))] [] (wd τ x) 0 0 := by
              intro hsub
              have hsub' : set &&& endM t node row = set := by rw [hen]; exact hsub
              have hsb := sub_b hsub'
              refine up_loop 2 ?_ ?_
              · intro τ hg hA e3
                rw [fs_0 (Nat.le_refl _)] at e3
                have b6 : ∀ r, r < row → (bnd set node (row + 1) t).1 r ≤ 6 ∧ (bnd set node (row + 1) t).2 r ≤ 6 := fun r hr => by
                  have := ok6 r hr
                  unfold bnd
                  simp only
                  constructor
                  · split <;> omega
                  · split <;> omega
                refine R_iload hC dX11_grows_71 rfl (R_iconst (v := 2) hC dX11_grows_73 (by decide) ?_)
                refine R_icmp_ge hC 155 dX11_grows_74 (by decide) (fun _ => ?_) (fun h => absurd (Int32.le_refl _) h)
                refine R_aload_n (i := 0) hC dX11_grows_155 rfl rfl (R_iload_n (i := 2) hC dX11_grows_156 rfl rfl (R_iload hC dX11_grows_157 rfl (R_iload hC dX11_grows_159 rfl (R_iload hC dX11_grows_161 rfl ?_))))
                refine R_V4g hC hR dX11_grows_163 MV_X11_bends ml_X11_255 L_M rfl (s_bends (n := row) (set := set) (node := row + 1) (other := node) hA hs (by omega) (by omega) (by omega) (fun r z => (hsb r z).1) b6) (by first | decide | omega) ⟨by decide, by decide⟩ (Nat.le_of_ble_eq_true rfl) (fun r w1 hq => ?_)
                obtain ⟨rfl, υ, rfl, hg2, hA2⟩ := hq
                refine R_iinc hC dX11_grows_166 rfl (inc1 _) (by decide) rfl (R_goto hC 37 dX11_grows_169 (by decide) ?_)
                exact skip e3 υ _ (hg.tr hg2) (hA2.to (fun r hr => ⟨((bnd_back hok hsb) r hr).1.symm, ((bnd_back hok hsb) r hr).2.symm⟩))
              · intro way hway ihW τ hg hA e3
                have oke : nodOK (extT t row node set way) (row + 1) := ext_ok hok (by omega) hsub'
                have Fe : F2 (extT t row node set way) (row + 1) := F2_ext hF hok (by omega) hsub' hway
                have go : ∀ τ, GL σ τ → AR τ s (extT t row node set way) (row + 1) → Rw mX11_grows X 123 [some (.ref i_M), some (.ref i_m_treeRow), some (.int (nI s)), some (.int (nI row)), some (.int (nI (row + 1))), some (.int (nI node)), some (.int (nI en)), some (.int (nI set)), some (.int (nI way))] [] (wd τ x) 0 0 := by
                  intro τ hg hA
                  have next : gW T k row t node set way = none → ∀ υ, GL τ υ → AR υ s (extT t row node set way) (row + 1) → Rw mX11_grows X 149 [some (.ref i_M), some (.ref i_m_treeRow), some (.int (nI s)), some (.int (nI row)), some (.int (nI (row + 1))), some (.int (nI node)), some (.int (nI en)), some (.int (nI set)), some (.int (nI way))] [] (wd υ x) 0 0 := by
                    intro z υ hg2 hA2
                    have z3 := ihW υ (hg.tr hg2) ((hA2.cut (by omega)).to (ext_bnd (way := way))) (by rw [e3, fs_n hway z])
                    refine R_iinc hC dX11_grows_149 rfl (inc1 _) (by decide) rfl (R_goto hC 71 dX11_grows_152 (by decide) ?_)
                    exact z3
                  have fin : ∀ u, gW T k row t node set way = some u → grw T (k + 1) row t = some u := fun u z => by rw [e, e2, fs_y (by omega) (e3.trans (fs_y hway z))]
                  refine R_aload_n (i := 0) hC dX11_grows_123 rfl rfl (R_aload_n (i := 1) hC dX11_grows_124 rfl rfl (R_iload_n (i := 2) hC dX11_grows_125 rfl rfl (R_iload_n (i := 3) hC dX11_grows_126 rfl rfl (R_iconst (v := 1) hC dX11_grows_127 (by decide) (R_iadd hC dX11_grows_128 ?_)))))
                  refine R_top (y := nI (row + 1)) (inc1 _) ?_
                  refine R_V3g hC hR dX11_grows_129 MV_X11_areWays ml_X11_259 L_M rfl (s_areWays (hg.tw hT0) hA hs (by omega) Fe oke) (by first | decide | omega) ⟨by decide, by decide⟩ (Nat.le_of_ble_eq_true rfl) (fun r w1 hq => ?_)
                  obtain ⟨υ, rfl, hl, rfl⟩ := hq
                  refine R_if_eq hC 149 dX11_grows_132 (by decide) (fun h132 => ?_) (fun h132 => ?_)
                  · first | exact next (by unfold gW; rw [cnd_f (b2i_0 h132)]) υ hl.gl (hl.ar hA) | (have z := op_nn (b2i_0 h144); exact next (by unfold gW; rw [cnd_t (b2i_ne h132)]; exact z) φ (hl.gl.tr hg3) (q2 z))
                  · refine R_aload_n (i := 0) hC dX11_grows_135 rfl rfl (R_aload_n (i := 1) hC dX11_grows_136 rfl rfl (R_iload_n (i := 2) hC dX11_grows_137 rfl rfl (R_iload_n (i := 3) hC dX11_grows_138 rfl rfl (R_iconst (v := 1) hC dX11_grows_139 (by decide) (R_iadd hC dX11_grows_140 ?_)))))
                    refine R_top (y := nI (row + 1)) (inc1 _) ?_
                    refine R_V3g hC hR dX11_grows_141 MV_X11_grows ml_X11_262 L_M rfl (ih (row + 1) υ (extT t row node set way) (by omega) ((hg.tr hl.gl).tw hT0) (hl.ar hA) Fe oke) (by first | decide | omega) ⟨by decide, by decide⟩ (Nat.le_of_ble_eq_true rfl) (fun r w1 hq => ?_)
                    obtain ⟨φ, rfl, hg3, rfl, q1, q2⟩ := hq
                    refine R_if_eq hC 149 dX11_grows_144 (by decide) (fun h144 => ?_) (fun h144 => ?_)
                    · first | exact next (by unfold gW; rw [cnd_f (b2i_0 h132)]) υ hl.gl (hl.ar hA) | (have z := op_nn (b2i_0 h144); exact next (by unfold gW; rw [cnd_t (b2i_ne h132)]; exact z) φ (hl.gl.tr hg3) (q2 z))
                    · refine R_iconst (v := 1) hC dX11_grows_147 (by decide) ?_
                      exact R_zret hC hT dX11_grows_148 rfl (by decide) (by obtain ⟨u, hu⟩ := b2i_ne h144; exact GQ.y (hg.tr (hl.gl.tr hg3)) (fin u (by unfold gW; rw [cnd_t (b2i_ne h132)]; exact hu)) (q1 u hu))
                have hx := AR.ext (way := way) hA
                have hgx := (hg.tr (GL.f τ (upd (τ.2.2 i_m_from) (6 * s + row) (nI (if way = 0 then node else row + 1))))).tr (GL.t _ (upd (τ.2.2 i_m_to) (6 * s + row) (nI (if way = 0 then row + 1 else node))))
                have g2 := go _ hgx hx
                rcases (by omega : way = 0 ∨ way = 1) with rfl | rfl
                · rw [if_pos rfl, if_pos rfl] at g2
                  refine R_iload hC dX11_grows_71 rfl (R_iconst (v := 2) hC dX11_grows_73 (by decide) ?_)
                  refine R_icmp_ge hC 155 dX11_grows_74 (by decide) (fun h => absurd h (nI_ge hway (by decide))) (fun _ => ?_)
                  refine R_aload_n (i := 0) hC dX11_grows_77 rfl rfl (R_gR hC dX11_grows_78 fl_X11_41 L_M rfl (R_bipush (v := 6) hC dX11_grows_81 (by decide) (R_iload_n (i := 2) hC dX11_grows_83 rfl rfl (R_imul hC dX11_grows_84 (R_iload_n (i := 3) hC dX11_grows_85 rfl rfl (R_iadd hC dX11_grows_86 (R_iload hC dX11_grows_87 rfl ?_)))))))
                  refine R_if_ne hC 97 dX11_grows_89 (by decide) (fun h => absurd rfl h) (fun _ => ?_)
                  refine R_iload hC dX11_grows_92 rfl (R_goto hC 99 dX11_grows_94 (by decide) (R_sI hC dX11_grows_99 L_m_from (6 * s + row) (n6 s row) (by omega) (by decide) (R_aload_n (i := 0) hC dX11_grows_100 rfl rfl (R_gR hC dX11_grows_101 fl_X11_44 L_M rfl (R_bipush (v := 6) hC dX11_grows_104 (by decide) (R_iload_n (i := 2) hC dX11_grows_106 rfl rfl (R_imul hC dX11_grows_107 ?_)))))))
                  refine R_iload_n (i := 3) hC dX11_grows_108 rfl rfl (R_iadd hC dX11_grows_109 (R_iload hC dX11_grows_110 rfl ?_))
                  refine R_if_ne hC 120 dX11_grows_112 (by decide) (fun h => absurd rfl h) (fun _ => ?_)
                  refine R_iload hC dX11_grows_115 rfl (R_goto hC 122 dX11_grows_117 (by decide) (R_sI hC dX11_grows_122 L_m_to (6 * s + row) (n6 s row) (by omega) (by decide) ?_))
                  exact g2
                · rw [if_neg (by decide), if_neg (by decide)] at g2
                  refine R_iload hC dX11_grows_71 rfl (R_iconst (v := 2) hC dX11_grows_73 (by decide) ?_)
                  refine R_icmp_ge hC 155 dX11_grows_74 (by decide) (fun h => absurd h (nI_ge hway (by decide))) (fun _ => ?_)
                  refine R_aload_n (i := 0) hC dX11_grows_77 rfl rfl (R_gR hC dX11_grows_78 fl_X11_41 L_M rfl (R_bipush (v := 6) hC dX11_grows_81 (by decide) (R_iload_n (i := 2) hC dX11_grows_83 rfl rfl (R_imul hC dX11_grows_84 (R_iload_n (i := 3) hC dX11_grows_85 rfl rfl (R_iadd hC dX11_grows_86 (R_iload hC dX11_grows_87 rfl ?_)))))))
                  refine R_if_ne hC 97 dX11_grows_89 (by decide) (fun _ => ?_) (fun h => absurd h (by decide))
                  refine R_iload hC dX11_grows_97 rfl (R_sI hC dX11_grows_99 L_m_from (6 * s + row) (n6 s row) (by omega) (by decide) (R_aload_n (i := 0) hC dX11_grows_100 rfl rfl (R_gR hC dX11_grows_101 fl_X11_44 L_M rfl (R_bipush (v := 6) hC dX11_grows_104 (by decide) (R_iload_n (i := 2) hC dX11_grows_106 rfl rfl (R_imul hC dX11_grows_107 (R_iload_n (i := 3) hC dX11_grows_108 rfl rfl ?_)))))))
                  refine R_iadd hC dX11_grows_109 (R_iload hC dX11_grows_110 rfl ?_)
                  refine R_if_ne hC 120 dX11_grows_112 (by decide) (fun _ => ?_) (fun h => absurd h (by decide))
                  refine R_iload hC dX11_grows_120 rfl (R_sI hC dX11_grows_122 L_m_to (6 * s + row) (n6 s row) (by omega) (by decide) ?_)
                  exact g2
            refine R_iload hC dX11_grows_37 rfl (R_iload hC dX11_grows_39 rfl ?_)
            refine R_icmp_gt hC 172 dX11_grows_41 (by decide) (fun h => absurd h (fun z => absurd ((nI_ltI (by omega) (by omega)).mp z) (by omega))) (fun _ => ?_)
            refine R_iload hC dX11_grows_44 rfl (R_iload hC dX11_grows_46 rfl (R_iconst (v := (-1)) hC dX11_grows_48 (by decide) (R_ixor hC dX11_grows_49 (R_iand hC dX11_grows_50 ?_))))
            refine R_top (y := nI (set &&& (63 - en))) (m1) ?_
            refine R_if_eq hC 57 dX11_grows_51 (by decide) (fun h51 => ?_) (fun h51 => ?_)
            · have hsub : set &&& en = set := m2.mp (by have := (nI_eq (b := 0) (by omega) (by decide)).mp h51; exact this)
              refine R_aload_n (i := 0) hC dX11_grows_57 rfl rfl (R_iload_n (i := 2) hC dX11_grows_58 rfl rfl (R_iload hC dX11_grows_59 rfl (R_iload hC dX11_grows_61 rfl (R_iload hC dX11_grows_63 rfl ?_))))
              refine R_V4g hC hR dX11_grows_65 MV_X11_bends ml_X11_255 L_M rfl (s_bends (n := row) (set := set) (node := node) (other := row + 1) hA hs (by omega) (by omega) (by omega) (fun r z => (sub_b (by rw [hen]; exact hsub) r z).1) ok6) (by first | decide | omega) ⟨by decide, by decide⟩ (Nat.le_of_ble_eq_true rfl) (fun r w1 hq => ?_)
              obtain ⟨rfl, υ, rfl, hg2, hA2⟩ := hq
              refine R_iconst (v := 0) hC dX11_grows_68 (by decide) (R_istore hC dX11_grows_69 (by decide) rfl ?_)
              exact lpW hsub 0 (by decide) υ (hg.tr hg2) hA2 (by unfold gS; rw [hen, cnd_t hsub])
            · refine R_goto hC 166 dX11_grows_54 (by decide) (R_iinc hC dX11_grows_166 rfl (inc1 _) (by decide) rfl (R_goto hC 37 dX11_grows_169 (by decide) ?_))
              exact skip (by unfold gS; rw [hen, cnd_f (fun y => h51 (by rw [m2.mpr y]; rfl))]) τ _ hg hA
        refine R_iload hC dX11_grows_18 rfl (R_iload_n (i := 3) hC dX11_grows_20 rfl rfl ?_)
        refine R_icmp_gt hC 178 dX11_grows_21 (by decide) (fun h => absurd h (fun z => absurd ((nI_ltI (by omega) (by omega)).mp z) (by omega))) (fun _ => ?_)
        refine R_aload_n (i := 0) hC dX11_grows_24 rfl rfl (R_iload_n (i := 2) hC dX11_grows_25 rfl rfl (R_iload hC dX11_grows_26 rfl (R_iload_n (i := 3) hC dX11_grows_28 rfl rfl ?_)))
        refine R_V3i hC hR dX11_grows_29 MV_X11_endsAt ml_X11_252 L_M rfl (s_endsAt (n := row) (node := node) (t := t) hA hs (by omega) (by omega) ok6) (by first | decide | omega) ⟨by decide, by decide⟩ (Nat.le_of_ble_eq_true rfl) ?_
        rw [hen]
        refine R_istore hC dX11_grows_32 (by decide) rfl (R_iconst (v := 0) hC dX11_grows_34 (by decide) (R_istore hC dX11_grows_35 (by decide) rfl ?_))
        exact lpS 0 (Nat.zero_le _) τ _ hg hA (by rw [show row + 1 - node = (row + 1 - (node + 1)) + 1 by omega, fs, show gN T k row t node = fs (gS T k row t node) 0 (en + 1 - 0) by unfold gN; rw [hen]; rfl]; cases fs (gS T k row t node) 0 (en + 1 - 0) <;> rfl)
    refine R_iload_n (i := 3) hC dX11_grows_0 rfl rfl (R_aload_n (i := 1) hC dX11_grows_1 rfl rfl (R_bipush (v := 36) hC dX11_grows_2 (by decide) (R_aI hC dX11_grows_4 L_m_treeRow 36 rfl (by decide) (by decide) ?_)))
    refine R_top (y := nI T.1) (hT0.1) ?_
    refine R_icmp_ne hC 10 dX11_grows_5 (by decide) (fun _ => ?_) (fun h => absurd h ne36)
    refine R_iload_n (i := 3) hC dX11_grows_10 rfl rfl (R_iconst (v := 1) hC dX11_grows_11 (by decide) (R_iadd hC dX11_grows_12 ?_))
    refine R_top (y := nI (row + 1)) (inc1 _) ?_
    refine R_istore hC dX11_grows_13 (by decide) rfl (R_iconst (v := 0) hC dX11_grows_15 (by decide) (R_istore hC dX11_grows_16 (by decide) rfl ?_))
    exact lpN 0 (Nat.zero_le _) σ _ _ _ (GL.rf σ) ha (grw_s T k row t)
