/-! ===== the model's forests ===== -/
theorem WL.rf (σ : sg) : WL σ σ := by
  refine ⟨σ.1 i_M 21, σ.2.2 i_m_walk, ?_⟩
  refine Prod.ext (funext fun a => funext fun b => ?_) (Prod.ext rfl (funext fun a => ?_))
  · show σ.1 a b = if a = i_M then (if b = 21 then σ.1 i_M 21 else σ.1 a b) else σ.1 a b
    split
    · rename_i y; subst y
      split
      · rename_i y; subst y; rfl
      · rfl
    · rfl
  · show σ.2.2 a = if a = i_m_walk then σ.2.2 i_m_walk else σ.2.2 a
    split
    · rename_i y; rw [y]
    · rfl
theorem WL.tr {σ τ υ : sg} (h : WL σ τ) (h2 : WL τ υ) : WL σ υ := by
  obtain ⟨v0, g0, rfl⟩ := h
  obtain ⟨v, g, rfl⟩ := h2
  refine ⟨v, g, ?_⟩
  refine Prod.ext (funext fun a => funext fun b => ?_) (Prod.ext rfl (funext fun a => ?_))
  · show (if a = i_M then (if b = 21 then v else (if a = i_M then (if b = 21 then v0 else σ.1 a b) else σ.1 a b)) else (if a = i_M then (if b = 21 then v0 else σ.1 a b) else σ.1 a b)) = (if a = i_M then (if b = 21 then v else σ.1 a b) else σ.1 a b)
    split
    · split <;> rfl
    · rfl
  · show (if a = i_m_walk then g else if a = i_m_walk then g0 else σ.2.2 a) = if a = i_m_walk then g else σ.2.2 a
    split <;> rfl
theorem WL.a {σ τ : sg} (h : WL σ τ) {i : Nat} (hi : i ≠ i_m_walk) : τ.2.2 i = σ.2.2 i := by
  obtain ⟨v, g, rfl⟩ := h
  rw [sA_ne hi]; rfl
theorem WL.ar {σ τ : sg} (h : WL σ τ) {s n : Nat} {t : tre} (ha : AR σ s t n) : AR τ s t n := by
  unfold AR at ha ⊢
  rw [h.a (by decide), h.a (by decide)]
  exact ha
theorem s_areWays {σ : sg} {x : aW} {T : tb} {s n : Nat} {t : tre} (hT0 : TB (σ.2.2 i_m_treeRow) T) (ha : AR σ s t n) (hs : s < 2) (hn : n ≤ T.1) (hF : F2 t n) (hok : nodOK t n) : Mt mX11_areWays 2 0 0 [.ref i_M, .ref i_m_treeRow, .int (nI s), .int (nI n)] (wd σ x) (fun r w => ∃ τ, w = wd τ x ∧ WL σ τ ∧ r = some (.int (b2i (WaysP T t n)))) := by
  refine Mt.of MI_X11_areWays (Nat.le_of_ble_eq_true rfl) (fun X hC hR hT => ?_)
  obtain ⟨g1, g2, g3, g4, g5⟩ := id hT0
  have lp : ∀ c, c ≤ T.2.1 → (∀ d, d < c → WayP T t n d) → ∀ τ, WL σ τ → Rw mX11_areWays X 3 [some (.ref i_M), some (.ref i_m_treeRow), some (.int (nI s)), some (.int (nI n)), some (.int (nI c))] [] (wd τ x) 0 0 := by
    refine up_loop T.2.1 ?_ ?_
    · intro hy τ hτ
      have f := (hτ.a (i := i_m_treeRow) (by decide))
      have f37 : τ.2.2 i_m_treeRow 37 = nI T.2.1 := by rw [f]; exact g2
      refine R_iload hC dX11_areWays_3 rfl (R_aload_n (i := 1) hC dX11_areWays_5 rfl rfl (R_bipush (v := 37) hC dX11_areWays_6 (by decide) (R_aI hC dX11_areWays_8 L_m_treeRow 37 rfl (by decide) (by decide) ?_)))
      refine R_top (y := nI T.2.1) (f37) ?_
      refine R_icmp_ge hC 32 dX11_areWays_9 (by decide) (fun _ => ?_) (fun h => absurd (Int32.le_refl _) h)
      refine R_iconst (v := 1) hC dX11_areWays_32 (by decide) ?_
      exact R_zret hC hT dX11_areWays_33 rfl (by decide) ⟨τ, rfl, hτ, by rw [b2i_t (show WaysP T t n from hy)]⟩
    · intro c hc ih hy τ hτ
      have f := (hτ.a (i := i_m_treeRow) (by decide))
      have f37 : τ.2.2 i_m_treeRow 37 = nI T.2.1 := by rw [f]; exact g2
      have hT1 : TB (τ.2.2 i_m_treeRow) T := by rw [f]; exact hT0
      refine R_iload hC dX11_areWays_3 rfl (R_aload_n (i := 1) hC dX11_areWays_5 rfl rfl (R_bipush (v := 37) hC dX11_areWays_6 (by decide) (R_aI hC dX11_areWays_8 L_m_treeRow 37 rfl (by decide) (by decide) ?_)))
      refine R_top (y := nI T.2.1) (f37) ?_
      refine R_icmp_ge hC 32 dX11_areWays_9 (by decide) (fun h => absurd h (nI_ge hc (by omega))) (fun _ => ?_)
      refine R_aload_n (i := 0) hC dX11_areWays_12 rfl rfl (R_aload_n (i := 1) hC dX11_areWays_13 rfl rfl (R_iload_n (i := 2) hC dX11_areWays_14 rfl rfl (R_iload hC dX11_areWays_15 rfl (R_iload_n (i := 3) hC dX11_areWays_17 rfl rfl ?_))))
      refine R_V4g hC hR dX11_areWays_18 MV_X11_isWay ml_X11_248 L_M rfl (s_isWay hT1 (hτ.ar ha) hs hn hc hF hok) (by first | decide | omega) ⟨by decide, by decide⟩ (Nat.le_of_ble_eq_true rfl) (fun r w1 hq => ?_)
      obtain ⟨υ, rfl, hl, rfl, -⟩ := hq
      refine R_if_ne hC 26 dX11_areWays_21 (by decide) (fun h21 => ?_) (fun h21 => ?_)
      · refine R_iinc hC dX11_areWays_26 rfl (inc1 _) (by decide) rfl (R_goto hC 3 dX11_areWays_29 (by decide) ?_)
        exact ih (fun d hd => by rcases (by omega : d < c ∨ d = c) with w | rfl; exact hy d w; exact b2i_ne h21) υ (hτ.tr hl)
      · refine R_iconst (v := 0) hC dX11_areWays_24 (by decide) ?_
        exact R_zret hC hT dX11_areWays_25 rfl (by decide) ⟨υ, rfl, hτ.tr hl, by rw [b2i_f (fun y : WaysP T t n => b2i_0 h21 (y c hc))]⟩
  refine R_iconst (v := 0) hC dX11_areWays_0 (by decide) (R_istore hC dX11_areWays_1 (by decide) rfl ?_)
  exact lp 0 (Nat.zero_le _) (fun d hd => absurd hd (Nat.not_lt_zero _)) σ (WL.rf σ)
theorem s_endsAt {σ : sg} {x : aW} {s n node : Nat} {t : tre} (ha : AR σ s t n) (hs : s < 2) (hn : n ≤ 6) (hnode : node ≤ 6) (hok : ∀ r, r < n → t.1 r ≤ 6 ∧ t.2 r ≤ 6) : Mt mX11_endsAt 0 0 0 [.ref i_M, .int (nI s), .int (nI node), .int (nI n)] (wd σ x) (QI (nI (endM t node n)) (wd σ x)) := by
  refine Mt.of MI_X11_endsAt (Nat.le_of_ble_eq_true rfl) (fun X hC hR hT => ?_)
  have lp : ∀ j, j ≤ n → Rw mX11_endsAt X 6 [some (.ref i_M), some (.int (nI s)), some (.int (nI node)), some (.int (nI n)), some (.int (nI (endM t node j))), some (.int (nI j))] [] (wd σ x) 0 0 := by
    refine up_loop n ?_ ?_
    · refine R_iload hC dX11_endsAt_6 rfl (R_iload_n (i := 3) hC dX11_endsAt_8 rfl rfl ?_)
      refine R_icmp_ge hC 59 dX11_endsAt_9 (by decide) (fun _ => ?_) (fun h => absurd (Int32.le_refl _) h)
      refine R_iload hC dX11_endsAt_59 rfl ?_
      exact R_iret hC hT dX11_endsAt_61 rfl ⟨rfl, rfl⟩
    · intro j hj ih
      obtain ⟨a1, a2⟩ := ha j hj
      obtain ⟨b1, b2⟩ := hok j hj
      have e1 := nI_eq (a := t.1 j) (b := node) (by omega) (by omega)
      have e2 := nI_eq (a := t.2 j) (b := node) (by omega) (by omega)
      have lt := endM_lt t node j
      have p6 : 2 ^ j ≤ 32 := Nat.pow_le_pow_right (n := 2) (by decide) (show j ≤ 5 by omega)
      have add : nI (endM t node j) ||| nI (2 ^ j) = nI (endM t node j + 2 ^ j) := by
        have z := Nat.two_pow_add_eq_or_of_lt lt 1
        rw [Nat.mul_one] at z
        rw [nI_or _ (by omega) _ (by omega), Nat.add_comm, Nat.or_comm, z]
      have mt1 : (t.1 j = node ∨ t.2 j = node) → endM t node (j + 1) = endM t node j + 2 ^ j := fun z => by rw [endM, if_pos z]
      have mt0 : ¬ (t.1 j = node ∨ t.2 j = node) → endM t node (j + 1) = endM t node j := fun z => by rw [endM, if_neg z]
      have yes : (t.1 j = node ∨ t.2 j = node) → Rw mX11_endsAt X 44 [some (.ref i_M), some (.int (nI s)), some (.int (nI node)), some (.int (nI n)), some (.int (nI (endM t node j))), some (.int (nI j))] [] (wd σ x) 0 0 := by
        intro z
        have ih := ih
        rw [mt1 z] at ih
        refine R_iload hC dX11_endsAt_44 rfl (R_iconst (v := 1) hC dX11_endsAt_46 (by decide) (R_iload hC dX11_endsAt_47 rfl (R_ishl hC dX11_endsAt_49 ?_)))
        refine R_top (y := nI (2 ^ j)) (shl1 _ (by omega)) ?_
        refine R_ior hC dX11_endsAt_50 ?_
        refine R_top (y := nI (endM t node j + 2 ^ j)) (add) ?_
        refine R_istore hC dX11_endsAt_51 (by decide) rfl (R_iinc hC dX11_endsAt_53 rfl (inc1 _) (by decide) rfl (R_goto hC 6 dX11_endsAt_56 (by decide) ?_))
        exact ih
      have no : ¬ (t.1 j = node ∨ t.2 j = node) → Rw mX11_endsAt X 53 [some (.ref i_M), some (.int (nI s)), some (.int (nI node)), some (.int (nI n)), some (.int (nI (endM t node j))), some (.int (nI j))] [] (wd σ x) 0 0 := by
        intro z
        have ih := ih
        rw [mt0 z] at ih
        refine R_iinc hC dX11_endsAt_53 rfl (inc1 _) (by decide) rfl (R_goto hC 6 dX11_endsAt_56 (by decide) ?_)
        exact ih
      refine R_iload hC dX11_endsAt_6 rfl (R_iload_n (i := 3) hC dX11_endsAt_8 rfl rfl ?_)
      refine R_icmp_ge hC 59 dX11_endsAt_9 (by decide) (fun h => absurd h (nI_ge hj (by omega))) (fun _ => ?_)
      refine R_aload_n (i := 0) hC dX11_endsAt_12 rfl rfl (R_gR hC dX11_endsAt_13 fl_X11_41 L_M rfl (R_bipush (v := 6) hC dX11_endsAt_16 (by decide) (R_iload_n (i := 1) hC dX11_endsAt_18 rfl rfl (R_imul hC dX11_endsAt_19 (R_iload hC dX11_endsAt_20 rfl (R_iadd hC dX11_endsAt_22 (R_aI hC dX11_endsAt_23 L_m_from (6 * s + j) (n6 s j) (by omega) (by decide) ?_)))))))
      refine R_top (y := nI (t.1 j)) (a1) ?_
      refine R_iload_n (i := 2) hC dX11_endsAt_24 rfl rfl ?_
      refine R_icmp_eq hC 44 dX11_endsAt_25 (by decide) (fun h25 => ?_) (fun h25 => ?_)
      · first | exact yes (Or.inl (e1.mp h25)) | exact yes (Or.inr (e2.mp h41))
      · refine R_aload_n (i := 0) hC dX11_endsAt_28 rfl rfl (R_gR hC dX11_endsAt_29 fl_X11_44 L_M rfl (R_bipush (v := 6) hC dX11_endsAt_32 (by decide) (R_iload_n (i := 1) hC dX11_endsAt_34 rfl rfl (R_imul hC dX11_endsAt_35 (R_iload hC dX11_endsAt_36 rfl (R_iadd hC dX11_endsAt_38 (R_aI hC dX11_endsAt_39 L_m_to (6 * s + j) (n6 s j) (by omega) (by decide) ?_)))))))
        refine R_top (y := nI (t.2 j)) (a2) ?_
        refine R_iload_n (i := 2) hC dX11_endsAt_40 rfl rfl ?_
        refine R_icmp_ne hC 53 dX11_endsAt_41 (by decide) (fun h41 => ?_) (fun h41 => ?_)
        · exact no (fun y => y.elim (fun z => h25 (e1.mpr z)) (fun z => h41 (e2.mpr z)))
        · first | exact yes (Or.inl (e1.mp h25)) | exact yes (Or.inr (e2.mp h41))
  refine R_iconst (v := 0) hC dX11_endsAt_0 (by decide) (R_istore hC dX11_endsAt_1 (by decide) rfl (R_iconst (v := 0) hC dX11_endsAt_3 (by decide) (R_istore hC dX11_endsAt_4 (by decide) rfl ?_)))
  exact lp 0 (Nat.zero_le _)
/-- what the search may change -/
def GL (σ τ : sg) : Prop := (∀ i, i ≠ i_m_walk → i ≠ i_m_from → i ≠ i_m_to → τ.2.2 i = σ.2.2 i) ∧ τ.2.1 = σ.2.1 ∧ ∀ a b, ¬ (a = i_M ∧ b = 21) → τ.1 a b = σ.1 a b
theorem GL.rf (σ : sg) : GL σ σ := ⟨fun _ _ _ _ => rfl, rfl, fun _ _ _ => rfl⟩
theorem GL.tr {σ τ υ : sg} (h : GL σ τ) (h2 : GL τ υ) : GL σ υ := ⟨fun i a b c => (h2.1 i a b c).trans (h.1 i a b c), h2.2.1.trans h.2.1, fun a b c => (h2.2.2 a b c).trans (h.2.2 a b c)⟩
theorem WL.gl {σ τ : sg} (h : WL σ τ) : GL σ τ := by
  refine ⟨fun i a _ _ => h.a a, ?_, ?_⟩
  · obtain ⟨v, g, rfl⟩ := h; rfl
  · obtain ⟨v, g, rfl⟩ := h
    intro a b z
    show (if a = i_M then (if b = 21 then v else σ.1 a b) else σ.1 a b) = σ.1 a b
    split
    · split
      · rename_i y1 y2; exact absurd ⟨y1, y2⟩ z
      · rfl
    · rfl
theorem GL.f (σ : sg) (g : Nat → Int32) : GL σ (sA σ i_m_from g) := ⟨fun i _ a _ => sA_ne a, rfl, fun _ _ _ => rfl⟩
theorem GL.t (σ : sg) (g : Nat → Int32) : GL σ (sA σ i_m_to g) := ⟨fun i _ _ a => sA_ne a, rfl, fun _ _ _ => rfl⟩
def bnj (set node other j : Nat) (t : tre) : tre := (fun r => if r < j then (bnd set node other t).1 r else t.1 r, fun r => if r < j then (bnd set node other t).2 r else t.2 r)
theorem s_bends {σ : sg} {x : aW} {s n set node other : Nat} {t : tre} (ha : AR σ s t n) (hs : s < 2) (hn : n ≤ 6) (hnode : node ≤ 6) (hset : set < 64) (hb : ∀ r, set.testBit r = true → r < n) (hok : ∀ r, r < n → t.1 r ≤ 6 ∧ t.2 r ≤ 6) : Mt mX11_bends 1 0 0 [.ref i_M, .int (nI s), .int (nI set), .int (nI node), .int (nI other)] (wd σ x) (fun r w => r = none ∧ ∃ τ, w = wd τ x ∧ GL σ τ ∧ AR τ s (bnd set node other t) n) := by
  refine Mt.of MI_X11_bends (Nat.le_of_ble_eq_true rfl) (fun X hC hR hT => ?_)
  have lp : ∀ j, j ≤ 6 → ∀ τ, GL σ τ → AR τ s (bnj set node other j t) n → Rw mX11_bends X 3 [some (.ref i_M), some (.int (nI s)), some (.int (nI set)), some (.int (nI node)), some (.int (nI other)), some (.int (nI j))] [] (wd τ x) 0 0 := by
    refine up_loop 6 ?_ ?_
    · intro τ hg hA
      have fin : AR τ s (bnd set node other t) n := fun r hr => by
        have := hA r hr
        unfold bnj at this
        simp only [show r < 6 by omega, if_true] at this
        exact this
      refine R_iload hC dX11_bends_3 rfl (R_bipush (v := 6) hC dX11_bends_5 (by decide) ?_)
      refine R_icmp_ge hC 75 dX11_bends_7 (by decide) (fun _ => ?_) (fun h => absurd (Int32.le_refl _) h)
      exact R_vret hC hT dX11_bends_75 rfl ⟨rfl, τ, rfl, hg, fin⟩
    · intro j hj ih τ hg hA
      have stay : set.testBit j = false → AR τ s (bnj set node other (j + 1) t) n := fun z r hr => by
        have := hA r hr
        unfold bnj at this ⊢
        by_cases y : r = j
        · subst y
          simp only [show ¬ r < r by omega, if_false] at this
          simp only [show r < r + 1 by omega, if_true, bnd, z, Bool.false_eq_true, false_and, if_false]
          exact this
        · by_cases y2 : r < j
          · simp only [y2, show r < j + 1 by omega, if_true] at this ⊢; exact this
          · simp only [y2, show ¬ r < j + 1 by omega, if_false] at this ⊢; exact this
      have now : j < n → τ.2.2 i_m_from (6 * s + j) = nI (t.1 j) := fun z => by
        have := (hA j z).1
        unfold bnj at this
        simp only [Nat.lt_irrefl, if_false] at this
        exact this
      have e1 : j < n → (nI (t.1 j) = nI node ↔ t.1 j = node) := fun z => nI_eq (by have := hok j z; omega) (by omega)
      have toF : set.testBit j = true → t.1 j = node → AR (sA τ i_m_from (upd (τ.2.2 i_m_from) (6 * s + j) (nI other))) s (bnj set node other (j + 1) t) n := fun z z2 r hr => by
        have := hA r hr
        have jn := hb j z
        rw [sA_eq, sA_ne (by decide)]
        unfold bnj at this ⊢
        by_cases y : r = j
        · subst y
          simp only [Nat.lt_irrefl, if_false] at this
          simp only [show r < r + 1 by omega, if_true, bnd, z, z2, true_and, not_true_eq_false, and_false, if_false]
          exact ⟨by unfold upd; rw [if_pos rfl], this.2⟩
        · rw [show upd (τ.2.2 i_m_from) (6 * s + j) (nI other) (6 * s + r) = τ.2.2 i_m_from (6 * s + r) by unfold upd; rw [if_neg (by omega)]]
          by_cases y2 : r < j
          · simp only [y2, show r < j + 1 by omega, if_true] at this ⊢; exact this
          · simp only [y2, show ¬ r < j + 1 by omega, if_false] at this ⊢; exact this
      have toT : set.testBit j = true → ¬ t.1 j = node → AR (sA τ i_m_to (upd (τ.2.2 i_m_to) (6 * s + j) (nI other))) s (bnj set node other (j + 1) t) n := fun z z2 r hr => by
        have := hA r hr
        have jn := hb j z
        rw [sA_eq, sA_ne (by decide)]
        unfold bnj at this ⊢
        by_cases y : r = j
        · subst y
          simp only [Nat.lt_irrefl, if_false] at this
          simp only [show r < r + 1 by omega, if_true, bnd, z, z2, true_and, and_false, and_true, not_false_eq_true, if_false]
          exact ⟨this.1, by unfold upd; rw [if_pos rfl]⟩
        · rw [show upd (τ.2.2 i_m_to) (6 * s + j) (nI other) (6 * s + r) = τ.2.2 i_m_to (6 * s + r) by unfold upd; rw [if_neg (by omega)]]
          by_cases y2 : r < j
          · simp only [y2, show r < j + 1 by omega, if_true] at this ⊢; exact this
          · simp only [y2, show ¬ r < j + 1 by omega, if_false] at this ⊢; exact this
      refine R_iload hC dX11_bends_3 rfl (R_bipush (v := 6) hC dX11_bends_5 (by decide) ?_)
      refine R_icmp_ge hC 75 dX11_bends_7 (by decide) (fun h => absurd h (nI_ge hj (show (6 : Nat) < 2147483648 by decide))) (fun _ => ?_)
      refine R_iload_n (i := 2) hC dX11_bends_10 rfl rfl (R_iload hC dX11_bends_11 rfl ?_)
      refine R_S2i hC hR dX11_bends_13 MS_X11_has ml_X11_200 (s_has _ j hset (by omega) _) (by first | decide | omega) ⟨by decide, by decide⟩ (Nat.le_of_ble_eq_true rfl) ?_
      refine R_if_ne hC 22 dX11_bends_16 (by decide) (fun h16 => ?_) (fun h16 => ?_)
      · refine R_aload_n (i := 0) hC dX11_bends_22 rfl rfl (R_gR hC dX11_bends_23 fl_X11_41 L_M rfl (R_bipush (v := 6) hC dX11_bends_26 (by decide) (R_iload_n (i := 1) hC dX11_bends_28 rfl rfl (R_imul hC dX11_bends_29 (R_iload hC dX11_bends_30 rfl (R_iadd hC dX11_bends_32 (R_aI hC dX11_bends_33 L_m_from (6 * s + j) (n6 s j) (by omega) (by decide) ?_)))))))
        refine R_top (y := nI (t.1 j)) (now (hb j (tst h16))) ?_
        refine R_iload_n (i := 3) hC dX11_bends_34 rfl rfl ?_
        refine R_icmp_ne hC 55 dX11_bends_35 (by decide) (fun h35 => ?_) (fun h35 => ?_)
        · refine R_aload_n (i := 0) hC dX11_bends_55 rfl rfl (R_gR hC dX11_bends_56 fl_X11_44 L_M rfl (R_bipush (v := 6) hC dX11_bends_59 (by decide) (R_iload_n (i := 1) hC dX11_bends_61 rfl rfl (R_imul hC dX11_bends_62 (R_iload hC dX11_bends_63 rfl (R_iadd hC dX11_bends_65 (R_iload hC dX11_bends_66 rfl ?_)))))))
          refine R_sI hC dX11_bends_68 L_m_to (6 * s + j) (n6 s j) (by omega) (by decide) (R_iinc hC dX11_bends_69 rfl (inc1 _) (by decide) rfl (R_goto hC 3 dX11_bends_72 (by decide) ?_))
          first | (have z := tst0 h16; exact ih τ hg (stay (Bool.eq_false_iff.mpr z))) | (have z := toF (tst h16) ((e1 (hb j (tst h16))).mp h35); exact ih _ (hg.tr (GL.f _ _)) z) | (have z := toT (tst h16) (mt (e1 (hb j (tst h16))).mpr h35); exact ih _ (hg.tr (GL.t _ _)) z)
        · refine R_aload_n (i := 0) hC dX11_bends_38 rfl rfl (R_gR hC dX11_bends_39 fl_X11_41 L_M rfl (R_bipush (v := 6) hC dX11_bends_42 (by decide) (R_iload_n (i := 1) hC dX11_bends_44 rfl rfl (R_imul hC dX11_bends_45 (R_iload hC dX11_bends_46 rfl (R_iadd hC dX11_bends_48 (R_iload hC dX11_bends_49 rfl ?_)))))))
          refine R_sI hC dX11_bends_51 L_m_from (6 * s + j) (n6 s j) (by omega) (by decide) (R_goto hC 69 dX11_bends_52 (by decide) (R_iinc hC dX11_bends_69 rfl (inc1 _) (by decide) rfl (R_goto hC 3 dX11_bends_72 (by decide) ?_)))
          first | (have z := tst0 h16; exact ih τ hg (stay (Bool.eq_false_iff.mpr z))) | (have z := toF (tst h16) ((e1 (hb j (tst h16))).mp h35); exact ih _ (hg.tr (GL.f _ _)) z) | (have z := toT (tst h16) (mt (e1 (hb j (tst h16))).mpr h35); exact ih _ (hg.tr (GL.t _ _)) z)
      · refine R_goto hC 69 dX11_bends_19 (by decide) (R_iinc hC dX11_bends_69 rfl (inc1 _) (by decide) rfl (R_goto hC 3 dX11_bends_72 (by decide) ?_))
        first | (have z := tst0 h16; exact ih τ hg (stay (Bool.eq_false_iff.mpr z))) | (have z := toF (tst h16) ((e1 (hb j (tst h16))).mp h35); exact ih _ (hg.tr (GL.f _ _)) z) | (have z := toT (tst h16) (mt (e1 (hb j (tst h16))).mpr h35); exact ih _ (hg.tr (GL.t _ _)) z)
  refine R_iconst (v := 0) hC dX11_bends_0 (by decide) (R_istore hC dX11_bends_1 (by decide) rfl ?_)
  exact lp 0 (by decide) σ (GL.rf σ) (fun r hr => by unfold bnj; simp only [Nat.not_lt_zero, if_false]; exact ha r hr)
