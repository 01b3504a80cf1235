/-! ===== the class's search for a tree ===== -/
theorem is_new : ∀ a, a < 64 → ∀ b, b < 64 → nI b ^^^ nI a = nI (b ^^^ a) ∧ b ^^^ a < 64 := by decide +kernel
theorem c_isNew (a e : Nat) (ha : a < 64) (he : e < 64) (w : aW) : Mt mX9_isNew 0 0 0 [.int (nI a), .int (nI e)] w (QI (b2i (a &&& e = a ∧ a ≤ e ^^^ a)) w) := by
  refine Mt.of MI_X9_isNew (Nat.le_of_ble_eq_true rfl) (fun X hC hR hT => ?_)
  have m1 := and_not a ha e he
  have m2 := and_sub a ha e he
  obtain ⟨x1, x2⟩ := is_new a ha e he
  have z63 : a &&& (63 - e) < 64 := Nat.lt_of_le_of_lt Nat.and_le_left ha
  have i0 := nI_eq (a := a &&& (63 - e)) (b := 0) (by omega) (by decide)
  have il := nI_ltI (a := e ^^^ a) (b := a) (by omega) (by omega)
  refine R_iload_n (i := 0) hC dX9_isNew_0 rfl rfl (R_iload_n (i := 1) hC dX9_isNew_1 rfl rfl (R_iconst (v := (-1)) hC dX9_isNew_2 (by decide) (R_ixor hC dX9_isNew_3 (R_iand hC dX9_isNew_4 ?_))))
  refine R_top (y := nI (a &&& (63 - e))) (m1) ?_
  refine R_if_ne hC 19 dX9_isNew_5 (by decide) (fun h5 => ?_) (fun h5 => ?_)
  · refine R_iconst (v := 0) hC dX9_isNew_19 (by decide) ?_
    exact R_zret hC hT dX9_isNew_20 rfl (by decide) ⟨by first | (rw [b2i_f (fun z => h5 (i0.mpr (m2.mpr z.1)))]; done) | (rw [b2i_f (fun z => by have := il.mp h12; omega)]; done) | (rw [b2i_t ⟨m2.mp (i0.mp h5), by have := mt il.mpr h12; omega⟩]; done), rfl⟩
  · refine R_iload_n (i := 0) hC dX9_isNew_8 rfl rfl (R_iload_n (i := 1) hC dX9_isNew_9 rfl rfl (R_iload_n (i := 0) hC dX9_isNew_10 rfl rfl (R_ixor hC dX9_isNew_11 ?_)))
    refine R_top (y := nI (e ^^^ a)) (x1) ?_
    refine R_icmp_gt hC 19 dX9_isNew_12 (by decide) (fun h12 => ?_) (fun h12 => ?_)
    · refine R_iconst (v := 0) hC dX9_isNew_19 (by decide) ?_
      exact R_zret hC hT dX9_isNew_20 rfl (by decide) ⟨by first | (rw [b2i_f (fun z => h5 (i0.mpr (m2.mpr z.1)))]; done) | (rw [b2i_f (fun z => by have := il.mp h12; omega)]; done) | (rw [b2i_t ⟨m2.mp (i0.mp h5), by have := mt il.mpr h12; omega⟩]; done), rfl⟩
    · refine R_iconst (v := 1) hC dX9_isNew_15 (by decide) (R_goto hC 20 dX9_isNew_16 (by decide) ?_)
      exact R_zret hC hT dX9_isNew_20 rfl (by decide) ⟨by first | (rw [b2i_f (fun z => h5 (i0.mpr (m2.mpr z.1)))]; done) | (rw [b2i_f (fun z => by have := il.mp h12; omega)]; done) | (rw [b2i_t ⟨m2.mp (i0.mp h5), by have := mt il.mpr h12; omega⟩]; done), rfl⟩
noncomputable def hW (T : tb) (k row : Nat) (t : tre) (node set way : Nat) : Option tre := cnd (WaysP T (extT t row node set way) (row + 1)) (grwC T k (row + 1) (extT t row node set way)) none
noncomputable def hS (T : tb) (k row : Nat) (t : tre) (node set : Nat) : Option tre := cnd (set &&& endM t node row = set ∧ set ≤ endM t node row ^^^ set) (fs (hW T k row t node set) 0 (if endM t node row = 0 then 1 else 2)) none
noncomputable def hN (T : tb) (k row : Nat) (t : tre) (node : Nat) : Option tre := fs (hS T k row t node) 0 (endM t node row + 1)
theorem grwC_s (T : tb) (k row : Nat) (t : tre) : grwC T (k + 1) row t = fs (hN T k row t) 0 (row + 1) := by rw [grwC]; rfl
def CQ (σ : sg) (x : aW) (b : Nat) (T : tb) (o : Option tre) (row : Nat) (t : tre) : Option Value → aW → Prop := fun r w => ∃ τ, w = wd τ x ∧ AE [b + 3, b + 4] σ τ ∧ r = some (.int (b2i (∃ t', o = some t'))) ∧ (∀ t', o = some t' → AC τ b t' T.1) ∧ (o = none → AC τ b t row)
theorem CQ.y {σ τ : sg} {x : aW} {b : Nat} {T : tb} {o : Option tre} {row : Nat} {t t' : tre} (hg : AE [b + 3, b + 4] σ τ) (e : o = some t') (h : AC τ b t' T.1) : CQ σ x b T o row t (some (.int 1)) (wd τ x) := ⟨τ, rfl, hg, by rw [b2i_t ⟨t', e⟩], fun u z => (by rw [e] at z; cases z; exact h), fun z => (by rw [e] at z; cases z)⟩
theorem CQ.n {σ τ : sg} {x : aW} {b : Nat} {T : tb} {o : Option tre} {row : Nat} {t : tre} (hg : AE [b + 3, b + 4] σ τ) (e : o = none) (h : AC τ b t row) : CQ σ x b T o row t (some (.int 0)) (wd τ x) := ⟨τ, rfl, hg, by rw [b2i_f (fun ⟨u, z⟩ => (by rw [e] at z; cases z))], fun u z => (by rw [e] at z; cases z), fun _ => h⟩
theorem CT.a34 {σ τ : sg} {b : Nat} {T : tb} (h : CT σ (b + 1) T) (e : AE [b + 3, b + 4] σ τ) : CT τ (b + 1) T := h.ae e (by simp) (by simp)
theorem AC.ext {σ : sg} {b row node set way : Nat} {t : tre} (h : AC σ b (bnd set node (row + 1) t) row) : AC (sA (sA σ (b + 3) (upd (σ.2.2 (b + 3)) row (nI (if way = 0 then node else row + 1)))) (b + 4) (upd (σ.2.2 (b + 4)) row (nI (if way = 0 then row + 1 else node)))) b (extT t row node set way) (row + 1) := by
  intro r hr
  have e1 : ∀ f : Nat → Int32, ∀ g : Nat → Int32, (sA (sA σ (b + 3) f) (b + 4) g).2.2 (b + 3) = f := fun f g => by rw [sA_ne (by omega), sA_eq]
  have e2 : ∀ f : Nat → Int32, ∀ g : Nat → Int32, (sA (sA σ (b + 3) f) (b + 4) g).2.2 (b + 4) = g := fun f g => by rw [sA_eq]
  rw [e1, e2]
  unfold extT upd
  simp only
  rcases (by omega : r < row ∨ r = row) with z | rfl
  · rw [if_pos z, if_pos z, if_neg (by omega), if_neg (by omega)]
    exact h r z
  · rw [if_pos rfl, if_pos rfl, if_neg (Nat.lt_irrefl _), if_neg (Nat.lt_irrefl _), if_pos rfl, if_pos rfl]
    exact ⟨rfl, rfl⟩
theorem c_growBy {x : aW} {T : tb} {b k row : Nat} (hD : DL b) (h6 : T.1 ≤ 6) (ok : ∀ i j, i < T.1 → j < T.2.1 → sml (T.2.2 i j)) (hk : row + (k + 1) = T.1)
    (ih : ∀ (σ : sg) (t : tre), CT σ (b + 1) T → AC σ b t (row + 1) → nodOK t (row + 1) → Mt mX9_grow (2 * k + 2) 0 0 [.ref b, .int (nI (row + 1))] (wd σ x) (CQ σ x b T (grwC T k (row + 1) t) (row + 1) t))
    {σ : sg} {t : tre} {node set way : Nat} (hT0 : CT σ (b + 1) T) (ha : AC σ b t row) (hok : nodOK t row) (hnode : node ≤ row) (hsub : set &&& endM t node row = set) (hway : way < 2) :
    Mt mX9_growBy (2 * k + 3) 0 0 [.ref b, .int (nI row), .int (nI node), .int (nI set), .int (nI way)] (wd σ x) (CQ σ x b T (hW T k row t node set way) row t) := by
  refine Mt.of MI_X9_growBy (Nat.le_of_ble_eq_true rfl) (fun X hC hR hT => ?_)
  have ok6 : ∀ r, r < row → t.1 r ≤ 6 ∧ t.2 r ≤ 6 := fun r hr => by have := hok r hr; omega
  have p32 : 2 ^ row ≤ 32 := Nat.pow_le_pow_right (n := 2) (by decide) (show row ≤ 5 by omega)
  have hsb := sub_b hsub
  have set64 : set < 64 := by
    have := endM_lt t node row
    have h2 : set &&& endM t node row ≤ endM t node row := Nat.and_le_right
    omega
  have m3 : b + 3 ∈ [b + 3, b + 4] := List.mem_cons_self
  have m4 : b + 4 ∈ [b + 3, b + 4] := List.mem_cons_of_mem _ List.mem_cons_self
  have oke : nodOK (extT t row node set way) (row + 1) := ext_ok hok hnode hsub
  have b6 : ∀ r, r < row → (bnd set node (row + 1) t).1 r ≤ 6 ∧ (bnd set node (row + 1) t).2 r ≤ 6 := fun r hr => by
    have := ok6 r hr
    unfold bnd
    simp only
    constructor
    · split <;> omega
    · split <;> omega
  have go : ∀ τ, AE [b + 3, b + 4] σ τ → AC τ b (extT t row node set way) (row + 1) → Rw mX9_growBy X 47 [some (.ref b), some (.int (nI row)), some (.int (nI node)), some (.int (nI set)), some (.int (nI way)), some (.int (nI (row + 1)))] [] (wd τ x) 0 0 := by
    intro τ hg hA
    have next : hW T k row t node set way = none → ∀ υ, AE [b + 3, b + 4] τ υ → AC υ b (extT t row node set way) (row + 1) → Rw mX9_growBy X 67 [some (.ref b), some (.int (nI row)), some (.int (nI node)), some (.int (nI set)), some (.int (nI way)), some (.int (nI (row + 1)))] [] (wd υ x) 0 0 := by
      intro z υ hg2 hA2
      have hA3 : AC υ b (bnd set node (row + 1) t) row := (hA2.cut (by omega)).to (ext_bnd (way := way))
      refine R_aload_n (i := 0) hC dX9_growBy_67 rfl rfl (R_iload_n (i := 3) hC dX9_growBy_68 rfl rfl (R_iload hC dX9_growBy_69 rfl (R_iload_n (i := 2) hC dX9_growBy_71 rfl rfl ?_)))
      refine R_V3g hC hR dX9_growBy_72 MV_X9_moveEnds ml_X9_57 hD.1 rfl (c_moveEnds (n := row) (set := set) (node := row + 1) (other := node) hD hA3 (by omega) (by omega) set64 (fun r z => (hsb r z).1) b6) (by first | decide | omega) ⟨by decide, by decide⟩ (Nat.le_of_ble_eq_true rfl) (fun r w1 hq => ?_)
      obtain ⟨rfl, φ, rfl, hg4, hA4⟩ := hq
      refine R_iconst (v := 0) hC dX9_growBy_75 (by decide) ?_
      exact R_zret hC hT dX9_growBy_76 rfl (by decide) (CQ.n ((hg.tr hg2).tr hg4) z (hA4.to (fun r hr => ⟨((bnd_back hok hsb) r hr).1.symm, ((bnd_back hok hsb) r hr).2.symm⟩)))
    refine R_aload_n (i := 0) hC dX9_growBy_47 rfl rfl (R_iload_n (i := 1) hC dX9_growBy_48 rfl rfl ?_)
    refine R_V1i hC hR dX9_growBy_49 MV_X9_areWays ml_X9_61 hD.1 rfl (c_areWays hD (hT0.a34 hg) ok hA (by omega) oke) (by first | decide | omega) ⟨by decide, by decide⟩ (Nat.le_of_ble_eq_true rfl) ?_
    refine R_if_eq hC 67 dX9_growBy_52 (by decide) (fun h52 => ?_) (fun h52 => ?_)
    · first | exact next (by unfold hW; rw [cnd_f (b2i_0 h52)]) τ (AE.rf _ _) hA | (have z := op_nn (b2i_0 h62); exact next (by unfold hW; rw [cnd_t (b2i_ne h52)]; exact z) φ hg3 (q2 z))
    · refine R_aload_n (i := 0) hC dX9_growBy_55 rfl rfl (R_iload_n (i := 1) hC dX9_growBy_56 rfl rfl (R_iconst (v := 1) hC dX9_growBy_57 (by decide) (R_iadd hC dX9_growBy_58 ?_)))
      refine R_top (y := nI (row + 1)) (inc1 _) ?_
      refine R_V1g hC hR dX9_growBy_59 MV_X9_grow ml_X9_33 hD.1 rfl (ih τ (extT t row node set way) (hT0.a34 hg) hA oke) (by first | decide | omega) ⟨by decide, by decide⟩ (Nat.le_of_ble_eq_true rfl) (fun r w1 hq => ?_)
      obtain ⟨φ, rfl, hg3, rfl, q1, q2⟩ := hq
      refine R_if_eq hC 67 dX9_growBy_62 (by decide) (fun h62 => ?_) (fun h62 => ?_)
      · first | exact next (by unfold hW; rw [cnd_f (b2i_0 h52)]) τ (AE.rf _ _) hA | (have z := op_nn (b2i_0 h62); exact next (by unfold hW; rw [cnd_t (b2i_ne h52)]; exact z) φ hg3 (q2 z))
      · refine R_iconst (v := 1) hC dX9_growBy_65 (by decide) ?_
        exact R_zret hC hT dX9_growBy_66 rfl (by decide) (by obtain ⟨u, hu⟩ := b2i_ne h62; exact CQ.y (hg.tr hg3) (by unfold hW; rw [cnd_t (b2i_ne h52)]; exact hu) (q1 u hu))
  refine R_iload_n (i := 1) hC dX9_growBy_0 rfl rfl (R_iconst (v := 1) hC dX9_growBy_1 (by decide) (R_iadd hC dX9_growBy_2 ?_))
  refine R_top (y := nI (row + 1)) (inc1 _) ?_
  refine R_istore hC dX9_growBy_3 (by decide) rfl (R_aload_n (i := 0) hC dX9_growBy_5 rfl rfl (R_iload_n (i := 3) hC dX9_growBy_6 rfl rfl (R_iload_n (i := 2) hC dX9_growBy_7 rfl rfl (R_iload hC dX9_growBy_8 rfl ?_))))
  refine R_V3g hC hR dX9_growBy_10 MV_X9_moveEnds ml_X9_57 hD.1 rfl (c_moveEnds (n := row) (set := set) (node := node) (other := row + 1) hD ha (by omega) (by omega) set64 (fun r z => (hsb r z).1) ok6) (by first | decide | omega) ⟨by decide, by decide⟩ (Nat.le_of_ble_eq_true rfl) (fun r w1 hq => ?_)
  obtain ⟨rfl, τ, rfl, hg, hA⟩ := hq
  have hx := AC.ext (way := way) hA
  have hgx := (hg.a (f := upd (τ.2.2 (b + 3)) row (nI (if way = 0 then node else row + 1))) m3).a (f := upd (τ.2.2 (b + 4)) row (nI (if way = 0 then row + 1 else node))) m4
  have g2 := go _ hgx hx
  have n0 := nI_eq (a := way) (b := 0) (by omega) (by decide)
  refine R_aload_n (i := 0) hC dX9_growBy_13 rfl rfl (R_gR hC dX9_growBy_14 fl_X9_18 hD.1 rfl (R_iload_n (i := 1) hC dX9_growBy_17 rfl rfl (R_iload hC dX9_growBy_18 rfl ?_)))
  refine R_if_ne hC 27 dX9_growBy_20 (by decide) (fun h20 => ?_) (fun h20 => ?_)
  · refine R_iload hC dX9_growBy_27 rfl (R_sI hC dX9_growBy_29 hD.2.2.1 row rfl (by omega) (by decide) (R_aload_n (i := 0) hC dX9_growBy_30 rfl rfl (R_gR hC dX9_growBy_31 fl_X9_22 hD.1 rfl (R_iload_n (i := 1) hC dX9_growBy_34 rfl rfl (R_iload hC dX9_growBy_35 rfl ?_)))))
    refine R_if_ne hC 45 dX9_growBy_37 (by decide) (fun h37 => ?_) (fun h37 => ?_)
    · refine R_iload_n (i := 2) hC dX9_growBy_45 rfl rfl (R_sI hC dX9_growBy_46 hD.2.2.2 row rfl (by omega) (by decide) ?_)
      first | (rw [if_pos (n0.mp h20), if_pos (n0.mp h20)] at g2; rw [sA_ne (show b + 4 ≠ b + 3 by omega)]; exact g2) | (rw [if_neg (mt n0.mpr h20), if_neg (mt n0.mpr h20)] at g2; rw [sA_ne (show b + 4 ≠ b + 3 by omega)]; exact g2) | exact absurd h20 h37 | exact absurd h37 h20
    · refine R_iload hC dX9_growBy_40 rfl (R_goto hC 46 dX9_growBy_42 (by decide) (R_sI hC dX9_growBy_46 hD.2.2.2 row rfl (by omega) (by decide) ?_))
      first | (rw [if_pos (n0.mp h20), if_pos (n0.mp h20)] at g2; rw [sA_ne (show b + 4 ≠ b + 3 by omega)]; exact g2) | (rw [if_neg (mt n0.mpr h20), if_neg (mt n0.mpr h20)] at g2; rw [sA_ne (show b + 4 ≠ b + 3 by omega)]; exact g2) | exact absurd h20 h37 | exact absurd h37 h20
  · refine R_iload_n (i := 2) hC dX9_growBy_23 rfl rfl (R_goto hC 29 dX9_growBy_24 (by decide) (R_sI hC dX9_growBy_29 hD.2.2.1 row rfl (by omega) (by decide) (R_aload_n (i := 0) hC dX9_growBy_30 rfl rfl (R_gR hC dX9_growBy_31 fl_X9_22 hD.1 rfl (R_iload_n (i := 1) hC dX9_growBy_34 rfl rfl (R_iload hC dX9_growBy_35 rfl ?_))))))
    refine R_if_ne hC 45 dX9_growBy_37 (by decide) (fun h37 => ?_) (fun h37 => ?_)
    · refine R_iload_n (i := 2) hC dX9_growBy_45 rfl rfl (R_sI hC dX9_growBy_46 hD.2.2.2 row rfl (by omega) (by decide) ?_)
      first | (rw [if_pos (n0.mp h20), if_pos (n0.mp h20)] at g2; rw [sA_ne (show b + 4 ≠ b + 3 by omega)]; exact g2) | (rw [if_neg (mt n0.mpr h20), if_neg (mt n0.mpr h20)] at g2; rw [sA_ne (show b + 4 ≠ b + 3 by omega)]; exact g2) | exact absurd h20 h37 | exact absurd h37 h20
    · refine R_iload hC dX9_growBy_40 rfl (R_goto hC 46 dX9_growBy_42 (by decide) (R_sI hC dX9_growBy_46 hD.2.2.2 row rfl (by omega) (by decide) ?_))
      first | (rw [if_pos (n0.mp h20), if_pos (n0.mp h20)] at g2; rw [sA_ne (show b + 4 ≠ b + 3 by omega)]; exact g2) | (rw [if_neg (mt n0.mpr h20), if_neg (mt n0.mpr h20)] at g2; rw [sA_ne (show b + 4 ≠ b + 3 by omega)]; exact g2) | exact absurd h20 h37 | exact absurd h37 h20
theorem c_grow {x : aW} {T : tb} {b : Nat} (hD : DL b) (h6 : T.1 ≤ 6) (ok : ∀ i j, i < T.1 → j < T.2.1 → sml (T.2.2 i j)) : ∀ (k row : Nat) (σ : sg) (t : tre), row + k = T.1 → CT σ (b + 1) T → AC σ b t row → nodOK t row → Mt mX9_grow (2 * k + 2) 0 0 [.ref b, .int (nI row)] (wd σ x) (CQ σ x b T (grwC T k row t) row t) := by
  intro k
  induction k with
  | zero =>
    intro row σ t hk hT0 ha hok
    refine Mt.of MI_X9_grow (Nat.le_of_ble_eq_true rfl) (fun X hC hR hT => ?_)
    have e36 : σ.1 (b + 1) 0 = nI row := by rw [hT0.1, ← hk]; rfl
    refine R_iload_n (i := 1) hC dX9_grow_0 rfl rfl (R_aload_n (i := 0) hC dX9_grow_1 rfl rfl (R_gR hC dX9_grow_2 fl_X9_12 hD.1 rfl (R_gI hC dX9_grow_5 fl_X9_41 hD.2.1.1 rfl ?_)))
    refine R_top (y := nI row) (e36) ?_
    refine R_icmp_ge hC 17 dX9_grow_8 (by decide) (fun _ => ?_) (fun h => absurd (Int32.le_refl _) h)
    refine R_iconst (v := 1) hC dX9_grow_17 (by decide) ?_
    exact R_zret hC hT dX9_grow_18 rfl (by decide) (CQ.y (AE.rf _ σ) (t' := t) rfl (by rw [← hk]; exact ha))
  | succ k ih =>
    intro row σ t hk hT0 ha hok
    refine Mt.of MI_X9_grow (Nat.le_of_ble_eq_true rfl) (fun X hC hR hT => ?_)
    have hlt : row < T.1 := by omega
    have ok6 : ∀ r, r < row → t.1 r ≤ 6 ∧ t.2 r ≤ 6 := fun r hr => by have := hok r hr; omega
    have p32 : 2 ^ row ≤ 32 := Nat.pow_le_pow_right (n := 2) (by decide) (show row ≤ 5 by omega)
    have ih' : ∀ (σ : sg) (t : tre), CT σ (b + 1) T → AC σ b t (row + 1) → nodOK t (row + 1) → Mt mX9_grow (2 * k + 2) 0 0 [.ref b, .int (nI (row + 1))] (wd σ x) (CQ σ x b T (grwC T k (row + 1) t) (row + 1) t) := fun σ t a b c => ih (row + 1) σ t (by omega) a b c
    have lpN : ∀ node, node ≤ row + 1 → ∀ τ l3 l4, AE [b + 3, b + 4] σ τ → AC τ b t row → grwC T (k + 1) row t = fs (hN T k row t) node (row + 1 - node) → Rw mX9_grow X 21 [some (.ref b), some (.int (nI row)), some (.int (nI node)), l3, l4] [] (wd τ x) 0 0 := by
      refine up_loop (row + 1) ?_ ?_
      · intro τ l3 l4 hg hA e
        rw [fs_0 (Nat.le_refl _)] at e
        refine R_iload_n (i := 2) hC dX9_grow_21 rfl rfl (R_iload_n (i := 1) hC dX9_grow_22 rfl rfl ?_)
        refine R_icmp_gt hC 100 dX9_grow_23 (by decide) (fun _ => ?_) (fun h => absurd (nI_lt (by omega) (by omega)) h)
        refine R_iconst (v := 0) hC dX9_grow_100 (by decide) ?_
        exact R_zret hC hT dX9_grow_101 rfl (by decide) (CQ.n hg e hA)
      · intro node hnode ihN τ l3 l4 hg hA e
        generalize hen : endM t node row = en
        have en64 : en < 2 ^ row := by rw [← hen]; exact endM_lt t node row
        have lpS : ∀ set, set ≤ en + 1 → ∀ τ, AE [b + 3, b + 4] σ τ → AC τ b t row → fs (hN T k row t) node (row + 1 - node) = (match fs (hS T k row t node) set (en + 1 - set) with | some v => some v | none => fs (hN T k row t) (node + 1) (row + 1 - (node + 1))) → Rw mX9_grow X 36 [some (.ref b), some (.int (nI row)), some (.int (nI node)), some (.int (nI en)), some (.int (nI set))] [] (wd τ x) 0 0 := by
          refine up_loop (en + 1) ?_ ?_
          · intro τ hg hA e2
            rw [fs_0 (Nat.le_refl _)] at e2
            refine R_iload hC dX9_grow_36 rfl (R_bipush (v := 64) hC dX9_grow_38 (by decide) ?_)
            refine R_icmp_ge hC 94 dX9_grow_40 (by decide) (fun h => absurd h (nI_ge (show en + 1 < 64 by omega) (by decide))) (fun _ => ?_)
            refine R_iload hC dX9_grow_43 rfl (R_iload_n (i := 3) hC dX9_grow_45 rfl rfl ?_)
            refine R_icmp_gt hC 94 dX9_grow_46 (by decide) (fun _ => ?_) (fun h => absurd (nI_lt (by omega) (by omega)) h)
            refine R_iinc hC dX9_grow_94 rfl (inc1 _) (by decide) rfl (R_goto hC 21 dX9_grow_97 (by decide) ?_)
            exact ihN τ _ _ hg hA (e.trans e2)
          · intro set hset ihS τ hg hA e2
            have skip : hS T k row t node set = none → ∀ τ, AE [b + 3, b + 4] σ τ → AC τ b t row → Rw mX9_grow X 88 [some (.ref b), some (.int (nI row)), some (.int (nI node)), some (.int (nI en)), some (.int (nI set))] [] (wd τ x) 0 0 := by
              intro z τ hg hA
              have z2 := ihS τ hg hA (by rw [e2, fs_n (by omega) z])
              refine R_iinc hC dX9_grow_88 rfl (inc1 _) (by decide) rfl (R_goto hC 36 dX9_grow_91 (by decide) ?_)
              exact z2
            have done : ∀ u, hS T k row t node set = some u → ∀ τ, AE [b + 3, b + 4] σ τ → AC τ b u T.1 → Rw mX9_grow X 86 [some (.ref b), some (.int (nI row)), some (.int (nI node)), some (.int (nI en)), some (.int (nI set))] [] (wd τ x) 0 0 := by
              intro u z τ hg hA
              refine R_iconst (v := 1) hC dX9_grow_86 (by decide) ?_
              exact R_zret hC hT dX9_grow_87 rfl (by decide) (CQ.y hg (by rw [e, e2, fs_y (by omega) z]) hA)
            have e0 := nI_eq (a := en) (b := 0) (by omega) (by decide)
            have unf : ∀ (hnew : set &&& en = set ∧ set ≤ en ^^^ set), hS T k row t node set = fs (hW T k row t node set) 0 (if en = 0 then 1 else 2) := fun hnew => by unfold hS; rw [hen, cnd_t hnew]
            refine R_iload hC dX9_grow_36 rfl (R_bipush (v := 64) hC dX9_grow_38 (by decide) ?_)
            refine R_icmp_ge hC 94 dX9_grow_40 (by decide) (fun h => absurd h (nI_ge (show set < 64 by omega) (by decide))) (fun _ => ?_)
            refine R_iload hC dX9_grow_43 rfl (R_iload_n (i := 3) hC dX9_grow_45 rfl rfl ?_)
            refine R_icmp_gt hC 94 dX9_grow_46 (by decide) (fun h => absurd h (fun z => absurd ((nI_ltI (by omega) (by omega)).mp z) (by omega))) (fun _ => ?_)
            refine R_iload hC dX9_grow_49 rfl (R_iload_n (i := 3) hC dX9_grow_51 rfl rfl ?_)
            refine R_S2i hC hR dX9_grow_52 MS_X9_isNew ml_X9_49 (c_isNew set en (by omega) (by omega) _) (by first | decide | omega) ⟨by decide, by decide⟩ (Nat.le_of_ble_eq_true rfl) ?_
            refine R_if_eq hC 88 dX9_grow_55 (by decide) (fun h55 => ?_) (fun h55 => ?_)
            · first
                | exact skip (by unfold hS; rw [hen, cnd_f (b2i_0 h55)]) τ hg hA
                | exact skip (by rw [unf hnew, if_pos (e0.mp h71), fs, z0, fs]) τ1 (hg.tr hg1) (q2 z0)
                | (have z1 := op_nn (b2i_0 h83); exact skip (by rw [unf hnew, if_neg (mt e0.mpr h71), fs, z0, fs, z1, fs]) τ2 ((hg.tr hg1).tr hg2) (q4 z1))
            · have hnew := b2i_ne h55
              have hsub : set &&& endM t node row = set := by rw [hen]; exact hnew.1
              refine R_aload_n (i := 0) hC dX9_grow_58 rfl rfl (R_iload_n (i := 1) hC dX9_grow_59 rfl rfl (R_iload_n (i := 2) hC dX9_grow_60 rfl rfl (R_iload hC dX9_grow_61 rfl (R_iconst (v := 0) hC dX9_grow_63 (by decide) ?_))))
              refine R_V4g hC hR dX9_grow_64 MV_X9_growBy ml_X9_53 hD.1 rfl (c_growBy (way := 0) hD h6 ok hk ih' (hT0.a34 hg) hA hok (by omega) hsub (by decide)) (by first | decide | omega) ⟨by decide, by decide⟩ (Nat.le_of_ble_eq_true rfl) (fun r w1 hq => ?_)
              obtain ⟨τ1, rfl, hg1, rfl, q1, q2⟩ := hq
              refine R_if_ne hC 86 dX9_grow_67 (by decide) (fun h67 => ?_) (fun h67 => ?_)
              · first
                  | (obtain ⟨u, hu⟩ := b2i_ne h67; exact done u (by rw [unf hnew]; split <;> (rw [fs, hu])) τ1 (hg.tr hg1) (q1 u hu))
                  | (obtain ⟨u, hu⟩ := b2i_ne h83; exact done u (by rw [unf hnew, if_neg (mt e0.mpr h71), fs, z0, fs, hu]) τ2 ((hg.tr hg1).tr hg2) (q3 u hu))
              · have z0 := op_nn (b2i_0 h67)
                refine R_iload_n (i := 3) hC dX9_grow_70 rfl rfl ?_
                refine R_if_eq hC 88 dX9_grow_71 (by decide) (fun h71 => ?_) (fun h71 => ?_)
                · first
                    | exact skip (by unfold hS; rw [hen, cnd_f (b2i_0 h55)]) τ hg hA
                    | exact skip (by rw [unf hnew, if_pos (e0.mp h71), fs, z0, fs]) τ1 (hg.tr hg1) (q2 z0)
                    | (have z1 := op_nn (b2i_0 h83); exact skip (by rw [unf hnew, if_neg (mt e0.mpr h71), fs, z0, fs, z1, fs]) τ2 ((hg.tr hg1).tr hg2) (q4 z1))
                · refine R_aload_n (i := 0) hC dX9_grow_74 rfl rfl (R_iload_n (i := 1) hC dX9_grow_75 rfl rfl (R_iload_n (i := 2) hC dX9_grow_76 rfl rfl (R_iload hC dX9_grow_77 rfl (R_iconst (v := 1) hC dX9_grow_79 (by decide) ?_))))
                  refine R_V4g hC hR dX9_grow_80 MV_X9_growBy ml_X9_53 hD.1 rfl (c_growBy (way := 1) hD h6 ok hk ih' ((hT0.a34 hg).a34 hg1) (q2 z0) hok (by omega) hsub (by decide)) (by first | decide | omega) ⟨by decide, by decide⟩ (Nat.le_of_ble_eq_true rfl) (fun r w1 hq => ?_)
                  obtain ⟨τ2, rfl, hg2, rfl, q3, q4⟩ := hq
                  refine R_if_eq hC 88 dX9_grow_83 (by decide) (fun h83 => ?_) (fun h83 => ?_)
                  · first
                      | exact skip (by unfold hS; rw [hen, cnd_f (b2i_0 h55)]) τ hg hA
                      | exact skip (by rw [unf hnew, if_pos (e0.mp h71), fs, z0, fs]) τ1 (hg.tr hg1) (q2 z0)
                      | (have z1 := op_nn (b2i_0 h83); exact skip (by rw [unf hnew, if_neg (mt e0.mpr h71), fs, z0, fs, z1, fs]) τ2 ((hg.tr hg1).tr hg2) (q4 z1))
                  · first
                      | (obtain ⟨u, hu⟩ := b2i_ne h67; exact done u (by rw [unf hnew]; split <;> (rw [fs, hu])) τ1 (hg.tr hg1) (q1 u hu))
                      | (obtain ⟨u, hu⟩ := b2i_ne h83; exact done u (by rw [unf hnew, if_neg (mt e0.mpr h71), fs, z0, fs, hu]) τ2 ((hg.tr hg1).tr hg2) (q3 u hu))
        refine R_iload_n (i := 2) hC dX9_grow_21 rfl rfl (R_iload_n (i := 1) hC dX9_grow_22 rfl rfl ?_)
        refine R_icmp_gt hC 100 dX9_grow_23 (by decide) (fun h => absurd h (fun z => absurd ((nI_ltI (by omega) (by omega)).mp z) (by omega))) (fun _ => ?_)
        refine R_aload_n (i := 0) hC dX9_grow_26 rfl rfl (R_iload_n (i := 2) hC dX9_grow_27 rfl rfl (R_iload_n (i := 1) hC dX9_grow_28 rfl rfl ?_))
        refine R_V2i hC hR dX9_grow_29 MV_X9_arcsAt ml_X9_45 hD.1 rfl (c_arcsAt (n := row) (node := node) (t := t) hD hA (by omega) (by omega) ok6) (by first | decide | omega) ⟨by decide, by decide⟩ (Nat.le_of_ble_eq_true rfl) ?_
        rw [hen]
        refine R_istore_n (i := 3) hC dX9_grow_32 rfl (by decide) rfl (R_iconst (v := 0) hC dX9_grow_33 (by decide) (R_istore hC dX9_grow_34 (by decide) rfl ?_))
        exact lpS 0 (Nat.zero_le _) τ hg hA (by rw [show row + 1 - node = (row + 1 - (node + 1)) + 1 by omega, fs, show hN T k row t node = fs (hS T k row t node) 0 (en + 1 - 0) by unfold hN; rw [hen]; rfl]; cases fs (hS T k row t node) 0 (en + 1 - 0) <;> rfl)
    refine R_iload_n (i := 1) hC dX9_grow_0 rfl rfl (R_aload_n (i := 0) hC dX9_grow_1 rfl rfl (R_gR hC dX9_grow_2 fl_X9_12 hD.1 rfl (R_gI hC dX9_grow_5 fl_X9_41 hD.2.1.1 rfl ?_)))
    refine R_top (y := nI T.1) (hT0.1) ?_
    refine R_icmp_ge hC 17 dX9_grow_8 (by decide) (fun h => absurd h (nI_ge hlt (by omega))) (fun _ => ?_)
    refine R_iload_n (i := 1) hC dX9_grow_11 rfl rfl (R_bipush (v := 6) hC dX9_grow_12 (by decide) ?_)
    refine R_icmp_lt hC 19 dX9_grow_14 (by decide) (fun _ => ?_) (fun h => absurd (nI_lt (show row < 6 by omega) (by decide)) h)
    refine R_iconst (v := 0) hC dX9_grow_19 (by decide) (R_istore_n (i := 2) hC dX9_grow_20 rfl (by decide) rfl ?_)
    exact lpN 0 (Nat.zero_le _) σ _ _ (AE.rf _ σ) ha (grwC_s T k row t)
