/-! ===== the model reads a table ===== -/
theorem chA_256 {t : tap} (ok : tpOK t) {p : Nat} (hp : p ≤ t.1) : (p < t.1 ∧ t.2 p < 256 ∧ chA t p = nI (t.2 p)) ∨ (p = t.1 ∧ chA t p = -1) := by
  rcases (by omega : p = t.1 ∨ p < t.1) with rfl | z
  · exact Or.inr ⟨rfl, chA_n (Nat.lt_irrefl _)⟩
  · exact Or.inl ⟨z, by have := ok.2 p z; omega, chA_y z⟩
/-- what the row holds of a table that is read as far as row, col -/
def RC (g : Nat → Int32) (row col wid : Nat) (f : Nat → Nat → Int32) : Prop := ∀ a b, ((a < row ∧ b < wid) ∨ (a = row ∧ b < col)) → g (6 * a + b) = f a b ∧ sml (f a b)
theorem RC.put {g : Nat → Int32} {row col wid : Nat} {f : Nat → Nat → Int32} (h : RC g row col wid f) (hc : col < 6) (hw : wid ≤ 6) {v : Int32} (hv : sml v) : RC (upd g (6 * row + col) v) row (col + 1) wid (fun a b => if a = row ∧ b = col then v else f a b) := by
  intro a b hab
  rw [upd6 hc (by omega)]
  by_cases z : a = row ∧ b = col
  · simp only [if_pos z]; exact ⟨trivial, hv⟩
  · simp only [if_neg z]
    exact h a b (by omega)
def PU (σ τ : sg) : Prop := τ.2.2 i_m_plan = σ.2.2 i_m_plan ∧ τ.2.2 i_m_planLong = σ.2.2 i_m_planLong
def RDU (σ τ : sg) (i : Nat) (F : Int32) : Prop := RDS σ τ i F ∧ PU σ τ
theorem RDU.of {σ τ υ : sg} {i j : Nat} {F G : Int32} (h : RDU σ τ i F) (h2 : RDS σ υ j G) (e : υ.2.2 = τ.2.2) : RDU σ υ j G := ⟨h2, by unfold PU; rw [e]; exact h.2⟩
theorem RDU.at {σ τ : sg} {i j : Nat} {F : Int32} (h : RDU σ τ i F) : RDU σ (sG τ i_M 3 (nI j)) j F := ⟨h.1.at, h.2⟩
theorem RDU.rd {σ τ : sg} {i : Nat} {F : Int32} (h : RDU σ τ i F) (g : Nat → Int32) : RDU σ (sA τ i_m_read g) i F := ⟨h.1.rd g, by unfold PU; rw [sA_ne (by decide), sA_ne (by decide)]; exact h.2⟩
/-- behind a row: a fault there, or it is full -/
def RP (t : tap) (res : Nat ⊕ tb) (row wid : Nat) (σ τ : sg) (p : Nat) (F : Int32) : Prop := RDU σ τ p F ∧ p ≤ t.1 ∧ ((F = nI p ∧ res = .inl p) ∨ (F = -1 ∧ (p < t.1 → ¬ t.2 p = 32 ∧ vsN (t.2 p) = none) ∧ ∃ n f, res = RT t p row n wid f ∧ ful row n wid ∧ 1 ≤ n ∧ n ≤ 6 ∧ τ.2.2 i_m_read 36 = nI (row + 1) ∧ τ.2.2 i_m_read 37 = nI n ∧ RC (τ.2.2 i_m_read) (row + 1) 0 n f))
theorem rt_bad {t : tap} {p row n wid : Nat} {f : Nat → Nat → Int32} (hp : p ≤ t.1) (hnb : p < t.1 → ¬ t.2 p = 32 ∧ vsN (t.2 p) = none) (hf : ¬ ful row n wid) : RT t p row n wid f = .inl p := by
  rcases (by omega : p = t.1 ∨ p < t.1) with rfl | z
  · rw [RT_end, cnd_f hf]
  · by_cases y : t.2 p = 47
    · exact RT_s0 z y (fun w => hf w.1)
    · exact RT_o z (hnb z).2 y (hnb z).1
theorem s_readRow {σ τ : sg} {x : aW} {t : tap} {i row wid : Nat} {f : Nat → Nat → Int32} {res : Nat ⊕ tb} (h : RDU σ τ i (-1)) (ht : HT σ t) (ok : tpOK t) (hi : i ≤ t.1) (hrow : row ≤ 5) (hwid : wid ≤ 6) (hw1 : 1 ≤ wid) (hw0 : row = 0 → wid = 6)
    (h36 : τ.2.2 i_m_read 36 = nI row) (h37 : ¬ row = 0 → τ.2.2 i_m_read 37 = nI wid) (hc : RC (τ.2.2 i_m_read) row 0 wid f) (hres : res = RT t i row 0 wid f) :
    Mt mX11_readRow 5 0 0 [.ref i_M] (wd τ x) (fun r w => r = none ∧ ∃ υ p F, w = wd υ x ∧ RP t res row wid σ υ p F) := by
  refine Mt.of MI_X11_readRow (Nat.le_of_ble_eq_true rfl) (fun X hC hR hT => ?_)
  have o1 := ok.1
  -- the end: the row's numbers
  have r0 := nI_eq (a := row) (b := 0) (by omega) (by decide)
  have fin : ∀ υ p n (l2 l3 : Option Value), RDU σ υ p (-1) → p ≤ t.1 → (p < t.1 → ¬ t.2 p = 32 ∧ vsN (t.2 p) = none) → ful row n wid → 1 ≤ n → n ≤ 6 → ∀ f, res = RT t p row n wid f → υ.2.2 i_m_read 36 = nI row → (¬ row = 0 → υ.2.2 i_m_read 37 = nI wid) → RC (υ.2.2 i_m_read) row n wid f → Rw mX11_readRow X 119 [some (.ref i_M), some (.int (nI n)), l2, l3] [] (wd υ x) 0 0 := by
    intro υ p n l2 l3 hυ hp hnb hful n1 n6 f hr g36 g37 gc
    have hrc : ∀ g : Nat → Int32, (∀ k, k < 36 → g k = υ.2.2 i_m_read k) → RC g (row + 1) 0 n f := fun g hg a b hab => by
      rw [hg _ (by omega)]
      refine gc a b ?_
      rcases hful with z | z <;> omega
    have cl : ∀ φ, RDU σ φ p (-1) → φ.2.2 i_m_read 36 = nI (row + 1) → φ.2.2 i_m_read 37 = nI n → (∀ k, k < 36 → φ.2.2 i_m_read k = υ.2.2 i_m_read k) → ∃ υ p F, wd φ x = wd υ x ∧ RP t res row wid σ υ p F := fun φ a1 a2 a3 a4 => ⟨φ, p, -1, rfl, a1, hp, Or.inr ⟨rfl, hnb, n, f, hr, hful, n1, n6, a2, a3, hrc _ a4⟩⟩
    refine R_aload_n (i := 0) hC dX11_readRow_119 rfl rfl (R_gR hC dX11_readRow_120 fl_X11_17 L_M rfl (R_bipush (v := 36) hC dX11_readRow_123 (by decide) (R_aI hC dX11_readRow_125 L_m_read 36 rfl (by decide) (by decide) ?_)))
    refine R_top (y := nI row) (g36) ?_
    refine R_if_ne hC 137 dX11_readRow_126 (by decide) (fun h126 => ?_) (fun h126 => ?_)
    · refine R_aload_n (i := 0) hC dX11_readRow_137 rfl rfl (R_gR hC dX11_readRow_138 fl_X11_17 L_M rfl (R_bipush (v := 36) hC dX11_readRow_141 (by decide) (R_dup2 hC dX11_readRow_143 rfl rfl (R_aI hC dX11_readRow_144 L_m_read 36 rfl (by decide) (by decide) ?_))))
      first | refine R_top (y := nI row) g36 ?_ | refine R_top (y := nI row) (by rw [sA_eq]; exact g36) ?_
      refine R_iconst (v := 1) hC dX11_readRow_145 (by decide) (R_iadd hC dX11_readRow_146 ?_)
      refine R_top (y := nI (row + 1)) (inc1 _) ?_
      refine R_sI hC dX11_readRow_147 L_m_read 36 rfl (by decide) (by decide) ?_
      exact R_vret hC hT dX11_readRow_148 rfl (by
      refine ⟨rfl, cl _ ?_ ?_ ?_ ?_⟩
      · first | exact hυ.rd _ | exact (hυ.rd _).rd _
      · rw [sA_eq]; unfold upd; rw [if_pos rfl]
      · first
          | (have wn : n = wid := (by rcases hful with z | z; exact absurd (r0.mpr z.1) h126; exact z.2); rw [sA_eq, wn]; exact g37 (fun z => h126 (r0.mpr z)))
          | (rw [sA_eq, sA_eq]; unfold upd; rw [if_neg (by decide), if_pos rfl])
      · intro k hk
        first
          | (rw [sA_eq]; unfold upd; rw [if_neg (by omega)]; done)
          | (rw [sA_eq, sA_eq]; unfold upd; rw [if_neg (by omega), if_neg (by omega)]))
    · refine R_aload_n (i := 0) hC dX11_readRow_129 rfl rfl (R_gR hC dX11_readRow_130 fl_X11_17 L_M rfl (R_bipush (v := 37) hC dX11_readRow_133 (by decide) (R_iload_n (i := 1) hC dX11_readRow_135 rfl rfl (R_sI hC dX11_readRow_136 L_m_read 37 rfl (by decide) (by decide) (R_aload_n (i := 0) hC dX11_readRow_137 rfl rfl (R_gR hC dX11_readRow_138 fl_X11_17 L_M rfl (R_bipush (v := 36) hC dX11_readRow_141 (by decide) ?_)))))))
      refine R_dup2 hC dX11_readRow_143 rfl rfl (R_aI hC dX11_readRow_144 L_m_read 36 rfl (by decide) (by decide) ?_)
      first | refine R_top (y := nI row) g36 ?_ | refine R_top (y := nI row) (by rw [sA_eq]; exact g36) ?_
      refine R_iconst (v := 1) hC dX11_readRow_145 (by decide) (R_iadd hC dX11_readRow_146 ?_)
      refine R_top (y := nI (row + 1)) (inc1 _) ?_
      refine R_sI hC dX11_readRow_147 L_m_read 36 rfl (by decide) (by decide) ?_
      exact R_vret hC hT dX11_readRow_148 rfl (by
      refine ⟨rfl, cl _ ?_ ?_ ?_ ?_⟩
      · first | exact hυ.rd _ | exact (hυ.rd _).rd _
      · rw [sA_eq]; unfold upd; rw [if_pos rfl]
      · first
          | (have wn : n = wid := (by rcases hful with z | z; exact absurd (r0.mpr z.1) h126; exact z.2); rw [sA_eq, wn]; exact g37 (fun z => h126 (r0.mpr z)))
          | (rw [sA_eq, sA_eq]; unfold upd; rw [if_neg (by decide), if_pos rfl])
      · intro k hk
        first
          | (rw [sA_eq]; unfold upd; rw [if_neg (by omega)]; done)
          | (rw [sA_eq, sA_eq]; unfold upd; rw [if_neg (by omega), if_neg (by omega)]))
  have bad : ∀ υ p (v1 : Int32) (l2 l3 : Option Value), RDU σ υ p (-1) → p ≤ t.1 → res = .inl p → υ.2.2 i_m_read 36 = nI row → Rw mX11_readRow X 115 [some (.ref i_M), some (.int v1), l2, l3] [] (wd υ x) 0 0 := by
    intro υ p v1 l2 l3 hυ hp hr g36
    refine R_aload_n (i := 0) hC dX11_readRow_115 rfl rfl ?_
    refine R_V0g hC hR dX11_readRow_116 MV_X11_fails ml_X11_125 L_M rfl (s_fails hυ.1) (by first | decide | omega) ⟨by decide, by decide⟩ (Nat.le_of_ble_eq_true rfl) (fun r w1 hq => ?_)
    obtain ⟨rfl, rfl, hf'⟩ := hq
    have hf : RDU σ (sG υ i_M 4 (nI p)) p (nI p) := ⟨hf', hυ.2⟩
    refine R_aload_n (i := 0) hC dX11_readRow_119 rfl rfl (R_gR hC dX11_readRow_120 fl_X11_17 L_M rfl (R_bipush (v := 36) hC dX11_readRow_123 (by decide) (R_aI hC dX11_readRow_125 L_m_read 36 rfl (by decide) (by decide) ?_)))
    refine R_top (y := nI row) (g36) ?_
    refine R_if_ne hC 137 dX11_readRow_126 (by decide) (fun h126 => ?_) (fun h126 => ?_)
    · refine R_aload_n (i := 0) hC dX11_readRow_137 rfl rfl (R_gR hC dX11_readRow_138 fl_X11_17 L_M rfl (R_bipush (v := 36) hC dX11_readRow_141 (by decide) (R_dup2 hC dX11_readRow_143 rfl rfl (R_aI hC dX11_readRow_144 L_m_read 36 rfl (by decide) (by decide) (R_iconst (v := 1) hC dX11_readRow_145 (by decide) (R_iadd hC dX11_readRow_146 (R_sI hC dX11_readRow_147 L_m_read 36 rfl (by decide) (by decide) ?_)))))))
      exact R_vret hC hT dX11_readRow_148 rfl (by first | exact ⟨rfl, _, p, nI p, rfl, hf.rd _, hp, Or.inl ⟨rfl, hr⟩⟩ | exact ⟨rfl, _, p, nI p, rfl, (hf.rd _).rd _, hp, Or.inl ⟨rfl, hr⟩⟩)
    · refine R_aload_n (i := 0) hC dX11_readRow_129 rfl rfl (R_gR hC dX11_readRow_130 fl_X11_17 L_M rfl (R_bipush (v := 37) hC dX11_readRow_133 (by decide) (R_iload_n (i := 1) hC dX11_readRow_135 rfl rfl (R_sI hC dX11_readRow_136 L_m_read 37 rfl (by decide) (by decide) (R_aload_n (i := 0) hC dX11_readRow_137 rfl rfl (R_gR hC dX11_readRow_138 fl_X11_17 L_M rfl (R_bipush (v := 36) hC dX11_readRow_141 (by decide) ?_)))))))
      refine R_dup2 hC dX11_readRow_143 rfl rfl (R_aI hC dX11_readRow_144 L_m_read 36 rfl (by decide) (by decide) (R_iconst (v := 1) hC dX11_readRow_145 (by decide) (R_iadd hC dX11_readRow_146 (R_sI hC dX11_readRow_147 L_m_read 36 rfl (by decide) (by decide) ?_))))
      exact R_vret hC hT dX11_readRow_148 rfl (by first | exact ⟨rfl, _, p, nI p, rfl, hf.rd _, hp, Or.inl ⟨rfl, hr⟩⟩ | exact ⟨rfl, _, p, nI p, rfl, (hf.rd _).rd _, hp, Or.inl ⟨rfl, hr⟩⟩)
  have end91 : ∀ n, n ≤ wid → ∀ υ p f, RDU σ υ p (-1) → p ≤ t.1 → (p < t.1 → ¬ t.2 p = 32 ∧ vsN (t.2 p) = none) → res = RT t p row n wid f → υ.2.2 i_m_read 36 = nI row → (¬ row = 0 → υ.2.2 i_m_read 37 = nI wid) → RC (υ.2.2 i_m_read) row n wid f → Rw mX11_readRow X 91 [some (.ref i_M), some (.int (nI n)), some (.int (-1)), some (.int (nI wid))] [] (wd υ x) 0 0 := by
    intro n hn υ p f hυ hp hnb hr g36 g37 gc
    have n0 := nI_eq (a := n) (b := 0) (by omega) (by decide)
    have rp : nI row ≤ 0 ↔ row = 0 := by rw [i32_ge, nI_toInt (by omega), Int32.toInt_zero]; omega
    have nw : nI wid ≤ nI n ↔ wid ≤ n := by rw [i32_ge, nI_toInt (by omega), nI_toInt (by omega)]; omega
    refine R_iload_n (i := 2) hC dX11_readRow_91 rfl rfl (R_iconst (v := (-1)) hC dX11_readRow_92 (by decide) ?_)
    refine R_icmp_ne hC 115 dX11_readRow_93 (by decide) (fun h => absurd rfl h) (fun _ => ?_)
    refine R_iload_n (i := 1) hC dX11_readRow_96 rfl rfl ?_
    refine R_if_eq hC 115 dX11_readRow_97 (by decide) (fun h97 => ?_) (fun h97 => ?_)
    · first
        | (exact bad υ p _ _ _ hυ hp (by rw [hr, rt_bad hp hnb (by have := n0.mp h97; unfold ful; omega)]) g36)
        | (exact bad υ p _ _ _ hυ hp (by rw [hr, rt_bad hp hnb (by have z1 := mt rp.mpr h107; have z2 := mt nw.mpr h112; unfold ful; omega)]) g36)
    · refine R_aload_n (i := 0) hC dX11_readRow_100 rfl rfl (R_gR hC dX11_readRow_101 fl_X11_17 L_M rfl (R_bipush (v := 36) hC dX11_readRow_104 (by decide) (R_aI hC dX11_readRow_106 L_m_read 36 rfl (by decide) (by decide) ?_)))
      refine R_top (y := nI row) (g36) ?_
      refine R_if_le hC 119 dX11_readRow_107 (by decide) (fun h107 => ?_) (fun h107 => ?_)
      · first
          | exact fin υ p n _ _ hυ hp hnb (by have z1 := rp.mp h107; have z2 := mt n0.mpr h97; unfold ful; omega) (by have z2 := mt n0.mpr h97; omega) (by omega) f hr g36 g37 gc
          | exact fin υ p n _ _ hυ hp hnb (by have z1 := mt rp.mpr h107; have z2 := nw.mp h112; unfold ful; omega) (by have z2 := mt n0.mpr h97; omega) (by omega) f hr g36 g37 gc
      · refine R_iload_n (i := 1) hC dX11_readRow_110 rfl rfl (R_iload_n (i := 3) hC dX11_readRow_111 rfl rfl ?_)
        refine R_icmp_ge hC 119 dX11_readRow_112 (by decide) (fun h112 => ?_) (fun h112 => ?_)
        · first
            | exact fin υ p n _ _ hυ hp hnb (by have z1 := rp.mp h107; have z2 := mt n0.mpr h97; unfold ful; omega) (by have z2 := mt n0.mpr h97; omega) (by omega) f hr g36 g37 gc
            | exact fin υ p n _ _ hυ hp hnb (by have z1 := mt rp.mpr h107; have z2 := nw.mp h112; unfold ful; omega) (by have z2 := mt n0.mpr h97; omega) (by omega) f hr g36 g37 gc
        · first
            | (exact bad υ p _ _ _ hυ hp (by rw [hr, rt_bad hp hnb (by have := n0.mp h97; unfold ful; omega)]) g36)
            | (exact bad υ p _ _ _ hυ hp (by rw [hr, rt_bad hp hnb (by have z1 := mt rp.mpr h107; have z2 := mt nw.mpr h112; unfold ful; omega)]) g36)
  have lp : ∀ n, n ≤ wid → ∀ υ p f, RDU σ υ p (-1) → p ≤ t.1 → (p < t.1 → ¬ t.2 p = 32) → res = RT t p row n wid f → υ.2.2 i_m_read 36 = nI row → (¬ row = 0 → υ.2.2 i_m_read 37 = nI wid) → RC (υ.2.2 i_m_read) row n wid f → Rw mX11_readRow X 35 [some (.ref i_M), some (.int (nI n)), some (.int (o2i (spt 3 (chA t p)))), some (.int (nI wid))] [] (wd υ x) 0 0 := by
    refine up_loop wid ?_ ?_
    · intro υ p f hυ hp hnb hr g36 g37 gc
      rcases chA_256 ok hp with ⟨z1, z2, z3⟩ | ⟨z1, z3⟩
      · rw [z3]
        rcases vs_spt (t.2 p) z2 with ⟨v1, v2⟩ | ⟨v1, v2, v3⟩
        · rw [v2]
          have z := end91 wid (Nat.le_refl _) υ p f hυ hp (fun y => ⟨hnb y, v1⟩) hr g36 g37 gc
          refine R_iload_n (i := 2) hC dX11_readRow_35 rfl rfl (R_iconst (v := (-1)) hC dX11_readRow_36 (by decide) ?_)
          refine R_icmp_eq hC 91 dX11_readRow_37 (by decide) (fun _ => ?_) (fun h => absurd rfl h)
          exact z
        · refine R_iload_n (i := 2) hC dX11_readRow_35 rfl rfl (R_iconst (v := (-1)) hC dX11_readRow_36 (by decide) ?_)
          refine R_icmp_eq hC 91 dX11_readRow_37 (by decide) (fun h => absurd h v2) (fun _ => ?_)
          refine R_iload_n (i := 1) hC dX11_readRow_40 rfl rfl (R_iload_n (i := 3) hC dX11_readRow_41 rfl rfl ?_)
          refine R_icmp_ge hC 91 dX11_readRow_42 (by decide) (fun _ => ?_) (fun h => absurd (Int32.le_refl _) h)
          refine R_iload_n (i := 2) hC dX11_readRow_91 rfl rfl (R_iconst (v := (-1)) hC dX11_readRow_92 (by decide) ?_)
          refine R_icmp_ne hC 115 dX11_readRow_93 (by decide) (fun _ => ?_) (fun h => absurd h v2)
          exact bad υ p _ _ _ hυ hp (by rw [hr, RT_v0 z1 v1 rfl]) g36
      · rw [z3, vs_m1]
        have z := end91 wid (Nat.le_refl _) υ p f hυ hp (fun y => absurd y (by omega)) hr g36 g37 gc
        refine R_iload_n (i := 2) hC dX11_readRow_35 rfl rfl (R_iconst (v := (-1)) hC dX11_readRow_36 (by decide) ?_)
        refine R_icmp_eq hC 91 dX11_readRow_37 (by decide) (fun _ => ?_) (fun h => absurd rfl h)
        exact z
    · intro n hn ih υ p f hυ hp hnb hr g36 g37 gc
      rcases chA_256 ok hp with ⟨z1, z2, z3⟩ | ⟨z1, z3⟩
      · rw [z3]
        rcases vs_spt (t.2 p) z2 with ⟨v1, v2⟩ | ⟨v1, v2, v3⟩
        · rw [v2]
          have z := end91 n (by omega) υ p f hυ hp (fun y => ⟨hnb y, v1⟩) hr g36 g37 gc
          refine R_iload_n (i := 2) hC dX11_readRow_35 rfl rfl (R_iconst (v := (-1)) hC dX11_readRow_36 (by decide) ?_)
          refine R_icmp_eq hC 91 dX11_readRow_37 (by decide) (fun _ => ?_) (fun h => absurd rfl h)
          exact z
        · obtain ⟨k1, k2, k3⟩ := SK_ok t (p + 1) (by omega)
          refine R_iload_n (i := 2) hC dX11_readRow_35 rfl rfl (R_iconst (v := (-1)) hC dX11_readRow_36 (by decide) ?_)
          refine R_icmp_eq hC 91 dX11_readRow_37 (by decide) (fun h => absurd h v2) (fun _ => ?_)
          refine R_iload_n (i := 1) hC dX11_readRow_40 rfl rfl (R_iload_n (i := 3) hC dX11_readRow_41 rfl rfl ?_)
          refine R_icmp_ge hC 91 dX11_readRow_42 (by decide) (fun h => absurd h (nI_ge hn (by omega))) (fun _ => ?_)
          refine R_aload_n (i := 0) hC dX11_readRow_45 rfl rfl (R_gR hC dX11_readRow_46 fl_X11_17 L_M rfl (R_bipush (v := 6) hC dX11_readRow_49 (by decide) (R_aload_n (i := 0) hC dX11_readRow_51 rfl rfl (R_gR hC dX11_readRow_52 fl_X11_17 L_M rfl (R_bipush (v := 36) hC dX11_readRow_55 (by decide) (R_aI hC dX11_readRow_57 L_m_read 36 rfl (by decide) (by decide) ?_))))))
          refine R_top (y := nI row) (g36) ?_
          refine R_imul hC dX11_readRow_58 (R_iload_n (i := 1) hC dX11_readRow_59 rfl rfl (R_iadd hC dX11_readRow_60 (R_iload_n (i := 2) hC dX11_readRow_61 rfl rfl (R_iconst (v := 1) hC dX11_readRow_62 (by decide) (R_isub hC dX11_readRow_63 (R_sI hC dX11_readRow_64 L_m_read (6 * row + n) (n6 row n) (by omega) (by decide) (R_iinc hC dX11_readRow_65 rfl (inc1 _) (by decide) rfl ?_)))))))
          refine R_aload_n (i := 0) hC dX11_readRow_68 rfl rfl (R_dup hC dX11_readRow_69 rfl (R_gI hC dX11_readRow_70 fl_X11_98 L_M rfl ?_))
          refine R_top (y := nI p) (hυ.1.2.2.2.1) ?_
          refine R_iconst (v := 1) hC dX11_readRow_73 (by decide) (R_iadd hC dX11_readRow_74 ?_)
          refine R_top (y := nI (p + 1)) (inc1 _) ?_
          refine R_pI hC dX11_readRow_75 fl_X11_98 L_M rfl (R_ldS hC 3 (by decide) rfl dX11_readRow_78 (R_aload_n (i := 0) hC dX11_readRow_80 rfl rfl ?_))
          refine R_V0g hC hR dX11_readRow_81 MV_X11_look ml_X11_118 L_M rfl (s_look (RDU.at (RDU.rd hυ _)).1 ht ok (show p + 1 ≤ t.1 by omega)) (by first | decide | omega) ⟨by decide, by decide⟩ (Nat.le_of_ble_eq_true rfl) (fun r w1 hq => ?_)
          obtain ⟨φ, rfl, hφ', hφr, rfl⟩ := hq
          have hφ := RDU.of (RDU.at (RDU.rd hυ _)) hφ' hφr
          refine R_S2i hC hR dX11_readRow_84 MS_X11_spotOf ml_X11_121 (s_spotOf 3 (by decide) _ _) (by first | decide | omega) ⟨by decide, by decide⟩ (Nat.le_of_ble_eq_true rfl) ?_
          refine R_istore_n (i := 2) hC dX11_readRow_87 rfl (by decide) rfl (R_goto hC 35 dX11_readRow_88 (by decide) ?_)
          skip
          have er : φ.2.2 i_m_read = upd (υ.2.2 i_m_read) (6 * row + n) (o2i (spt 3 (nI (t.2 p))) - 1) := by rw [hφr]; show (sA υ i_m_read _).2.2 i_m_read = _; exact sA_eq _ _ _
          refine ih φ (SK t (p + 1)) _ hφ k2 k3 (by rw [hr, RT_v z1 v1 (by omega), RT_k (p + 1) (by omega)]) ?_ ?_ ?_
          · rw [er, upd_36 (Or.inl rfl) (by omega) (by omega)]; exact g36
          · intro z; rw [er, upd_36 (Or.inr rfl) (by omega) (by omega)]; exact g37 z
          · rw [er]; exact gc.put (by omega) hwid v3
      · rw [z3, vs_m1]
        have z := end91 n (by omega) υ p f hυ hp (fun y => absurd y (by omega)) hr g36 g37 gc
        refine R_iload_n (i := 2) hC dX11_readRow_35 rfl rfl (R_iconst (v := (-1)) hC dX11_readRow_36 (by decide) ?_)
        refine R_icmp_eq hC 91 dX11_readRow_37 (by decide) (fun _ => ?_) (fun h => absurd rfl h)
        exact z
  obtain ⟨k1, k2, k3⟩ := SK_ok t i hi
  refine R_iconst (v := 0) hC dX11_readRow_0 (by decide) (R_istore_n (i := 1) hC dX11_readRow_1 rfl (by decide) rfl (R_ldS hC 3 (by decide) rfl dX11_readRow_2 (R_aload_n (i := 0) hC dX11_readRow_4 rfl rfl ?_)))
  refine R_V0g hC hR dX11_readRow_5 MV_X11_look ml_X11_118 L_M rfl (s_look h.1 ht ok hi) (by first | decide | omega) ⟨by decide, by decide⟩ (Nat.le_of_ble_eq_true rfl) (fun r w1 hq => ?_)
  obtain ⟨φ, rfl, hφ', hφr, rfl⟩ := hq
  have hφ := h.of hφ' hφr
  have e36 : φ.2.2 i_m_read 36 = nI row := by rw [hφr]; exact h36
  have e37 : ¬ row = 0 → φ.2.2 i_m_read 37 = nI wid := fun z => by rw [hφr]; exact h37 z
  have ec : RC (φ.2.2 i_m_read) row 0 wid f := by rw [hφr]; exact hc
  have l0 := lp 0 (Nat.zero_le _) φ (SK t i) f hφ k2 k3 (by rw [hres, RT_k i hi]) e36 e37 ec
  refine R_S2i hC hR dX11_readRow_8 MS_X11_spotOf ml_X11_121 (s_spotOf 3 (by decide) _ _) (by first | decide | omega) ⟨by decide, by decide⟩ (Nat.le_of_ble_eq_true rfl) ?_
  refine R_istore_n (i := 2) hC dX11_readRow_11 rfl (by decide) rfl (R_aload_n (i := 0) hC dX11_readRow_12 rfl rfl (R_gR hC dX11_readRow_13 fl_X11_17 L_M rfl (R_bipush (v := 36) hC dX11_readRow_16 (by decide) (R_aI hC dX11_readRow_18 L_m_read 36 rfl (by decide) (by decide) ?_))))
  refine R_top (y := nI row) (e36) ?_
  refine R_if_ne hC 27 dX11_readRow_19 (by decide) (fun h19 => ?_) (fun h19 => ?_)
  · refine R_aload_n (i := 0) hC dX11_readRow_27 rfl rfl (R_gR hC dX11_readRow_28 fl_X11_17 L_M rfl (R_bipush (v := 37) hC dX11_readRow_31 (by decide) (R_aI hC dX11_readRow_33 L_m_read 37 rfl (by decide) (by decide) ?_)))
    refine R_top (y := nI wid) ((by first | exact e37 (fun z => h19 (r0.mpr z)) | (rw [hw0 (r0.mp h19)]; rfl))) ?_
    refine R_istore_n (i := 3) hC dX11_readRow_34 rfl (by decide) rfl ?_
    exact l0
  · refine R_bipush (v := 6) hC dX11_readRow_22 (by decide) (R_goto hC 34 dX11_readRow_24 (by decide) ?_)
    refine R_top (y := nI wid) ((by first | exact e37 (fun z => h19 (r0.mpr z)) | (rw [hw0 (r0.mp h19)]; rfl))) ?_
    refine R_istore_n (i := 3) hC dX11_readRow_34 rfl (by decide) rfl ?_
    exact l0
theorem s_readTable {σ τ : sg} {x : aW} {t : tap} (h : RDU σ τ 0 (-1)) (ht : HT σ t) (ok : tpOK t) : Mt mX11_readTable 6 0 0 [.ref i_M] (wd τ x) (fun r w => r = none ∧ ∃ υ p F, w = wd υ x ∧ RDU σ υ p F ∧ p ≤ t.1 ∧ ((F = nI p ∧ RT t 0 0 0 6 (fun _ _ => 0) = .inl p) ∨ (F = -1 ∧ ∃ T, RT t 0 0 0 6 (fun _ _ => 0) = .inr T ∧ TB (υ.2.2 i_m_read) T ∧ 1 ≤ T.1 ∧ 1 ≤ T.2.1))) := by
  refine Mt.of MI_X11_readTable (Nat.le_of_ble_eq_true rfl) (fun X hC hR hT => ?_)
  have o1 := ok.1
  generalize hres : RT t 0 0 0 6 (fun _ _ => 0) = res at hT
  have lp : ∀ row, row ≤ 5 → ∀ wid υ p F, wid ≤ 6 → RP t res row wid σ υ p F → Rw mX11_readTable X 12 [some (.ref i_M)] [] (wd υ x) 0 0 := by
    have body : ∀ row, row ≤ 5 → (row < 5 → ∀ wid υ p F, wid ≤ 6 → RP t res (row + 1) wid σ υ p F → Rw mX11_readTable X 12 [some (.ref i_M)] [] (wd υ x) 0 0) → ∀ wid υ p F, wid ≤ 6 → RP t res row wid σ υ p F → Rw mX11_readTable X 12 [some (.ref i_M)] [] (wd υ x) 0 0 := by
      intro row hrow ih wid υ p F hw hP
      obtain ⟨hυ, hp, hP⟩ := hP
      rcases hP with ⟨rfl, hr⟩ | ⟨rfl, hnb, n, f, hr, hf, n1, n6, g36, g37, gc⟩
      · have ne := nI_n1 (n := p) (by omega)
        refine R_aload_n (i := 0) hC dX11_readTable_12 rfl rfl (R_gI hC dX11_readTable_13 fl_X11_105 L_M rfl ?_)
        refine R_top (y := nI p) (hυ.1.2.2.2.2) ?_
        refine R_iconst (v := (-1)) hC dX11_readTable_16 (by decide) ?_
        refine R_icmp_ne hC 63 dX11_readTable_17 (by decide) (fun _ => ?_) (fun h => absurd h ne)
        refine R_aload_n (i := 0) hC dX11_readTable_63 rfl rfl (R_gI hC dX11_readTable_64 fl_X11_105 L_M rfl ?_)
        refine R_top (y := nI p) (hυ.1.2.2.2.2) ?_
        refine R_iconst (v := (-1)) hC dX11_readTable_67 (by decide) ?_
        refine R_icmp_ne hC 83 dX11_readTable_68 (by decide) (fun _ => ?_) (fun h => absurd h ne)
        exact R_vret hC hT dX11_readTable_83 rfl ⟨rfl, υ, p, nI p, rfl, hυ, hp, Or.inl ⟨rfl, hr⟩⟩
      · have sk := SK_nb hp (fun z => (hnb z).1)
        rcases chA_256 ok hp with ⟨z1, z2, z3⟩ | ⟨z1, z3⟩
        · have e47 := nI_eq (a := t.2 p) (b := 47) (by omega) (by decide)
          refine R_aload_n (i := 0) hC dX11_readTable_12 rfl rfl (R_gI hC dX11_readTable_13 fl_X11_105 L_M rfl ?_)
          refine R_top (y := -1) (hυ.1.2.2.2.2) ?_
          refine R_iconst (v := (-1)) hC dX11_readTable_16 (by decide) ?_
          refine R_icmp_ne hC 63 dX11_readTable_17 (by decide) (fun h => absurd rfl h) (fun _ => ?_)
          refine R_aload_n (i := 0) hC dX11_readTable_20 rfl rfl ?_
          refine R_V0g hC hR dX11_readTable_21 MV_X11_look ml_X11_118 L_M rfl (s_look hυ.1 ht ok hp) (by first | decide | omega) ⟨by decide, by decide⟩ (Nat.le_of_ble_eq_true rfl) (fun r w1 hq => ?_)
          obtain ⟨φ, rfl, hφ', hφr, rfl⟩ := hq
          rw [sk] at hφ' ⊢
          have hφ := hυ.of hφ' hφr
          rw [z3]
          refine R_bipush (v := 47) hC dX11_readTable_24 (by decide) ?_
          refine R_icmp_ne hC 63 dX11_readTable_26 (by decide) (fun h26 => ?_) (fun h26 => ?_)
          · refine R_aload_n (i := 0) hC dX11_readTable_63 rfl rfl (R_gI hC dX11_readTable_64 fl_X11_105 L_M rfl ?_)
            refine R_top (y := -1) (hφ.1.2.2.2.2) ?_
            refine R_iconst (v := (-1)) hC dX11_readTable_67 (by decide) ?_
            refine R_icmp_ne hC 83 dX11_readTable_68 (by decide) (fun h => absurd rfl h) (fun _ => ?_)
            refine R_aload_n (i := 0) hC dX11_readTable_71 rfl rfl ?_
            refine R_V0g hC hR dX11_readTable_72 MV_X11_look ml_X11_118 L_M rfl (s_look hφ.1 ht ok hp) (by first | decide | omega) ⟨by decide, by decide⟩ (Nat.le_of_ble_eq_true rfl) (fun r w1 hq => ?_)
            obtain ⟨ψ, rfl, hψ', hψr, rfl⟩ := hq
            rw [sk] at hψ' ⊢
            have hψ := hφ.of hψ' hψr
            rw [z3]
            refine R_iconst (v := (-1)) hC dX11_readTable_75 (by decide) ?_
            refine R_icmp_eq hC 83 dX11_readTable_76 (by decide) (fun h => absurd h (nI_n1 (by omega))) (fun _ => ?_)
            refine R_aload_n (i := 0) hC dX11_readTable_79 rfl rfl ?_
            refine R_V0g hC hR dX11_readTable_80 MV_X11_fails ml_X11_125 L_M rfl (s_fails hψ.1) (by first | decide | omega) ⟨by decide, by decide⟩ (Nat.le_of_ble_eq_true rfl) (fun r w1 hq => ?_)
            obtain ⟨rfl, rfl, hf2⟩ := hq
            exact R_vret hC hT dX11_readTable_83 rfl ⟨rfl, _, p, nI p, rfl, ⟨hf2, hψ.2⟩, hp, Or.inl ⟨rfl, by rw [hr, RT_o z1 (hnb z1).2 (fun z => h26 (e47.mpr z)) (hnb z1).1]⟩⟩
          · refine R_aload_n (i := 0) hC dX11_readTable_29 rfl rfl (R_gR hC dX11_readTable_30 fl_X11_17 L_M rfl (R_bipush (v := 36) hC dX11_readTable_33 (by decide) (R_aI hC dX11_readTable_35 L_m_read 36 rfl (by decide) (by decide) ?_)))
            refine R_top (y := nI (row + 1)) ((by rw [hφr]; exact g36)) ?_
            refine R_bipush (v := 6) hC dX11_readTable_36 (by decide) ?_
            refine R_icmp_ne hC 46 dX11_readTable_38 (by decide) (fun h38 => ?_) (fun h38 => ?_)
            · have r5 : row < 5 := by have := mt (nI_eq (a := row + 1) (b := 6) (by omega) (by decide)).mpr h38; omega
              have er : φ.2.2 i_m_read = υ.2.2 i_m_read := by rw [hφr]
              refine R_aload_n (i := 0) hC dX11_readTable_46 rfl rfl (R_dup hC dX11_readTable_47 rfl (R_gI hC dX11_readTable_48 fl_X11_98 L_M rfl ?_))
              refine R_top (y := nI p) (hφ.1.2.2.2.1) ?_
              refine R_iconst (v := 1) hC dX11_readTable_51 (by decide) (R_iadd hC dX11_readTable_52 ?_)
              refine R_top (y := nI (p + 1)) (inc1 _) ?_
              refine R_pI hC dX11_readTable_53 fl_X11_98 L_M rfl (R_aload_n (i := 0) hC dX11_readTable_56 rfl rfl ?_)
              refine R_V0g hC hR dX11_readTable_57 MV_X11_readRow ml_X11_128 L_M rfl (s_readRow (row := row + 1) (wid := n) (f := f) (res := res) hφ.at ht ok (show p + 1 ≤ t.1 by omega) (by omega) n6 n1 (fun z => absurd z (by omega)) (by show φ.2.2 i_m_read 36 = _; rw [er]; exact g36) (fun _ => by show φ.2.2 i_m_read 37 = _; rw [er]; exact g37) (by show RC (φ.2.2 i_m_read) _ _ _ _; rw [er]; exact gc) (by rw [hr, RT_s z1 (e47.mp h26) ⟨hf, by omega⟩])) (by first | decide | omega) ⟨by decide, by decide⟩ (Nat.le_of_ble_eq_true rfl) (fun r w1 hq => ?_)
              obtain ⟨rfl, ψ, q, G, rfl, hP2⟩ := hq
              refine R_goto hC 12 dX11_readTable_60 (by decide) ?_
              exact ih r5 n ψ q G n6 hP2
            · refine R_aload_n (i := 0) hC dX11_readTable_41 rfl rfl ?_
              refine R_V0g hC hR dX11_readTable_42 MV_X11_fails ml_X11_125 L_M rfl (s_fails hφ.1) (by first | decide | omega) ⟨by decide, by decide⟩ (Nat.le_of_ble_eq_true rfl) (fun r w1 hq => ?_)
              obtain ⟨rfl, rfl, hf2⟩ := hq
              exact R_vret hC hT dX11_readTable_45 rfl ⟨rfl, _, p, nI p, rfl, ⟨hf2, hφ.2⟩, hp, Or.inl ⟨rfl, by rw [hr, RT_s0 z1 (e47.mp h26) (fun z => z.2 (by have := (nI_eq (a := row + 1) (b := 6) (by omega) (by decide)).mp h38; omega))]⟩⟩
        · refine R_aload_n (i := 0) hC dX11_readTable_12 rfl rfl (R_gI hC dX11_readTable_13 fl_X11_105 L_M rfl ?_)
          refine R_top (y := -1) (hυ.1.2.2.2.2) ?_
          refine R_iconst (v := (-1)) hC dX11_readTable_16 (by decide) ?_
          refine R_icmp_ne hC 63 dX11_readTable_17 (by decide) (fun h => absurd rfl h) (fun _ => ?_)
          refine R_aload_n (i := 0) hC dX11_readTable_20 rfl rfl ?_
          refine R_V0g hC hR dX11_readTable_21 MV_X11_look ml_X11_118 L_M rfl (s_look hυ.1 ht ok hp) (by first | decide | omega) ⟨by decide, by decide⟩ (Nat.le_of_ble_eq_true rfl) (fun r w1 hq => ?_)
          obtain ⟨φ, rfl, hφ', hφr, rfl⟩ := hq
          rw [sk] at hφ' ⊢
          have hφ := hυ.of hφ' hφr
          rw [z3]
          refine R_bipush (v := 47) hC dX11_readTable_24 (by decide) ?_
          refine R_icmp_ne hC 63 dX11_readTable_26 (by decide) (fun _ => ?_) (fun h => absurd h (by decide))
          refine R_aload_n (i := 0) hC dX11_readTable_63 rfl rfl (R_gI hC dX11_readTable_64 fl_X11_105 L_M rfl ?_)
          refine R_top (y := -1) (hφ.1.2.2.2.2) ?_
          refine R_iconst (v := (-1)) hC dX11_readTable_67 (by decide) ?_
          refine R_icmp_ne hC 83 dX11_readTable_68 (by decide) (fun h => absurd rfl h) (fun _ => ?_)
          refine R_aload_n (i := 0) hC dX11_readTable_71 rfl rfl ?_
          refine R_V0g hC hR dX11_readTable_72 MV_X11_look ml_X11_118 L_M rfl (s_look hφ.1 ht ok hp) (by first | decide | omega) ⟨by decide, by decide⟩ (Nat.le_of_ble_eq_true rfl) (fun r w1 hq => ?_)
          obtain ⟨ψ, rfl, hψ', hψr, rfl⟩ := hq
          rw [sk] at hψ' ⊢
          have hψ := hφ.of hψ' hψr
          rw [z3]
          refine R_iconst (v := (-1)) hC dX11_readTable_75 (by decide) ?_
          refine R_icmp_eq hC 83 dX11_readTable_76 (by decide) (fun _ => ?_) (fun h => absurd rfl h)
          exact R_vret hC hT dX11_readTable_83 rfl (by
          have er : ψ.2.2 i_m_read = υ.2.2 i_m_read := by rw [hψr, hφr]
          refine ⟨rfl, ψ, p, -1, rfl, hψ, hp, Or.inr ⟨rfl, (row + 1, n, f), ?_, ?_, by show 1 ≤ row + 1; omega, n1⟩⟩
          · rw [hr, z1, RT_end, cnd_t hf]
          · rw [er]; exact ⟨g36, g37, by show row + 1 ≤ 6; omega, n6, fun a b ha hb => gc a b (Or.inl ⟨ha, hb⟩)⟩)
    refine up_loop 5 ?_ ?_
    · exact body 5 (Nat.le_refl _) (fun z => absurd z (by decide))
    · intro row hrow ih
      exact body row (by omega) (fun _ => ih)
  refine R_aload_n (i := 0) hC dX11_readTable_0 rfl rfl (R_gR hC dX11_readTable_1 fl_X11_17 L_M rfl (R_bipush (v := 36) hC dX11_readTable_4 (by decide) (R_iconst (v := 0) hC dX11_readTable_6 (by decide) (R_sI hC dX11_readTable_7 L_m_read 36 rfl (by decide) (by decide) (R_aload_n (i := 0) hC dX11_readTable_8 rfl rfl ?_)))))
  refine R_V0g hC hR dX11_readTable_9 MV_X11_readRow ml_X11_128 L_M rfl (s_readRow (row := 0) (wid := 6) (f := fun _ _ => 0) (res := res) (h.rd _) ht ok (Nat.zero_le _) (by decide) (by decide) (by decide) (fun _ => rfl) (by rw [sA_eq]; unfold upd; rw [if_pos rfl]; rfl) (fun z => absurd rfl z) (fun a b z => by omega) hres.symm) (by first | decide | omega) ⟨by decide, by decide⟩ (Nat.le_of_ble_eq_true rfl) (fun r w1 hq => ?_)
  obtain ⟨rfl, ψ, q, G, rfl, hP2⟩ := hq
  exact lp 0 (by decide) 6 ψ q G (by decide) hP2
