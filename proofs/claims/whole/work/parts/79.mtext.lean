/-! ===== the model's fault and text ===== -/
noncomputable def rT (α : aS) : Nat ⊕ tb := RT (tp α) 0 0 0 6 (fun _ _ => 0)
def rZ (α : aS) : Nat ⊕ scr := RZ (tp α) 0 0 0 0 (fun _ _ => 0)
noncomputable def opFault (α : aS) (s : Int32) : Int32 := if s = 0 then (match rT α with
    | .inl p => nI p
    | .inr _ => -1) else if s = 1 then (match rZ α with
    | .inl p => nI p
    | .inr _ => -1) else -2
noncomputable def opText (α : aS) (s : Int32) : Int32 × aS := if s = 0 then (match rT α with
    | .inl _ => (-1, α)
    | .inr T => (nI T.1, (0, (tp α).2), T, tK α, tS α, (0, (tP α).2), α.2.2.2.2.2)) else if s = 1 then (if (tS α).1 = 4 then (-1, α) else match rZ α with
    | .inl _ => (-1, α)
    | .inr z => (nI (tS α).1, (0, (tp α).2), tT α, tK α, ((tS α).1 + 1, fun k => if k = (tS α).1 then z else (tS α).2 k), α.2.2.2.2)) else (-1, α)
theorem rdT_ok {t : tap} : ∀ n i row col wid f T, row ≤ 5 → col ≤ wid → wid ≤ 6 → 1 ≤ wid → (∀ a b, ((a < row ∧ b < wid) ∨ (a = row ∧ b < col)) → sml (f a b)) → rdT t n i row col wid f = .inr T → (1 ≤ T.1 ∧ T.1 ≤ 6) ∧ (1 ≤ T.2.1 ∧ T.2.1 ≤ 6) ∧ ∀ a b, a < T.1 → b < T.2.1 → sml (T.2.2 a b)
  | 0, i, row, col, wid, f, T, h1, h2, h3, h4, h5, e => by
    rw [rdT] at e
    by_cases z : ful row col wid
    · rw [cnd_t z] at e
      cases e
      refine ⟨⟨by show 1 ≤ row + 1; omega, by show row + 1 ≤ 6; omega⟩, ⟨?_, ?_⟩, fun a b ha hb => h5 a b ?_⟩
      · show 1 ≤ col; rcases z with z | z <;> omega
      · show col ≤ 6; omega
      · have ha : a < row + 1 := ha
        have hb : b < col := hb
        omega
    · rw [cnd_f z] at e; cases e
  | n + 1, i, row, col, wid, f, T, h1, h2, h3, h4, h5, e => by
    rw [rdT] at e
    cases hv : vsN (t.2 i) with
    | some v =>
      rw [hv] at e
      simp only at e
      split at e
      · cases e
      · rename_i hc
        refine rdT_ok n _ _ _ _ _ T h1 (by omega) h3 h4 (fun a b hab => ?_) e
        by_cases z : a = row ∧ b = col
        · simp only [if_pos z]
          unfold vsN at hv
          split at hv
          · cases hv; exact Or.inr (Or.inr rfl)
          · split at hv
            · cases hv; exact Or.inl rfl
            · split at hv
              · cases hv; exact Or.inr (Or.inl rfl)
              · cases hv
        · simp only [if_neg z]; exact h5 a b (by omega)
    | none =>
      rw [hv] at e
      simp only at e
      split at e
      · by_cases z : ful row col wid ∧ ¬ row = 5
        · rw [cnd_t z] at e
          have c1 : 1 ≤ col := by rcases z.1 with y | y <;> omega
          refine rdT_ok n _ _ _ _ _ T (by omega) (Nat.zero_le _) (by omega) c1 (fun a b hab => h5 a b ?_) e
          rcases z.1 with y | y <;> omega
        · rw [cnd_f z] at e; cases e
      · split at e
        · exact rdT_ok n _ _ _ _ _ T h1 h2 h3 h4 h5 e
        · cases e
theorem rT_ok {α : aS} {T : tb} (h : rT α = .inr T) : tbOK T ∧ 1 ≤ T.1 ∧ 1 ≤ T.2.1 := by
  obtain ⟨⟨a1, a2⟩, ⟨a3, a4⟩, a5⟩ := rdT_ok _ _ _ _ _ _ T (by decide) (by decide) (by decide) (by decide) (fun a b z => Or.inr (Or.inl rfl)) h
  exact ⟨⟨a2, a4, by omega, a5⟩, a1, a3⟩
theorem RDS.ceq {σ τ : sg} {i : Nat} {F : Int32} (h : RDS σ τ i F) : CEq σ τ := fun j hj => by
  have k : ∀ a, i_M ≤ a → j ≠ a := fun a ha => by omega
  exact ⟨funext fun b => h.2.2.1 j b (fun z => k i_M (Nat.le_refl _) z.1), by rw [h.2.1], h.1 j (k _ (by decide)) (k _ (by decide)) (k _ (by decide))⟩
theorem RDS.minv {σ τ : sg} {i : Nat} {F : Int32} {α : aS} (h : RDS σ τ i F) (hi : MInv σ α) (ok : aOK α) (p1 : ∀ m, m < 192 → τ.2.2 i_m_plan m = σ.2.2 i_m_plan m) (p2 : ∀ m, m < 4 → τ.2.2 i_m_planLong m = σ.2.2 i_m_planLong m) : MInv τ α := by
  obtain ⟨h1, h2, h3, -, -⟩ := h
  obtain ⟨q1, q2, q3, q4, q5, q6, q7⟩ := hi
  have s4 := ok.2.2.2.2.1
  have f : ∀ b, b ≠ 3 → b ≠ 4 → τ.1 i_M b = σ.1 i_M b := fun b y z => h3 i_M b (fun w => w.2.elim y z)
  have a : ∀ k, k ≠ i_m_read → k ≠ i_m_plan → k ≠ i_m_planLong → τ.2.2 k = σ.2.2 k := h1
  refine ⟨?_, ?_, ?_, ⟨?_, fun k hk => ⟨?_, fun i j hi hj => ?_⟩⟩, ?_, ?_, ?_⟩
  · rw [f _ (by decide) (by decide), a _ (by decide) (by decide) (by decide)]; exact q1
  · rw [a _ (by decide) (by decide) (by decide)]; exact q2
  · rw [f _ (by decide) (by decide), a _ (by decide) (by decide) (by decide)]; exact q3
  · rw [f _ (by decide) (by decide)]; exact q4.1
  · rw [p2 k (by omega)]; exact (q4.2 k hk).1
  · have z := (s4.2 k hk).2.1
    rw [p1 _ (by omega)]; exact (q4.2 k hk).2 i j hi hj
  · rw [f _ (by decide) (by decide), a _ (by decide) (by decide) (by decide)]; exact q5
  · rw [a _ (by decide) (by decide) (by decide)]; exact q6
  · rw [f 34 (by decide) (by decide), f 33 (by decide) (by decide), a _ (by decide) (by decide) (by decide)]; exact q7
theorem RDS.st (σ : sg) : RDS σ (sG (sG σ i_M 3 0) i_M 4 (-1)) 0 (-1) := by
  have z : RDS σ σ 0 (σ.1 i_M 4) → True := fun _ => trivial
  refine ⟨fun _ _ _ _ => rfl, rfl, fun a b h => ?_, (sG_nk (by decide)).trans (sG_eq _ _ _ _), sG_eq _ _ _ _⟩
  by_cases y : a = i_M
  · rw [sG_nk (fun w => h ⟨y, Or.inr w⟩), sG_nk (fun w => h ⟨y, Or.inl w⟩)]
  · rw [sG_ni y, sG_ni y]
theorem tpOK_of {α : aS} (ok : aOK α) : tpOK (tp α) := ⟨ok.1, ok.2.1⟩
theorem s_fault0 {σ : sg} {x : aW} {α : aS} (h : MInv σ α) (ok : aOK α) : Mt mX11_fault 7 0 0 [.ref i_M, .int 0] (wd σ x) (fun r w => ∃ υ F, w = wd υ x ∧ MZ σ υ α ∧ r = some (.int F) ∧ ((∃ p, p ≤ 240 ∧ F = nI p ∧ rT α = .inl p) ∨ (F = -1 ∧ ∃ T, rT α = .inr T ∧ TB (υ.2.2 i_m_read) T))) := by
  refine Mt.of MI_X11_fault (Nat.le_of_ble_eq_true rfl) (fun X hC hR hT => ?_)
  have hω := MZ.of h
  refine R_aload_n (i := 0) hC dX11_fault_0 rfl rfl (R_iconst (v := 0) hC dX11_fault_1 (by decide) (R_pI hC dX11_fault_2 fl_X11_83 L_M rfl (R_iload_n (i := 1) hC dX11_fault_5 rfl rfl (R_i2l hC dX11_fault_6 (R_lconst (v := 0) hC dX11_fault_7 (by decide) (R_lconst (v := 1) hC dX11_fault_8 (by decide) ?_))))))
  refine R_S3i hC hR dX11_fault_9 MS_X11_isIn ml_X11_140 (s_isInZ 0 0 1 0 1 (by decide) (by decide) _) (by first | decide | omega) ⟨by decide, by decide⟩ (Nat.le_of_ble_eq_true rfl) ?_
  refine R_if_ne hC 18 dX11_fault_12 (by decide) (fun _ => ?_) (fun h => absurd h (by decide))
  refine R_aload_n (i := 0) hC dX11_fault_18 rfl rfl (R_iconst (v := 0) hC dX11_fault_19 (by decide) (R_pI hC dX11_fault_20 fl_X11_98 L_M rfl (R_aload_n (i := 0) hC dX11_fault_23 rfl rfl (R_iconst (v := (-1)) hC dX11_fault_24 (by decide) (R_pI hC dX11_fault_25 fl_X11_105 L_M rfl (R_iload_n (i := 1) hC dX11_fault_28 rfl rfl ?_))))))
  refine R_if_ne hC 39 dX11_fault_29 (by decide) (fun h => absurd rfl h) (fun _ => ?_)
  refine R_aload_n (i := 0) hC dX11_fault_32 rfl rfl ?_
  refine R_V0g hC hR dX11_fault_33 MV_X11_readTable ml_X11_144 L_M rfl (s_readTable (σ := sG σ i_M 0 0) ⟨RDS.st _, rfl, rfl⟩ hω.1.1 (tpOK_of ok)) (by first | decide | omega) ⟨by decide, by decide⟩ (Nat.le_of_ble_eq_true rfl) (fun r w1 hq => ?_)
  obtain ⟨rfl, υ, p, F, rfl, hυ, hp, hd⟩ := hq
  have mz : MZ σ υ α := ⟨hυ.1.minv hω.1 ok (fun m _ => by rw [hυ.2.1]) (fun m _ => by rw [hυ.2.2]), hω.2.tr hυ.1.ceq⟩
  refine R_goto hC 43 dX11_fault_36 (by decide) (R_aload_n (i := 0) hC dX11_fault_43 rfl rfl (R_gI hC dX11_fault_44 fl_X11_105 L_M rfl ?_))
  refine R_top (y := F) (hυ.1.2.2.2.2) ?_
  exact R_iret hC hT dX11_fault_47 rfl ⟨υ, F, rfl, mz, rfl, hd.imp (fun z => ⟨p, by have := ok.1; omega, z.1, z.2⟩) (fun ⟨z1, T, z2, z3, _⟩ => ⟨z1, T, z2, z3⟩)⟩
theorem s_fault1 {σ : sg} {x : aW} {α : aS} (h : MInv σ α) (ok : aOK α) : Mt mX11_fault 7 0 0 [.ref i_M, .int 1] (wd σ x) (fun r w => ∃ υ F, w = wd υ x ∧ MZ σ υ α ∧ r = some (.int F) ∧ ((∃ p, p ≤ 240 ∧ F = nI p ∧ rZ α = .inl p) ∨ (F = -1 ∧ ∃ s, rZ α = .inr s ∧ 1 ≤ s.1 ∧ s.1 ≤ 12 ∧ υ.2.2 i_m_planLong 4 = nI s.1 ∧ (∀ a j, a < s.1 → j < 4 → υ.2.2 i_m_plan (4 * (48 + a) + j) = s.2 a j) ∧ ∀ a, a < s.1 → stepOK (s.2 a)))) := by
  refine Mt.of MI_X11_fault (Nat.le_of_ble_eq_true rfl) (fun X hC hR hT => ?_)
  have hω := MZ.of h
  refine R_aload_n (i := 0) hC dX11_fault_0 rfl rfl (R_iconst (v := 0) hC dX11_fault_1 (by decide) (R_pI hC dX11_fault_2 fl_X11_83 L_M rfl (R_iload_n (i := 1) hC dX11_fault_5 rfl rfl (R_i2l hC dX11_fault_6 (R_lconst (v := 0) hC dX11_fault_7 (by decide) (R_lconst (v := 1) hC dX11_fault_8 (by decide) ?_))))))
  refine R_S3i hC hR dX11_fault_9 MS_X11_isIn ml_X11_140 (s_isInZ 1 0 1 0 1 (by decide) (by decide) _) (by first | decide | omega) ⟨by decide, by decide⟩ (Nat.le_of_ble_eq_true rfl) ?_
  refine R_if_ne hC 18 dX11_fault_12 (by decide) (fun _ => ?_) (fun h => absurd h (by decide))
  refine R_aload_n (i := 0) hC dX11_fault_18 rfl rfl (R_iconst (v := 0) hC dX11_fault_19 (by decide) (R_pI hC dX11_fault_20 fl_X11_98 L_M rfl (R_aload_n (i := 0) hC dX11_fault_23 rfl rfl (R_iconst (v := (-1)) hC dX11_fault_24 (by decide) (R_pI hC dX11_fault_25 fl_X11_105 L_M rfl (R_iload_n (i := 1) hC dX11_fault_28 rfl rfl ?_))))))
  refine R_if_ne hC 39 dX11_fault_29 (by decide) (fun _ => ?_) (fun h => absurd h (by decide))
  refine R_aload_n (i := 0) hC dX11_fault_39 rfl rfl ?_
  refine R_V0g hC hR dX11_fault_40 MV_X11_readPlan ml_X11_147 L_M rfl (s_readPlan (σ := sG σ i_M 0 0) (g0 := (sG σ i_M 0 0).2.2 i_m_plan) (RDS.st _) hω.1.1 (tpOK_of ok) (fun m _ => rfl)) (by first | decide | omega) ⟨by decide, by decide⟩ (Nat.le_of_ble_eq_true rfl) (fun r w1 hq => ?_)
  obtain ⟨rfl, υ, p, F, rfl, hυ, hp, pl, pn, hd⟩ := hq
  have mz : MZ σ υ α := ⟨hυ.minv hω.1 ok pl pn, hω.2.tr hυ.ceq⟩
  refine R_aload_n (i := 0) hC dX11_fault_43 rfl rfl (R_gI hC dX11_fault_44 fl_X11_105 L_M rfl ?_)
  refine R_top (y := F) (hυ.2.2.2.2) ?_
  exact R_iret hC hT dX11_fault_47 rfl ⟨υ, F, rfl, mz, rfl, hd.imp (fun z => ⟨p, by have := ok.1; omega, z.1, z.2⟩) (fun z => z)⟩
theorem mo_fault {σ : sg} {x : aW} {α : aS} (h : MInv σ α) (ok : aOK α) (s : Int32) : Mt mX11_fault 7 0 0 [.ref i_M, .int s] (wd σ x) (MPost σ x (opFault α s) α) := by
  by_cases s0 : s = 0
  · subst s0
    refine Mt.mono (s_fault0 h ok) ?_
    rintro r w ⟨υ, F, rfl, mz, rfl, hd⟩
    have e : opFault α 0 = F := by
      unfold opFault
      rw [if_pos rfl]
      rcases hd with ⟨p, _, rfl, e⟩ | ⟨rfl, T, e, _⟩ <;> rw [e]
    rw [e]; exact mz.p
  · by_cases s1 : s = 1
    · subst s1
      refine Mt.mono (s_fault1 h ok) ?_
      rintro r w ⟨υ, F, rfl, mz, rfl, hd⟩
      have e : opFault α 1 = F := by
        unfold opFault
        rw [if_neg (by decide), if_pos rfl]
        rcases hd with ⟨p, _, rfl, e⟩ | ⟨rfl, T, e, _⟩ <;> rw [e]
      rw [e]; exact mz.p
    · refine Mt.of MI_X11_fault (Nat.le_of_ble_eq_true rfl) (fun X hC hR hT => ?_)
      have hω := MZ.of h
      have e : opFault α s = -2 := by unfold opFault; rw [if_neg s0, if_neg s1]
      refine R_aload_n (i := 0) hC dX11_fault_0 rfl rfl (R_iconst (v := 0) hC dX11_fault_1 (by decide) (R_pI hC dX11_fault_2 fl_X11_83 L_M rfl (R_iload_n (i := 1) hC dX11_fault_5 rfl rfl (R_i2l hC dX11_fault_6 (R_lconst (v := 0) hC dX11_fault_7 (by decide) (R_lconst (v := 1) hC dX11_fault_8 (by decide) ?_))))))
      refine R_S3i hC hR dX11_fault_9 MS_X11_isIn ml_X11_140 (s_isInZ s 0 1 0 1 (by decide) (by decide) _) (by first | decide | omega) ⟨by decide, by decide⟩ (Nat.le_of_ble_eq_true rfl) ?_
      refine R_if_ne hC 18 dX11_fault_12 (by decide) (fun h => absurd (if_neg (fun z => by rcases q01 z with y | y; exact s0 y; exact s1 y)) h) (fun _ => ?_)
      refine R_bipush (v := (-2)) hC dX11_fault_15 (by decide) ?_
      exact R_iret hC hT dX11_fault_17 rfl (by rw [e]; exact hω.p)
theorem MInv.text0 {υ : sg} {α : aS} {T : tb} (h : MInv υ α) (g : Nat → Int32) (hg : TR g T) : MInv (sG (sA (sG υ i_M 2 0) i_m_now g) i_M 15 0) ((0, (tp α).2), T, tK α, tS α, (0, (tP α).2), α.2.2.2.2.2) := by
  obtain ⟨q1, q2, q3, q4, q5, q6, q7⟩ := h
  have f : ∀ b, b ≠ 2 → b ≠ 15 → (sG (sA (sG υ i_M 2 0) i_m_now g) i_M 15 0).1 i_M b = υ.1 i_M b := fun b y z => by
    rw [sG_nk z]; show (sG υ i_M 2 0).1 i_M b = _; exact sG_nk y
  have a : ∀ k, k ≠ i_m_now → (sG (sA (sG υ i_M 2 0) i_m_now g) i_M 15 0).2.2 k = υ.2.2 k := fun k y => sA_ne y
  refine ⟨⟨?_, fun i hi => absurd hi (Nat.not_lt_zero _)⟩, ?_, ?_, ?_, ⟨sG_eq _ _ _ _, fun k hk => absurd hk (Nat.not_lt_zero _)⟩, ?_, ?_⟩
  · rw [sG_nk (by decide)]; show (sG υ i_M 2 0).1 i_M 2 = _; exact sG_eq _ _ _ _
  · show TR ((sA (sG υ i_M 2 0) i_m_now g).2.2 i_m_now) T; rw [sA_eq]; exact hg
  · rw [f _ (by decide) (by decide), a _ (by decide)]; exact q3
  · rw [f _ (by decide) (by decide), a i_m_plan (by decide), a i_m_planLong (by decide)]; exact q4
  · rw [a _ (by decide)]; exact q6
  · rw [f 34 (by decide) (by decide), f 33 (by decide) (by decide), a _ (by decide)]; exact q7
def cpP (g : Nat → Int32) (P j : Nat) : Nat → Int32 := fun m => if 48 * P ≤ m ∧ m < 48 * P + j then g (192 + (m - 48 * P)) else g m
theorem cpP_0 (g : Nat → Int32) (P : Nat) : cpP g P 0 = g := by funext m; unfold cpP; rw [if_neg (by omega)]
theorem cpP_s (g : Nat → Int32) {P j : Nat} (hP : P < 4) (hj : j < 48) : upd (cpP g P j) (48 * P + j) (cpP g P j (192 + j)) = cpP g P (j + 1) := by
  funext m
  unfold upd cpP
  rw [if_neg (show ¬ (48 * P ≤ 192 + j ∧ 192 + j < 48 * P + j) by omega)]
  by_cases z : m = 48 * P + j
  · rw [if_pos z, if_pos (by omega), z, show 48 * P + j - 48 * P = j by omega]
  · rw [if_neg z]
    by_cases y : 48 * P ≤ m ∧ m < 48 * P + j
    · rw [if_pos y, if_pos (by omega)]
    · rw [if_neg y, if_neg (by omega)]
theorem MInv.text1 {υ : sg} {α : aS} {z : scr} (h : MInv υ α) (ok : aOK α) (h4 : (tS α).1 < 4) (z12 : z.1 ≤ 12) (hl : υ.2.2 i_m_planLong 4 = nI z.1) (hp : ∀ a j, a < z.1 → j < 4 → υ.2.2 i_m_plan (4 * (48 + a) + j) = z.2 a j) :
    MInv (sG (sA (sA (sG υ i_M 2 0) i_m_plan (cpP (υ.2.2 i_m_plan) (tS α).1 48)) i_m_planLong (upd (υ.2.2 i_m_planLong) (tS α).1 (υ.2.2 i_m_planLong 4))) i_M 13 (nI ((tS α).1 + 1))) ((0, (tp α).2), tT α, tK α, ((tS α).1 + 1, fun k => if k = (tS α).1 then z else (tS α).2 k), α.2.2.2.2) := by
  obtain ⟨q1, q2, q3, q4, q5, q6, q7⟩ := h
  have s4 := ok.2.2.2.2.1
  generalize hτ : sG (sA (sA (sG υ i_M 2 0) i_m_plan (cpP (υ.2.2 i_m_plan) (tS α).1 48)) i_m_planLong (upd (υ.2.2 i_m_planLong) (tS α).1 (υ.2.2 i_m_planLong 4))) i_M 13 (nI ((tS α).1 + 1)) = τ
  have f : ∀ b, b ≠ 2 → b ≠ 13 → τ.1 i_M b = υ.1 i_M b := fun b y z => by rw [← hτ, sG_nk z]; show (sG υ i_M 2 0).1 i_M b = _; exact sG_nk y
  have a : ∀ k, k ≠ i_m_plan → k ≠ i_m_planLong → τ.2.2 k = υ.2.2 k := fun k y z => by rw [← hτ]; exact (sA_ne z).trans (sA_ne y)
  have f2 : τ.1 i_M 2 = 0 := by rw [← hτ, sG_nk (by decide)]; show (sG υ i_M 2 0).1 i_M 2 = _; exact sG_eq _ _ _ _
  have f13 : τ.1 i_M 13 = nI ((tS α).1 + 1) := by rw [← hτ]; exact sG_eq _ _ _ _
  have a1 : τ.2.2 i_m_plan = cpP (υ.2.2 i_m_plan) (tS α).1 48 := by rw [← hτ]; exact Eq.trans (sA_ne (σ := sA (sG υ i_M 2 0) i_m_plan (cpP (υ.2.2 i_m_plan) (tS α).1 48)) (i := i_m_planLong) (a := i_m_plan) (by decide)) (sA_eq (sG υ i_M 2 0) i_m_plan _)
  have a2 : τ.2.2 i_m_planLong = upd (υ.2.2 i_m_planLong) (tS α).1 (υ.2.2 i_m_planLong 4) := by rw [← hτ]; exact sA_eq (sA (sG υ i_M 2 0) i_m_plan (cpP (υ.2.2 i_m_plan) (tS α).1 48)) i_m_planLong _
  refine ⟨⟨f2, fun i hi => absurd hi (Nat.not_lt_zero _)⟩, ?_, ?_, ⟨f13, fun k hk => ?_⟩, ?_, ?_, ?_⟩
  · rw [a _ (by decide) (by decide)]; exact q2
  · rw [f _ (by decide) (by decide), a _ (by decide) (by decide)]; exact q3
  · have hk : k < (tS α).1 + 1 := hk
    show τ.2.2 i_m_planLong k = nI (if k = (tS α).1 then z else (tS α).2 k).1 ∧ ∀ i j, i < (if k = (tS α).1 then z else (tS α).2 k).1 → j < 4 → τ.2.2 i_m_plan (4 * (12 * k + i) + j) = (if k = (tS α).1 then z else (tS α).2 k).2 i j
    rw [a1, a2]
    unfold upd cpP
    by_cases y : k = (tS α).1
    · rw [if_pos y, if_pos y]
      refine ⟨hl, fun i j hi hj => ?_⟩
      rw [if_pos (by omega)]
      have e : 192 + (4 * (12 * k + i) + j - 48 * (tS α).1) = 4 * (48 + i) + j := by omega
      rw [e]; exact hp i j hi hj
    · rw [if_neg y, if_neg y]
      refine ⟨(q4.2 k (by omega)).1, fun i j hi hj => ?_⟩
      have z := (s4.2 k (by omega)).2.1
      rw [if_neg (by omega)]
      exact (q4.2 k (by omega)).2 i j hi hj
  · rw [f _ (by decide) (by decide), a _ (by decide) (by decide)]; exact q5
  · rw [a _ (by decide) (by decide)]; exact q6
  · rw [f 34 (by decide) (by decide), f 33 (by decide) (by decide), a _ (by decide) (by decide)]; exact q7
theorem aOK_text0 {α : aS} (ok : aOK α) {T : tb} (hT : tbOK T) : aOK ((0, (tp α).2), T, tK α, tS α, (0, (tP α).2), α.2.2.2.2.2) := by
  obtain ⟨o1, o2, o3, o4, o5, o6, o7⟩ := ok
  exact ⟨Nat.zero_le _, fun i hi => absurd hi (Nat.not_lt_zero _), hT, o4, o5, ⟨Nat.zero_le _, fun i hi => absurd hi (Nat.not_lt_zero _)⟩, o7⟩
theorem aOK_text1 {α : aS} (ok : aOK α) {z : scr} (h4 : (tS α).1 < 4) (z1 : 1 ≤ z.1) (z12 : z.1 ≤ 12) (zs : ∀ a, a < z.1 → stepOK (z.2 a)) : aOK ((0, (tp α).2), tT α, tK α, ((tS α).1 + 1, fun k => if k = (tS α).1 then z else (tS α).2 k), α.2.2.2.2) := by
  obtain ⟨o1, o2, o3, o4, o5, o6, o7⟩ := ok
  refine ⟨Nat.zero_le _, fun i hi => absurd hi (Nat.not_lt_zero _), o3, o4, ⟨by show (tS α).1 + 1 ≤ 4; omega, fun k hk => ?_⟩, o6, o7⟩
  have hk : k < (tS α).1 + 1 := hk
  show 1 ≤ (if k = (tS α).1 then z else (tS α).2 k).1 ∧ (if k = (tS α).1 then z else (tS α).2 k).1 ≤ 12 ∧ ∀ i, i < (if k = (tS α).1 then z else (tS α).2 k).1 → stepOK ((if k = (tS α).1 then z else (tS α).2 k).2 i)
  by_cases y : k = (tS α).1
  · rw [if_pos y]; exact ⟨z1, z12, zs⟩
  · rw [if_neg y]; exact o5.2 k (by omega)
theorem mo_text {σ : sg} {x : aW} {α : aS} (h : MInv σ α) (ok : aOK α) (s : Int32) : Mt mX11_text 8 0 0 [.ref i_M, .int s] (wd σ x) (fun r w => MPost σ x (opText α s).1 (opText α s).2 r w ∧ aOK (opText α s).2) := by
  refine Mt.of MI_X11_text (Nat.le_of_ble_eq_true rfl) (fun X hC hR hT => ?_)
  have bad : ∀ υ l2, MZ σ υ α → opText α s = (-1, α) → Rw mX11_text X 32 [some (.ref i_M), some (.int s), l2] [] (wd υ x) 0 0 := by
    intro υ l2 mz e
    refine R_aload_n (i := 0) hC dX11_text_32 rfl rfl (R_iconst (v := 0) hC dX11_text_33 (by decide) (R_pI hC dX11_text_34 fl_X11_83 L_M rfl (R_iconst (v := (-1)) hC dX11_text_37 (by decide) ?_)))
    exact R_iret hC hT dX11_text_38 rfl (by rw [e]; exact ⟨MPost.i (M_thr mz.1 0) (mz.2.g (Nat.le_refl _)), ok⟩)
  by_cases s0 : s = 0
  · subst s0
    have loop : ∀ υ T, MZ σ υ α → TB (υ.2.2 i_m_read) T → opText α 0 = (nI T.1, (0, (tp α).2), T, tK α, tS α, (0, (tP α).2), α.2.2.2.2.2) → aOK (opText α 0).2 → ∀ j, j ≤ 38 → Rw mX11_text X 121 [some (.ref i_M), some (.int 0), some (.int (nI j))] [] (wd (sA (sG υ i_M 2 0) i_m_now (cpy (υ.2.2 i_m_read) (υ.2.2 i_m_now) j)) x) 0 0 := by
      intro υ T mz hT1 e aok
      refine up_loop 38 ?_ ?_
      · have hc := TB_cpy38 (g := υ.2.2 i_m_now) hT1
        refine R_iload_n (i := 2) hC dX11_text_121 rfl rfl (R_bipush (v := 38) hC dX11_text_122 (by decide) ?_)
        refine R_icmp_ge hC 145 dX11_text_124 (by decide) (fun _ => ?_) (fun h => absurd (Int32.le_refl _) h)
        refine R_aload_n (i := 0) hC dX11_text_145 rfl rfl (R_iconst (v := 0) hC dX11_text_146 (by decide) (R_pI hC dX11_text_147 fl_X11_155 L_M rfl (R_aload_n (i := 0) hC dX11_text_150 rfl rfl (R_gR hC dX11_text_151 fl_X11_13 L_M rfl (R_bipush (v := 36) hC dX11_text_154 (by decide) (R_aI hC dX11_text_156 L_m_now 36 rfl (by decide) (by decide) ?_))))))
        refine R_top (y := nI T.1) ((by show (sA (sG υ i_M 2 0) i_m_now _).2.2 i_m_now 36 = _; rw [sA_eq]; exact hc.1)) ?_
        exact R_iret hC hT dX11_text_157 rfl ⟨by rw [e]; exact MPost.i (mz.1.text0 _ hc.TR) (((mz.2.g (Nat.le_refl _)).a (by decide)).g (Nat.le_refl _)), aok⟩
      · intro j hj ih
        have e2 : sA (sA (sG υ i_M 2 0) i_m_now (cpy (υ.2.2 i_m_read) (υ.2.2 i_m_now) j)) i_m_now (upd ((sA (sG υ i_M 2 0) i_m_now (cpy (υ.2.2 i_m_read) (υ.2.2 i_m_now) j)).2.2 i_m_now) j ((sA (sG υ i_M 2 0) i_m_now (cpy (υ.2.2 i_m_read) (υ.2.2 i_m_now) j)).2.2 i_m_read j)) = sA (sG υ i_M 2 0) i_m_now (cpy (υ.2.2 i_m_read) (υ.2.2 i_m_now) (j + 1)) := by
          rw [sA_sA, sA_eq, sA_ne (by decide)]
          show sA _ _ (upd _ _ (υ.2.2 i_m_read j)) = _
          rw [cpy_s]
        refine R_iload_n (i := 2) hC dX11_text_121 rfl rfl (R_bipush (v := 38) hC dX11_text_122 (by decide) ?_)
        refine R_icmp_ge hC 145 dX11_text_124 (by decide) (fun h => absurd h (nI_ge hj (by decide))) (fun _ => ?_)
        refine R_aload_n (i := 0) hC dX11_text_127 rfl rfl (R_gR hC dX11_text_128 fl_X11_13 L_M rfl (R_iload_n (i := 2) hC dX11_text_131 rfl rfl (R_aload_n (i := 0) hC dX11_text_132 rfl rfl (R_gR hC dX11_text_133 fl_X11_17 L_M rfl (R_iload_n (i := 2) hC dX11_text_136 rfl rfl (R_aI hC dX11_text_137 L_m_read j rfl (by omega) (by decide) (R_sI hC dX11_text_138 L_m_now j rfl (by omega) (by decide) ?_)))))))
        refine R_iinc hC dX11_text_139 rfl (inc1 _) (by decide) rfl (R_goto hC 121 dX11_text_142 (by decide) ?_)
        exact R_wd e2 ih
    refine R_iload_n (i := 1) hC dX11_text_0 rfl rfl (R_i2l hC dX11_text_1 (R_lconst (v := 0) hC dX11_text_2 (by decide) (R_lconst (v := 1) hC dX11_text_3 (by decide) ?_)))
    refine R_S3i hC hR dX11_text_4 MS_X11_isIn ml_X11_140 (s_isInZ 0 0 1 0 1 (by decide) (by decide) _) (by first | decide | omega) ⟨by decide, by decide⟩ (Nat.le_of_ble_eq_true rfl) ?_
    refine R_if_eq hC 32 dX11_text_7 (by decide) (fun h => absurd h (by decide)) (fun _ => ?_)
    refine R_iload_n (i := 1) hC dX11_text_10 rfl rfl (R_iconst (v := 1) hC dX11_text_11 (by decide) ?_)
    refine R_icmp_ne hC 23 dX11_text_12 (by decide) (fun _ => ?_) (fun h => absurd h (by decide))
    refine R_aload_n (i := 0) hC dX11_text_23 rfl rfl (R_iload_n (i := 1) hC dX11_text_24 rfl rfl ?_)
    refine R_V1g hC hR dX11_text_25 MV_X11_fault ml_X11_153 L_M rfl (s_fault0 h ok) (by first | decide | omega) ⟨by decide, by decide⟩ (Nat.le_of_ble_eq_true rfl) (fun r w1 hq => ?_)
    obtain ⟨υ, F, rfl, mz, rfl, hd⟩ := hq
    skip
    rcases hd with ⟨p, p2, rfl, e⟩ | ⟨rfl, T, e, hT1⟩
    · refine R_iconst (v := (-1)) hC dX11_text_28 (by decide) ?_
      refine R_icmp_eq hC 39 dX11_text_29 (by decide) (fun h => absurd h (nI_n1 (by omega))) (fun _ => ?_)
      exact bad υ _ mz (by unfold opText; rw [if_pos rfl, e])
    · have eo : opText α 0 = (nI T.1, (0, (tp α).2), T, tK α, tS α, (0, (tP α).2), α.2.2.2.2.2) := by unfold opText; rw [if_pos rfl, e]
      have lp := loop υ T mz hT1 eo (by rw [eo]; exact aOK_text0 ok (rT_ok e).1) 0 (Nat.zero_le _)
      rw [cpy_0, show sA (sG υ i_M 2 0) i_m_now (υ.2.2 i_m_now) = sG υ i_M 2 0 from sA_self _ _] at lp
      refine R_iconst (v := (-1)) hC dX11_text_28 (by decide) ?_
      refine R_icmp_eq hC 39 dX11_text_29 (by decide) (fun _ => ?_) (fun h => absurd rfl h)
      refine R_aload_n (i := 0) hC dX11_text_39 rfl rfl (R_iconst (v := 0) hC dX11_text_40 (by decide) (R_pI hC dX11_text_41 fl_X11_87 L_M rfl (R_iload_n (i := 1) hC dX11_text_44 rfl rfl (R_iconst (v := 1) hC dX11_text_45 (by decide) ?_))))
      refine R_icmp_ne hC 119 dX11_text_46 (by decide) (fun _ => ?_) (fun h => absurd h (by decide))
      refine R_iconst (v := 0) hC dX11_text_119 (by decide) (R_istore_n (i := 2) hC dX11_text_120 rfl (by decide) rfl ?_)
      exact lp
  · by_cases s1 : s = 1
    · subst s1
      by_cases f4 : (tS α).1 = 4
      · refine R_iload_n (i := 1) hC dX11_text_0 rfl rfl (R_i2l hC dX11_text_1 (R_lconst (v := 0) hC dX11_text_2 (by decide) (R_lconst (v := 1) hC dX11_text_3 (by decide) ?_)))
        refine R_S3i hC hR dX11_text_4 MS_X11_isIn ml_X11_140 (s_isInZ 1 0 1 0 1 (by decide) (by decide) _) (by first | decide | omega) ⟨by decide, by decide⟩ (Nat.le_of_ble_eq_true rfl) ?_
        refine R_if_eq hC 32 dX11_text_7 (by decide) (fun h => absurd h (by decide)) (fun _ => ?_)
        refine R_iload_n (i := 1) hC dX11_text_10 rfl rfl (R_iconst (v := 1) hC dX11_text_11 (by decide) ?_)
        refine R_icmp_ne hC 23 dX11_text_12 (by decide) (fun h => absurd rfl h) (fun _ => ?_)
        refine R_aload_n (i := 0) hC dX11_text_15 rfl rfl (R_gI hC dX11_text_16 fl_X11_150 L_M rfl ?_)
        refine R_top (y := nI (tS α).1) (h.2.2.2.1.1) ?_
        refine R_iconst (v := 4) hC dX11_text_19 (by decide) ?_
        refine R_icmp_eq hC 32 dX11_text_20 (by decide) (fun _ => ?_) (fun h => absurd (by rw [f4]; rfl) h)
        exact bad σ _ ⟨h, CEq.rf σ⟩ (by unfold opText; rw [if_neg (by decide), if_pos rfl, if_pos f4])
      · have l4 : (tS α).1 < 4 := by have := ok.2.2.2.2.1.1; omega
        have loop : ∀ υ z, MZ σ υ α → z.1 ≤ 12 → υ.2.2 i_m_planLong 4 = nI z.1 → (∀ a j, a < z.1 → j < 4 → υ.2.2 i_m_plan (4 * (48 + a) + j) = z.2 a j) → opText α 1 = (nI (tS α).1, (0, (tp α).2), tT α, tK α, ((tS α).1 + 1, fun k => if k = (tS α).1 then z else (tS α).2 k), α.2.2.2.2) → aOK (opText α 1).2 → ∀ j, j ≤ 48 → Rw mX11_text X 51 [some (.ref i_M), some (.int 1), some (.int (nI j))] [] (wd (sA (sG υ i_M 2 0) i_m_plan (cpP (υ.2.2 i_m_plan) (tS α).1 j)) x) 0 0 := by
          intro υ z mz z12 hl hp e aok
          have f13 : (sG υ i_M 2 0).1 i_M 13 = nI (tS α).1 := by rw [sG_nk (by decide)]; exact mz.1.2.2.2.1.1
          refine up_loop 48 ?_ ?_
          · have fin := mz.1.text1 ok l4 z12 hl hp
            refine R_iload_n (i := 2) hC dX11_text_51 rfl rfl (R_bipush (v := 48) hC dX11_text_52 (by decide) ?_)
            refine R_icmp_ge hC 87 dX11_text_54 (by decide) (fun _ => ?_) (fun h => absurd (Int32.le_refl _) h)
            refine R_aload_n (i := 0) hC dX11_text_87 rfl rfl (R_gR hC dX11_text_88 fl_X11_29 L_M rfl (R_aload_n (i := 0) hC dX11_text_91 rfl rfl (R_gI hC dX11_text_92 fl_X11_150 L_M rfl (R_aload_n (i := 0) hC dX11_text_95 rfl rfl (R_gR hC dX11_text_96 fl_X11_29 L_M rfl (R_iconst (v := 4) hC dX11_text_99 (by decide) (R_aI hC dX11_text_100 L_m_planLong 4 rfl (by decide) (by decide) ?_)))))))
            refine R_sI hC dX11_text_101 L_m_planLong ((tS α).1) f13 (by omega) (by decide) (R_aload_n (i := 0) hC dX11_text_102 rfl rfl (R_dup hC dX11_text_103 rfl (R_gI hC dX11_text_104 fl_X11_150 L_M rfl ?_)))
            refine R_top (y := nI (tS α).1) (f13) ?_
            refine R_iconst (v := 1) hC dX11_text_107 (by decide) (R_iadd hC dX11_text_108 ?_)
            refine R_top (y := nI ((tS α).1 + 1)) (inc1 _) ?_
            refine R_pI hC dX11_text_109 fl_X11_150 L_M rfl (R_aload_n (i := 0) hC dX11_text_112 rfl rfl (R_gI hC dX11_text_113 fl_X11_150 L_M rfl ?_))
            refine R_top (y := nI ((tS α).1 + 1)) ((sG_eq _ _ _ _)) ?_
            refine R_iconst (v := 1) hC dX11_text_116 (by decide) (R_isub hC dX11_text_117 ?_)
            refine R_top (y := nI (tS α).1) ((nI_dec (Nat.succ_ne_zero _))) ?_
            exact R_iret hC hT dX11_text_118 rfl ⟨by rw [e]; exact MPost.i fin ((((mz.2.g (Nat.le_refl _)).a (by decide)).a (by decide)).g (Nat.le_refl _)), aok⟩
          · intro j hj ih
            have e2 : sA (sA (sG υ i_M 2 0) i_m_plan (cpP (υ.2.2 i_m_plan) (tS α).1 j)) i_m_plan (upd ((sA (sG υ i_M 2 0) i_m_plan (cpP (υ.2.2 i_m_plan) (tS α).1 j)).2.2 i_m_plan) (48 * (tS α).1 + j) ((sA (sG υ i_M 2 0) i_m_plan (cpP (υ.2.2 i_m_plan) (tS α).1 j)).2.2 i_m_plan (192 + j))) = sA (sG υ i_M 2 0) i_m_plan (cpP (υ.2.2 i_m_plan) (tS α).1 (j + 1)) := by
              rw [sA_sA, sA_eq, cpP_s _ l4 hj]
            refine R_iload_n (i := 2) hC dX11_text_51 rfl rfl (R_bipush (v := 48) hC dX11_text_52 (by decide) ?_)
            refine R_icmp_ge hC 87 dX11_text_54 (by decide) (fun h => absurd h (nI_ge hj (by decide))) (fun _ => ?_)
            refine R_aload_n (i := 0) hC dX11_text_57 rfl rfl (R_gR hC dX11_text_58 fl_X11_26 L_M rfl (R_bipush (v := 48) hC dX11_text_61 (by decide) (R_aload_n (i := 0) hC dX11_text_63 rfl rfl (R_gI hC dX11_text_64 fl_X11_150 L_M rfl ?_))))
            refine R_top (y := nI (tS α).1) (f13) ?_
            refine R_imul hC dX11_text_67 (R_iload_n (i := 2) hC dX11_text_68 rfl rfl (R_iadd hC dX11_text_69 ?_))
            refine R_top (y := nI (48 * (tS α).1 + j)) ((by rw [← nIa, ← nIm]; rfl)) ?_
            refine R_aload_n (i := 0) hC dX11_text_70 rfl rfl (R_gR hC dX11_text_71 fl_X11_26 L_M rfl (R_sipush (v := 192) hC dX11_text_74 (by decide) (R_iload_n (i := 2) hC dX11_text_77 rfl rfl (R_iadd hC dX11_text_78 (R_aI hC dX11_text_79 L_m_plan (192 + j) (nIa 192 j) (by omega) (by decide) (R_sI hC dX11_text_80 L_m_plan (48 * (tS α).1 + j) rfl (by omega) (by decide) (R_iinc hC dX11_text_81 rfl (inc1 _) (by decide) rfl ?_)))))))
            refine R_goto hC 51 dX11_text_84 (by decide) ?_
            exact R_wd e2 ih
        refine R_iload_n (i := 1) hC dX11_text_0 rfl rfl (R_i2l hC dX11_text_1 (R_lconst (v := 0) hC dX11_text_2 (by decide) (R_lconst (v := 1) hC dX11_text_3 (by decide) ?_)))
        refine R_S3i hC hR dX11_text_4 MS_X11_isIn ml_X11_140 (s_isInZ 1 0 1 0 1 (by decide) (by decide) _) (by first | decide | omega) ⟨by decide, by decide⟩ (Nat.le_of_ble_eq_true rfl) ?_
        refine R_if_eq hC 32 dX11_text_7 (by decide) (fun h => absurd h (by decide)) (fun _ => ?_)
        refine R_iload_n (i := 1) hC dX11_text_10 rfl rfl (R_iconst (v := 1) hC dX11_text_11 (by decide) ?_)
        refine R_icmp_ne hC 23 dX11_text_12 (by decide) (fun h => absurd rfl h) (fun _ => ?_)
        refine R_aload_n (i := 0) hC dX11_text_15 rfl rfl (R_gI hC dX11_text_16 fl_X11_150 L_M rfl ?_)
        refine R_top (y := nI (tS α).1) (h.2.2.2.1.1) ?_
        refine R_iconst (v := 4) hC dX11_text_19 (by decide) ?_
        refine R_icmp_eq hC 32 dX11_text_20 (by decide) (fun h => absurd h (fun z => f4 ((nI_eq (b := 4) (by omega) (by decide)).mp z))) (fun _ => ?_)
        refine R_aload_n (i := 0) hC dX11_text_23 rfl rfl (R_iload_n (i := 1) hC dX11_text_24 rfl rfl ?_)
        refine R_V1g hC hR dX11_text_25 MV_X11_fault ml_X11_153 L_M rfl (s_fault1 h ok) (by first | decide | omega) ⟨by decide, by decide⟩ (Nat.le_of_ble_eq_true rfl) (fun r w1 hq => ?_)
        obtain ⟨υ, F, rfl, mz, rfl, hd⟩ := hq
        skip
        rcases hd with ⟨p, p2, rfl, e⟩ | ⟨rfl, z, e, z1, z12, hl, hp, zs⟩
        · refine R_iconst (v := (-1)) hC dX11_text_28 (by decide) ?_
          refine R_icmp_eq hC 39 dX11_text_29 (by decide) (fun h => absurd h (nI_n1 (by omega))) (fun _ => ?_)
          exact bad υ _ mz (by unfold opText; rw [if_neg (by decide), if_pos rfl, if_neg f4, e])
        · have eo : opText α 1 = (nI (tS α).1, (0, (tp α).2), tT α, tK α, ((tS α).1 + 1, fun k => if k = (tS α).1 then z else (tS α).2 k), α.2.2.2.2) := by unfold opText; rw [if_neg (by decide), if_pos rfl, if_neg f4, e]
          have lp := loop υ z mz z12 hl hp eo (by rw [eo]; exact aOK_text1 ok l4 z1 z12 zs) 0 (Nat.zero_le _)
          rw [cpP_0, show sA (sG υ i_M 2 0) i_m_plan (υ.2.2 i_m_plan) = sG υ i_M 2 0 from sA_self _ _] at lp
          refine R_iconst (v := (-1)) hC dX11_text_28 (by decide) ?_
          refine R_icmp_eq hC 39 dX11_text_29 (by decide) (fun _ => ?_) (fun h => absurd rfl h)
          refine R_aload_n (i := 0) hC dX11_text_39 rfl rfl (R_iconst (v := 0) hC dX11_text_40 (by decide) (R_pI hC dX11_text_41 fl_X11_87 L_M rfl (R_iload_n (i := 1) hC dX11_text_44 rfl rfl (R_iconst (v := 1) hC dX11_text_45 (by decide) ?_))))
          refine R_icmp_ne hC 119 dX11_text_46 (by decide) (fun h => absurd rfl h) (fun _ => ?_)
          refine R_iconst (v := 0) hC dX11_text_49 (by decide) (R_istore_n (i := 2) hC dX11_text_50 rfl (by decide) rfl ?_)
          exact lp
    · refine R_iload_n (i := 1) hC dX11_text_0 rfl rfl (R_i2l hC dX11_text_1 (R_lconst (v := 0) hC dX11_text_2 (by decide) (R_lconst (v := 1) hC dX11_text_3 (by decide) ?_)))
      refine R_S3i hC hR dX11_text_4 MS_X11_isIn ml_X11_140 (s_isInZ s 0 1 0 1 (by decide) (by decide) _) (by first | decide | omega) ⟨by decide, by decide⟩ (Nat.le_of_ble_eq_true rfl) ?_
      refine R_if_eq hC 32 dX11_text_7 (by decide) (fun _ => ?_) (fun h => absurd (if_neg (fun z => by rcases q01 z with y | y; exact s0 y; exact s1 y)) h)
      exact bad σ _ ⟨h, CEq.rf σ⟩ (by unfold opText; rw [if_neg s0, if_neg s1])
