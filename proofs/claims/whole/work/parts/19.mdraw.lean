def dx (x : Int64) : Int64 := x * 6364136223846793005 + 1442695040888963407
def dr (x : Int64) (m : Nat) : Nat := (x.toUInt64.toNat / 8589934592) % m
theorem lN_div {a b : Nat} (ha : a < 2 ^ 31) (hb : b < 2 ^ 31) : lN a / lN b = lN (a / b) := by
  apply Int64.toInt_inj.mp
  have h1 : a / b < 2 ^ 31 := Nat.lt_of_le_of_lt (Nat.div_le_self a b) ha
  rw [Int64.toInt_div, lN_toInt ha, lN_toInt hb, lN_toInt h1]
  have e : ((a : Int).tdiv (b : Int)) = ((a / b : Nat) : Int) := by
    rw [Int.tdiv_eq_ediv_of_nonneg (by omega)]; rfl
  have hb : (a / b : Nat) < 9223372036854775808 := by omega
  generalize (a / b : Nat) = c at *
  rw [e]
  exact Int.bmod_eq_of_le (by omega) (by omega)
theorem dshr (x : Int64) : (x.toUInt64 >>> ((33 : Int32).toInt64.toUInt64 &&& Int64.toUInt64 63)).toInt64 = lN (x.toUInt64.toNat / 8589934592) := by
  have e : ((33 : Int32).toInt64.toUInt64 &&& Int64.toUInt64 63) = UInt64.ofNat 33 := by decide
  rw [e]
  have hlt : x.toUInt64.toNat < 2 ^ 64 := x.toUInt64.toNat_lt
  have h : x.toUInt64 >>> UInt64.ofNat 33 = UInt64.ofNat (x.toUInt64.toNat / 8589934592) := by
    apply UInt64.toNat_inj.mp
    rw [UInt64.toNat_shiftRight]
    have e2 : (UInt64.ofNat 33).toNat % 64 = 33 := by decide
    rw [e2, Nat.shiftRight_eq_div_pow, UInt64.toNat_ofNat_of_lt' (by have : x.toUInt64.toNat / 8589934592 ≤ x.toUInt64.toNat := Nat.div_le_self _ _; show _ < 18446744073709551616; omega)]
  rw [h]
  rfl
theorem drawZ (x : Int64) {m : Nat} (h0 : 0 < m) (hm : m < 2 ^ 31) : ((x.toUInt64 >>> ((33 : Int32).toInt64.toUInt64 &&& Int64.toUInt64 63)).toInt64 - (x.toUInt64 >>> ((33 : Int32).toInt64.toUInt64 &&& Int64.toUInt64 63)).toInt64 / (nI m).toInt64 * (nI m).toInt64).toInt32 = nI (dr x m) := by
  have hlt : x.toUInt64.toNat < 2 ^ 64 := x.toUInt64.toNat_lt
  have hu : x.toUInt64.toNat / 8589934592 < 2 ^ 31 := by omega
  rw [dshr, nI_l hm, lN_div hu hm, lN_mul, lN_sub (Nat.div_mul_le_self _ _), lN_i]
  congr 1
  unfold dr
  have := Nat.div_add_mod (x.toUInt64.toNat / 8589934592) m
  rw [Nat.mul_comm] at this
  omega
theorem sL_eq (σ : sg) (i : Nat) (v : Int64) : (sL σ i v).2.1 i = v := by simp [sL]
theorem uL {fl : List (Nat × Nat)} {n : Nat} (h : fl.zipIdx.all (fun q => q.1.1 != 1 || q.2 == n) = true) : ∀ k2 z2, fl[k2]? = some (1, z2) → k2 = n := by
  intro k2 z2 h2
  have h3 : ((1, z2), k2) ∈ fl.zipIdx := by
    rw [List.mem_iff_getElem?]
    exact ⟨k2, by rw [List.getElem?_zipIdx, h2]; simp⟩
  have h4 := List.all_eq_true.mp h _ h3
  simpa using h4
theorem lm_ne {m : Nat} (h0 : 0 < m) (hm : m < 2 ^ 31) : ¬ (nI m).toInt64 = 0 := by
  rw [nI_l hm]
  intro q
  have := congrArg Int64.toInt q
  rw [lN_toInt hm] at this
  have e : (0 : Int64).toInt = 0 := by decide
  omega
theorem s_draw (σ : sg) (x : aW) (m : Nat) (h0 : 0 < m) (hm : m < 2 ^ 31) : Mt mX11_draw 0 0 0 [.ref i_M, .int (nI m)] (wd σ x) (QI (nI (dr (dx (σ.2.1 i_M)) m)) (wd (sL σ i_M (dx (σ.2.1 i_M))) x)) := by
  refine Mt.of MI_X11_draw (Nat.le_of_ble_eq_true rfl) (fun X hC hR hT => ?_)
  refine R_aload_n (i := 0) hC dX11_draw_0 rfl rfl (R_aload_n (i := 0) hC dX11_draw_1 rfl rfl (R_gL hC dX11_draw_2 fl_X11_336 L_M rfl (R_ldc2 hC dX11_draw_5 kc_X11_340 (R_lmul hC dX11_draw_8 (R_ldc2 hC dX11_draw_9 kc_X11_342 (R_ladd hC dX11_draw_12 (R_pL hC dX11_draw_13 fl_X11_336 L_M rfl (uL (by decide)) ?_)))))))
  refine R_aload_n (i := 0) hC dX11_draw_16 rfl rfl (R_gL hC dX11_draw_17 fl_X11_336 L_M rfl ?_)
  rw [sL_eq]
  refine R_bipush (v := 33) hC dX11_draw_20 (by decide) (R_lushr hC dX11_draw_22 (R_iload_n (i := 1) hC dX11_draw_23 rfl rfl (R_i2l hC dX11_draw_24 (R_lrem hC dX11_draw_25 (lm_ne h0 hm) (R_l2i hC dX11_draw_26 ?_)))))
  exact R_iret hC hT dX11_draw_27 rfl ⟨congrArg (fun z => some (Value.int z)) (drawZ _ h0 hm), rfl⟩
/-- one of the draws: what, of which, and what it does -/
def wOf (x : Int64) : Nat := dr (dx x) 6
def x2 (x : Int64) : Int64 := dx (dx x)
def aOf (x : Int64) (T : tb) : Nat := dr (x2 x) (if wOf x = 1 ∨ wOf x = 3 then T.2.1 else T.1)
def x3 (x : Int64) : Int64 := if wOf x < 2 then x2 x else dx (x2 x)
def bOf (x : Int64) (T : tb) : Nat := if wOf x < 2 then 0 else dr (x3 x) (if wOf x = 2 then T.1 else T.2.1)
def x4 (x : Int64) : Int64 := if wOf x = 5 then dx (x3 x) else x3 x
def vOf (x : Int64) : Int32 := if wOf x = 5 then nI (dr (x4 x) 3) - 1 else 0
noncomputable def drAct (w a b : Nat) (v : Int32) (α : aS) : Nat × aS := by classical exact
  if w = 5 then (if ((tT α).2.2 a b = v) then (0, α) else (1, pushT α (tset (tT α) a b v)))
  else (if (stopZ (tT α) w (nI a) (nI b) = -1) then (1, pushT α (doA w a b (tT α))) else (0, α))
noncomputable def drwN : Nat → Int64 → aS → Nat × aS
  | 0, _, α => (0, α)
  | n + 1, x, α => ((drAct (wOf x) (aOf x (tT α)) (bOf x (tT α)) (vOf x) α).1 + (drwN n (x4 x) (drAct (wOf x) (aOf x (tT α)) (bOf x (tT α)) (vOf x) α).2).1, (drwN n (x4 x) (drAct (wOf x) (aOf x (tT α)) (bOf x (tT α)) (vOf x) α).2).2)
noncomputable def opDraws (α : aS) (n : Int32) (seed : Int64) : Int32 × aS := by classical exact
  if (¬ (tT α).1 = 0 ∧ 1 ≤ n.toInt ∧ n.toInt ≤ 30) then (nI (drwN n.toNatClampNeg seed α).1, (drwN n.toNatClampNeg seed α).2) else (-1, α)
theorem dr_lt (x : Int64) {m : Nat} (h : 0 < m) : dr x m < m := Nat.mod_lt _ h
theorem vOf_sml (x : Int64) : sml (vOf x) := by
  unfold vOf
  split
  · have h := dr_lt (x4 x) (m := 3) (by decide)
    rcases (by omega : dr (x4 x) 3 = 0 ∨ dr (x4 x) 3 = 1 ∨ dr (x4 x) 3 = 2) with e | e | e <;> rw [e] <;> first | exact Or.inl (by decide) | exact Or.inr (Or.inl (by decide)) | exact Or.inr (Or.inr (by decide))
  · exact Or.inr (Or.inl rfl)
theorem doA_pos {T : tb} (ok : tbOK T) {k : Nat} {a b : Nat} (hk : k ≤ 5) (h0 : ¬ T.1 = 0) : ¬ (doA k a b T).1 = 0 := by
  have o3 := ok.2.2.1
  match k, hk with
  | 0, _ => exact h0
  | 1, _ => exact h0
  | 2, _ => exact h0
  | 3, _ => exact h0
  | 4, _ => exact h0
  | 5, _ => show ¬ T.2.1 = 0; omega
/-- the act of a draw keeps all well formed -/
theorem drAct_ok {w a b : Nat} {v : Int32} {α : aS} (ok : aOK α) (h0 : ¬ (tT α).1 = 0) (hv : sml v) (hw : w < 6) (ha : a < 2 ^ 31) (hb : b < 2 ^ 31) : aOK (drAct w a b v α).2 ∧ ¬ (tT (drAct w a b v α).2).1 = 0 := by
  unfold drAct
  by_cases h5 : w = 5
  · rw [if_pos h5]
    by_cases e : (tT α).2.2 a b = v
    · rw [if_pos e]; exact ⟨ok, h0⟩
    · rw [if_neg e]; exact ⟨aOK_push ok (tbOK_tset ok.2.2.1 a b hv), h0⟩
  · rw [if_neg h5]
    by_cases e : stopZ (tT α) w (nI a) (nI b) = -1
    · rw [if_pos e]
      have := tbOK_doA ok.2.2.1 e
      rw [nI_clamp ha, nI_clamp hb] at this
      exact ⟨aOK_push ok this, doA_pos ok.2.2.1 (by omega) h0⟩
    · rw [if_neg e]; exact ⟨ok, h0⟩
theorem sL_sL (σ : sg) (i : Nat) (v u : Int64) : sL (sL σ i v) i u = sL σ i u := by
  unfold sL
  refine Prod.ext rfl (Prod.ext (funext fun a => ?_) rfl)
  show (if a = i then u else if a = i then v else σ.2.1 a) = if a = i then u else σ.2.1 a
  split <;> rfl
theorem mo_draws {σ : sg} {x : aW} {α : aS} (h : MInv σ α) (ok : aOK α) (n : Int32) (seed : Int64) : Mt mX11_draws 3 0 0 [.ref i_M, .int n, .long seed] (wd σ x) (MPost σ x (opDraws α n seed).1 (opDraws α n seed).2) := by
  refine Mt.of MI_X11_draws (Nat.le_of_ble_eq_true rfl) (fun X hC hR hT => ?_)
  have hT1 : σ.2.2 i_m_now 36 = nI (tT α).1 := h.2.1.1
  have h1 := M_thr h 0
  have c1 : CEq σ (sG σ i_M 0 0) := (CEq.rf σ).g (Nat.le_refl _)
  -- from 137: what, a, b, v are drawn
  have stA : ∀ (τ : sg) (β : aS) (s i w a b : Nat) (v : Int32), MInv τ β → aOK β → CEq σ τ → ¬ (tT β).1 = 0 → w < 6 → a < 6 → b < 6 → (w = 5 → a < (tT β).1 ∧ b < (tT β).2.1) → sml v →
      (∀ τ2, MInv τ2 (drAct w a b v β).2 → CEq σ τ2 → τ2.2.1 i_M = τ.2.1 i_M → ∀ u6 u7 u8 u9, Rw mX11_draws X 230 [some (.ref i_M), some (.int n), some (.long seed), none, some (.int (nI (s + (drAct w a b v β).1))), some (.int (nI i)), u6, u7, u8, u9] [] (wd τ2 x) 0 0) →
      Rw mX11_draws X 137 [some (.ref i_M), some (.int n), some (.long seed), none, some (.int (nI s)), some (.int (nI i)), some (.int (nI w)), some (.int (nI a)), some (.int (nI b)), some (.int v)] [] (wd τ x) 0 0 := by
    intro τ β s i w a b v hm okβ hce hne hw ha hb h5 hv K
    by_cases w5 : w = 5
    · subst w5
      obtain ⟨ha2, hb2⟩ := h5 rfl
      refine R_iload hC dX11_draws_137 rfl (R_iconst (v := 5) hC dX11_draws_139 (by decide) ?_)
      refine R_icmp_ne hC 164 dX11_draws_140 (by decide) (fun h => absurd rfl h) (fun _ => ?_)
      refine R_aload_n (i := 0) hC dX11_draws_143 rfl rfl (R_gR hC dX11_draws_144 fl_X11_13 L_M rfl (R_bipush (v := 6) hC dX11_draws_147 (by decide) (R_iload hC dX11_draws_149 rfl (R_imul hC dX11_draws_151 (R_iload hC dX11_draws_152 rfl (R_iadd hC dX11_draws_154 (R_aI hC dX11_draws_155 L_m_now (6 * a + b) (n6 a b) (by omega) (by decide) ?_)))))))
      refine R_top (y := (tT β).2.2 a b) (hm.2.1.2.2 a b ha2 hb2) ?_
      refine R_iload hC dX11_draws_156 rfl ?_
      refine R_icmp_ne hC 185 dX11_draws_158 (by decide) (fun h158 => ?_) (fun h158 => ?_)
      · have e : drAct 5 a b v β = (1, pushT β (tset (tT β) a b v)) := by unfold drAct; rw [if_pos rfl, if_neg h158]
        rw [e] at K
        refine R_aload_n (i := 0) hC dX11_draws_185 rfl rfl ?_
        refine R_V0g hC hR dX11_draws_186 MV_X11_remember ml_X11_167 L_M rfl (s_remember hm okβ) (by decide) ⟨by decide, by decide⟩ (Nat.le_of_ble_eq_true rfl) (fun r w1 hq => ?_)
        obtain ⟨rfl, p, g2, rfl, hm3⟩ := hq
        refine R_iload hC dX11_draws_189 rfl (R_iconst (v := 5) hC dX11_draws_191 (by decide) ?_)
        refine R_icmp_ne hC 213 dX11_draws_192 (by decide) (fun h => absurd rfl h) (fun _ => ?_)
        refine R_aload_n (i := 0) hC dX11_draws_195 rfl rfl (R_gR hC dX11_draws_196 fl_X11_13 L_M rfl (R_bipush (v := 6) hC dX11_draws_199 (by decide) (R_iload hC dX11_draws_201 rfl (R_imul hC dX11_draws_203 (R_iload hC dX11_draws_204 rfl (R_iadd hC dX11_draws_206 (R_iload hC dX11_draws_207 rfl ?_)))))))
        refine R_sI hC dX11_draws_209 L_m_now (6 * a + b) (n6 a b) (by omega) (by decide) (R_goto hC 227 dX11_draws_210 (by decide) (R_iinc hC dX11_draws_227 rfl (inc1 _) (by decide) rfl ?_))
        first | exact K _ hm hce rfl _ _ _ _ | exact K _ (hm3.now (TB_tset (hm3.2.1.TB okβ.2.2.1) ha2 hb2 hv).TR) (((hce.g (Nat.le_refl _)).a (by decide)).a (by decide)) rfl _ _ _ _
      · have e : drAct 5 a b v β = (0, β) := by unfold drAct; rw [if_pos rfl, if_pos h158]
        rw [e] at K
        refine R_goto hC 230 dX11_draws_161 (by decide) ?_
        first | exact K _ hm hce rfl _ _ _ _ | exact K _ (hm3.now (TB_tset (hm3.2.1.TB okβ.2.2.1) ha2 hb2 hv).TR) (((hce.g (Nat.le_refl _)).a (by decide)).a (by decide)) rfl _ _ _ _
    · have n5 : ¬ nI w = (5 : Int32) := nI_ne (b := 5) (by omega) (by decide) w5
      refine R_iload hC dX11_draws_137 rfl (R_iconst (v := 5) hC dX11_draws_139 (by decide) ?_)
      refine R_icmp_ne hC 164 dX11_draws_140 (by decide) (fun _ => ?_) (fun h => absurd h n5)
      refine R_aload_n (i := 0) hC dX11_draws_164 rfl rfl (R_aload_n (i := 0) hC dX11_draws_165 rfl rfl (R_gR hC dX11_draws_166 fl_X11_13 L_M rfl (R_iload hC dX11_draws_169 rfl (R_iload hC dX11_draws_171 rfl (R_iload hC dX11_draws_173 rfl ?_)))))
      refine R_V4g hC hR dX11_draws_175 MV_X11_stops ml_X11_181 L_M rfl (s_stops _ _ _ L_m_now (by decide) (tT β) (hm.2.1.TB okβ.2.2.1) (nI w) (nI a) (nI b)) (by decide) ⟨by decide, by decide⟩ (Nat.le_of_ble_eq_true rfl) (fun r w1 hq => ?_)
      obtain ⟨g, rfl, ⟨k', hk', ek, rfl⟩ | ⟨hk', -⟩⟩ := hq
      case inr => exact absurd (by rw [nI_toInt (by omega)]; omega) hk'
      have ek : w = k' := (nI_eq (by omega) (by omega)).mp ek
      subst ek
      refine R_iconst (v := (-1)) hC dX11_draws_178 (by decide) ?_
      refine R_icmp_eq hC 185 dX11_draws_179 (by decide) (fun h179 => ?_) (fun h179 => ?_)
      · have e : drAct w a b v β = (1, pushT β (doA w a b (tT β))) := by unfold drAct; rw [if_neg w5, if_pos h179]
        rw [e] at K
        refine R_aload_n (i := 0) hC dX11_draws_185 rfl rfl ?_
        refine R_V0g hC hR dX11_draws_186 MV_X11_remember ml_X11_167 L_M rfl (s_remember (hm.a (i := i_m_trial) (f := g) (by decide)) okβ) (by decide) ⟨by decide, by decide⟩ (Nat.le_of_ble_eq_true rfl) (fun r w1 hq => ?_)
        obtain ⟨rfl, p, g2, rfl, hm3⟩ := hq
        refine R_iload hC dX11_draws_189 rfl (R_iconst (v := 5) hC dX11_draws_191 (by decide) ?_)
        refine R_icmp_ne hC 213 dX11_draws_192 (by decide) (fun _ => ?_) (fun h => absurd h n5)
        refine R_aload_n (i := 0) hC dX11_draws_213 rfl rfl (R_aload_n (i := 0) hC dX11_draws_214 rfl rfl (R_gR hC dX11_draws_215 fl_X11_13 L_M rfl (R_iload hC dX11_draws_218 rfl (R_iload hC dX11_draws_220 rfl (R_iload hC dX11_draws_222 rfl ?_)))))
        refine R_V4g hC hR dX11_draws_224 MV_X11_does ml_X11_185 L_M rfl (s_does L_m_now (by decide) (hm3.2.1.TB okβ.2.2.1) okβ.2.2.1 h179) (by decide) ⟨by decide, by decide⟩ (Nat.le_of_ble_eq_true rfl) (fun r w1 hq => ?_)
        obtain ⟨rfl, g3, h3, rfl, hg3⟩ := hq
        rw [nI_clamp (by omega), nI_clamp (by omega)] at hg3
        refine R_iinc hC dX11_draws_227 rfl (inc1 _) (by decide) rfl ?_
        first | exact K _ (hm.a (by decide)) (hce.a (by decide)) rfl _ _ _ _ | exact K _ ((hm3.a (i := i_m_trial) (by decide)).now hg3.TR) (((((hce.a (by decide)).g (Nat.le_refl _)).a (by decide)).a (by decide)).a (by decide)) rfl _ _ _ _
      · have e : drAct w a b v β = (0, β) := by unfold drAct; rw [if_neg w5, if_neg h179]
        rw [e] at K
        refine R_goto hC 230 dX11_draws_182 (by decide) ?_
        first | exact K _ (hm.a (by decide)) (hce.a (by decide)) rfl _ _ _ _ | exact K _ ((hm3.a (i := i_m_trial) (by decide)).now hg3.TR) (((((hce.a (by decide)).g (Nat.le_refl _)).a (by decide)).a (by decide)).a (by decide)) rfl _ _ _ _
  have body : ∀ (τ : sg) (β : aS) (s i : Nat), MInv τ β → aOK β → CEq σ τ → ¬ (tT β).1 = 0 →
      (∀ τ2, MInv τ2 (drAct (wOf (τ.2.1 i_M)) (aOf (τ.2.1 i_M) (tT β)) (bOf (τ.2.1 i_M) (tT β)) (vOf (τ.2.1 i_M)) β).2 → CEq σ τ2 → τ2.2.1 i_M = x4 (τ.2.1 i_M) → ∀ u6 u7 u8 u9, Rw mX11_draws X 230 [some (.ref i_M), some (.int n), some (.long seed), none, some (.int (nI (s + (drAct (wOf (τ.2.1 i_M)) (aOf (τ.2.1 i_M) (tT β)) (bOf (τ.2.1 i_M) (tT β)) (vOf (τ.2.1 i_M)) β).1))), some (.int (nI i)), u6, u7, u8, u9] [] (wd τ2 x) 0 0) →
      ∀ u6 u7 u8 u9, Rw mX11_draws X 46 [some (.ref i_M), some (.int n), some (.long seed), none, some (.int (nI s)), some (.int (nI i)), u6, u7, u8, u9] [] (wd τ x) 0 0 := by
    intro τ β s i hm okβ hce hne K
    obtain ⟨x0, hx0⟩ : ∃ z, z = τ.2.1 i_M := ⟨_, rfl⟩
    rw [← hx0] at K
    obtain ⟨T1, T2, T3, -⟩ := id okβ.2.2.1
    have hw : wOf x0 < 6 := dr_lt _ (by decide)
    have hm1 : 0 < (if wOf x0 = 1 ∨ wOf x0 = 3 then (tT β).2.1 else (tT β).1) ∧ (if wOf x0 = 1 ∨ wOf x0 = 3 then (tT β).2.1 else (tT β).1) ≤ 6 := by split <;> omega
    have ha := dr_lt (x2 x0) hm1.1
    have hm2 : 0 < (if wOf x0 = 2 then (tT β).1 else (tT β).2.1) ∧ (if wOf x0 = 2 then (tT β).1 else (tT β).2.1) ≤ 6 := by split <;> omega
    have hb6 : bOf x0 (tT β) < 6 := by
      unfold bOf
      have := dr_lt (x3 x0) hm2.1
      split
      · decide
      · omega
    have h5 : wOf x0 = 5 → aOf x0 (tT β) < (tT β).1 ∧ bOf x0 (tT β) < (tT β).2.1 := by
      intro e
      constructor
      · unfold aOf; rw [e, if_neg (by decide)]; exact dr_lt _ (by omega)
      · unfold bOf; rw [e, if_neg (by decide), if_neg (by decide)]; exact dr_lt _ (by omega)
    have stE : ∀ u9, Rw mX11_draws X 135 [some (.ref i_M), some (.int n), some (.long seed), none, some (.int (nI s)), some (.int (nI i)), some (.int (nI (wOf x0))), some (.int (nI (aOf x0 (tT β)))), some (.int (nI (bOf x0 (tT β)))), u9] [.int (vOf x0)] (wd (sL τ i_M (x4 x0)) x) 0 0 := by
      intro u9
      refine R_istore hC dX11_draws_135 (by decide) rfl ?_
      exact stA _ β s i _ _ _ _ hm.l okβ (hce.l (Nat.le_refl _)) hne hw (by unfold aOf; omega) hb6 h5 (vOf_sml x0) (fun τ2 z1 z2 z3 => K τ2 z1 z2 (by rw [z3, sL_eq]))
    have stD : ∀ u8 u9, Rw mX11_draws X 116 [some (.ref i_M), some (.int n), some (.long seed), none, some (.int (nI s)), some (.int (nI i)), some (.int (nI (wOf x0))), some (.int (nI (aOf x0 (tT β)))), u8, u9] [.int (nI (bOf x0 (tT β)))] (wd (sL τ i_M (x3 x0)) x) 0 0 := by
      intro u8 u9
      by_cases w5 : wOf x0 = 5
      · refine R_istore hC dX11_draws_116 (by decide) rfl (R_iload hC dX11_draws_118 rfl (R_iconst (v := 5) hC dX11_draws_120 (by decide) ?_))
        refine R_icmp_ne hC 134 dX11_draws_121 (by decide) (fun h => absurd (by rw [w5]; rfl) h) (fun _ => ?_)
        refine R_aload_n (i := 0) hC dX11_draws_124 rfl rfl (R_iconst (v := 3) hC dX11_draws_125 (by decide) ?_)
        refine R_V1i hC hR dX11_draws_126 MV_X11_draw ml_X11_346 L_M rfl (s_draw _ _ 3 (by decide) (by decide)) (by decide) ⟨by decide, by decide⟩ (Nat.le_of_ble_eq_true rfl) ?_
        refine R_wd (τ := sL τ i_M (x4 x0)) (by rw [sL_eq, sL_sL]; unfold x4; rw [if_pos w5]) ?_
        rw [sL_eq]
        refine R_iconst (v := 1) hC dX11_draws_129 (by decide) (R_isub hC dX11_draws_130 (R_goto hC 135 dX11_draws_131 (by decide) ?_))
        (refine R_top (y := vOf x0) (by unfold vOf x4; rw [if_pos w5, if_pos w5]) ?_; exact stE _)
      · refine R_istore hC dX11_draws_116 (by decide) rfl (R_iload hC dX11_draws_118 rfl (R_iconst (v := 5) hC dX11_draws_120 (by decide) ?_))
        refine R_icmp_ne hC 134 dX11_draws_121 (by decide) (fun _ => ?_) (fun h => absurd h (nI_ne (b := 5) (by omega) (by decide) w5))
        refine R_iconst (v := 0) hC dX11_draws_134 (by decide) ?_
        (refine R_wd (τ := sL τ i_M (x4 x0)) (by unfold x4; rw [if_neg w5]) ?_; refine R_top (y := vOf x0) (by unfold vOf; rw [if_neg w5]) ?_; exact stE _)
    have stC : ∀ u7 u8 u9, Rw mX11_draws X 79 [some (.ref i_M), some (.int n), some (.long seed), none, some (.int (nI s)), some (.int (nI i)), some (.int (nI (wOf x0))), u7, u8, u9] [.int (nI (if wOf x0 = 1 ∨ wOf x0 = 3 then (tT β).2.1 else (tT β).1)), .ref i_M] (wd (sL τ i_M (dx x0)) x) 0 0 := by
      intro u7 u8 u9
      have eR : σ.2.2 i_m_now 36 = σ.2.2 i_m_now 36 := rfl
      by_cases w2 : wOf x0 < 2
      · refine R_V1i hC hR dX11_draws_79 MV_X11_draw ml_X11_346 L_M rfl (s_draw _ _ _ hm1.1 (by omega)) (by decide) ⟨by decide, by decide⟩ (Nat.le_of_ble_eq_true rfl) ?_
        refine R_wd (τ := sL τ i_M (x3 x0)) (by rw [sL_eq, sL_sL]; unfold x3; rw [if_pos w2]; rfl) ?_
        refine R_top (y := nI (aOf x0 (tT β))) (by rw [sL_eq]; rfl) ?_
        refine R_istore hC dX11_draws_82 (by decide) rfl (R_iload hC dX11_draws_84 rfl (R_iconst (v := 2) hC dX11_draws_86 (by decide) ?_))
        refine R_icmp_ge hC 94 dX11_draws_87 (by decide) (fun h => absurd h (nI_ge (b := 2) w2 (by decide))) (fun _ => ?_)
        refine R_iconst (v := 0) hC dX11_draws_90 (by decide) (R_goto hC 116 dX11_draws_91 (by decide) ?_)
        (refine R_top (y := nI (bOf x0 (tT β))) (by unfold bOf; rw [if_pos w2]; rfl) ?_; exact stD _ _)
      · refine R_V1i hC hR dX11_draws_79 MV_X11_draw ml_X11_346 L_M rfl (s_draw _ _ _ hm1.1 (by omega)) (by decide) ⟨by decide, by decide⟩ (Nat.le_of_ble_eq_true rfl) ?_
        refine R_wd (τ := sL τ i_M (x2 x0)) (by rw [sL_eq, sL_sL]; rfl) ?_
        refine R_top (y := nI (aOf x0 (tT β))) (by rw [sL_eq]; rfl) ?_
        refine R_istore hC dX11_draws_82 (by decide) rfl (R_iload hC dX11_draws_84 rfl (R_iconst (v := 2) hC dX11_draws_86 (by decide) ?_))
        refine R_icmp_ge hC 94 dX11_draws_87 (by decide) (fun _ => ?_) (fun h => absurd (nI_le (a := 2) (by omega) (by omega)) h)
        refine R_aload_n (i := 0) hC dX11_draws_94 rfl rfl (R_aload_n (i := 0) hC dX11_draws_95 rfl rfl (R_gR hC dX11_draws_96 fl_X11_13 L_M rfl (R_iload hC dX11_draws_99 rfl (R_iconst (v := 2) hC dX11_draws_101 (by decide) ?_))))
        refine R_icmp_ne hC 110 dX11_draws_102 (by decide) (fun h102 => ?_) (fun h102 => ?_)
        · refine R_bipush (v := 37) hC dX11_draws_110 (by decide) (R_aI hC dX11_draws_112 L_m_now 37 rfl (by decide) (by decide) ?_)
          refine R_top (y := nI (if wOf x0 = 2 then (tT β).1 else (tT β).2.1)) (by first | (rw [if_pos ((nI_eq (b := 2) (by omega) (by decide)).mp h102)]; exact hm.2.1.1) | (rw [if_neg (fun z => h102 (by rw [z]; rfl))]; exact hm.2.1.2.1)) ?_
          refine R_V1i hC hR dX11_draws_113 MV_X11_draw ml_X11_346 L_M rfl (s_draw _ _ _ hm2.1 (by omega)) (by decide) ⟨by decide, by decide⟩ (Nat.le_of_ble_eq_true rfl) ?_
          refine R_wd (τ := sL τ i_M (x3 x0)) (by rw [sL_eq, sL_sL]; unfold x3; rw [if_neg w2]) ?_
          refine R_top (y := nI (bOf x0 (tT β))) (by rw [sL_eq]; unfold bOf x3; rw [if_neg w2, if_neg w2]) ?_
          exact stD _ _
        · refine R_bipush (v := 36) hC dX11_draws_105 (by decide) (R_goto hC 112 dX11_draws_107 (by decide) (R_aI hC dX11_draws_112 L_m_now 36 rfl (by decide) (by decide) ?_))
          refine R_top (y := nI (if wOf x0 = 2 then (tT β).1 else (tT β).2.1)) (by first | (rw [if_pos ((nI_eq (b := 2) (by omega) (by decide)).mp h102)]; exact hm.2.1.1) | (rw [if_neg (fun z => h102 (by rw [z]; rfl))]; exact hm.2.1.2.1)) ?_
          refine R_V1i hC hR dX11_draws_113 MV_X11_draw ml_X11_346 L_M rfl (s_draw _ _ _ hm2.1 (by omega)) (by decide) ⟨by decide, by decide⟩ (Nat.le_of_ble_eq_true rfl) ?_
          refine R_wd (τ := sL τ i_M (x3 x0)) (by rw [sL_eq, sL_sL]; unfold x3; rw [if_neg w2]) ?_
          refine R_top (y := nI (bOf x0 (tT β))) (by rw [sL_eq]; unfold bOf x3; rw [if_neg w2, if_neg w2]) ?_
          exact stD _ _
    intro u6 u7 u8 u9
    refine R_aload_n (i := 0) hC dX11_draws_46 rfl rfl (R_bipush (v := 6) hC dX11_draws_47 (by decide) ?_)
    refine R_V1i hC hR dX11_draws_49 MV_X11_draw ml_X11_346 L_M rfl (s_draw _ _ 6 (by decide) (by decide)) (by decide) ⟨by decide, by decide⟩ (Nat.le_of_ble_eq_true rfl) ?_
    rw [← hx0]
    refine R_istore hC dX11_draws_52 (by decide) rfl (R_aload_n (i := 0) hC dX11_draws_54 rfl rfl (R_aload_n (i := 0) hC dX11_draws_55 rfl rfl (R_gR hC dX11_draws_56 fl_X11_13 L_M rfl (R_iload hC dX11_draws_59 rfl (R_iconst (v := 1) hC dX11_draws_61 (by decide) ?_)))))
    refine R_icmp_eq hC 71 dX11_draws_62 (by decide) (fun h62 => ?_) (fun h62 => ?_)
    · refine R_bipush (v := 37) hC dX11_draws_71 (by decide) (R_goto hC 78 dX11_draws_73 (by decide) (R_aI hC dX11_draws_78 L_m_now 37 rfl (by decide) (by decide) ?_))
      (refine R_top (y := nI (if wOf x0 = 1 ∨ wOf x0 = 3 then (tT β).2.1 else (tT β).1)) ?_ ?_; (first | (rw [if_pos (Or.inl ((nI_eq (a := wOf x0) (b := 1) (by omega) (by decide)).mp h62))]; exact hm.2.1.2.1) | (rw [if_neg (fun z => z.elim (fun z => h62 (by show nI (wOf x0) = 1; rw [z]; rfl)) (fun z => h68 (by show nI (wOf x0) = 3; rw [z]; rfl)))]; exact hm.2.1.1) | (rw [if_pos (Or.inr ((nI_eq (a := wOf x0) (b := 3) (by omega) (by decide)).mp h68))]; exact hm.2.1.2.1)); exact stC _ _ _)
    · refine R_iload hC dX11_draws_65 rfl (R_iconst (v := 3) hC dX11_draws_67 (by decide) ?_)
      refine R_icmp_ne hC 76 dX11_draws_68 (by decide) (fun h68 => ?_) (fun h68 => ?_)
      · refine R_bipush (v := 36) hC dX11_draws_76 (by decide) (R_aI hC dX11_draws_78 L_m_now 36 rfl (by decide) (by decide) ?_)
        (refine R_top (y := nI (if wOf x0 = 1 ∨ wOf x0 = 3 then (tT β).2.1 else (tT β).1)) ?_ ?_; (first | (rw [if_pos (Or.inl ((nI_eq (a := wOf x0) (b := 1) (by omega) (by decide)).mp h62))]; exact hm.2.1.2.1) | (rw [if_neg (fun z => z.elim (fun z => h62 (by show nI (wOf x0) = 1; rw [z]; rfl)) (fun z => h68 (by show nI (wOf x0) = 3; rw [z]; rfl)))]; exact hm.2.1.1) | (rw [if_pos (Or.inr ((nI_eq (a := wOf x0) (b := 3) (by omega) (by decide)).mp h68))]; exact hm.2.1.2.1)); exact stC _ _ _)
      · refine R_bipush (v := 37) hC dX11_draws_71 (by decide) (R_goto hC 78 dX11_draws_73 (by decide) (R_aI hC dX11_draws_78 L_m_now 37 rfl (by decide) (by decide) ?_))
        (refine R_top (y := nI (if wOf x0 = 1 ∨ wOf x0 = 3 then (tT β).2.1 else (tT β).1)) ?_ ?_; (first | (rw [if_pos (Or.inl ((nI_eq (a := wOf x0) (b := 1) (by omega) (by decide)).mp h62))]; exact hm.2.1.2.1) | (rw [if_neg (fun z => z.elim (fun z => h62 (by show nI (wOf x0) = 1; rw [z]; rfl)) (fun z => h68 (by show nI (wOf x0) = 3; rw [z]; rfl)))]; exact hm.2.1.1) | (rw [if_pos (Or.inr ((nI_eq (a := wOf x0) (b := 3) (by omega) (by decide)).mp h68))]; exact hm.2.1.2.1)); exact stC _ _ _)
  have loop : ∀ N, n = nI N → N ≤ 30 → opDraws α n seed = (nI (drwN N seed α).1, (drwN N seed α).2) → ∀ f i τ β s, i + f = N → MInv τ β → aOK β → CEq σ τ → ¬ (tT β).1 = 0 → (drwN N seed α).1 = s + (drwN f (τ.2.1 i_M) β).1 → (drwN N seed α).2 = (drwN f (τ.2.1 i_M) β).2 → ∀ u6 u7 u8 u9, Rw mX11_draws X 40 [some (.ref i_M), some (.int n), some (.long seed), none, some (.int (nI s)), some (.int (nI i)), u6, u7, u8, u9] [] (wd τ x) 0 0 := by
    intro N eN hN eo f
    induction f with
    | zero =>
      intro i τ β s hf hm okβ hce hne e1 e2 u6 u7 u8 u9
      refine R_iload hC dX11_draws_40 rfl (R_iload_n (i := 1) hC dX11_draws_42 rfl rfl ?_)
      refine R_icmp_ge hC 236 dX11_draws_43 (by decide) (fun _ => ?_) (fun h => absurd (by rw [eN]; exact nI_le (by omega) (by omega)) h)
      refine R_iload hC dX11_draws_236 rfl ?_
      exact R_iret hC hT dX11_draws_238 rfl (by
      have q1 : (drwN N seed α).1 = s := e1
      have q2 : (drwN N seed α).2 = β := e2
      rw [eo, q1, q2]; exact MPost.i hm hce)
    -- next
    | succ f ih =>
      intro i τ β s hf hm okβ hce hne e1 e2 u6 u7 u8 u9
      have K : ∀ τ2, MInv τ2 (drAct (wOf (τ.2.1 i_M)) (aOf (τ.2.1 i_M) (tT β)) (bOf (τ.2.1 i_M) (tT β)) (vOf (τ.2.1 i_M)) β).2 → CEq σ τ2 → τ2.2.1 i_M = x4 (τ.2.1 i_M) → ∀ u6 u7 u8 u9, Rw mX11_draws X 230 [some (.ref i_M), some (.int n), some (.long seed), none, some (.int (nI (s + (drAct (wOf (τ.2.1 i_M)) (aOf (τ.2.1 i_M) (tT β)) (bOf (τ.2.1 i_M) (tT β)) (vOf (τ.2.1 i_M)) β).1))), some (.int (nI i)), u6, u7, u8, u9] [] (wd τ2 x) 0 0 := by
        intro τ2 z1 z2 z3 v6 v7 v8 v9
        have hm1 : 0 < (if wOf (τ.2.1 i_M) = 1 ∨ wOf (τ.2.1 i_M) = 3 then (tT β).2.1 else (tT β).1) ∧ (if wOf (τ.2.1 i_M) = 1 ∨ wOf (τ.2.1 i_M) = 3 then (tT β).2.1 else (tT β).1) ≤ 6 := by have := okβ.2.2.1; have o1 := this.1; have o2 := this.2.1; have o3 := this.2.2.1; split <;> omega
        have hm2 : 0 < (if wOf (τ.2.1 i_M) = 2 then (tT β).1 else (tT β).2.1) ∧ (if wOf (τ.2.1 i_M) = 2 then (tT β).1 else (tT β).2.1) ≤ 6 := by have := okβ.2.2.1; have o1 := this.1; have o2 := this.2.1; have o3 := this.2.2.1; split <;> omega
        have hA : aOf (τ.2.1 i_M) (tT β) < 2 ^ 31 := by have := dr_lt (x2 (τ.2.1 i_M)) hm1.1; unfold aOf; omega
        have hB : bOf (τ.2.1 i_M) (tT β) < 2 ^ 31 := by
          have := dr_lt (x3 (τ.2.1 i_M)) hm2.1
          unfold bOf
          split
          · decide
          · omega
        obtain ⟨k1, k2⟩ := drAct_ok (a := aOf (τ.2.1 i_M) (tT β)) (b := bOf (τ.2.1 i_M) (tT β)) okβ hne (vOf_sml (τ.2.1 i_M)) (dr_lt (dx (τ.2.1 i_M)) (m := 6) (by decide)) hA hB
        refine R_iinc hC dX11_draws_230 rfl (inc1 _) (by decide) rfl (R_goto hC 40 dX11_draws_233 (by decide) ?_)
        exact ih (i + 1) τ2 _ _ (by omega) z1 k1 z2 k2 (by rw [e1, z3, drwN]; exact (Nat.add_assoc _ _ _).symm) (by rw [e2, z3, drwN]) _ _ _ _
      refine R_iload hC dX11_draws_40 rfl (R_iload_n (i := 1) hC dX11_draws_42 rfl rfl ?_)
      refine R_icmp_ge hC 236 dX11_draws_43 (by decide) (fun h => absurd h (by rw [eN]; exact nI_ge (by omega) (by omega))) (fun _ => ?_)
      exact body τ β s i hm okβ hce hne K _ _ _ _
  refine R_aload_n (i := 0) hC dX11_draws_0 rfl rfl (R_iconst (v := 0) hC dX11_draws_1 (by decide) (R_pI hC dX11_draws_2 fl_X11_83 L_M rfl (R_aload_n (i := 0) hC dX11_draws_5 rfl rfl (R_gR hC dX11_draws_6 fl_X11_13 L_M rfl (R_bipush (v := 36) hC dX11_draws_9 (by decide) (R_aI hC dX11_draws_11 L_m_now 36 rfl (by decide) (by decide) ?_))))))
  refine R_top (y := nI (tT α).1) hT1 ?_
  refine R_if_eq hC 27 dX11_draws_12 (by decide) (fun h12 => ?_) (fun h12 => ?_)
  · refine R_iconst (v := (-1)) hC dX11_draws_27 (by decide) ?_
    exact R_iret hC hT dX11_draws_28 rfl (by
    have e : opDraws α n seed = (-1, α) := by
      unfold opDraws
      rw [if_neg]
      rintro ⟨q1, q2⟩
      first
      | exact q1 ((T0_iff ok).mp h12)
      | exact ite0 h24 q2
    rw [e]; exact MPost.i h1 c1)
  · refine R_iload_n (i := 1) hC dX11_draws_15 rfl rfl (R_i2l hC dX11_draws_16 (R_lconst (v := 1) hC dX11_draws_17 (by decide) (R_ldc2 hC dX11_draws_18 kc_X11_344 ?_)))
    refine R_S3i hC hR dX11_draws_21 MS_X11_isIn ml_X11_140 (s_isInZ n 1 30 1 30 (by decide) (by decide) _) (by decide) ⟨by decide, by decide⟩ (Nat.le_of_ble_eq_true rfl) ?_
    refine R_if_ne hC 29 dX11_draws_24 (by decide) (fun h24 => ?_) (fun h24 => ?_)
    · have hin := ite1 h24
      have n0 : ¬ (tT α).1 = 0 := fun z => h12 ((T0_iff ok).mpr z)
      obtain ⟨N, eN, hN, hN2⟩ := i32_nI (k := n) (by omega)
      refine R_aload_n (i := 0) hC dX11_draws_29 rfl rfl (R_lload_n (i := 2) hC dX11_draws_30 rfl rfl (R_pL hC dX11_draws_31 fl_X11_336 L_M rfl (uL (by decide)) (R_iconst (v := 0) hC dX11_draws_34 (by decide) (R_istore hC dX11_draws_35 (by decide) rfl (R_iconst (v := 0) hC dX11_draws_37 (by decide) (R_istore hC dX11_draws_38 (by decide) rfl ?_))))))
      exact loop N eN (by omega) (by unfold opDraws; rw [if_pos ⟨n0, hin⟩, eN, nI_clamp hN2]) N 0 _ α 0 (by omega) h1.l ok (c1.l (Nat.le_refl _)) n0 (by rw [sL_eq, Nat.zero_add]) (by rw [sL_eq]) _ _ _ _
    · refine R_iconst (v := (-1)) hC dX11_draws_27 (by decide) ?_
      exact R_iret hC hT dX11_draws_28 rfl (by
      have e : opDraws α n seed = (-1, α) := by
        unfold opDraws
        rw [if_neg]
        rintro ⟨q1, q2⟩
        first
        | exact q1 ((T0_iff ok).mp h12)
        | exact ite0 h24 q2
      rw [e]; exact MPost.i h1 c1)
