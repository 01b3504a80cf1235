/-! ===== the abstract state: what both sides hold ===== -/
/-- a script: how many steps; of each its kind, its two digits, its value -/
abbrev scr : Type := Nat × (Nat → Nat → Int32)
/-- tape; table; kept ones; scripts; tables that can be had back; status; image (there is one, its table, how many kept) -/
abbrev aS : Type := (Nat × (Nat → Nat)) × tb × (Nat × (Nat → tb)) × (Nat × (Nat → scr)) × (Nat × (Nat → tb)) × (Nat → Int32) × (Bool × tb × Nat)
abbrev tp (α : aS) : Nat × (Nat → Nat) := α.1
abbrev tT (α : aS) : tb := α.2.1
abbrev tK (α : aS) : Nat × (Nat → tb) := α.2.2.1
abbrev tS (α : aS) : Nat × (Nat → scr) := α.2.2.2.1
abbrev tP (α : aS) : Nat × (Nat → tb) := α.2.2.2.2.1
abbrev tZ (α : aS) : Nat → Int32 := α.2.2.2.2.2.1
abbrev tI (α : aS) : Bool × tb × Nat := α.2.2.2.2.2.2
def dig (v : Int32) : Prop := ∃ d : Nat, d ≤ 9 ∧ v = nI d
/-- a step as a text can tell it -/
def stepOK (s : Nat → Int32) : Prop := ∃ k : Nat, k ≤ 6 ∧ s 0 = nI k ∧ (k = 5 ∨ dig (s 1)) ∧ (k < 2 ∨ k = 5 ∨ dig (s 2)) ∧ (k = 6 → sml (s 3))
def tbOK (T : tb) : Prop := T.1 ≤ 6 ∧ T.2.1 ≤ 6 ∧ (T.1 = 0 ↔ T.2.1 = 0) ∧ ∀ i j, i < T.1 → j < T.2.1 → sml (T.2.2 i j)
def aOK (α : aS) : Prop := (tp α).1 ≤ 240 ∧ (∀ i, i < (tp α).1 → 1 ≤ (tp α).2 i ∧ (tp α).2 i ≤ 255) ∧ tbOK (tT α) ∧ ((tK α).1 ≤ 4 ∧ ∀ k, k < (tK α).1 → tbOK ((tK α).2 k) ∧ 1 ≤ ((tK α).2 k).1) ∧
  ((tS α).1 ≤ 4 ∧ ∀ k, k < (tS α).1 → 1 ≤ ((tS α).2 k).1 ∧ ((tS α).2 k).1 ≤ 12 ∧ ∀ i, i < ((tS α).2 k).1 → stepOK (((tS α).2 k).2 i)) ∧ ((tP α).1 ≤ 40 ∧ ∀ k, k < (tP α).1 → tbOK ((tP α).2 k)) ∧
  ((tI α).1 = true → tbOK (tI α).2.1 ∧ 1 ≤ (tI α).2.1.1 ∧ (tI α).2.2 ≤ (tK α).1)
/-- what a row of 38 holds, of a table that is well formed -/
def TR (g : Nat → Int32) (T : tb) : Prop := g 36 = nI T.1 ∧ g 37 = nI T.2.1 ∧ ∀ i j, i < T.1 → j < T.2.1 → g (6 * i + j) = T.2.2 i j
theorem TR.TB {g : Nat → Int32} {T : tb} (h : TR g T) (ok : tbOK T) : TB g T := ⟨h.1, h.2.1, ok.1, ok.2.1, fun i j hi hj => ⟨h.2.2 i j hi hj, ok.2.2.2 i j hi hj⟩⟩
theorem TB.TR {g : Nat → Int32} {T : tb} (h : TB g T) : TR g T := ⟨h.1, h.2.1, fun i j hi hj => (h.2.2.2.2 i j hi hj).1⟩
theorem TR.congr {g h : Nat → Int32} {T : tb} (q : TR g T) (ok : tbOK T) (e : ∀ k, k < 38 → h k = g k) : TR h T := by
  obtain ⟨o1, o2, -, -⟩ := ok
  refine ⟨by rw [e _ (by decide)]; exact q.1, by rw [e _ (by decide)]; exact q.2.1, fun i j hi hj => ?_⟩
  rw [e _ (by omega)]; exact q.2.2 i j hi hj
/-- the model's cells hold the abstract state -/
def MInv (σ : sg) (α : aS) : Prop :=
  (σ.1 i_M 2 = nI (tp α).1 ∧ ∀ i, i < (tp α).1 → σ.2.2 i_m_tape i &&& 255 = nI ((tp α).2 i)) ∧ TR (σ.2.2 i_m_now) (tT α) ∧
  (σ.1 i_M 12 = nI (tK α).1 ∧ ∀ k, k < (tK α).1 → TR (fun q => σ.2.2 i_m_kept (38 * k + q)) ((tK α).2 k)) ∧
  (σ.1 i_M 13 = nI (tS α).1 ∧ ∀ k, k < (tS α).1 → σ.2.2 i_m_planLong k = nI ((tS α).2 k).1 ∧ ∀ i j, i < ((tS α).2 k).1 → j < 4 → σ.2.2 i_m_plan (4 * (12 * k + i) + j) = ((tS α).2 k).2 i j) ∧
  (σ.1 i_M 15 = nI (tP α).1 ∧ ∀ k, k < (tP α).1 → TR (fun q => σ.2.2 i_m_undoRow (38 * k + q)) ((tP α).2 k)) ∧
  (∀ i, i < 4 → σ.2.2 i_m_status i = tZ α i) ∧
  (σ.1 i_M 34 = (if (tI α).1 then 1 else 0) ∧ ((tI α).1 = true → TR (σ.2.2 i_m_imageRow) (tI α).2.1 ∧ σ.1 i_M 33 = nI (tI α).2.2))
/-- the class's cells are the same -/
def CEq (σ τ : sg) : Prop := ∀ i, i < i_M → τ.1 i = σ.1 i ∧ τ.2.1 i = σ.2.1 i ∧ τ.2.2 i = σ.2.2 i
/-- the model's cells are the same -/
def MEq (σ τ : sg) : Prop := ∀ i, i_M ≤ i → τ.1 i = σ.1 i ∧ τ.2.1 i = σ.2.1 i ∧ τ.2.2 i = σ.2.2 i
theorem CEq.rf (σ : sg) : CEq σ σ := fun _ _ => ⟨rfl, rfl, rfl⟩
theorem CEq.tr {σ τ υ : sg} (h : CEq σ τ) (h2 : CEq τ υ) : CEq σ υ := fun i hi => ⟨(h2 i hi).1.trans (h i hi).1, (h2 i hi).2.1.trans (h i hi).2.1, (h2 i hi).2.2.trans (h i hi).2.2⟩
theorem CEq.g {σ τ : sg} (h : CEq σ τ) {i k : Nat} {v : Int32} (hi : i_M ≤ i) : CEq σ (sG τ i k v) := h.tr fun j hj => ⟨by funext b; exact sG_ni (by omega), rfl, rfl⟩
theorem CEq.l {σ τ : sg} (h : CEq σ τ) {i : Nat} {v : Int64} (hi : i_M ≤ i) : CEq σ (sL τ i v) := h.tr fun j hj => ⟨rfl, by show (if j = i then v else τ.2.1 j) = _; rw [if_neg (by omega)], rfl⟩
theorem CEq.a {σ τ : sg} (h : CEq σ τ) {i : Nat} {f : Nat → Int32} (hi : i_M ≤ i) : CEq σ (sA τ i f) := h.tr fun j hj => ⟨rfl, rfl, sA_ne (by omega)⟩
theorem MInv.of {σ τ : sg} {α : aS} (h : MInv σ α) (h2 : τ.1 i_M 2 = σ.1 i_M 2) (h12 : τ.1 i_M 12 = σ.1 i_M 12) (h13 : τ.1 i_M 13 = σ.1 i_M 13) (h15 : τ.1 i_M 15 = σ.1 i_M 15) (h33 : τ.1 i_M 33 = σ.1 i_M 33) (h34 : τ.1 i_M 34 = σ.1 i_M 34)
    (a1 : τ.2.2 i_m_tape = σ.2.2 i_m_tape) (a2 : τ.2.2 i_m_now = σ.2.2 i_m_now) (a3 : τ.2.2 i_m_kept = σ.2.2 i_m_kept) (a4 : τ.2.2 i_m_plan = σ.2.2 i_m_plan) (a5 : τ.2.2 i_m_planLong = σ.2.2 i_m_planLong) (a6 : τ.2.2 i_m_status = σ.2.2 i_m_status) (a7 : τ.2.2 i_m_undoRow = σ.2.2 i_m_undoRow) (a8 : τ.2.2 i_m_imageRow = σ.2.2 i_m_imageRow) : MInv τ α := by
  unfold MInv
  rw [h2, h12, h13, h15, h33, h34, a1, a2, a3, a4, a5, a6, a7, a8]
  exact h
theorem MInv.g {σ : sg} {α : aS} (h : MInv σ α) {k : Nat} {v : Int32} (hk : k ≠ 2 ∧ k ≠ 12 ∧ k ≠ 13 ∧ k ≠ 15 ∧ k ≠ 33 ∧ k ≠ 34) : MInv (sG σ i_M k v) α :=
  h.of (sG_nk (Ne.symm hk.1)) (sG_nk (Ne.symm hk.2.1)) (sG_nk (Ne.symm hk.2.2.1)) (sG_nk (Ne.symm hk.2.2.2.1)) (sG_nk (Ne.symm hk.2.2.2.2.1)) (sG_nk (Ne.symm hk.2.2.2.2.2)) rfl rfl rfl rfl rfl rfl rfl rfl
theorem MInv.l {σ : sg} {α : aS} (h : MInv σ α) {i : Nat} {v : Int64} : MInv (sL σ i v) α := h.of rfl rfl rfl rfl rfl rfl rfl rfl rfl rfl rfl rfl rfl rfl
theorem MInv.a {σ : sg} {α : aS} (h : MInv σ α) {i : Nat} {f : Nat → Int32} (hi : i ≠ i_m_tape ∧ i ≠ i_m_now ∧ i ≠ i_m_kept ∧ i ≠ i_m_plan ∧ i ≠ i_m_planLong ∧ i ≠ i_m_status ∧ i ≠ i_m_undoRow ∧ i ≠ i_m_imageRow) : MInv (sA σ i f) α :=
  h.of rfl rfl rfl rfl rfl rfl (sA_ne (Ne.symm hi.1)) (sA_ne (Ne.symm hi.2.1)) (sA_ne (Ne.symm hi.2.2.1)) (sA_ne (Ne.symm hi.2.2.2.1)) (sA_ne (Ne.symm hi.2.2.2.2.1)) (sA_ne (Ne.symm hi.2.2.2.2.2.1)) (sA_ne (Ne.symm hi.2.2.2.2.2.2.1)) (sA_ne (Ne.symm hi.2.2.2.2.2.2.2))
/-- the end of one of the model's calls -/
def MPost (σ : sg) (x : aW) (v : Int32) (α : aS) : Option Value → aW → Prop := fun r w => r = some (.int v) ∧ ∃ τ, w = wd τ x ∧ MInv τ α ∧ CEq σ τ
theorem MPost.i {σ τ : sg} {x : aW} {v : Int32} {α : aS} (h : MInv τ α) (c : CEq σ τ) : MPost σ x v α (some (.int v)) (wd τ x) := ⟨rfl, τ, rfl, h, c⟩
theorem M_thr {σ : sg} {α : aS} (h : MInv σ α) (v : Int32) : MInv (sG σ i_M 0 v) α := h.g (by decide)
theorem T0_iff {α : aS} (ok : aOK α) : (nI (tT α).1 = (0 : Int32)) ↔ (tT α).1 = 0 := nI_eq (b := 0) (by have := ok.2.2.1.1; omega) (by decide)
theorem Mt.mono {m : mi} {d mc ms : Nat} {as : List Value} {w : aW} {Q Q2 : Option Value → aW → Prop} (h : Mt m d mc ms as w Q) (e : ∀ r w1, Q r w1 → Q2 r w1) : Mt m d mc ms as w Q2 := by
  intro l V hV
  refine MetFree.mono (h l V hV) (fun _ _ q => q) (fun _ _ _ _ _ q => q) ?_
  rintro a st o t - ⟨⟨r, w1, h1, h2, h3⟩, h4⟩
  exact ⟨⟨r, w1, h1, e r w1 h2, h3⟩, h4⟩
