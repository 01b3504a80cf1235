/-! ===== a forest has no closed ways ===== -/
def atN (t : tre) (r u : Nat) : Prop := t.1 r = u ∨ t.2 r = u
/-- just one arc of S ends at u -/
def lf (t : tre) (n : Nat) (S : Nat → Prop) (u : Nat) : Prop := ∃ r, r < n ∧ S r ∧ atN t r u ∧ ∀ q, q < n → S q → atN t q u → q = r
def F2 (t : tre) (n : Nat) : Prop := ∀ S : Nat → Prop, (∃ r, r < n ∧ S r) → ∃ u v, u ≠ v ∧ lf t n S u ∧ lf t n S v
theorem F2_0 (t : tre) : F2 t 0 := fun S ⟨r, h, _⟩ => absurd h (Nat.not_lt_zero _)
theorem F2_ext {t : tre} {row node set way : Nat} (hF : F2 t row) (h : nodOK t row) (hn : node ≤ row) (hs : set &&& endM t node row = set) (hw : way < 2) : F2 (extT t row node set way) (row + 1) := by
  have sb : ∀ r, set.testBit r = true → r < row ∧ atN t r node := fun r z => by
    have : (set &&& endM t node row).testBit r = true := by rw [hs]; exact z
    rw [Nat.testBit_and, Bool.and_eq_true] at this
    exact (endM_bit t node r row).mp this.2
  -- the new arc
  have nw : ∀ u, atN (extT t row node set way) row u ↔ (u = node ∨ u = row + 1) := fun u => by
    unfold atN extT
    simp only [Nat.lt_irrefl, if_false, if_true]
    rcases (by omega : way = 0 ∨ way = 1) with rfl | rfl
    · simp only [if_true]; omega
    · simp; omega
  -- an old arc, away from the node
  have old : ∀ q u, q < row → u ≠ node → u ≠ row + 1 → (atN (extT t row node set way) q u ↔ atN t q u) := fun q u hq h1 h2 => by
    unfold atN extT bnd
    simp only
    rw [if_pos hq, if_pos hq]
    by_cases z : set.testBit q = true
    · obtain ⟨_, y⟩ := sb q z
      have ne := (h q hq).2.2
      unfold atN at y
      by_cases w : t.1 q = node
      · simp [z, w]; omega
      · have w2 := y.resolve_left w
        simp [z, w]; omega
    · simp [z]
  -- an old arc at the node: it is at the one or at the other
  have at1 : ∀ q, q < row → (atN t q node ↔ (atN (extT t row node set way) q node ∨ atN (extT t row node set way) q (row + 1))) ∧ ¬ (atN (extT t row node set way) q node ∧ atN (extT t row node set way) q (row + 1)) := fun q hq => by
    obtain ⟨b1, b2, ne⟩ := h q hq
    unfold atN extT bnd
    simp only
    rw [if_pos hq, if_pos hq]
    by_cases z : set.testBit q = true
    · obtain ⟨_, y⟩ := sb q z
      unfold atN at y
      by_cases w : t.1 q = node
      · simp [z, w]; omega
      · have w2 := y.resolve_left w
        simp [z, w, w2]; omega
    · simp [z]; omega
  intro S hS
  by_cases h0 : ∃ r, r < row ∧ S r
  · obtain ⟨u, v, uv, lu, lv⟩ := hF S h0
    have far : ∀ u, u ≠ node → lf t row S u → u ≤ row ∧ lf (extT t row node set way) (row + 1) S u := by
      rintro u hu ⟨r, r1, r2, r3, r4⟩
      have ule : u ≤ row := by
        obtain ⟨b1, b2, _⟩ := h r r1
        rcases r3 with z | z <;> omega
      refine ⟨ule, r, by omega, r2, (old r u r1 hu (by omega)).mpr r3, fun q q1 q2 q3 => ?_⟩
      rcases (by omega : q < row ∨ q = row) with z | rfl
      · exact r4 q z q2 ((old q u z hu (by omega)).mp q3)
      · rcases (nw u).mp q3 with y | y <;> omega
    have near : lf t row S node → ∃ w, (w = node ∨ w = row + 1) ∧ lf (extT t row node set way) (row + 1) S w := by
      rintro ⟨r, r1, r2, r3, r4⟩
      -- where the one old arc is now
      obtain ⟨x, y, xy, hx, hy⟩ : ∃ x y, ((x = node ∧ y = row + 1) ∨ (x = row + 1 ∧ y = node)) ∧ atN (extT t row node set way) r x ∧ ¬ atN (extT t row node set way) r y := by
        obtain ⟨a1, a2⟩ := at1 r r1
        rcases a1.mp r3 with z | z
        · exact ⟨node, row + 1, Or.inl ⟨rfl, rfl⟩, z, fun w => a2 ⟨z, w⟩⟩
        · exact ⟨row + 1, node, Or.inr ⟨rfl, rfl⟩, z, fun w => a2 ⟨w, z⟩⟩
      have only : ∀ q, q < row → S q → ∀ w, (w = node ∨ w = row + 1) → atN (extT t row node set way) q w → q = r := fun q q1 q2 w hw q3 => r4 q q1 q2 ((at1 q q1).1.mpr (by rcases hw with rfl | rfl; exact Or.inl q3; exact Or.inr q3))
      by_cases hrow : S row
      · refine ⟨y, by rcases xy with z | z <;> omega, row, by omega, hrow, (nw y).mpr (by rcases xy with z | z <;> omega), fun q q1 q2 q3 => ?_⟩
        rcases (by omega : q < row ∨ q = row) with z | z
        · have := only q z q2 y (by rcases xy with w | w <;> omega) q3
          rw [this] at q3; exact absurd q3 hy
        · exact z
      · refine ⟨x, by rcases xy with z | z <;> omega, r, by omega, r2, hx, fun q q1 q2 q3 => ?_⟩
        rcases (by omega : q < row ∨ q = row) with z | rfl
        · exact only q z q2 x (by rcases xy with w | w <;> omega) q3
        · exact absurd q2 hrow
    by_cases hu : u = node
    · have hv : v ≠ node := by omega
      obtain ⟨w, hw1, hw2⟩ := near (by rw [← hu]; exact lu)
      obtain ⟨f1, f2⟩ := far v hv lv
      exact ⟨w, v, by omega, hw2, f2⟩
    · obtain ⟨f1, f2⟩ := far u hu lu
      by_cases hv : v = node
      · obtain ⟨w, hw1, hw2⟩ := near (by rw [← hv]; exact lv)
        exact ⟨w, u, by omega, hw2, f2⟩
      · exact ⟨u, v, uv, f2, (far v hv lv).2⟩
  · have hrow : S row := by
      obtain ⟨r, r1, r2⟩ := hS
      rcases (by omega : r < row ∨ r = row) with z | rfl
      · exact absurd ⟨r, z, r2⟩ h0
      · exact r2
    have one : ∀ w, (w = node ∨ w = row + 1) → lf (extT t row node set way) (row + 1) S w := fun w hw => ⟨row, by omega, hrow, (nw w).mpr hw, fun q q1 q2 q3 => by
      rcases (by omega : q < row ∨ q = row) with z | z
      · exact absurd ⟨q, z, q2⟩ h0
      · exact z⟩
    exact ⟨node, row + 1, by omega, one node (Or.inl rfl), one (row + 1) (Or.inr rfl)⟩
section WAYS
variable {T : tb} {t : tre} {n c : Nat}
theorem lvat (r : Nat) : atN t r (lvA T t c r) := by unfold atN lvA; split; exact Or.inl rfl; exact Or.inr rfl
theorem rcat (r : Nat) : atN t r (rcA T t c r) := by unfold atN rcA; split; exact Or.inr rfl; exact Or.inl rfl
theorem at_or {r u : Nat} (h : atN t r u) : u = lvA T t c r ∨ u = rcA T t c r := by
  unfold atN lvA rcA at *
  split <;> omega
theorem lv_rc (hok : nodOK t n) {r : Nat} (hr : r < n) : lvA T t c r ≠ rcA T t c r := by
  have := (hok r hr).2.2
  unfold lvA rcA
  split <;> omega
/-- each set of arcs has one that none of them leads to -/
theorem has_beg (hF : F2 t n) (hok : nodOK t n) : ∀ m (S : Nat → Prop), cnO S n = m → (∃ r, r < n ∧ S r) → ∃ r, r < n ∧ S r ∧ ∀ q, q < n → S q → q ≠ r → ¬ rcA T t c q = lvA T t c r := by
  intro m
  induction m using Nat.strongRecOn with
  | ind m ih =>
    intro S hm hS
    refine Classical.byContradiction fun no => ?_
    have pred : ∀ r, r < n → S r → ∃ q, q < n ∧ S q ∧ q ≠ r ∧ rcA T t c q = lvA T t c r := fun r hr hs => Classical.byContradiction fun z => no ⟨r, hr, hs, fun q q1 q2 q3 q4 => z ⟨q, q1, q2, q3, q4⟩⟩
    obtain ⟨u, v, uv, lu, lv⟩ := hF S hS
    -- a leaf to which its arc leads
    have key : ∀ u, lf t n S u → False := by
      rintro u ⟨a, a1, a2, a3, a4⟩
      rcases at_or (T := T) (c := c) a3 with z | z
      · obtain ⟨q, q1, q2, q3, q4⟩ := pred a a1 a2
        exact q3 (a4 q q1 q2 (by rw [z, ← q4]; exact rcat q))
      · -- without that arc all still have one ahead
        have sub : ∀ k, k < n → (S k ∧ k ≠ a) → S k := fun k _ h => h.1
        have lt : cnO (fun k => S k ∧ k ≠ a) n < m := by
          have := cnO_lt (p := fun k => S k ∧ k ≠ a) (q := S) (b := a) (fun h => h.2 rfl) a2 n a1 sub
          omega
        obtain ⟨q0, q1, q2, q3, q4⟩ := pred a a1 a2
        obtain ⟨r, r1, r2, r3⟩ := ih _ lt (fun k => S k ∧ k ≠ a) rfl ⟨q0, q1, q2, q3⟩
        obtain ⟨p, p1, p2, p3, p4⟩ := pred r r1 r2.1
        by_cases pa : p = a
        · subst pa
          exact p3 (a4 r r1 r2.1 (by rw [z, p4]; exact lvat r)).symm
        · exact r3 p p1 ⟨p2, pa⟩ p3 p4
    exact key u lu
/-- a walk along arcs, none twice, from one that none leads to -/
def WK (T : tb) (t : tre) (n c : Nat) (w : Nat → Nat) (k : Nat) : Prop := (∀ i, i ≤ k → onC T n c (w i)) ∧ (∀ i j, i < j → j ≤ k → w i ≠ w j) ∧ (∀ i, i < k → rcA T t c (w i) = lvA T t c (w (i + 1))) ∧ beg T t n c (w 0)
theorem WK.seg (hF : F2 t n) (hok : nodOK t n) {w : Nat → Nat} {k : Nat} (h : WK T t n c w k) {i j : Nat} (hij : i ≤ j) (hj : j ≤ k) : ¬ rcA T t c (w j) = lvA T t c (w i) := fun z => by
  obtain ⟨r, r1, r2, r3⟩ := has_beg (T := T) (c := c) hF hok _ (fun q => ∃ m, i ≤ m ∧ m ≤ j ∧ q = w m) rfl ⟨w i, (h.1 i (by omega)).1, i, Nat.le_refl _, hij, rfl⟩
  obtain ⟨m, m1, m2, rfl⟩ := r2
  rcases (by omega : m = i ∨ i < m) with e | e
  · subst e
    by_cases q : m = j
    · subst q; exact lv_rc (T := T) (c := c) hok (h.1 m (by omega)).1 z.symm
    · exact r3 (w j) (h.1 j hj).1 ⟨j, hij, Nat.le_refl _, rfl⟩ (Ne.symm (h.2.1 m j (by omega) hj)) z
  · have q := h.2.2.1 (m - 1) (by omega)
    rw [show m - 1 + 1 = m by omega] at q
    exact r3 (w (m - 1)) (h.1 (m - 1) (by omega)).1 ⟨m - 1, by omega, by omega, rfl⟩ (h.2.1 (m - 1) m (by omega) (by omega)) q
theorem WK.way (hF : F2 t n) (hok : nodOK t n) {w : Nat → Nat} {k : Nat} (h : WK T t n c w k) (all : ∀ q, onC T n c q → ∃ i, i ≤ k ∧ q = w i) : WayP T t n c := by
  have lt : ∀ i j, i < j → j ≤ k → lvA T t c (w i) ≠ lvA T t c (w j) ∧ rcA T t c (w i) ≠ rcA T t c (w j) := fun i j hij hj => by
    have q := h.2.2.1 (j - 1) (by omega)
    rw [show j - 1 + 1 = j by omega] at q
    constructor
    · intro z
      exact h.seg hF hok (i := i) (j := j - 1) (by omega) (by omega) (by rw [q, z])
    · intro z
      have p := h.2.2.1 i (by omega)
      exact h.seg hF hok (i := i + 1) (j := j) (by omega) hj (by rw [← p, z])
  refine ⟨fun r q hr hq hne => ?_, fun r q hr hq => ?_⟩
  · obtain ⟨i, i1, rfl⟩ := all r hr
    obtain ⟨j, j1, rfl⟩ := all q hq
    rcases Nat.lt_trichotomy i j with z | z | z
    · exact lt i j z j1
    · exact absurd (by rw [z]) hne
    · have := lt j i z i1; exact ⟨this.1.symm, this.2.symm⟩
  · have st : ∀ r, beg T t n c r → r = w 0 := fun r hr => by
      obtain ⟨i, i1, rfl⟩ := all r hr.1
      rcases Nat.eq_zero_or_pos i with z | z
      · rw [z]
      · have q := h.2.2.1 (i - 1) (by omega)
        rw [show i - 1 + 1 = i by omega] at q
        exact absurd q (hr.2 _ (h.1 (i - 1) (by omega)))
    rw [st r hr, st q hq]
/-- where all is a way, a walk that can't go on has all arcs, and its arcs are those of the way -/
theorem WK.full (hF : F2 t n) (hok : nodOK t n) {w : Nat → Nat} {k : Nat} (h : WK T t n c w k) (hw : WayP T t n c) (stuck : ∀ q, onC T n c q → (∀ i, i ≤ k → q ≠ w i) → ¬ lvA T t c q = rcA T t c (w k)) : ∀ q, onC T n c q → ∃ i, i ≤ k ∧ q = w i := by
  refine fun q hq => Classical.byContradiction fun no => ?_
  obtain ⟨r, r1, r2, r3⟩ := has_beg (T := T) (c := c) hF hok _ (fun q => onC T n c q ∧ ∀ i, i ≤ k → q ≠ w i) rfl ⟨q, hq.1, hq, fun i hi z => no ⟨i, hi, z⟩⟩
  by_cases hb : beg T t n c r
  · exact r2.2 0 (Nat.zero_le _) (hw.2 r (w 0) hb h.2.2.2)
  · obtain ⟨p, p1, p2⟩ : ∃ p, onC T n c p ∧ rcA T t c p = lvA T t c r := Classical.byContradiction fun z => hb ⟨r2.1, fun p p1 p2 => z ⟨p, p1, p2⟩⟩
    have pr : p ≠ r := fun z => lv_rc (T := T) (c := c) hok r1 (by rw [← p2, z])
    by_cases hp : ∀ i, i ≤ k → p ≠ w i
    · exact r3 p p1.1 ⟨p1, hp⟩ pr p2
    · obtain ⟨i, i1, rfl⟩ : ∃ i, i ≤ k ∧ p = w i := Classical.byContradiction fun z => hp (fun i hi y => z ⟨i, hi, y⟩)
      rcases (by omega : i < k ∨ i = k) with z | rfl
      · have e := h.2.2.1 i z
        have ne : r ≠ w (i + 1) := r2.2 (i + 1) (by omega)
        exact (hw.1 r (w (i + 1)) r2.1 (h.1 (i + 1) (by omega)) ne).1 (by rw [← p2, e])
      · exact stuck r r2.1 r2.2 p2.symm
theorem WK.seq {w : Nat → Nat} {k : Nat} (h : WK T t n c w k) (hw : WayP T t n c) : ∀ i, i ≤ k → wsq T t n c i = some (w i)
  | 0, _ => by
    rw [wsq]
    refine fs_2 n 0 (Nat.zero_le _) (by have := (h.1 0 (Nat.zero_le _)).1; omega) (cnd_t h.2.2.2) (fun j _ j2 => cnd_f (fun z => ?_))
    have := hw.2 j (w 0) z h.2.2.2; omega
  | i + 1, hi => by
    rw [wsq, WK.seq h hw i (by omega)]
    have e := h.2.2.1 i (by omega)
    have o := h.1 (i + 1) hi
    refine fs_2 n 0 (Nat.zero_le _) (by have := o.1; omega) (cnd_t ⟨o, e.symm⟩) (fun j _ j2 => cnd_f (fun z => ?_))
    exact (hw.1 j (w (i + 1)) z.1 o (by omega)).1 (by rw [z.2, e])
theorem WK.nil {w : Nat → Nat} {k : Nat} (h : WK T t n c w k) (hF : F2 t n) (hok : nodOK t n) (hw : WayP T t n c) (all : ∀ q, onC T n c q → ∃ i, i ≤ k ∧ q = w i) : ∀ i, k < i → wsq T t n c i = none := by
  have first : wsq T t n c (k + 1) = none := by
    rw [wsq, h.seq hw k (Nat.le_refl _)]
    refine fs_nn.mpr (fun q _ _ => cnd_f (fun z => ?_))
    obtain ⟨i, i1, rfl⟩ := all q z.1
    exact h.seg hF hok (i := i) (j := k) i1 (Nat.le_refl _) z.2.symm
  intro i hi
  induction i with
  | zero => omega
  | succ i ih =>
    rcases (by omega : i = k ∨ k < i) with z | z
    · rw [z]; exact first
    · rw [wsq, ih z]
end WAYS
