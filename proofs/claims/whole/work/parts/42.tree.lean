/-! ===== the tree, by itself: arcs from and to, row by row ===== -/
abbrev tre : Type := (Nat → Nat) × (Nat → Nat)
/-- those of a set that end at a node end at another instead -/
def bnd (set node other : Nat) (t : tre) : tre := (fun r => if set.testBit r = true ∧ t.1 r = node then other else t.1 r, fun r => if set.testBit r = true ∧ ¬ t.1 r = node then other else t.2 r)
/-- the arcs, of the first n, that end at a node -/
def endM (t : tre) (node : Nat) : Nat → Nat
  | 0 => 0
  | n + 1 => if t.1 n = node ∨ t.2 n = node then endM t node n + 2 ^ n else endM t node n
def extT (t : tre) (row node set way : Nat) : tre :=
  (fun r => if r < row then (bnd set node (row + 1) t).1 r else if r = row then (if way = 0 then node else row + 1) else 0,
   fun r => if r < row then (bnd set node (row + 1) t).2 r else if r = row then (if way = 0 then row + 1 else node) else 0)
/-- from which node an arc is left, to which one it comes, in a column -/
def lvA (T : tb) (t : tre) (c r : Nat) : Nat := if T.2.2 r c = 1 then t.1 r else t.2 r
def rcA (T : tb) (t : tre) (c r : Nat) : Nat := if T.2.2 r c = 1 then t.2 r else t.1 r
def onC (T : tb) (n c r : Nat) : Prop := r < n ∧ ¬ T.2.2 r c = 0
/-- nothing comes to where the arc is left -/
def beg (T : tb) (t : tre) (n c r : Nat) : Prop := onC T n c r ∧ ∀ q, onC T n c q → ¬ rcA T t c q = lvA T t c r
def WayP (T : tb) (t : tre) (n c : Nat) : Prop := (∀ r q, onC T n c r → onC T n c q → r ≠ q → lvA T t c r ≠ lvA T t c q ∧ rcA T t c r ≠ rcA T t c q) ∧ ∀ r q, beg T t n c r → beg T t n c q → r = q
def WaysP (T : tb) (t : tre) (n : Nat) : Prop := ∀ c, c < T.2.1 → WayP T t n c
noncomputable def cnd {A : Type} (p : Prop) (a b : A) : A := by classical exact (if p then a else b)
theorem cnd_t {A : Type} {p : Prop} {a b : A} (h : p) : cnd p a b = a := by unfold cnd; rw [if_pos h]
theorem cnd_f {A : Type} {p : Prop} {a b : A} (h : ¬ p) : cnd p a b = b := by unfold cnd; rw [if_neg h]
noncomputable def grw (T : tb) : Nat → Nat → tre → Option tre
  | 0, _, t => some t
  | k + 1, row, t => fs (fun node => fs (fun set => cnd (set &&& endM t node row = set) (fs (fun way => cnd (WaysP T (extT t row node set way) (row + 1)) (grw T k (row + 1) (extT t row node set way)) none) 0 2) none) 0 (endM t node row + 1)) 0 (row + 1)
noncomputable def treeR (T : tb) : Option tre := cnd (tot T) (grw T T.1 0 (fun _ => 0, fun _ => 0)) none
/-- the arcs of a way, one behind the other -/
noncomputable def wsq (T : tb) (t : tre) (n c : Nat) : Nat → Option Nat
  | 0 => fs (fun r => cnd (beg T t n c r) (some r) none) 0 n
  | i + 1 => match wsq T t n c i with
    | some r => fs (fun q => cnd (onC T n c q ∧ lvA T t c q = rcA T t c r) (some q) none) 0 n
    | none => none
/-- rows of ints that hold arcs -/
def ArR (f g : Nat → Int32) (o : Nat) (t : tre) (n : Nat) : Prop := ∀ r, r < n → f (o + r) = nI (t.1 r) ∧ g (o + r) = nI (t.2 r)
/-- arcs of a tree as far as it has grown -/
def nodOK (t : tre) (n : Nat) : Prop := ∀ r, r < n → t.1 r ≤ n ∧ t.2 r ≤ n ∧ t.1 r ≠ t.2 r
theorem endM_lt (t : tre) (node : Nat) : ∀ n, endM t node n < 2 ^ n
  | 0 => by simp [endM]
  | n + 1 => by
    have := endM_lt t node n
    rw [endM, Nat.pow_succ]
    split <;> omega
theorem endM_bit (t : tre) (node r : Nat) : ∀ n, (endM t node n).testBit r = true ↔ r < n ∧ (t.1 r = node ∨ t.2 r = node)
  | 0 => by simp [endM]
  | n + 1 => by
    have ih := endM_bit t node r n
    have lt := endM_lt t node n
    rw [endM]
    by_cases q : t.1 n = node ∨ t.2 n = node
    · rw [if_pos q, Nat.add_comm]
      rcases Nat.lt_trichotomy r n with z | z | z
      · rw [Nat.testBit_two_pow_add_gt z, ih]
        constructor
        · rintro ⟨_, y⟩; exact ⟨by omega, y⟩
        · rintro ⟨_, y⟩; exact ⟨z, y⟩
      · subst z
        rw [Nat.testBit_two_pow_add_eq, Nat.testBit_lt_two_pow lt]
        simp [q]
      · rw [Nat.testBit_lt_two_pow (Nat.lt_of_lt_of_le (show 2 ^ n + endM t node n < 2 ^ (n + 1) by rw [Nat.pow_succ]; omega) (Nat.pow_le_pow_right (by decide) z))]
        simp; omega
    · rw [if_neg q, ih]
      constructor
      · rintro ⟨_, y⟩; exact ⟨by omega, y⟩
      · rintro ⟨y0, y⟩
        rcases (by omega : r < n ∨ r = n) with z | rfl
        · exact ⟨z, y⟩
        · exact absurd y q
theorem nodOK_ext {t : tre} {row node set way : Nat} (h : nodOK t row) (hn : node ≤ row) (hs : ∀ r, set.testBit r = true → r < row ∧ (t.1 r = node ∨ t.2 r = node)) : nodOK (extT t row node set way) (row + 1) := by
  intro r hr
  unfold extT bnd
  simp only
  rcases (by omega : r < row ∨ r = row) with z | rfl
  · rw [if_pos z, if_pos z]
    obtain ⟨h1, h2, h3⟩ := h r z
    by_cases q : set.testBit r = true
    · have q2 := (hs r q).2
      by_cases q3 : t.1 r = node
      · simp [q, q3]; omega
      · simp [q, q3]; omega
    · simp [q]; omega
  · simp only [Nat.lt_irrefl, if_false, if_true]
    split <;> omega
