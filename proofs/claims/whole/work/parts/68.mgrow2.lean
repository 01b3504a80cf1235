/-! ===== bending back ===== -/
theorem bnd_back {t : tre} {row node set : Nat} (h : nodOK t row) (hs : ∀ r, set.testBit r = true → r < row ∧ (t.1 r = node ∨ t.2 r = node)) : ∀ r, r < row → (bnd set (row + 1) node (bnd set node (row + 1) t)).1 r = t.1 r ∧ (bnd set (row + 1) node (bnd set node (row + 1) t)).2 r = t.2 r := by
  intro r hr
  have o := h r hr
  unfold bnd
  by_cases z : set.testBit r = true
  · have q := (hs r z).2
    by_cases y : t.1 r = node
    · simp [z, y]
    · have y2 : t.2 r = node := q.resolve_left y
      have n1 : ¬ t.1 r = row + 1 := by omega
      simp [z, y, y2, n1]
  · simp [z]
