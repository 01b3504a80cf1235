/-- a table: rows, columns, entries -/
abbrev tb : Type := Nat × Nat × (Nat → Nat → Int32)
def sml (v : Int32) : Prop := v = -1 ∨ v = 0 ∨ v = 1
/-- what a row of 38 holds -/
def TB (g : Nat → Int32) (T : tb) : Prop := g 36 = nI T.1 ∧ g 37 = nI T.2.1 ∧ T.1 ≤ 6 ∧ T.2.1 ≤ 6 ∧ ∀ i j, i < T.1 → j < T.2.1 → g (6 * i + j) = T.2.2 i j ∧ sml (T.2.2 i j)
theorem TB.in {g : Nat → Int32} {T : tb} (h : TB g T) {r c : Int32} (q : inT g r c) : ∃ i j : Nat, r = nI i ∧ c = nI j ∧ i < T.1 ∧ j < T.2.1 := by
  obtain ⟨h1, h2, h3, h4⟩ := q
  obtain ⟨i, rfl, hi, _⟩ := i32_nI h1
  obtain ⟨j, rfl, hj, _⟩ := i32_nI h3
  have e1 := nI_toInt (n := T.1) (by have := h.2.2.1; omega)
  have e2 := nI_toInt (n := T.2.1) (by have := h.2.2.2.1; omega)
  rw [h.1, e1] at h2
  rw [h.2.1, e2] at h4
  exact ⟨i, j, rfl, rfl, by omega, by omega⟩
theorem TB.inI {g : Nat → Int32} {T : tb} (h : TB g T) {i j : Nat} (hi : i < T.1) (hj : j < T.2.1) : inT g (nI i) (nI j) := by
  obtain ⟨h1, h2, h3, h4, -⟩ := h
  unfold inT
  rw [h1, h2, nI_toInt (by omega), nI_toInt (by omega), nI_toInt (by omega), nI_toInt (by omega)]
  omega
theorem sml_in {v : Int32} : sml v ↔ (-1 ≤ v.toInt ∧ v.toInt ≤ 1) := by
  constructor
  · rintro (rfl | rfl | rfl) <;> decide
  · rintro ⟨h1, h2⟩
    rcases (by omega : v.toInt = -1 ∨ v.toInt = 0 ∨ v.toInt = 1) with h | h | h
    · exact Or.inl (Int32.toInt_inj.mp h)
    · exact Or.inr (Or.inl (Int32.toInt_inj.mp h))
    · exact Or.inr (Or.inr (Int32.toInt_inj.mp h))
/-- a table turned on an entry -/
def tturn (r c : Nat) (f : Nat → Nat → Int32) (i j : Nat) : Int32 :=
  if i = r ∧ j = c then -(f r c) else if i = r ∨ j = c then f i j * f r c else f i j - f r c * f i c * f r j
theorem dX11_swaps_0 : decode cX11_swaps 0 = .ok (.aload_n 0, 1) := by decide +kernel
theorem dX11_swaps_1 : decode cX11_swaps 1 = .ok (.iload_n 1, 1) := by decide +kernel
theorem dX11_swaps_2 : decode cX11_swaps 2 = .ok (.iaload, 1) := by decide +kernel
theorem dX11_swaps_3 : decode cX11_swaps 3 = .ok (.istore_n 3, 1) := by decide +kernel
theorem dX11_swaps_4 : decode cX11_swaps 4 = .ok (.aload_n 0, 1) := by decide +kernel
theorem dX11_swaps_5 : decode cX11_swaps 5 = .ok (.iload_n 1, 1) := by decide +kernel
theorem dX11_swaps_6 : decode cX11_swaps 6 = .ok (.aload_n 0, 1) := by decide +kernel
theorem dX11_swaps_7 : decode cX11_swaps 7 = .ok (.iload_n 2, 1) := by decide +kernel
theorem dX11_swaps_8 : decode cX11_swaps 8 = .ok (.iaload, 1) := by decide +kernel
theorem dX11_swaps_9 : decode cX11_swaps 9 = .ok (.iastore, 1) := by decide +kernel
theorem dX11_swaps_10 : decode cX11_swaps 10 = .ok (.aload_n 0, 1) := by decide +kernel
theorem dX11_swaps_11 : decode cX11_swaps 11 = .ok (.iload_n 2, 1) := by decide +kernel
theorem dX11_swaps_12 : decode cX11_swaps 12 = .ok (.iload_n 3, 1) := by decide +kernel
theorem dX11_swaps_13 : decode cX11_swaps 13 = .ok (.iastore, 1) := by decide +kernel
theorem dX11_swaps_14 : decode cX11_swaps 14 = .ok (.return_, 1) := by decide +kernel
theorem dX11_canTurn_0 : decode cX11_canTurn 0 = .ok (.aload_n 1, 1) := by decide +kernel
theorem dX11_canTurn_1 : decode cX11_canTurn 1 = .ok (.bipush 6, 2) := by decide +kernel
theorem dX11_canTurn_3 : decode cX11_canTurn 3 = .ok (.iload_n 2, 1) := by decide +kernel
theorem dX11_canTurn_4 : decode cX11_canTurn 4 = .ok (.imul, 1) := by decide +kernel
theorem dX11_canTurn_5 : decode cX11_canTurn 5 = .ok (.iload_n 3, 1) := by decide +kernel
theorem dX11_canTurn_6 : decode cX11_canTurn 6 = .ok (.iadd, 1) := by decide +kernel
theorem dX11_canTurn_7 : decode cX11_canTurn 7 = .ok (.iaload, 1) := by decide +kernel
theorem dX11_canTurn_8 : decode cX11_canTurn 8 = .ok (.istore 4, 2) := by decide +kernel
theorem dX11_canTurn_10 : decode cX11_canTurn 10 = .ok (.aload_n 1, 1) := by decide +kernel
theorem dX11_canTurn_11 : decode cX11_canTurn 11 = .ok (.aload_n 0, 1) := by decide +kernel
theorem dX11_canTurn_12 : decode cX11_canTurn 12 = .ok (.getfield 20, 3) := by decide +kernel
theorem dX11_canTurn_15 : decode cX11_canTurn 15 = .ok (.invokestatic 170, 3) := by decide +kernel
theorem dX11_canTurn_18 : decode cX11_canTurn 18 = .ok (.iconst 0, 1) := by decide +kernel
theorem dX11_canTurn_19 : decode cX11_canTurn 19 = .ok (.istore 5, 2) := by decide +kernel
theorem dX11_canTurn_21 : decode cX11_canTurn 21 = .ok (.iload 5, 2) := by decide +kernel
theorem dX11_canTurn_23 : decode cX11_canTurn 23 = .ok (.aload_n 1, 1) := by decide +kernel
theorem dX11_canTurn_24 : decode cX11_canTurn 24 = .ok (.bipush 36, 2) := by decide +kernel
theorem dX11_canTurn_26 : decode cX11_canTurn 26 = .ok (.iaload, 1) := by decide +kernel
theorem dX11_canTurn_27 : decode cX11_canTurn 27 = .ok (.if_icmp .ge 138, 3) := by decide +kernel
theorem dX11_canTurn_30 : decode cX11_canTurn 30 = .ok (.iconst 0, 1) := by decide +kernel
theorem dX11_canTurn_31 : decode cX11_canTurn 31 = .ok (.istore 6, 2) := by decide +kernel
theorem dX11_canTurn_33 : decode cX11_canTurn 33 = .ok (.iload 6, 2) := by decide +kernel
theorem dX11_canTurn_35 : decode cX11_canTurn 35 = .ok (.aload_n 1, 1) := by decide +kernel
theorem dX11_canTurn_36 : decode cX11_canTurn 36 = .ok (.bipush 37, 2) := by decide +kernel
theorem dX11_canTurn_38 : decode cX11_canTurn 38 = .ok (.iaload, 1) := by decide +kernel
theorem dX11_canTurn_39 : decode cX11_canTurn 39 = .ok (.if_icmp .ge 120, 3) := by decide +kernel
theorem dX11_canTurn_42 : decode cX11_canTurn 42 = .ok (.aload_n 1, 1) := by decide +kernel
theorem dX11_canTurn_43 : decode cX11_canTurn 43 = .ok (.bipush 6, 2) := by decide +kernel
theorem dX11_canTurn_45 : decode cX11_canTurn 45 = .ok (.iload 5, 2) := by decide +kernel
theorem dX11_canTurn_47 : decode cX11_canTurn 47 = .ok (.imul, 1) := by decide +kernel
theorem dX11_canTurn_48 : decode cX11_canTurn 48 = .ok (.iload 6, 2) := by decide +kernel
theorem dX11_canTurn_50 : decode cX11_canTurn 50 = .ok (.iadd, 1) := by decide +kernel
theorem dX11_canTurn_51 : decode cX11_canTurn 51 = .ok (.iaload, 1) := by decide +kernel
theorem dX11_canTurn_52 : decode cX11_canTurn 52 = .ok (.istore 7, 2) := by decide +kernel
theorem dX11_canTurn_54 : decode cX11_canTurn 54 = .ok (.iload 5, 2) := by decide +kernel
theorem dX11_canTurn_56 : decode cX11_canTurn 56 = .ok (.iload_n 2, 1) := by decide +kernel
theorem dX11_canTurn_57 : decode cX11_canTurn 57 = .ok (.if_icmp .ne 17, 3) := by decide +kernel
theorem dX11_canTurn_60 : decode cX11_canTurn 60 = .ok (.iload 6, 2) := by decide +kernel
theorem dX11_canTurn_62 : decode cX11_canTurn 62 = .ok (.iload_n 3, 1) := by decide +kernel
theorem dX11_canTurn_63 : decode cX11_canTurn 63 = .ok (.if_icmp .ne 11, 3) := by decide +kernel
theorem dX11_canTurn_66 : decode cX11_canTurn 66 = .ok (.iload 4, 2) := by decide +kernel
theorem dX11_canTurn_68 : decode cX11_canTurn 68 = .ok (.ineg, 1) := by decide +kernel
theorem dX11_canTurn_69 : decode cX11_canTurn 69 = .ok (.istore 7, 2) := by decide +kernel
theorem dX11_canTurn_71 : decode cX11_canTurn 71 = .ok (.goto 52, 3) := by decide +kernel
theorem dX11_canTurn_74 : decode cX11_canTurn 74 = .ok (.iload 5, 2) := by decide +kernel
theorem dX11_canTurn_76 : decode cX11_canTurn 76 = .ok (.iload_n 2, 1) := by decide +kernel
theorem dX11_canTurn_77 : decode cX11_canTurn 77 = .ok (.if_icmp .eq 9, 3) := by decide +kernel
theorem dX11_canTurn_80 : decode cX11_canTurn 80 = .ok (.iload 6, 2) := by decide +kernel
theorem dX11_canTurn_82 : decode cX11_canTurn 82 = .ok (.iload_n 3, 1) := by decide +kernel
theorem dX11_canTurn_83 : decode cX11_canTurn 83 = .ok (.if_icmp .ne 13, 3) := by decide +kernel
theorem dX11_canTurn_86 : decode cX11_canTurn 86 = .ok (.iload 7, 2) := by decide +kernel
theorem dX11_canTurn_88 : decode cX11_canTurn 88 = .ok (.iload 4, 2) := by decide +kernel
theorem dX11_canTurn_90 : decode cX11_canTurn 90 = .ok (.imul, 1) := by decide +kernel
theorem dX11_canTurn_91 : decode cX11_canTurn 91 = .ok (.istore 7, 2) := by decide +kernel
theorem dX11_canTurn_93 : decode cX11_canTurn 93 = .ok (.goto 30, 3) := by decide +kernel
theorem dX11_canTurn_96 : decode cX11_canTurn 96 = .ok (.iload 7, 2) := by decide +kernel
theorem dX11_canTurn_98 : decode cX11_canTurn 98 = .ok (.iload 4, 2) := by decide +kernel
theorem dX11_canTurn_100 : decode cX11_canTurn 100 = .ok (.aload_n 1, 1) := by decide +kernel
theorem dX11_canTurn_101 : decode cX11_canTurn 101 = .ok (.bipush 6, 2) := by decide +kernel
theorem dX11_canTurn_103 : decode cX11_canTurn 103 = .ok (.iload 5, 2) := by decide +kernel
theorem dX11_canTurn_105 : decode cX11_canTurn 105 = .ok (.imul, 1) := by decide +kernel
theorem dX11_canTurn_106 : decode cX11_canTurn 106 = .ok (.iload_n 3, 1) := by decide +kernel
theorem dX11_canTurn_107 : decode cX11_canTurn 107 = .ok (.iadd, 1) := by decide +kernel
theorem dX11_canTurn_108 : decode cX11_canTurn 108 = .ok (.iaload, 1) := by decide +kernel
theorem dX11_canTurn_109 : decode cX11_canTurn 109 = .ok (.imul, 1) := by decide +kernel
theorem dX11_canTurn_110 : decode cX11_canTurn 110 = .ok (.aload_n 1, 1) := by decide +kernel
theorem dX11_canTurn_111 : decode cX11_canTurn 111 = .ok (.bipush 6, 2) := by decide +kernel
theorem dX11_canTurn_113 : decode cX11_canTurn 113 = .ok (.iload_n 2, 1) := by decide +kernel
theorem dX11_canTurn_114 : decode cX11_canTurn 114 = .ok (.imul, 1) := by decide +kernel
theorem dX11_canTurn_115 : decode cX11_canTurn 115 = .ok (.iload 6, 2) := by decide +kernel
theorem dX11_canTurn_117 : decode cX11_canTurn 117 = .ok (.iadd, 1) := by decide +kernel
theorem dX11_canTurn_118 : decode cX11_canTurn 118 = .ok (.iaload, 1) := by decide +kernel
theorem dX11_canTurn_119 : decode cX11_canTurn 119 = .ok (.imul, 1) := by decide +kernel
theorem dX11_canTurn_120 : decode cX11_canTurn 120 = .ok (.isub, 1) := by decide +kernel
theorem dX11_canTurn_121 : decode cX11_canTurn 121 = .ok (.istore 7, 2) := by decide +kernel
theorem dX11_canTurn_123 : decode cX11_canTurn 123 = .ok (.iload 7, 2) := by decide +kernel
theorem dX11_canTurn_125 : decode cX11_canTurn 125 = .ok (.i2l, 1) := by decide +kernel
theorem dX11_canTurn_126 : decode cX11_canTurn 126 = .ok (.ldc2_w 162, 3) := by decide +kernel
theorem dX11_canTurn_129 : decode cX11_canTurn 129 = .ok (.lconst 1, 1) := by decide +kernel
theorem dX11_canTurn_130 : decode cX11_canTurn 130 = .ok (.invokestatic 140, 3) := by decide +kernel
theorem dX11_canTurn_133 : decode cX11_canTurn 133 = .ok (.ifCond .ne 5, 3) := by decide +kernel
theorem dX11_canTurn_136 : decode cX11_canTurn 136 = .ok (.iconst 0, 1) := by decide +kernel
theorem dX11_canTurn_137 : decode cX11_canTurn 137 = .ok (.ireturn, 1) := by decide +kernel
theorem dX11_canTurn_138 : decode cX11_canTurn 138 = .ok (.aload_n 0, 1) := by decide +kernel
theorem dX11_canTurn_139 : decode cX11_canTurn 139 = .ok (.getfield 20, 3) := by decide +kernel
theorem dX11_canTurn_142 : decode cX11_canTurn 142 = .ok (.bipush 6, 2) := by decide +kernel
theorem dX11_canTurn_144 : decode cX11_canTurn 144 = .ok (.iload 5, 2) := by decide +kernel
theorem dX11_canTurn_146 : decode cX11_canTurn 146 = .ok (.imul, 1) := by decide +kernel
theorem dX11_canTurn_147 : decode cX11_canTurn 147 = .ok (.iload 6, 2) := by decide +kernel
theorem dX11_canTurn_149 : decode cX11_canTurn 149 = .ok (.iadd, 1) := by decide +kernel
theorem dX11_canTurn_150 : decode cX11_canTurn 150 = .ok (.iload 7, 2) := by decide +kernel
theorem dX11_canTurn_152 : decode cX11_canTurn 152 = .ok (.iastore, 1) := by decide +kernel
theorem dX11_canTurn_153 : decode cX11_canTurn 153 = .ok (.iinc 6 1, 3) := by decide +kernel
theorem dX11_canTurn_156 : decode cX11_canTurn 156 = .ok (.goto (-123), 3) := by decide +kernel
theorem dX11_canTurn_159 : decode cX11_canTurn 159 = .ok (.iinc 5 1, 3) := by decide +kernel
theorem dX11_canTurn_162 : decode cX11_canTurn 162 = .ok (.goto (-141), 3) := by decide +kernel
theorem dX11_canTurn_165 : decode cX11_canTurn 165 = .ok (.iconst 1, 1) := by decide +kernel
theorem dX11_canTurn_166 : decode cX11_canTurn 166 = .ok (.ireturn, 1) := by decide +kernel
theorem s_swaps (σ : sg) (x : aW) (t : Nat) (ht : LY t (0, 38, [])) (a b : Nat) (ha : a < 38) (hb : b < 38) : Mt mX11_swaps 0 0 0 [.ref t, .int (nI a), .int (nI b)] (wd σ x) (QV (wd (sA σ t (upd (upd (σ.2.2 t) a (σ.2.2 t b)) b (σ.2.2 t a))) x)) := by
  refine Mt.of MI_X11_swaps (Nat.le_of_ble_eq_true rfl) (fun X hC hR hT => ?_)
  refine R_aload_n (i := 0) hC dX11_swaps_0 rfl rfl (R_iload_n (i := 1) hC dX11_swaps_1 rfl rfl (R_aI hC dX11_swaps_2 ht _ rfl (by omega) (by decide) (R_istore_n (i := 3) hC dX11_swaps_3 rfl (by decide) rfl (R_aload_n (i := 0) hC dX11_swaps_4 rfl rfl (R_iload_n (i := 1) hC dX11_swaps_5 rfl rfl (R_aload_n (i := 0) hC dX11_swaps_6 rfl rfl (R_iload_n (i := 2) hC dX11_swaps_7 rfl rfl ?_)))))))
  refine R_aI hC dX11_swaps_8 ht _ rfl (by omega) (by decide) (R_sI hC dX11_swaps_9 ht _ rfl (by omega) (by decide) (R_aload_n (i := 0) hC dX11_swaps_10 rfl rfl (R_iload_n (i := 2) hC dX11_swaps_11 rfl rfl (R_iload_n (i := 3) hC dX11_swaps_12 rfl rfl (R_sI hC dX11_swaps_13 ht _ rfl (by omega) (by decide) ?_)))))
  exact R_vret hC hT dX11_swaps_14 rfl ⟨rfl, by rw [sA_sA, sA_eq]⟩
theorem nI_inj {a b : Nat} (ha : a < 2 ^ 31) (hb : b < 2 ^ 31) (h : nI a = nI b) : a = b := (nI_eq ha hb).mp h
/-- canTurn: whether all entries, turned, are within -1 .. 1; then the trial holds them -/
theorem s_canTurn (σ : sg) (x : aW) (t : Nat) (ht : LY t (0, 38, [])) (hne : t ≠ i_m_trial) (T : tb) (hT0 : TB (σ.2.2 t) T) (r c : Nat) (hr : r < T.1) (hc : c < T.2.1) :
    Mt mX11_canTurn 1 0 0 [.ref i_M, .ref t, .int (nI r), .int (nI c)] (wd σ x) (fun q w => ∃ g : Nat → Int32, w = wd (sA σ i_m_trial g) x ∧
      (((∀ i j, i < T.1 → j < T.2.1 → sml (tturn r c T.2.2 i j)) ∧ q = some (.int 1) ∧ TB g (T.1, T.2.1, tturn r c T.2.2)) ∨ (¬ (∀ i j, i < T.1 → j < T.2.1 → sml (tturn r c T.2.2 i j)) ∧ q = some (.int 0)))) := by
  refine Mt.of MI_X11_canTurn (Nat.le_of_ble_eq_true rfl) (fun X hC hR hT => ?_)
  obtain ⟨hR1, hC1, hR6, hC6, hE⟩ := id hT0
  have rd : ∀ {i j : Nat}, i < T.1 → j < T.2.1 → σ.2.2 t (6 * i + j) = T.2.2 i j := fun hi hj => (hE _ _ hi hj).1
  have e0 : ∀ (g : Nat → Int32) (k : Nat), (sA σ i_m_trial g).2.2 t k = σ.2.2 t k := fun g k => by rw [sA_ne hne]
  -- both loops: the trial holds what was turned so far
  have key : ∀ n, n ≤ T.1 → ∀ g : Nat → Int32, g 36 = nI T.1 → g 37 = nI T.2.1 → (∀ i j, i < n → j < T.2.1 → g (6 * i + j) = tturn r c T.2.2 i j ∧ sml (tturn r c T.2.2 i j)) → ∀ (u6 u7 : Option Value), Rw mX11_canTurn X 21 [some (.ref i_M), some (.ref t), some (.int (nI r)), some (.int (nI c)), some (.int (T.2.2 r c)), some (.int (nI n)), u6, u7] [] (wd (sA σ i_m_trial g) x) 0 0 := by
    refine up_loop T.1 ?_ ?_
    · intro g h36 h37 hg u6 u7
      refine R_iload hC dX11_canTurn_21 rfl (R_aload_n (i := 1) hC dX11_canTurn_23 rfl rfl (R_bipush (v := 36) hC dX11_canTurn_24 (by decide) (R_aI hC dX11_canTurn_26 ht 36 rfl (by decide) (by decide) ?_)))
      refine R_top (y := nI T.1) (by rw [e0, hR1]) ?_
      refine R_icmp_ge hC 165 dX11_canTurn_27 (by decide) (fun _ => ?_) (fun h => absurd (Int32.le_refl _) h)
      refine R_iconst (v := 1) hC dX11_canTurn_165 (by decide) ?_
      exact R_zret hC hT dX11_canTurn_166 rfl (by decide) ⟨g, rfl, Or.inl ⟨fun i j hi hj => (hg i j hi hj).2, rfl, h36, h37, hR6, hC6, hg⟩⟩
    · intro n hn ih g h36 h37 hg u6 u7
      refine R_iload hC dX11_canTurn_21 rfl (R_aload_n (i := 1) hC dX11_canTurn_23 rfl rfl (R_bipush (v := 36) hC dX11_canTurn_24 (by decide) (R_aI hC dX11_canTurn_26 ht 36 rfl (by decide) (by decide) ?_)))
      refine R_top (y := nI T.1) (by rw [e0, hR1]) ?_
      refine R_icmp_ge hC 165 dX11_canTurn_27 (by decide) (fun h => absurd h (nI_ge hn (by omega))) (fun _ => ?_)
      refine R_iconst (v := 0) hC dX11_canTurn_30 (by decide) (R_istore hC dX11_canTurn_31 (by decide) rfl ?_)
      skip
      -- the inner loop
      have inn : ∀ k, k ≤ T.2.1 → ∀ g : Nat → Int32, g 36 = nI T.1 → g 37 = nI T.2.1 → (∀ i j, i < n → j < T.2.1 → g (6 * i + j) = tturn r c T.2.2 i j ∧ sml (tturn r c T.2.2 i j)) → (∀ j, j < k → g (6 * n + j) = tturn r c T.2.2 n j ∧ sml (tturn r c T.2.2 n j)) → ∀ (u7 : Option Value), Rw mX11_canTurn X 33 [some (.ref i_M), some (.ref t), some (.int (nI r)), some (.int (nI c)), some (.int (T.2.2 r c)), some (.int (nI n)), some (.int (nI k)), u7] [] (wd (sA σ i_m_trial g) x) 0 0 := by
        refine up_loop T.2.1 ?_ ?_
        · intro g h36 h37 hg hk u7
          refine R_iload hC dX11_canTurn_33 rfl (R_aload_n (i := 1) hC dX11_canTurn_35 rfl rfl (R_bipush (v := 37) hC dX11_canTurn_36 (by decide) (R_aI hC dX11_canTurn_38 ht 37 rfl (by decide) (by decide) ?_)))
          refine R_top (y := nI T.2.1) (by rw [e0, hC1]) ?_
          refine R_icmp_ge hC 159 dX11_canTurn_39 (by decide) (fun _ => ?_) (fun h => absurd (Int32.le_refl _) h)
          refine R_iinc hC dX11_canTurn_159 rfl (inc1 _) (by decide) rfl (R_goto hC 21 dX11_canTurn_162 (by decide) ?_)
          exact ih g h36 h37 (fun i j hi hj => by rcases (by omega : i < n ∨ i = n) with h | rfl; exact hg i j h hj; exact hk j hj) _ _
        · intro k hk ihk g h36 h37 hg hgk u7
          have fin : ∀ v, v = tturn r c T.2.2 n k → Rw mX11_canTurn X 123 [some (.ref i_M), some (.ref t), some (.int (nI r)), some (.int (nI c)), some (.int (T.2.2 r c)), some (.int (nI n)), some (.int (nI k)), some (.int v)] [] (wd (sA σ i_m_trial g) x) 0 0 := by
            intro v hv
            refine R_iload hC dX11_canTurn_123 rfl (R_i2l hC dX11_canTurn_125 (R_ldc2 hC dX11_canTurn_126 kc_X11_162 (R_lconst (v := 1) hC dX11_canTurn_129 (by decide) ?_)))
            refine R_S3i hC hR dX11_canTurn_130 MS_X11_isIn ml_X11_140 (s_isInZ v (-1) 1 (-1) 1 (by decide) (by decide) _) (by decide) ⟨by decide, by decide⟩ (Nat.le_of_ble_eq_true rfl) ?_
            refine R_if_ne hC 138 dX11_canTurn_133 (by decide) (fun h133 => ?_) (fun h133 => ?_)
            · refine R_aload_n (i := 0) hC dX11_canTurn_138 rfl rfl (R_gR hC dX11_canTurn_139 fl_X11_20 L_M rfl (R_bipush (v := 6) hC dX11_canTurn_142 (by decide) (R_iload hC dX11_canTurn_144 rfl (R_imul hC dX11_canTurn_146 (R_iload hC dX11_canTurn_147 rfl (R_iadd hC dX11_canTurn_149 (R_iload hC dX11_canTurn_150 rfl ?_)))))))
              refine R_sI hC dX11_canTurn_152 L_m_trial (6 * n + k) (n6 n k) (by omega) (by decide) ?_
              have hsm : sml (tturn r c T.2.2 n k) := by rw [← hv]; exact sml_in.mpr (ite1 h133)
              refine R_wd (by rw [sA_eq, sA_sA]) ?_
              refine R_iinc hC dX11_canTurn_153 rfl (inc1 _) (by decide) rfl (R_goto hC 33 dX11_canTurn_156 (by decide) ?_)
              exact ihk _ (by rw [upd, if_neg (by omega)]; exact h36) (by rw [upd, if_neg (by omega)]; exact h37) (fun i j hi hj => by rw [upd, if_neg (by omega)]; exact hg i j hi hj) (fun j hj => by
              rcases (by omega : j = k ∨ j < k) with rfl | h
              · rw [upd, if_pos rfl]; exact ⟨hv, hsm⟩
              · rw [upd, if_neg (by omega)]; exact hgk j h) _
            · refine R_iconst (v := 0) hC dX11_canTurn_136 (by decide) ?_
              exact R_zret hC hT dX11_canTurn_137 rfl (by decide) ⟨g, rfl, Or.inr ⟨fun q => ite0 h133 (sml_in.mp (by rw [hv]; exact q n k hn hk)), rfl⟩⟩
          refine R_iload hC dX11_canTurn_33 rfl (R_aload_n (i := 1) hC dX11_canTurn_35 rfl rfl (R_bipush (v := 37) hC dX11_canTurn_36 (by decide) (R_aI hC dX11_canTurn_38 ht 37 rfl (by decide) (by decide) ?_)))
          refine R_top (y := nI T.2.1) (by rw [e0, hC1]) ?_
          refine R_icmp_ge hC 159 dX11_canTurn_39 (by decide) (fun h => absurd h (nI_ge hk (by omega))) (fun _ => ?_)
          refine R_aload_n (i := 1) hC dX11_canTurn_42 rfl rfl (R_bipush (v := 6) hC dX11_canTurn_43 (by decide) (R_iload hC dX11_canTurn_45 rfl (R_imul hC dX11_canTurn_47 (R_iload hC dX11_canTurn_48 rfl (R_iadd hC dX11_canTurn_50 (R_aI hC dX11_canTurn_51 ht (6 * n + k) (n6 n k) (by omega) (by decide) ?_))))))
          refine R_top (y := T.2.2 n k) (by rw [e0, rd hn hk]) ?_
          refine R_istore hC dX11_canTurn_52 (by decide) rfl (R_iload hC dX11_canTurn_54 rfl (R_iload_n (i := 2) hC dX11_canTurn_56 rfl rfl ?_))
          have i1 : n < 2 ^ 31 := by omega
          have i2 : r < 2 ^ 31 := by omega
          have i3 : k < 2 ^ 31 := by omega
          have i4 : c < 2 ^ 31 := by omega
          refine R_icmp_ne hC 74 dX11_canTurn_57 (by decide) (fun h57 => ?_) (fun h57 => ?_)
          · refine R_iload hC dX11_canTurn_74 rfl (R_iload_n (i := 2) hC dX11_canTurn_76 rfl rfl ?_)
            refine R_icmp_eq hC 86 dX11_canTurn_77 (by decide) (fun h77 => ?_) (fun h77 => ?_)
            · refine R_iload hC dX11_canTurn_86 rfl (R_iload hC dX11_canTurn_88 rfl (R_imul hC dX11_canTurn_90 (R_istore hC dX11_canTurn_91 (by decide) rfl (R_goto hC 123 dX11_canTurn_93 (by decide) ?_))))
              exact fin _ (by simp only [nI_eq i1 i2, nI_eq i3 i4] at *; first | (exfalso; omega) | simp [tturn, *])
            · refine R_iload hC dX11_canTurn_80 rfl (R_iload_n (i := 3) hC dX11_canTurn_82 rfl rfl ?_)
              refine R_icmp_ne hC 96 dX11_canTurn_83 (by decide) (fun h83 => ?_) (fun h83 => ?_)
              · refine R_iload hC dX11_canTurn_96 rfl (R_iload hC dX11_canTurn_98 rfl (R_aload_n (i := 1) hC dX11_canTurn_100 rfl rfl (R_bipush (v := 6) hC dX11_canTurn_101 (by decide) (R_iload hC dX11_canTurn_103 rfl (R_imul hC dX11_canTurn_105 (R_iload_n (i := 3) hC dX11_canTurn_106 rfl rfl (R_iadd hC dX11_canTurn_107 ?_)))))))
                refine R_aI hC dX11_canTurn_108 ht (6 * n + c) (n6 n c) (by omega) (by decide) ?_
                refine R_top (y := T.2.2 n c) (by rw [e0, rd hn hc]) ?_
                refine R_imul hC dX11_canTurn_109 (R_aload_n (i := 1) hC dX11_canTurn_110 rfl rfl (R_bipush (v := 6) hC dX11_canTurn_111 (by decide) (R_iload_n (i := 2) hC dX11_canTurn_113 rfl rfl (R_imul hC dX11_canTurn_114 (R_iload hC dX11_canTurn_115 rfl (R_iadd hC dX11_canTurn_117 (R_aI hC dX11_canTurn_118 ht (6 * r + k) (n6 r k) (by omega) (by decide) ?_)))))))
                refine R_top (y := T.2.2 r k) (by rw [e0, rd hr hk]) ?_
                refine R_imul hC dX11_canTurn_119 (R_isub hC dX11_canTurn_120 (R_istore hC dX11_canTurn_121 (by decide) rfl ?_))
                exact fin _ (by simp only [nI_eq i1 i2, nI_eq i3 i4] at *; first | (exfalso; omega) | simp [tturn, *])
              · refine R_iload hC dX11_canTurn_86 rfl (R_iload hC dX11_canTurn_88 rfl (R_imul hC dX11_canTurn_90 (R_istore hC dX11_canTurn_91 (by decide) rfl (R_goto hC 123 dX11_canTurn_93 (by decide) ?_))))
                exact fin _ (by simp only [nI_eq i1 i2, nI_eq i3 i4] at *; first | (exfalso; omega) | simp [tturn, *])
          · refine R_iload hC dX11_canTurn_60 rfl (R_iload_n (i := 3) hC dX11_canTurn_62 rfl rfl ?_)
            refine R_icmp_ne hC 74 dX11_canTurn_63 (by decide) (fun h63 => ?_) (fun h63 => ?_)
            · refine R_iload hC dX11_canTurn_74 rfl (R_iload_n (i := 2) hC dX11_canTurn_76 rfl rfl ?_)
              refine R_icmp_eq hC 86 dX11_canTurn_77 (by decide) (fun h77 => ?_) (fun h77 => ?_)
              · refine R_iload hC dX11_canTurn_86 rfl (R_iload hC dX11_canTurn_88 rfl (R_imul hC dX11_canTurn_90 (R_istore hC dX11_canTurn_91 (by decide) rfl (R_goto hC 123 dX11_canTurn_93 (by decide) ?_))))
                exact fin _ (by simp only [nI_eq i1 i2, nI_eq i3 i4] at *; first | (exfalso; omega) | simp [tturn, *])
              · refine R_iload hC dX11_canTurn_80 rfl (R_iload_n (i := 3) hC dX11_canTurn_82 rfl rfl ?_)
                refine R_icmp_ne hC 96 dX11_canTurn_83 (by decide) (fun h83 => ?_) (fun h83 => ?_)
                · refine R_iload hC dX11_canTurn_96 rfl (R_iload hC dX11_canTurn_98 rfl (R_aload_n (i := 1) hC dX11_canTurn_100 rfl rfl (R_bipush (v := 6) hC dX11_canTurn_101 (by decide) (R_iload hC dX11_canTurn_103 rfl (R_imul hC dX11_canTurn_105 (R_iload_n (i := 3) hC dX11_canTurn_106 rfl rfl (R_iadd hC dX11_canTurn_107 ?_)))))))
                  refine R_aI hC dX11_canTurn_108 ht (6 * n + c) (n6 n c) (by omega) (by decide) ?_
                  refine R_top (y := T.2.2 n c) (by rw [e0, rd hn hc]) ?_
                  refine R_imul hC dX11_canTurn_109 (R_aload_n (i := 1) hC dX11_canTurn_110 rfl rfl (R_bipush (v := 6) hC dX11_canTurn_111 (by decide) (R_iload_n (i := 2) hC dX11_canTurn_113 rfl rfl (R_imul hC dX11_canTurn_114 (R_iload hC dX11_canTurn_115 rfl (R_iadd hC dX11_canTurn_117 (R_aI hC dX11_canTurn_118 ht (6 * r + k) (n6 r k) (by omega) (by decide) ?_)))))))
                  refine R_top (y := T.2.2 r k) (by rw [e0, rd hr hk]) ?_
                  refine R_imul hC dX11_canTurn_119 (R_isub hC dX11_canTurn_120 (R_istore hC dX11_canTurn_121 (by decide) rfl ?_))
                  exact fin _ (by simp only [nI_eq i1 i2, nI_eq i3 i4] at *; first | (exfalso; omega) | simp [tturn, *])
                · refine R_iload hC dX11_canTurn_86 rfl (R_iload hC dX11_canTurn_88 rfl (R_imul hC dX11_canTurn_90 (R_istore hC dX11_canTurn_91 (by decide) rfl (R_goto hC 123 dX11_canTurn_93 (by decide) ?_))))
                  exact fin _ (by simp only [nI_eq i1 i2, nI_eq i3 i4] at *; first | (exfalso; omega) | simp [tturn, *])
            · refine R_iload hC dX11_canTurn_66 rfl (R_ineg hC dX11_canTurn_68 (R_istore hC dX11_canTurn_69 (by decide) rfl (R_goto hC 123 dX11_canTurn_71 (by decide) ?_)))
              exact fin _ (by simp only [nI_eq i1 i2, nI_eq i3 i4] at *; first | (exfalso; omega) | simp [tturn, *])
      exact inn 0 (Nat.zero_le _) g h36 h37 hg (fun j hj => absurd hj (by omega)) _
  refine R_aload_n (i := 1) hC dX11_canTurn_0 rfl rfl (R_bipush (v := 6) hC dX11_canTurn_1 (by decide) (R_iload_n (i := 2) hC dX11_canTurn_3 rfl rfl (R_imul hC dX11_canTurn_4 (R_iload_n (i := 3) hC dX11_canTurn_5 rfl rfl (R_iadd hC dX11_canTurn_6 (R_aI hC dX11_canTurn_7 ht (6 * r + c) (n6 r c) (by omega) (by decide) ?_))))))
  refine R_top (y := T.2.2 r c) (rd hr hc) ?_
  refine R_istore hC dX11_canTurn_8 (by decide) rfl (R_aload_n (i := 1) hC dX11_canTurn_10 rfl rfl (R_aload_n (i := 0) hC dX11_canTurn_11 rfl rfl (R_gR hC dX11_canTurn_12 fl_X11_20 L_M rfl ?_)))
  refine R_S2v hC hR dX11_canTurn_15 MS_X11_copy ml_X11_170 (s_copy _ _ _ _ ht L_m_trial hne) (by decide) ⟨by decide, by decide⟩ (Nat.le_of_ble_eq_true rfl) ?_
  refine R_iconst (v := 0) hC dX11_canTurn_18 (by decide) (R_istore hC dX11_canTurn_19 (by decide) rfl ?_)
  exact key 0 (Nat.zero_le _) _ (by simp [cpy, hR1]) (by simp [cpy, hC1]) (fun i j hi => absurd hi (by omega)) _ _
