theorem upd6 {g : Nat → Int32} {a b i j : Nat} {v : Int32} (hb : b < 6) (hj : j < 6) : upd g (6 * a + b) v (6 * i + j) = if i = a ∧ j = b then v else g (6 * i + j) := by
  unfold upd
  by_cases h : 6 * i + j = 6 * a + b
  · rw [if_pos h, if_pos (by omega)]
  · rw [if_neg h, if_neg (by omega)]
theorem upd_36 {g : Nat → Int32} {a b k : Nat} {v : Int32} (hk : k = 36 ∨ k = 37) (ha : a < 6) (hb : b < 6) : upd g (6 * a + b) v k = g k := by
  unfold upd
  rw [if_neg (by omega)]
/-- the same but for what stands in the 36 places -/
def grid (g g0 : Nat → Int32) (F : Nat → Nat → Int32) : Prop := g 36 = g0 36 ∧ g 37 = g0 37 ∧ ∀ i j, i < 6 → j < 6 → g (6 * i + j) = F i j
theorem grid.to {g g0 : Nat → Int32} {F F2 : Nat → Nat → Int32} (h : grid g g0 F) (e : ∀ i j, i < 6 → j < 6 → F i j = F2 i j) : grid g g0 F2 := ⟨h.1, h.2.1, fun i j hi hj => by rw [h.2.2 i j hi hj, e i j hi hj]⟩
theorem grid.upd {g g0 : Nat → Int32} {F : Nat → Nat → Int32} (h : grid g g0 F) {a b : Nat} (ha : a < 6) (hb : b < 6) (v : Int32) : grid (upd g (6 * a + b) v) g0 (fun i j => if i = a ∧ j = b then v else F i j) :=
  ⟨by rw [upd_36 (Or.inl rfl) ha hb]; exact h.1, by rw [upd_36 (Or.inr rfl) ha hb]; exact h.2.1, fun i j hi hj => by rw [upd6 hb hj, h.2.2 i j hi hj]⟩
theorem grid.rf (g : Nat → Int32) : grid g g (fun i j => g (6 * i + j)) := ⟨rfl, rfl, fun _ _ _ _ => rfl⟩
/-- one place set, all others kept: the condition widens by just that place -/
theorem grid.put {g g0 : Nat → Int32} {A B : Nat → Nat → Int32} {p p2 : Nat → Nat → Prop} {_ : ∀ i j, Decidable (p i j)} {_ : ∀ i j, Decidable (p2 i j)} {a b : Nat} {v : Int32} (h : grid g g0 (fun i j => if p i j then A i j else B i j)) (ha : a < 6) (hb : b < 6)
    (hv : v = A a b) (hq : ∀ i j, i < 6 → j < 6 → (p2 i j ↔ p i j ∨ (i = a ∧ j = b))) : grid (_root_.Jvm.Pilot.@@N@@.upd g (6 * a + b) v) g0 (fun i j => if p2 i j then A i j else B i j) := by
  refine (h.upd ha hb v).to (fun i j hi hj => ?_)
  show (if i = a ∧ j = b then v else if p i j then A i j else B i j) = if p2 i j then A i j else B i j
  by_cases e : i = a ∧ j = b
  · obtain ⟨rfl, rfl⟩ := e
    rw [if_pos ⟨rfl, rfl⟩, if_pos ((hq _ _ hi hj).mpr (Or.inr ⟨rfl, rfl⟩)), hv]
  · rw [if_neg e]
    by_cases e2 : p i j
    · rw [if_pos e2, if_pos ((hq _ _ hi hj).mpr (Or.inl e2))]
    · rw [if_neg e2, if_neg (fun q => ((hq _ _ hi hj).mp q).elim e2 e)]
/-- two places set -/
theorem grid.put2 {g g0 : Nat → Int32} {A B : Nat → Nat → Int32} {p p2 : Nat → Nat → Prop} {_ : ∀ i j, Decidable (p i j)} {_ : ∀ i j, Decidable (p2 i j)} {a b c d : Nat} {v u : Int32} (h : grid g g0 (fun i j => if p i j then A i j else B i j)) (ha : a < 6) (hb : b < 6) (hc : c < 6) (hd : d < 6)
    (hv : v = A a b) (hu : u = A c d) (hq : ∀ i j, i < 6 → j < 6 → (p2 i j ↔ p i j ∨ (i = a ∧ j = b) ∨ (i = c ∧ j = d))) : grid (_root_.Jvm.Pilot.@@N@@.upd (_root_.Jvm.Pilot.@@N@@.upd g (6 * a + b) v) (6 * c + d) u) g0 (fun i j => if p2 i j then A i j else B i j) := by
  have h1 : grid (_root_.Jvm.Pilot.@@N@@.upd g (6 * a + b) v) g0 (fun i j => if p i j ∨ (i = a ∧ j = b) then A i j else B i j) := h.put ha hb hv (fun i j _ _ => Iff.rfl)
  exact h1.put hc hd hu (fun i j hi hj => by rw [hq i j hi hj, or_assoc])
theorem grid.cond {g g0 : Nat → Int32} {A B : Nat → Nat → Int32} {p p2 : Nat → Nat → Prop} {_ : ∀ i j, Decidable (p i j)} {_ : ∀ i j, Decidable (p2 i j)} (h : grid g g0 (fun i j => if p i j then A i j else B i j)) (hq : ∀ i j, i < 6 → j < 6 → (p2 i j ↔ p i j) ∨ A i j = B i j) : grid g g0 (fun i j => if p2 i j then A i j else B i j) := by
  refine h.to (fun i j hi hj => ?_)
  show (if p i j then A i j else B i j) = if p2 i j then A i j else B i j
  rcases hq i j hi hj with e | e
  · by_cases e2 : p i j
    · rw [if_pos e2, if_pos (e.mpr e2)]
    · rw [if_neg e2, if_neg (fun q => e2 (e.mp q))]
  · rw [e]; split <;> split <;> rfl
theorem grid.init {g : Nat → Int32} {A : Nat → Nat → Int32} {p : Nat → Nat → Prop} {_ : ∀ i j, Decidable (p i j)} (hq : ∀ i j, i < 6 → j < 6 → ¬ p i j) : grid g g (fun i j => if p i j then A i j else g (6 * i + j)) :=
  (grid.rf g).to (fun i j hi hj => by rw [if_neg (hq i j hi hj)])
theorem grid.TB {g g0 : Nat → Int32} {A B : Nat → Nat → Int32} {p : Nat → Nat → Prop} {_ : ∀ i j, Decidable (p i j)} {R C : Nat} {f : Nat → Nat → Int32} (h : grid g g0 (fun i j => if p i j then A i j else B i j)) (h1 : g0 36 = nI R) (h2 : g0 37 = nI C) (h3 : R ≤ 6) (h4 : C ≤ 6) (e1 : ∀ i j, i < R → j < C → p i j → A i j = f i j ∧ sml (f i j)) (e2 : ∀ i j, i < R → j < C → ¬ p i j → B i j = f i j ∧ sml (f i j)) : Jvm.Pilot.@@N@@.TB g (R, C, f) := by
  refine ⟨by rw [h.1]; exact h1, by rw [h.2.1]; exact h2, h3, h4, fun i j hi hj => ?_⟩
  have hi : i < R := hi
  have hj : j < C := hj
  rw [h.2.2 i j (by omega) (by omega)]
  show (if p i j then A i j else B i j) = f i j ∧ sml (f i j)
  by_cases e : p i j
  · rw [if_pos e]; exact e1 i j hi hj e
  · rw [if_neg e]; exact e2 i j hi hj e
def doA (k a b : Nat) (T : tb) : tb := match k with
  | 0 => (T.1, T.2.1, fun i j => if i = a then -(T.2.2 i j) else T.2.2 i j)
  | 1 => (T.1, T.2.1, fun i j => if j = a then -(T.2.2 i j) else T.2.2 i j)
  | 2 => (T.1, T.2.1, fun i j => if i = a then T.2.2 b j else if i = b then T.2.2 a j else T.2.2 i j)
  | 3 => (T.1, T.2.1, fun i j => if j = a then T.2.2 i b else if j = b then T.2.2 i a else T.2.2 i j)
  | 4 => (T.1, T.2.1, tturn a b T.2.2)
  | 5 => (T.2.1, T.1, fun i j => T.2.2 j i)
  | 6 => (T.1 - 1, T.2.1, fun i j => if i < a then T.2.2 i j else T.2.2 (i + 1) j)
  | 7 => (T.1, T.2.1 - 1, fun i j => if j < a then T.2.2 i j else T.2.2 i (j + 1))
  | _ => T
theorem sml_neg {v : Int32} (h : sml v) : sml (-v) := by
  rcases h with rfl | rfl | rfl
  · exact Or.inr (Or.inr (by decide))
  · exact Or.inr (Or.inl (by decide))
  · exact Or.inl (by decide)
theorem dX11_does_0 : decode cX11_does 0 = .ok (.iconst 0, 1) := by decide +kernel
theorem dX11_does_1 : decode cX11_does 1 = .ok (.istore 5, 2) := by decide +kernel
theorem dX11_does_3 : decode cX11_does 3 = .ok (.iload 5, 2) := by decide +kernel
theorem dX11_does_5 : decode cX11_does 5 = .ok (.bipush 6, 2) := by decide +kernel
theorem dX11_does_7 : decode cX11_does 7 = .ok (.if_icmp .ge 104, 3) := by decide +kernel
theorem dX11_does_10 : decode cX11_does 10 = .ok (.iload_n 2, 1) := by decide +kernel
theorem dX11_does_11 : decode cX11_does 11 = .ok (.ifCond .ne 22, 3) := by decide +kernel
theorem dX11_does_14 : decode cX11_does 14 = .ok (.aload_n 1, 1) := by decide +kernel
theorem dX11_does_15 : decode cX11_does 15 = .ok (.bipush 6, 2) := by decide +kernel
theorem dX11_does_17 : decode cX11_does 17 = .ok (.iload_n 3, 1) := by decide +kernel
theorem dX11_does_18 : decode cX11_does 18 = .ok (.imul, 1) := by decide +kernel
theorem dX11_does_19 : decode cX11_does 19 = .ok (.iload 5, 2) := by decide +kernel
theorem dX11_does_21 : decode cX11_does 21 = .ok (.iadd, 1) := by decide +kernel
theorem dX11_does_22 : decode cX11_does 22 = .ok (.aload_n 1, 1) := by decide +kernel
theorem dX11_does_23 : decode cX11_does 23 = .ok (.bipush 6, 2) := by decide +kernel
theorem dX11_does_25 : decode cX11_does 25 = .ok (.iload_n 3, 1) := by decide +kernel
theorem dX11_does_26 : decode cX11_does 26 = .ok (.imul, 1) := by decide +kernel
theorem dX11_does_27 : decode cX11_does 27 = .ok (.iload 5, 2) := by decide +kernel
theorem dX11_does_29 : decode cX11_does 29 = .ok (.iadd, 1) := by decide +kernel
theorem dX11_does_30 : decode cX11_does 30 = .ok (.iaload, 1) := by decide +kernel
theorem dX11_does_31 : decode cX11_does 31 = .ok (.ineg, 1) := by decide +kernel
theorem dX11_does_32 : decode cX11_does 32 = .ok (.iastore, 1) := by decide +kernel
theorem dX11_does_33 : decode cX11_does 33 = .ok (.iload_n 2, 1) := by decide +kernel
theorem dX11_does_34 : decode cX11_does 34 = .ok (.iconst 1, 1) := by decide +kernel
theorem dX11_does_35 : decode cX11_does 35 = .ok (.if_icmp .ne 22, 3) := by decide +kernel
theorem dX11_does_38 : decode cX11_does 38 = .ok (.aload_n 1, 1) := by decide +kernel
theorem dX11_does_39 : decode cX11_does 39 = .ok (.bipush 6, 2) := by decide +kernel
theorem dX11_does_41 : decode cX11_does 41 = .ok (.iload 5, 2) := by decide +kernel
theorem dX11_does_43 : decode cX11_does 43 = .ok (.imul, 1) := by decide +kernel
theorem dX11_does_44 : decode cX11_does 44 = .ok (.iload_n 3, 1) := by decide +kernel
theorem dX11_does_45 : decode cX11_does 45 = .ok (.iadd, 1) := by decide +kernel
theorem dX11_does_46 : decode cX11_does 46 = .ok (.aload_n 1, 1) := by decide +kernel
theorem dX11_does_47 : decode cX11_does 47 = .ok (.bipush 6, 2) := by decide +kernel
theorem dX11_does_49 : decode cX11_does 49 = .ok (.iload 5, 2) := by decide +kernel
theorem dX11_does_51 : decode cX11_does 51 = .ok (.imul, 1) := by decide +kernel
theorem dX11_does_52 : decode cX11_does 52 = .ok (.iload_n 3, 1) := by decide +kernel
theorem dX11_does_53 : decode cX11_does 53 = .ok (.iadd, 1) := by decide +kernel
theorem dX11_does_54 : decode cX11_does 54 = .ok (.iaload, 1) := by decide +kernel
theorem dX11_does_55 : decode cX11_does 55 = .ok (.ineg, 1) := by decide +kernel
theorem dX11_does_56 : decode cX11_does 56 = .ok (.iastore, 1) := by decide +kernel
theorem dX11_does_57 : decode cX11_does 57 = .ok (.iload_n 2, 1) := by decide +kernel
theorem dX11_does_58 : decode cX11_does 58 = .ok (.iconst 2, 1) := by decide +kernel
theorem dX11_does_59 : decode cX11_does 59 = .ok (.if_icmp .ne 22, 3) := by decide +kernel
theorem dX11_does_62 : decode cX11_does 62 = .ok (.aload_n 1, 1) := by decide +kernel
theorem dX11_does_63 : decode cX11_does 63 = .ok (.bipush 6, 2) := by decide +kernel
theorem dX11_does_65 : decode cX11_does 65 = .ok (.iload_n 3, 1) := by decide +kernel
theorem dX11_does_66 : decode cX11_does 66 = .ok (.imul, 1) := by decide +kernel
theorem dX11_does_67 : decode cX11_does 67 = .ok (.iload 5, 2) := by decide +kernel
theorem dX11_does_69 : decode cX11_does 69 = .ok (.iadd, 1) := by decide +kernel
theorem dX11_does_70 : decode cX11_does 70 = .ok (.bipush 6, 2) := by decide +kernel
theorem dX11_does_72 : decode cX11_does 72 = .ok (.iload 4, 2) := by decide +kernel
theorem dX11_does_74 : decode cX11_does 74 = .ok (.imul, 1) := by decide +kernel
theorem dX11_does_75 : decode cX11_does 75 = .ok (.iload 5, 2) := by decide +kernel
theorem dX11_does_77 : decode cX11_does 77 = .ok (.iadd, 1) := by decide +kernel
theorem dX11_does_78 : decode cX11_does 78 = .ok (.invokestatic 177, 3) := by decide +kernel
theorem dX11_does_81 : decode cX11_does 81 = .ok (.iload_n 2, 1) := by decide +kernel
theorem dX11_does_82 : decode cX11_does 82 = .ok (.iconst 3, 1) := by decide +kernel
theorem dX11_does_83 : decode cX11_does 83 = .ok (.if_icmp .ne 22, 3) := by decide +kernel
theorem dX11_does_86 : decode cX11_does 86 = .ok (.aload_n 1, 1) := by decide +kernel
theorem dX11_does_87 : decode cX11_does 87 = .ok (.bipush 6, 2) := by decide +kernel
theorem dX11_does_89 : decode cX11_does 89 = .ok (.iload 5, 2) := by decide +kernel
theorem dX11_does_91 : decode cX11_does 91 = .ok (.imul, 1) := by decide +kernel
theorem dX11_does_92 : decode cX11_does 92 = .ok (.iload_n 3, 1) := by decide +kernel
theorem dX11_does_93 : decode cX11_does 93 = .ok (.iadd, 1) := by decide +kernel
theorem dX11_does_94 : decode cX11_does 94 = .ok (.bipush 6, 2) := by decide +kernel
theorem dX11_does_96 : decode cX11_does 96 = .ok (.iload 5, 2) := by decide +kernel
theorem dX11_does_98 : decode cX11_does 98 = .ok (.imul, 1) := by decide +kernel
theorem dX11_does_99 : decode cX11_does 99 = .ok (.iload 4, 2) := by decide +kernel
theorem dX11_does_101 : decode cX11_does 101 = .ok (.iadd, 1) := by decide +kernel
theorem dX11_does_102 : decode cX11_does 102 = .ok (.invokestatic 177, 3) := by decide +kernel
theorem dX11_does_105 : decode cX11_does 105 = .ok (.iinc 5 1, 3) := by decide +kernel
theorem dX11_does_108 : decode cX11_does 108 = .ok (.goto (-105), 3) := by decide +kernel
theorem dX11_does_111 : decode cX11_does 111 = .ok (.iload_n 2, 1) := by decide +kernel
theorem dX11_does_112 : decode cX11_does 112 = .ok (.iconst 4, 1) := by decide +kernel
theorem dX11_does_113 : decode cX11_does 113 = .ok (.if_icmp .ne 21, 3) := by decide +kernel
theorem dX11_does_116 : decode cX11_does 116 = .ok (.aload_n 0, 1) := by decide +kernel
theorem dX11_does_117 : decode cX11_does 117 = .ok (.aload_n 1, 1) := by decide +kernel
theorem dX11_does_118 : decode cX11_does 118 = .ok (.iload_n 3, 1) := by decide +kernel
theorem dX11_does_119 : decode cX11_does 119 = .ok (.iload 4, 2) := by decide +kernel
theorem dX11_does_121 : decode cX11_does 121 = .ok (.invokevirtual 174, 3) := by decide +kernel
theorem dX11_does_124 : decode cX11_does 124 = .ok (.istore 5, 2) := by decide +kernel
theorem dX11_does_126 : decode cX11_does 126 = .ok (.aload_n 0, 1) := by decide +kernel
theorem dX11_does_127 : decode cX11_does 127 = .ok (.getfield 20, 3) := by decide +kernel
theorem dX11_does_130 : decode cX11_does 130 = .ok (.aload_n 1, 1) := by decide +kernel
theorem dX11_does_131 : decode cX11_does 131 = .ok (.invokestatic 170, 3) := by decide +kernel
theorem dX11_does_134 : decode cX11_does 134 = .ok (.iload_n 2, 1) := by decide +kernel
theorem dX11_does_135 : decode cX11_does 135 = .ok (.iconst 5, 1) := by decide +kernel
theorem dX11_does_136 : decode cX11_does 136 = .ok (.if_icmp .ne 63, 3) := by decide +kernel
theorem dX11_does_139 : decode cX11_does 139 = .ok (.iconst 0, 1) := by decide +kernel
theorem dX11_does_140 : decode cX11_does 140 = .ok (.istore 5, 2) := by decide +kernel
theorem dX11_does_142 : decode cX11_does 142 = .ok (.iload 5, 2) := by decide +kernel
theorem dX11_does_144 : decode cX11_does 144 = .ok (.bipush 6, 2) := by decide +kernel
theorem dX11_does_146 : decode cX11_does 146 = .ok (.if_icmp .ge 45, 3) := by decide +kernel
theorem dX11_does_149 : decode cX11_does 149 = .ok (.iconst 0, 1) := by decide +kernel
theorem dX11_does_150 : decode cX11_does 150 = .ok (.istore 6, 2) := by decide +kernel
theorem dX11_does_152 : decode cX11_does 152 = .ok (.iload 6, 2) := by decide +kernel
theorem dX11_does_154 : decode cX11_does 154 = .ok (.iload 5, 2) := by decide +kernel
theorem dX11_does_156 : decode cX11_does 156 = .ok (.if_icmp .ge 29, 3) := by decide +kernel
theorem dX11_does_159 : decode cX11_does 159 = .ok (.aload_n 1, 1) := by decide +kernel
theorem dX11_does_160 : decode cX11_does 160 = .ok (.bipush 6, 2) := by decide +kernel
theorem dX11_does_162 : decode cX11_does 162 = .ok (.iload 5, 2) := by decide +kernel
theorem dX11_does_164 : decode cX11_does 164 = .ok (.imul, 1) := by decide +kernel
theorem dX11_does_165 : decode cX11_does 165 = .ok (.iload 6, 2) := by decide +kernel
theorem dX11_does_167 : decode cX11_does 167 = .ok (.iadd, 1) := by decide +kernel
theorem dX11_does_168 : decode cX11_does 168 = .ok (.bipush 6, 2) := by decide +kernel
theorem dX11_does_170 : decode cX11_does 170 = .ok (.iload 6, 2) := by decide +kernel
theorem dX11_does_172 : decode cX11_does 172 = .ok (.imul, 1) := by decide +kernel
theorem dX11_does_173 : decode cX11_does 173 = .ok (.iload 5, 2) := by decide +kernel
theorem dX11_does_175 : decode cX11_does 175 = .ok (.iadd, 1) := by decide +kernel
theorem dX11_does_176 : decode cX11_does 176 = .ok (.invokestatic 177, 3) := by decide +kernel
theorem dX11_does_179 : decode cX11_does 179 = .ok (.iinc 6 1, 3) := by decide +kernel
theorem dX11_does_182 : decode cX11_does 182 = .ok (.goto (-30), 3) := by decide +kernel
theorem dX11_does_185 : decode cX11_does 185 = .ok (.iinc 5 1, 3) := by decide +kernel
theorem dX11_does_188 : decode cX11_does 188 = .ok (.goto (-46), 3) := by decide +kernel
theorem dX11_does_191 : decode cX11_does 191 = .ok (.aload_n 1, 1) := by decide +kernel
theorem dX11_does_192 : decode cX11_does 192 = .ok (.bipush 36, 2) := by decide +kernel
theorem dX11_does_194 : decode cX11_does 194 = .ok (.bipush 37, 2) := by decide +kernel
theorem dX11_does_196 : decode cX11_does 196 = .ok (.invokestatic 177, 3) := by decide +kernel
theorem dX11_does_199 : decode cX11_does 199 = .ok (.iload_n 2, 1) := by decide +kernel
theorem dX11_does_200 : decode cX11_does 200 = .ok (.bipush 6, 2) := by decide +kernel
theorem dX11_does_202 : decode cX11_does 202 = .ok (.if_icmp .ne 65, 3) := by decide +kernel
theorem dX11_does_205 : decode cX11_does 205 = .ok (.iload_n 3, 1) := by decide +kernel
theorem dX11_does_206 : decode cX11_does 206 = .ok (.istore 5, 2) := by decide +kernel
theorem dX11_does_208 : decode cX11_does 208 = .ok (.iload 5, 2) := by decide +kernel
theorem dX11_does_210 : decode cX11_does 210 = .ok (.iconst 5, 1) := by decide +kernel
theorem dX11_does_211 : decode cX11_does 211 = .ok (.if_icmp .ge 48, 3) := by decide +kernel
theorem dX11_does_214 : decode cX11_does 214 = .ok (.iconst 0, 1) := by decide +kernel
theorem dX11_does_215 : decode cX11_does 215 = .ok (.istore 6, 2) := by decide +kernel
theorem dX11_does_217 : decode cX11_does 217 = .ok (.iload 6, 2) := by decide +kernel
theorem dX11_does_219 : decode cX11_does 219 = .ok (.bipush 6, 2) := by decide +kernel
theorem dX11_does_221 : decode cX11_does 221 = .ok (.if_icmp .ge 32, 3) := by decide +kernel
theorem dX11_does_224 : decode cX11_does 224 = .ok (.aload_n 1, 1) := by decide +kernel
theorem dX11_does_225 : decode cX11_does 225 = .ok (.bipush 6, 2) := by decide +kernel
theorem dX11_does_227 : decode cX11_does 227 = .ok (.iload 5, 2) := by decide +kernel
theorem dX11_does_229 : decode cX11_does 229 = .ok (.imul, 1) := by decide +kernel
theorem dX11_does_230 : decode cX11_does 230 = .ok (.iload 6, 2) := by decide +kernel
theorem dX11_does_232 : decode cX11_does 232 = .ok (.iadd, 1) := by decide +kernel
theorem dX11_does_233 : decode cX11_does 233 = .ok (.aload_n 1, 1) := by decide +kernel
theorem dX11_does_234 : decode cX11_does 234 = .ok (.bipush 6, 2) := by decide +kernel
theorem dX11_does_236 : decode cX11_does 236 = .ok (.iload 5, 2) := by decide +kernel
theorem dX11_does_238 : decode cX11_does 238 = .ok (.imul, 1) := by decide +kernel
theorem dX11_does_239 : decode cX11_does 239 = .ok (.bipush 6, 2) := by decide +kernel
theorem dX11_does_241 : decode cX11_does 241 = .ok (.iadd, 1) := by decide +kernel
theorem dX11_does_242 : decode cX11_does 242 = .ok (.iload 6, 2) := by decide +kernel
theorem dX11_does_244 : decode cX11_does 244 = .ok (.iadd, 1) := by decide +kernel
theorem dX11_does_245 : decode cX11_does 245 = .ok (.iaload, 1) := by decide +kernel
theorem dX11_does_246 : decode cX11_does 246 = .ok (.iastore, 1) := by decide +kernel
theorem dX11_does_247 : decode cX11_does 247 = .ok (.iinc 6 1, 3) := by decide +kernel
theorem dX11_does_250 : decode cX11_does 250 = .ok (.goto (-33), 3) := by decide +kernel
theorem dX11_does_253 : decode cX11_does 253 = .ok (.iinc 5 1, 3) := by decide +kernel
theorem dX11_does_256 : decode cX11_does 256 = .ok (.goto (-48), 3) := by decide +kernel
theorem dX11_does_259 : decode cX11_does 259 = .ok (.aload_n 1, 1) := by decide +kernel
theorem dX11_does_260 : decode cX11_does 260 = .ok (.bipush 36, 2) := by decide +kernel
theorem dX11_does_262 : decode cX11_does 262 = .ok (.dup2, 1) := by decide +kernel
theorem dX11_does_263 : decode cX11_does 263 = .ok (.iaload, 1) := by decide +kernel
theorem dX11_does_264 : decode cX11_does 264 = .ok (.iconst 1, 1) := by decide +kernel
theorem dX11_does_265 : decode cX11_does 265 = .ok (.isub, 1) := by decide +kernel
theorem dX11_does_266 : decode cX11_does 266 = .ok (.iastore, 1) := by decide +kernel
theorem dX11_does_267 : decode cX11_does 267 = .ok (.iload_n 2, 1) := by decide +kernel
theorem dX11_does_268 : decode cX11_does 268 = .ok (.bipush 7, 2) := by decide +kernel
theorem dX11_does_270 : decode cX11_does 270 = .ok (.if_icmp .ne 64, 3) := by decide +kernel
theorem dX11_does_273 : decode cX11_does 273 = .ok (.iconst 0, 1) := by decide +kernel
theorem dX11_does_274 : decode cX11_does 274 = .ok (.istore 5, 2) := by decide +kernel
theorem dX11_does_276 : decode cX11_does 276 = .ok (.iload 5, 2) := by decide +kernel
theorem dX11_does_278 : decode cX11_does 278 = .ok (.bipush 6, 2) := by decide +kernel
theorem dX11_does_280 : decode cX11_does 280 = .ok (.if_icmp .ge 46, 3) := by decide +kernel
theorem dX11_does_283 : decode cX11_does 283 = .ok (.iload_n 3, 1) := by decide +kernel
theorem dX11_does_284 : decode cX11_does 284 = .ok (.istore 6, 2) := by decide +kernel
theorem dX11_does_286 : decode cX11_does 286 = .ok (.iload 6, 2) := by decide +kernel
theorem dX11_does_288 : decode cX11_does 288 = .ok (.iconst 5, 1) := by decide +kernel
theorem dX11_does_289 : decode cX11_does 289 = .ok (.if_icmp .ge 31, 3) := by decide +kernel
theorem dX11_does_292 : decode cX11_does 292 = .ok (.aload_n 1, 1) := by decide +kernel
theorem dX11_does_293 : decode cX11_does 293 = .ok (.bipush 6, 2) := by decide +kernel
theorem dX11_does_295 : decode cX11_does 295 = .ok (.iload 5, 2) := by decide +kernel
theorem dX11_does_297 : decode cX11_does 297 = .ok (.imul, 1) := by decide +kernel
theorem dX11_does_298 : decode cX11_does 298 = .ok (.iload 6, 2) := by decide +kernel
theorem dX11_does_300 : decode cX11_does 300 = .ok (.iadd, 1) := by decide +kernel
theorem dX11_does_301 : decode cX11_does 301 = .ok (.aload_n 1, 1) := by decide +kernel
theorem dX11_does_302 : decode cX11_does 302 = .ok (.bipush 6, 2) := by decide +kernel
theorem dX11_does_304 : decode cX11_does 304 = .ok (.iload 5, 2) := by decide +kernel
theorem dX11_does_306 : decode cX11_does 306 = .ok (.imul, 1) := by decide +kernel
theorem dX11_does_307 : decode cX11_does 307 = .ok (.iload 6, 2) := by decide +kernel
theorem dX11_does_309 : decode cX11_does 309 = .ok (.iadd, 1) := by decide +kernel
theorem dX11_does_310 : decode cX11_does 310 = .ok (.iconst 1, 1) := by decide +kernel
theorem dX11_does_311 : decode cX11_does 311 = .ok (.iadd, 1) := by decide +kernel
theorem dX11_does_312 : decode cX11_does 312 = .ok (.iaload, 1) := by decide +kernel
theorem dX11_does_313 : decode cX11_does 313 = .ok (.iastore, 1) := by decide +kernel
theorem dX11_does_314 : decode cX11_does 314 = .ok (.iinc 6 1, 3) := by decide +kernel
theorem dX11_does_317 : decode cX11_does 317 = .ok (.goto (-31), 3) := by decide +kernel
theorem dX11_does_320 : decode cX11_does 320 = .ok (.iinc 5 1, 3) := by decide +kernel
theorem dX11_does_323 : decode cX11_does 323 = .ok (.goto (-47), 3) := by decide +kernel
theorem dX11_does_326 : decode cX11_does 326 = .ok (.aload_n 1, 1) := by decide +kernel
theorem dX11_does_327 : decode cX11_does 327 = .ok (.bipush 37, 2) := by decide +kernel
theorem dX11_does_329 : decode cX11_does 329 = .ok (.dup2, 1) := by decide +kernel
theorem dX11_does_330 : decode cX11_does 330 = .ok (.iaload, 1) := by decide +kernel
theorem dX11_does_331 : decode cX11_does 331 = .ok (.iconst 1, 1) := by decide +kernel
theorem dX11_does_332 : decode cX11_does 332 = .ok (.isub, 1) := by decide +kernel
theorem dX11_does_333 : decode cX11_does 333 = .ok (.iastore, 1) := by decide +kernel
theorem dX11_does_334 : decode cX11_does 334 = .ok (.return_, 1) := by decide +kernel
theorem s_does0 (σ : sg) (x : aW) (t : Nat) (ht : LY t (0, 38, [])) (hne : t ≠ i_m_trial) (T : tb) (hT0 : TB (σ.2.2 t) T) (a : Nat) (ha : a < T.1) (b : Int32) :
    Mt mX11_does 2 0 0 [.ref i_M, .ref t, .int (nI 0), .int (nI a), .int b] (wd σ x) (fun q w => q = none ∧ ∃ g h : Nat → Int32, w = wd (sA (sA σ i_m_trial h) t g) x ∧ TB g (doA 0 a 0 T)) := by
  refine Mt.of MI_X11_does (Nat.le_of_ble_eq_true rfl) (fun X hC hR hT => ?_)
  obtain ⟨hR1, hC1, hR6, hC6, hE⟩ := id hT0
  have hsf : ∀ g, sA σ t g = sA (sA σ i_m_trial (σ.2.2 i_m_trial)) t g := fun g => by rw [sA_self]
  have key : ∀ n, n ≤ 6 → ∀ g, grid g (σ.2.2 t) (fun i j => if i = a ∧ j < n then -(σ.2.2 t (6 * i + j)) else σ.2.2 t (6 * i + j)) → ∀ u6, Rw mX11_does X 3 [some (.ref i_M), some (.ref t), some (.int (nI 0)), some (.int (nI a)), some (.int b), some (.int (nI n)), u6] [] (wd (sA σ t g) x) 0 0 := by
    refine up_loop 6 ?_ ?_
    · intro g hg u6
      refine R_iload hC dX11_does_3 rfl (R_bipush (v := 6) hC dX11_does_5 (by decide) ?_)
      refine R_icmp_ge hC 111 dX11_does_7 (by decide) (fun _ => ?_) (fun h => absurd (by decide) h)
      refine R_iload_n (i := 2) hC dX11_does_111 rfl rfl (R_iconst (v := 4) hC dX11_does_112 (by decide) ?_)
      refine R_icmp_ne hC 134 dX11_does_113 (by decide) (fun _ => ?_) (fun h => absurd h (by decide))
      refine R_iload_n (i := 2) hC dX11_does_134 rfl rfl (R_iconst (v := 5) hC dX11_does_135 (by decide) ?_)
      refine R_icmp_ne hC 199 dX11_does_136 (by decide) (fun _ => ?_) (fun h => absurd h (by decide))
      refine R_iload_n (i := 2) hC dX11_does_199 rfl rfl (R_bipush (v := 6) hC dX11_does_200 (by decide) ?_)
      refine R_icmp_ne hC 267 dX11_does_202 (by decide) (fun _ => ?_) (fun h => absurd h (by decide))
      refine R_iload_n (i := 2) hC dX11_does_267 rfl rfl (R_bipush (v := 7) hC dX11_does_268 (by decide) ?_)
      refine R_icmp_ne hC 334 dX11_does_270 (by decide) (fun _ => ?_) (fun h => absurd h (by decide))
      exact R_vret hC hT dX11_does_334 rfl ⟨rfl, g, _, by rw [hsf], (hg.TB (f := fun i j => if i = a then -(T.2.2 i j) else T.2.2 i j) hR1 hC1 hR6 hC6 (fun i j hi hj e => by rw [if_pos e.1, (hE i j hi hj).1]; exact ⟨rfl, sml_neg (hE i j hi hj).2⟩) (fun i j hi hj e => by rw [if_neg (by omega)]; exact hE i j hi hj))⟩
    · intro n hn ih g hg u6
      refine R_iload hC dX11_does_3 rfl (R_bipush (v := 6) hC dX11_does_5 (by decide) ?_)
      refine R_icmp_ge hC 111 dX11_does_7 (by decide) (fun h => absurd h (nI_ge (b := 6) hn (by decide))) (fun _ => ?_)
      refine R_iload_n (i := 2) hC dX11_does_10 rfl rfl ?_
      refine R_if_ne hC 33 dX11_does_11 (by decide) (fun h => absurd rfl h) (fun _ => ?_)
      refine R_aload_n (i := 1) hC dX11_does_14 rfl rfl (R_bipush (v := 6) hC dX11_does_15 (by decide) (R_iload_n (i := 3) hC dX11_does_17 rfl rfl (R_imul hC dX11_does_18 (R_iload hC dX11_does_19 rfl (R_iadd hC dX11_does_21 (R_aload_n (i := 1) hC dX11_does_22 rfl rfl (R_bipush (v := 6) hC dX11_does_23 (by decide) ?_)))))))
      refine R_iload_n (i := 3) hC dX11_does_25 rfl rfl (R_imul hC dX11_does_26 (R_iload hC dX11_does_27 rfl (R_iadd hC dX11_does_29 (R_aI hC dX11_does_30 ht (6 * a + n) (n6 a n) (by omega) (by decide) (R_ineg hC dX11_does_31 (R_sI hC dX11_does_32 ht (6 * a + n) (n6 a n) (by omega) (by decide) ?_))))))
      refine R_wd (by rw [sA_eq, sA_sA]) ?_
      refine R_iload_n (i := 2) hC dX11_does_33 rfl rfl (R_iconst (v := 1) hC dX11_does_34 (by decide) ?_)
      refine R_icmp_ne hC 57 dX11_does_35 (by decide) (fun _ => ?_) (fun h => absurd h (by decide))
      refine R_iload_n (i := 2) hC dX11_does_57 rfl rfl (R_iconst (v := 2) hC dX11_does_58 (by decide) ?_)
      refine R_icmp_ne hC 81 dX11_does_59 (by decide) (fun _ => ?_) (fun h => absurd h (by decide))
      refine R_iload_n (i := 2) hC dX11_does_81 rfl rfl (R_iconst (v := 3) hC dX11_does_82 (by decide) ?_)
      refine R_icmp_ne hC 105 dX11_does_83 (by decide) (fun _ => ?_) (fun h => absurd h (by decide))
      refine R_iinc hC dX11_does_105 rfl (inc1 _) (by decide) rfl (R_goto hC 3 dX11_does_108 (by decide) ?_)
      exact ih _ (hg.put (a := a) (b := n) (p2 := fun i j => i = a ∧ j < n + 1) (by omega) hn (by rw [hg.2.2 a n (by omega) hn]; exact congrArg (fun z => -z) (if_neg (by omega))) (fun i j hi hj => by omega)) _
  refine R_iconst (v := 0) hC dX11_does_0 (by decide) (R_istore hC dX11_does_1 (by decide) rfl ?_)
  (refine R_wd (τ := sA σ t (σ.2.2 t)) (by rw [sA_self]) ?_; exact key 0 (by decide) _ (grid.init (fun i j _ _ => by omega)) _)
theorem s_does1 (σ : sg) (x : aW) (t : Nat) (ht : LY t (0, 38, [])) (hne : t ≠ i_m_trial) (T : tb) (hT0 : TB (σ.2.2 t) T) (a : Nat) (ha : a < T.2.1) (b : Int32) :
    Mt mX11_does 2 0 0 [.ref i_M, .ref t, .int (nI 1), .int (nI a), .int b] (wd σ x) (fun q w => q = none ∧ ∃ g h : Nat → Int32, w = wd (sA (sA σ i_m_trial h) t g) x ∧ TB g (doA 1 a 0 T)) := by
  refine Mt.of MI_X11_does (Nat.le_of_ble_eq_true rfl) (fun X hC hR hT => ?_)
  obtain ⟨hR1, hC1, hR6, hC6, hE⟩ := id hT0
  have hsf : ∀ g, sA σ t g = sA (sA σ i_m_trial (σ.2.2 i_m_trial)) t g := fun g => by rw [sA_self]
  have key : ∀ n, n ≤ 6 → ∀ g, grid g (σ.2.2 t) (fun i j => if j = a ∧ i < n then -(σ.2.2 t (6 * i + j)) else σ.2.2 t (6 * i + j)) → ∀ u6, Rw mX11_does X 3 [some (.ref i_M), some (.ref t), some (.int (nI 1)), some (.int (nI a)), some (.int b), some (.int (nI n)), u6] [] (wd (sA σ t g) x) 0 0 := by
    refine up_loop 6 ?_ ?_
    · intro g hg u6
      refine R_iload hC dX11_does_3 rfl (R_bipush (v := 6) hC dX11_does_5 (by decide) ?_)
      refine R_icmp_ge hC 111 dX11_does_7 (by decide) (fun _ => ?_) (fun h => absurd (by decide) h)
      refine R_iload_n (i := 2) hC dX11_does_111 rfl rfl (R_iconst (v := 4) hC dX11_does_112 (by decide) ?_)
      refine R_icmp_ne hC 134 dX11_does_113 (by decide) (fun _ => ?_) (fun h => absurd h (by decide))
      refine R_iload_n (i := 2) hC dX11_does_134 rfl rfl (R_iconst (v := 5) hC dX11_does_135 (by decide) ?_)
      refine R_icmp_ne hC 199 dX11_does_136 (by decide) (fun _ => ?_) (fun h => absurd h (by decide))
      refine R_iload_n (i := 2) hC dX11_does_199 rfl rfl (R_bipush (v := 6) hC dX11_does_200 (by decide) ?_)
      refine R_icmp_ne hC 267 dX11_does_202 (by decide) (fun _ => ?_) (fun h => absurd h (by decide))
      refine R_iload_n (i := 2) hC dX11_does_267 rfl rfl (R_bipush (v := 7) hC dX11_does_268 (by decide) ?_)
      refine R_icmp_ne hC 334 dX11_does_270 (by decide) (fun _ => ?_) (fun h => absurd h (by decide))
      exact R_vret hC hT dX11_does_334 rfl ⟨rfl, g, _, by rw [hsf], (hg.TB (f := fun i j => if j = a then -(T.2.2 i j) else T.2.2 i j) hR1 hC1 hR6 hC6 (fun i j hi hj e => by rw [if_pos e.1, (hE i j hi hj).1]; exact ⟨rfl, sml_neg (hE i j hi hj).2⟩) (fun i j hi hj e => by rw [if_neg (by omega)]; exact hE i j hi hj))⟩
    · intro n hn ih g hg u6
      refine R_iload hC dX11_does_3 rfl (R_bipush (v := 6) hC dX11_does_5 (by decide) ?_)
      refine R_icmp_ge hC 111 dX11_does_7 (by decide) (fun h => absurd h (nI_ge (b := 6) hn (by decide))) (fun _ => ?_)
      refine R_iload_n (i := 2) hC dX11_does_10 rfl rfl ?_
      refine R_if_ne hC 33 dX11_does_11 (by decide) (fun _ => ?_) (fun h => absurd h (by decide))
      refine R_iload_n (i := 2) hC dX11_does_33 rfl rfl (R_iconst (v := 1) hC dX11_does_34 (by decide) ?_)
      refine R_icmp_ne hC 57 dX11_does_35 (by decide) (fun h => absurd rfl h) (fun _ => ?_)
      refine R_aload_n (i := 1) hC dX11_does_38 rfl rfl (R_bipush (v := 6) hC dX11_does_39 (by decide) (R_iload hC dX11_does_41 rfl (R_imul hC dX11_does_43 (R_iload_n (i := 3) hC dX11_does_44 rfl rfl (R_iadd hC dX11_does_45 (R_aload_n (i := 1) hC dX11_does_46 rfl rfl (R_bipush (v := 6) hC dX11_does_47 (by decide) ?_)))))))
      refine R_iload hC dX11_does_49 rfl (R_imul hC dX11_does_51 (R_iload_n (i := 3) hC dX11_does_52 rfl rfl (R_iadd hC dX11_does_53 (R_aI hC dX11_does_54 ht (6 * n + a) (n6 n a) (by omega) (by decide) (R_ineg hC dX11_does_55 (R_sI hC dX11_does_56 ht (6 * n + a) (n6 n a) (by omega) (by decide) ?_))))))
      refine R_wd (by rw [sA_eq, sA_sA]) ?_
      refine R_iload_n (i := 2) hC dX11_does_57 rfl rfl (R_iconst (v := 2) hC dX11_does_58 (by decide) ?_)
      refine R_icmp_ne hC 81 dX11_does_59 (by decide) (fun _ => ?_) (fun h => absurd h (by decide))
      refine R_iload_n (i := 2) hC dX11_does_81 rfl rfl (R_iconst (v := 3) hC dX11_does_82 (by decide) ?_)
      refine R_icmp_ne hC 105 dX11_does_83 (by decide) (fun _ => ?_) (fun h => absurd h (by decide))
      refine R_iinc hC dX11_does_105 rfl (inc1 _) (by decide) rfl (R_goto hC 3 dX11_does_108 (by decide) ?_)
      exact ih _ (hg.put (a := n) (b := a) (p2 := fun i j => j = a ∧ i < n + 1) hn (by omega) (by rw [hg.2.2 n a hn (by omega)]; exact congrArg (fun z => -z) (if_neg (by omega))) (fun i j hi hj => by omega)) _
  refine R_iconst (v := 0) hC dX11_does_0 (by decide) (R_istore hC dX11_does_1 (by decide) rfl ?_)
  (refine R_wd (τ := sA σ t (σ.2.2 t)) (by rw [sA_self]) ?_; exact key 0 (by decide) _ (grid.init (fun i j _ _ => by omega)) _)
theorem s_does2 (σ : sg) (x : aW) (t : Nat) (ht : LY t (0, 38, [])) (hne : t ≠ i_m_trial) (T : tb) (hT0 : TB (σ.2.2 t) T) (a b : Nat) (ha : a < T.1) (hb : b < T.1) (hab : a ≠ b) :
    Mt mX11_does 2 0 0 [.ref i_M, .ref t, .int (nI 2), .int (nI a), .int (nI b)] (wd σ x) (fun q w => q = none ∧ ∃ g h : Nat → Int32, w = wd (sA (sA σ i_m_trial h) t g) x ∧ TB g (doA 2 a b T)) := by
  refine Mt.of MI_X11_does (Nat.le_of_ble_eq_true rfl) (fun X hC hR hT => ?_)
  obtain ⟨hR1, hC1, hR6, hC6, hE⟩ := id hT0
  have hsf : ∀ g, sA σ t g = sA (sA σ i_m_trial (σ.2.2 i_m_trial)) t g := fun g => by rw [sA_self]
  have key : ∀ n, n ≤ 6 → ∀ g, grid g (σ.2.2 t) (fun i j => if (i = a ∨ i = b) ∧ j < n then (if i = a then σ.2.2 t (6 * b + j) else σ.2.2 t (6 * a + j)) else σ.2.2 t (6 * i + j)) → ∀ u6, Rw mX11_does X 3 [some (.ref i_M), some (.ref t), some (.int (nI 2)), some (.int (nI a)), some (.int (nI b)), some (.int (nI n)), u6] [] (wd (sA σ t g) x) 0 0 := by
    refine up_loop 6 ?_ ?_
    · intro g hg u6
      refine R_iload hC dX11_does_3 rfl (R_bipush (v := 6) hC dX11_does_5 (by decide) ?_)
      refine R_icmp_ge hC 111 dX11_does_7 (by decide) (fun _ => ?_) (fun h => absurd (by decide) h)
      refine R_iload_n (i := 2) hC dX11_does_111 rfl rfl (R_iconst (v := 4) hC dX11_does_112 (by decide) ?_)
      refine R_icmp_ne hC 134 dX11_does_113 (by decide) (fun _ => ?_) (fun h => absurd h (by decide))
      refine R_iload_n (i := 2) hC dX11_does_134 rfl rfl (R_iconst (v := 5) hC dX11_does_135 (by decide) ?_)
      refine R_icmp_ne hC 199 dX11_does_136 (by decide) (fun _ => ?_) (fun h => absurd h (by decide))
      refine R_iload_n (i := 2) hC dX11_does_199 rfl rfl (R_bipush (v := 6) hC dX11_does_200 (by decide) ?_)
      refine R_icmp_ne hC 267 dX11_does_202 (by decide) (fun _ => ?_) (fun h => absurd h (by decide))
      refine R_iload_n (i := 2) hC dX11_does_267 rfl rfl (R_bipush (v := 7) hC dX11_does_268 (by decide) ?_)
      refine R_icmp_ne hC 334 dX11_does_270 (by decide) (fun _ => ?_) (fun h => absurd h (by decide))
      exact R_vret hC hT dX11_does_334 rfl ⟨rfl, g, _, by rw [hsf], (hg.TB (f := fun i j => if i = a then T.2.2 b j else if i = b then T.2.2 a j else T.2.2 i j) hR1 hC1 hR6 hC6 (fun i j hi hj e => by
      by_cases q : i = a
      · rw [if_pos q, if_pos q]; exact hE b j hb hj
      · rw [if_neg q, if_neg q, if_pos (by omega)]; exact hE a j ha hj) (fun i j hi hj e => by rw [if_neg (by omega), if_neg (by omega)]; exact hE i j hi hj))⟩
    · intro n hn ih g hg u6
      refine R_iload hC dX11_does_3 rfl (R_bipush (v := 6) hC dX11_does_5 (by decide) ?_)
      refine R_icmp_ge hC 111 dX11_does_7 (by decide) (fun h => absurd h (nI_ge (b := 6) hn (by decide))) (fun _ => ?_)
      refine R_iload_n (i := 2) hC dX11_does_10 rfl rfl ?_
      refine R_if_ne hC 33 dX11_does_11 (by decide) (fun _ => ?_) (fun h => absurd h (by decide))
      refine R_iload_n (i := 2) hC dX11_does_33 rfl rfl (R_iconst (v := 1) hC dX11_does_34 (by decide) ?_)
      refine R_icmp_ne hC 57 dX11_does_35 (by decide) (fun _ => ?_) (fun h => absurd h (by decide))
      refine R_iload_n (i := 2) hC dX11_does_57 rfl rfl (R_iconst (v := 2) hC dX11_does_58 (by decide) ?_)
      refine R_icmp_ne hC 81 dX11_does_59 (by decide) (fun h => absurd rfl h) (fun _ => ?_)
      refine R_aload_n (i := 1) hC dX11_does_62 rfl rfl (R_bipush (v := 6) hC dX11_does_63 (by decide) (R_iload_n (i := 3) hC dX11_does_65 rfl rfl (R_imul hC dX11_does_66 (R_iload hC dX11_does_67 rfl (R_iadd hC dX11_does_69 ?_)))))
      refine R_top (n6 a n) ?_
      refine R_bipush (v := 6) hC dX11_does_70 (by decide) (R_iload hC dX11_does_72 rfl (R_imul hC dX11_does_74 (R_iload hC dX11_does_75 rfl (R_iadd hC dX11_does_77 ?_))))
      refine R_top (n6 b n) ?_
      refine R_S3v hC hR dX11_does_78 MS_X11_swaps ml_X11_177 (s_swaps _ _ _ ht (6 * a + n) (6 * b + n) (by omega) (by omega)) (by decide) ⟨by decide, by decide⟩ (Nat.le_of_ble_eq_true rfl) ?_
      refine R_wd (by rw [sA_eq, sA_sA]) ?_
      refine R_iload_n (i := 2) hC dX11_does_81 rfl rfl (R_iconst (v := 3) hC dX11_does_82 (by decide) ?_)
      refine R_icmp_ne hC 105 dX11_does_83 (by decide) (fun _ => ?_) (fun h => absurd h (by decide))
      refine R_iinc hC dX11_does_105 rfl (inc1 _) (by decide) rfl (R_goto hC 3 dX11_does_108 (by decide) ?_)
      exact ih _ (hg.put2 (a := a) (b := n) (c := b) (d := n) (p2 := fun i j => (i = a ∨ i = b) ∧ j < n + 1) (by omega) hn (by omega) hn (by rw [hg.2.2 b n (by omega) hn, if_pos rfl]; exact if_neg (by omega)) (by rw [hg.2.2 a n (by omega) hn, if_neg (Ne.symm hab)]; exact if_neg (by omega)) (fun i j hi hj => by omega)) _
  refine R_iconst (v := 0) hC dX11_does_0 (by decide) (R_istore hC dX11_does_1 (by decide) rfl ?_)
  (refine R_wd (τ := sA σ t (σ.2.2 t)) (by rw [sA_self]) ?_; exact key 0 (by decide) _ (grid.init (fun i j _ _ => by omega)) _)
theorem s_does3 (σ : sg) (x : aW) (t : Nat) (ht : LY t (0, 38, [])) (hne : t ≠ i_m_trial) (T : tb) (hT0 : TB (σ.2.2 t) T) (a b : Nat) (ha : a < T.2.1) (hb : b < T.2.1) (hab : a ≠ b) :
    Mt mX11_does 2 0 0 [.ref i_M, .ref t, .int (nI 3), .int (nI a), .int (nI b)] (wd σ x) (fun q w => q = none ∧ ∃ g h : Nat → Int32, w = wd (sA (sA σ i_m_trial h) t g) x ∧ TB g (doA 3 a b T)) := by
  refine Mt.of MI_X11_does (Nat.le_of_ble_eq_true rfl) (fun X hC hR hT => ?_)
  obtain ⟨hR1, hC1, hR6, hC6, hE⟩ := id hT0
  have hsf : ∀ g, sA σ t g = sA (sA σ i_m_trial (σ.2.2 i_m_trial)) t g := fun g => by rw [sA_self]
  have key : ∀ n, n ≤ 6 → ∀ g, grid g (σ.2.2 t) (fun i j => if (j = a ∨ j = b) ∧ i < n then (if j = a then σ.2.2 t (6 * i + b) else σ.2.2 t (6 * i + a)) else σ.2.2 t (6 * i + j)) → ∀ u6, Rw mX11_does X 3 [some (.ref i_M), some (.ref t), some (.int (nI 3)), some (.int (nI a)), some (.int (nI b)), some (.int (nI n)), u6] [] (wd (sA σ t g) x) 0 0 := by
    refine up_loop 6 ?_ ?_
    · intro g hg u6
      refine R_iload hC dX11_does_3 rfl (R_bipush (v := 6) hC dX11_does_5 (by decide) ?_)
      refine R_icmp_ge hC 111 dX11_does_7 (by decide) (fun _ => ?_) (fun h => absurd (by decide) h)
      refine R_iload_n (i := 2) hC dX11_does_111 rfl rfl (R_iconst (v := 4) hC dX11_does_112 (by decide) ?_)
      refine R_icmp_ne hC 134 dX11_does_113 (by decide) (fun _ => ?_) (fun h => absurd h (by decide))
      refine R_iload_n (i := 2) hC dX11_does_134 rfl rfl (R_iconst (v := 5) hC dX11_does_135 (by decide) ?_)
      refine R_icmp_ne hC 199 dX11_does_136 (by decide) (fun _ => ?_) (fun h => absurd h (by decide))
      refine R_iload_n (i := 2) hC dX11_does_199 rfl rfl (R_bipush (v := 6) hC dX11_does_200 (by decide) ?_)
      refine R_icmp_ne hC 267 dX11_does_202 (by decide) (fun _ => ?_) (fun h => absurd h (by decide))
      refine R_iload_n (i := 2) hC dX11_does_267 rfl rfl (R_bipush (v := 7) hC dX11_does_268 (by decide) ?_)
      refine R_icmp_ne hC 334 dX11_does_270 (by decide) (fun _ => ?_) (fun h => absurd h (by decide))
      exact R_vret hC hT dX11_does_334 rfl ⟨rfl, g, _, by rw [hsf], (hg.TB (f := fun i j => if j = a then T.2.2 i b else if j = b then T.2.2 i a else T.2.2 i j) hR1 hC1 hR6 hC6 (fun i j hi hj e => by
      by_cases q : j = a
      · rw [if_pos q, if_pos q]; exact hE i b hi hb
      · rw [if_neg q, if_neg q, if_pos (by omega)]; exact hE i a hi ha) (fun i j hi hj e => by rw [if_neg (by omega), if_neg (by omega)]; exact hE i j hi hj))⟩
    · intro n hn ih g hg u6
      refine R_iload hC dX11_does_3 rfl (R_bipush (v := 6) hC dX11_does_5 (by decide) ?_)
      refine R_icmp_ge hC 111 dX11_does_7 (by decide) (fun h => absurd h (nI_ge (b := 6) hn (by decide))) (fun _ => ?_)
      refine R_iload_n (i := 2) hC dX11_does_10 rfl rfl ?_
      refine R_if_ne hC 33 dX11_does_11 (by decide) (fun _ => ?_) (fun h => absurd h (by decide))
      refine R_iload_n (i := 2) hC dX11_does_33 rfl rfl (R_iconst (v := 1) hC dX11_does_34 (by decide) ?_)
      refine R_icmp_ne hC 57 dX11_does_35 (by decide) (fun _ => ?_) (fun h => absurd h (by decide))
      refine R_iload_n (i := 2) hC dX11_does_57 rfl rfl (R_iconst (v := 2) hC dX11_does_58 (by decide) ?_)
      refine R_icmp_ne hC 81 dX11_does_59 (by decide) (fun _ => ?_) (fun h => absurd h (by decide))
      refine R_iload_n (i := 2) hC dX11_does_81 rfl rfl (R_iconst (v := 3) hC dX11_does_82 (by decide) ?_)
      refine R_icmp_ne hC 105 dX11_does_83 (by decide) (fun h => absurd rfl h) (fun _ => ?_)
      refine R_aload_n (i := 1) hC dX11_does_86 rfl rfl (R_bipush (v := 6) hC dX11_does_87 (by decide) (R_iload hC dX11_does_89 rfl (R_imul hC dX11_does_91 (R_iload_n (i := 3) hC dX11_does_92 rfl rfl (R_iadd hC dX11_does_93 ?_)))))
      refine R_top (n6 n a) ?_
      refine R_bipush (v := 6) hC dX11_does_94 (by decide) (R_iload hC dX11_does_96 rfl (R_imul hC dX11_does_98 (R_iload hC dX11_does_99 rfl (R_iadd hC dX11_does_101 ?_))))
      refine R_top (n6 n b) ?_
      refine R_S3v hC hR dX11_does_102 MS_X11_swaps ml_X11_177 (s_swaps _ _ _ ht (6 * n + a) (6 * n + b) (by omega) (by omega)) (by decide) ⟨by decide, by decide⟩ (Nat.le_of_ble_eq_true rfl) ?_
      refine R_wd (by rw [sA_eq, sA_sA]) ?_
      refine R_iinc hC dX11_does_105 rfl (inc1 _) (by decide) rfl (R_goto hC 3 dX11_does_108 (by decide) ?_)
      exact ih _ (hg.put2 (a := n) (b := a) (c := n) (d := b) (p2 := fun i j => (j = a ∨ j = b) ∧ i < n + 1) hn (by omega) hn (by omega) (by rw [hg.2.2 n b hn (by omega), if_pos rfl]; exact if_neg (by omega)) (by rw [hg.2.2 n a hn (by omega), if_neg (Ne.symm hab)]; exact if_neg (by omega)) (fun i j hi hj => by omega)) _
  refine R_iconst (v := 0) hC dX11_does_0 (by decide) (R_istore hC dX11_does_1 (by decide) rfl ?_)
  (refine R_wd (τ := sA σ t (σ.2.2 t)) (by rw [sA_self]) ?_; exact key 0 (by decide) _ (grid.init (fun i j _ _ => by omega)) _)
theorem s_does4 (σ : sg) (x : aW) (t : Nat) (ht : LY t (0, 38, [])) (hne : t ≠ i_m_trial) (T : tb) (hT0 : TB (σ.2.2 t) T) (a b : Nat) (ha : a < T.1) (hb : b < T.2.1) (hok : ∀ i j, i < T.1 → j < T.2.1 → sml (tturn a b T.2.2 i j)) :
    Mt mX11_does 2 0 0 [.ref i_M, .ref t, .int (nI 4), .int (nI a), .int (nI b)] (wd σ x) (fun q w => q = none ∧ ∃ g h : Nat → Int32, w = wd (sA (sA σ i_m_trial h) t g) x ∧ TB g (doA 4 a b T)) := by
  refine Mt.of MI_X11_does (Nat.le_of_ble_eq_true rfl) (fun X hC hR hT => ?_)
  obtain ⟨hR1, hC1, hR6, hC6, hE⟩ := id hT0
  have hsf : ∀ g, sA σ t g = sA (sA σ i_m_trial (σ.2.2 i_m_trial)) t g := fun g => by rw [sA_self]
  have kb : ∀ u5 u6, Rw mX11_does X 111 [some (.ref i_M), some (.ref t), some (.int (nI 4)), some (.int (nI a)), some (.int (nI b)), u5, u6] [] (wd σ x) 0 0 := by
    intro u5 u6
    refine R_iload_n (i := 2) hC dX11_does_111 rfl rfl (R_iconst (v := 4) hC dX11_does_112 (by decide) ?_)
    refine R_icmp_ne hC 134 dX11_does_113 (by decide) (fun h => absurd rfl h) (fun _ => ?_)
    refine R_aload_n (i := 0) hC dX11_does_116 rfl rfl (R_aload_n (i := 1) hC dX11_does_117 rfl rfl (R_iload_n (i := 3) hC dX11_does_118 rfl rfl (R_iload hC dX11_does_119 rfl ?_)))
    refine R_V3g hC hR dX11_does_121 MV_X11_canTurn ml_X11_174 L_M rfl (s_canTurn _ _ _ ht hne T hT0 a b ha hb) (by decide) ⟨by decide, by decide⟩ (Nat.le_of_ble_eq_true rfl) (fun r w1 hq => ?_)
    obtain ⟨g, rfl, ⟨-, rfl, hg⟩ | ⟨hno, -⟩⟩ := hq
    case inr => exact absurd hok hno
    refine R_istore hC dX11_does_124 (by decide) rfl (R_aload_n (i := 0) hC dX11_does_126 rfl rfl (R_gR hC dX11_does_127 fl_X11_20 L_M rfl (R_aload_n (i := 1) hC dX11_does_130 rfl rfl ?_)))
    refine R_S2v hC hR dX11_does_131 MS_X11_copy ml_X11_170 (s_copy _ _ _ _ L_m_trial ht (Ne.symm hne)) (by decide) ⟨by decide, by decide⟩ (Nat.le_of_ble_eq_true rfl) ?_
    refine R_iload_n (i := 2) hC dX11_does_134 rfl rfl (R_iconst (v := 5) hC dX11_does_135 (by decide) ?_)
    refine R_icmp_ne hC 199 dX11_does_136 (by decide) (fun _ => ?_) (fun h => absurd h (by decide))
    refine R_iload_n (i := 2) hC dX11_does_199 rfl rfl (R_bipush (v := 6) hC dX11_does_200 (by decide) ?_)
    refine R_icmp_ne hC 267 dX11_does_202 (by decide) (fun _ => ?_) (fun h => absurd h (by decide))
    refine R_iload_n (i := 2) hC dX11_does_267 rfl rfl (R_bipush (v := 7) hC dX11_does_268 (by decide) ?_)
    refine R_icmp_ne hC 334 dX11_does_270 (by decide) (fun _ => ?_) (fun h => absurd h (by decide))
    exact R_vret hC hT dX11_does_334 rfl ⟨rfl, _, g, rfl, by
    obtain ⟨q1, q2, q3, q4, q5⟩ := hg
    refine ⟨?_, ?_, q3, q4, fun i j hi hj => ?_⟩
    · simp only [cpy, sA_eq]; exact q1
    · simp only [cpy, sA_eq]; exact q2
    · have hi2 : i < T.1 := hi
      have hj2 : j < T.2.1 := hj
      simp only [cpy, sA_eq]
      rw [if_pos (by omega)]
      exact q5 i j hi hj⟩
  have key0 : ∀ n, n ≤ 6 → ∀ u6, Rw mX11_does X 3 [some (.ref i_M), some (.ref t), some (.int (nI 4)), some (.int (nI a)), some (.int (nI b)), some (.int (nI n)), u6] [] (wd σ x) 0 0 := by
    refine up_loop 6 ?_ ?_
    · intro u6
      refine R_iload hC dX11_does_3 rfl (R_bipush (v := 6) hC dX11_does_5 (by decide) ?_)
      refine R_icmp_ge hC 111 dX11_does_7 (by decide) (fun _ => ?_) (fun h => absurd (by decide) h)
      exact kb _ _
    · intro n hn ih u6
      refine R_iload hC dX11_does_3 rfl (R_bipush (v := 6) hC dX11_does_5 (by decide) ?_)
      refine R_icmp_ge hC 111 dX11_does_7 (by decide) (fun h => absurd h (nI_ge (b := 6) hn (by decide))) (fun _ => ?_)
      refine R_iload_n (i := 2) hC dX11_does_10 rfl rfl ?_
      refine R_if_ne hC 33 dX11_does_11 (by decide) (fun _ => ?_) (fun h => absurd h (by decide))
      refine R_iload_n (i := 2) hC dX11_does_33 rfl rfl (R_iconst (v := 1) hC dX11_does_34 (by decide) ?_)
      refine R_icmp_ne hC 57 dX11_does_35 (by decide) (fun _ => ?_) (fun h => absurd h (by decide))
      refine R_iload_n (i := 2) hC dX11_does_57 rfl rfl (R_iconst (v := 2) hC dX11_does_58 (by decide) ?_)
      refine R_icmp_ne hC 81 dX11_does_59 (by decide) (fun _ => ?_) (fun h => absurd h (by decide))
      refine R_iload_n (i := 2) hC dX11_does_81 rfl rfl (R_iconst (v := 3) hC dX11_does_82 (by decide) ?_)
      refine R_icmp_ne hC 105 dX11_does_83 (by decide) (fun _ => ?_) (fun h => absurd h (by decide))
      refine R_iinc hC dX11_does_105 rfl (inc1 _) (by decide) rfl (R_goto hC 3 dX11_does_108 (by decide) ?_)
      exact ih _
  refine R_iconst (v := 0) hC dX11_does_0 (by decide) (R_istore hC dX11_does_1 (by decide) rfl ?_)
  exact key0 0 (by decide) _
theorem s_does5 (σ : sg) (x : aW) (t : Nat) (ht : LY t (0, 38, [])) (hne : t ≠ i_m_trial) (T : tb) (hT0 : TB (σ.2.2 t) T) (a b : Int32) :
    Mt mX11_does 2 0 0 [.ref i_M, .ref t, .int (nI 5), .int a, .int b] (wd σ x) (fun q w => q = none ∧ ∃ g h : Nat → Int32, w = wd (sA (sA σ i_m_trial h) t g) x ∧ TB g (doA 5 0 0 T)) := by
  refine Mt.of MI_X11_does (Nat.le_of_ble_eq_true rfl) (fun X hC hR hT => ?_)
  obtain ⟨hR1, hC1, hR6, hC6, hE⟩ := id hT0
  have hsf : ∀ g, sA σ t g = sA (sA σ i_m_trial (σ.2.2 i_m_trial)) t g := fun g => by rw [sA_self]
  have outer : ∀ n, n ≤ 6 → ∀ g, grid g (σ.2.2 t) (fun i j => if i < n ∧ j < n then σ.2.2 t (6 * j + i) else σ.2.2 t (6 * i + j)) → ∀ u6, Rw mX11_does X 142 [some (.ref i_M), some (.ref t), some (.int (nI 5)), some (.int a), some (.int b), some (.int (nI n)), u6] [] (wd (sA σ t g) x) 0 0 := by
    refine up_loop 6 ?_ ?_
    · intro g hg u6
      refine R_iload hC dX11_does_142 rfl (R_bipush (v := 6) hC dX11_does_144 (by decide) ?_)
      refine R_icmp_ge hC 191 dX11_does_146 (by decide) (fun _ => ?_) (fun h => absurd (by decide) h)
      refine R_aload_n (i := 1) hC dX11_does_191 rfl rfl (R_bipush (v := 36) hC dX11_does_192 (by decide) (R_bipush (v := 37) hC dX11_does_194 (by decide) ?_))
      refine R_S3v hC hR dX11_does_196 MS_X11_swaps ml_X11_177 (s_swaps _ _ _ ht 36 37 (by decide) (by decide)) (by decide) ⟨by decide, by decide⟩ (Nat.le_of_ble_eq_true rfl) ?_
      refine R_wd (by rw [sA_eq, sA_sA]) ?_
      refine R_iload_n (i := 2) hC dX11_does_199 rfl rfl (R_bipush (v := 6) hC dX11_does_200 (by decide) ?_)
      refine R_icmp_ne hC 267 dX11_does_202 (by decide) (fun _ => ?_) (fun h => absurd h (by decide))
      refine R_iload_n (i := 2) hC dX11_does_267 rfl rfl (R_bipush (v := 7) hC dX11_does_268 (by decide) ?_)
      refine R_icmp_ne hC 334 dX11_does_270 (by decide) (fun _ => ?_) (fun h => absurd h (by decide))
      exact R_vret hC hT dX11_does_334 rfl ⟨rfl, _, _, by rw [hsf], by
      refine ⟨?_, ?_, hC6, hR6, fun i j hi hj => ?_⟩
      · simp only [upd]; rw [hg.2.1]; exact hC1
      · simp only [upd]; rw [hg.1]; exact hR1
      · have hi2 : i < T.2.1 := hi
        have hj2 : j < T.1 := hj
        have e0 : g (6 * i + j) = if i < 6 ∧ j < 6 then σ.2.2 t (6 * j + i) else σ.2.2 t (6 * i + j) := hg.2.2 i j (by omega) (by omega)
        simp only [upd]
        rw [if_neg (by omega), if_neg (by omega), e0, if_pos (by omega)]
        exact hE j i hj2 hi2⟩
    · intro n hn ih g hg u6
      have inner : ∀ k, k ≤ n → ∀ g, grid g (σ.2.2 t) (fun i j => if (i < n ∧ j < n) ∨ (i = n ∧ j < k) ∨ (j = n ∧ i < k) then σ.2.2 t (6 * j + i) else σ.2.2 t (6 * i + j)) → Rw mX11_does X 152 [some (.ref i_M), some (.ref t), some (.int (nI 5)), some (.int a), some (.int b), some (.int (nI n)), some (.int (nI k))] [] (wd (sA σ t g) x) 0 0 := by
        refine up_loop n ?_ ?_
        · intro g hg
          refine R_iload hC dX11_does_152 rfl (R_iload hC dX11_does_154 rfl ?_)
          refine R_icmp_ge hC 185 dX11_does_156 (by decide) (fun _ => ?_) (fun h => absurd (Int32.le_refl _) h)
          refine R_iinc hC dX11_does_185 rfl (inc1 _) (by decide) rfl (R_goto hC 142 dX11_does_188 (by decide) ?_)
          exact ih _ (hg.cond (p2 := fun i j => i < n + 1 ∧ j < n + 1) (fun i j hi hj => by
          by_cases e : i = n ∧ j = n
          · obtain ⟨rfl, rfl⟩ := e; exact Or.inr rfl
          · exact Or.inl (by omega))) _
        · intro k hk ihk g hg
          refine R_iload hC dX11_does_152 rfl (R_iload hC dX11_does_154 rfl ?_)
          refine R_icmp_ge hC 185 dX11_does_156 (by decide) (fun h => absurd h (nI_ge hk (by omega))) (fun _ => ?_)
          refine R_aload_n (i := 1) hC dX11_does_159 rfl rfl (R_bipush (v := 6) hC dX11_does_160 (by decide) (R_iload hC dX11_does_162 rfl (R_imul hC dX11_does_164 (R_iload hC dX11_does_165 rfl (R_iadd hC dX11_does_167 ?_)))))
          refine R_top (n6 n k) ?_
          refine R_bipush (v := 6) hC dX11_does_168 (by decide) (R_iload hC dX11_does_170 rfl (R_imul hC dX11_does_172 (R_iload hC dX11_does_173 rfl (R_iadd hC dX11_does_175 ?_))))
          refine R_top (n6 k n) ?_
          refine R_S3v hC hR dX11_does_176 MS_X11_swaps ml_X11_177 (s_swaps _ _ _ ht (6 * n + k) (6 * k + n) (by omega) (by omega)) (by decide) ⟨by decide, by decide⟩ (Nat.le_of_ble_eq_true rfl) ?_
          refine R_wd (by rw [sA_eq, sA_sA]) ?_
          refine R_iinc hC dX11_does_179 rfl (inc1 _) (by decide) rfl (R_goto hC 152 dX11_does_182 (by decide) ?_)
          exact ihk _ (hg.put2 (a := n) (b := k) (c := k) (d := n) (p2 := fun i j => (i < n ∧ j < n) ∨ (i = n ∧ j < k + 1) ∨ (j = n ∧ i < k + 1)) hn (by omega) (by omega) hn (by rw [hg.2.2 k n (by omega) hn]; exact if_neg (by omega)) (by rw [hg.2.2 n k hn (by omega)]; exact if_neg (by omega)) (fun i j hi hj => by omega))
      refine R_iload hC dX11_does_142 rfl (R_bipush (v := 6) hC dX11_does_144 (by decide) ?_)
      refine R_icmp_ge hC 191 dX11_does_146 (by decide) (fun h => absurd h (nI_ge (b := 6) hn (by decide))) (fun _ => ?_)
      refine R_iconst (v := 0) hC dX11_does_149 (by decide) (R_istore hC dX11_does_150 (by decide) rfl ?_)
      exact inner 0 (Nat.zero_le _) g (hg.cond (p2 := fun i j => (i < n ∧ j < n) ∨ (i = n ∧ j < 0) ∨ (j = n ∧ i < 0)) (fun i j hi hj => Or.inl (by omega)))
  have kb : ∀ u5 u6, Rw mX11_does X 111 [some (.ref i_M), some (.ref t), some (.int (nI 5)), some (.int a), some (.int b), u5, u6] [] (wd σ x) 0 0 := by
    intro u5 u6
    refine R_iload_n (i := 2) hC dX11_does_111 rfl rfl (R_iconst (v := 4) hC dX11_does_112 (by decide) ?_)
    refine R_icmp_ne hC 134 dX11_does_113 (by decide) (fun _ => ?_) (fun h => absurd h (by decide))
    refine R_iload_n (i := 2) hC dX11_does_134 rfl rfl (R_iconst (v := 5) hC dX11_does_135 (by decide) ?_)
    refine R_icmp_ne hC 199 dX11_does_136 (by decide) (fun h => absurd rfl h) (fun _ => ?_)
    refine R_iconst (v := 0) hC dX11_does_139 (by decide) (R_istore hC dX11_does_140 (by decide) rfl ?_)
    (refine R_wd (τ := sA σ t (σ.2.2 t)) (by rw [sA_self]) ?_; exact outer 0 (by decide) _ (grid.init (fun i j _ _ => by omega)) _)
  have key0 : ∀ n, n ≤ 6 → ∀ u6, Rw mX11_does X 3 [some (.ref i_M), some (.ref t), some (.int (nI 5)), some (.int a), some (.int b), some (.int (nI n)), u6] [] (wd σ x) 0 0 := by
    refine up_loop 6 ?_ ?_
    · intro u6
      refine R_iload hC dX11_does_3 rfl (R_bipush (v := 6) hC dX11_does_5 (by decide) ?_)
      refine R_icmp_ge hC 111 dX11_does_7 (by decide) (fun _ => ?_) (fun h => absurd (by decide) h)
      exact kb _ _
    · intro n hn ih u6
      refine R_iload hC dX11_does_3 rfl (R_bipush (v := 6) hC dX11_does_5 (by decide) ?_)
      refine R_icmp_ge hC 111 dX11_does_7 (by decide) (fun h => absurd h (nI_ge (b := 6) hn (by decide))) (fun _ => ?_)
      refine R_iload_n (i := 2) hC dX11_does_10 rfl rfl ?_
      refine R_if_ne hC 33 dX11_does_11 (by decide) (fun _ => ?_) (fun h => absurd h (by decide))
      refine R_iload_n (i := 2) hC dX11_does_33 rfl rfl (R_iconst (v := 1) hC dX11_does_34 (by decide) ?_)
      refine R_icmp_ne hC 57 dX11_does_35 (by decide) (fun _ => ?_) (fun h => absurd h (by decide))
      refine R_iload_n (i := 2) hC dX11_does_57 rfl rfl (R_iconst (v := 2) hC dX11_does_58 (by decide) ?_)
      refine R_icmp_ne hC 81 dX11_does_59 (by decide) (fun _ => ?_) (fun h => absurd h (by decide))
      refine R_iload_n (i := 2) hC dX11_does_81 rfl rfl (R_iconst (v := 3) hC dX11_does_82 (by decide) ?_)
      refine R_icmp_ne hC 105 dX11_does_83 (by decide) (fun _ => ?_) (fun h => absurd h (by decide))
      refine R_iinc hC dX11_does_105 rfl (inc1 _) (by decide) rfl (R_goto hC 3 dX11_does_108 (by decide) ?_)
      exact ih _
  refine R_iconst (v := 0) hC dX11_does_0 (by decide) (R_istore hC dX11_does_1 (by decide) rfl ?_)
  exact key0 0 (by decide) _
theorem s_does6 (σ : sg) (x : aW) (t : Nat) (ht : LY t (0, 38, [])) (hne : t ≠ i_m_trial) (T : tb) (hT0 : TB (σ.2.2 t) T) (a : Nat) (ha : a < T.1) (h2 : 2 ≤ T.1) (b : Int32) :
    Mt mX11_does 2 0 0 [.ref i_M, .ref t, .int (nI 6), .int (nI a), .int b] (wd σ x) (fun q w => q = none ∧ ∃ g h : Nat → Int32, w = wd (sA (sA σ i_m_trial h) t g) x ∧ TB g (doA 6 a 0 T)) := by
  refine Mt.of MI_X11_does (Nat.le_of_ble_eq_true rfl) (fun X hC hR hT => ?_)
  obtain ⟨hR1, hC1, hR6, hC6, hE⟩ := id hT0
  have hsf : ∀ g, sA σ t g = sA (sA σ i_m_trial (σ.2.2 i_m_trial)) t g := fun g => by rw [sA_self]
  have outer : ∀ n, n ≤ 5 → a ≤ n → ∀ g, grid g (σ.2.2 t) (fun i j => if a ≤ i ∧ i < n then σ.2.2 t (6 * (i + 1) + j) else σ.2.2 t (6 * i + j)) → ∀ u6, Rw mX11_does X 208 [some (.ref i_M), some (.ref t), some (.int (nI 6)), some (.int (nI a)), some (.int b), some (.int (nI n)), u6] [] (wd (sA σ t g) x) 0 0 := by
    refine up_loop 5 ?_ ?_
    · intro han g hg u6
      refine R_iload hC dX11_does_208 rfl (R_iconst (v := 5) hC dX11_does_210 (by decide) ?_)
      refine R_icmp_ge hC 259 dX11_does_211 (by decide) (fun _ => ?_) (fun h => absurd (by decide) h)
      refine R_aload_n (i := 1) hC dX11_does_259 rfl rfl (R_bipush (v := 36) hC dX11_does_260 (by decide) (R_dup2 hC dX11_does_262 rfl rfl (R_aI hC dX11_does_263 ht 36 rfl (by decide) (by decide) (R_iconst (v := 1) hC dX11_does_264 (by decide) (R_isub hC dX11_does_265 (R_sI hC dX11_does_266 ht 36 rfl (by decide) (by decide) ?_))))))
      refine R_wd (by rw [sA_eq, sA_sA]) ?_
      refine R_iload_n (i := 2) hC dX11_does_267 rfl rfl (R_bipush (v := 7) hC dX11_does_268 (by decide) ?_)
      refine R_icmp_ne hC 334 dX11_does_270 (by decide) (fun _ => ?_) (fun h => absurd h (by decide))
      exact R_vret hC hT dX11_does_334 rfl ⟨rfl, _, _, by rw [hsf], by
      have e1 : nI T.1 - 1 = nI (T.1 - 1) := by
        have h := nI_pred (T.1 - 1)
        rwa [show T.1 - 1 + 1 = T.1 by omega] at h
      refine ⟨?_, ?_, ?_, hC6, fun i j hi hj => ?_⟩
      · simp only [upd]; rw [if_pos trivial, hg.1, hR1]; exact e1
      · simp only [upd]; rw [if_neg (by decide), hg.2.1]; exact hC1
      · show T.1 - 1 ≤ 6; omega
      · have hi2 : i < T.1 - 1 := hi
        have hj2 : j < T.2.1 := hj
        have e0 : g (6 * i + j) = if a ≤ i ∧ i < 5 then σ.2.2 t (6 * (i + 1) + j) else σ.2.2 t (6 * i + j) := hg.2.2 i j (by omega) (by omega)
        simp only [upd]
        rw [if_neg (by omega), e0]
        show _ = (if i < a then T.2.2 i j else T.2.2 (i + 1) j) ∧ sml (if i < a then T.2.2 i j else T.2.2 (i + 1) j)
        by_cases e : i < a
        · rw [if_neg (by omega), if_pos e]; exact hE i j (by omega) hj2
        · rw [if_pos (by omega), if_neg e]; exact hE (i + 1) j (by omega) hj2⟩
    · intro n hn ih han g hg u6
      have inner : ∀ k, k ≤ 6 → ∀ g, grid g (σ.2.2 t) (fun i j => if a ≤ i ∧ (i < n ∨ (i = n ∧ j < k)) then σ.2.2 t (6 * (i + 1) + j) else σ.2.2 t (6 * i + j)) → Rw mX11_does X 217 [some (.ref i_M), some (.ref t), some (.int (nI 6)), some (.int (nI a)), some (.int b), some (.int (nI n)), some (.int (nI k))] [] (wd (sA σ t g) x) 0 0 := by
        refine up_loop 6 ?_ ?_
        · intro g hg
          refine R_iload hC dX11_does_217 rfl (R_bipush (v := 6) hC dX11_does_219 (by decide) ?_)
          refine R_icmp_ge hC 253 dX11_does_221 (by decide) (fun _ => ?_) (fun h => absurd (by decide) h)
          refine R_iinc hC dX11_does_253 rfl (inc1 _) (by decide) rfl (R_goto hC 208 dX11_does_256 (by decide) ?_)
          exact ih (by omega) _ (hg.cond (p2 := fun i j => a ≤ i ∧ i < n + 1) (fun i j hi hj => Or.inl (by omega))) _
        · intro k hk ihk g hg
          refine R_iload hC dX11_does_217 rfl (R_bipush (v := 6) hC dX11_does_219 (by decide) ?_)
          refine R_icmp_ge hC 253 dX11_does_221 (by decide) (fun h => absurd h (nI_ge (b := 6) hk (by decide))) (fun _ => ?_)
          refine R_aload_n (i := 1) hC dX11_does_224 rfl rfl (R_bipush (v := 6) hC dX11_does_225 (by decide) (R_iload hC dX11_does_227 rfl (R_imul hC dX11_does_229 (R_iload hC dX11_does_230 rfl (R_iadd hC dX11_does_232 (R_aload_n (i := 1) hC dX11_does_233 rfl rfl (R_bipush (v := 6) hC dX11_does_234 (by decide) ?_)))))))
          refine R_iload hC dX11_does_236 rfl (R_imul hC dX11_does_238 (R_bipush (v := 6) hC dX11_does_239 (by decide) (R_iadd hC dX11_does_241 (R_iload hC dX11_does_242 rfl (R_iadd hC dX11_does_244 (R_aI hC dX11_does_245 ht (6 * (n + 1) + k) (by rw [show (6 : Int32) * nI n + 6 = nI (6 * (n + 1)) from by rw [show (6 : Int32) = nI 6 from rfl, pk_mul, nI_add, show 6 * n + 6 = 6 * (n + 1) by omega], nI_add]) (by omega) (by decide) (R_sI hC dX11_does_246 ht (6 * n + k) (n6 n k) (by omega) (by decide) ?_)))))))
          refine R_wd (by rw [sA_eq, sA_sA]) ?_
          refine R_iinc hC dX11_does_247 rfl (inc1 _) (by decide) rfl (R_goto hC 217 dX11_does_250 (by decide) ?_)
          exact ihk _ (hg.put (a := n) (b := k) (p2 := fun i j => a ≤ i ∧ (i < n ∨ (i = n ∧ j < k + 1))) (by omega) hk (by rw [hg.2.2 (n + 1) k (by omega) hk]; exact if_neg (by omega)) (fun i j hi hj => by omega))
      refine R_iload hC dX11_does_208 rfl (R_iconst (v := 5) hC dX11_does_210 (by decide) ?_)
      refine R_icmp_ge hC 259 dX11_does_211 (by decide) (fun h => absurd h (nI_ge (b := 5) hn (by decide))) (fun _ => ?_)
      refine R_iconst (v := 0) hC dX11_does_214 (by decide) (R_istore hC dX11_does_215 (by decide) rfl ?_)
      exact inner 0 (by decide) g (hg.cond (p2 := fun i j => a ≤ i ∧ (i < n ∨ (i = n ∧ j < 0))) (fun i j hi hj => Or.inl (by omega)))
  have kb : ∀ u5 u6, Rw mX11_does X 111 [some (.ref i_M), some (.ref t), some (.int (nI 6)), some (.int (nI a)), some (.int b), u5, u6] [] (wd σ x) 0 0 := by
    intro u5 u6
    refine R_iload_n (i := 2) hC dX11_does_111 rfl rfl (R_iconst (v := 4) hC dX11_does_112 (by decide) ?_)
    refine R_icmp_ne hC 134 dX11_does_113 (by decide) (fun _ => ?_) (fun h => absurd h (by decide))
    refine R_iload_n (i := 2) hC dX11_does_134 rfl rfl (R_iconst (v := 5) hC dX11_does_135 (by decide) ?_)
    refine R_icmp_ne hC 199 dX11_does_136 (by decide) (fun _ => ?_) (fun h => absurd h (by decide))
    refine R_iload_n (i := 2) hC dX11_does_199 rfl rfl (R_bipush (v := 6) hC dX11_does_200 (by decide) ?_)
    refine R_icmp_ne hC 267 dX11_does_202 (by decide) (fun h => absurd rfl h) (fun _ => ?_)
    refine R_iload_n (i := 3) hC dX11_does_205 rfl rfl (R_istore hC dX11_does_206 (by decide) rfl ?_)
    (refine R_wd (τ := sA σ t (σ.2.2 t)) (by rw [sA_self]) ?_; exact outer a (by omega) (Nat.le_refl _) _ (grid.init (fun i j _ _ => by omega)) _)
  have key0 : ∀ n, n ≤ 6 → ∀ u6, Rw mX11_does X 3 [some (.ref i_M), some (.ref t), some (.int (nI 6)), some (.int (nI a)), some (.int b), some (.int (nI n)), u6] [] (wd σ x) 0 0 := by
    refine up_loop 6 ?_ ?_
    · intro u6
      refine R_iload hC dX11_does_3 rfl (R_bipush (v := 6) hC dX11_does_5 (by decide) ?_)
      refine R_icmp_ge hC 111 dX11_does_7 (by decide) (fun _ => ?_) (fun h => absurd (by decide) h)
      exact kb _ _
    · intro n hn ih u6
      refine R_iload hC dX11_does_3 rfl (R_bipush (v := 6) hC dX11_does_5 (by decide) ?_)
      refine R_icmp_ge hC 111 dX11_does_7 (by decide) (fun h => absurd h (nI_ge (b := 6) hn (by decide))) (fun _ => ?_)
      refine R_iload_n (i := 2) hC dX11_does_10 rfl rfl ?_
      refine R_if_ne hC 33 dX11_does_11 (by decide) (fun _ => ?_) (fun h => absurd h (by decide))
      refine R_iload_n (i := 2) hC dX11_does_33 rfl rfl (R_iconst (v := 1) hC dX11_does_34 (by decide) ?_)
      refine R_icmp_ne hC 57 dX11_does_35 (by decide) (fun _ => ?_) (fun h => absurd h (by decide))
      refine R_iload_n (i := 2) hC dX11_does_57 rfl rfl (R_iconst (v := 2) hC dX11_does_58 (by decide) ?_)
      refine R_icmp_ne hC 81 dX11_does_59 (by decide) (fun _ => ?_) (fun h => absurd h (by decide))
      refine R_iload_n (i := 2) hC dX11_does_81 rfl rfl (R_iconst (v := 3) hC dX11_does_82 (by decide) ?_)
      refine R_icmp_ne hC 105 dX11_does_83 (by decide) (fun _ => ?_) (fun h => absurd h (by decide))
      refine R_iinc hC dX11_does_105 rfl (inc1 _) (by decide) rfl (R_goto hC 3 dX11_does_108 (by decide) ?_)
      exact ih _
  refine R_iconst (v := 0) hC dX11_does_0 (by decide) (R_istore hC dX11_does_1 (by decide) rfl ?_)
  exact key0 0 (by decide) _
theorem s_does7 (σ : sg) (x : aW) (t : Nat) (ht : LY t (0, 38, [])) (hne : t ≠ i_m_trial) (T : tb) (hT0 : TB (σ.2.2 t) T) (a : Nat) (ha : a < T.2.1) (h2 : 2 ≤ T.2.1) (b : Int32) :
    Mt mX11_does 2 0 0 [.ref i_M, .ref t, .int (nI 7), .int (nI a), .int b] (wd σ x) (fun q w => q = none ∧ ∃ g h : Nat → Int32, w = wd (sA (sA σ i_m_trial h) t g) x ∧ TB g (doA 7 a 0 T)) := by
  refine Mt.of MI_X11_does (Nat.le_of_ble_eq_true rfl) (fun X hC hR hT => ?_)
  obtain ⟨hR1, hC1, hR6, hC6, hE⟩ := id hT0
  have hsf : ∀ g, sA σ t g = sA (sA σ i_m_trial (σ.2.2 i_m_trial)) t g := fun g => by rw [sA_self]
  have outer : ∀ n, n ≤ 6 → ∀ g, grid g (σ.2.2 t) (fun i j => if i < n ∧ a ≤ j ∧ j < 5 then σ.2.2 t (6 * i + (j + 1)) else σ.2.2 t (6 * i + j)) → ∀ u6, Rw mX11_does X 276 [some (.ref i_M), some (.ref t), some (.int (nI 7)), some (.int (nI a)), some (.int b), some (.int (nI n)), u6] [] (wd (sA σ t g) x) 0 0 := by
    refine up_loop 6 ?_ ?_
    · intro g hg u6
      refine R_iload hC dX11_does_276 rfl (R_bipush (v := 6) hC dX11_does_278 (by decide) ?_)
      refine R_icmp_ge hC 326 dX11_does_280 (by decide) (fun _ => ?_) (fun h => absurd (by decide) h)
      refine R_aload_n (i := 1) hC dX11_does_326 rfl rfl (R_bipush (v := 37) hC dX11_does_327 (by decide) (R_dup2 hC dX11_does_329 rfl rfl (R_aI hC dX11_does_330 ht 37 rfl (by decide) (by decide) (R_iconst (v := 1) hC dX11_does_331 (by decide) (R_isub hC dX11_does_332 (R_sI hC dX11_does_333 ht 37 rfl (by decide) (by decide) ?_))))))
      refine R_wd (by rw [sA_eq, sA_sA]) ?_
      exact R_vret hC hT dX11_does_334 rfl ⟨rfl, _, _, by rw [hsf], by
      have e1 : nI T.2.1 - 1 = nI (T.2.1 - 1) := by
        have h := nI_pred (T.2.1 - 1)
        rwa [show T.2.1 - 1 + 1 = T.2.1 by omega] at h
      refine ⟨?_, ?_, hR6, ?_, fun i j hi hj => ?_⟩
      · simp only [upd]; rw [if_neg (by decide), hg.1]; exact hR1
      · simp only [upd]; rw [if_pos trivial, hg.2.1, hC1]; exact e1
      · show T.2.1 - 1 ≤ 6; omega
      · have hi2 : i < T.1 := hi
        have hj2 : j < T.2.1 - 1 := hj
        have e0 : g (6 * i + j) = if i < 6 ∧ a ≤ j ∧ j < 5 then σ.2.2 t (6 * i + (j + 1)) else σ.2.2 t (6 * i + j) := hg.2.2 i j (by omega) (by omega)
        simp only [upd]
        rw [if_neg (by omega), e0]
        show _ = (if j < a then T.2.2 i j else T.2.2 i (j + 1)) ∧ sml (if j < a then T.2.2 i j else T.2.2 i (j + 1))
        by_cases e : j < a
        · rw [if_neg (by omega), if_pos e]; exact hE i j hi2 (by omega)
        · rw [if_pos (by omega), if_neg e]; exact hE i (j + 1) hi2 (by omega)⟩
    · intro n hn ih g hg u6
      have inner : ∀ k, k ≤ 5 → a ≤ k → ∀ g, grid g (σ.2.2 t) (fun i j => if a ≤ j ∧ ((i < n ∧ j < 5) ∨ (i = n ∧ j < k)) then σ.2.2 t (6 * i + (j + 1)) else σ.2.2 t (6 * i + j)) → Rw mX11_does X 286 [some (.ref i_M), some (.ref t), some (.int (nI 7)), some (.int (nI a)), some (.int b), some (.int (nI n)), some (.int (nI k))] [] (wd (sA σ t g) x) 0 0 := by
        refine up_loop 5 ?_ ?_
        · intro hak g hg
          refine R_iload hC dX11_does_286 rfl (R_iconst (v := 5) hC dX11_does_288 (by decide) ?_)
          refine R_icmp_ge hC 320 dX11_does_289 (by decide) (fun _ => ?_) (fun h => absurd (by decide) h)
          refine R_iinc hC dX11_does_320 rfl (inc1 _) (by decide) rfl (R_goto hC 276 dX11_does_323 (by decide) ?_)
          exact ih _ (hg.cond (p2 := fun i j => i < n + 1 ∧ a ≤ j ∧ j < 5) (fun i j hi hj => Or.inl (by omega))) _
        · intro k hk ihk hak g hg
          refine R_iload hC dX11_does_286 rfl (R_iconst (v := 5) hC dX11_does_288 (by decide) ?_)
          refine R_icmp_ge hC 320 dX11_does_289 (by decide) (fun h => absurd h (nI_ge (b := 5) hk (by decide))) (fun _ => ?_)
          refine R_aload_n (i := 1) hC dX11_does_292 rfl rfl (R_bipush (v := 6) hC dX11_does_293 (by decide) (R_iload hC dX11_does_295 rfl (R_imul hC dX11_does_297 (R_iload hC dX11_does_298 rfl (R_iadd hC dX11_does_300 (R_aload_n (i := 1) hC dX11_does_301 rfl rfl (R_bipush (v := 6) hC dX11_does_302 (by decide) ?_)))))))
          refine R_iload hC dX11_does_304 rfl (R_imul hC dX11_does_306 (R_iload hC dX11_does_307 rfl (R_iadd hC dX11_does_309 (R_iconst (v := 1) hC dX11_does_310 (by decide) (R_iadd hC dX11_does_311 (R_aI hC dX11_does_312 ht (6 * n + (k + 1)) (by rw [n6, ← nI_succ, Nat.add_assoc]) (by omega) (by decide) (R_sI hC dX11_does_313 ht (6 * n + k) (n6 n k) (by omega) (by decide) ?_)))))))
          refine R_wd (by rw [sA_eq, sA_sA]) ?_
          refine R_iinc hC dX11_does_314 rfl (inc1 _) (by decide) rfl (R_goto hC 286 dX11_does_317 (by decide) ?_)
          exact ihk (by omega) _ (hg.put (a := n) (b := k) (p2 := fun i j => a ≤ j ∧ ((i < n ∧ j < 5) ∨ (i = n ∧ j < k + 1))) hn (by omega) (by rw [hg.2.2 n (k + 1) hn (by omega)]; exact if_neg (by omega)) (fun i j hi hj => by omega))
      refine R_iload hC dX11_does_276 rfl (R_bipush (v := 6) hC dX11_does_278 (by decide) ?_)
      refine R_icmp_ge hC 326 dX11_does_280 (by decide) (fun h => absurd h (nI_ge (b := 6) hn (by decide))) (fun _ => ?_)
      refine R_iload_n (i := 3) hC dX11_does_283 rfl rfl (R_istore hC dX11_does_284 (by decide) rfl ?_)
      exact inner a (by omega) (Nat.le_refl _) g (hg.cond (p2 := fun i j => a ≤ j ∧ ((i < n ∧ j < 5) ∨ (i = n ∧ j < a))) (fun i j hi hj => Or.inl (by omega)))
  have kb : ∀ u5 u6, Rw mX11_does X 111 [some (.ref i_M), some (.ref t), some (.int (nI 7)), some (.int (nI a)), some (.int b), u5, u6] [] (wd σ x) 0 0 := by
    intro u5 u6
    refine R_iload_n (i := 2) hC dX11_does_111 rfl rfl (R_iconst (v := 4) hC dX11_does_112 (by decide) ?_)
    refine R_icmp_ne hC 134 dX11_does_113 (by decide) (fun _ => ?_) (fun h => absurd h (by decide))
    refine R_iload_n (i := 2) hC dX11_does_134 rfl rfl (R_iconst (v := 5) hC dX11_does_135 (by decide) ?_)
    refine R_icmp_ne hC 199 dX11_does_136 (by decide) (fun _ => ?_) (fun h => absurd h (by decide))
    refine R_iload_n (i := 2) hC dX11_does_199 rfl rfl (R_bipush (v := 6) hC dX11_does_200 (by decide) ?_)
    refine R_icmp_ne hC 267 dX11_does_202 (by decide) (fun _ => ?_) (fun h => absurd h (by decide))
    refine R_iload_n (i := 2) hC dX11_does_267 rfl rfl (R_bipush (v := 7) hC dX11_does_268 (by decide) ?_)
    refine R_icmp_ne hC 334 dX11_does_270 (by decide) (fun h => absurd rfl h) (fun _ => ?_)
    refine R_iconst (v := 0) hC dX11_does_273 (by decide) (R_istore hC dX11_does_274 (by decide) rfl ?_)
    (refine R_wd (τ := sA σ t (σ.2.2 t)) (by rw [sA_self]) ?_; exact outer 0 (by decide) _ (grid.init (fun i j _ _ => by omega)) _)
  have key0 : ∀ n, n ≤ 6 → ∀ u6, Rw mX11_does X 3 [some (.ref i_M), some (.ref t), some (.int (nI 7)), some (.int (nI a)), some (.int b), some (.int (nI n)), u6] [] (wd σ x) 0 0 := by
    refine up_loop 6 ?_ ?_
    · intro u6
      refine R_iload hC dX11_does_3 rfl (R_bipush (v := 6) hC dX11_does_5 (by decide) ?_)
      refine R_icmp_ge hC 111 dX11_does_7 (by decide) (fun _ => ?_) (fun h => absurd (by decide) h)
      exact kb _ _
    · intro n hn ih u6
      refine R_iload hC dX11_does_3 rfl (R_bipush (v := 6) hC dX11_does_5 (by decide) ?_)
      refine R_icmp_ge hC 111 dX11_does_7 (by decide) (fun h => absurd h (nI_ge (b := 6) hn (by decide))) (fun _ => ?_)
      refine R_iload_n (i := 2) hC dX11_does_10 rfl rfl ?_
      refine R_if_ne hC 33 dX11_does_11 (by decide) (fun _ => ?_) (fun h => absurd h (by decide))
      refine R_iload_n (i := 2) hC dX11_does_33 rfl rfl (R_iconst (v := 1) hC dX11_does_34 (by decide) ?_)
      refine R_icmp_ne hC 57 dX11_does_35 (by decide) (fun _ => ?_) (fun h => absurd h (by decide))
      refine R_iload_n (i := 2) hC dX11_does_57 rfl rfl (R_iconst (v := 2) hC dX11_does_58 (by decide) ?_)
      refine R_icmp_ne hC 81 dX11_does_59 (by decide) (fun _ => ?_) (fun h => absurd h (by decide))
      refine R_iload_n (i := 2) hC dX11_does_81 rfl rfl (R_iconst (v := 3) hC dX11_does_82 (by decide) ?_)
      refine R_icmp_ne hC 105 dX11_does_83 (by decide) (fun _ => ?_) (fun h => absurd h (by decide))
      refine R_iinc hC dX11_does_105 rfl (inc1 _) (by decide) rfl (R_goto hC 3 dX11_does_108 (by decide) ?_)
      exact ih _
  refine R_iconst (v := 0) hC dX11_does_0 (by decide) (R_istore hC dX11_does_1 (by decide) rfl ?_)
  exact key0 0 (by decide) _
