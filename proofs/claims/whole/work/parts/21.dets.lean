/-! ===== the model's determinants ===== -/
def sm (g : Nat → Int32) : Nat → Int32
  | 0 => 0
  | n + 1 => sm g n + g n
theorem sm_ext {g h : Nat → Int32} : ∀ n, (∀ c, c < n → g c = h c) → sm g n = sm h n
  | 0, _ => rfl
  | n + 1, e => by rw [sm, sm, sm_ext n (fun c hc => e c (by omega)), e n (by omega)]
theorem sm_cut {g : Nat → Int32} {n : Nat} : ∀ k, (∀ c, n ≤ c → c < n + k → g c = 0) → sm g (n + k) = sm g n
  | 0, _ => rfl
  | k + 1, e => by rw [← Nat.add_assoc, sm, sm_cut k (fun c h1 h2 => e c h1 (by omega)), e (n + k) (by omega) (by omega), Int32.add_zero]
def clr (s i : Nat) : Nat := if s.testBit i then s - 2 ^ i else s
/-- a term of the expansion by row n -/
def tmD (v : Nat → Int32) (C c : Nat) : Int32 := if C.testBit c then (if (pc6 C - 1 + pcn C c) % 2 = 0 then v c else -(v c)) else 0
/-- the determinant of the rows R (bits below n) and the columns C, by the last row -/
def dT (f : Nat → Nat → Int32) : Nat → Nat → Nat → Int32
  | 0, _, _ => 1
  | n + 1, R, C => if R.testBit n then sm (fun c => tmD (fun c => f n c * dT f n (clr R n) (clr C c)) C c) 6 else dT f n R C
def dD (f : Nat → Nat → Int32) (R C : Nat) : Int32 := dT f 6 R C
theorem dT_skip {f : Nat → Nat → Int32} {R C k : Nat} : ∀ n, (∀ j, k ≤ j → j < k + n → ¬ R.testBit j = true) → dT f (k + n) R C = dT f k R C
  | 0, _ => rfl
  | n + 1, e => by rw [← Nat.add_assoc, dT, if_neg (e (k + n) (by omega) (by omega)), dT_skip n (fun j h1 h2 => e j h1 (by omega))]
theorem clr_o : ∀ R, R < 64 → ∀ k, k < 6 → ∀ j, j < 6 → (clr R k).testBit j = (R.testBit j && !(j == k)) := by decide +kernel
theorem clr_top (R : Nat) (hR : R < 64) (k : Nat) (hk : k < 6) (h : ∀ j, j < 6 → k < j → ¬ R.testBit j = true) (j : Nat) (hj : j < 6) (hkj : k ≤ j) : ¬ (clr R k).testBit j = true := by
  rw [clr_o R hR k hk j hj]
  rcases Nat.lt_or_ge k j with q | q
  · have := h j hj q
    simp [this]
  · have e : j = k := by omega
    simp [e]
theorem dD_0 (f : Nat → Nat → Int32) (C : Nat) : dD f 0 C = 1 := by
  unfold dD; rw [show 6 = 0 + 6 from rfl, dT_skip 6 (fun j _ _ => by simp), dT]
theorem dD_top (f : Nat → Nat → Int32) {R C k : Nat} (hR : R < 64) (hk : k < 6) (hb : R.testBit k = true) (ha : ∀ j, j < 6 → k < j → ¬ R.testBit j = true) : dD f R C = sm (fun c => tmD (fun c => f k c * dD f (clr R k) (clr C c)) C c) 6 := by
  have e : ∀ C, dD f (clr R k) C = dT f k (clr R k) C := fun C => by
    unfold dD
    have := dT_skip (f := f) (R := clr R k) (C := C) (k := k) (6 - k) (fun j h1 h2 => clr_top R hR k hk ha j (by omega) h1)
    rwa [show k + (6 - k) = 6 by omega] at this
  simp only [e]
  unfold dD
  have := dT_skip (f := f) (R := R) (C := C) (k := k + 1) (5 - k) (fun j h1 h2 => ha j (by omega) (by omega))
  rw [show k + 1 + (5 - k) = 6 by omega] at this
  rw [this, dT, if_pos hb]
theorem shl1 : ∀ i, i ≤ 6 → (1 : Int32) <<< (nI i &&& 31) = nI (2 ^ i) := by decide +kernel
theorem and_clr : ∀ s, s < 64 → ∀ i, i < 6 → nI s &&& ((1 : Int32) <<< (nI i &&& 31) ^^^ -1) = nI (clr s i) := by decide +kernel
theorem and_clr2 : ∀ s, s < 64 → ∀ i, i < 6 → nI s &&& (nI (2 ^ i) ^^^ -1) = nI (clr s i) := by decide +kernel
theorem clr_lt : ∀ s, s < 64 → ∀ i, i < 6 → s.testBit i = true → clr s i < s := by decide +kernel
theorem clr_pc : ∀ s, s < 64 → ∀ i, i < 6 → s.testBit i = true → pc6 (clr s i) + 1 = pc6 s := by decide +kernel
theorem pc6_0 : ∀ s, s < 64 → pc6 s = 0 → s = 0 := by decide +kernel
theorem pc6_le : ∀ s, s < 64 → pc6 s ≤ 6 := by decide +kernel
theorem pcn_le (s n : Nat) : pcn s n ≤ n := by
  induction n with
  | zero => exact Nat.le_refl _
  | succ n ih => rw [pcn]; split <;> omega
theorem bit_ex : ∀ s, s < 64 → s ≠ 0 → ∃ k, k < 6 ∧ s.testBit k = true := by decide +kernel
theorem pw6 {n : Nat} (h : n ≤ 6) : 2 ^ n ≤ 64 := Nat.pow_le_pow_right (by decide) h
theorem bit_hi (s : Nat) (_ : s < 64) (n : Nat) (_ : n ≤ 6) (h : s < 2 ^ n) (c : Nat) (_ : c < 6) (hc : n ≤ c) : ¬ s.testBit c = true := by
  rw [Nat.testBit_lt_two_pow (Nat.lt_of_lt_of_le h (Nat.pow_le_pow_right (by decide) hc))]
  decide
/-- all determinants of a table -/
def DT (g : Nat → Int32) (T : tb) : Prop := ∀ R C, R < 2 ^ T.1 → C < 2 ^ T.2.1 → pc6 R = pc6 C → g (64 * R + C) = dD T.2.2 R C
theorem n64 (r c : Nat) : (64 : Int32) * nI r + nI c = nI (64 * r + c) := by
  rw [show (64 : Int32) = nI 64 from rfl, pk_mul, nI_add]
theorem tst {s i : Nat} (h : ¬ (if s.testBit i then (1 : Int32) else 0) = 0) : s.testBit i = true := by
  by_cases q : s.testBit i = true
  · exact q
  · rw [if_neg q] at h; exact absurd rfl h
theorem tst0 {s i : Nat} (h : (if s.testBit i then (1 : Int32) else 0) = 0) : ¬ s.testBit i = true := fun q => by rw [if_pos q] at h; exact absurd h (by decide)
theorem dX11_laysDets_0 : decode cX11_laysDets 0 = .ok (.iconst 0, 1) := by decide +kernel
theorem dX11_laysDets_1 : decode cX11_laysDets 1 = .ok (.istore_n 2, 1) := by decide +kernel
theorem dX11_laysDets_2 : decode cX11_laysDets 2 = .ok (.iload_n 2, 1) := by decide +kernel
theorem dX11_laysDets_3 : decode cX11_laysDets 3 = .ok (.iconst 1, 1) := by decide +kernel
theorem dX11_laysDets_4 : decode cX11_laysDets 4 = .ok (.aload_n 1, 1) := by decide +kernel
theorem dX11_laysDets_5 : decode cX11_laysDets 5 = .ok (.bipush 36, 2) := by decide +kernel
theorem dX11_laysDets_7 : decode cX11_laysDets 7 = .ok (.iaload, 1) := by decide +kernel
theorem dX11_laysDets_8 : decode cX11_laysDets 8 = .ok (.ishl, 1) := by decide +kernel
theorem dX11_laysDets_9 : decode cX11_laysDets 9 = .ok (.if_icmp .ge 196, 3) := by decide +kernel
theorem dX11_laysDets_12 : decode cX11_laysDets 12 = .ok (.iconst 5, 1) := by decide +kernel
theorem dX11_laysDets_13 : decode cX11_laysDets 13 = .ok (.istore_n 3, 1) := by decide +kernel
theorem dX11_laysDets_14 : decode cX11_laysDets 14 = .ok (.iload_n 3, 1) := by decide +kernel
theorem dX11_laysDets_15 : decode cX11_laysDets 15 = .ok (.ifCond .lt 17, 3) := by decide +kernel
theorem dX11_laysDets_18 : decode cX11_laysDets 18 = .ok (.iload_n 2, 1) := by decide +kernel
theorem dX11_laysDets_19 : decode cX11_laysDets 19 = .ok (.iload_n 3, 1) := by decide +kernel
theorem dX11_laysDets_20 : decode cX11_laysDets 20 = .ok (.invokestatic 200, 3) := by decide +kernel
theorem dX11_laysDets_23 : decode cX11_laysDets 23 = .ok (.ifCond .ne 9, 3) := by decide +kernel
theorem dX11_laysDets_26 : decode cX11_laysDets 26 = .ok (.iinc 3 (-1), 3) := by decide +kernel
theorem dX11_laysDets_29 : decode cX11_laysDets 29 = .ok (.goto (-15), 3) := by decide +kernel
theorem dX11_laysDets_32 : decode cX11_laysDets 32 = .ok (.iload_n 2, 1) := by decide +kernel
theorem dX11_laysDets_33 : decode cX11_laysDets 33 = .ok (.invokestatic 204, 3) := by decide +kernel
theorem dX11_laysDets_36 : decode cX11_laysDets 36 = .ok (.istore 4, 2) := by decide +kernel
theorem dX11_laysDets_38 : decode cX11_laysDets 38 = .ok (.iconst 0, 1) := by decide +kernel
theorem dX11_laysDets_39 : decode cX11_laysDets 39 = .ok (.istore 5, 2) := by decide +kernel
theorem dX11_laysDets_41 : decode cX11_laysDets 41 = .ok (.iload 5, 2) := by decide +kernel
theorem dX11_laysDets_43 : decode cX11_laysDets 43 = .ok (.iconst 1, 1) := by decide +kernel
theorem dX11_laysDets_44 : decode cX11_laysDets 44 = .ok (.aload_n 1, 1) := by decide +kernel
theorem dX11_laysDets_45 : decode cX11_laysDets 45 = .ok (.bipush 37, 2) := by decide +kernel
theorem dX11_laysDets_47 : decode cX11_laysDets 47 = .ok (.iaload, 1) := by decide +kernel
theorem dX11_laysDets_48 : decode cX11_laysDets 48 = .ok (.ishl, 1) := by decide +kernel
theorem dX11_laysDets_49 : decode cX11_laysDets 49 = .ok (.if_icmp .ge 150, 3) := by decide +kernel
theorem dX11_laysDets_52 : decode cX11_laysDets 52 = .ok (.iload 5, 2) := by decide +kernel
theorem dX11_laysDets_54 : decode cX11_laysDets 54 = .ok (.invokestatic 204, 3) := by decide +kernel
theorem dX11_laysDets_57 : decode cX11_laysDets 57 = .ok (.iload 4, 2) := by decide +kernel
theorem dX11_laysDets_59 : decode cX11_laysDets 59 = .ok (.if_icmp .eq 6, 3) := by decide +kernel
theorem dX11_laysDets_62 : decode cX11_laysDets 62 = .ok (.goto 131, 3) := by decide +kernel
theorem dX11_laysDets_65 : decode cX11_laysDets 65 = .ok (.iload_n 2, 1) := by decide +kernel
theorem dX11_laysDets_66 : decode cX11_laysDets 66 = .ok (.ifCond .ne 7, 3) := by decide +kernel
theorem dX11_laysDets_69 : decode cX11_laysDets 69 = .ok (.iconst 1, 1) := by decide +kernel
theorem dX11_laysDets_70 : decode cX11_laysDets 70 = .ok (.goto 4, 3) := by decide +kernel
theorem dX11_laysDets_73 : decode cX11_laysDets 73 = .ok (.iconst 0, 1) := by decide +kernel
theorem dX11_laysDets_74 : decode cX11_laysDets 74 = .ok (.istore 6, 2) := by decide +kernel
theorem dX11_laysDets_76 : decode cX11_laysDets 76 = .ok (.iconst 0, 1) := by decide +kernel
theorem dX11_laysDets_77 : decode cX11_laysDets 77 = .ok (.istore 7, 2) := by decide +kernel
theorem dX11_laysDets_79 : decode cX11_laysDets 79 = .ok (.iconst 0, 1) := by decide +kernel
theorem dX11_laysDets_80 : decode cX11_laysDets 80 = .ok (.istore 8, 2) := by decide +kernel
theorem dX11_laysDets_82 : decode cX11_laysDets 82 = .ok (.iload 8, 2) := by decide +kernel
theorem dX11_laysDets_84 : decode cX11_laysDets 84 = .ok (.aload_n 1, 1) := by decide +kernel
theorem dX11_laysDets_85 : decode cX11_laysDets 85 = .ok (.bipush 37, 2) := by decide +kernel
theorem dX11_laysDets_87 : decode cX11_laysDets 87 = .ok (.iaload, 1) := by decide +kernel
theorem dX11_laysDets_88 : decode cX11_laysDets 88 = .ok (.if_icmp .ge 91, 3) := by decide +kernel
theorem dX11_laysDets_91 : decode cX11_laysDets 91 = .ok (.iload_n 2, 1) := by decide +kernel
theorem dX11_laysDets_92 : decode cX11_laysDets 92 = .ok (.ifCond .eq 87, 3) := by decide +kernel
theorem dX11_laysDets_95 : decode cX11_laysDets 95 = .ok (.iload 5, 2) := by decide +kernel
theorem dX11_laysDets_97 : decode cX11_laysDets 97 = .ok (.iload 8, 2) := by decide +kernel
theorem dX11_laysDets_99 : decode cX11_laysDets 99 = .ok (.invokestatic 200, 3) := by decide +kernel
theorem dX11_laysDets_102 : decode cX11_laysDets 102 = .ok (.ifCond .ne 6, 3) := by decide +kernel
theorem dX11_laysDets_105 : decode cX11_laysDets 105 = .ok (.goto 68, 3) := by decide +kernel
theorem dX11_laysDets_108 : decode cX11_laysDets 108 = .ok (.aload_n 1, 1) := by decide +kernel
theorem dX11_laysDets_109 : decode cX11_laysDets 109 = .ok (.bipush 6, 2) := by decide +kernel
theorem dX11_laysDets_111 : decode cX11_laysDets 111 = .ok (.iload_n 3, 1) := by decide +kernel
theorem dX11_laysDets_112 : decode cX11_laysDets 112 = .ok (.imul, 1) := by decide +kernel
theorem dX11_laysDets_113 : decode cX11_laysDets 113 = .ok (.iload 8, 2) := by decide +kernel
theorem dX11_laysDets_115 : decode cX11_laysDets 115 = .ok (.iadd, 1) := by decide +kernel
theorem dX11_laysDets_116 : decode cX11_laysDets 116 = .ok (.iaload, 1) := by decide +kernel
theorem dX11_laysDets_117 : decode cX11_laysDets 117 = .ok (.aload_n 0, 1) := by decide +kernel
theorem dX11_laysDets_118 : decode cX11_laysDets 118 = .ok (.getfield 38, 3) := by decide +kernel
theorem dX11_laysDets_121 : decode cX11_laysDets 121 = .ok (.bipush 64, 2) := by decide +kernel
theorem dX11_laysDets_123 : decode cX11_laysDets 123 = .ok (.iload_n 2, 1) := by decide +kernel
theorem dX11_laysDets_124 : decode cX11_laysDets 124 = .ok (.iconst 1, 1) := by decide +kernel
theorem dX11_laysDets_125 : decode cX11_laysDets 125 = .ok (.iload_n 3, 1) := by decide +kernel
theorem dX11_laysDets_126 : decode cX11_laysDets 126 = .ok (.ishl, 1) := by decide +kernel
theorem dX11_laysDets_127 : decode cX11_laysDets 127 = .ok (.iconst (-1), 1) := by decide +kernel
theorem dX11_laysDets_128 : decode cX11_laysDets 128 = .ok (.ixor, 1) := by decide +kernel
theorem dX11_laysDets_129 : decode cX11_laysDets 129 = .ok (.iand, 1) := by decide +kernel
theorem dX11_laysDets_130 : decode cX11_laysDets 130 = .ok (.imul, 1) := by decide +kernel
theorem dX11_laysDets_131 : decode cX11_laysDets 131 = .ok (.iload 5, 2) := by decide +kernel
theorem dX11_laysDets_133 : decode cX11_laysDets 133 = .ok (.iconst 1, 1) := by decide +kernel
theorem dX11_laysDets_134 : decode cX11_laysDets 134 = .ok (.iload 8, 2) := by decide +kernel
theorem dX11_laysDets_136 : decode cX11_laysDets 136 = .ok (.ishl, 1) := by decide +kernel
theorem dX11_laysDets_137 : decode cX11_laysDets 137 = .ok (.iconst (-1), 1) := by decide +kernel
theorem dX11_laysDets_138 : decode cX11_laysDets 138 = .ok (.ixor, 1) := by decide +kernel
theorem dX11_laysDets_139 : decode cX11_laysDets 139 = .ok (.iand, 1) := by decide +kernel
theorem dX11_laysDets_140 : decode cX11_laysDets 140 = .ok (.iadd, 1) := by decide +kernel
theorem dX11_laysDets_141 : decode cX11_laysDets 141 = .ok (.iaload, 1) := by decide +kernel
theorem dX11_laysDets_142 : decode cX11_laysDets 142 = .ok (.imul, 1) := by decide +kernel
theorem dX11_laysDets_143 : decode cX11_laysDets 143 = .ok (.istore 9, 2) := by decide +kernel
theorem dX11_laysDets_145 : decode cX11_laysDets 145 = .ok (.iload 6, 2) := by decide +kernel
theorem dX11_laysDets_147 : decode cX11_laysDets 147 = .ok (.iload 4, 2) := by decide +kernel
theorem dX11_laysDets_149 : decode cX11_laysDets 149 = .ok (.iconst 1, 1) := by decide +kernel
theorem dX11_laysDets_150 : decode cX11_laysDets 150 = .ok (.isub, 1) := by decide +kernel
theorem dX11_laysDets_151 : decode cX11_laysDets 151 = .ok (.iload 7, 2) := by decide +kernel
theorem dX11_laysDets_153 : decode cX11_laysDets 153 = .ok (.iadd, 1) := by decide +kernel
theorem dX11_laysDets_154 : decode cX11_laysDets 154 = .ok (.iconst 2, 1) := by decide +kernel
theorem dX11_laysDets_155 : decode cX11_laysDets 155 = .ok (.irem, 1) := by decide +kernel
theorem dX11_laysDets_156 : decode cX11_laysDets 156 = .ok (.ifCond .ne 8, 3) := by decide +kernel
theorem dX11_laysDets_159 : decode cX11_laysDets 159 = .ok (.iload 9, 2) := by decide +kernel
theorem dX11_laysDets_161 : decode cX11_laysDets 161 = .ok (.goto 6, 3) := by decide +kernel
theorem dX11_laysDets_164 : decode cX11_laysDets 164 = .ok (.iload 9, 2) := by decide +kernel
theorem dX11_laysDets_166 : decode cX11_laysDets 166 = .ok (.ineg, 1) := by decide +kernel
theorem dX11_laysDets_167 : decode cX11_laysDets 167 = .ok (.iadd, 1) := by decide +kernel
theorem dX11_laysDets_168 : decode cX11_laysDets 168 = .ok (.istore 6, 2) := by decide +kernel
theorem dX11_laysDets_170 : decode cX11_laysDets 170 = .ok (.iinc 7 1, 3) := by decide +kernel
theorem dX11_laysDets_173 : decode cX11_laysDets 173 = .ok (.iinc 8 1, 3) := by decide +kernel
theorem dX11_laysDets_176 : decode cX11_laysDets 176 = .ok (.goto (-94), 3) := by decide +kernel
theorem dX11_laysDets_179 : decode cX11_laysDets 179 = .ok (.aload_n 0, 1) := by decide +kernel
theorem dX11_laysDets_180 : decode cX11_laysDets 180 = .ok (.getfield 38, 3) := by decide +kernel
theorem dX11_laysDets_183 : decode cX11_laysDets 183 = .ok (.bipush 64, 2) := by decide +kernel
theorem dX11_laysDets_185 : decode cX11_laysDets 185 = .ok (.iload_n 2, 1) := by decide +kernel
theorem dX11_laysDets_186 : decode cX11_laysDets 186 = .ok (.imul, 1) := by decide +kernel
theorem dX11_laysDets_187 : decode cX11_laysDets 187 = .ok (.iload 5, 2) := by decide +kernel
theorem dX11_laysDets_189 : decode cX11_laysDets 189 = .ok (.iadd, 1) := by decide +kernel
theorem dX11_laysDets_190 : decode cX11_laysDets 190 = .ok (.iload 6, 2) := by decide +kernel
theorem dX11_laysDets_192 : decode cX11_laysDets 192 = .ok (.iastore, 1) := by decide +kernel
theorem dX11_laysDets_193 : decode cX11_laysDets 193 = .ok (.iinc 5 1, 3) := by decide +kernel
theorem dX11_laysDets_196 : decode cX11_laysDets 196 = .ok (.goto (-155), 3) := by decide +kernel
theorem dX11_laysDets_199 : decode cX11_laysDets 199 = .ok (.iinc 2 1, 3) := by decide +kernel
theorem dX11_laysDets_202 : decode cX11_laysDets 202 = .ok (.goto (-200), 3) := by decide +kernel
theorem dX11_laysDets_205 : decode cX11_laysDets 205 = .ok (.return_, 1) := by decide +kernel
theorem dX11_isTotal_0 : decode cX11_isTotal 0 = .ok (.aload_n 0, 1) := by decide +kernel
theorem dX11_isTotal_1 : decode cX11_isTotal 1 = .ok (.aload_n 1, 1) := by decide +kernel
theorem dX11_isTotal_2 : decode cX11_isTotal 2 = .ok (.invokevirtual 207, 3) := by decide +kernel
theorem dX11_isTotal_5 : decode cX11_isTotal 5 = .ok (.iconst 1, 1) := by decide +kernel
theorem dX11_isTotal_6 : decode cX11_isTotal 6 = .ok (.istore_n 2, 1) := by decide +kernel
theorem dX11_isTotal_7 : decode cX11_isTotal 7 = .ok (.iload_n 2, 1) := by decide +kernel
theorem dX11_isTotal_8 : decode cX11_isTotal 8 = .ok (.iconst 1, 1) := by decide +kernel
theorem dX11_isTotal_9 : decode cX11_isTotal 9 = .ok (.aload_n 1, 1) := by decide +kernel
theorem dX11_isTotal_10 : decode cX11_isTotal 10 = .ok (.bipush 36, 2) := by decide +kernel
theorem dX11_isTotal_12 : decode cX11_isTotal 12 = .ok (.iaload, 1) := by decide +kernel
theorem dX11_isTotal_13 : decode cX11_isTotal 13 = .ok (.ishl, 1) := by decide +kernel
theorem dX11_isTotal_14 : decode cX11_isTotal 14 = .ok (.if_icmp .ge 65, 3) := by decide +kernel
theorem dX11_isTotal_17 : decode cX11_isTotal 17 = .ok (.iconst 1, 1) := by decide +kernel
theorem dX11_isTotal_18 : decode cX11_isTotal 18 = .ok (.istore_n 3, 1) := by decide +kernel
theorem dX11_isTotal_19 : decode cX11_isTotal 19 = .ok (.iload_n 3, 1) := by decide +kernel
theorem dX11_isTotal_20 : decode cX11_isTotal 20 = .ok (.iconst 1, 1) := by decide +kernel
theorem dX11_isTotal_21 : decode cX11_isTotal 21 = .ok (.aload_n 1, 1) := by decide +kernel
theorem dX11_isTotal_22 : decode cX11_isTotal 22 = .ok (.bipush 37, 2) := by decide +kernel
theorem dX11_isTotal_24 : decode cX11_isTotal 24 = .ok (.iaload, 1) := by decide +kernel
theorem dX11_isTotal_25 : decode cX11_isTotal 25 = .ok (.ishl, 1) := by decide +kernel
theorem dX11_isTotal_26 : decode cX11_isTotal 26 = .ok (.if_icmp .ge 47, 3) := by decide +kernel
theorem dX11_isTotal_29 : decode cX11_isTotal 29 = .ok (.iload_n 2, 1) := by decide +kernel
theorem dX11_isTotal_30 : decode cX11_isTotal 30 = .ok (.invokestatic 204, 3) := by decide +kernel
theorem dX11_isTotal_33 : decode cX11_isTotal 33 = .ok (.iload_n 3, 1) := by decide +kernel
theorem dX11_isTotal_34 : decode cX11_isTotal 34 = .ok (.invokestatic 204, 3) := by decide +kernel
theorem dX11_isTotal_37 : decode cX11_isTotal 37 = .ok (.if_icmp .eq 6, 3) := by decide +kernel
theorem dX11_isTotal_40 : decode cX11_isTotal 40 = .ok (.goto 27, 3) := by decide +kernel
theorem dX11_isTotal_43 : decode cX11_isTotal 43 = .ok (.aload_n 0, 1) := by decide +kernel
theorem dX11_isTotal_44 : decode cX11_isTotal 44 = .ok (.getfield 38, 3) := by decide +kernel
theorem dX11_isTotal_47 : decode cX11_isTotal 47 = .ok (.bipush 64, 2) := by decide +kernel
theorem dX11_isTotal_49 : decode cX11_isTotal 49 = .ok (.iload_n 2, 1) := by decide +kernel
theorem dX11_isTotal_50 : decode cX11_isTotal 50 = .ok (.imul, 1) := by decide +kernel
theorem dX11_isTotal_51 : decode cX11_isTotal 51 = .ok (.iload_n 3, 1) := by decide +kernel
theorem dX11_isTotal_52 : decode cX11_isTotal 52 = .ok (.iadd, 1) := by decide +kernel
theorem dX11_isTotal_53 : decode cX11_isTotal 53 = .ok (.iaload, 1) := by decide +kernel
theorem dX11_isTotal_54 : decode cX11_isTotal 54 = .ok (.i2l, 1) := by decide +kernel
theorem dX11_isTotal_55 : decode cX11_isTotal 55 = .ok (.ldc2_w 162, 3) := by decide +kernel
theorem dX11_isTotal_58 : decode cX11_isTotal 58 = .ok (.lconst 1, 1) := by decide +kernel
theorem dX11_isTotal_59 : decode cX11_isTotal 59 = .ok (.invokestatic 140, 3) := by decide +kernel
theorem dX11_isTotal_62 : decode cX11_isTotal 62 = .ok (.ifCond .ne 5, 3) := by decide +kernel
theorem dX11_isTotal_65 : decode cX11_isTotal 65 = .ok (.iconst 0, 1) := by decide +kernel
theorem dX11_isTotal_66 : decode cX11_isTotal 66 = .ok (.ireturn, 1) := by decide +kernel
theorem dX11_isTotal_67 : decode cX11_isTotal 67 = .ok (.iinc 3 1, 3) := by decide +kernel
theorem dX11_isTotal_70 : decode cX11_isTotal 70 = .ok (.goto (-51), 3) := by decide +kernel
theorem dX11_isTotal_73 : decode cX11_isTotal 73 = .ok (.iinc 2 1, 3) := by decide +kernel
theorem dX11_isTotal_76 : decode cX11_isTotal 76 = .ok (.goto (-69), 3) := by decide +kernel
theorem dX11_isTotal_79 : decode cX11_isTotal 79 = .ok (.iconst 1, 1) := by decide +kernel
theorem dX11_isTotal_80 : decode cX11_isTotal 80 = .ok (.ireturn, 1) := by decide +kernel
theorem dX11_isSquare_0 : decode cX11_isSquare 0 = .ok (.iload_n 2, 1) := by decide +kernel
theorem dX11_isSquare_1 : decode cX11_isSquare 1 = .ok (.ifCond .le 42, 3) := by decide +kernel
theorem dX11_isSquare_4 : decode cX11_isSquare 4 = .ok (.iload_n 3, 1) := by decide +kernel
theorem dX11_isSquare_5 : decode cX11_isSquare 5 = .ok (.ifCond .le 38, 3) := by decide +kernel
theorem dX11_isSquare_8 : decode cX11_isSquare 8 = .ok (.iload_n 2, 1) := by decide +kernel
theorem dX11_isSquare_9 : decode cX11_isSquare 9 = .ok (.iconst 1, 1) := by decide +kernel
theorem dX11_isSquare_10 : decode cX11_isSquare 10 = .ok (.aload_n 1, 1) := by decide +kernel
theorem dX11_isSquare_11 : decode cX11_isSquare 11 = .ok (.bipush 36, 2) := by decide +kernel
theorem dX11_isSquare_13 : decode cX11_isSquare 13 = .ok (.iaload, 1) := by decide +kernel
theorem dX11_isSquare_14 : decode cX11_isSquare 14 = .ok (.ishl, 1) := by decide +kernel
theorem dX11_isSquare_15 : decode cX11_isSquare 15 = .ok (.if_icmp .ge 28, 3) := by decide +kernel
theorem dX11_isSquare_18 : decode cX11_isSquare 18 = .ok (.iload_n 3, 1) := by decide +kernel
theorem dX11_isSquare_19 : decode cX11_isSquare 19 = .ok (.iconst 1, 1) := by decide +kernel
theorem dX11_isSquare_20 : decode cX11_isSquare 20 = .ok (.aload_n 1, 1) := by decide +kernel
theorem dX11_isSquare_21 : decode cX11_isSquare 21 = .ok (.bipush 37, 2) := by decide +kernel
theorem dX11_isSquare_23 : decode cX11_isSquare 23 = .ok (.iaload, 1) := by decide +kernel
theorem dX11_isSquare_24 : decode cX11_isSquare 24 = .ok (.ishl, 1) := by decide +kernel
theorem dX11_isSquare_25 : decode cX11_isSquare 25 = .ok (.if_icmp .ge 18, 3) := by decide +kernel
theorem dX11_isSquare_28 : decode cX11_isSquare 28 = .ok (.iload_n 2, 1) := by decide +kernel
theorem dX11_isSquare_29 : decode cX11_isSquare 29 = .ok (.invokestatic 204, 3) := by decide +kernel
theorem dX11_isSquare_32 : decode cX11_isSquare 32 = .ok (.iload_n 3, 1) := by decide +kernel
theorem dX11_isSquare_33 : decode cX11_isSquare 33 = .ok (.invokestatic 204, 3) := by decide +kernel
theorem dX11_isSquare_36 : decode cX11_isSquare 36 = .ok (.if_icmp .ne 7, 3) := by decide +kernel
theorem dX11_isSquare_39 : decode cX11_isSquare 39 = .ok (.iconst 1, 1) := by decide +kernel
theorem dX11_isSquare_40 : decode cX11_isSquare 40 = .ok (.goto 4, 3) := by decide +kernel
theorem dX11_isSquare_43 : decode cX11_isSquare 43 = .ok (.iconst 0, 1) := by decide +kernel
theorem dX11_isSquare_44 : decode cX11_isSquare 44 = .ok (.ireturn, 1) := by decide +kernel
theorem dX11_det_0 : decode cX11_det 0 = .ok (.aload_n 0, 1) := by decide +kernel
theorem dX11_det_1 : decode cX11_det 1 = .ok (.iconst 0, 1) := by decide +kernel
theorem dX11_det_2 : decode cX11_det 2 = .ok (.putfield 83, 3) := by decide +kernel
theorem dX11_det_5 : decode cX11_det 5 = .ok (.aload_n 0, 1) := by decide +kernel
theorem dX11_det_6 : decode cX11_det 6 = .ok (.getfield 13, 3) := by decide +kernel
theorem dX11_det_9 : decode cX11_det 9 = .ok (.bipush 36, 2) := by decide +kernel
theorem dX11_det_11 : decode cX11_det 11 = .ok (.iaload, 1) := by decide +kernel
theorem dX11_det_12 : decode cX11_det 12 = .ok (.ifCond .eq 16, 3) := by decide +kernel
theorem dX11_det_15 : decode cX11_det 15 = .ok (.aload_n 0, 1) := by decide +kernel
theorem dX11_det_16 : decode cX11_det 16 = .ok (.aload_n 0, 1) := by decide +kernel
theorem dX11_det_17 : decode cX11_det 17 = .ok (.getfield 13, 3) := by decide +kernel
theorem dX11_det_20 : decode cX11_det 20 = .ok (.iload_n 1, 1) := by decide +kernel
theorem dX11_det_21 : decode cX11_det 21 = .ok (.iload_n 2, 1) := by decide +kernel
theorem dX11_det_22 : decode cX11_det 22 = .ok (.invokevirtual 211, 3) := by decide +kernel
theorem dX11_det_25 : decode cX11_det 25 = .ok (.ifCond .ne 6, 3) := by decide +kernel
theorem dX11_det_28 : decode cX11_det 28 = .ok (.ldc 133, 2) := by decide +kernel
theorem dX11_det_30 : decode cX11_det 30 = .ok (.ireturn, 1) := by decide +kernel
theorem dX11_det_31 : decode cX11_det 31 = .ok (.aload_n 0, 1) := by decide +kernel
theorem dX11_det_32 : decode cX11_det 32 = .ok (.aload_n 0, 1) := by decide +kernel
theorem dX11_det_33 : decode cX11_det 33 = .ok (.getfield 13, 3) := by decide +kernel
theorem dX11_det_36 : decode cX11_det 36 = .ok (.invokevirtual 207, 3) := by decide +kernel
theorem dX11_det_39 : decode cX11_det 39 = .ok (.aload_n 0, 1) := by decide +kernel
theorem dX11_det_40 : decode cX11_det 40 = .ok (.getfield 38, 3) := by decide +kernel
theorem dX11_det_43 : decode cX11_det 43 = .ok (.bipush 64, 2) := by decide +kernel
theorem dX11_det_45 : decode cX11_det 45 = .ok (.iload_n 1, 1) := by decide +kernel
theorem dX11_det_46 : decode cX11_det 46 = .ok (.imul, 1) := by decide +kernel
theorem dX11_det_47 : decode cX11_det 47 = .ok (.iload_n 2, 1) := by decide +kernel
theorem dX11_det_48 : decode cX11_det 48 = .ok (.iadd, 1) := by decide +kernel
theorem dX11_det_49 : decode cX11_det 49 = .ok (.iaload, 1) := by decide +kernel
theorem dX11_det_50 : decode cX11_det 50 = .ok (.ireturn, 1) := by decide +kernel
theorem s_laysDets (σ : sg) (x : aW) (t : Nat) (ht : LY t (0, 38, [])) (hne : t ≠ i_m_dets) (T : tb) (hT0 : TB (σ.2.2 t) T) :
    Mt mX11_laysDets 1 0 0 [.ref i_M, .ref t] (wd σ x) (fun q w => q = none ∧ ∃ g, w = wd (sA σ i_m_dets g) x ∧ DT g T) := by
  refine Mt.of MI_X11_laysDets (Nat.le_of_ble_eq_true rfl) (fun X hC hR hT => ?_)
  obtain ⟨hR1, hC1, hR6, hC6, hE⟩ := id hT0
  have p1 := pw6 hR6
  have p2 := pw6 hC6
  have e0 : ∀ (g : Nat → Int32) (k : Nat), (sA σ i_m_dets g).2.2 t k = σ.2.2 t k := fun g k => by rw [sA_ne hne]
  have key : ∀ n, n ≤ 2 ^ T.1 → ∀ g : Nat → Int32, (∀ R C, R < n → C < 2 ^ T.2.1 → pc6 R = pc6 C → g (64 * R + C) = dD T.2.2 R C) → ∀ (u3 u4 u5 u6 u7 u8 u9 : Option Value), Rw mX11_laysDets X 2 [some (.ref i_M), some (.ref t), some (.int (nI n)), u3, u4, u5, u6, u7, u8, u9] [] (wd (sA σ i_m_dets g) x) 0 0 := by
    refine up_loop (2 ^ T.1) ?_ ?_
    · intro g hg u3 u4 u5 u6 u7 u8 u9
      refine R_iload_n (i := 2) hC dX11_laysDets_2 rfl rfl (R_iconst (v := 1) hC dX11_laysDets_3 (by decide) (R_aload_n (i := 1) hC dX11_laysDets_4 rfl rfl (R_bipush (v := 36) hC dX11_laysDets_5 (by decide) (R_aI hC dX11_laysDets_7 ht 36 rfl (by decide) (by decide) ?_))))
      refine R_top (y := nI T.1) (by rw [e0, hR1]) ?_
      refine R_ishl hC dX11_laysDets_8 ?_
      refine R_top (y := nI (2 ^ T.1)) (shl1 _ hR6) ?_
      refine R_icmp_ge hC 205 dX11_laysDets_9 (by decide) (fun _ => ?_) (fun h => absurd (Int32.le_refl _) h)
      exact R_vret hC hT dX11_laysDets_205 rfl ⟨rfl, g, rfl, fun R C h1 h2 h3 => hg R C h1 h2 h3⟩
    · intro n hn ih g hg u3 u4 u5 u6 u7 u8 u9
      refine R_iload_n (i := 2) hC dX11_laysDets_2 rfl rfl (R_iconst (v := 1) hC dX11_laysDets_3 (by decide) (R_aload_n (i := 1) hC dX11_laysDets_4 rfl rfl (R_bipush (v := 36) hC dX11_laysDets_5 (by decide) (R_aI hC dX11_laysDets_7 ht 36 rfl (by decide) (by decide) ?_))))
      refine R_top (y := nI T.1) (by rw [e0, hR1]) ?_
      refine R_ishl hC dX11_laysDets_8 ?_
      refine R_top (y := nI (2 ^ T.1)) (shl1 _ hR6) ?_
      refine R_icmp_ge hC 205 dX11_laysDets_9 (by decide) (fun h => absurd h (nI_ge hn (by omega))) (fun _ => ?_)
      refine R_iconst (v := 5) hC dX11_laysDets_12 (by decide) (R_istore_n (i := 3) hC dX11_laysDets_13 rfl (by decide) rfl ?_)
      skip
      -- the columns
      have mid : ∀ tp : Int32, (¬ n = 0 → ∃ k, k < 6 ∧ tp = nI k ∧ n.testBit k = true ∧ ∀ j, j < 6 → k < j → ¬ n.testBit j = true) → ∀ k, k ≤ 2 ^ T.2.1 → ∀ g : Nat → Int32, (∀ R C, R < n → C < 2 ^ T.2.1 → pc6 R = pc6 C → g (64 * R + C) = dD T.2.2 R C) → (∀ C, C < k → pc6 n = pc6 C → g (64 * n + C) = dD T.2.2 n C) → ∀ (u6 u7 u8 u9 : Option Value), Rw mX11_laysDets X 41 [some (.ref i_M), some (.ref t), some (.int (nI n)), some (.int tp), some (.int (nI (pc6 n))), some (.int (nI k)), u6, u7, u8, u9] [] (wd (sA σ i_m_dets g) x) 0 0 := by
        intro tp htp
        refine up_loop (2 ^ T.2.1) ?_ ?_
        · intro g hg hk u6 u7 u8 u9
          refine R_iload hC dX11_laysDets_41 rfl (R_iconst (v := 1) hC dX11_laysDets_43 (by decide) (R_aload_n (i := 1) hC dX11_laysDets_44 rfl rfl (R_bipush (v := 37) hC dX11_laysDets_45 (by decide) (R_aI hC dX11_laysDets_47 ht 37 rfl (by decide) (by decide) ?_))))
          refine R_top (y := nI T.2.1) (by rw [e0, hC1]) ?_
          refine R_ishl hC dX11_laysDets_48 ?_
          refine R_top (y := nI (2 ^ T.2.1)) (shl1 _ hC6) ?_
          refine R_icmp_ge hC 199 dX11_laysDets_49 (by decide) (fun _ => ?_) (fun h => absurd (Int32.le_refl _) h)
          refine R_iinc hC dX11_laysDets_199 rfl (inc1 _) (by decide) rfl (R_goto hC 2 dX11_laysDets_202 (by decide) ?_)
          exact ih g (fun R C h1 h2 h3 => by rcases (by omega : R < n ∨ R = n) with h | rfl; exact hg R C h h2 h3; exact hk C h2 h3) _ _ _ _ _ _ _
        · intro k hk ihk g hg hgk u6 u7 u8 u9
          -- the end of one square
          have fin : ∀ s, (pc6 n = pc6 k → s = dD T.2.2 n k) → ∀ (u7 u8 u9 : Option Value), Rw mX11_laysDets X 179 [some (.ref i_M), some (.ref t), some (.int (nI n)), some (.int tp), some (.int (nI (pc6 n))), some (.int (nI k)), some (.int s), u7, u8, u9] [] (wd (sA σ i_m_dets g) x) 0 0 := by
            intro s hs u7 u8 u9
            refine R_aload_n (i := 0) hC dX11_laysDets_179 rfl rfl (R_gR hC dX11_laysDets_180 fl_X11_38 L_M rfl (R_bipush (v := 64) hC dX11_laysDets_183 (by decide) (R_iload_n (i := 2) hC dX11_laysDets_185 rfl rfl (R_imul hC dX11_laysDets_186 (R_iload hC dX11_laysDets_187 rfl (R_iadd hC dX11_laysDets_189 (R_iload hC dX11_laysDets_190 rfl ?_)))))))
            refine R_sI hC dX11_laysDets_192 L_m_dets (64 * n + k) (n64 n k) (by omega) (by decide) ?_
            refine R_wd (by rw [sA_eq, sA_sA]) ?_
            refine R_iinc hC dX11_laysDets_193 rfl (inc1 _) (by decide) rfl (R_goto hC 41 dX11_laysDets_196 (by decide) ?_)
            exact ihk _ (fun R C h1 h2 h3 => by rw [upd, if_neg (by omega)]; exact hg R C h1 h2 h3) (fun C h1 h3 => by
            rcases (by omega : C < k ∨ C = k) with h | rfl
            · rw [upd, if_neg (by omega)]; exact hgk C h h3
            · rw [upd, if_pos rfl]; exact hs h3) _ _ _ _
          have skip : ¬ pc6 n = pc6 k → Rw mX11_laysDets X 193 [some (.ref i_M), some (.ref t), some (.int (nI n)), some (.int tp), some (.int (nI (pc6 n))), some (.int (nI k)), u6, u7, u8, u9] [] (wd (sA σ i_m_dets g) x) 0 0 := by
            intro hs
            refine R_iinc hC dX11_laysDets_193 rfl (inc1 _) (by decide) rfl (R_goto hC 41 dX11_laysDets_196 (by decide) ?_)
            exact ihk _ hg (fun C h1 h3 => by rcases (by omega : C < k ∨ C = k) with h | rfl; exact hgk C h h3; exact absurd h3 hs) _ _ _ _
          -- the sum
          have inn : ¬ n = 0 → pc6 n = pc6 k → ∀ b, b < 6 → tp = nI b → n.testBit b = true → (∀ j, j < 6 → b < j → ¬ n.testBit j = true) → ∀ c, c ≤ T.2.1 → ∀ (u9 : Option Value), Rw mX11_laysDets X 82 [some (.ref i_M), some (.ref t), some (.int (nI n)), some (.int tp), some (.int (nI (pc6 n))), some (.int (nI k)), some (.int (sm (fun c => tmD (fun c => T.2.2 b c * dD T.2.2 (clr n b) (clr k c)) k c) c)), some (.int (nI (pcn k c))), some (.int (nI c)), u9] [] (wd (sA σ i_m_dets g) x) 0 0 := by
            intro hn0 hpc b hb etp hbit habove
            have hbR : b < T.1 := by
              rcases Nat.lt_or_ge b T.1 with h | h
              · exact h
              · exact absurd hbit (bit_hi n (by omega) T.1 hR6 hn b hb h)
            refine up_loop T.2.1 ?_ ?_
            · intro u9
              refine R_iload hC dX11_laysDets_82 rfl (R_aload_n (i := 1) hC dX11_laysDets_84 rfl rfl (R_bipush (v := 37) hC dX11_laysDets_85 (by decide) (R_aI hC dX11_laysDets_87 ht 37 rfl (by decide) (by decide) ?_)))
              refine R_top (y := nI T.2.1) (by rw [e0, hC1]) ?_
              refine R_icmp_ge hC 179 dX11_laysDets_88 (by decide) (fun _ => ?_) (fun h => absurd (Int32.le_refl _) h)
              exact fin _ (fun _ => by
              rw [dD_top T.2.2 (by omega) hb hbit habove]
              have := sm_cut (g := fun c => tmD (fun c => T.2.2 b c * dD T.2.2 (clr n b) (clr k c)) k c) (n := T.2.1) (6 - T.2.1) (fun c h1 h2 => by show (if k.testBit c then _ else (0 : Int32)) = 0; rw [if_neg (bit_hi k (by omega) T.2.1 hC6 hk c (by omega) h1)])
              rw [show T.2.1 + (6 - T.2.1) = 6 by omega] at this
              exact this.symm) _ _ _
            · intro c hc ihc u9
              by_cases hbc : k.testBit c = true
              · have hpos : 1 ≤ pc6 k := by have := clr_pc k (by omega) c (by omega) hbc; omega
                have q1 := pc6_le k (by omega)
                have q2 := pcn_le k c
                have nx : ∀ v, v = tmD (fun c => T.2.2 b c * dD T.2.2 (clr n b) (clr k c)) k c → ∀ u9, Rw mX11_laysDets X 167 [some (.ref i_M), some (.ref t), some (.int (nI n)), some (.int tp), some (.int (nI (pc6 n))), some (.int (nI k)), some (.int (sm (fun c => tmD (fun c => T.2.2 b c * dD T.2.2 (clr n b) (clr k c)) k c) c)), some (.int (nI (pcn k c))), some (.int (nI c)), u9] [.int v, .int (sm (fun c => tmD (fun c => T.2.2 b c * dD T.2.2 (clr n b) (clr k c)) k c) c)] (wd (sA σ i_m_dets g) x) 0 0 := by
                  intro v hv u9
                  subst hv
                  have e : pcn k (c + 1) = pcn k c + 1 := by rw [pcn, if_pos hbc]
                  rw [e] at ihc
                  refine R_iadd hC dX11_laysDets_167 (R_istore hC dX11_laysDets_168 (by decide) rfl (R_iinc hC dX11_laysDets_170 rfl (inc1 _) (by decide) rfl (R_iinc hC dX11_laysDets_173 rfl (inc1 _) (by decide) rfl (R_goto hC 82 dX11_laysDets_176 (by decide) ?_))))
                  exact ihc _
                refine R_iload hC dX11_laysDets_82 rfl (R_aload_n (i := 1) hC dX11_laysDets_84 rfl rfl (R_bipush (v := 37) hC dX11_laysDets_85 (by decide) (R_aI hC dX11_laysDets_87 ht 37 rfl (by decide) (by decide) ?_)))
                refine R_top (y := nI T.2.1) (by rw [e0, hC1]) ?_
                refine R_icmp_ge hC 179 dX11_laysDets_88 (by decide) (fun h => absurd h (nI_ge hc (by omega))) (fun _ => ?_)
                refine R_iload_n (i := 2) hC dX11_laysDets_91 rfl rfl ?_
                refine R_if_eq hC 179 dX11_laysDets_92 (by decide) (fun h => absurd h (nI_ne0 (by omega) (by omega))) (fun _ => ?_)
                refine R_iload hC dX11_laysDets_95 rfl (R_iload hC dX11_laysDets_97 rfl ?_)
                refine R_S2i hC hR dX11_laysDets_99 MS_X11_has ml_X11_200 (s_has k c (by omega) (by omega) _) (by decide) ⟨by decide, by decide⟩ (Nat.le_of_ble_eq_true rfl) ?_
                rw [if_pos hbc]
                refine R_if_ne hC 108 dX11_laysDets_102 (by decide) (fun _ => ?_) (fun h => absurd h (by decide))
                refine R_aload_n (i := 1) hC dX11_laysDets_108 rfl rfl (R_bipush (v := 6) hC dX11_laysDets_109 (by decide) (R_iload_n (i := 3) hC dX11_laysDets_111 rfl rfl (R_imul hC dX11_laysDets_112 (R_iload hC dX11_laysDets_113 rfl (R_iadd hC dX11_laysDets_115 (R_aI hC dX11_laysDets_116 ht (6 * b + c) (by rw [etp]; exact n6 b c) (by omega) (by decide) ?_))))))
                refine R_top (y := T.2.2 b c) (by rw [e0, (hE b c hbR hc).1]) ?_
                refine R_aload_n (i := 0) hC dX11_laysDets_117 rfl rfl (R_gR hC dX11_laysDets_118 fl_X11_38 L_M rfl (R_bipush (v := 64) hC dX11_laysDets_121 (by decide) (R_iload_n (i := 2) hC dX11_laysDets_123 rfl rfl (R_iconst (v := 1) hC dX11_laysDets_124 (by decide) (R_iload_n (i := 3) hC dX11_laysDets_125 rfl rfl (R_ishl hC dX11_laysDets_126 (R_iconst (v := (-1)) hC dX11_laysDets_127 (by decide) ?_)))))))
                refine R_ixor hC dX11_laysDets_128 (R_iand hC dX11_laysDets_129 ?_)
                refine R_top (y := nI (clr n b)) (by rw [etp]; exact and_clr n (by omega) b hb) ?_
                refine R_imul hC dX11_laysDets_130 (R_iload hC dX11_laysDets_131 rfl (R_iconst (v := 1) hC dX11_laysDets_133 (by decide) (R_iload hC dX11_laysDets_134 rfl (R_ishl hC dX11_laysDets_136 (R_iconst (v := (-1)) hC dX11_laysDets_137 (by decide) (R_ixor hC dX11_laysDets_138 (R_iand hC dX11_laysDets_139 ?_)))))))
                refine R_top (y := nI (clr k c)) (and_clr k (by omega) c (by omega)) ?_
                refine R_iadd hC dX11_laysDets_140 (R_aI hC dX11_laysDets_141 L_m_dets (64 * clr n b + clr k c) (n64 _ _) (by have := clr_lt n (by omega) b hb hbit; have := clr_lt k (by omega) c (by omega) hbc; omega) (by decide) ?_)
                refine R_top (y := dD T.2.2 (clr n b) (clr k c)) (by rw [sA_eq]; exact hg _ _ (clr_lt n (by omega) b hb hbit) (Nat.lt_trans (clr_lt k (by omega) c (by omega) hbc) hk) (by have := clr_pc n (by omega) b hb hbit; have := clr_pc k (by omega) c (by omega) hbc; omega)) ?_
                refine R_imul hC dX11_laysDets_142 (R_istore hC dX11_laysDets_143 (by decide) rfl (R_iload hC dX11_laysDets_145 rfl (R_iload hC dX11_laysDets_147 rfl (R_iconst (v := 1) hC dX11_laysDets_149 (by decide) (R_isub hC dX11_laysDets_150 (R_iload hC dX11_laysDets_151 rfl (R_iadd hC dX11_laysDets_153 ?_)))))))
                refine R_top (y := nI (pc6 k - 1 + pcn k c)) (by rw [hpc, nI_dec (by omega), nI_add]) ?_
                refine R_iconst (v := 2) hC dX11_laysDets_154 (by decide) (R_irem hC dX11_laysDets_155 (by decide) ?_)
                refine R_top (y := nI ((pc6 k - 1 + pcn k c) % 2)) (by rw [show (2 : Int32) = nI 2 from rfl]; exact pk_rem (by omega) (by decide) (by decide)) ?_
                have em : (nI ((pc6 k - 1 + pcn k c) % 2) = (0 : Int32)) ↔ (pc6 k - 1 + pcn k c) % 2 = 0 := nI_eq (b := 0) (by omega) (by decide)
                refine R_if_ne hC 164 dX11_laysDets_156 (by decide) (fun h156 => ?_) (fun h156 => ?_)
                · refine R_iload hC dX11_laysDets_164 rfl (R_ineg hC dX11_laysDets_166 ?_)
                  exact nx _ (by
                  show _ = (if k.testBit c then _ else (0 : Int32))
                  rw [if_pos hbc]
                  first
                  | (rw [if_pos (em.mp h156)]; done)
                  | (rw [if_neg (fun z => h156 (em.mpr z))]; done)) _
                · refine R_iload hC dX11_laysDets_159 rfl (R_goto hC 167 dX11_laysDets_161 (by decide) ?_)
                  exact nx _ (by
                  show _ = (if k.testBit c then _ else (0 : Int32))
                  rw [if_pos hbc]
                  first
                  | (rw [if_pos (em.mp h156)]; done)
                  | (rw [if_neg (fun z => h156 (em.mpr z))]; done)) _
              · have e : pcn k (c + 1) = pcn k c := by rw [pcn, if_neg hbc]; rfl
                have e2 : sm (fun c => tmD (fun c => T.2.2 b c * dD T.2.2 (clr n b) (clr k c)) k c) (c + 1) = sm (fun c => tmD (fun c => T.2.2 b c * dD T.2.2 (clr n b) (clr k c)) k c) c := by
                  rw [sm]
                  show _ + (if k.testBit c then _ else (0 : Int32)) = _
                  rw [if_neg hbc, Int32.add_zero]
                rw [e, e2] at ihc
                refine R_iload hC dX11_laysDets_82 rfl (R_aload_n (i := 1) hC dX11_laysDets_84 rfl rfl (R_bipush (v := 37) hC dX11_laysDets_85 (by decide) (R_aI hC dX11_laysDets_87 ht 37 rfl (by decide) (by decide) ?_)))
                refine R_top (y := nI T.2.1) (by rw [e0, hC1]) ?_
                refine R_icmp_ge hC 179 dX11_laysDets_88 (by decide) (fun h => absurd h (nI_ge hc (by omega))) (fun _ => ?_)
                refine R_iload_n (i := 2) hC dX11_laysDets_91 rfl rfl ?_
                refine R_if_eq hC 179 dX11_laysDets_92 (by decide) (fun h => absurd h (nI_ne0 (by omega) (by omega))) (fun _ => ?_)
                refine R_iload hC dX11_laysDets_95 rfl (R_iload hC dX11_laysDets_97 rfl ?_)
                refine R_S2i hC hR dX11_laysDets_99 MS_X11_has ml_X11_200 (s_has k c (by omega) (by omega) _) (by decide) ⟨by decide, by decide⟩ (Nat.le_of_ble_eq_true rfl) ?_
                rw [if_neg hbc]
                refine R_if_ne hC 108 dX11_laysDets_102 (by decide) (fun h => absurd (by decide) h) (fun _ => ?_)
                refine R_goto hC 173 dX11_laysDets_105 (by decide) (R_iinc hC dX11_laysDets_173 rfl (inc1 _) (by decide) rfl (R_goto hC 82 dX11_laysDets_176 (by decide) ?_))
                exact ihc _
          have q1 := pc6_le k (by omega)
          have q2 := pc6_le n (by omega)
          have em : (nI (pc6 k) = nI (pc6 n)) ↔ pc6 k = pc6 n := nI_eq (by omega) (by omega)
          by_cases hn0 : n = 0
          · subst hn0
            refine R_iload hC dX11_laysDets_41 rfl (R_iconst (v := 1) hC dX11_laysDets_43 (by decide) (R_aload_n (i := 1) hC dX11_laysDets_44 rfl rfl (R_bipush (v := 37) hC dX11_laysDets_45 (by decide) (R_aI hC dX11_laysDets_47 ht 37 rfl (by decide) (by decide) ?_))))
            refine R_top (y := nI T.2.1) (by rw [e0, hC1]) ?_
            refine R_ishl hC dX11_laysDets_48 ?_
            refine R_top (y := nI (2 ^ T.2.1)) (shl1 _ hC6) ?_
            refine R_icmp_ge hC 199 dX11_laysDets_49 (by decide) (fun h => absurd h (nI_ge hk (by omega))) (fun _ => ?_)
            refine R_iload hC dX11_laysDets_52 rfl ?_
            refine R_S1i hC hR dX11_laysDets_54 MS_X11_sizeOf ml_X11_204 (s_sizeOf k (by omega) _) (by decide) ⟨by decide, by decide⟩ (Nat.le_of_ble_eq_true rfl) ?_
            refine R_iload hC dX11_laysDets_57 rfl ?_
            refine R_icmp_eq hC 65 dX11_laysDets_59 (by decide) (fun h59 => ?_) (fun h59 => ?_)
            · refine R_iload_n (i := 2) hC dX11_laysDets_65 rfl rfl ?_
              refine R_if_ne hC 73 dX11_laysDets_66 (by decide) (fun h => absurd (by decide) h) (fun _ => ?_)
              refine R_iconst (v := 1) hC dX11_laysDets_69 (by decide) (R_goto hC 74 dX11_laysDets_70 (by decide) (R_istore hC dX11_laysDets_74 (by decide) rfl (R_iconst (v := 0) hC dX11_laysDets_76 (by decide) (R_istore hC dX11_laysDets_77 (by decide) rfl (R_iconst (v := 0) hC dX11_laysDets_79 (by decide) (R_istore hC dX11_laysDets_80 (by decide) rfl (R_iload hC dX11_laysDets_82 rfl ?_)))))))
              refine R_aload_n (i := 1) hC dX11_laysDets_84 rfl rfl (R_bipush (v := 37) hC dX11_laysDets_85 (by decide) (R_aI hC dX11_laysDets_87 ht 37 rfl (by decide) (by decide) ?_))
              refine R_top (y := nI T.2.1) (by rw [e0, hC1]) ?_
              refine R_icmp_ge hC 179 dX11_laysDets_88 (by decide) (fun h88 => ?_) (fun h88 => ?_)
              · exact fin _ (fun _ => (dD_0 _ _).symm) _ _ _
              · refine R_iload_n (i := 2) hC dX11_laysDets_91 rfl rfl ?_
                refine R_if_eq hC 179 dX11_laysDets_92 (by decide) (fun _ => ?_) (fun h => absurd (by decide) h)
                exact fin _ (fun _ => (dD_0 _ _).symm) _ _ _
            · refine R_goto hC 193 dX11_laysDets_62 (by decide) ?_
              exact skip (fun z => h59 (em.mpr z.symm))
          · obtain ⟨b, hb, etp, hbit, hab⟩ := htp hn0
            refine R_iload hC dX11_laysDets_41 rfl (R_iconst (v := 1) hC dX11_laysDets_43 (by decide) (R_aload_n (i := 1) hC dX11_laysDets_44 rfl rfl (R_bipush (v := 37) hC dX11_laysDets_45 (by decide) (R_aI hC dX11_laysDets_47 ht 37 rfl (by decide) (by decide) ?_))))
            refine R_top (y := nI T.2.1) (by rw [e0, hC1]) ?_
            refine R_ishl hC dX11_laysDets_48 ?_
            refine R_top (y := nI (2 ^ T.2.1)) (shl1 _ hC6) ?_
            refine R_icmp_ge hC 199 dX11_laysDets_49 (by decide) (fun h => absurd h (nI_ge hk (by omega))) (fun _ => ?_)
            refine R_iload hC dX11_laysDets_52 rfl ?_
            refine R_S1i hC hR dX11_laysDets_54 MS_X11_sizeOf ml_X11_204 (s_sizeOf k (by omega) _) (by decide) ⟨by decide, by decide⟩ (Nat.le_of_ble_eq_true rfl) ?_
            refine R_iload hC dX11_laysDets_57 rfl ?_
            refine R_icmp_eq hC 65 dX11_laysDets_59 (by decide) (fun h59 => ?_) (fun h59 => ?_)
            · refine R_iload_n (i := 2) hC dX11_laysDets_65 rfl rfl ?_
              refine R_if_ne hC 73 dX11_laysDets_66 (by decide) (fun _ => ?_) (fun h => absurd h (nI_ne0 (by omega) (by omega)))
              refine R_iconst (v := 0) hC dX11_laysDets_73 (by decide) (R_istore hC dX11_laysDets_74 (by decide) rfl (R_iconst (v := 0) hC dX11_laysDets_76 (by decide) (R_istore hC dX11_laysDets_77 (by decide) rfl (R_iconst (v := 0) hC dX11_laysDets_79 (by decide) (R_istore hC dX11_laysDets_80 (by decide) rfl ?_)))))
              exact inn hn0 (em.mp h59).symm b hb etp hbit hab 0 (Nat.zero_le _) _
            · refine R_goto hC 193 dX11_laysDets_62 (by decide) ?_
              exact skip (fun z => h59 (em.mpr z.symm))
      have topl : ∀ k, k ≤ 6 → (∀ j, j < 6 → k ≤ j → ¬ n.testBit j = true) → Rw mX11_laysDets X 14 [some (.ref i_M), some (.ref t), some (.int (nI n)), some (.int (nI k - 1)), u4, u5, u6, u7, u8, u9] [] (wd (sA σ i_m_dets g) x) 0 0 := by
        intro k
        have fin : ∀ tp : Int32, (¬ n = 0 → ∃ k, k < 6 ∧ tp = nI k ∧ n.testBit k = true ∧ ∀ j, j < 6 → k < j → ¬ n.testBit j = true) → Rw mX11_laysDets X 32 [some (.ref i_M), some (.ref t), some (.int (nI n)), some (.int tp), u4, u5, u6, u7, u8, u9] [] (wd (sA σ i_m_dets g) x) 0 0 := by
          intro tp htp
          refine R_iload_n (i := 2) hC dX11_laysDets_32 rfl rfl ?_
          refine R_S1i hC hR dX11_laysDets_33 MS_X11_sizeOf ml_X11_204 (s_sizeOf n (by omega) _) (by decide) ⟨by decide, by decide⟩ (Nat.le_of_ble_eq_true rfl) ?_
          refine R_istore hC dX11_laysDets_36 (by decide) rfl (R_iconst (v := 0) hC dX11_laysDets_38 (by decide) (R_istore hC dX11_laysDets_39 (by decide) rfl ?_))
          exact mid tp htp 0 (Nat.zero_le _) g hg (fun C h1 => absurd h1 (Nat.not_lt_zero _)) _ _ _ _
        induction k with
        | zero =>
          intro hk hab
          refine R_iload_n (i := 3) hC dX11_laysDets_14 rfl rfl ?_
          refine R_if_lt hC 32 dX11_laysDets_15 (by decide) (fun _ => ?_) (fun h => absurd (by decide) h)
          exact fin _ (fun z => by obtain ⟨k, h1, h2⟩ := bit_ex n (by omega) z; exact absurd h2 (hab k h1 (Nat.zero_le _)))
        | succ k ihk =>
          intro hk hab
          rw [nI_pred]
          by_cases hbit : n.testBit k = true
          · refine R_iload_n (i := 3) hC dX11_laysDets_14 rfl rfl ?_
            refine R_if_lt hC 32 dX11_laysDets_15 (by decide) (fun h => absurd h (nI_pos (by omega))) (fun _ => ?_)
            refine R_iload_n (i := 2) hC dX11_laysDets_18 rfl rfl (R_iload_n (i := 3) hC dX11_laysDets_19 rfl rfl ?_)
            refine R_S2i hC hR dX11_laysDets_20 MS_X11_has ml_X11_200 (s_has n k (by omega) (by omega) _) (by decide) ⟨by decide, by decide⟩ (Nat.le_of_ble_eq_true rfl) ?_
            rw [if_pos hbit]
            refine R_if_ne hC 32 dX11_laysDets_23 (by decide) (fun _ => ?_) (fun h => absurd h (by decide))
            exact fin _ (fun _ => ⟨k, by omega, rfl, hbit, fun j h1 h2 => hab j h1 h2⟩)
          · refine R_iload_n (i := 3) hC dX11_laysDets_14 rfl rfl ?_
            refine R_if_lt hC 32 dX11_laysDets_15 (by decide) (fun h => absurd h (nI_pos (by omega))) (fun _ => ?_)
            refine R_iload_n (i := 2) hC dX11_laysDets_18 rfl rfl (R_iload_n (i := 3) hC dX11_laysDets_19 rfl rfl ?_)
            refine R_S2i hC hR dX11_laysDets_20 MS_X11_has ml_X11_200 (s_has n k (by omega) (by omega) _) (by decide) ⟨by decide, by decide⟩ (Nat.le_of_ble_eq_true rfl) ?_
            rw [if_neg hbit]
            refine R_if_ne hC 32 dX11_laysDets_23 (by decide) (fun h => absurd (by decide) h) (fun _ => ?_)
            refine R_iinc hC dX11_laysDets_26 rfl (show nI k + Int32.ofInt (-1) = nI k - 1 by rw [Int32.sub_eq_add_neg]; rfl) (by decide) rfl (R_goto hC 14 dX11_laysDets_29 (by decide) ?_)
            exact ihk (by omega) (fun j h1 h2 => by rcases (by omega : k + 1 ≤ j ∨ j = k) with h | rfl; exact hab j h1 h; exact hbit)
      exact topl 6 (Nat.le_refl _) (fun j h1 h2 => by omega)
  refine R_iconst (v := 0) hC dX11_laysDets_0 (by decide) (R_istore_n (i := 2) hC dX11_laysDets_1 rfl (by decide) rfl ?_)
  (refine R_wd (sA_self σ i_m_dets).symm ?_; exact key 0 (Nat.zero_le _) _ (fun R C h => absurd h (Nat.not_lt_zero _)) _ _ _ _ _ _ _)
