def inR (n : Nat) (a : Int32) : Prop := 0 ≤ a.toInt ∧ a.toInt < n
/-- why a deed can't be: 0 no table, 1 bounds, 2 it is so, 3 it can't be; -1: it can -/
noncomputable def stopZ (T : tb) (k : Nat) (a b : Int32) : Int32 := by classical exact
  if T.1 = 0 then 0
  else if k = 0 then (if inR T.1 a then -1 else 1)
  else if k = 1 then (if inR T.2.1 a then -1 else 1)
  else if k = 2 then (if inR T.1 a ∧ inR T.1 b then (if a = b then 2 else -1) else 1)
  else if k = 3 then (if inR T.2.1 a ∧ inR T.2.1 b then (if a = b then 2 else -1) else 1)
  else if k = 4 then (if inR T.1 a ∧ inR T.2.1 b then (if T.2.2 a.toNatClampNeg b.toNatClampNeg = 0 then 2 else if (∀ i j, i < T.1 → j < T.2.1 → sml (tturn a.toNatClampNeg b.toNatClampNeg T.2.2 i j)) then -1 else 3) else 1)
  else if k = 5 then -1
  else if k = 6 then (if inR T.1 a then (if T.1 = 1 then 3 else -1) else 1)
  else if k = 7 then (if inR T.2.1 a then (if T.2.1 = 1 then 3 else -1) else 1)
  else 1
theorem st_6a {T : tb} {a b : Int32} (h : ¬ T.1 = 0) (h1 : ¬ inR T.1 a) : stopZ T 6 a b = 1 := by
  unfold stopZ
  rw [if_neg h, if_neg (show ¬ (6 : Nat) = 0 by decide), if_neg (show ¬ (6 : Nat) = 1 by decide), if_neg (show ¬ (6 : Nat) = 2 by decide), if_neg (show ¬ (6 : Nat) = 3 by decide), if_neg (show ¬ (6 : Nat) = 4 by decide), if_neg (show ¬ (6 : Nat) = 5 by decide), if_pos rfl, if_neg h1]
theorem st_6b {T : tb} {a b : Int32} (h : ¬ T.1 = 0) (h1 : inR T.1 a) (h2 : T.1 = 1) : stopZ T 6 a b = 3 := by
  unfold stopZ
  rw [if_neg h, if_neg (show ¬ (6 : Nat) = 0 by decide), if_neg (show ¬ (6 : Nat) = 1 by decide), if_neg (show ¬ (6 : Nat) = 2 by decide), if_neg (show ¬ (6 : Nat) = 3 by decide), if_neg (show ¬ (6 : Nat) = 4 by decide), if_neg (show ¬ (6 : Nat) = 5 by decide), if_pos rfl, if_pos h1, if_pos h2]
theorem st_6c {T : tb} {a b : Int32} (h : ¬ T.1 = 0) (h1 : inR T.1 a) (h2 : ¬ T.1 = 1) : stopZ T 6 a b = -1 := by
  unfold stopZ
  rw [if_neg h, if_neg (show ¬ (6 : Nat) = 0 by decide), if_neg (show ¬ (6 : Nat) = 1 by decide), if_neg (show ¬ (6 : Nat) = 2 by decide), if_neg (show ¬ (6 : Nat) = 3 by decide), if_neg (show ¬ (6 : Nat) = 4 by decide), if_neg (show ¬ (6 : Nat) = 5 by decide), if_pos rfl, if_pos h1, if_neg h2]
theorem st_7a {T : tb} {a b : Int32} (h : ¬ T.1 = 0) (h1 : ¬ inR T.2.1 a) : stopZ T 7 a b = 1 := by
  unfold stopZ
  rw [if_neg h, if_neg (show ¬ (7 : Nat) = 0 by decide), if_neg (show ¬ (7 : Nat) = 1 by decide), if_neg (show ¬ (7 : Nat) = 2 by decide), if_neg (show ¬ (7 : Nat) = 3 by decide), if_neg (show ¬ (7 : Nat) = 4 by decide), if_neg (show ¬ (7 : Nat) = 5 by decide), if_neg (show ¬ (7 : Nat) = 6 by decide), if_pos rfl, if_neg h1]
theorem st_7b {T : tb} {a b : Int32} (h : ¬ T.1 = 0) (h1 : inR T.2.1 a) (h2 : T.2.1 = 1) : stopZ T 7 a b = 3 := by
  unfold stopZ
  rw [if_neg h, if_neg (show ¬ (7 : Nat) = 0 by decide), if_neg (show ¬ (7 : Nat) = 1 by decide), if_neg (show ¬ (7 : Nat) = 2 by decide), if_neg (show ¬ (7 : Nat) = 3 by decide), if_neg (show ¬ (7 : Nat) = 4 by decide), if_neg (show ¬ (7 : Nat) = 5 by decide), if_neg (show ¬ (7 : Nat) = 6 by decide), if_pos rfl, if_pos h1, if_pos h2]
theorem st_7c {T : tb} {a b : Int32} (h : ¬ T.1 = 0) (h1 : inR T.2.1 a) (h2 : ¬ T.2.1 = 1) : stopZ T 7 a b = -1 := by
  unfold stopZ
  rw [if_neg h, if_neg (show ¬ (7 : Nat) = 0 by decide), if_neg (show ¬ (7 : Nat) = 1 by decide), if_neg (show ¬ (7 : Nat) = 2 by decide), if_neg (show ¬ (7 : Nat) = 3 by decide), if_neg (show ¬ (7 : Nat) = 4 by decide), if_neg (show ¬ (7 : Nat) = 5 by decide), if_neg (show ¬ (7 : Nat) = 6 by decide), if_pos rfl, if_pos h1, if_neg h2]
theorem st_4a {T : tb} {a b : Int32} (h : ¬ T.1 = 0) (h1 : ¬ (inR T.1 a ∧ inR T.2.1 b)) : stopZ T 4 a b = 1 := by
  unfold stopZ
  rw [if_neg h, if_neg (show ¬ (4 : Nat) = 0 by decide), if_neg (show ¬ (4 : Nat) = 1 by decide), if_neg (show ¬ (4 : Nat) = 2 by decide), if_neg (show ¬ (4 : Nat) = 3 by decide), if_pos rfl, if_neg h1]
theorem st_4b {T : tb} {a b : Int32} (h : ¬ T.1 = 0) (h1 : inR T.1 a ∧ inR T.2.1 b) (h2 : T.2.2 a.toNatClampNeg b.toNatClampNeg = 0) : stopZ T 4 a b = 2 := by
  unfold stopZ
  rw [if_neg h, if_neg (show ¬ (4 : Nat) = 0 by decide), if_neg (show ¬ (4 : Nat) = 1 by decide), if_neg (show ¬ (4 : Nat) = 2 by decide), if_neg (show ¬ (4 : Nat) = 3 by decide), if_pos rfl, if_pos h1, if_pos h2]
theorem st_4c {T : tb} {a b : Int32} (h : ¬ T.1 = 0) (h1 : inR T.1 a ∧ inR T.2.1 b) (h2 : ¬ T.2.2 a.toNatClampNeg b.toNatClampNeg = 0) (h3 : ∀ i j, i < T.1 → j < T.2.1 → sml (tturn a.toNatClampNeg b.toNatClampNeg T.2.2 i j)) : stopZ T 4 a b = -1 := by
  unfold stopZ
  rw [if_neg h, if_neg (show ¬ (4 : Nat) = 0 by decide), if_neg (show ¬ (4 : Nat) = 1 by decide), if_neg (show ¬ (4 : Nat) = 2 by decide), if_neg (show ¬ (4 : Nat) = 3 by decide), if_pos rfl, if_pos h1, if_neg h2, if_pos h3]
theorem st_4d {T : tb} {a b : Int32} (h : ¬ T.1 = 0) (h1 : inR T.1 a ∧ inR T.2.1 b) (h2 : ¬ T.2.2 a.toNatClampNeg b.toNatClampNeg = 0) (h3 : ¬ ∀ i j, i < T.1 → j < T.2.1 → sml (tturn a.toNatClampNeg b.toNatClampNeg T.2.2 i j)) : stopZ T 4 a b = 3 := by
  unfold stopZ
  rw [if_neg h, if_neg (show ¬ (4 : Nat) = 0 by decide), if_neg (show ¬ (4 : Nat) = 1 by decide), if_neg (show ¬ (4 : Nat) = 2 by decide), if_neg (show ¬ (4 : Nat) = 3 by decide), if_pos rfl, if_pos h1, if_neg h2, if_neg h3]
theorem sw8 {x : Int32} (h1 : 0 ≤ x.toInt) (h2 : x.toInt ≤ 7) : x = nI 0 ∨ x = nI 1 ∨ x = nI 2 ∨ x = nI 3 ∨ x = nI 4 ∨ x = nI 5 ∨ x = nI 6 ∨ x = nI 7 := by
  obtain ⟨j, rfl, hj, -⟩ := i32_nI h1
  rcases (by omega : j = 0 ∨ j = 1 ∨ j = 2 ∨ j = 3 ∨ j = 4 ∨ j = 5 ∨ j = 6 ∨ j = 7) with rfl | rfl | rfl | rfl | rfl | rfl | rfl | rfl <;> simp
theorem inR_i {n : Nat} {a : Int32} (h : inR n a) : ∃ i : Nat, a = nI i ∧ i < n ∧ i < 2 ^ 31 := by
  obtain ⟨i, rfl, hi, h2⟩ := i32_nI h.1
  exact ⟨i, rfl, by have := h.2; omega, h2⟩
theorem inR_n {n i : Nat} (h : i < n) (hn : n ≤ 6) : inR n (nI i) := by
  unfold inR
  rw [nI_toInt (by omega)]; omega
theorem TB.inT_iff {g : Nat → Int32} {T : tb} (h : TB g T) {r c : Int32} : inT g r c ↔ inR T.1 r ∧ inR T.2.1 c := by
  unfold inT inR
  rw [h.1, h.2.1, nI_toInt (n := T.1) (by have := h.2.2.1; omega), nI_toInt (n := T.2.1) (by have := h.2.2.2.1; omega)]
  constructor
  · rintro ⟨a, b, c, d⟩; exact ⟨⟨a, b⟩, c, d⟩
  · rintro ⟨⟨a, b⟩, c, d⟩; exact ⟨a, b, c, d⟩
theorem dX11_stops_0 : decode cX11_stops 0 = .ok (.aload_n 1, 1) := by decide +kernel
theorem dX11_stops_1 : decode cX11_stops 1 = .ok (.bipush 36, 2) := by decide +kernel
theorem dX11_stops_3 : decode cX11_stops 3 = .ok (.iaload, 1) := by decide +kernel
theorem dX11_stops_4 : decode cX11_stops 4 = .ok (.ifCond .ne 5, 3) := by decide +kernel
theorem dX11_stops_7 : decode cX11_stops 7 = .ok (.iconst 0, 1) := by decide +kernel
theorem dX11_stops_8 : decode cX11_stops 8 = .ok (.ireturn, 1) := by decide +kernel
theorem dX11_stops_9 : decode cX11_stops 9 = .ok (.iload_n 3, 1) := by decide +kernel
theorem dX11_stops_10 : decode cX11_stops 10 = .ok (.ifCond .lt 15, 3) := by decide +kernel
theorem dX11_stops_13 : decode cX11_stops 13 = .ok (.iload_n 3, 1) := by decide +kernel
theorem dX11_stops_14 : decode cX11_stops 14 = .ok (.aload_n 1, 1) := by decide +kernel
theorem dX11_stops_15 : decode cX11_stops 15 = .ok (.bipush 36, 2) := by decide +kernel
theorem dX11_stops_17 : decode cX11_stops 17 = .ok (.iaload, 1) := by decide +kernel
theorem dX11_stops_18 : decode cX11_stops 18 = .ok (.if_icmp .ge 7, 3) := by decide +kernel
theorem dX11_stops_21 : decode cX11_stops 21 = .ok (.iconst 1, 1) := by decide +kernel
theorem dX11_stops_22 : decode cX11_stops 22 = .ok (.goto 4, 3) := by decide +kernel
theorem dX11_stops_25 : decode cX11_stops 25 = .ok (.iconst 0, 1) := by decide +kernel
theorem dX11_stops_26 : decode cX11_stops 26 = .ok (.istore 5, 2) := by decide +kernel
theorem dX11_stops_28 : decode cX11_stops 28 = .ok (.iload_n 3, 1) := by decide +kernel
theorem dX11_stops_29 : decode cX11_stops 29 = .ok (.ifCond .lt 15, 3) := by decide +kernel
theorem dX11_stops_32 : decode cX11_stops 32 = .ok (.iload_n 3, 1) := by decide +kernel
theorem dX11_stops_33 : decode cX11_stops 33 = .ok (.aload_n 1, 1) := by decide +kernel
theorem dX11_stops_34 : decode cX11_stops 34 = .ok (.bipush 37, 2) := by decide +kernel
theorem dX11_stops_36 : decode cX11_stops 36 = .ok (.iaload, 1) := by decide +kernel
theorem dX11_stops_37 : decode cX11_stops 37 = .ok (.if_icmp .ge 7, 3) := by decide +kernel
theorem dX11_stops_40 : decode cX11_stops 40 = .ok (.iconst 1, 1) := by decide +kernel
theorem dX11_stops_41 : decode cX11_stops 41 = .ok (.goto 4, 3) := by decide +kernel
theorem dX11_stops_44 : decode cX11_stops 44 = .ok (.iconst 0, 1) := by decide +kernel
theorem dX11_stops_45 : decode cX11_stops 45 = .ok (.istore 6, 2) := by decide +kernel
theorem dX11_stops_47 : decode cX11_stops 47 = .ok (.iload_n 2, 1) := by decide +kernel
theorem dX11_stops_48 : decode cX11_stops 48 = .ok (.tableswitch 226 0 7 #[48, 77, 106, 141, 176, 224, 48, 77], 48) := by decide +kernel
theorem dX11_stops_96 : decode cX11_stops 96 = .ok (.iload 5, 2) := by decide +kernel
theorem dX11_stops_98 : decode cX11_stops 98 = .ok (.ifCond .ne 7, 3) := by decide +kernel
theorem dX11_stops_101 : decode cX11_stops 101 = .ok (.iconst 1, 1) := by decide +kernel
theorem dX11_stops_102 : decode cX11_stops 102 = .ok (.goto 22, 3) := by decide +kernel
theorem dX11_stops_105 : decode cX11_stops 105 = .ok (.iload_n 2, 1) := by decide +kernel
theorem dX11_stops_106 : decode cX11_stops 106 = .ok (.bipush 6, 2) := by decide +kernel
theorem dX11_stops_108 : decode cX11_stops 108 = .ok (.if_icmp .ne 15, 3) := by decide +kernel
theorem dX11_stops_111 : decode cX11_stops 111 = .ok (.aload_n 1, 1) := by decide +kernel
theorem dX11_stops_112 : decode cX11_stops 112 = .ok (.bipush 36, 2) := by decide +kernel
theorem dX11_stops_114 : decode cX11_stops 114 = .ok (.iaload, 1) := by decide +kernel
theorem dX11_stops_115 : decode cX11_stops 115 = .ok (.iconst 1, 1) := by decide +kernel
theorem dX11_stops_116 : decode cX11_stops 116 = .ok (.if_icmp .ne 7, 3) := by decide +kernel
theorem dX11_stops_119 : decode cX11_stops 119 = .ok (.iconst 3, 1) := by decide +kernel
theorem dX11_stops_120 : decode cX11_stops 120 = .ok (.goto 4, 3) := by decide +kernel
theorem dX11_stops_123 : decode cX11_stops 123 = .ok (.iconst (-1), 1) := by decide +kernel
theorem dX11_stops_124 : decode cX11_stops 124 = .ok (.ireturn, 1) := by decide +kernel
theorem dX11_stops_125 : decode cX11_stops 125 = .ok (.iload 6, 2) := by decide +kernel
theorem dX11_stops_127 : decode cX11_stops 127 = .ok (.ifCond .ne 7, 3) := by decide +kernel
theorem dX11_stops_130 : decode cX11_stops 130 = .ok (.iconst 1, 1) := by decide +kernel
theorem dX11_stops_131 : decode cX11_stops 131 = .ok (.goto 22, 3) := by decide +kernel
theorem dX11_stops_134 : decode cX11_stops 134 = .ok (.iload_n 2, 1) := by decide +kernel
theorem dX11_stops_135 : decode cX11_stops 135 = .ok (.bipush 7, 2) := by decide +kernel
theorem dX11_stops_137 : decode cX11_stops 137 = .ok (.if_icmp .ne 15, 3) := by decide +kernel
theorem dX11_stops_140 : decode cX11_stops 140 = .ok (.aload_n 1, 1) := by decide +kernel
theorem dX11_stops_141 : decode cX11_stops 141 = .ok (.bipush 37, 2) := by decide +kernel
theorem dX11_stops_143 : decode cX11_stops 143 = .ok (.iaload, 1) := by decide +kernel
theorem dX11_stops_144 : decode cX11_stops 144 = .ok (.iconst 1, 1) := by decide +kernel
theorem dX11_stops_145 : decode cX11_stops 145 = .ok (.if_icmp .ne 7, 3) := by decide +kernel
theorem dX11_stops_148 : decode cX11_stops 148 = .ok (.iconst 3, 1) := by decide +kernel
theorem dX11_stops_149 : decode cX11_stops 149 = .ok (.goto 4, 3) := by decide +kernel
theorem dX11_stops_152 : decode cX11_stops 152 = .ok (.iconst (-1), 1) := by decide +kernel
theorem dX11_stops_153 : decode cX11_stops 153 = .ok (.ireturn, 1) := by decide +kernel
theorem dX11_stops_154 : decode cX11_stops 154 = .ok (.iload 5, 2) := by decide +kernel
theorem dX11_stops_156 : decode cX11_stops 156 = .ok (.ifCond .eq 17, 3) := by decide +kernel
theorem dX11_stops_159 : decode cX11_stops 159 = .ok (.iload 4, 2) := by decide +kernel
theorem dX11_stops_161 : decode cX11_stops 161 = .ok (.ifCond .lt 12, 3) := by decide +kernel
theorem dX11_stops_164 : decode cX11_stops 164 = .ok (.iload 4, 2) := by decide +kernel
theorem dX11_stops_166 : decode cX11_stops 166 = .ok (.aload_n 1, 1) := by decide +kernel
theorem dX11_stops_167 : decode cX11_stops 167 = .ok (.bipush 36, 2) := by decide +kernel
theorem dX11_stops_169 : decode cX11_stops 169 = .ok (.iaload, 1) := by decide +kernel
theorem dX11_stops_170 : decode cX11_stops 170 = .ok (.if_icmp .lt 7, 3) := by decide +kernel
theorem dX11_stops_173 : decode cX11_stops 173 = .ok (.iconst 1, 1) := by decide +kernel
theorem dX11_stops_174 : decode cX11_stops 174 = .ok (.goto 14, 3) := by decide +kernel
theorem dX11_stops_177 : decode cX11_stops 177 = .ok (.iload_n 3, 1) := by decide +kernel
theorem dX11_stops_178 : decode cX11_stops 178 = .ok (.iload 4, 2) := by decide +kernel
theorem dX11_stops_180 : decode cX11_stops 180 = .ok (.if_icmp .ne 7, 3) := by decide +kernel
theorem dX11_stops_183 : decode cX11_stops 183 = .ok (.iconst 2, 1) := by decide +kernel
theorem dX11_stops_184 : decode cX11_stops 184 = .ok (.goto 4, 3) := by decide +kernel
theorem dX11_stops_187 : decode cX11_stops 187 = .ok (.iconst (-1), 1) := by decide +kernel
theorem dX11_stops_188 : decode cX11_stops 188 = .ok (.ireturn, 1) := by decide +kernel
theorem dX11_stops_189 : decode cX11_stops 189 = .ok (.iload 6, 2) := by decide +kernel
theorem dX11_stops_191 : decode cX11_stops 191 = .ok (.ifCond .eq 17, 3) := by decide +kernel
theorem dX11_stops_194 : decode cX11_stops 194 = .ok (.iload 4, 2) := by decide +kernel
theorem dX11_stops_196 : decode cX11_stops 196 = .ok (.ifCond .lt 12, 3) := by decide +kernel
theorem dX11_stops_199 : decode cX11_stops 199 = .ok (.iload 4, 2) := by decide +kernel
theorem dX11_stops_201 : decode cX11_stops 201 = .ok (.aload_n 1, 1) := by decide +kernel
theorem dX11_stops_202 : decode cX11_stops 202 = .ok (.bipush 37, 2) := by decide +kernel
theorem dX11_stops_204 : decode cX11_stops 204 = .ok (.iaload, 1) := by decide +kernel
theorem dX11_stops_205 : decode cX11_stops 205 = .ok (.if_icmp .lt 7, 3) := by decide +kernel
theorem dX11_stops_208 : decode cX11_stops 208 = .ok (.iconst 1, 1) := by decide +kernel
theorem dX11_stops_209 : decode cX11_stops 209 = .ok (.goto 14, 3) := by decide +kernel
theorem dX11_stops_212 : decode cX11_stops 212 = .ok (.iload_n 3, 1) := by decide +kernel
theorem dX11_stops_213 : decode cX11_stops 213 = .ok (.iload 4, 2) := by decide +kernel
theorem dX11_stops_215 : decode cX11_stops 215 = .ok (.if_icmp .ne 7, 3) := by decide +kernel
theorem dX11_stops_218 : decode cX11_stops 218 = .ok (.iconst 2, 1) := by decide +kernel
theorem dX11_stops_219 : decode cX11_stops 219 = .ok (.goto 4, 3) := by decide +kernel
theorem dX11_stops_222 : decode cX11_stops 222 = .ok (.iconst (-1), 1) := by decide +kernel
theorem dX11_stops_223 : decode cX11_stops 223 = .ok (.ireturn, 1) := by decide +kernel
theorem dX11_stops_224 : decode cX11_stops 224 = .ok (.aload_n 0, 1) := by decide +kernel
theorem dX11_stops_225 : decode cX11_stops 225 = .ok (.aload_n 1, 1) := by decide +kernel
theorem dX11_stops_226 : decode cX11_stops 226 = .ok (.iload_n 3, 1) := by decide +kernel
theorem dX11_stops_227 : decode cX11_stops 227 = .ok (.iload 4, 2) := by decide +kernel
theorem dX11_stops_229 : decode cX11_stops 229 = .ok (.invokevirtual 158, 3) := by decide +kernel
theorem dX11_stops_232 : decode cX11_stops 232 = .ok (.ifCond .ne 7, 3) := by decide +kernel
theorem dX11_stops_235 : decode cX11_stops 235 = .ok (.iconst 1, 1) := by decide +kernel
theorem dX11_stops_236 : decode cX11_stops 236 = .ok (.goto 35, 3) := by decide +kernel
theorem dX11_stops_239 : decode cX11_stops 239 = .ok (.aload_n 1, 1) := by decide +kernel
theorem dX11_stops_240 : decode cX11_stops 240 = .ok (.bipush 6, 2) := by decide +kernel
theorem dX11_stops_242 : decode cX11_stops 242 = .ok (.iload_n 3, 1) := by decide +kernel
theorem dX11_stops_243 : decode cX11_stops 243 = .ok (.imul, 1) := by decide +kernel
theorem dX11_stops_244 : decode cX11_stops 244 = .ok (.iload 4, 2) := by decide +kernel
theorem dX11_stops_246 : decode cX11_stops 246 = .ok (.iadd, 1) := by decide +kernel
theorem dX11_stops_247 : decode cX11_stops 247 = .ok (.iaload, 1) := by decide +kernel
theorem dX11_stops_248 : decode cX11_stops 248 = .ok (.ifCond .ne 7, 3) := by decide +kernel
theorem dX11_stops_251 : decode cX11_stops 251 = .ok (.iconst 2, 1) := by decide +kernel
theorem dX11_stops_252 : decode cX11_stops 252 = .ok (.goto 19, 3) := by decide +kernel
theorem dX11_stops_255 : decode cX11_stops 255 = .ok (.aload_n 0, 1) := by decide +kernel
theorem dX11_stops_256 : decode cX11_stops 256 = .ok (.aload_n 1, 1) := by decide +kernel
theorem dX11_stops_257 : decode cX11_stops 257 = .ok (.iload_n 3, 1) := by decide +kernel
theorem dX11_stops_258 : decode cX11_stops 258 = .ok (.iload 4, 2) := by decide +kernel
theorem dX11_stops_260 : decode cX11_stops 260 = .ok (.invokevirtual 174, 3) := by decide +kernel
theorem dX11_stops_263 : decode cX11_stops 263 = .ok (.ifCond .eq 7, 3) := by decide +kernel
theorem dX11_stops_266 : decode cX11_stops 266 = .ok (.iconst (-1), 1) := by decide +kernel
theorem dX11_stops_267 : decode cX11_stops 267 = .ok (.goto 4, 3) := by decide +kernel
theorem dX11_stops_270 : decode cX11_stops 270 = .ok (.iconst 3, 1) := by decide +kernel
theorem dX11_stops_271 : decode cX11_stops 271 = .ok (.ireturn, 1) := by decide +kernel
theorem dX11_stops_272 : decode cX11_stops 272 = .ok (.iconst (-1), 1) := by decide +kernel
theorem dX11_stops_273 : decode cX11_stops 273 = .ok (.ireturn, 1) := by decide +kernel
theorem dX11_stops_274 : decode cX11_stops 274 = .ok (.iconst 1, 1) := by decide +kernel
theorem dX11_stops_275 : decode cX11_stops 275 = .ok (.ireturn, 1) := by decide +kernel
/-- stops: any kind k up to 7 -/
theorem s_stops (σ : sg) (x : aW) (t : Nat) (ht : LY t (0, 38, [])) (hne : t ≠ i_m_trial) (T : tb) (hT0 : TB (σ.2.2 t) T) (kd a b : Int32) :
    Mt mX11_stops 2 0 0 [.ref i_M, .ref t, .int kd, .int a, .int b] (wd σ x) (fun q w => ∃ g : Nat → Int32, w = wd (sA σ i_m_trial g) x ∧
      ((∃ k : Nat, k ≤ 7 ∧ kd = nI k ∧ q = some (.int (stopZ T k a b))) ∨ (¬ (0 ≤ kd.toInt ∧ kd.toInt ≤ 7) ∧ q = some (.int (stopZ T 8 a b))))) := by
  refine Mt.of MI_X11_stops (Nat.le_of_ble_eq_true rfl) (fun X hC hR hT => ?_)
  obtain ⟨hR1, hC1, hR6, hC6, hE⟩ := id hT0
  have hself : wd σ x = wd (sA σ i_m_trial (σ.2.2 i_m_trial)) x := by rw [sA_self]
  have e1 := nI_toInt (n := T.1) (by omega)
  have e2 := nI_toInt (n := T.2.1) (by omega)
  -- behind the two tests
  have sw : ¬ T.1 = 0 → Rw mX11_stops X 47 [some (.ref i_M), some (.ref t), some (.int kd), some (.int a), some (.int b), some (.int (b2i (inR T.1 a))), some (.int (b2i (inR T.2.1 a)))] [] (wd σ x) 0 0 := by
    intro hT1
    have tell : ∀ (v : Int32) (k : Nat), k ≤ 7 → kd = nI k → v = stopZ T k a b → (fun (q : Option Value) (w : aW) => ∃ g : Nat → Int32, w = wd (sA σ i_m_trial g) x ∧
      ((∃ k : Nat, k ≤ 7 ∧ kd = nI k ∧ q = some (.int (stopZ T k a b))) ∨ (¬ (0 ≤ kd.toInt ∧ kd.toInt ≤ 7) ∧ q = some (.int (stopZ T 8 a b))))) (some (.int v)) (wd σ x) :=
      fun v k hk he hv => ⟨_, hself, Or.inl ⟨k, hk, he, by rw [hv]⟩⟩
    by_cases hkd : 0 ≤ kd.toInt ∧ kd.toInt ≤ 7
    · rcases sw8 hkd.1 hkd.2 with rfl | rfl | rfl | rfl | rfl | rfl | rfl | rfl
      · refine R_iload_n (i := 2) hC dX11_stops_47 rfl rfl ?_
        refine R_tableIn hC 96 dX11_stops_48 (by decide) (by decide) rfl (by decide) ?_
        refine R_iload hC dX11_stops_96 rfl ?_
        refine R_if_ne hC 105 dX11_stops_98 (by decide) (fun h98 => ?_) (fun h98 => ?_)
        · refine R_iload_n (i := 2) hC dX11_stops_105 rfl rfl (R_bipush (v := 6) hC dX11_stops_106 (by decide) ?_)
          refine R_icmp_ne hC 123 dX11_stops_108 (by decide) (fun _ => ?_) (fun h => absurd h (by decide))
          refine R_iconst (v := (-1)) hC dX11_stops_123 (by decide) ?_
          exact R_iret hC hT dX11_stops_124 rfl (tell _ 0 (by decide) rfl (by first | (have := b2i_ne h98; simp [stopZ, hT1, this]; done) | (have := b2i_0 h98; simp [stopZ, hT1, this]; done)))
        · refine R_iconst (v := 1) hC dX11_stops_101 (by decide) (R_goto hC 124 dX11_stops_102 (by decide) ?_)
          exact R_iret hC hT dX11_stops_124 rfl (tell _ 0 (by decide) rfl (by first | (have := b2i_ne h98; simp [stopZ, hT1, this]; done) | (have := b2i_0 h98; simp [stopZ, hT1, this]; done)))
      · refine R_iload_n (i := 2) hC dX11_stops_47 rfl rfl ?_
        refine R_tableIn hC 125 dX11_stops_48 (by decide) (by decide) rfl (by decide) ?_
        refine R_iload hC dX11_stops_125 rfl ?_
        refine R_if_ne hC 134 dX11_stops_127 (by decide) (fun h127 => ?_) (fun h127 => ?_)
        · refine R_iload_n (i := 2) hC dX11_stops_134 rfl rfl (R_bipush (v := 7) hC dX11_stops_135 (by decide) ?_)
          refine R_icmp_ne hC 152 dX11_stops_137 (by decide) (fun _ => ?_) (fun h => absurd h (by decide))
          refine R_iconst (v := (-1)) hC dX11_stops_152 (by decide) ?_
          exact R_iret hC hT dX11_stops_153 rfl (tell _ 1 (by decide) rfl (by first | (have := b2i_ne h127; simp [stopZ, hT1, this]; done) | (have := b2i_0 h127; simp [stopZ, hT1, this]; done)))
        · refine R_iconst (v := 1) hC dX11_stops_130 (by decide) (R_goto hC 153 dX11_stops_131 (by decide) ?_)
          exact R_iret hC hT dX11_stops_153 rfl (tell _ 1 (by decide) rfl (by first | (have := b2i_ne h127; simp [stopZ, hT1, this]; done) | (have := b2i_0 h127; simp [stopZ, hT1, this]; done)))
      · refine R_iload_n (i := 2) hC dX11_stops_47 rfl rfl ?_
        refine R_tableIn hC 154 dX11_stops_48 (by decide) (by decide) rfl (by decide) ?_
        refine R_iload hC dX11_stops_154 rfl ?_
        refine R_if_eq hC 173 dX11_stops_156 (by decide) (fun h156 => ?_) (fun h156 => ?_)
        · refine R_iconst (v := 1) hC dX11_stops_173 (by decide) (R_goto hC 188 dX11_stops_174 (by decide) ?_)
          exact R_iret hC hT dX11_stops_188 rfl (tell _ 2 (by decide) rfl (by first | (have h3 := b2i_ne h156; have h4 : inR T.1 b := ⟨by simp only [i32_lt, Int32.toInt_zero] at h161; omega, by simp only [i32_lt, e1] at h170; omega⟩; simp [stopZ, hT1, h3, h4, h180]; done) | (have h4 : ¬ (inR T.1 a ∧ inR T.1 b) := (by first | (intro q; exact b2i_0 h156 q.1) | (rintro ⟨-, q1, q2⟩; simp only [i32_lt, Int32.toInt_zero, e1] at *; omega)); simp [stopZ, hT1, h4]; done)))
        · refine R_iload hC dX11_stops_159 rfl ?_
          refine R_if_lt hC 173 dX11_stops_161 (by decide) (fun h161 => ?_) (fun h161 => ?_)
          · refine R_iconst (v := 1) hC dX11_stops_173 (by decide) (R_goto hC 188 dX11_stops_174 (by decide) ?_)
            exact R_iret hC hT dX11_stops_188 rfl (tell _ 2 (by decide) rfl (by first | (have h3 := b2i_ne h156; have h4 : inR T.1 b := ⟨by simp only [i32_lt, Int32.toInt_zero] at h161; omega, by simp only [i32_lt, e1] at h170; omega⟩; simp [stopZ, hT1, h3, h4, h180]; done) | (have h4 : ¬ (inR T.1 a ∧ inR T.1 b) := (by first | (intro q; exact b2i_0 h156 q.1) | (rintro ⟨-, q1, q2⟩; simp only [i32_lt, Int32.toInt_zero, e1] at *; omega)); simp [stopZ, hT1, h4]; done)))
          · refine R_iload hC dX11_stops_164 rfl (R_aload_n (i := 1) hC dX11_stops_166 rfl rfl (R_bipush (v := 36) hC dX11_stops_167 (by decide) (R_aI hC dX11_stops_169 ht 36 rfl (by decide) (by decide) ?_)))
            refine R_top (y := nI T.1) hR1 ?_
            refine R_icmp_lt hC 177 dX11_stops_170 (by decide) (fun h170 => ?_) (fun h170 => ?_)
            · refine R_iload_n (i := 3) hC dX11_stops_177 rfl rfl (R_iload hC dX11_stops_178 rfl ?_)
              refine R_icmp_ne hC 187 dX11_stops_180 (by decide) (fun h180 => ?_) (fun h180 => ?_)
              · refine R_iconst (v := (-1)) hC dX11_stops_187 (by decide) ?_
                exact R_iret hC hT dX11_stops_188 rfl (tell _ 2 (by decide) rfl (by first | (have h3 := b2i_ne h156; have h4 : inR T.1 b := ⟨by simp only [i32_lt, Int32.toInt_zero] at h161; omega, by simp only [i32_lt, e1] at h170; omega⟩; simp [stopZ, hT1, h3, h4, h180]; done) | (have h4 : ¬ (inR T.1 a ∧ inR T.1 b) := (by first | (intro q; exact b2i_0 h156 q.1) | (rintro ⟨-, q1, q2⟩; simp only [i32_lt, Int32.toInt_zero, e1] at *; omega)); simp [stopZ, hT1, h4]; done)))
              · refine R_iconst (v := 2) hC dX11_stops_183 (by decide) (R_goto hC 188 dX11_stops_184 (by decide) ?_)
                exact R_iret hC hT dX11_stops_188 rfl (tell _ 2 (by decide) rfl (by first | (have h3 := b2i_ne h156; have h4 : inR T.1 b := ⟨by simp only [i32_lt, Int32.toInt_zero] at h161; omega, by simp only [i32_lt, e1] at h170; omega⟩; simp [stopZ, hT1, h3, h4, h180]; done) | (have h4 : ¬ (inR T.1 a ∧ inR T.1 b) := (by first | (intro q; exact b2i_0 h156 q.1) | (rintro ⟨-, q1, q2⟩; simp only [i32_lt, Int32.toInt_zero, e1] at *; omega)); simp [stopZ, hT1, h4]; done)))
            · refine R_iconst (v := 1) hC dX11_stops_173 (by decide) (R_goto hC 188 dX11_stops_174 (by decide) ?_)
              exact R_iret hC hT dX11_stops_188 rfl (tell _ 2 (by decide) rfl (by first | (have h3 := b2i_ne h156; have h4 : inR T.1 b := ⟨by simp only [i32_lt, Int32.toInt_zero] at h161; omega, by simp only [i32_lt, e1] at h170; omega⟩; simp [stopZ, hT1, h3, h4, h180]; done) | (have h4 : ¬ (inR T.1 a ∧ inR T.1 b) := (by first | (intro q; exact b2i_0 h156 q.1) | (rintro ⟨-, q1, q2⟩; simp only [i32_lt, Int32.toInt_zero, e1] at *; omega)); simp [stopZ, hT1, h4]; done)))
      · refine R_iload_n (i := 2) hC dX11_stops_47 rfl rfl ?_
        refine R_tableIn hC 189 dX11_stops_48 (by decide) (by decide) rfl (by decide) ?_
        refine R_iload hC dX11_stops_189 rfl ?_
        refine R_if_eq hC 208 dX11_stops_191 (by decide) (fun h191 => ?_) (fun h191 => ?_)
        · refine R_iconst (v := 1) hC dX11_stops_208 (by decide) (R_goto hC 223 dX11_stops_209 (by decide) ?_)
          exact R_iret hC hT dX11_stops_223 rfl (tell _ 3 (by decide) rfl (by first | (have h3 := b2i_ne h191; have h4 : inR T.2.1 b := ⟨by simp only [i32_lt, Int32.toInt_zero] at h196; omega, by simp only [i32_lt, e2] at h205; omega⟩; simp [stopZ, hT1, h3, h4, h215]; done) | (have h4 : ¬ (inR T.2.1 a ∧ inR T.2.1 b) := (by first | (intro q; exact b2i_0 h191 q.1) | (rintro ⟨-, q1, q2⟩; simp only [i32_lt, Int32.toInt_zero, e2] at *; omega)); simp [stopZ, hT1, h4]; done)))
        · refine R_iload hC dX11_stops_194 rfl ?_
          refine R_if_lt hC 208 dX11_stops_196 (by decide) (fun h196 => ?_) (fun h196 => ?_)
          · refine R_iconst (v := 1) hC dX11_stops_208 (by decide) (R_goto hC 223 dX11_stops_209 (by decide) ?_)
            exact R_iret hC hT dX11_stops_223 rfl (tell _ 3 (by decide) rfl (by first | (have h3 := b2i_ne h191; have h4 : inR T.2.1 b := ⟨by simp only [i32_lt, Int32.toInt_zero] at h196; omega, by simp only [i32_lt, e2] at h205; omega⟩; simp [stopZ, hT1, h3, h4, h215]; done) | (have h4 : ¬ (inR T.2.1 a ∧ inR T.2.1 b) := (by first | (intro q; exact b2i_0 h191 q.1) | (rintro ⟨-, q1, q2⟩; simp only [i32_lt, Int32.toInt_zero, e2] at *; omega)); simp [stopZ, hT1, h4]; done)))
          · refine R_iload hC dX11_stops_199 rfl (R_aload_n (i := 1) hC dX11_stops_201 rfl rfl (R_bipush (v := 37) hC dX11_stops_202 (by decide) (R_aI hC dX11_stops_204 ht 37 rfl (by decide) (by decide) ?_)))
            refine R_top (y := nI T.2.1) hC1 ?_
            refine R_icmp_lt hC 212 dX11_stops_205 (by decide) (fun h205 => ?_) (fun h205 => ?_)
            · refine R_iload_n (i := 3) hC dX11_stops_212 rfl rfl (R_iload hC dX11_stops_213 rfl ?_)
              refine R_icmp_ne hC 222 dX11_stops_215 (by decide) (fun h215 => ?_) (fun h215 => ?_)
              · refine R_iconst (v := (-1)) hC dX11_stops_222 (by decide) ?_
                exact R_iret hC hT dX11_stops_223 rfl (tell _ 3 (by decide) rfl (by first | (have h3 := b2i_ne h191; have h4 : inR T.2.1 b := ⟨by simp only [i32_lt, Int32.toInt_zero] at h196; omega, by simp only [i32_lt, e2] at h205; omega⟩; simp [stopZ, hT1, h3, h4, h215]; done) | (have h4 : ¬ (inR T.2.1 a ∧ inR T.2.1 b) := (by first | (intro q; exact b2i_0 h191 q.1) | (rintro ⟨-, q1, q2⟩; simp only [i32_lt, Int32.toInt_zero, e2] at *; omega)); simp [stopZ, hT1, h4]; done)))
              · refine R_iconst (v := 2) hC dX11_stops_218 (by decide) (R_goto hC 223 dX11_stops_219 (by decide) ?_)
                exact R_iret hC hT dX11_stops_223 rfl (tell _ 3 (by decide) rfl (by first | (have h3 := b2i_ne h191; have h4 : inR T.2.1 b := ⟨by simp only [i32_lt, Int32.toInt_zero] at h196; omega, by simp only [i32_lt, e2] at h205; omega⟩; simp [stopZ, hT1, h3, h4, h215]; done) | (have h4 : ¬ (inR T.2.1 a ∧ inR T.2.1 b) := (by first | (intro q; exact b2i_0 h191 q.1) | (rintro ⟨-, q1, q2⟩; simp only [i32_lt, Int32.toInt_zero, e2] at *; omega)); simp [stopZ, hT1, h4]; done)))
            · refine R_iconst (v := 1) hC dX11_stops_208 (by decide) (R_goto hC 223 dX11_stops_209 (by decide) ?_)
              exact R_iret hC hT dX11_stops_223 rfl (tell _ 3 (by decide) rfl (by first | (have h3 := b2i_ne h191; have h4 : inR T.2.1 b := ⟨by simp only [i32_lt, Int32.toInt_zero] at h196; omega, by simp only [i32_lt, e2] at h205; omega⟩; simp [stopZ, hT1, h3, h4, h215]; done) | (have h4 : ¬ (inR T.2.1 a ∧ inR T.2.1 b) := (by first | (intro q; exact b2i_0 h191 q.1) | (rintro ⟨-, q1, q2⟩; simp only [i32_lt, Int32.toInt_zero, e2] at *; omega)); simp [stopZ, hT1, h4]; done)))
      · refine R_iload_n (i := 2) hC dX11_stops_47 rfl rfl ?_
        refine R_tableIn hC 224 dX11_stops_48 (by decide) (by decide) rfl (by decide) ?_
        refine R_aload_n (i := 0) hC dX11_stops_224 rfl rfl (R_aload_n (i := 1) hC dX11_stops_225 rfl rfl (R_iload_n (i := 3) hC dX11_stops_226 rfl rfl (R_iload hC dX11_stops_227 rfl ?_)))
        refine R_V3i hC hR dX11_stops_229 MV_X11_isCell ml_X11_158 L_M rfl (s_isCell _ _ _ ht _ _) (by decide) ⟨by decide, by decide⟩ (Nat.le_of_ble_eq_true rfl) ?_
        by_cases hin : inT (σ.2.2 t) a b
        · rw [b2i_t hin]
          obtain ⟨i, j, rfl, rfl, hi, hj⟩ := hT0.in hin
          have i1 : inR T.1 (nI i) := inR_n hi hR6
          have i2 : inR T.2.1 (nI j) := inR_n hj hC6
          have c1 : (nI i).toNatClampNeg = i := nI_clamp (by omega)
          have c2 : (nI j).toNatClampNeg = j := nI_clamp (by omega)
          refine R_if_ne hC 239 dX11_stops_232 (by decide) (fun _ => ?_) (fun h => absurd h (by decide))
          refine R_aload_n (i := 1) hC dX11_stops_239 rfl rfl (R_bipush (v := 6) hC dX11_stops_240 (by decide) (R_iload_n (i := 3) hC dX11_stops_242 rfl rfl (R_imul hC dX11_stops_243 (R_iload hC dX11_stops_244 rfl (R_iadd hC dX11_stops_246 ?_)))))
          refine R_aI hC dX11_stops_247 ht (6 * i + j) (n6 i j) (by omega) (by decide) ?_
          refine R_top (hE i j hi hj).1 ?_
          refine R_if_ne hC 255 dX11_stops_248 (by decide) (fun h248 => ?_) (fun h248 => ?_)
          · refine R_aload_n (i := 0) hC dX11_stops_255 rfl rfl (R_aload_n (i := 1) hC dX11_stops_256 rfl rfl (R_iload_n (i := 3) hC dX11_stops_257 rfl rfl (R_iload hC dX11_stops_258 rfl ?_)))
            refine R_V3g hC hR dX11_stops_260 MV_X11_canTurn ml_X11_174 L_M rfl (s_canTurn _ _ _ ht hne T hT0 i j hi hj) (by decide) ⟨by decide, by decide⟩ (Nat.le_of_ble_eq_true rfl) (fun r w1 hq => ?_)
            obtain ⟨g, rfl, hq⟩ := hq
            have tell2 : ∀ v : Int32, v = stopZ T 4 (nI i) (nI j) → (fun (q : Option Value) (w : aW) => ∃ g : Nat → Int32, w = wd (sA σ i_m_trial g) x ∧ ((∃ k : Nat, k ≤ 7 ∧ nI 4 = nI k ∧ q = some (.int (stopZ T k (nI i) (nI j)))) ∨ (¬ (0 ≤ (nI 4).toInt ∧ (nI 4).toInt ≤ 7) ∧ q = some (.int (stopZ T 8 (nI i) (nI j)))))) (some (.int v)) (wd (sA σ i_m_trial g) x) := fun v hv => ⟨_, rfl, Or.inl ⟨4, by decide, rfl, by rw [hv]⟩⟩
            rcases hq with ⟨hyes, rfl, -⟩ | ⟨hno, rfl⟩
            · refine R_if_eq hC 270 dX11_stops_263 (by decide) (fun h => absurd h (by decide)) (fun _ => ?_)
              refine R_iconst (v := (-1)) hC dX11_stops_266 (by decide) (R_goto hC 271 dX11_stops_267 (by decide) ?_)
              exact R_iret hC hT dX11_stops_271 rfl (tell2 _ (st_4c hT1 ⟨i1, i2⟩ (by rw [c1, c2]; exact h248) (by rw [c1, c2]; exact hyes)).symm)
            · refine R_if_eq hC 270 dX11_stops_263 (by decide) (fun _ => ?_) (fun h => absurd rfl h)
              refine R_iconst (v := 3) hC dX11_stops_270 (by decide) ?_
              exact R_iret hC hT dX11_stops_271 rfl (tell2 _ (st_4d hT1 ⟨i1, i2⟩ (by rw [c1, c2]; exact h248) (by rw [c1, c2]; exact hno)).symm)
            skip
          · refine R_iconst (v := 2) hC dX11_stops_251 (by decide) (R_goto hC 271 dX11_stops_252 (by decide) ?_)
            exact R_iret hC hT dX11_stops_271 rfl (by first | exact tell _ 4 (by decide) rfl (st_4b hT1 ⟨i1, i2⟩ (by rw [c1, c2]; exact h248)).symm | skip)
        · rw [b2i_f hin]
          refine R_if_ne hC 239 dX11_stops_232 (by decide) (fun h => absurd rfl h) (fun _ => ?_)
          refine R_iconst (v := 1) hC dX11_stops_235 (by decide) (R_goto hC 271 dX11_stops_236 (by decide) ?_)
          exact R_iret hC hT dX11_stops_271 rfl (tell _ 4 (by decide) rfl (st_4a hT1 (fun q => hin (hT0.inT_iff.mpr q))).symm)
      · refine R_iload_n (i := 2) hC dX11_stops_47 rfl rfl ?_
        refine R_tableIn hC 272 dX11_stops_48 (by decide) (by decide) rfl (by decide) ?_
        refine R_iconst (v := (-1)) hC dX11_stops_272 (by decide) ?_
        exact R_iret hC hT dX11_stops_273 rfl (tell _ 5 (by decide) rfl (by simp [stopZ, hT1]))
      · refine R_iload_n (i := 2) hC dX11_stops_47 rfl rfl ?_
        refine R_tableIn hC 96 dX11_stops_48 (by decide) (by decide) rfl (by decide) ?_
        refine R_iload hC dX11_stops_96 rfl ?_
        refine R_if_ne hC 105 dX11_stops_98 (by decide) (fun h98 => ?_) (fun h98 => ?_)
        · refine R_iload_n (i := 2) hC dX11_stops_105 rfl rfl (R_bipush (v := 6) hC dX11_stops_106 (by decide) ?_)
          refine R_icmp_ne hC 123 dX11_stops_108 (by decide) (fun h => absurd (by decide) h) (fun _ => ?_)
          refine R_aload_n (i := 1) hC dX11_stops_111 rfl rfl (R_bipush (v := 36) hC dX11_stops_112 (by decide) (R_aI hC dX11_stops_114 ht 36 rfl (by decide) (by decide) ?_))
          refine R_top (y := nI T.1) hR1 ?_
          refine R_iconst (v := 1) hC dX11_stops_115 (by decide) ?_
          refine R_icmp_ne hC 123 dX11_stops_116 (by decide) (fun h116 => ?_) (fun h116 => ?_)
          · refine R_iconst (v := (-1)) hC dX11_stops_123 (by decide) ?_
            exact R_iret hC hT dX11_stops_124 rfl (tell _ 6 (by decide) rfl (by first | exact (st_6a hT1 (b2i_0 h98)).symm | (have h4 : (nI T.1 = (1 : Int32)) ↔ T.1 = 1 := nI_eq (b := 1) (by omega) (by decide); rw [h4] at h116; first | exact (st_6b hT1 (b2i_ne h98) h116).symm | exact (st_6c hT1 (b2i_ne h98) h116).symm)))
          · refine R_iconst (v := 3) hC dX11_stops_119 (by decide) (R_goto hC 124 dX11_stops_120 (by decide) ?_)
            exact R_iret hC hT dX11_stops_124 rfl (tell _ 6 (by decide) rfl (by first | exact (st_6a hT1 (b2i_0 h98)).symm | (have h4 : (nI T.1 = (1 : Int32)) ↔ T.1 = 1 := nI_eq (b := 1) (by omega) (by decide); rw [h4] at h116; first | exact (st_6b hT1 (b2i_ne h98) h116).symm | exact (st_6c hT1 (b2i_ne h98) h116).symm)))
        · refine R_iconst (v := 1) hC dX11_stops_101 (by decide) (R_goto hC 124 dX11_stops_102 (by decide) ?_)
          exact R_iret hC hT dX11_stops_124 rfl (tell _ 6 (by decide) rfl (by first | exact (st_6a hT1 (b2i_0 h98)).symm | (have h4 : (nI T.1 = (1 : Int32)) ↔ T.1 = 1 := nI_eq (b := 1) (by omega) (by decide); rw [h4] at h116; first | exact (st_6b hT1 (b2i_ne h98) h116).symm | exact (st_6c hT1 (b2i_ne h98) h116).symm)))
      · refine R_iload_n (i := 2) hC dX11_stops_47 rfl rfl ?_
        refine R_tableIn hC 125 dX11_stops_48 (by decide) (by decide) rfl (by decide) ?_
        refine R_iload hC dX11_stops_125 rfl ?_
        refine R_if_ne hC 134 dX11_stops_127 (by decide) (fun h127 => ?_) (fun h127 => ?_)
        · refine R_iload_n (i := 2) hC dX11_stops_134 rfl rfl (R_bipush (v := 7) hC dX11_stops_135 (by decide) ?_)
          refine R_icmp_ne hC 152 dX11_stops_137 (by decide) (fun h => absurd (by decide) h) (fun _ => ?_)
          refine R_aload_n (i := 1) hC dX11_stops_140 rfl rfl (R_bipush (v := 37) hC dX11_stops_141 (by decide) (R_aI hC dX11_stops_143 ht 37 rfl (by decide) (by decide) ?_))
          refine R_top (y := nI T.2.1) hC1 ?_
          refine R_iconst (v := 1) hC dX11_stops_144 (by decide) ?_
          refine R_icmp_ne hC 152 dX11_stops_145 (by decide) (fun h145 => ?_) (fun h145 => ?_)
          · refine R_iconst (v := (-1)) hC dX11_stops_152 (by decide) ?_
            exact R_iret hC hT dX11_stops_153 rfl (tell _ 7 (by decide) rfl (by first | exact (st_7a hT1 (b2i_0 h127)).symm | (have h4 : (nI T.2.1 = (1 : Int32)) ↔ T.2.1 = 1 := nI_eq (b := 1) (by omega) (by decide); rw [h4] at h145; first | exact (st_7b hT1 (b2i_ne h127) h145).symm | exact (st_7c hT1 (b2i_ne h127) h145).symm)))
          · refine R_iconst (v := 3) hC dX11_stops_148 (by decide) (R_goto hC 153 dX11_stops_149 (by decide) ?_)
            exact R_iret hC hT dX11_stops_153 rfl (tell _ 7 (by decide) rfl (by first | exact (st_7a hT1 (b2i_0 h127)).symm | (have h4 : (nI T.2.1 = (1 : Int32)) ↔ T.2.1 = 1 := nI_eq (b := 1) (by omega) (by decide); rw [h4] at h145; first | exact (st_7b hT1 (b2i_ne h127) h145).symm | exact (st_7c hT1 (b2i_ne h127) h145).symm)))
        · refine R_iconst (v := 1) hC dX11_stops_130 (by decide) (R_goto hC 153 dX11_stops_131 (by decide) ?_)
          exact R_iret hC hT dX11_stops_153 rfl (tell _ 7 (by decide) rfl (by first | exact (st_7a hT1 (b2i_0 h127)).symm | (have h4 : (nI T.2.1 = (1 : Int32)) ↔ T.2.1 = 1 := nI_eq (b := 1) (by omega) (by decide); rw [h4] at h145; first | exact (st_7b hT1 (b2i_ne h127) h145).symm | exact (st_7c hT1 (b2i_ne h127) h145).symm)))
    · refine R_iload_n (i := 2) hC dX11_stops_47 rfl rfl ?_
      refine R_tableOut hC 274 dX11_stops_48 (by omega) (by decide) ?_
      refine R_iconst (v := 1) hC dX11_stops_274 (by decide) ?_
      exact R_iret hC hT dX11_stops_275 rfl ⟨_, hself, Or.inr ⟨hkd, by simp [stopZ, hT1]⟩⟩
  -- the two tests
  have k2 : ¬ T.1 = 0 → ∀ u6, Rw mX11_stops X 28 [some (.ref i_M), some (.ref t), some (.int kd), some (.int a), some (.int b), some (.int (b2i (inR T.1 a))), u6] [] (wd σ x) 0 0 := by
    intro hT1 u6
    have k3 : Rw mX11_stops X 45 [some (.ref i_M), some (.ref t), some (.int kd), some (.int a), some (.int b), some (.int (b2i (inR T.1 a))), u6] [.int (b2i (inR T.2.1 a))] (wd σ x) 0 0 := by
      refine R_istore hC dX11_stops_45 (by decide) rfl ?_
      exact sw hT1
    refine R_iload_n (i := 3) hC dX11_stops_28 rfl rfl ?_
    refine R_if_lt hC 44 dX11_stops_29 (by decide) (fun h29 => ?_) (fun h29 => ?_)
    · refine R_iconst (v := 0) hC dX11_stops_44 (by decide) ?_
      (first | (refine R_top (y := b2i (inR T.2.1 a)) (by rw [b2i_t ⟨by simp only [i32_lt, i32_ge, Int32.toInt_zero, e2] at *; omega, by simp only [i32_lt, i32_ge, Int32.toInt_zero, e2] at *; omega⟩]) ?_; exact k3) | (refine R_top (y := b2i (inR T.2.1 a)) (by rw [b2i_f]; rintro ⟨q1, q2⟩; simp only [i32_lt, i32_ge, Int32.toInt_zero, e2] at *; omega) ?_; exact k3))
    · refine R_iload_n (i := 3) hC dX11_stops_32 rfl rfl (R_aload_n (i := 1) hC dX11_stops_33 rfl rfl (R_bipush (v := 37) hC dX11_stops_34 (by decide) (R_aI hC dX11_stops_36 ht 37 rfl (by decide) (by decide) ?_)))
      refine R_top (y := nI T.2.1) hC1 ?_
      refine R_icmp_ge hC 44 dX11_stops_37 (by decide) (fun h37 => ?_) (fun h37 => ?_)
      · refine R_iconst (v := 0) hC dX11_stops_44 (by decide) ?_
        (first | (refine R_top (y := b2i (inR T.2.1 a)) (by rw [b2i_t ⟨by simp only [i32_lt, i32_ge, Int32.toInt_zero, e2] at *; omega, by simp only [i32_lt, i32_ge, Int32.toInt_zero, e2] at *; omega⟩]) ?_; exact k3) | (refine R_top (y := b2i (inR T.2.1 a)) (by rw [b2i_f]; rintro ⟨q1, q2⟩; simp only [i32_lt, i32_ge, Int32.toInt_zero, e2] at *; omega) ?_; exact k3))
      · refine R_iconst (v := 1) hC dX11_stops_40 (by decide) (R_goto hC 45 dX11_stops_41 (by decide) ?_)
        (first | (refine R_top (y := b2i (inR T.2.1 a)) (by rw [b2i_t ⟨by simp only [i32_lt, i32_ge, Int32.toInt_zero, e2] at *; omega, by simp only [i32_lt, i32_ge, Int32.toInt_zero, e2] at *; omega⟩]) ?_; exact k3) | (refine R_top (y := b2i (inR T.2.1 a)) (by rw [b2i_f]; rintro ⟨q1, q2⟩; simp only [i32_lt, i32_ge, Int32.toInt_zero, e2] at *; omega) ?_; exact k3))
  have k1 : ¬ T.1 = 0 → ∀ u5 u6, Rw mX11_stops X 26 [some (.ref i_M), some (.ref t), some (.int kd), some (.int a), some (.int b), u5, u6] [.int (b2i (inR T.1 a))] (wd σ x) 0 0 := by
    intro hT1 u5 u6
    refine R_istore hC dX11_stops_26 (by decide) rfl ?_
    exact k2 hT1 _
  refine R_aload_n (i := 1) hC dX11_stops_0 rfl rfl (R_bipush (v := 36) hC dX11_stops_1 (by decide) (R_aI hC dX11_stops_3 ht 36 rfl (by decide) (by decide) ?_))
  refine R_top (y := nI T.1) hR1 ?_
  refine R_if_ne hC 9 dX11_stops_4 (by decide) (fun h4 => ?_) (fun h4 => ?_)
  · have hT1 : ¬ T.1 = 0 := fun h => h4 (by rw [h]; rfl)
    refine R_iload_n (i := 3) hC dX11_stops_9 rfl rfl ?_
    refine R_if_lt hC 25 dX11_stops_10 (by decide) (fun h10 => ?_) (fun h10 => ?_)
    · refine R_iconst (v := 0) hC dX11_stops_25 (by decide) ?_
      (first | (refine R_top (y := b2i (inR T.1 a)) (by rw [b2i_t ⟨by simp only [i32_lt, i32_ge, Int32.toInt_zero, e1] at *; omega, by simp only [i32_lt, i32_ge, Int32.toInt_zero, e1] at *; omega⟩]) ?_; exact k1 hT1 _ _) | (refine R_top (y := b2i (inR T.1 a)) (by rw [b2i_f]; rintro ⟨q1, q2⟩; simp only [i32_lt, i32_ge, Int32.toInt_zero, e1] at *; omega) ?_; exact k1 hT1 _ _))
    · refine R_iload_n (i := 3) hC dX11_stops_13 rfl rfl (R_aload_n (i := 1) hC dX11_stops_14 rfl rfl (R_bipush (v := 36) hC dX11_stops_15 (by decide) (R_aI hC dX11_stops_17 ht 36 rfl (by decide) (by decide) ?_)))
      refine R_top (y := nI T.1) hR1 ?_
      refine R_icmp_ge hC 25 dX11_stops_18 (by decide) (fun h18 => ?_) (fun h18 => ?_)
      · refine R_iconst (v := 0) hC dX11_stops_25 (by decide) ?_
        (first | (refine R_top (y := b2i (inR T.1 a)) (by rw [b2i_t ⟨by simp only [i32_lt, i32_ge, Int32.toInt_zero, e1] at *; omega, by simp only [i32_lt, i32_ge, Int32.toInt_zero, e1] at *; omega⟩]) ?_; exact k1 hT1 _ _) | (refine R_top (y := b2i (inR T.1 a)) (by rw [b2i_f]; rintro ⟨q1, q2⟩; simp only [i32_lt, i32_ge, Int32.toInt_zero, e1] at *; omega) ?_; exact k1 hT1 _ _))
      · refine R_iconst (v := 1) hC dX11_stops_21 (by decide) (R_goto hC 26 dX11_stops_22 (by decide) ?_)
        (first | (refine R_top (y := b2i (inR T.1 a)) (by rw [b2i_t ⟨by simp only [i32_lt, i32_ge, Int32.toInt_zero, e1] at *; omega, by simp only [i32_lt, i32_ge, Int32.toInt_zero, e1] at *; omega⟩]) ?_; exact k1 hT1 _ _) | (refine R_top (y := b2i (inR T.1 a)) (by rw [b2i_f]; rintro ⟨q1, q2⟩; simp only [i32_lt, i32_ge, Int32.toInt_zero, e1] at *; omega) ?_; exact k1 hT1 _ _))
  · refine R_iconst (v := 0) hC dX11_stops_7 (by decide) ?_
    exact R_iret hC hT dX11_stops_8 rfl (by
    have h0 : T.1 = 0 := (nI_eq (b := 0) (by omega) (by decide)).mp h4
    by_cases hkd : 0 ≤ kd.toInt ∧ kd.toInt ≤ 7
    · obtain ⟨k, rfl, hk, -⟩ := i32_nI hkd.1
      exact ⟨_, hself, Or.inl ⟨k, by omega, rfl, by simp [stopZ, h0]⟩⟩
    · exact ⟨_, hself, Or.inr ⟨hkd, by simp [stopZ, h0]⟩⟩)
