/-! ===== Math.abs, min, max ===== -/
theorem mk_ini : Cond.initialized "java/lang/Math" ∈ lw_gl := gmt tc_1 15 rfl (by decide +kernel)
theorem mk_abs : Cond.static Lib.Math.abs.name ∈ lw_gl ∧ Cond.code Lib.Math.abs.name Lib.Math.abs.code 1 (some .int) ∈ lw_gl := ⟨gmt tc_6 225 rfl (by decide +kernel), gmt tc_6 226 rfl (by decide +kernel)⟩
theorem mk_min : Cond.static Lib.Math.min.name ∈ lw_gl ∧ Cond.code Lib.Math.min.name Lib.Math.min.code 2 (some .int) ∈ lw_gl := ⟨gmt tc_2 179 rfl (by decide +kernel), gmt tc_2 180 rfl (by decide +kernel)⟩
theorem mk_max : Cond.static Lib.Math.max.name ∈ lw_gl ∧ Cond.code Lib.Math.max.name Lib.Math.max.code 2 (some .int) ∈ lw_gl := ⟨gmt tc_2 176 rfl (by decide +kernel), gmt tc_2 177 rfl (by decide +kernel)⟩
theorem kl_X11_218 : Cond.methodLink RX11 218 Lib.Math.abs.name ∈ lw_gl := gmt tc_6 224 rfl (by decide +kernel)
theorem kl_X11_223 : Cond.methodLink RX11 223 Lib.Math.min.name ∈ lw_gl := gmt tc_6 227 rfl (by decide +kernel)
theorem kl_X11_304 : Cond.methodLink RX11 304 Lib.Math.max.name ∈ lw_gl := gmt tc_7 127 rfl (by decide +kernel)
theorem kl_X1_72 : Cond.methodLink RX1 72 Lib.Math.max.name ∈ lw_gl := gmt tc_5 4 rfl (by decide +kernel)
section MRULES
variable {m : mi} {X : aX} {pc : Nat} {ls : List (Option Value)} {st : List Value} {w : aW} {cl sl : Nat}
theorem R_abs (hC : Cx m X) {idx dd mcX msX : Nat} {x : Int32} (hR : Rd X dd mcX msX) (hd : decode m.2.1 pc = .ok (.invokestatic idx, 3)) (hlink : Cond.methodLink m.1.cls idx Lib.Math.abs.name ∈ lw_gl) (hdd : 1 ≤ dd) (hroom : cl ≤ mcX ∧ sl ≤ msX) (hcat : (st.map fun v => v.category).sum ≤ 8)
    (kk : Rw m X (pc + 3) ls (.int (if 0 ≤ x then x else 0 - x) :: st) w cl sl) : Rw m X pc ls (.int x :: st) w cl sl := by
  obtain ⟨p, l, e, R, s, mm, args, below, meth, c, Z, V⟩ := X
  obtain ⟨hV, hx, hb, hml, hr, hlk, hown, hts, hK, hnm⟩ := hC
  obtain ⟨r1, r2, r3, r4⟩ := hR
  intro H locs la hH hL hl
  exact va_mabs hx hb (by rw [hml]; exact hl.1.symm) hown (gl_ts hts hlink) (gl_ts hts mk_abs.1) (gl_ts hts mk_ini) (gl_ts hts mk_abs.2) (by omega) (by rw [cat_map]; omega) (by omega) (by omega) hd (kk H locs la hH hL hl)
theorem R_min (hC : Cx m X) {idx dd mcX msX : Nat} {x y : Int32} (hR : Rd X dd mcX msX) (hd : decode m.2.1 pc = .ok (.invokestatic idx, 3)) (hlink : Cond.methodLink m.1.cls idx Lib.Math.min.name ∈ lw_gl) (hdd : 1 ≤ dd) (hroom : cl ≤ mcX ∧ sl ≤ msX) (hcat : (st.map fun v => v.category).sum ≤ 8)
    (kk : Rw m X (pc + 3) ls (.int (if y < x then y else x) :: st) w cl sl) : Rw m X pc ls (.int y :: .int x :: st) w cl sl := by
  obtain ⟨p, l, e, R, s, mm, args, below, meth, c, Z, V⟩ := X
  obtain ⟨hV, hx, hb, hml, hr, hlk, hown, hts, hK, hnm⟩ := hC
  obtain ⟨r1, r2, r3, r4⟩ := hR
  intro H locs la hH hL hl
  exact va_mmin hx hb (by rw [hml]; exact hl.1.symm) hown (gl_ts hts hlink) (gl_ts hts mk_min.1) (gl_ts hts mk_ini) (gl_ts hts mk_min.2) (by omega) (by rw [cat_map]; omega) (by omega) (by omega) hd (kk H locs la hH hL hl)
theorem R_max (hC : Cx m X) {idx dd mcX msX : Nat} {x y : Int32} (hR : Rd X dd mcX msX) (hd : decode m.2.1 pc = .ok (.invokestatic idx, 3)) (hlink : Cond.methodLink m.1.cls idx Lib.Math.max.name ∈ lw_gl) (hdd : 1 ≤ dd) (hroom : cl ≤ mcX ∧ sl ≤ msX) (hcat : (st.map fun v => v.category).sum ≤ 8)
    (kk : Rw m X (pc + 3) ls (.int (if x < y then y else x) :: st) w cl sl) : Rw m X pc ls (.int y :: .int x :: st) w cl sl := by
  obtain ⟨p, l, e, R, s, mm, args, below, meth, c, Z, V⟩ := X
  obtain ⟨hV, hx, hb, hml, hr, hlk, hown, hts, hK, hnm⟩ := hC
  obtain ⟨r1, r2, r3, r4⟩ := hR
  intro H locs la hH hL hl
  exact va_mmax hx hb (by rw [hml]; exact hl.1.symm) hown (gl_ts hts hlink) (gl_ts hts mk_max.1) (gl_ts hts mk_ini) (gl_ts hts mk_max.2) (by omega) (by rw [cat_map]; omega) (by omega) (by omega) hd (kk H locs la hH hL hl)
end MRULES
/-! ===== folds and searches ===== -/
/-- for i = a .. b - 1: v = h i v -/
def fo {A : Type} (h : Nat → A → A) (a : Nat) : Nat → A → A
  | 0, v => v
  | b + 1, v => if a ≤ b then h b (fo h a b v) else v
theorem fo_0 {A : Type} (h : Nat → A → A) {a b : Nat} (hb : b ≤ a) (v : A) : fo h a b v = v := by
  cases b with
  | zero => rfl
  | succ b => rw [fo, if_neg (by omega)]
theorem fo_s {A : Type} (h : Nat → A → A) {a b : Nat} (hb : a ≤ b) (v : A) : fo h a (b + 1) v = h b (fo h a b v) := by rw [fo, if_pos hb]
theorem fo_id {A : Type} {h : Nat → A → A} {a : Nat} : ∀ b, (∀ i v, a ≤ i → i < b → h i v = v) → ∀ v, fo h a b v = v
  | 0, _, _ => rfl
  | b + 1, e, v => by
    by_cases q : a ≤ b
    · rw [fo_s h q, fo_id b (fun i v h1 h2 => e i v h1 (by omega)) v, e b v q (by omega)]
    · rw [fo_0 h (by omega)]
theorem fo_ext {A : Type} {h k : Nat → A → A} {a : Nat} : ∀ b, (∀ i v, a ≤ i → i < b → h i v = k i v) → ∀ v, fo h a b v = fo k a b v
  | 0, _, _ => rfl
  | b + 1, e, v => by
    by_cases q : a ≤ b
    · rw [fo_s h q, fo_s k q, fo_ext b (fun i v h1 h2 => e i v h1 (by omega)) v, e b _ q (by omega)]
    · rw [fo_0 h (by omega), fo_0 k (by omega)]
/-- rows and columns from 1 on -/
def fo2 {A : Type} (h : Nat → Nat → A → A) (R C : Nat) (v : A) : A := fo (fun r v => fo (h r) 1 C v) 1 R v
/-- the first of i = a .. a + n - 1 that answers -/
def fs {A : Type} (h : Nat → Option A) : Nat → Nat → Option A
  | _, 0 => none
  | a, n + 1 => match h a with
    | some v => some v
    | none => fs h (a + 1) n
theorem fs_n {A : Type} {h : Nat → Option A} {a b : Nat} (hb : a < b) (e : h a = none) : fs h a (b - a) = fs h (a + 1) (b - (a + 1)) := by
  rw [show b - a = (b - (a + 1)) + 1 by omega, fs, e]
theorem fs_y {A : Type} {h : Nat → Option A} {a b : Nat} {v : A} (hb : a < b) (e : h a = some v) : fs h a (b - a) = some v := by
  rw [show b - a = (b - (a + 1)) + 1 by omega, fs, e]
theorem fs_0 {A : Type} {h : Nat → Option A} {a b : Nat} (hb : b ≤ a) : fs h a (b - a) = none := by
  rw [show b - a = 0 by omega, fs]
/-! ===== bounds ===== -/
def bd (B : Int) (v : Int32) : Prop := -B ≤ v.toInt ∧ v.toInt ≤ B
theorem i32_add {a b : Int32} (h1 : -2147483648 ≤ a.toInt + b.toInt) (h2 : a.toInt + b.toInt < 2147483648) : (a + b).toInt = a.toInt + b.toInt := by
  rw [Int32.toInt_add, Int.bmod_def]
  split <;> omega
theorem i32_neg {a : Int32} (h : -2147483648 < a.toInt) : (-a).toInt = -a.toInt := by
  have := Int32.toInt_lt a
  rw [Int32.toInt_neg, Int.bmod_def]
  split <;> omega
theorem bd.add {A B : Int} {v u : Int32} (h : bd A v) (k : bd B u) (hl : A + B < 2147483648) : bd (A + B) (v + u) := by
  obtain ⟨h1, h2⟩ := h
  obtain ⟨k1, k2⟩ := k
  unfold bd
  rw [i32_add (by omega) (by omega)]
  omega
theorem bd.neg {A : Int} {v : Int32} (h : bd A v) (hl : A < 2147483648) : bd A (-v) := by
  obtain ⟨h1, h2⟩ := h
  unfold bd
  rw [i32_neg (by omega)]
  omega
theorem bd.z {A : Int} (h : 0 ≤ A) : bd A 0 := by unfold bd; simp; omega
theorem bd.mul {A : Int} {v u : Int32} (k : bd A u) (hA : 0 ≤ A) (hl : A < 2147483648) (h : sml v) : bd A (v * u) := by
  rcases h with rfl | rfl | rfl
  · rw [show (-1 : Int32) * u = -u by rw [Int32.neg_mul, Int32.one_mul]]; exact k.neg hl
  · rw [Int32.zero_mul]; exact bd.z hA
  · rw [Int32.one_mul]; exact k
theorem sm_bd {g : Nat → Int32} {A : Int} (hA : 0 ≤ A) : ∀ n : Nat, (n : Int) * A < 2147483648 → (∀ c, c < n → bd A (g c)) → bd (n * A) (sm g n)
  | 0, _, _ => by simpa [sm] using bd.z (A := 0) (by decide)
  | n + 1, hl, e => by
    have e1 : ((n + 1 : Nat) : Int) * A = n * A + A := by rw [Int.natCast_add, Int.add_mul]; simp
    rw [e1] at hl ⊢
    rw [sm]
    exact (sm_bd hA n (by omega) (fun c hc => e c (by omega))).add (e n (by omega)) hl
theorem clr_sub : ∀ s, s < 64 → ∀ i, i < 6 → clr s i < 64 := by decide +kernel
theorem dT_bd {f : Nat → Nat → Int32} : ∀ n, n ≤ 6 → ∀ R C, R < 64 → C < 64 → (∀ i c, i < 6 → c < 6 → R.testBit i = true → C.testBit c = true → sml (f i c)) → bd ((6 : Int) ^ n) (dT f n R C)
  | 0, _, _, _, _, _, _ => by show bd 1 1; unfold bd; decide
  | n + 1, hn, R, C, hR, hC, hf => by
    rw [dT]
    have p1 : (0 : Int) ≤ 6 ^ n := Int.pow_nonneg (by decide)
    have p2 : (6 : Int) ^ n ≤ 6 ^ 5 := by
      rcases (by omega : n = 0 ∨ n = 1 ∨ n = 2 ∨ n = 3 ∨ n = 4 ∨ n = 5) with rfl | rfl | rfl | rfl | rfl | rfl <;> decide
    have p3 : (6 : Int) ^ 5 = 7776 := by decide
    have p4 : (6 : Int) ^ (n + 1) = 6 ^ n * 6 := Int.pow_succ 6 n
    split
    · rename_i hb
      have := sm_bd (g := fun c => tmD (fun c => f n c * dT f n (clr R n) (clr C c)) C c) p1 6 (by omega) (fun c hc => by
        show bd _ (if C.testBit c then _ else (0 : Int32))
        split
        · rename_i hc2
          have ih := dT_bd n (by omega) (clr R n) (clr C c) (clr_sub R hR n (by omega)) (clr_sub C hC c hc) (fun i c2 hi hc2 h1 h2 => hf i c2 hi hc2 (by rw [clr_o R hR n (by omega) i hi] at h1; simp at h1; exact h1.1) (by rw [clr_o C hC c hc c2 hc2] at h2; simp at h2; exact h2.1))
          have b1 := ih.mul p1 (by omega) (hf n c (by omega) hc hb hc2)
          split
          · exact b1
          · exact b1.neg (by omega)
        · exact bd.z p1)
      rw [p4, Int.mul_comm]
      exact this
    · have ih := dT_bd n (by omega) R C hR hC hf
      unfold bd at ih ⊢
      omega
theorem dD_bd {T : tb} (ok : tbOK T) {R C : Nat} (hR : R < 2 ^ T.1) (hC : C < 2 ^ T.2.1) : bd 46656 (dD T.2.2 R C) := by
  obtain ⟨o1, o2, -, o4⟩ := ok
  have p1 := pw6 o1
  have p2 := pw6 o2
  refine dT_bd 6 (by decide) R C (by omega) (by omega) (fun i c hi hc h1 h2 => o4 i c ?_ ?_)
  · rcases Nat.lt_or_ge i T.1 with h | h
    · exact h
    · exact absurd h1 (bit_hi R (by omega) _ o1 hR i hi h)
  · rcases Nat.lt_or_ge c T.2.1 with h | h
    · exact h
    · exact absurd h2 (bit_hi C (by omega) _ o2 hC c hc h)
def sortZ (v : Int32) : Int32 := if v = 0 then 0 else if v = 1 ∨ v = -1 then 1 else 2
theorem sort_eq {v : Int32} (h : bd 46656 v) : (if (if 0 ≤ v then v else 0 - v) < 2 then (if 0 ≤ v then v else 0 - v) else 2) = sortZ v := by
  unfold sortZ
  by_cases e0 : v = 0
  · subst e0; decide
  by_cases e1 : v = 1
  · subst e1; decide
  by_cases e2 : v = -1
  · subst e2; decide
  have n0 : v.toInt ≠ 0 := fun z => e0 (Int32.toInt_inj.mp z)
  have n1 : v.toInt ≠ 1 := fun z => e1 (Int32.toInt_inj.mp z)
  have n2 : v.toInt ≠ -1 := fun z => e2 (Int32.toInt_inj.mp z)
  have t2 : (2 : Int32).toInt = 2 := by decide
  obtain ⟨b1, b2⟩ := h
  have hA : ¬ (if 0 ≤ v then v else 0 - v) < 2 := by
    by_cases hv : 0 ≤ v
    · rw [if_pos hv]
      rw [i32_ge] at hv
      rw [i32_lt, t2]
      simp at hv
      omega
    · rw [if_neg hv, i32_lt, t2, Int32.zero_sub, i32_neg (by omega)]
      rw [i32_ge] at hv
      simp at hv
      omega
  rw [if_neg hA, if_neg e0, if_neg (fun z => z.elim e1 e2)]
/-! ===== totality ===== -/
/-- rows and columns of a square -/
def sq (T : tb) (R C : Nat) : Prop := 1 ≤ R ∧ R < 2 ^ T.1 ∧ 1 ≤ C ∧ C < 2 ^ T.2.1 ∧ pc6 R = pc6 C
def tot (T : tb) : Prop := ∀ R C, sq T R C → sml (dD T.2.2 R C)
theorem s_isTotal (σ : sg) (x : aW) (t : Nat) (ht : LY t (0, 38, [])) (hne : t ≠ i_m_dets) (T : tb) (hT0 : TB (σ.2.2 t) T) :
    Mt mX11_isTotal 2 0 0 [.ref i_M, .ref t] (wd σ x) (fun q w => q = some (.int (b2i (tot T))) ∧ ∃ g, w = wd (sA σ i_m_dets g) x ∧ DT g T) := by
  refine Mt.of MI_X11_isTotal (Nat.le_of_ble_eq_true rfl) (fun X hC hR hT => ?_)
  obtain ⟨hR1, hC1, hR6, hC6, hE⟩ := id hT0
  have p1 := pw6 hR6
  have p2 := pw6 hC6
  have e0 : ∀ (g : Nat → Int32) (k : Nat), (sA σ i_m_dets g).2.2 t k = σ.2.2 t k := fun g k => by rw [sA_ne hne]
  have loop : ∀ g, DT g T → ∀ n, n ≤ 2 ^ T.1 → 1 ≤ n → (∀ R C, sq T R C → R < n → sml (dD T.2.2 R C)) → ∀ u3, Rw mX11_isTotal X 7 [some (.ref i_M), some (.ref t), some (.int (nI n)), u3] [] (wd (sA σ i_m_dets g) x) 0 0 := by
    intro g hg
    refine up_loop (2 ^ T.1) ?_ ?_
    · intro h1 hs u3
      refine R_iload_n (i := 2) hC dX11_isTotal_7 rfl rfl (R_iconst (v := 1) hC dX11_isTotal_8 (by decide) (R_aload_n (i := 1) hC dX11_isTotal_9 rfl rfl (R_bipush (v := 36) hC dX11_isTotal_10 (by decide) (R_aI hC dX11_isTotal_12 ht 36 rfl (by decide) (by decide) ?_))))
      refine R_top (y := nI T.1) (by rw [e0, hR1]) ?_
      refine R_ishl hC dX11_isTotal_13 ?_
      refine R_top (y := nI (2 ^ T.1)) (shl1 _ hR6) ?_
      refine R_icmp_ge hC 79 dX11_isTotal_14 (by decide) (fun _ => ?_) (fun h => absurd (Int32.le_refl _) h)
      refine R_iconst (v := 1) hC dX11_isTotal_79 (by decide) ?_
      exact R_zret hC hT dX11_isTotal_80 rfl (by decide) ⟨by rw [b2i_t (show tot T from fun R C h => hs R C h h.2.1)], g, rfl, hg⟩
    · intro n hn ih h1 hs u3
      have inn : ∀ k, k ≤ 2 ^ T.2.1 → 1 ≤ k → (∀ C, sq T n C → C < k → sml (dD T.2.2 n C)) → Rw mX11_isTotal X 19 [some (.ref i_M), some (.ref t), some (.int (nI n)), some (.int (nI k))] [] (wd (sA σ i_m_dets g) x) 0 0 := by
        refine up_loop (2 ^ T.2.1) ?_ ?_
        · intro k1 hk
          refine R_iload_n (i := 3) hC dX11_isTotal_19 rfl rfl (R_iconst (v := 1) hC dX11_isTotal_20 (by decide) (R_aload_n (i := 1) hC dX11_isTotal_21 rfl rfl (R_bipush (v := 37) hC dX11_isTotal_22 (by decide) (R_aI hC dX11_isTotal_24 ht 37 rfl (by decide) (by decide) ?_))))
          refine R_top (y := nI T.2.1) (by rw [e0, hC1]) ?_
          refine R_ishl hC dX11_isTotal_25 ?_
          refine R_top (y := nI (2 ^ T.2.1)) (shl1 _ hC6) ?_
          refine R_icmp_ge hC 73 dX11_isTotal_26 (by decide) (fun _ => ?_) (fun h => absurd (Int32.le_refl _) h)
          refine R_iinc hC dX11_isTotal_73 rfl (inc1 _) (by decide) rfl (R_goto hC 7 dX11_isTotal_76 (by decide) ?_)
          exact ih (by omega) (fun R C h q => by rcases (by omega : R < n ∨ R = n) with z | rfl; exact hs R C h z; exact hk C h h.2.2.2.1) _
        · intro k hk ihk k1 hsk
          have q1 := pc6_le k (by omega)
          have q2 := pc6_le n (by omega)
          have em : (nI (pc6 n) = nI (pc6 k)) ↔ pc6 n = pc6 k := nI_eq (by omega) (by omega)
          have nx : (sq T n k → sml (dD T.2.2 n k)) → Rw mX11_isTotal X 19 [some (.ref i_M), some (.ref t), some (.int (nI n)), some (.int (nI (k + 1)))] [] (wd (sA σ i_m_dets g) x) 0 0 := fun z => ihk (by omega) (fun C h q => by rcases (by omega : C < k ∨ C = k) with y | rfl; exact hsk C h y; exact z h)
          refine R_iload_n (i := 3) hC dX11_isTotal_19 rfl rfl (R_iconst (v := 1) hC dX11_isTotal_20 (by decide) (R_aload_n (i := 1) hC dX11_isTotal_21 rfl rfl (R_bipush (v := 37) hC dX11_isTotal_22 (by decide) (R_aI hC dX11_isTotal_24 ht 37 rfl (by decide) (by decide) ?_))))
          refine R_top (y := nI T.2.1) (by rw [e0, hC1]) ?_
          refine R_ishl hC dX11_isTotal_25 ?_
          refine R_top (y := nI (2 ^ T.2.1)) (shl1 _ hC6) ?_
          refine R_icmp_ge hC 73 dX11_isTotal_26 (by decide) (fun h => absurd h (nI_ge hk (by omega))) (fun _ => ?_)
          refine R_iload_n (i := 2) hC dX11_isTotal_29 rfl rfl ?_
          refine R_S1i hC hR dX11_isTotal_30 MS_X11_sizeOf ml_X11_204 (s_sizeOf n (by omega) _) (by decide) ⟨by decide, by decide⟩ (Nat.le_of_ble_eq_true rfl) ?_
          refine R_iload_n (i := 3) hC dX11_isTotal_33 rfl rfl ?_
          refine R_S1i hC hR dX11_isTotal_34 MS_X11_sizeOf ml_X11_204 (s_sizeOf k (by omega) _) (by decide) ⟨by decide, by decide⟩ (Nat.le_of_ble_eq_true rfl) ?_
          refine R_icmp_eq hC 43 dX11_isTotal_37 (by decide) (fun h37 => ?_) (fun h37 => ?_)
          · refine R_aload_n (i := 0) hC dX11_isTotal_43 rfl rfl (R_gR hC dX11_isTotal_44 fl_X11_38 L_M rfl (R_bipush (v := 64) hC dX11_isTotal_47 (by decide) (R_iload_n (i := 2) hC dX11_isTotal_49 rfl rfl (R_imul hC dX11_isTotal_50 (R_iload_n (i := 3) hC dX11_isTotal_51 rfl rfl (R_iadd hC dX11_isTotal_52 (R_aI hC dX11_isTotal_53 L_m_dets (64 * n + k) (n64 n k) (by omega) (by decide) ?_)))))))
            refine R_top (y := dD T.2.2 n k) (by rw [sA_eq]; exact hg n k hn hk (em.mp h37)) ?_
            refine R_i2l hC dX11_isTotal_54 (R_ldc2 hC dX11_isTotal_55 kc_X11_162 (R_lconst (v := 1) hC dX11_isTotal_58 (by decide) ?_))
            refine R_S3i hC hR dX11_isTotal_59 MS_X11_isIn ml_X11_140 (s_isInZ (dD T.2.2 n k) (-1) 1 (-1) 1 (by decide) (by decide) _) (by decide) ⟨by decide, by decide⟩ (Nat.le_of_ble_eq_true rfl) ?_
            refine R_if_ne hC 67 dX11_isTotal_62 (by decide) (fun h62 => ?_) (fun h62 => ?_)
            · refine R_iinc hC dX11_isTotal_67 rfl (inc1 _) (by decide) rfl (R_goto hC 19 dX11_isTotal_70 (by decide) ?_)
              exact nx (by first | exact fun _ => sml_in.mpr (ite1 h62) | exact fun z => absurd (em.mpr z.2.2.2.2) h37)
            · refine R_iconst (v := 0) hC dX11_isTotal_65 (by decide) ?_
              exact R_zret hC hT dX11_isTotal_66 rfl (by decide) ⟨by rw [b2i_f (fun z => ite0 h62 (sml_in.mp (z n k ⟨h1, hn, k1, hk, em.mp h37⟩)))], g, rfl, hg⟩
          · refine R_goto hC 67 dX11_isTotal_40 (by decide) (R_iinc hC dX11_isTotal_67 rfl (inc1 _) (by decide) rfl (R_goto hC 19 dX11_isTotal_70 (by decide) ?_))
            exact nx (by first | exact fun _ => sml_in.mpr (ite1 h62) | exact fun z => absurd (em.mpr z.2.2.2.2) h37)
      refine R_iload_n (i := 2) hC dX11_isTotal_7 rfl rfl (R_iconst (v := 1) hC dX11_isTotal_8 (by decide) (R_aload_n (i := 1) hC dX11_isTotal_9 rfl rfl (R_bipush (v := 36) hC dX11_isTotal_10 (by decide) (R_aI hC dX11_isTotal_12 ht 36 rfl (by decide) (by decide) ?_))))
      refine R_top (y := nI T.1) (by rw [e0, hR1]) ?_
      refine R_ishl hC dX11_isTotal_13 ?_
      refine R_top (y := nI (2 ^ T.1)) (shl1 _ hR6) ?_
      refine R_icmp_ge hC 79 dX11_isTotal_14 (by decide) (fun h => absurd h (nI_ge hn (by omega))) (fun _ => ?_)
      refine R_iconst (v := 1) hC dX11_isTotal_17 (by decide) (R_istore_n (i := 3) hC dX11_isTotal_18 rfl (by decide) rfl ?_)
      exact inn 1 (Nat.one_le_two_pow) (Nat.le_refl _) (fun C h q => absurd h.2.2.1 (by omega))
  refine R_aload_n (i := 0) hC dX11_isTotal_0 rfl rfl (R_aload_n (i := 1) hC dX11_isTotal_1 rfl rfl ?_)
  refine R_V1g hC hR dX11_isTotal_2 MV_X11_laysDets ml_X11_207 L_M rfl (s_laysDets σ x t ht hne T hT0) (by decide) ⟨by decide, by decide⟩ (Nat.le_of_ble_eq_true rfl) (fun r w1 hq => ?_)
  obtain ⟨rfl, g, rfl, hg⟩ := hq
  refine R_iconst (v := 1) hC dX11_isTotal_5 (by decide) (R_istore_n (i := 2) hC dX11_isTotal_6 rfl (by decide) rfl ?_)
  exact loop g hg 1 (Nat.one_le_two_pow) (Nat.le_refl _) (fun R C h q => absurd h.1 (by omega)) _
/-- a square as a call names it -/
def sqI (T : tb) (r c : Int32) : Prop := 1 ≤ r.toInt ∧ 1 ≤ c.toInt ∧ sq T r.toNatClampNeg c.toNatClampNeg
theorem i32_1 {k : Int32} (h : 0 < k.toInt) : ∃ j : Nat, k = nI j ∧ (j : Int) = k.toInt ∧ j < 2 ^ 31 := i32_nI (by omega)
theorem s_isSquare (σ : sg) (x : aW) (t : Nat) (ht : LY t (0, 38, [])) (T : tb) (hT0 : TB (σ.2.2 t) T) (r c : Int32) :
    Mt mX11_isSquare 1 0 0 [.ref i_M, .ref t, .int r, .int c] (wd σ x) (QI (b2i (sqI T r c)) (wd σ x)) := by
  refine Mt.of MI_X11_isSquare (Nat.le_of_ble_eq_true rfl) (fun X hC hR hT => ?_)
  obtain ⟨hR1, hC1, hR6, hC6, hE⟩ := id hT0
  have p1 := pw6 hR6
  have p2 := pw6 hC6
  have no : ¬ sqI T r c → ∀ v, v = (0 : Int32) → QI (b2i (sqI T r c)) (wd σ x) (some (.int v)) (wd σ x) := fun q v e => ⟨by rw [b2i_f q, e], rfl⟩
  refine R_iload_n (i := 2) hC dX11_isSquare_0 rfl rfl ?_
  refine R_if_le hC 43 dX11_isSquare_1 (by decide) (fun h1 => ?_) (fun h1 => ?_)
  · refine R_iconst (v := 0) hC dX11_isSquare_43 (by decide) ?_
    exact R_zret hC hT dX11_isSquare_44 rfl (by decide) (by
    first
    | (exact ⟨by rw [b2i_t ⟨by omega, by omega, by rw [c1, c2]; exact ⟨by omega, g1, by omega, g2, em.mp h36⟩⟩], rfl⟩)
    | exact no (fun z => h36 (em.mpr (by have := z.2.2.2.2.2.2; rwa [c1, c2] at this))) _ rfl
    | exact no (fun z => by have y := z.2.2.2.2.2.1; rw [c2] at y; have := (nI_leI (by omega) (by omega)).mp h25; omega) _ rfl
    | exact no (fun z => by have y := z.2.2.2.1; rw [c1] at y; have := (nI_leI (by omega) (by omega)).mp h15; omega) _ rfl
    | (refine no (fun z => ?_) _ rfl; have y := z.2.1; simp only [i32_ge, Int32.toInt_zero] at h5; omega)
    | (refine no (fun z => ?_) _ rfl; have y := z.1; simp only [i32_ge, Int32.toInt_zero] at h1; omega))
  · refine R_iload_n (i := 3) hC dX11_isSquare_4 rfl rfl ?_
    refine R_if_le hC 43 dX11_isSquare_5 (by decide) (fun h5 => ?_) (fun h5 => ?_)
    · refine R_iconst (v := 0) hC dX11_isSquare_43 (by decide) ?_
      exact R_zret hC hT dX11_isSquare_44 rfl (by decide) (by
      first
      | (exact ⟨by rw [b2i_t ⟨by omega, by omega, by rw [c1, c2]; exact ⟨by omega, g1, by omega, g2, em.mp h36⟩⟩], rfl⟩)
      | exact no (fun z => h36 (em.mpr (by have := z.2.2.2.2.2.2; rwa [c1, c2] at this))) _ rfl
      | exact no (fun z => by have y := z.2.2.2.2.2.1; rw [c2] at y; have := (nI_leI (by omega) (by omega)).mp h25; omega) _ rfl
      | exact no (fun z => by have y := z.2.2.2.1; rw [c1] at y; have := (nI_leI (by omega) (by omega)).mp h15; omega) _ rfl
      | (refine no (fun z => ?_) _ rfl; have y := z.2.1; simp only [i32_ge, Int32.toInt_zero] at h5; omega)
      | (refine no (fun z => ?_) _ rfl; have y := z.1; simp only [i32_ge, Int32.toInt_zero] at h1; omega))
    · simp only [i32_ge, Int32.toInt_zero, Int.not_le] at h1 h5
      obtain ⟨R, rfl, hR2, hR3⟩ := i32_1 h1
      obtain ⟨C, rfl, hC2, hC3⟩ := i32_1 h5
      have c1 : (nI R).toNatClampNeg = R := nI_clamp hR3
      have c2 : (nI C).toNatClampNeg = C := nI_clamp hC3
      refine R_iload_n (i := 2) hC dX11_isSquare_8 rfl rfl (R_iconst (v := 1) hC dX11_isSquare_9 (by decide) (R_aload_n (i := 1) hC dX11_isSquare_10 rfl rfl (R_bipush (v := 36) hC dX11_isSquare_11 (by decide) (R_aI hC dX11_isSquare_13 ht 36 rfl (by decide) (by decide) ?_))))
      refine R_top (y := nI T.1) (hR1) ?_
      refine R_ishl hC dX11_isSquare_14 ?_
      refine R_top (y := nI (2 ^ T.1)) (shl1 _ hR6) ?_
      refine R_icmp_ge hC 43 dX11_isSquare_15 (by decide) (fun h15 => ?_) (fun h15 => ?_)
      · refine R_iconst (v := 0) hC dX11_isSquare_43 (by decide) ?_
        exact R_zret hC hT dX11_isSquare_44 rfl (by decide) (by
        first
        | (exact ⟨by rw [b2i_t ⟨by omega, by omega, by rw [c1, c2]; exact ⟨by omega, g1, by omega, g2, em.mp h36⟩⟩], rfl⟩)
        | exact no (fun z => h36 (em.mpr (by have := z.2.2.2.2.2.2; rwa [c1, c2] at this))) _ rfl
        | exact no (fun z => by have y := z.2.2.2.2.2.1; rw [c2] at y; have := (nI_leI (by omega) (by omega)).mp h25; omega) _ rfl
        | exact no (fun z => by have y := z.2.2.2.1; rw [c1] at y; have := (nI_leI (by omega) (by omega)).mp h15; omega) _ rfl
        | (refine no (fun z => ?_) _ rfl; have y := z.2.1; simp only [i32_ge, Int32.toInt_zero] at h5; omega)
        | (refine no (fun z => ?_) _ rfl; have y := z.1; simp only [i32_ge, Int32.toInt_zero] at h1; omega))
      · refine R_iload_n (i := 3) hC dX11_isSquare_18 rfl rfl (R_iconst (v := 1) hC dX11_isSquare_19 (by decide) (R_aload_n (i := 1) hC dX11_isSquare_20 rfl rfl (R_bipush (v := 37) hC dX11_isSquare_21 (by decide) (R_aI hC dX11_isSquare_23 ht 37 rfl (by decide) (by decide) ?_))))
        refine R_top (y := nI T.2.1) (hC1) ?_
        refine R_ishl hC dX11_isSquare_24 ?_
        refine R_top (y := nI (2 ^ T.2.1)) (shl1 _ hC6) ?_
        refine R_icmp_ge hC 43 dX11_isSquare_25 (by decide) (fun h25 => ?_) (fun h25 => ?_)
        · refine R_iconst (v := 0) hC dX11_isSquare_43 (by decide) ?_
          exact R_zret hC hT dX11_isSquare_44 rfl (by decide) (by
          first
          | (exact ⟨by rw [b2i_t ⟨by omega, by omega, by rw [c1, c2]; exact ⟨by omega, g1, by omega, g2, em.mp h36⟩⟩], rfl⟩)
          | exact no (fun z => h36 (em.mpr (by have := z.2.2.2.2.2.2; rwa [c1, c2] at this))) _ rfl
          | exact no (fun z => by have y := z.2.2.2.2.2.1; rw [c2] at y; have := (nI_leI (by omega) (by omega)).mp h25; omega) _ rfl
          | exact no (fun z => by have y := z.2.2.2.1; rw [c1] at y; have := (nI_leI (by omega) (by omega)).mp h15; omega) _ rfl
          | (refine no (fun z => ?_) _ rfl; have y := z.2.1; simp only [i32_ge, Int32.toInt_zero] at h5; omega)
          | (refine no (fun z => ?_) _ rfl; have y := z.1; simp only [i32_ge, Int32.toInt_zero] at h1; omega))
        · have g1 : R < 2 ^ T.1 := by have := mt (nI_leI (by omega) (by omega)).mpr h15; omega
          have g2 : C < 2 ^ T.2.1 := by have := mt (nI_leI (by omega) (by omega)).mpr h25; omega
          have q1 := pc6_le R (by omega)
          have q2 := pc6_le C (by omega)
          have em : (nI (pc6 R) = nI (pc6 C)) ↔ pc6 R = pc6 C := nI_eq (by omega) (by omega)
          refine R_iload_n (i := 2) hC dX11_isSquare_28 rfl rfl ?_
          refine R_S1i hC hR dX11_isSquare_29 MS_X11_sizeOf ml_X11_204 (s_sizeOf R (by omega) _) (by decide) ⟨by decide, by decide⟩ (Nat.le_of_ble_eq_true rfl) ?_
          refine R_iload_n (i := 3) hC dX11_isSquare_32 rfl rfl ?_
          refine R_S1i hC hR dX11_isSquare_33 MS_X11_sizeOf ml_X11_204 (s_sizeOf C (by omega) _) (by decide) ⟨by decide, by decide⟩ (Nat.le_of_ble_eq_true rfl) ?_
          refine R_icmp_ne hC 43 dX11_isSquare_36 (by decide) (fun h36 => ?_) (fun h36 => ?_)
          · refine R_iconst (v := 0) hC dX11_isSquare_43 (by decide) ?_
            exact R_zret hC hT dX11_isSquare_44 rfl (by decide) (by
            first
            | (exact ⟨by rw [b2i_t ⟨by omega, by omega, by rw [c1, c2]; exact ⟨by omega, g1, by omega, g2, em.mp h36⟩⟩], rfl⟩)
            | exact no (fun z => h36 (em.mpr (by have := z.2.2.2.2.2.2; rwa [c1, c2] at this))) _ rfl
            | exact no (fun z => by have y := z.2.2.2.2.2.1; rw [c2] at y; have := (nI_leI (by omega) (by omega)).mp h25; omega) _ rfl
            | exact no (fun z => by have y := z.2.2.2.1; rw [c1] at y; have := (nI_leI (by omega) (by omega)).mp h15; omega) _ rfl
            | (refine no (fun z => ?_) _ rfl; have y := z.2.1; simp only [i32_ge, Int32.toInt_zero] at h5; omega)
            | (refine no (fun z => ?_) _ rfl; have y := z.1; simp only [i32_ge, Int32.toInt_zero] at h1; omega))
          · refine R_iconst (v := 1) hC dX11_isSquare_39 (by decide) (R_goto hC 44 dX11_isSquare_40 (by decide) ?_)
            exact R_zret hC hT dX11_isSquare_44 rfl (by decide) (by
            first
            | (exact ⟨by rw [b2i_t ⟨by omega, by omega, by rw [c1, c2]; exact ⟨by omega, g1, by omega, g2, em.mp h36⟩⟩], rfl⟩)
            | exact no (fun z => h36 (em.mpr (by have := z.2.2.2.2.2.2; rwa [c1, c2] at this))) _ rfl
            | exact no (fun z => by have y := z.2.2.2.2.2.1; rw [c2] at y; have := (nI_leI (by omega) (by omega)).mp h25; omega) _ rfl
            | exact no (fun z => by have y := z.2.2.2.1; rw [c1] at y; have := (nI_leI (by omega) (by omega)).mp h15; omega) _ rfl
            | (refine no (fun z => ?_) _ rfl; have y := z.2.1; simp only [i32_ge, Int32.toInt_zero] at h5; omega)
            | (refine no (fun z => ?_) _ rfl; have y := z.1; simp only [i32_ge, Int32.toInt_zero] at h1; omega))
/-- the model behind its determinants of the table -/
def MD (σ ω : sg) (α : aS) : Prop := MInv ω α ∧ CEq σ ω ∧ DT (ω.2.2 i_m_dets) (tT α)
theorem MD.of {σ : sg} {α : aS} {g : Nat → Int32} (h : MInv σ α) (hg : DT g (tT α)) : MD σ (sA (sG σ i_M 0 0) i_m_dets g) α :=
  ⟨(M_thr h 0).a (by decide), (M_ceq σ).a (by decide), by rw [sA_eq]; exact hg⟩
theorem MD.p {σ ω : sg} {x : aW} {α : aS} {v : Int32} (h : MD σ ω α) : MPost σ x v α (some (.int v)) (wd ω x) := MPost.i h.1 h.2.1
noncomputable def opDet (α : aS) (r c : Int32) : Int32 := by classical exact if (¬ (tT α).1 = 0 ∧ sqI (tT α) r c) then dD (tT α).2.2 r.toNatClampNeg c.toNatClampNeg else -1000000
theorem mo_det {σ : sg} {x : aW} {α : aS} (h : MInv σ α) (ok : aOK α) (r c : Int32) : Mt mX11_det 2 0 0 [.ref i_M, .int r, .int c] (wd σ x) (MPost σ x (opDet α r c) α) := by
  refine Mt.of MI_X11_det (Nat.le_of_ble_eq_true rfl) (fun X hC hR hT => ?_)
  have hT1 : σ.2.2 i_m_now 36 = nI (tT α).1 := h.2.1.1
  have hTB : TB (σ.2.2 i_m_now) (tT α) := h.2.1.TB ok.2.2.1
  have h1 := M_thr h 0
  have p1 := pw6 ok.2.2.1.1
  have p2 := pw6 ok.2.2.1.2.1
  have no : ¬ (¬ (tT α).1 = 0 ∧ sqI (tT α) r c) → opDet α r c = -1000000 := fun q => by unfold opDet; rw [if_neg q]
  refine R_aload_n (i := 0) hC dX11_det_0 rfl rfl (R_iconst (v := 0) hC dX11_det_1 (by decide) (R_pI hC dX11_det_2 fl_X11_83 L_M rfl (R_aload_n (i := 0) hC dX11_det_5 rfl rfl (R_gR hC dX11_det_6 fl_X11_13 L_M rfl (R_bipush (v := 36) hC dX11_det_9 (by decide) (R_aI hC dX11_det_11 L_m_now 36 rfl (by decide) (by decide) ?_))))))
  refine R_top (y := nI (tT α).1) hT1 ?_
  refine R_if_eq hC 28 dX11_det_12 (by decide) (fun h12 => ?_) (fun h12 => ?_)
  · refine R_ldc hC dX11_det_28 kc_X11_133 ?_
    exact R_iret hC hT dX11_det_30 rfl (by
    first
    | (rw [no (fun z => z.1 ((T0_iff ok).mp h12))]; exact MPost.i h1 (M_ceq σ))
    | (rw [no (fun z => b2i_0 h25 z.2)]; exact MPost.i h1 (M_ceq σ))
    | (rw [sA_eq, ev, ← hg R C s4 s6 s7]; exact (MD.of h hg).p))
  · refine R_aload_n (i := 0) hC dX11_det_15 rfl rfl (R_aload_n (i := 0) hC dX11_det_16 rfl rfl (R_gR hC dX11_det_17 fl_X11_13 L_M rfl (R_iload_n (i := 1) hC dX11_det_20 rfl rfl (R_iload_n (i := 2) hC dX11_det_21 rfl rfl ?_))))
    refine R_V3i hC hR dX11_det_22 MV_X11_isSquare ml_X11_211 L_M rfl (s_isSquare (sG σ i_M 0 0) x i_m_now L_m_now (tT α) hTB r c) (by decide) ⟨by decide, by decide⟩ (Nat.le_of_ble_eq_true rfl) ?_
    refine R_if_ne hC 31 dX11_det_25 (by decide) (fun h25 => ?_) (fun h25 => ?_)
    · refine R_aload_n (i := 0) hC dX11_det_31 rfl rfl (R_aload_n (i := 0) hC dX11_det_32 rfl rfl (R_gR hC dX11_det_33 fl_X11_13 L_M rfl ?_))
      refine R_V1g hC hR dX11_det_36 MV_X11_laysDets ml_X11_207 L_M rfl (s_laysDets (sG σ i_M 0 0) x i_m_now L_m_now (by decide) (tT α) hTB) (by decide) ⟨by decide, by decide⟩ (Nat.le_of_ble_eq_true rfl) (fun r w1 hq => ?_)
      obtain ⟨rfl, g, rfl, hg⟩ := hq
      have hs := b2i_ne h25
      have n0 : ¬ (tT α).1 = 0 := fun z => h12 ((T0_iff ok).mpr z)
      have ev : opDet α r c = dD (tT α).2.2 r.toNatClampNeg c.toNatClampNeg := by unfold opDet; rw [if_pos ⟨n0, hs⟩]
      obtain ⟨s1, s2, s3, s4, s5, s6, s7⟩ := id hs
      obtain ⟨R, rfl, hR2, hR3⟩ := i32_1 (show 0 < r.toInt by omega)
      obtain ⟨C, rfl, hC2, hC3⟩ := i32_1 (show 0 < c.toInt by omega)
      rw [nI_clamp hR3] at s3 s4 s7 ev
      rw [nI_clamp hC3] at s5 s6 s7 ev
      refine R_aload_n (i := 0) hC dX11_det_39 rfl rfl (R_gR hC dX11_det_40 fl_X11_38 L_M rfl (R_bipush (v := 64) hC dX11_det_43 (by decide) (R_iload_n (i := 1) hC dX11_det_45 rfl rfl (R_imul hC dX11_det_46 (R_iload_n (i := 2) hC dX11_det_47 rfl rfl (R_iadd hC dX11_det_48 (R_aI hC dX11_det_49 L_m_dets (64 * R + C) (n64 R C) (by omega) (by decide) ?_)))))))
      exact R_iret hC hT dX11_det_50 rfl (by
      first
      | (rw [no (fun z => z.1 ((T0_iff ok).mp h12))]; exact MPost.i h1 (M_ceq σ))
      | (rw [no (fun z => b2i_0 h25 z.2)]; exact MPost.i h1 (M_ceq σ))
      | (rw [sA_eq, ev, ← hg R C s4 s6 s7]; exact (MD.of h hg).p))
    · refine R_ldc hC dX11_det_28 kc_X11_133 ?_
      exact R_iret hC hT dX11_det_30 rfl (by
      first
      | (rw [no (fun z => z.1 ((T0_iff ok).mp h12))]; exact MPost.i h1 (M_ceq σ))
      | (rw [no (fun z => b2i_0 h25 z.2)]; exact MPost.i h1 (M_ceq σ))
      | (rw [sA_eq, ev, ← hg R C s4 s6 s7]; exact (MD.of h hg).p))
noncomputable def opTotal (α : aS) : Int32 := by classical exact if (tT α).1 = 0 then -1 else b2i (tot (tT α))
theorem dX11_total_0 : decode cX11_total 0 = .ok (.aload_n 0, 1) := by decide +kernel
theorem dX11_total_1 : decode cX11_total 1 = .ok (.iconst 0, 1) := by decide +kernel
theorem dX11_total_2 : decode cX11_total 2 = .ok (.putfield 83, 3) := by decide +kernel
theorem dX11_total_5 : decode cX11_total 5 = .ok (.aload_n 0, 1) := by decide +kernel
theorem dX11_total_6 : decode cX11_total 6 = .ok (.getfield 13, 3) := by decide +kernel
theorem dX11_total_9 : decode cX11_total 9 = .ok (.bipush 36, 2) := by decide +kernel
theorem dX11_total_11 : decode cX11_total 11 = .ok (.iaload, 1) := by decide +kernel
theorem dX11_total_12 : decode cX11_total 12 = .ok (.ifCond .ne 7, 3) := by decide +kernel
theorem dX11_total_15 : decode cX11_total 15 = .ok (.iconst (-1), 1) := by decide +kernel
theorem dX11_total_16 : decode cX11_total 16 = .ok (.goto 19, 3) := by decide +kernel
theorem dX11_total_19 : decode cX11_total 19 = .ok (.aload_n 0, 1) := by decide +kernel
theorem dX11_total_20 : decode cX11_total 20 = .ok (.aload_n 0, 1) := by decide +kernel
theorem dX11_total_21 : decode cX11_total 21 = .ok (.getfield 13, 3) := by decide +kernel
theorem dX11_total_24 : decode cX11_total 24 = .ok (.invokevirtual 227, 3) := by decide +kernel
theorem dX11_total_27 : decode cX11_total 27 = .ok (.ifCond .eq 7, 3) := by decide +kernel
theorem dX11_total_30 : decode cX11_total 30 = .ok (.iconst 1, 1) := by decide +kernel
theorem dX11_total_31 : decode cX11_total 31 = .ok (.goto 4, 3) := by decide +kernel
theorem dX11_total_34 : decode cX11_total 34 = .ok (.iconst 0, 1) := by decide +kernel
theorem dX11_total_35 : decode cX11_total 35 = .ok (.ireturn, 1) := by decide +kernel
theorem dX11_squares_0 : decode cX11_squares 0 = .ok (.aload_n 0, 1) := by decide +kernel
theorem dX11_squares_1 : decode cX11_squares 1 = .ok (.iconst 0, 1) := by decide +kernel
theorem dX11_squares_2 : decode cX11_squares 2 = .ok (.putfield 83, 3) := by decide +kernel
theorem dX11_squares_5 : decode cX11_squares 5 = .ok (.aload_n 0, 1) := by decide +kernel
theorem dX11_squares_6 : decode cX11_squares 6 = .ok (.getfield 13, 3) := by decide +kernel
theorem dX11_squares_9 : decode cX11_squares 9 = .ok (.bipush 36, 2) := by decide +kernel
theorem dX11_squares_11 : decode cX11_squares 11 = .ok (.iaload, 1) := by decide +kernel
theorem dX11_squares_12 : decode cX11_squares 12 = .ok (.ifCond .eq 27, 3) := by decide +kernel
theorem dX11_squares_15 : decode cX11_squares 15 = .ok (.iload_n 1, 1) := by decide +kernel
theorem dX11_squares_16 : decode cX11_squares 16 = .ok (.i2l, 1) := by decide +kernel
theorem dX11_squares_17 : decode cX11_squares 17 = .ok (.lconst 1, 1) := by decide +kernel
theorem dX11_squares_18 : decode cX11_squares 18 = .ok (.ldc2_w 214, 3) := by decide +kernel
theorem dX11_squares_21 : decode cX11_squares 21 = .ok (.invokestatic 140, 3) := by decide +kernel
theorem dX11_squares_24 : decode cX11_squares 24 = .ok (.ifCond .eq 15, 3) := by decide +kernel
theorem dX11_squares_27 : decode cX11_squares 27 = .ok (.iload_n 2, 1) := by decide +kernel
theorem dX11_squares_28 : decode cX11_squares 28 = .ok (.i2l, 1) := by decide +kernel
theorem dX11_squares_29 : decode cX11_squares 29 = .ok (.lconst 0, 1) := by decide +kernel
theorem dX11_squares_30 : decode cX11_squares 30 = .ok (.ldc2_w 216, 3) := by decide +kernel
theorem dX11_squares_33 : decode cX11_squares 33 = .ok (.invokestatic 140, 3) := by decide +kernel
theorem dX11_squares_36 : decode cX11_squares 36 = .ok (.ifCond .ne 5, 3) := by decide +kernel
theorem dX11_squares_39 : decode cX11_squares 39 = .ok (.iconst (-1), 1) := by decide +kernel
theorem dX11_squares_40 : decode cX11_squares 40 = .ok (.ireturn, 1) := by decide +kernel
theorem dX11_squares_41 : decode cX11_squares 41 = .ok (.aload_n 0, 1) := by decide +kernel
theorem dX11_squares_42 : decode cX11_squares 42 = .ok (.aload_n 0, 1) := by decide +kernel
theorem dX11_squares_43 : decode cX11_squares 43 = .ok (.getfield 13, 3) := by decide +kernel
theorem dX11_squares_46 : decode cX11_squares 46 = .ok (.invokevirtual 207, 3) := by decide +kernel
theorem dX11_squares_49 : decode cX11_squares 49 = .ok (.iconst 0, 1) := by decide +kernel
theorem dX11_squares_50 : decode cX11_squares 50 = .ok (.istore_n 3, 1) := by decide +kernel
theorem dX11_squares_51 : decode cX11_squares 51 = .ok (.iconst 1, 1) := by decide +kernel
theorem dX11_squares_52 : decode cX11_squares 52 = .ok (.istore 4, 2) := by decide +kernel
theorem dX11_squares_54 : decode cX11_squares 54 = .ok (.iload 4, 2) := by decide +kernel
theorem dX11_squares_56 : decode cX11_squares 56 = .ok (.iconst 1, 1) := by decide +kernel
theorem dX11_squares_57 : decode cX11_squares 57 = .ok (.aload_n 0, 1) := by decide +kernel
theorem dX11_squares_58 : decode cX11_squares 58 = .ok (.getfield 13, 3) := by decide +kernel
theorem dX11_squares_61 : decode cX11_squares 61 = .ok (.bipush 36, 2) := by decide +kernel
theorem dX11_squares_63 : decode cX11_squares 63 = .ok (.iaload, 1) := by decide +kernel
theorem dX11_squares_64 : decode cX11_squares 64 = .ok (.ishl, 1) := by decide +kernel
theorem dX11_squares_65 : decode cX11_squares 65 = .ok (.if_icmp .ge 89, 3) := by decide +kernel
theorem dX11_squares_68 : decode cX11_squares 68 = .ok (.iconst 1, 1) := by decide +kernel
theorem dX11_squares_69 : decode cX11_squares 69 = .ok (.istore 5, 2) := by decide +kernel
theorem dX11_squares_71 : decode cX11_squares 71 = .ok (.iload 5, 2) := by decide +kernel
theorem dX11_squares_73 : decode cX11_squares 73 = .ok (.iconst 1, 1) := by decide +kernel
theorem dX11_squares_74 : decode cX11_squares 74 = .ok (.aload_n 0, 1) := by decide +kernel
theorem dX11_squares_75 : decode cX11_squares 75 = .ok (.getfield 13, 3) := by decide +kernel
theorem dX11_squares_78 : decode cX11_squares 78 = .ok (.bipush 37, 2) := by decide +kernel
theorem dX11_squares_80 : decode cX11_squares 80 = .ok (.iaload, 1) := by decide +kernel
theorem dX11_squares_81 : decode cX11_squares 81 = .ok (.ishl, 1) := by decide +kernel
theorem dX11_squares_82 : decode cX11_squares 82 = .ok (.if_icmp .ge 66, 3) := by decide +kernel
theorem dX11_squares_85 : decode cX11_squares 85 = .ok (.iload 4, 2) := by decide +kernel
theorem dX11_squares_87 : decode cX11_squares 87 = .ok (.invokestatic 204, 3) := by decide +kernel
theorem dX11_squares_90 : decode cX11_squares 90 = .ok (.iload_n 1, 1) := by decide +kernel
theorem dX11_squares_91 : decode cX11_squares 91 = .ok (.if_icmp .ne 57, 3) := by decide +kernel
theorem dX11_squares_94 : decode cX11_squares 94 = .ok (.iload 5, 2) := by decide +kernel
theorem dX11_squares_96 : decode cX11_squares 96 = .ok (.invokestatic 204, 3) := by decide +kernel
theorem dX11_squares_99 : decode cX11_squares 99 = .ok (.iload_n 1, 1) := by decide +kernel
theorem dX11_squares_100 : decode cX11_squares 100 = .ok (.if_icmp .eq 6, 3) := by decide +kernel
theorem dX11_squares_103 : decode cX11_squares 103 = .ok (.goto 39, 3) := by decide +kernel
theorem dX11_squares_106 : decode cX11_squares 106 = .ok (.aload_n 0, 1) := by decide +kernel
theorem dX11_squares_107 : decode cX11_squares 107 = .ok (.getfield 38, 3) := by decide +kernel
theorem dX11_squares_110 : decode cX11_squares 110 = .ok (.bipush 64, 2) := by decide +kernel
theorem dX11_squares_112 : decode cX11_squares 112 = .ok (.iload 4, 2) := by decide +kernel
theorem dX11_squares_114 : decode cX11_squares 114 = .ok (.imul, 1) := by decide +kernel
theorem dX11_squares_115 : decode cX11_squares 115 = .ok (.iload 5, 2) := by decide +kernel
theorem dX11_squares_117 : decode cX11_squares 117 = .ok (.iadd, 1) := by decide +kernel
theorem dX11_squares_118 : decode cX11_squares 118 = .ok (.iaload, 1) := by decide +kernel
theorem dX11_squares_119 : decode cX11_squares 119 = .ok (.invokestatic 218, 3) := by decide +kernel
theorem dX11_squares_122 : decode cX11_squares 122 = .ok (.istore 6, 2) := by decide +kernel
theorem dX11_squares_124 : decode cX11_squares 124 = .ok (.iload_n 3, 1) := by decide +kernel
theorem dX11_squares_125 : decode cX11_squares 125 = .ok (.iconst 2, 1) := by decide +kernel
theorem dX11_squares_126 : decode cX11_squares 126 = .ok (.iload 6, 2) := by decide +kernel
theorem dX11_squares_128 : decode cX11_squares 128 = .ok (.invokestatic 223, 3) := by decide +kernel
theorem dX11_squares_131 : decode cX11_squares 131 = .ok (.iload_n 2, 1) := by decide +kernel
theorem dX11_squares_132 : decode cX11_squares 132 = .ok (.if_icmp .ne 7, 3) := by decide +kernel
theorem dX11_squares_135 : decode cX11_squares 135 = .ok (.iconst 1, 1) := by decide +kernel
theorem dX11_squares_136 : decode cX11_squares 136 = .ok (.goto 4, 3) := by decide +kernel
theorem dX11_squares_139 : decode cX11_squares 139 = .ok (.iconst 0, 1) := by decide +kernel
theorem dX11_squares_140 : decode cX11_squares 140 = .ok (.iadd, 1) := by decide +kernel
theorem dX11_squares_141 : decode cX11_squares 141 = .ok (.istore_n 3, 1) := by decide +kernel
theorem dX11_squares_142 : decode cX11_squares 142 = .ok (.iinc 5 1, 3) := by decide +kernel
theorem dX11_squares_145 : decode cX11_squares 145 = .ok (.goto (-74), 3) := by decide +kernel
theorem dX11_squares_148 : decode cX11_squares 148 = .ok (.iinc 4 1, 3) := by decide +kernel
theorem dX11_squares_151 : decode cX11_squares 151 = .ok (.goto (-97), 3) := by decide +kernel
theorem dX11_squares_154 : decode cX11_squares 154 = .ok (.iload_n 3, 1) := by decide +kernel
theorem dX11_squares_155 : decode cX11_squares 155 = .ok (.ireturn, 1) := by decide +kernel
theorem dX11_rank_0 : decode cX11_rank 0 = .ok (.aload_n 0, 1) := by decide +kernel
theorem dX11_rank_1 : decode cX11_rank 1 = .ok (.iconst 0, 1) := by decide +kernel
theorem dX11_rank_2 : decode cX11_rank 2 = .ok (.putfield 83, 3) := by decide +kernel
theorem dX11_rank_5 : decode cX11_rank 5 = .ok (.aload_n 0, 1) := by decide +kernel
theorem dX11_rank_6 : decode cX11_rank 6 = .ok (.getfield 13, 3) := by decide +kernel
theorem dX11_rank_9 : decode cX11_rank 9 = .ok (.bipush 36, 2) := by decide +kernel
theorem dX11_rank_11 : decode cX11_rank 11 = .ok (.iaload, 1) := by decide +kernel
theorem dX11_rank_12 : decode cX11_rank 12 = .ok (.ifCond .eq 17, 3) := by decide +kernel
theorem dX11_rank_15 : decode cX11_rank 15 = .ok (.iload_n 1, 1) := by decide +kernel
theorem dX11_rank_16 : decode cX11_rank 16 = .ok (.ifCond .eq 15, 3) := by decide +kernel
theorem dX11_rank_19 : decode cX11_rank 19 = .ok (.iload_n 1, 1) := by decide +kernel
theorem dX11_rank_20 : decode cX11_rank 20 = .ok (.iconst 2, 1) := by decide +kernel
theorem dX11_rank_21 : decode cX11_rank 21 = .ok (.if_icmp .eq 10, 3) := by decide +kernel
theorem dX11_rank_24 : decode cX11_rank 24 = .ok (.iload_n 1, 1) := by decide +kernel
theorem dX11_rank_25 : decode cX11_rank 25 = .ok (.iconst 3, 1) := by decide +kernel
theorem dX11_rank_26 : decode cX11_rank 26 = .ok (.if_icmp .eq 5, 3) := by decide +kernel
theorem dX11_rank_29 : decode cX11_rank 29 = .ok (.iconst (-1), 1) := by decide +kernel
theorem dX11_rank_30 : decode cX11_rank 30 = .ok (.ireturn, 1) := by decide +kernel
theorem dX11_rank_31 : decode cX11_rank 31 = .ok (.aload_n 0, 1) := by decide +kernel
theorem dX11_rank_32 : decode cX11_rank 32 = .ok (.aload_n 0, 1) := by decide +kernel
theorem dX11_rank_33 : decode cX11_rank 33 = .ok (.getfield 13, 3) := by decide +kernel
theorem dX11_rank_36 : decode cX11_rank 36 = .ok (.invokevirtual 207, 3) := by decide +kernel
theorem dX11_rank_39 : decode cX11_rank 39 = .ok (.iconst 0, 1) := by decide +kernel
theorem dX11_rank_40 : decode cX11_rank 40 = .ok (.istore_n 2, 1) := by decide +kernel
theorem dX11_rank_41 : decode cX11_rank 41 = .ok (.iconst 1, 1) := by decide +kernel
theorem dX11_rank_42 : decode cX11_rank 42 = .ok (.istore_n 3, 1) := by decide +kernel
theorem dX11_rank_43 : decode cX11_rank 43 = .ok (.iload_n 3, 1) := by decide +kernel
theorem dX11_rank_44 : decode cX11_rank 44 = .ok (.iconst 1, 1) := by decide +kernel
theorem dX11_rank_45 : decode cX11_rank 45 = .ok (.aload_n 0, 1) := by decide +kernel
theorem dX11_rank_46 : decode cX11_rank 46 = .ok (.getfield 13, 3) := by decide +kernel
theorem dX11_rank_49 : decode cX11_rank 49 = .ok (.bipush 36, 2) := by decide +kernel
theorem dX11_rank_51 : decode cX11_rank 51 = .ok (.iaload, 1) := by decide +kernel
theorem dX11_rank_52 : decode cX11_rank 52 = .ok (.ishl, 1) := by decide +kernel
theorem dX11_rank_53 : decode cX11_rank 53 = .ok (.if_icmp .ge 89, 3) := by decide +kernel
theorem dX11_rank_56 : decode cX11_rank 56 = .ok (.iconst 1, 1) := by decide +kernel
theorem dX11_rank_57 : decode cX11_rank 57 = .ok (.istore 4, 2) := by decide +kernel
theorem dX11_rank_59 : decode cX11_rank 59 = .ok (.iload 4, 2) := by decide +kernel
theorem dX11_rank_61 : decode cX11_rank 61 = .ok (.iconst 1, 1) := by decide +kernel
theorem dX11_rank_62 : decode cX11_rank 62 = .ok (.aload_n 0, 1) := by decide +kernel
theorem dX11_rank_63 : decode cX11_rank 63 = .ok (.getfield 13, 3) := by decide +kernel
theorem dX11_rank_66 : decode cX11_rank 66 = .ok (.bipush 37, 2) := by decide +kernel
theorem dX11_rank_68 : decode cX11_rank 68 = .ok (.iaload, 1) := by decide +kernel
theorem dX11_rank_69 : decode cX11_rank 69 = .ok (.ishl, 1) := by decide +kernel
theorem dX11_rank_70 : decode cX11_rank 70 = .ok (.if_icmp .ge 66, 3) := by decide +kernel
theorem dX11_rank_73 : decode cX11_rank 73 = .ok (.iload_n 3, 1) := by decide +kernel
theorem dX11_rank_74 : decode cX11_rank 74 = .ok (.invokestatic 204, 3) := by decide +kernel
theorem dX11_rank_77 : decode cX11_rank 77 = .ok (.iload 4, 2) := by decide +kernel
theorem dX11_rank_79 : decode cX11_rank 79 = .ok (.invokestatic 204, 3) := by decide +kernel
theorem dX11_rank_82 : decode cX11_rank 82 = .ok (.if_icmp .eq 6, 3) := by decide +kernel
theorem dX11_rank_85 : decode cX11_rank 85 = .ok (.goto 45, 3) := by decide +kernel
theorem dX11_rank_88 : decode cX11_rank 88 = .ok (.aload_n 0, 1) := by decide +kernel
theorem dX11_rank_89 : decode cX11_rank 89 = .ok (.getfield 38, 3) := by decide +kernel
theorem dX11_rank_92 : decode cX11_rank 92 = .ok (.bipush 64, 2) := by decide +kernel
theorem dX11_rank_94 : decode cX11_rank 94 = .ok (.iload_n 3, 1) := by decide +kernel
theorem dX11_rank_95 : decode cX11_rank 95 = .ok (.imul, 1) := by decide +kernel
theorem dX11_rank_96 : decode cX11_rank 96 = .ok (.iload 4, 2) := by decide +kernel
theorem dX11_rank_98 : decode cX11_rank 98 = .ok (.iadd, 1) := by decide +kernel
theorem dX11_rank_99 : decode cX11_rank 99 = .ok (.iaload, 1) := by decide +kernel
theorem dX11_rank_100 : decode cX11_rank 100 = .ok (.istore 5, 2) := by decide +kernel
theorem dX11_rank_102 : decode cX11_rank 102 = .ok (.iload_n 1, 1) := by decide +kernel
theorem dX11_rank_103 : decode cX11_rank 103 = .ok (.ifCond .ne 11, 3) := by decide +kernel
theorem dX11_rank_106 : decode cX11_rank 106 = .ok (.iload 5, 2) := by decide +kernel
theorem dX11_rank_108 : decode cX11_rank 108 = .ok (.ifCond .eq 22, 3) := by decide +kernel
theorem dX11_rank_111 : decode cX11_rank 111 = .ok (.goto 10, 3) := by decide +kernel
theorem dX11_rank_114 : decode cX11_rank 114 = .ok (.iload 5, 2) := by decide +kernel
theorem dX11_rank_116 : decode cX11_rank 116 = .ok (.iload_n 1, 1) := by decide +kernel
theorem dX11_rank_117 : decode cX11_rank 117 = .ok (.irem, 1) := by decide +kernel
theorem dX11_rank_118 : decode cX11_rank 118 = .ok (.ifCond .eq 12, 3) := by decide +kernel
theorem dX11_rank_121 : decode cX11_rank 121 = .ok (.iload_n 2, 1) := by decide +kernel
theorem dX11_rank_122 : decode cX11_rank 122 = .ok (.iload_n 3, 1) := by decide +kernel
theorem dX11_rank_123 : decode cX11_rank 123 = .ok (.invokestatic 204, 3) := by decide +kernel
theorem dX11_rank_126 : decode cX11_rank 126 = .ok (.invokestatic 304, 3) := by decide +kernel
theorem dX11_rank_129 : decode cX11_rank 129 = .ok (.istore_n 2, 1) := by decide +kernel
theorem dX11_rank_130 : decode cX11_rank 130 = .ok (.iinc 4 1, 3) := by decide +kernel
theorem dX11_rank_133 : decode cX11_rank 133 = .ok (.goto (-74), 3) := by decide +kernel
theorem dX11_rank_136 : decode cX11_rank 136 = .ok (.iinc 3 1, 3) := by decide +kernel
theorem dX11_rank_139 : decode cX11_rank 139 = .ok (.goto (-96), 3) := by decide +kernel
theorem dX11_rank_142 : decode cX11_rank 142 = .ok (.iload_n 2, 1) := by decide +kernel
theorem dX11_rank_143 : decode cX11_rank 143 = .ok (.ireturn, 1) := by decide +kernel
theorem dX11_bases_0 : decode cX11_bases 0 = .ok (.aload_n 0, 1) := by decide +kernel
theorem dX11_bases_1 : decode cX11_bases 1 = .ok (.iconst 0, 1) := by decide +kernel
theorem dX11_bases_2 : decode cX11_bases 2 = .ok (.putfield 83, 3) := by decide +kernel
theorem dX11_bases_5 : decode cX11_bases 5 = .ok (.aload_n 0, 1) := by decide +kernel
theorem dX11_bases_6 : decode cX11_bases 6 = .ok (.getfield 13, 3) := by decide +kernel
theorem dX11_bases_9 : decode cX11_bases 9 = .ok (.bipush 36, 2) := by decide +kernel
theorem dX11_bases_11 : decode cX11_bases 11 = .ok (.iaload, 1) := by decide +kernel
theorem dX11_bases_12 : decode cX11_bases 12 = .ok (.ifCond .ne 5, 3) := by decide +kernel
theorem dX11_bases_15 : decode cX11_bases 15 = .ok (.iconst (-1), 1) := by decide +kernel
theorem dX11_bases_16 : decode cX11_bases 16 = .ok (.ireturn, 1) := by decide +kernel
theorem dX11_bases_17 : decode cX11_bases 17 = .ok (.aload_n 0, 1) := by decide +kernel
theorem dX11_bases_18 : decode cX11_bases 18 = .ok (.aload_n 0, 1) := by decide +kernel
theorem dX11_bases_19 : decode cX11_bases 19 = .ok (.getfield 13, 3) := by decide +kernel
theorem dX11_bases_22 : decode cX11_bases 22 = .ok (.invokevirtual 207, 3) := by decide +kernel
theorem dX11_bases_25 : decode cX11_bases 25 = .ok (.iconst 1, 1) := by decide +kernel
theorem dX11_bases_26 : decode cX11_bases 26 = .ok (.istore_n 1, 1) := by decide +kernel
theorem dX11_bases_27 : decode cX11_bases 27 = .ok (.iconst 1, 1) := by decide +kernel
theorem dX11_bases_28 : decode cX11_bases 28 = .ok (.istore_n 2, 1) := by decide +kernel
theorem dX11_bases_29 : decode cX11_bases 29 = .ok (.iload_n 2, 1) := by decide +kernel
theorem dX11_bases_30 : decode cX11_bases 30 = .ok (.iconst 1, 1) := by decide +kernel
theorem dX11_bases_31 : decode cX11_bases 31 = .ok (.aload_n 0, 1) := by decide +kernel
theorem dX11_bases_32 : decode cX11_bases 32 = .ok (.getfield 13, 3) := by decide +kernel
theorem dX11_bases_35 : decode cX11_bases 35 = .ok (.bipush 36, 2) := by decide +kernel
theorem dX11_bases_37 : decode cX11_bases 37 = .ok (.iaload, 1) := by decide +kernel
theorem dX11_bases_38 : decode cX11_bases 38 = .ok (.ishl, 1) := by decide +kernel
theorem dX11_bases_39 : decode cX11_bases 39 = .ok (.if_icmp .ge 66, 3) := by decide +kernel
theorem dX11_bases_42 : decode cX11_bases 42 = .ok (.iconst 1, 1) := by decide +kernel
theorem dX11_bases_43 : decode cX11_bases 43 = .ok (.istore_n 3, 1) := by decide +kernel
theorem dX11_bases_44 : decode cX11_bases 44 = .ok (.iload_n 3, 1) := by decide +kernel
theorem dX11_bases_45 : decode cX11_bases 45 = .ok (.iconst 1, 1) := by decide +kernel
theorem dX11_bases_46 : decode cX11_bases 46 = .ok (.aload_n 0, 1) := by decide +kernel
theorem dX11_bases_47 : decode cX11_bases 47 = .ok (.getfield 13, 3) := by decide +kernel
theorem dX11_bases_50 : decode cX11_bases 50 = .ok (.bipush 37, 2) := by decide +kernel
theorem dX11_bases_52 : decode cX11_bases 52 = .ok (.iaload, 1) := by decide +kernel
theorem dX11_bases_53 : decode cX11_bases 53 = .ok (.ishl, 1) := by decide +kernel
theorem dX11_bases_54 : decode cX11_bases 54 = .ok (.if_icmp .ge 45, 3) := by decide +kernel
theorem dX11_bases_57 : decode cX11_bases 57 = .ok (.iload_n 2, 1) := by decide +kernel
theorem dX11_bases_58 : decode cX11_bases 58 = .ok (.invokestatic 204, 3) := by decide +kernel
theorem dX11_bases_61 : decode cX11_bases 61 = .ok (.iload_n 3, 1) := by decide +kernel
theorem dX11_bases_62 : decode cX11_bases 62 = .ok (.invokestatic 204, 3) := by decide +kernel
theorem dX11_bases_65 : decode cX11_bases 65 = .ok (.if_icmp .eq 6, 3) := by decide +kernel
theorem dX11_bases_68 : decode cX11_bases 68 = .ok (.goto 25, 3) := by decide +kernel
theorem dX11_bases_71 : decode cX11_bases 71 = .ok (.iload_n 1, 1) := by decide +kernel
theorem dX11_bases_72 : decode cX11_bases 72 = .ok (.aload_n 0, 1) := by decide +kernel
theorem dX11_bases_73 : decode cX11_bases 73 = .ok (.getfield 38, 3) := by decide +kernel
theorem dX11_bases_76 : decode cX11_bases 76 = .ok (.bipush 64, 2) := by decide +kernel
theorem dX11_bases_78 : decode cX11_bases 78 = .ok (.iload_n 2, 1) := by decide +kernel
theorem dX11_bases_79 : decode cX11_bases 79 = .ok (.imul, 1) := by decide +kernel
theorem dX11_bases_80 : decode cX11_bases 80 = .ok (.iload_n 3, 1) := by decide +kernel
theorem dX11_bases_81 : decode cX11_bases 81 = .ok (.iadd, 1) := by decide +kernel
theorem dX11_bases_82 : decode cX11_bases 82 = .ok (.iaload, 1) := by decide +kernel
theorem dX11_bases_83 : decode cX11_bases 83 = .ok (.ifCond .ne 7, 3) := by decide +kernel
theorem dX11_bases_86 : decode cX11_bases 86 = .ok (.iconst 0, 1) := by decide +kernel
theorem dX11_bases_87 : decode cX11_bases 87 = .ok (.goto 4, 3) := by decide +kernel
theorem dX11_bases_90 : decode cX11_bases 90 = .ok (.iconst 1, 1) := by decide +kernel
theorem dX11_bases_91 : decode cX11_bases 91 = .ok (.iadd, 1) := by decide +kernel
theorem dX11_bases_92 : decode cX11_bases 92 = .ok (.istore_n 1, 1) := by decide +kernel
theorem dX11_bases_93 : decode cX11_bases 93 = .ok (.iinc 3 1, 3) := by decide +kernel
theorem dX11_bases_96 : decode cX11_bases 96 = .ok (.goto (-52), 3) := by decide +kernel
theorem dX11_bases_99 : decode cX11_bases 99 = .ok (.iinc 2 1, 3) := by decide +kernel
theorem dX11_bases_102 : decode cX11_bases 102 = .ok (.goto (-73), 3) := by decide +kernel
theorem dX11_bases_105 : decode cX11_bases 105 = .ok (.iload_n 1, 1) := by decide +kernel
theorem dX11_bases_106 : decode cX11_bases 106 = .ok (.ireturn, 1) := by decide +kernel
theorem dX11_adjoint_0 : decode cX11_adjoint 0 = .ok (.aload_n 0, 1) := by decide +kernel
theorem dX11_adjoint_1 : decode cX11_adjoint 1 = .ok (.iconst 0, 1) := by decide +kernel
theorem dX11_adjoint_2 : decode cX11_adjoint 2 = .ok (.putfield 83, 3) := by decide +kernel
theorem dX11_adjoint_5 : decode cX11_adjoint 5 = .ok (.aload_n 0, 1) := by decide +kernel
theorem dX11_adjoint_6 : decode cX11_adjoint 6 = .ok (.aload_n 0, 1) := by decide +kernel
theorem dX11_adjoint_7 : decode cX11_adjoint 7 = .ok (.getfield 13, 3) := by decide +kernel
theorem dX11_adjoint_10 : decode cX11_adjoint 10 = .ok (.iload_n 1, 1) := by decide +kernel
theorem dX11_adjoint_11 : decode cX11_adjoint 11 = .ok (.iload_n 2, 1) := by decide +kernel
theorem dX11_adjoint_12 : decode cX11_adjoint 12 = .ok (.invokevirtual 158, 3) := by decide +kernel
theorem dX11_adjoint_15 : decode cX11_adjoint 15 = .ok (.ifCond .eq 20, 3) := by decide +kernel
theorem dX11_adjoint_18 : decode cX11_adjoint 18 = .ok (.aload_n 0, 1) := by decide +kernel
theorem dX11_adjoint_19 : decode cX11_adjoint 19 = .ok (.getfield 13, 3) := by decide +kernel
theorem dX11_adjoint_22 : decode cX11_adjoint 22 = .ok (.bipush 36, 2) := by decide +kernel
theorem dX11_adjoint_24 : decode cX11_adjoint 24 = .ok (.iaload, 1) := by decide +kernel
theorem dX11_adjoint_25 : decode cX11_adjoint 25 = .ok (.aload_n 0, 1) := by decide +kernel
theorem dX11_adjoint_26 : decode cX11_adjoint 26 = .ok (.getfield 13, 3) := by decide +kernel
theorem dX11_adjoint_29 : decode cX11_adjoint 29 = .ok (.bipush 37, 2) := by decide +kernel
theorem dX11_adjoint_31 : decode cX11_adjoint 31 = .ok (.iaload, 1) := by decide +kernel
theorem dX11_adjoint_32 : decode cX11_adjoint 32 = .ok (.if_icmp .eq 6, 3) := by decide +kernel
theorem dX11_adjoint_35 : decode cX11_adjoint 35 = .ok (.ldc 133, 2) := by decide +kernel
theorem dX11_adjoint_37 : decode cX11_adjoint 37 = .ok (.ireturn, 1) := by decide +kernel
theorem dX11_adjoint_38 : decode cX11_adjoint 38 = .ok (.aload_n 0, 1) := by decide +kernel
theorem dX11_adjoint_39 : decode cX11_adjoint 39 = .ok (.aload_n 0, 1) := by decide +kernel
theorem dX11_adjoint_40 : decode cX11_adjoint 40 = .ok (.getfield 13, 3) := by decide +kernel
theorem dX11_adjoint_43 : decode cX11_adjoint 43 = .ok (.invokevirtual 207, 3) := by decide +kernel
theorem dX11_adjoint_46 : decode cX11_adjoint 46 = .ok (.iconst 1, 1) := by decide +kernel
theorem dX11_adjoint_47 : decode cX11_adjoint 47 = .ok (.aload_n 0, 1) := by decide +kernel
theorem dX11_adjoint_48 : decode cX11_adjoint 48 = .ok (.getfield 13, 3) := by decide +kernel
theorem dX11_adjoint_51 : decode cX11_adjoint 51 = .ok (.bipush 36, 2) := by decide +kernel
theorem dX11_adjoint_53 : decode cX11_adjoint 53 = .ok (.iaload, 1) := by decide +kernel
theorem dX11_adjoint_54 : decode cX11_adjoint 54 = .ok (.ishl, 1) := by decide +kernel
theorem dX11_adjoint_55 : decode cX11_adjoint 55 = .ok (.iconst 1, 1) := by decide +kernel
theorem dX11_adjoint_56 : decode cX11_adjoint 56 = .ok (.isub, 1) := by decide +kernel
theorem dX11_adjoint_57 : decode cX11_adjoint 57 = .ok (.istore_n 3, 1) := by decide +kernel
theorem dX11_adjoint_58 : decode cX11_adjoint 58 = .ok (.aload_n 0, 1) := by decide +kernel
theorem dX11_adjoint_59 : decode cX11_adjoint 59 = .ok (.getfield 38, 3) := by decide +kernel
theorem dX11_adjoint_62 : decode cX11_adjoint 62 = .ok (.bipush 64, 2) := by decide +kernel
theorem dX11_adjoint_64 : decode cX11_adjoint 64 = .ok (.iload_n 3, 1) := by decide +kernel
theorem dX11_adjoint_65 : decode cX11_adjoint 65 = .ok (.iconst 1, 1) := by decide +kernel
theorem dX11_adjoint_66 : decode cX11_adjoint 66 = .ok (.iload_n 2, 1) := by decide +kernel
theorem dX11_adjoint_67 : decode cX11_adjoint 67 = .ok (.ishl, 1) := by decide +kernel
theorem dX11_adjoint_68 : decode cX11_adjoint 68 = .ok (.iconst (-1), 1) := by decide +kernel
theorem dX11_adjoint_69 : decode cX11_adjoint 69 = .ok (.ixor, 1) := by decide +kernel
theorem dX11_adjoint_70 : decode cX11_adjoint 70 = .ok (.iand, 1) := by decide +kernel
theorem dX11_adjoint_71 : decode cX11_adjoint 71 = .ok (.imul, 1) := by decide +kernel
theorem dX11_adjoint_72 : decode cX11_adjoint 72 = .ok (.iload_n 3, 1) := by decide +kernel
theorem dX11_adjoint_73 : decode cX11_adjoint 73 = .ok (.iconst 1, 1) := by decide +kernel
theorem dX11_adjoint_74 : decode cX11_adjoint 74 = .ok (.iload_n 1, 1) := by decide +kernel
theorem dX11_adjoint_75 : decode cX11_adjoint 75 = .ok (.ishl, 1) := by decide +kernel
theorem dX11_adjoint_76 : decode cX11_adjoint 76 = .ok (.iconst (-1), 1) := by decide +kernel
theorem dX11_adjoint_77 : decode cX11_adjoint 77 = .ok (.ixor, 1) := by decide +kernel
theorem dX11_adjoint_78 : decode cX11_adjoint 78 = .ok (.iand, 1) := by decide +kernel
theorem dX11_adjoint_79 : decode cX11_adjoint 79 = .ok (.iadd, 1) := by decide +kernel
theorem dX11_adjoint_80 : decode cX11_adjoint 80 = .ok (.iaload, 1) := by decide +kernel
theorem dX11_adjoint_81 : decode cX11_adjoint 81 = .ok (.istore 4, 2) := by decide +kernel
theorem dX11_adjoint_83 : decode cX11_adjoint 83 = .ok (.iload_n 1, 1) := by decide +kernel
theorem dX11_adjoint_84 : decode cX11_adjoint 84 = .ok (.iload_n 2, 1) := by decide +kernel
theorem dX11_adjoint_85 : decode cX11_adjoint 85 = .ok (.iadd, 1) := by decide +kernel
theorem dX11_adjoint_86 : decode cX11_adjoint 86 = .ok (.iconst 2, 1) := by decide +kernel
theorem dX11_adjoint_87 : decode cX11_adjoint 87 = .ok (.irem, 1) := by decide +kernel
theorem dX11_adjoint_88 : decode cX11_adjoint 88 = .ok (.ifCond .ne 8, 3) := by decide +kernel
theorem dX11_adjoint_91 : decode cX11_adjoint 91 = .ok (.iload 4, 2) := by decide +kernel
theorem dX11_adjoint_93 : decode cX11_adjoint 93 = .ok (.goto 6, 3) := by decide +kernel
theorem dX11_adjoint_96 : decode cX11_adjoint 96 = .ok (.iload 4, 2) := by decide +kernel
theorem dX11_adjoint_98 : decode cX11_adjoint 98 = .ok (.ineg, 1) := by decide +kernel
theorem dX11_adjoint_99 : decode cX11_adjoint 99 = .ok (.ireturn, 1) := by decide +kernel
theorem mo_total {σ : sg} {x : aW} {α : aS} (h : MInv σ α) (ok : aOK α) : Mt mX11_total 3 0 0 [.ref i_M] (wd σ x) (MPost σ x (opTotal α) α) := by
  refine Mt.of MI_X11_total (Nat.le_of_ble_eq_true rfl) (fun X hC hR hT => ?_)
  have hT1 : σ.2.2 i_m_now 36 = nI (tT α).1 := h.2.1.1
  have hTB : TB (σ.2.2 i_m_now) (tT α) := h.2.1.TB ok.2.2.1
  have h1 := M_thr h 0
  refine R_aload_n (i := 0) hC dX11_total_0 rfl rfl (R_iconst (v := 0) hC dX11_total_1 (by decide) (R_pI hC dX11_total_2 fl_X11_83 L_M rfl (R_aload_n (i := 0) hC dX11_total_5 rfl rfl (R_gR hC dX11_total_6 fl_X11_13 L_M rfl (R_bipush (v := 36) hC dX11_total_9 (by decide) (R_aI hC dX11_total_11 L_m_now 36 rfl (by decide) (by decide) ?_))))))
  refine R_top (y := nI (tT α).1) hT1 ?_
  refine R_if_ne hC 19 dX11_total_12 (by decide) (fun h12 => ?_) (fun h12 => ?_)
  · refine R_aload_n (i := 0) hC dX11_total_19 rfl rfl (R_aload_n (i := 0) hC dX11_total_20 rfl rfl (R_gR hC dX11_total_21 fl_X11_13 L_M rfl ?_))
    refine R_V1g hC hR dX11_total_24 MV_X11_isTotal ml_X11_227 L_M rfl (s_isTotal (sG σ i_M 0 0) x i_m_now L_m_now (by decide) (tT α) hTB) (by decide) ⟨by decide, by decide⟩ (Nat.le_of_ble_eq_true rfl) (fun r w1 hq => ?_)
    obtain ⟨rfl, g, rfl, hg⟩ := hq
    refine R_if_eq hC 34 dX11_total_27 (by decide) (fun h27 => ?_) (fun h27 => ?_)
    · refine R_iconst (v := 0) hC dX11_total_34 (by decide) ?_
      exact R_iret hC hT dX11_total_35 rfl (by
      have ev : ¬ nI (tT α).1 = 0 → opTotal α = b2i (tot (tT α)) := fun z => by unfold opTotal; rw [if_neg (fun y => z ((T0_iff ok).mpr y))]
      first
      | (rw [ev h12, b2i_t (b2i_ne h27)]; exact (MD.of h hg).p)
      | (have h28 := h27; rw [ev h12, b2i_f (b2i_0 h28)]; exact (MD.of h hg).p)
      | (have e : opTotal α = -1 := (by unfold opTotal; rw [if_pos ((T0_iff ok).mp h12)]); rw [e]; exact MPost.i h1 (M_ceq σ)))
    · refine R_iconst (v := 1) hC dX11_total_30 (by decide) (R_goto hC 35 dX11_total_31 (by decide) ?_)
      exact R_iret hC hT dX11_total_35 rfl (by
      have ev : ¬ nI (tT α).1 = 0 → opTotal α = b2i (tot (tT α)) := fun z => by unfold opTotal; rw [if_neg (fun y => z ((T0_iff ok).mpr y))]
      first
      | (rw [ev h12, b2i_t (b2i_ne h27)]; exact (MD.of h hg).p)
      | (have h28 := h27; rw [ev h12, b2i_f (b2i_0 h28)]; exact (MD.of h hg).p)
      | (have e : opTotal α = -1 := (by unfold opTotal; rw [if_pos ((T0_iff ok).mp h12)]); rw [e]; exact MPost.i h1 (M_ceq σ)))
  · refine R_iconst (v := (-1)) hC dX11_total_15 (by decide) (R_goto hC 35 dX11_total_16 (by decide) ?_)
    exact R_iret hC hT dX11_total_35 rfl (by
    have ev : ¬ nI (tT α).1 = 0 → opTotal α = b2i (tot (tT α)) := fun z => by unfold opTotal; rw [if_neg (fun y => z ((T0_iff ok).mpr y))]
    first
    | (rw [ev h12, b2i_t (b2i_ne h27)]; exact (MD.of h hg).p)
    | (have h28 := h27; rw [ev h12, b2i_f (b2i_0 h28)]; exact (MD.of h hg).p)
    | (have e : opTotal α = -1 := (by unfold opTotal; rw [if_pos ((T0_iff ok).mp h12)]); rw [e]; exact MPost.i h1 (M_ceq σ)))
