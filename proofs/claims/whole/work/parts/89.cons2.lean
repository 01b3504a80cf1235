/-! ===== constructors with loops ===== -/
theorem ao_X7 : Cond.arrayOver (.object RX7) ∈ lw_nl := nmt tc_1 85 rfl (by decide +kernel)
theorem ao_X4 : Cond.arrayOver (.object RX4) ∈ lw_nl := nmt tc_1 99 rfl (by decide +kernel)
theorem DN.sub {w : aW} {n : Nat} {ex ex2 : List Nat} (h : DN w n ex) (e : ∀ i, i ∈ ex → i ∈ ex2 ∨ w.2 i = wdc sg0 i) : DN w n ex2 := by
  obtain ⟨h1, h2, h3, h4, h5⟩ := h
  refine ⟨h1, h2, h3, fun i h6 h7 h8 => ?_, h5⟩
  by_cases z : i ∈ ex
  · rcases e i z with y | y
    · exact absurd y h8
    · exact y
  · exact h4 i h6 h7 z
section QRULES
variable {m : mi} {X : aX} {pc : Nat} {ls : List (Option Value)} {st : List Value} {w : aW} {cl sl : Nat}
theorem B_q (hC : Cx m X) {dd mcX msX N t idx n : Nat} {ex : List Nat} {C : String} (hR : Rd X dd mcX msX) (hd : decode m.2.1 pc = .ok (.anewarray idx, 3)) (hcl : Cond.classLink m.1.cls idx C ∈ lw_gl) (hov : Cond.arrayOver (.object C) ∈ lw_nl) (ht : ∀ V, (tys V)[t]? = some (V.2.1 t, .object C)) (hN : N ≤ 4096) (hD : DN w n ex) (h9 : n < 900) (hroom : cl + 1 ≤ mcX ∧ sl + N ≤ msX)
    (kk : ∀ w2, DN w2 (n + 1) (n :: ex) → w2.2 n = some (.inl (t, N, .inr (.inr (.inr (.inr (fun _ => none)))))) → (∀ i, i < n → w2.2 i = w.2 i) → Rw m X (pc + 3) ls (.ref n :: st) w2 (cl + 1) (sl + N)) : Rw m X pc ls (.int (nI N) :: st) w cl sl := by
  have h1 := hD.1
  refine R_newQ (t := t) hC hR hd hcl hov ht (by omega) (by omega) (by rw [h1]; exact hD.lt) hroom ?_
  rw [h1]
  have z := hD.new h9 (.inl (t, N, .inr (.inr (.inr (.inr (fun _ => none))))))
  rw [h1] at z
  refine kk _ z (va_up_eq _ _ _) (fun i hi => ?_)
  show (if i = n then _ else w.2 i) = _
  rw [if_neg (by omega)]
theorem B_aast (hC : Cx m X) {a v N t ci n : Nat} {ex : List Nat} {r : vw_C} {vs : List Value} {f : Nat → Option Nat} {q : Int32} (hd : decode m.2.1 pc = .ok (.aastore, 1)) (hD : DN w n ex) (ha : a ∈ ex) (h16 : 16 ≤ a) (han : a < n) (hwa : w.2 a = some (.inl (t, N, .inr (.inr (.inr (.inr f)))))) (ht : ∀ V, (tys V)[t]? = some (V.2.1 t, .object r.1)) (hwv : w.2 v = some (.inr (ci, vs))) (hc : vwCl[ci]? = some r) (j : Nat) (hq : q = nI j) (hj : j < N) (hn : N < 2 ^ 31)
    (kk : ∀ w2, DN w2 n ex → w2.2 a = some (.inl (t, N, .inr (.inr (.inr (.inr (va_up f j (some v))))))) → (∀ i, i ≠ a → w2.2 i = w.2 i) → Rw m X (pc + 1) ls st w2 cl sl) : Rw m X pc ls (.ref v :: .int q :: .ref a :: st) w cl sl := by
  refine R_aast hC hd h16 hwa ht hwv hc j hq hj hn ?_
  exact kk _ (hD.up ha h16 han _) (va_up_eq _ _ _) (fun i hi => if_neg hi)
end QRULES
/-- the first j places are taken, from b on, d apart -/
def rfF (b d j : Nat) : Nat → Option Nat := fun k => if k < j then some (b + d * k) else none
theorem rfF_0 (b d : Nat) : (fun _ => none) = rfF b d 0 := by funext k; unfold rfF; rw [if_neg (Nat.not_lt_zero _)]
theorem rfF_s (b d j : Nat) : va_up (rfF b d j) j (some (b + d * j)) = rfF b d (j + 1) := by
  funext k
  unfold va_up rfF
  by_cases z : k = j
  · rw [if_pos z, if_pos (by omega), z]
  · rw [if_neg z]
    by_cases y : k < j
    · rw [if_pos y, if_pos (by omega)]
    · rw [if_neg y, if_neg (by omega)]
theorem rfF_lay {fl : List (Nat × Nat)} {b d N : Nat} (h : ∀ k, k < N → fl[k]? = some (2, b + d * k)) (hl : fl.length = N) : rfF b d N = fun j => (fl[j]?).map Prod.snd := by
  funext k
  unfold rfF
  by_cases z : k < N
  · rw [if_pos z, h k z]; rfl
  · rw [if_neg z, List.getElem?_eq_none (by omega)]; rfl

theorem b_X2 {w : aW} {ex : List Nat} (hex : ∀ i, i ∈ ex → i < 25) (hD : DN w (25 + 1) (25 :: ex)) (he : w.2 25 = some (.inr (2, df2))) : Mt mX2_init 2 81 1600 [.ref 25] w (fun r w2 => r = none ∧ DN w2 107 ex ∧ ∀ i, i < 25 → w2.2 i = w.2 i) := by
  refine Mt.of MI_X2_init (Nat.le_of_ble_eq_true rfl) (fun X hC hR hT => ?_)
  have loop : ∀ j, j ≤ 40 → ∀ w2, DN w2 (27 + 2 * j) (26 :: ex) → w2.2 25 = some (.inr (2, [.ref 26, .int 0, .int 0])) → w2.2 26 = some (.inl (3, 40, .inr (.inr (.inr (.inr (rfF 27 2 j)))))) → (∀ i, i < 25 → w2.2 i = w.2 i) → Rw mX2_init X 15 [some (.ref 25), some (.int (nI j))] [] w2 (1 + 2 * j) (40 + 39 * j) := by
    refine up_loop 40 ?_ ?_
    · intro w2 h1 h2 h3 h4
      refine R_iload_n (i := 1) hC dX2_init_15 rfl rfl (R_bipush (v := 40) hC dX2_init_16 (by decide) ?_)
      refine R_icmp_ge hC 40 dX2_init_18 (by decide) (fun _ => ?_) (fun h => absurd (Int32.le_refl _) h)
      refine R_vret hC hT dX2_init_40 rfl ⟨rfl, h1.done (h3.trans ?_), h4⟩
      rw [wdc_at L_past_a]
      rw [rfF_lay fl_past rfl]
      rfl
    · intro j hj ih w2 h1 h2 h3 h4
      refine R_iload_n (i := 1) hC dX2_init_15 rfl rfl (R_bipush (v := 40) hC dX2_init_16 (by decide) ?_)
      refine R_icmp_ge hC 40 dX2_init_18 (by decide) (fun h => absurd h (nI_ge (b := 40) hj (by decide))) (fun _ => ?_)
      refine R_aload_n (i := 0) hC dX2_init_21 rfl rfl (R_get hC dX2_init_22 fl_X2_11 h2 rfl (R_iload_n (i := 1) hC dX2_init_25 rfl rfl ?_))
      refine B_obj (ci := 7) (n := 27 + 2 * j) (fs := df7) hC hR dX2_init_26 nl_X2_9 in_X7 it_X7 rfl cw_X7 tyX7_ok df7_ok.1 df7_ok.2 h1 (by omega) ⟨by omega, by omega⟩ (fun w3 k1 k2 k3 => ?_)
      refine R_dup hC dX2_init_29 rfl ?_
      refine R_callI (As := []) hC hR dX2_init_30 MN_X7_init ml_X2_17 (b_X7 (a := 27 + 2 * j) (TL_past j hj) k1 k2) rfl (by decide) ⟨by omega, by omega⟩ (Nat.le_of_ble_eq_true rfl) (fun r w4 hq => ?_)
      obtain ⟨rfl, q1, q2⟩ := hq
      have o1 : ∀ i, i < 27 + 2 * j → w4.2 i = w2.2 i := fun i hi => (q2 i hi).trans (k3 i hi)
      have c7 : w4.2 (27 + 2 * j) = some (.inr (7, [.int 0, .int 0, .ref (27 + 2 * j + 1)])) := (q1.2.2.2.1 (27 + 2 * j) (by omega) (by omega) (fun z => by rcases List.mem_cons.mp z with y | y; omega; have := hex _ y; omega)).trans (wdc_at (TL_past j hj).1)
      refine B_aast (a := 26) (v := 27 + 2 * j) (t := 3) (ci := 7) hC dX2_init_33 q1 List.mem_cons_self (by decide) (by omega) ((o1 26 (by omega)).trans h3) (fun V => rfl) c7 rfl j rfl hj (by decide) (fun w5 k4 k5 k6 => ?_)
      rw [rfF_s] at k5
      refine R_iinc hC dX2_init_34 rfl (inc1 _) (by decide) rfl (R_goto hC 15 dX2_init_37 (by decide) ?_)
      refine R_widen (cl' := 1 + 2 * (j + 1)) (sl' := 40 + 39 * (j + 1)) (by omega) (by omega) ?_
      exact ih w5 k4 ((k6 25 (by decide)).trans ((o1 25 (by omega)).trans h2)) k5 (fun i hi => (k6 i (by omega)).trans ((o1 i (by omega)).trans (h4 i hi)))
  refine R_aload_n (i := 0) hC dX2_init_0 rfl rfl (R_obj hC hR dX2_init_1 (by decide) ol_X2 oi_i oi_c (Nat.le_of_ble_eq_true rfl) ?_)
  refine R_aload_n (i := 0) hC dX2_init_4 rfl rfl (R_bipush (v := 40) hC dX2_init_5 (by decide) (R_top (y := nI 40) rfl ?_))
  refine B_q (t := 3) (n := 26) hC hR dX2_init_7 nl_X2_9 ao_X7 (fun V => rfl) (by decide) hD (by decide) ⟨by decide, by decide⟩ (fun w1 k1 k2 k3 => ?_)
  refine B_put (n := 27) (a := 25) (v := .ref 26) hC dX2_init_10 fl_X2_11 rfl k1 (by simp) (by decide) (by decide) ((k3 25 (by decide)).trans he) (Nat.le_of_ble_eq_true rfl) (fun C T N h => by cases h; rfl) (fun _ => ⟨rfl, rfl⟩) (fun w2 k4 k5 k6 => ?_)
  refine R_iconst (v := 0) hC dX2_init_13 (by decide) (R_istore_n (i := 1) hC dX2_init_14 rfl (by decide) rfl ?_)
  refine loop 0 (by decide) w2 (k4.sub ?_) k5 ((k6 26 (by decide)).trans (k2.trans (by rw [rfF_0 27 2]))) (fun i hi => (k6 i (by omega)).trans (k3 i (by omega)))
  intro i hi
  have hi : i = 26 ∨ i = 25 ∨ i ∈ ex := by simpa using hi
  rcases hi with rfl | rfl | z
  · exact Or.inl List.mem_cons_self
  · exact Or.inr (k5.trans (wdc_at L_past).symm)
  · exact Or.inl (List.mem_cons_of_mem _ z)
theorem b_X10 {w : aW} (hD : DN w 17 [16]) (he : w.2 16 = some (.inr (10, df10))) : Mt mX10_init 3 159 6850 [.ref 16] w (fun r w2 => r = none ∧ DN w2 176 []) := by
  refine Mt.of MI_X10_init (Nat.le_of_ble_eq_true rfl) (fun X hC hR hT => ?_)
  have fin : ∀ w2, DN w2 176 [16] → w2.2 16 = some (.inr (10, [.ref 17, .ref 19, .ref 21, .ref 23, .ref 25, .ref 107, .int 0, .ref 108, .int 0, .ref 109, .int 0, .ref 111, .ref 112, .ref 114, .ref 119, .ref 124, .ref 131, .ref 136, .ref 142])) → Rw mX10_init X 222 [some (.ref 16), some (.int (nI 5))] [] w2 159 6850 := by
    intro w2 h1 h2
    exact R_vret hC hT dX10_init_222 rfl ⟨rfl, h1.done (h2.trans (wdc_at L_U).symm)⟩
  have loop2 : ∀ j, j ≤ 5 → ∀ w2, DN w2 (151 + 5 * j) [108, 16] → w2.2 16 = some (.inr (10, [.ref 17, .ref 19, .ref 21, .ref 23, .ref 25, .ref 107, .int 0, .ref 108, .int 0, .ref 109, .int 0, .ref 111, .ref 112, .ref 114, .ref 119, .ref 124, .ref 131, .ref 136, .ref 142])) → w2.2 108 = some (.inl (4, 5, .inr (.inr (.inr (.inr (rfF 151 5 j)))))) → Rw mX10_init X 198 [some (.ref 16), some (.int (nI j))] [] w2 (134 + 5 * j) (6585 + 53 * j) := by
    refine up_loop 5 ?_ ?_
    · intro w2 h1 h2 h3
      refine R_iload_n (i := 1) hC dX10_init_198 rfl rfl (R_iconst (v := 4) hC dX10_init_199 (by decide) ?_)
      refine R_icmp_gt hC 222 dX10_init_200 (by decide) (fun _ => ?_) (fun h => absurd (by decide) h)
      refine fin w2 (h1.done (h3.trans ?_)) h2
      rw [wdc_at L_scr_a, rfF_lay fl_scr rfl]
      rfl
    · intro j hj ih w2 h1 h2 h3
      refine R_iload_n (i := 1) hC dX10_init_198 rfl rfl (R_iconst (v := 4) hC dX10_init_199 (by decide) ?_)
      refine R_icmp_gt hC 222 dX10_init_200 (by decide) (fun h => absurd ((nI_ltI (a := 4) (b := j) (by decide) (by omega)).mp h) (by omega)) (fun _ => ?_)
      refine R_aload_n (i := 0) hC dX10_init_203 rfl rfl (R_get hC dX10_init_204 fl_X10_42 h2 rfl (R_iload_n (i := 1) hC dX10_init_207 rfl rfl ?_))
      refine B_obj (ci := 4) (n := 151 + 5 * j) (fs := df4) hC hR dX10_init_208 nl_X10_40 in_X4 it_X4 rfl cw_X4 tyX4_ok df4_ok.1 df4_ok.2 h1 (by omega) ⟨by omega, by omega⟩ (fun w3 k1 k2 k3 => ?_)
      refine R_dup hC dX10_init_211 rfl ?_
      refine R_callI (As := []) hC hR dX10_init_212 MN_X4_init ml_X10_98 (b_X4 (b := 151 + 5 * j) (SL_scr j hj) k1 k2) rfl (by decide) ⟨by omega, by omega⟩ (Nat.le_of_ble_eq_true rfl) (fun r w4 hq => ?_)
      obtain ⟨rfl, q1, q2⟩ := hq
      have o1 : ∀ i, i < 151 + 5 * j → w4.2 i = w2.2 i := fun i hi => (q2 i hi).trans (k3 i hi)
      have c7 : w4.2 (151 + 5 * j) = some (.inr (4, [.int 0, .ref (151 + 5 * j + 1), .ref (151 + 5 * j + 2), .ref (151 + 5 * j + 3), .ref (151 + 5 * j + 4)])) := (q1.2.2.2.1 (151 + 5 * j) (by omega) (by omega) (by simp; omega)).trans (wdc_at (SL_scr j hj).1)
      refine B_aast (a := 108) (v := 151 + 5 * j) (t := 4) (ci := 4) hC dX10_init_215 q1 List.mem_cons_self (by decide) (by omega) ((o1 108 (by omega)).trans h3) (fun V => rfl) c7 rfl j rfl hj (by decide) (fun w5 k4 k5 k6 => ?_)
      rw [rfF_s] at k5
      refine R_iinc hC dX10_init_216 rfl (inc1 _) (by decide) rfl (R_goto hC 198 dX10_init_219 (by decide) ?_)
      refine R_widen (cl' := 134 + 5 * (j + 1)) (sl' := 6585 + 53 * (j + 1)) (by omega) (by omega) ?_
      exact ih w5 k4 ((k6 16 (by decide)).trans ((o1 16 (by omega)).trans h2)) k5
  have loop1 : ∀ j, j ≤ 4 → ∀ w2, DN w2 (143 + 2 * j) [107, 108, 16] → w2.2 16 = some (.inr (10, [.ref 17, .ref 19, .ref 21, .ref 23, .ref 25, .ref 107, .int 0, .ref 108, .int 0, .ref 109, .int 0, .ref 111, .ref 112, .ref 114, .ref 119, .ref 124, .ref 131, .ref 136, .ref 142])) → w2.2 107 = some (.inl (3, 4, .inr (.inr (.inr (.inr (rfF 143 2 j)))))) → w2.2 108 = some (.inl (4, 5, .inr (.inr (.inr (.inr (fun _ => none)))))) → Rw mX10_init X 172 [some (.ref 16), some (.int (nI j))] [] w2 (126 + 2 * j) (6429 + 39 * j) := by
    refine up_loop 4 ?_ ?_
    · intro w2 h1 h2 h3 h4
      refine R_iload_n (i := 1) hC dX10_init_172 rfl rfl (R_iconst (v := 4) hC dX10_init_173 (by decide) ?_)
      refine R_icmp_ge hC 196 dX10_init_174 (by decide) (fun _ => ?_) (fun h => absurd (Int32.le_refl _) h)
      refine R_iconst (v := 0) hC dX10_init_196 (by decide) (R_istore_n (i := 1) hC dX10_init_197 rfl (by decide) rfl ?_)
      refine loop2 0 (by decide) w2 (h1.done (h3.trans ?_)) h2 (h4.trans (by rw [rfF_0 151 5]))
      rw [wdc_at L_kept_a, rfF_lay fl_kept rfl]
      rfl
    · intro j hj ih w2 h1 h2 h3 h4
      refine R_iload_n (i := 1) hC dX10_init_172 rfl rfl (R_iconst (v := 4) hC dX10_init_173 (by decide) ?_)
      refine R_icmp_ge hC 196 dX10_init_174 (by decide) (fun h => absurd h (nI_ge (b := 4) hj (by decide))) (fun _ => ?_)
      refine R_aload_n (i := 0) hC dX10_init_177 rfl rfl (R_get hC dX10_init_178 fl_X10_36 h2 rfl (R_iload_n (i := 1) hC dX10_init_181 rfl rfl ?_))
      refine B_obj (ci := 7) (n := 143 + 2 * j) (fs := df7) hC hR dX10_init_182 nl_X10_16 in_X7 it_X7 rfl cw_X7 tyX7_ok df7_ok.1 df7_ok.2 h1 (by omega) ⟨by omega, by omega⟩ (fun w3 k1 k2 k3 => ?_)
      refine R_dup hC dX10_init_185 rfl ?_
      refine R_callI (As := []) hC hR dX10_init_186 MN_X7_init ml_X10_18 (b_X7 (a := 143 + 2 * j) (TL_kept j hj) k1 k2) rfl (by decide) ⟨by omega, by omega⟩ (Nat.le_of_ble_eq_true rfl) (fun r w4 hq => ?_)
      obtain ⟨rfl, q1, q2⟩ := hq
      have o1 : ∀ i, i < 143 + 2 * j → w4.2 i = w2.2 i := fun i hi => (q2 i hi).trans (k3 i hi)
      have c7 : w4.2 (143 + 2 * j) = some (.inr (7, [.int 0, .int 0, .ref (143 + 2 * j + 1)])) := (q1.2.2.2.1 (143 + 2 * j) (by omega) (by omega) (by simp; omega)).trans (wdc_at (TL_kept j hj).1)
      refine B_aast (a := 107) (v := 143 + 2 * j) (t := 3) (ci := 7) hC dX10_init_189 q1 List.mem_cons_self (by decide) (by omega) ((o1 107 (by omega)).trans h3) (fun V => rfl) c7 rfl j rfl hj (by decide) (fun w5 k4 k5 k6 => ?_)
      rw [rfF_s] at k5
      refine R_iinc hC dX10_init_190 rfl (inc1 _) (by decide) rfl (R_goto hC 172 dX10_init_193 (by decide) ?_)
      refine R_widen (cl' := 126 + 2 * (j + 1)) (sl' := 6429 + 39 * (j + 1)) (by omega) (by omega) ?_
      exact ih w5 k4 ((k6 16 (by decide)).trans ((o1 16 (by omega)).trans h2)) k5 ((k6 108 (by decide)).trans ((o1 108 (by omega)).trans h4))
  refine R_aload_n (i := 0) hC dX10_init_0 rfl rfl ?_
  refine R_obj hC hR dX10_init_1 (by decide) ol_X10 oi_i oi_c (Nat.le_of_ble_eq_true rfl) ?_
  refine R_aload_n (i := 0) hC dX10_init_4 rfl rfl ?_
  refine B_obj (ci := 8) (n := 17) (fs := df8) hC hR dX10_init_5 nl_X10_9 in_X8 it_X8 rfl cw_X8 tyX8_ok df8_ok.1 df8_ok.2 hD (by decide) ⟨by decide, by decide⟩ (fun w1_ hD1 hn1 hz1 => ?_)
  have e1_16 := (hz1 16 (by decide)).trans he
  refine R_dup hC dX10_init_8 rfl ?_
  refine R_callI (As := []) hC hR dX10_init_9 MN_X8_init ml_X10_11 (b_X8 hD1 hn1) rfl (by decide) ⟨by decide, by decide⟩ (Nat.le_of_ble_eq_true rfl) (fun r w2_ hq => ?_)
  obtain ⟨rfl, hD2, hz2⟩ := hq
  have e2_16 := (hz2 16 (by decide)).trans e1_16
  refine B_put (n := 19) (a := 16) (v := .ref 17) hC dX10_init_12 fl_X10_12 rfl hD2 (by simp) (by decide) (by decide) e2_16 (Nat.le_of_ble_eq_true rfl) (fun C T N h => by cases h; rfl) (fun _ => ⟨rfl, rfl⟩) (fun w3_ hD3 he3 hz3 => ?_)
  refine R_aload_n (i := 0) hC dX10_init_15 rfl rfl ?_
  refine B_obj (ci := 7) (n := 19) (fs := df7) hC hR dX10_init_16 nl_X10_16 in_X7 it_X7 rfl cw_X7 tyX7_ok df7_ok.1 df7_ok.2 hD3 (by decide) ⟨by decide, by decide⟩ (fun w4_ hD4 hn4 hz4 => ?_)
  have e4_16 := (hz4 16 (by decide)).trans he3
  refine R_dup hC dX10_init_19 rfl ?_
  refine R_callI (As := []) hC hR dX10_init_20 MN_X7_init ml_X10_18 (b_X7 (a := 19) TL_table hD4 hn4) rfl (by decide) ⟨by decide, by decide⟩ (Nat.le_of_ble_eq_true rfl) (fun r w5_ hq => ?_)
  obtain ⟨rfl, hD5, hz5⟩ := hq
  have e5_16 := (hz5 16 (by decide)).trans e4_16
  refine B_put (n := 21) (a := 16) (v := .ref 19) hC dX10_init_23 fl_X10_19 rfl hD5 (by simp) (by decide) (by decide) e5_16 (Nat.le_of_ble_eq_true rfl) (fun C T N h => by cases h; rfl) (fun _ => ⟨rfl, rfl⟩) (fun w6_ hD6 he6 hz6 => ?_)
  refine R_aload_n (i := 0) hC dX10_init_26 rfl rfl ?_
  refine B_obj (ci := 7) (n := 21) (fs := df7) hC hR dX10_init_27 nl_X10_16 in_X7 it_X7 rfl cw_X7 tyX7_ok df7_ok.1 df7_ok.2 hD6 (by decide) ⟨by decide, by decide⟩ (fun w7_ hD7 hn7 hz7 => ?_)
  have e7_16 := (hz7 16 (by decide)).trans he6
  refine R_dup hC dX10_init_30 rfl ?_
  refine R_callI (As := []) hC hR dX10_init_31 MN_X7_init ml_X10_18 (b_X7 (a := 21) TL_before hD7 hn7) rfl (by decide) ⟨by decide, by decide⟩ (Nat.le_of_ble_eq_true rfl) (fun r w8_ hq => ?_)
  obtain ⟨rfl, hD8, hz8⟩ := hq
  have e8_16 := (hz8 16 (by decide)).trans e7_16
  refine B_put (n := 23) (a := 16) (v := .ref 21) hC dX10_init_34 fl_X10_23 rfl hD8 (by simp) (by decide) (by decide) e8_16 (Nat.le_of_ble_eq_true rfl) (fun C T N h => by cases h; rfl) (fun _ => ⟨rfl, rfl⟩) (fun w9_ hD9 he9 hz9 => ?_)
  refine R_aload_n (i := 0) hC dX10_init_37 rfl rfl ?_
  refine B_obj (ci := 7) (n := 23) (fs := df7) hC hR dX10_init_38 nl_X10_16 in_X7 it_X7 rfl cw_X7 tyX7_ok df7_ok.1 df7_ok.2 hD9 (by decide) ⟨by decide, by decide⟩ (fun w10_ hD10 hn10 hz10 => ?_)
  have e10_16 := (hz10 16 (by decide)).trans he9
  refine R_dup hC dX10_init_41 rfl ?_
  refine R_callI (As := []) hC hR dX10_init_42 MN_X7_init ml_X10_18 (b_X7 (a := 23) TL_draft hD10 hn10) rfl (by decide) ⟨by decide, by decide⟩ (Nat.le_of_ble_eq_true rfl) (fun r w11_ hq => ?_)
  obtain ⟨rfl, hD11, hz11⟩ := hq
  have e11_16 := (hz11 16 (by decide)).trans e10_16
  refine B_put (n := 25) (a := 16) (v := .ref 23) hC dX10_init_45 fl_X10_26 rfl hD11 (by simp) (by decide) (by decide) e11_16 (Nat.le_of_ble_eq_true rfl) (fun C T N h => by cases h; rfl) (fun _ => ⟨rfl, rfl⟩) (fun w12_ hD12 he12 hz12 => ?_)
  refine R_aload_n (i := 0) hC dX10_init_48 rfl rfl ?_
  refine B_obj (ci := 2) (n := 25) (fs := df2) hC hR dX10_init_49 nl_X10_29 in_X2 it_X2 rfl cw_X2 tyX2_ok df2_ok.1 df2_ok.2 hD12 (by decide) ⟨by decide, by decide⟩ (fun w13_ hD13 hn13 hz13 => ?_)
  have e13_16 := (hz13 16 (by decide)).trans he12
  refine R_dup hC dX10_init_52 rfl ?_
  refine R_callI (As := []) hC hR dX10_init_53 MN_X2_init ml_X10_31 (b_X2 (by simp) hD13 hn13) rfl (by decide) ⟨by decide, by decide⟩ (Nat.le_of_ble_eq_true rfl) (fun r w14_ hq => ?_)
  obtain ⟨rfl, hD14, hz14⟩ := hq
  have e14_16 := (hz14 16 (by decide)).trans e13_16
  refine B_put (n := 107) (a := 16) (v := .ref 25) hC dX10_init_56 fl_X10_32 rfl hD14 (by simp) (by decide) (by decide) e14_16 (Nat.le_of_ble_eq_true rfl) (fun C T N h => by cases h; rfl) (fun _ => ⟨rfl, rfl⟩) (fun w15_ hD15 he15 hz15 => ?_)
  refine R_aload_n (i := 0) hC dX10_init_59 rfl rfl ?_
  refine R_iconst (v := 4) hC dX10_init_60 (by decide) (R_top (y := nI 4) rfl ?_)
  refine B_q (t := 3) (n := 107) hC hR dX10_init_61 nl_X10_16 ao_X7 (fun V => rfl) (by decide) hD15 (by decide) ⟨by decide, by decide⟩ (fun w16_ hD16 hn16 hz16 => ?_)
  have e16_16 := (hz16 16 (by decide)).trans he15
  refine B_put (n := 108) (a := 16) (v := .ref 107) hC dX10_init_64 fl_X10_36 rfl hD16 (by simp) (by decide) (by decide) e16_16 (Nat.le_of_ble_eq_true rfl) (fun C T N h => by cases h; rfl) (fun _ => ⟨rfl, rfl⟩) (fun w17_ hD17 he17 hz17 => ?_)
  have e17_107 := (hz17 107 (by decide)).trans hn16
  refine R_aload_n (i := 0) hC dX10_init_67 rfl rfl ?_
  refine R_iconst (v := 5) hC dX10_init_68 (by decide) (R_top (y := nI 5) rfl ?_)
  refine B_q (t := 4) (n := 108) hC hR dX10_init_69 nl_X10_40 ao_X4 (fun V => rfl) (by decide) hD17 (by decide) ⟨by decide, by decide⟩ (fun w18_ hD18 hn18 hz18 => ?_)
  have e18_16 := (hz18 16 (by decide)).trans he17
  have e18_107 := (hz18 107 (by decide)).trans e17_107
  refine B_put (n := 109) (a := 16) (v := .ref 108) hC dX10_init_72 fl_X10_42 rfl hD18 (by simp) (by decide) (by decide) e18_16 (Nat.le_of_ble_eq_true rfl) (fun C T N h => by cases h; rfl) (fun _ => ⟨rfl, rfl⟩) (fun w19_ hD19 he19 hz19 => ?_)
  have e19_107 := (hz19 107 (by decide)).trans e18_107
  have e19_108 := (hz19 108 (by decide)).trans hn18
  refine R_aload_n (i := 0) hC dX10_init_75 rfl rfl ?_
  refine B_obj (ci := 7) (n := 109) (fs := df7) hC hR dX10_init_76 nl_X10_16 in_X7 it_X7 rfl cw_X7 tyX7_ok df7_ok.1 df7_ok.2 hD19 (by decide) ⟨by decide, by decide⟩ (fun w20_ hD20 hn20 hz20 => ?_)
  have e20_16 := (hz20 16 (by decide)).trans he19
  have e20_107 := (hz20 107 (by decide)).trans e19_107
  have e20_108 := (hz20 108 (by decide)).trans e19_108
  refine R_dup hC dX10_init_79 rfl ?_
  refine R_callI (As := []) hC hR dX10_init_80 MN_X7_init ml_X10_18 (b_X7 (a := 109) TL_pic hD20 hn20) rfl (by decide) ⟨by decide, by decide⟩ (Nat.le_of_ble_eq_true rfl) (fun r w21_ hq => ?_)
  obtain ⟨rfl, hD21, hz21⟩ := hq
  have e21_16 := (hz21 16 (by decide)).trans e20_16
  have e21_107 := (hz21 107 (by decide)).trans e20_107
  have e21_108 := (hz21 108 (by decide)).trans e20_108
  refine B_put (n := 111) (a := 16) (v := .ref 109) hC dX10_init_83 fl_X10_46 rfl hD21 (by simp) (by decide) (by decide) e21_16 (Nat.le_of_ble_eq_true rfl) (fun C T N h => by cases h; rfl) (fun _ => ⟨rfl, rfl⟩) (fun w22_ hD22 he22 hz22 => ?_)
  have e22_107 := (hz22 107 (by decide)).trans e21_107
  have e22_108 := (hz22 108 (by decide)).trans e21_108
  refine R_aload_n (i := 0) hC dX10_init_86 rfl rfl ?_
  refine R_iconst (v := 4) hC dX10_init_87 (by decide) (R_top (y := nI 4) rfl ?_)
  refine B_int (N := 4) (n := 111) hC hR dX10_init_88 hD22 (by decide) L_refu (by decide) ⟨by decide, by decide⟩ (fun w23_ hD23 hz23 => ?_)
  have e23_16 := (hz23 16 (by decide)).trans he22
  have e23_107 := (hz23 107 (by decide)).trans e22_107
  have e23_108 := (hz23 108 (by decide)).trans e22_108
  refine B_put (n := 112) (a := 16) (v := .ref 111) hC dX10_init_90 fl_X10_49 rfl hD23 (by simp) (by decide) (by decide) e23_16 (Nat.le_of_ble_eq_true rfl) (fun C T N h => by cases h; rfl) (fun _ => ⟨rfl, rfl⟩) (fun w24_ hD24 he24 hz24 => ?_)
  have e24_107 := (hz24 107 (by decide)).trans e23_107
  have e24_108 := (hz24 108 (by decide)).trans e23_108
  refine R_aload_n (i := 0) hC dX10_init_93 rfl rfl ?_
  refine B_obj (ci := 1) (n := 112) (fs := df1) hC hR dX10_init_94 nl_X10_53 in_X1 it_X1 rfl cw_X1 tyX1_ok df1_ok.1 df1_ok.2 hD24 (by decide) ⟨by decide, by decide⟩ (fun w25_ hD25 hn25 hz25 => ?_)
  have e25_16 := (hz25 16 (by decide)).trans he24
  have e25_107 := (hz25 107 (by decide)).trans e24_107
  have e25_108 := (hz25 108 (by decide)).trans e24_108
  refine R_dup hC dX10_init_97 rfl ?_
  refine R_callI (As := []) hC hR dX10_init_98 MN_X1_init ml_X10_55 (b_X1 hD25 hn25) rfl (by decide) ⟨by decide, by decide⟩ (Nat.le_of_ble_eq_true rfl) (fun r w26_ hq => ?_)
  obtain ⟨rfl, hD26, hz26⟩ := hq
  have e26_16 := (hz26 16 (by decide)).trans e25_16
  have e26_107 := (hz26 107 (by decide)).trans e25_107
  have e26_108 := (hz26 108 (by decide)).trans e25_108
  refine B_put (n := 114) (a := 16) (v := .ref 112) hC dX10_init_101 fl_X10_56 rfl hD26 (by simp) (by decide) (by decide) e26_16 (Nat.le_of_ble_eq_true rfl) (fun C T N h => by cases h; rfl) (fun _ => ⟨rfl, rfl⟩) (fun w27_ hD27 he27 hz27 => ?_)
  have e27_107 := (hz27 107 (by decide)).trans e26_107
  have e27_108 := (hz27 108 (by decide)).trans e26_108
  refine R_aload_n (i := 0) hC dX10_init_104 rfl rfl ?_
  refine B_obj (ci := 9) (n := 114) (fs := df9) hC hR dX10_init_105 nl_X10_60 in_X9 it_X9 rfl cw_X9 tyX9_ok df9_ok.1 df9_ok.2 hD27 (by decide) ⟨by decide, by decide⟩ (fun w28_ hD28 hn28 hz28 => ?_)
  have e28_16 := (hz28 16 (by decide)).trans he27
  have e28_107 := (hz28 107 (by decide)).trans e27_107
  have e28_108 := (hz28 108 (by decide)).trans e27_108
  refine R_dup hC dX10_init_108 rfl ?_
  refine R_callI (As := []) hC hR dX10_init_109 MN_X9_init ml_X10_62 (b_X9 (b := 114) DL_tree hD28 hn28) rfl (by decide) ⟨by decide, by decide⟩ (Nat.le_of_ble_eq_true rfl) (fun r w29_ hq => ?_)
  obtain ⟨rfl, hD29, hz29⟩ := hq
  have e29_16 := (hz29 16 (by decide)).trans e28_16
  have e29_107 := (hz29 107 (by decide)).trans e28_107
  have e29_108 := (hz29 108 (by decide)).trans e28_108
  refine B_put (n := 119) (a := 16) (v := .ref 114) hC dX10_init_112 fl_X10_63 rfl hD29 (by simp) (by decide) (by decide) e29_16 (Nat.le_of_ble_eq_true rfl) (fun C T N h => by cases h; rfl) (fun _ => ⟨rfl, rfl⟩) (fun w30_ hD30 he30 hz30 => ?_)
  have e30_107 := (hz30 107 (by decide)).trans e29_107
  have e30_108 := (hz30 108 (by decide)).trans e29_108
  refine R_aload_n (i := 0) hC dX10_init_115 rfl rfl ?_
  refine B_obj (ci := 9) (n := 119) (fs := df9) hC hR dX10_init_116 nl_X10_60 in_X9 it_X9 rfl cw_X9 tyX9_ok df9_ok.1 df9_ok.2 hD30 (by decide) ⟨by decide, by decide⟩ (fun w31_ hD31 hn31 hz31 => ?_)
  have e31_16 := (hz31 16 (by decide)).trans he30
  have e31_107 := (hz31 107 (by decide)).trans e30_107
  have e31_108 := (hz31 108 (by decide)).trans e30_108
  refine R_dup hC dX10_init_119 rfl ?_
  refine R_callI (As := []) hC hR dX10_init_120 MN_X9_init ml_X10_62 (b_X9 (b := 119) DL_cotree hD31 hn31) rfl (by decide) ⟨by decide, by decide⟩ (Nat.le_of_ble_eq_true rfl) (fun r w32_ hq => ?_)
  obtain ⟨rfl, hD32, hz32⟩ := hq
  have e32_16 := (hz32 16 (by decide)).trans e31_16
  have e32_107 := (hz32 107 (by decide)).trans e31_107
  have e32_108 := (hz32 108 (by decide)).trans e31_108
  refine B_put (n := 124) (a := 16) (v := .ref 119) hC dX10_init_123 fl_X10_67 rfl hD32 (by simp) (by decide) (by decide) e32_16 (Nat.le_of_ble_eq_true rfl) (fun C T N h => by cases h; rfl) (fun _ => ⟨rfl, rfl⟩) (fun w33_ hD33 he33 hz33 => ?_)
  have e33_107 := (hz33 107 (by decide)).trans e32_107
  have e33_108 := (hz33 108 (by decide)).trans e32_108
  refine R_aload_n (i := 0) hC dX10_init_126 rfl rfl ?_
  refine B_obj (ci := 6) (n := 124) (fs := df6) hC hR dX10_init_127 nl_X10_70 in_X6 it_X6 rfl cw_X6 tyX6_ok df6_ok.1 df6_ok.2 hD33 (by decide) ⟨by decide, by decide⟩ (fun w34_ hD34 hn34 hz34 => ?_)
  have e34_16 := (hz34 16 (by decide)).trans he33
  have e34_107 := (hz34 107 (by decide)).trans e33_107
  have e34_108 := (hz34 108 (by decide)).trans e33_108
  refine R_dup hC dX10_init_130 rfl ?_
  refine R_callI (As := []) hC hR dX10_init_131 MN_X6_init ml_X10_72 (b_X6 hD34 hn34) rfl (by decide) ⟨by decide, by decide⟩ (Nat.le_of_ble_eq_true rfl) (fun r w35_ hq => ?_)
  obtain ⟨rfl, hD35, hz35⟩ := hq
  have e35_16 := (hz35 16 (by decide)).trans e34_16
  have e35_107 := (hz35 107 (by decide)).trans e34_107
  have e35_108 := (hz35 108 (by decide)).trans e34_108
  refine B_put (n := 131) (a := 16) (v := .ref 124) hC dX10_init_134 fl_X10_73 rfl hD35 (by simp) (by decide) (by decide) e35_16 (Nat.le_of_ble_eq_true rfl) (fun C T N h => by cases h; rfl) (fun _ => ⟨rfl, rfl⟩) (fun w36_ hD36 he36 hz36 => ?_)
  have e36_107 := (hz36 107 (by decide)).trans e35_107
  have e36_108 := (hz36 108 (by decide)).trans e35_108
  refine R_aload_n (i := 0) hC dX10_init_137 rfl rfl ?_
  refine B_obj (ci := 5) (n := 131) (fs := df5) hC hR dX10_init_138 nl_X10_77 in_X5 it_X5 rfl cw_X5 tyX5_ok df5_ok.1 df5_ok.2 hD36 (by decide) ⟨by decide, by decide⟩ (fun w37_ hD37 hn37 hz37 => ?_)
  have e37_16 := (hz37 16 (by decide)).trans he36
  have e37_107 := (hz37 107 (by decide)).trans e36_107
  have e37_108 := (hz37 108 (by decide)).trans e36_108
  refine R_dup hC dX10_init_141 rfl ?_
  refine R_callI (As := []) hC hR dX10_init_142 MN_X5_init ml_X10_79 (b_X5 hD37 hn37) rfl (by decide) ⟨by decide, by decide⟩ (Nat.le_of_ble_eq_true rfl) (fun r w38_ hq => ?_)
  obtain ⟨rfl, hD38, hz38⟩ := hq
  have e38_16 := (hz38 16 (by decide)).trans e37_16
  have e38_107 := (hz38 107 (by decide)).trans e37_107
  have e38_108 := (hz38 108 (by decide)).trans e37_108
  refine B_put (n := 136) (a := 16) (v := .ref 131) hC dX10_init_145 fl_X10_80 rfl hD38 (by simp) (by decide) (by decide) e38_16 (Nat.le_of_ble_eq_true rfl) (fun C T N h => by cases h; rfl) (fun _ => ⟨rfl, rfl⟩) (fun w39_ hD39 he39 hz39 => ?_)
  have e39_107 := (hz39 107 (by decide)).trans e38_107
  have e39_108 := (hz39 108 (by decide)).trans e38_108
  refine R_aload_n (i := 0) hC dX10_init_148 rfl rfl ?_
  refine B_obj (ci := 3) (n := 136) (fs := df3) hC hR dX10_init_149 nl_X10_84 in_X3 it_X3 rfl cw_X3 tyX3_ok df3_ok.1 df3_ok.2 hD39 (by decide) ⟨by decide, by decide⟩ (fun w40_ hD40 hn40 hz40 => ?_)
  have e40_16 := (hz40 16 (by decide)).trans he39
  have e40_107 := (hz40 107 (by decide)).trans e39_107
  have e40_108 := (hz40 108 (by decide)).trans e39_108
  refine R_dup hC dX10_init_152 rfl ?_
  refine R_callI (As := []) hC hR dX10_init_153 MN_X3_init ml_X10_86 (b_X3 hD40 hn40) rfl (by decide) ⟨by decide, by decide⟩ (Nat.le_of_ble_eq_true rfl) (fun r w41_ hq => ?_)
  obtain ⟨rfl, hD41, hz41⟩ := hq
  have e41_16 := (hz41 16 (by decide)).trans e40_16
  have e41_107 := (hz41 107 (by decide)).trans e40_107
  have e41_108 := (hz41 108 (by decide)).trans e40_108
  refine B_put (n := 142) (a := 16) (v := .ref 136) hC dX10_init_156 fl_X10_87 rfl hD41 (by simp) (by decide) (by decide) e41_16 (Nat.le_of_ble_eq_true rfl) (fun C T N h => by cases h; rfl) (fun _ => ⟨rfl, rfl⟩) (fun w42_ hD42 he42 hz42 => ?_)
  have e42_107 := (hz42 107 (by decide)).trans e41_107
  have e42_108 := (hz42 108 (by decide)).trans e41_108
  refine R_aload_n (i := 0) hC dX10_init_159 rfl rfl ?_
  refine B_obj (ci := 0) (n := 142) (fs := df0) hC hR dX10_init_160 nl_X10_91 in_X0 it_X0 rfl cw_X0 tyX0_ok df0_ok.1 df0_ok.2 hD42 (by decide) ⟨by decide, by decide⟩ (fun w43_ hD43 hn43 hz43 => ?_)
  have e43_16 := (hz43 16 (by decide)).trans he42
  have e43_107 := (hz43 107 (by decide)).trans e42_107
  have e43_108 := (hz43 108 (by decide)).trans e42_108
  refine R_dup hC dX10_init_163 rfl ?_
  refine R_callI (As := []) hC hR dX10_init_164 MN_X0_init ml_X10_93 (b_X0 hD43 hn43) rfl (by decide) ⟨by decide, by decide⟩ (Nat.le_of_ble_eq_true rfl) (fun r w44_ hq => ?_)
  obtain ⟨rfl, hD44, hz44⟩ := hq
  have e44_16 := (hz44 16 (by decide)).trans e43_16
  have e44_107 := (hz44 107 (by decide)).trans e43_107
  have e44_108 := (hz44 108 (by decide)).trans e43_108
  refine B_put (n := 143) (a := 16) (v := .ref 142) hC dX10_init_167 fl_X10_94 rfl hD44 (by simp) (by decide) (by decide) e44_16 (Nat.le_of_ble_eq_true rfl) (fun C T N h => by cases h; rfl) (fun _ => ⟨rfl, rfl⟩) (fun w45_ hD45 he45 hz45 => ?_)
  have e45_107 := (hz45 107 (by decide)).trans e44_107
  have e45_108 := (hz45 108 (by decide)).trans e44_108
  refine R_iconst (v := 0) hC dX10_init_170 (by decide) (R_istore_n (i := 1) hC dX10_init_171 rfl (by decide) rfl ?_)
  exact loop1 0 (by decide) _ (hD45.sub (fun i hi => Or.inl (by simp at hi ⊢; omega))) he45 (e45_107.trans (by rw [rfF_0 143 2])) e45_108
