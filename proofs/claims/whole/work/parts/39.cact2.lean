/-! ===== the class's turn, set, act ===== -/
theorem tturn_n {T : tb} {r c i j : Nat} (h : ¬ i = r) (k : ¬ j = c) : tturn r c T.2.2 i j = T.2.2 i j - T.2.2 r c * T.2.2 i c * T.2.2 r j := by unfold tturn; simp [h, k]
theorem sml_tt {T : tb} (ok : ∀ i j, i < T.1 → j < T.2.1 → sml (T.2.2 i j)) {r c : Nat} (hr : r < T.1) (hc : c < T.2.1) {i j : Nat} (hi : i < T.1) (hj : j < T.2.1) (h : i = r ∨ j = c) : sml (tturn r c T.2.2 i j) := by
  unfold tturn
  split
  · exact sml_neg (ok r c hr hc)
  · first | exact sml_mul (ok i j hi hj) (ok r c hr hc) | (rw [if_pos h]; exact sml_mul (ok i j hi hj) (ok r c hr hc))
theorem c_canTurn {σ : sg} {x : aW} {a : Nat} {T : tb} (hA : TL a) (h : CT σ a T) (ok : ∀ i j, i < T.1 → j < T.2.1 → sml (T.2.2 i j)) {r c : Nat} (hr : r < T.1) (hc : c < T.2.1) : Mt mX7_canTurn 1 0 0 [.ref a, .int (nI r), .int (nI c)] (wd σ x) (QI (b2i (∀ i j, i < T.1 → j < T.2.1 → sml (tturn r c T.2.2 i j))) (wd σ x)) := by
  refine Mt.of MI_X7_canTurn (Nat.le_of_ble_eq_true rfl) (fun X hC hR hT => ?_)
  obtain ⟨k1, k2, k3, k4, k5⟩ := id h
  have outer : ∀ n, n ≤ T.1 → (∀ i j, i < n → j < T.2.1 → sml (tturn r c T.2.2 i j)) → ∀ u5, Rw mX7_canTurn X 10 [some (.ref a), some (.int (nI r)), some (.int (nI c)), some (.int (T.2.2 r c)), some (.int (nI n)), u5] [] (wd σ x) 0 0 := by
    refine up_loop T.1 ?_ ?_
    · intro hg u5
      refine R_iload hC dX7_canTurn_10 rfl (R_aload_n (i := 0) hC dX7_canTurn_12 rfl rfl (R_gI hC dX7_canTurn_13 fl_X7_15 hA.1 rfl ?_))
      refine R_top (y := nI T.1) (k1) ?_
      refine R_icmp_ge hC 89 dX7_canTurn_16 (by decide) (fun _ => ?_) (fun h => absurd (Int32.le_refl _) h)
      refine R_iconst (v := 1) hC dX7_canTurn_89 (by decide) ?_
      exact R_zret hC hT dX7_canTurn_90 rfl (by decide) ⟨by rw [b2i_t hg], rfl⟩
    · intro n hn ih hg u5
      have inner : ∀ m, m ≤ T.2.1 → (∀ j, j < m → sml (tturn r c T.2.2 n j)) → Rw mX7_canTurn X 22 [some (.ref a), some (.int (nI r)), some (.int (nI c)), some (.int (T.2.2 r c)), some (.int (nI n)), some (.int (nI m))] [] (wd σ x) 0 0 := by
        refine up_loop T.2.1 ?_ ?_
        · intro hm
          refine R_iload hC dX7_canTurn_22 rfl (R_aload_n (i := 0) hC dX7_canTurn_24 rfl rfl (R_gI hC dX7_canTurn_25 fl_X7_19 hA.1 rfl ?_))
          refine R_top (y := nI T.2.1) (k2) ?_
          refine R_icmp_ge hC 83 dX7_canTurn_28 (by decide) (fun _ => ?_) (fun h => absurd (Int32.le_refl _) h)
          refine R_iinc hC dX7_canTurn_83 rfl (inc1 _) (by decide) rfl (R_goto hC 10 dX7_canTurn_86 (by decide) ?_)
          exact ih (fun i j hi hj => by rcases (by omega : i < n ∨ i = n) with q | rfl; exact hg i j q hj; exact hm j hj) _
        · intro m hm ihm hg2
          have nx : sml (tturn r c T.2.2 n m) → Rw mX7_canTurn X 77 [some (.ref a), some (.int (nI r)), some (.int (nI c)), some (.int (T.2.2 r c)), some (.int (nI n)), some (.int (nI m))] [] (wd σ x) 0 0 := by
            intro hs
            refine R_iinc hC dX7_canTurn_77 rfl (inc1 _) (by decide) rfl (R_goto hC 22 dX7_canTurn_80 (by decide) ?_)
            exact ihm (fun j hj => by rcases (by omega : j < m ∨ j = m) with q | rfl; exact hg2 j q; exact hs)
          have i1 := nI_eq (a := n) (b := r) (by omega) (by omega)
          have i2 := nI_eq (a := m) (b := c) (by omega) (by omega)
          refine R_iload hC dX7_canTurn_22 rfl (R_aload_n (i := 0) hC dX7_canTurn_24 rfl rfl (R_gI hC dX7_canTurn_25 fl_X7_19 hA.1 rfl ?_))
          refine R_top (y := nI T.2.1) (k2) ?_
          refine R_icmp_ge hC 83 dX7_canTurn_28 (by decide) (fun h => absurd h (nI_ge hm (by omega))) (fun _ => ?_)
          refine R_iload hC dX7_canTurn_31 rfl (R_iload_n (i := 1) hC dX7_canTurn_33 rfl rfl ?_)
          refine R_icmp_eq hC 77 dX7_canTurn_34 (by decide) (fun h34 => ?_) (fun h34 => ?_)
          · first | exact nx (sml_tt ok hr hc hn hm (Or.inl (i1.mp h34))) | exact nx (sml_tt ok hr hc hn hm (Or.inr (i2.mp h40))) | exact nx (Classical.byContradiction (b2i_0 h72))
          · refine R_iload hC dX7_canTurn_37 rfl (R_iload_n (i := 2) hC dX7_canTurn_39 rfl rfl ?_)
            refine R_icmp_eq hC 77 dX7_canTurn_40 (by decide) (fun h40 => ?_) (fun h40 => ?_)
            · first | exact nx (sml_tt ok hr hc hn hm (Or.inl (i1.mp h34))) | exact nx (sml_tt ok hr hc hn hm (Or.inr (i2.mp h40))) | exact nx (Classical.byContradiction (b2i_0 h72))
            · refine R_aload_n (i := 0) hC dX7_canTurn_43 rfl rfl (R_iload hC dX7_canTurn_44 rfl (R_iload hC dX7_canTurn_46 rfl ?_))
              refine R_V2i hC hR dX7_canTurn_48 MV_X7_at ml_X7_28 hA.1 rfl (c_atN hA h hn hm) (by first | decide | omega) ⟨by decide, by decide⟩ (Nat.le_of_ble_eq_true rfl) ?_
              refine R_iload_n (i := 3) hC dX7_canTurn_51 rfl rfl (R_aload_n (i := 0) hC dX7_canTurn_52 rfl rfl (R_iload hC dX7_canTurn_53 rfl (R_iload_n (i := 2) hC dX7_canTurn_55 rfl rfl ?_)))
              refine R_V2i hC hR dX7_canTurn_56 MV_X7_at ml_X7_28 hA.1 rfl (c_atN hA h hn hc) (by first | decide | omega) ⟨by decide, by decide⟩ (Nat.le_of_ble_eq_true rfl) ?_
              refine R_imul hC dX7_canTurn_59 (R_aload_n (i := 0) hC dX7_canTurn_60 rfl rfl (R_iload_n (i := 1) hC dX7_canTurn_61 rfl rfl (R_iload hC dX7_canTurn_62 rfl ?_)))
              refine R_V2i hC hR dX7_canTurn_64 MV_X7_at ml_X7_28 hA.1 rfl (c_atN hA h hr hm) (by first | decide | omega) ⟨by decide, by decide⟩ (Nat.le_of_ble_eq_true rfl) ?_
              refine R_imul hC dX7_canTurn_67 (R_isub hC dX7_canTurn_68 ?_)
              refine R_top (y := tturn r c T.2.2 n m) ((tturn_n (fun q => h34 (i1.mpr q)) (fun q => h40 (i2.mpr q))).symm) ?_
              refine R_S1i hC hR dX7_canTurn_69 MS_X10_isBeyond ml_X7_86 (c_isBeyond _ _) (by first | decide | omega) ⟨by decide, by decide⟩ (Nat.le_of_ble_eq_true rfl) ?_
              refine R_if_eq hC 77 dX7_canTurn_72 (by decide) (fun h72 => ?_) (fun h72 => ?_)
              · first | exact nx (sml_tt ok hr hc hn hm (Or.inl (i1.mp h34))) | exact nx (sml_tt ok hr hc hn hm (Or.inr (i2.mp h40))) | exact nx (Classical.byContradiction (b2i_0 h72))
              · refine R_iconst (v := 0) hC dX7_canTurn_75 (by decide) ?_
                exact R_zret hC hT dX7_canTurn_76 rfl (by decide) ⟨by rw [b2i_f (fun q => b2i_ne h72 (q n m hn hm))], rfl⟩
      refine R_iload hC dX7_canTurn_10 rfl (R_aload_n (i := 0) hC dX7_canTurn_12 rfl rfl (R_gI hC dX7_canTurn_13 fl_X7_15 hA.1 rfl ?_))
      refine R_top (y := nI T.1) (k1) ?_
      refine R_icmp_ge hC 89 dX7_canTurn_16 (by decide) (fun h => absurd h (nI_ge hn (by omega))) (fun _ => ?_)
      refine R_iconst (v := 0) hC dX7_canTurn_19 (by decide) (R_istore hC dX7_canTurn_20 (by decide) rfl ?_)
      exact inner 0 (Nat.zero_le _) (fun j hj => absurd hj (Nat.not_lt_zero _))
  refine R_aload_n (i := 0) hC dX7_canTurn_0 rfl rfl (R_iload_n (i := 1) hC dX7_canTurn_1 rfl rfl (R_iload_n (i := 2) hC dX7_canTurn_2 rfl rfl ?_))
  refine R_V2i hC hR dX7_canTurn_3 MV_X7_at ml_X7_28 hA.1 rfl (c_atN hA h hr hc) (by first | decide | omega) ⟨by decide, by decide⟩ (Nat.le_of_ble_eq_true rfl) ?_
  refine R_istore_n (i := 3) hC dX7_canTurn_6 rfl (by decide) rfl (R_iconst (v := 0) hC dX7_canTurn_7 (by decide) (R_istore hC dX7_canTurn_8 (by decide) rfl ?_))
  exact outer 0 (Nat.zero_le _) (fun i j hi => absurd hi (Nat.not_lt_zero _)) _
theorem c_turn {σ : sg} {x : aW} {a : Nat} {T : tb} (hA : TL a) (h : CT σ a T) (hI : tbI T) (ok : ∀ i j, i < T.1 → j < T.2.1 → sml (T.2.2 i j)) (r b : Int32) : Mt mX7_turn 2 0 0 [.ref a, .int r, .int b] (wd σ x) (TQ σ x a (actR T 4 r b).2 (some (.int (actR T 4 r b).1))) := by
  refine Mt.of MI_X7_turn (Nat.le_of_ble_eq_true rfl) (fun X hC hR hT => ?_)
  obtain ⟨k1, k2, k3, k4, k5⟩ := id h
  have h0 : ¬ T.1 = 0 := by have := hI.1; omega
  by_cases hr : inR T.1 r ∧ inR T.2.1 b
  · have hst0 := fun q => st_4b (T := T) h0 hr q
    have hst1 := fun q q2 => st_4c (T := T) h0 hr q q2
    have hst2 := fun q q2 => st_4d (T := T) h0 hr q q2
    have hT2 := hT
    obtain ⟨i, rfl, hi, hi2⟩ := inR_i hr.1
    obtain ⟨c, rfl, hc, hc2⟩ := inR_i hr.2
    rw [nI_clamp hi2, nI_clamp hc2] at hst0 hst1 hst2
    by_cases hz : T.2.2 i c = 0
    · rw [actR_n (hst0 hz) (by decide)] at hT
      refine R_aload_n (i := 0) hC dX7_turn_0 rfl rfl (R_iload_n (i := 1) hC dX7_turn_1 rfl rfl (R_iload_n (i := 2) hC dX7_turn_2 rfl rfl ?_))
      refine R_V2i hC hR dX7_turn_3 MV_X7_has ml_X7_79 hA.1 rfl (c_has hA h _ _) (by first | decide | omega) ⟨by decide, by decide⟩ (Nat.le_of_ble_eq_true rfl) ?_
      refine R_top (y := 1) (b2i_t hr) ?_
      refine R_if_ne hC 11 dX7_turn_6 (by decide) (fun _ => ?_) (fun h => absurd h (by decide))
      refine R_aload_n (i := 0) hC dX7_turn_11 rfl rfl (R_iload_n (i := 1) hC dX7_turn_12 rfl rfl (R_iload_n (i := 2) hC dX7_turn_13 rfl rfl ?_))
      refine R_V2i hC hR dX7_turn_14 MV_X7_at ml_X7_28 hA.1 rfl (c_atN hA h hi hc) (by first | decide | omega) ⟨by decide, by decide⟩ (Nat.le_of_ble_eq_true rfl) ?_
      refine R_if_ne hC 22 dX7_turn_17 (by decide) (fun h => absurd hz h) (fun _ => ?_)
      refine R_iconst (v := 2) hC dX7_turn_20 (by decide) ?_
      exact R_iret hC hT dX7_turn_21 rfl (TQ.i (AE.rf _ _) h)
    · by_cases hs : ∀ p q, p < T.1 → q < T.2.1 → sml (tturn i c T.2.2 p q)
      · rw [actR_y (hst1 hz hs), nI_clamp hi2, nI_clamp hc2] at hT
        -- the row of the pivot
        have ph3 : ∀ n, n ≤ T.2.1 → ∀ τ, AE [a, a + 1] σ τ → CT τ a (T.1, T.2.1, fun p q => if p = i then (if q < n then tturn i c T.2.2 p q else if q = c then T.2.2 i c else T.2.2 p q) else tturn i c T.2.2 p q) → ∀ u5, Rw mX7_turn X 169 [some (.ref a), some (.int (nI i)), some (.int (nI c)), some (.int (T.2.2 i c)), some (.int (nI n)), u5] [] (wd τ x) 0 0 := by
          refine up_loop T.2.1 ?_ ?_
          · intro τ e ht u5
            refine R_iload hC dX7_turn_169 rfl (R_aload_n (i := 0) hC dX7_turn_171 rfl rfl (R_gI hC dX7_turn_172 fl_X7_19 hA.1 rfl ?_))
            refine R_top (y := nI T.2.1) (ht.2.1) ?_
            refine R_icmp_ge hC 210 dX7_turn_175 (by decide) (fun _ => ?_) (fun h => absurd (Int32.le_refl _) h)
            refine R_iconst (v := (-1)) hC dX7_turn_210 (by decide) ?_
            exact R_iret hC hT dX7_turn_211 rfl (TQ.i e (ht.cg (f := (doA 4 i c T).2.2) (fun p q hp hq => by
              have hq : q < T.2.1 := hq
              show tturn i c T.2.2 p q = if p = i then (if q < T.2.1 then tturn i c T.2.2 p q else _) else _
              rw [if_pos hq]; split <;> rfl)))
          · intro n hn ih τ e ht u5
            have rd : (if i = i then (if n < n then tturn i c T.2.2 i n else if n = c then T.2.2 i c else T.2.2 i n) else tturn i c T.2.2 i n) = T.2.2 i n := by
              rw [if_pos rfl, if_neg (by omega)]; split
              · rename_i q; rw [q]
              · rfl
            have nx : ∀ v, v = tturn i c T.2.2 i n → Rw mX7_turn X 201 [some (.ref a), some (.int (nI i)), some (.int (nI c)), some (.int (T.2.2 i c)), some (.int (nI n)), u5] [.int v, .int (nI n), .int (nI i), .ref a] (wd τ x) 0 0 := by
              intro v hv
              refine R_V3v hC hR dX7_turn_201 MV_X7_put ml_X7_48 hA.1 rfl (c_put hA ht hi hn _) (by first | decide | omega) ⟨by decide, by decide⟩ (Nat.le_of_ble_eq_true rfl) ?_
              refine R_iinc hC dX7_turn_204 rfl (inc1 _) (by decide) rfl (R_goto hC 169 dX7_turn_207 (by decide) ?_)
              exact ih _ (e.a (m2 _ _)) ((ht.put (i := i) hn v).cg (fun p q hp hq => by
                show (if p = i then (if q < n + 1 then tturn i c T.2.2 p q else if q = c then T.2.2 i c else T.2.2 p q) else tturn i c T.2.2 p q) = if p = i ∧ q = n then v else (if p = i then (if q < n then tturn i c T.2.2 p q else if q = c then T.2.2 i c else T.2.2 p q) else tturn i c T.2.2 p q)
                by_cases e1 : p = i
                · subst e1
                  by_cases e2 : q = n
                  · subst e2; simp [hv]
                  · by_cases e3 : q < n
                    · simp [e2, e3, show q < n + 1 by omega]
                    · simp [e2, e3, show ¬ q < n + 1 by omega]
                · simp [e1])) _
            have i2 := nI_eq (a := n) (b := c) (by omega) (by omega)
            refine R_iload hC dX7_turn_169 rfl (R_aload_n (i := 0) hC dX7_turn_171 rfl rfl (R_gI hC dX7_turn_172 fl_X7_19 hA.1 rfl ?_))
            refine R_top (y := nI T.2.1) (ht.2.1) ?_
            refine R_icmp_ge hC 210 dX7_turn_175 (by decide) (fun h => absurd h (nI_ge hn (by omega))) (fun _ => ?_)
            refine R_aload_n (i := 0) hC dX7_turn_178 rfl rfl (R_iload_n (i := 1) hC dX7_turn_179 rfl rfl (R_iload hC dX7_turn_180 rfl (R_aload_n (i := 0) hC dX7_turn_182 rfl rfl (R_iload_n (i := 1) hC dX7_turn_183 rfl rfl (R_iload hC dX7_turn_184 rfl ?_)))))
            refine R_V2i hC hR dX7_turn_186 MV_X7_at ml_X7_28 hA.1 rfl (c_atN hA ht hi hn) (by first | decide | omega) ⟨by decide, by decide⟩ (Nat.le_of_ble_eq_true rfl) ?_
            refine R_top (y := T.2.2 i n) (rd) ?_
            refine R_iload hC dX7_turn_189 rfl (R_iload_n (i := 2) hC dX7_turn_191 rfl rfl ?_)
            refine R_icmp_ne hC 199 dX7_turn_192 (by decide) (fun h192 => ?_) (fun h192 => ?_)
            · refine R_iload_n (i := 3) hC dX7_turn_199 rfl rfl ?_
              first | (have q := i2.mp h192; subst q; refine R_imul hC dX7_turn_200 ?_; exact nx _ (by unfold tturn; simp [Int32.mul_neg])) | (have q : ¬ n = c := fun z => h192 (i2.mpr z); refine R_imul hC dX7_turn_200 ?_; exact nx _ (by unfold tturn; simp [q]))
            · refine R_iconst (v := (-1)) hC dX7_turn_195 (by decide) (R_goto hC 200 dX7_turn_196 (by decide) ?_)
              first | (have q := i2.mp h192; subst q; refine R_imul hC dX7_turn_200 ?_; exact nx _ (by unfold tturn; simp [Int32.mul_neg])) | (have q : ¬ n = c := fun z => h192 (i2.mpr z); refine R_imul hC dX7_turn_200 ?_; exact nx _ (by unfold tturn; simp [q]))
        -- its column
        have ph2 : ∀ n, n ≤ T.1 → ∀ τ, AE [a, a + 1] σ τ → CT τ a (T.1, T.2.1, fun p q => if p = i then T.2.2 p q else if q = c then (if p < n then tturn i c T.2.2 p q else T.2.2 p q) else tturn i c T.2.2 p q) → ∀ u5, Rw mX7_turn X 125 [some (.ref a), some (.int (nI i)), some (.int (nI c)), some (.int (T.2.2 i c)), some (.int (nI n)), u5] [] (wd τ x) 0 0 := by
          refine up_loop T.1 ?_ ?_
          · intro τ e ht u5
            refine R_iload hC dX7_turn_125 rfl (R_aload_n (i := 0) hC dX7_turn_127 rfl rfl (R_gI hC dX7_turn_128 fl_X7_15 hA.1 rfl ?_))
            refine R_top (y := nI T.1) (ht.1) ?_
            refine R_icmp_ge hC 166 dX7_turn_131 (by decide) (fun _ => ?_) (fun h => absurd (Int32.le_refl _) h)
            refine R_iconst (v := 0) hC dX7_turn_166 (by decide) (R_istore hC dX7_turn_167 (by decide) rfl ?_)
            exact ph3 0 (Nat.zero_le _) τ e (ht.cg (fun p q hp hq => by
              have hp : p < T.1 := hp
              show (if p = i then (if q < 0 then _ else if q = c then T.2.2 i c else T.2.2 p q) else _) = if p = i then T.2.2 p q else if q = c then (if p < T.1 then tturn i c T.2.2 p q else T.2.2 p q) else _
              by_cases e1 : p = i
              · subst e1; rw [if_pos rfl, if_pos rfl, if_neg (by omega)]; split
                · rename_i z; rw [z]
                · rfl
              · rw [if_neg e1, if_neg e1, if_pos hp]; split <;> rfl)) _
          · intro n hn ih τ e ht u5
            have rd : (if n = i then T.2.2 n c else if c = c then (if n < n then tturn i c T.2.2 n c else T.2.2 n c) else tturn i c T.2.2 n c) = T.2.2 n c := by
              rw [if_pos rfl, if_neg (Nat.lt_irrefl n)]; split <;> rfl
            have nx : ∀ v, v = (if n = i then T.2.2 n c else tturn i c T.2.2 n c) → Rw mX7_turn X 157 [some (.ref a), some (.int (nI i)), some (.int (nI c)), some (.int (T.2.2 i c)), some (.int (nI n)), u5] [.int v, .int (nI c), .int (nI n), .ref a] (wd τ x) 0 0 := by
              intro v hv
              refine R_V3v hC hR dX7_turn_157 MV_X7_put ml_X7_48 hA.1 rfl (c_put hA ht hn hc _) (by first | decide | omega) ⟨by decide, by decide⟩ (Nat.le_of_ble_eq_true rfl) ?_
              refine R_iinc hC dX7_turn_160 rfl (inc1 _) (by decide) rfl (R_goto hC 125 dX7_turn_163 (by decide) ?_)
              exact ih _ (e.a (m2 _ _)) ((ht.put (i := n) hc v).cg (fun p q hp hq => by
                show (if p = i then T.2.2 p q else if q = c then (if p < n + 1 then tturn i c T.2.2 p q else T.2.2 p q) else tturn i c T.2.2 p q) = if p = n ∧ q = c then v else (if p = i then T.2.2 p q else if q = c then (if p < n then tturn i c T.2.2 p q else T.2.2 p q) else tturn i c T.2.2 p q)
                by_cases e1 : q = c
                · subst e1
                  by_cases e2 : p = n
                  · subst e2; simp [hv]
                  · by_cases e3 : p < n
                    · simp [e2, e3, show p < n + 1 by omega]
                    · simp [e2, e3, show ¬ p < n + 1 by omega]
                · simp [e1])) _
            have i2 := nI_eq (a := n) (b := i) (by omega) (by omega)
            refine R_iload hC dX7_turn_125 rfl (R_aload_n (i := 0) hC dX7_turn_127 rfl rfl (R_gI hC dX7_turn_128 fl_X7_15 hA.1 rfl ?_))
            refine R_top (y := nI T.1) (ht.1) ?_
            refine R_icmp_ge hC 166 dX7_turn_131 (by decide) (fun h => absurd h (nI_ge hn (by omega))) (fun _ => ?_)
            refine R_aload_n (i := 0) hC dX7_turn_134 rfl rfl (R_iload hC dX7_turn_135 rfl (R_iload_n (i := 2) hC dX7_turn_137 rfl rfl (R_aload_n (i := 0) hC dX7_turn_138 rfl rfl (R_iload hC dX7_turn_139 rfl (R_iload_n (i := 2) hC dX7_turn_141 rfl rfl ?_)))))
            refine R_V2i hC hR dX7_turn_142 MV_X7_at ml_X7_28 hA.1 rfl (c_atN hA ht hn hc) (by first | decide | omega) ⟨by decide, by decide⟩ (Nat.le_of_ble_eq_true rfl) ?_
            refine R_top (y := T.2.2 n c) (rd) ?_
            refine R_iload hC dX7_turn_145 rfl (R_iload_n (i := 1) hC dX7_turn_147 rfl rfl ?_)
            refine R_icmp_ne hC 155 dX7_turn_148 (by decide) (fun h148 => ?_) (fun h148 => ?_)
            · refine R_iload_n (i := 3) hC dX7_turn_155 rfl rfl ?_
              first | (have q := i2.mp h148; refine R_imul hC dX7_turn_156 ?_; exact nx _ (by rw [if_pos q, Int32.mul_one])) | (have q : ¬ n = i := fun z => h148 (i2.mpr z); refine R_imul hC dX7_turn_156 ?_; exact nx _ (by rw [if_neg q]; unfold tturn; simp [q]))
            · refine R_iconst (v := 1) hC dX7_turn_151 (by decide) (R_goto hC 156 dX7_turn_152 (by decide) ?_)
              first | (have q := i2.mp h148; refine R_imul hC dX7_turn_156 ?_; exact nx _ (by rw [if_pos q, Int32.mul_one])) | (have q : ¬ n = i := fun z => h148 (i2.mpr z); refine R_imul hC dX7_turn_156 ?_; exact nx _ (by rw [if_neg q]; unfold tturn; simp [q]))
        -- those in neither
        have ph1 : ∀ n, n ≤ T.1 → ∀ τ, AE [a, a + 1] σ τ → CT τ a (T.1, T.2.1, fun p q => if p = i ∨ q = c then T.2.2 p q else if p < n then tturn i c T.2.2 p q else T.2.2 p q) → ∀ u5, Rw mX7_turn X 43 [some (.ref a), some (.int (nI i)), some (.int (nI c)), some (.int (T.2.2 i c)), some (.int (nI n)), u5] [] (wd τ x) 0 0 := by
          refine up_loop T.1 ?_ ?_
          · intro τ e ht u5
            refine R_iload hC dX7_turn_43 rfl (R_aload_n (i := 0) hC dX7_turn_45 rfl rfl (R_gI hC dX7_turn_46 fl_X7_15 hA.1 rfl ?_))
            refine R_top (y := nI T.1) (ht.1) ?_
            refine R_icmp_ge hC 122 dX7_turn_49 (by decide) (fun _ => ?_) (fun h => absurd (Int32.le_refl _) h)
            refine R_iconst (v := 0) hC dX7_turn_122 (by decide) (R_istore hC dX7_turn_123 (by decide) rfl ?_)
            exact ph2 0 (Nat.zero_le _) τ e (ht.cg (fun p q hp hq => by
              have hp : p < T.1 := hp
              show (if p = i then T.2.2 p q else if q = c then (if p < 0 then _ else T.2.2 p q) else tturn i c T.2.2 p q) = if p = i ∨ q = c then T.2.2 p q else if p < T.1 then tturn i c T.2.2 p q else T.2.2 p q
              by_cases e1 : p = i
              · simp [e1]
              · by_cases e2 : q = c
                · simp [e2]
                · simp [e1, e2, hp])) _
          · intro n hn ih τ e ht u5
            have inner : ∀ m, m ≤ T.2.1 → ∀ τ, AE [a, a + 1] σ τ → CT τ a (T.1, T.2.1, fun p q => if p = i ∨ q = c then T.2.2 p q else if p < n ∨ (p = n ∧ q < m) then tturn i c T.2.2 p q else T.2.2 p q) → Rw mX7_turn X 55 [some (.ref a), some (.int (nI i)), some (.int (nI c)), some (.int (T.2.2 i c)), some (.int (nI n)), some (.int (nI m))] [] (wd τ x) 0 0 := by
              refine up_loop T.2.1 ?_ ?_
              · intro τ e ht
                refine R_iload hC dX7_turn_55 rfl (R_aload_n (i := 0) hC dX7_turn_57 rfl rfl (R_gI hC dX7_turn_58 fl_X7_19 hA.1 rfl ?_))
                refine R_top (y := nI T.2.1) (ht.2.1) ?_
                refine R_icmp_ge hC 116 dX7_turn_61 (by decide) (fun _ => ?_) (fun h => absurd (Int32.le_refl _) h)
                refine R_iinc hC dX7_turn_116 rfl (inc1 _) (by decide) rfl (R_goto hC 43 dX7_turn_119 (by decide) ?_)
                exact ih τ e (ht.cg (fun p q hp hq => by
                  have hq : q < T.2.1 := hq
                  show (if p = i ∨ q = c then T.2.2 p q else if p < n + 1 then tturn i c T.2.2 p q else T.2.2 p q) = if p = i ∨ q = c then T.2.2 p q else if p < n ∨ (p = n ∧ q < T.2.1) then tturn i c T.2.2 p q else T.2.2 p q
                  by_cases e1 : p < n + 1
                  · rw [if_pos e1, if_pos (show p < n ∨ (p = n ∧ q < T.2.1) by omega)]
                  · rw [if_neg e1, if_neg (show ¬ (p < n ∨ (p = n ∧ q < T.2.1)) by omega)])) _
              · intro m hm ihm τ e ht
                have i1 := nI_eq (a := n) (b := i) (by omega) (by omega)
                have i2 := nI_eq (a := m) (b := c) (by omega) (by omega)
                have keep : (n = i ∨ m = c) → Rw mX7_turn X 110 [some (.ref a), some (.int (nI i)), some (.int (nI c)), some (.int (T.2.2 i c)), some (.int (nI n)), some (.int (nI m))] [] (wd τ x) 0 0 := by
                  intro hq0
                  refine R_iinc hC dX7_turn_110 rfl (inc1 _) (by decide) rfl (R_goto hC 55 dX7_turn_113 (by decide) ?_)
                  exact ihm τ e (ht.cg (fun p q hp hq => by
                    show (if p = i ∨ q = c then T.2.2 p q else if p < n ∨ (p = n ∧ q < m + 1) then tturn i c T.2.2 p q else T.2.2 p q) = if p = i ∨ q = c then T.2.2 p q else if p < n ∨ (p = n ∧ q < m) then tturn i c T.2.2 p q else T.2.2 p q
                    by_cases e0 : p = i ∨ q = c
                    · rw [if_pos e0, if_pos e0]
                    · rw [if_neg e0, if_neg e0]
                      by_cases e1 : p < n ∨ (p = n ∧ q < m)
                      · rw [if_pos e1, if_pos (by omega)]
                      · rw [if_neg e1, if_neg (by omega)]))
                refine R_iload hC dX7_turn_55 rfl (R_aload_n (i := 0) hC dX7_turn_57 rfl rfl (R_gI hC dX7_turn_58 fl_X7_19 hA.1 rfl ?_))
                refine R_top (y := nI T.2.1) (ht.2.1) ?_
                refine R_icmp_ge hC 116 dX7_turn_61 (by decide) (fun h => absurd h (nI_ge hm (by omega))) (fun _ => ?_)
                refine R_iload hC dX7_turn_64 rfl (R_iload_n (i := 1) hC dX7_turn_66 rfl rfl ?_)
                refine R_icmp_eq hC 110 dX7_turn_67 (by decide) (fun h67 => ?_) (fun h67 => ?_)
                · first | exact keep (Or.inl (i1.mp h67)) | exact keep (Or.inr (i2.mp h73)) | skip
                · refine R_iload hC dX7_turn_70 rfl (R_iload_n (i := 2) hC dX7_turn_72 rfl rfl ?_)
                  refine R_icmp_eq hC 110 dX7_turn_73 (by decide) (fun h73 => ?_) (fun h73 => ?_)
                  · first | exact keep (Or.inl (i1.mp h67)) | exact keep (Or.inr (i2.mp h73)) | skip
                  · have n1 : ¬ n = i := fun z => h67 (i1.mpr z)
                    have n2 : ¬ m = c := fun z => h73 (i2.mpr z)
                    refine R_aload_n (i := 0) hC dX7_turn_76 rfl rfl (R_iload hC dX7_turn_77 rfl (R_iload hC dX7_turn_79 rfl (R_aload_n (i := 0) hC dX7_turn_81 rfl rfl (R_iload hC dX7_turn_82 rfl (R_iload hC dX7_turn_84 rfl ?_)))))
                    refine R_V2i hC hR dX7_turn_86 MV_X7_at ml_X7_28 hA.1 rfl (c_atN hA ht hn hm) (by first | decide | omega) ⟨by decide, by decide⟩ (Nat.le_of_ble_eq_true rfl) ?_
                    refine R_top (y := T.2.2 n m) (by show (if n = i ∨ m = c then _ else if n < n ∨ (n = n ∧ m < m) then _ else _) = _; rw [if_neg (by omega), if_neg (by omega)]) ?_
                    refine R_iload_n (i := 3) hC dX7_turn_89 rfl rfl (R_aload_n (i := 0) hC dX7_turn_90 rfl rfl (R_iload hC dX7_turn_91 rfl (R_iload_n (i := 2) hC dX7_turn_93 rfl rfl ?_)))
                    refine R_V2i hC hR dX7_turn_94 MV_X7_at ml_X7_28 hA.1 rfl (c_atN hA ht hn hc) (by first | decide | omega) ⟨by decide, by decide⟩ (Nat.le_of_ble_eq_true rfl) ?_
                    refine R_top (y := T.2.2 n c) (if_pos (Or.inr rfl)) ?_
                    refine R_imul hC dX7_turn_97 (R_aload_n (i := 0) hC dX7_turn_98 rfl rfl (R_iload_n (i := 1) hC dX7_turn_99 rfl rfl (R_iload hC dX7_turn_100 rfl ?_)))
                    refine R_V2i hC hR dX7_turn_102 MV_X7_at ml_X7_28 hA.1 rfl (c_atN hA ht hi hm) (by first | decide | omega) ⟨by decide, by decide⟩ (Nat.le_of_ble_eq_true rfl) ?_
                    refine R_top (y := T.2.2 i m) (if_pos (Or.inl rfl)) ?_
                    refine R_imul hC dX7_turn_105 (R_isub hC dX7_turn_106 ?_)
                    refine R_top (y := tturn i c T.2.2 n m) ((tturn_n n1 n2).symm) ?_
                    refine R_V3v hC hR dX7_turn_107 MV_X7_put ml_X7_48 hA.1 rfl (c_put hA ht hn hm _) (by first | decide | omega) ⟨by decide, by decide⟩ (Nat.le_of_ble_eq_true rfl) ?_
                    refine R_iinc hC dX7_turn_110 rfl (inc1 _) (by decide) rfl (R_goto hC 55 dX7_turn_113 (by decide) ?_)
                    exact ihm _ (e.a (m2 _ _)) ((ht.put (i := n) hm _).cg (fun p q hp hq => by
                      show (if p = i ∨ q = c then T.2.2 p q else if p < n ∨ (p = n ∧ q < m + 1) then tturn i c T.2.2 p q else T.2.2 p q) = if p = n ∧ q = m then tturn i c T.2.2 n m else if p = i ∨ q = c then T.2.2 p q else if p < n ∨ (p = n ∧ q < m) then tturn i c T.2.2 p q else T.2.2 p q
                      by_cases e2 : p = n ∧ q = m
                      · rw [if_pos e2, e2.1, e2.2, if_neg (by omega), if_pos (by omega)]
                      · rw [if_neg e2]
                        by_cases e0 : p = i ∨ q = c
                        · rw [if_pos e0, if_pos e0]
                        · rw [if_neg e0, if_neg e0]
                          by_cases e1 : p < n ∨ (p = n ∧ q < m)
                          · rw [if_pos e1, if_pos (by omega)]
                          · rw [if_neg e1, if_neg (by omega)]))
                    first | exact keep (Or.inl (i1.mp h67)) | exact keep (Or.inr (i2.mp h73)) | skip
            refine R_iload hC dX7_turn_43 rfl (R_aload_n (i := 0) hC dX7_turn_45 rfl rfl (R_gI hC dX7_turn_46 fl_X7_15 hA.1 rfl ?_))
            refine R_top (y := nI T.1) (ht.1) ?_
            refine R_icmp_ge hC 122 dX7_turn_49 (by decide) (fun h => absurd h (nI_ge hn (by omega))) (fun _ => ?_)
            refine R_iconst (v := 0) hC dX7_turn_52 (by decide) (R_istore hC dX7_turn_53 (by decide) rfl ?_)
            exact inner 0 (Nat.zero_le _) τ e (ht.cg (fun p q hp hq => by
              show (if p = i ∨ q = c then T.2.2 p q else if p < n ∨ (p = n ∧ q < 0) then tturn i c T.2.2 p q else T.2.2 p q) = if p = i ∨ q = c then T.2.2 p q else if p < n then tturn i c T.2.2 p q else T.2.2 p q
              by_cases e1 : p < n
              · rw [if_pos e1, if_pos (show p < n ∨ (p = n ∧ q < 0) by omega)]
              · rw [if_neg e1, if_neg (show ¬ (p < n ∨ (p = n ∧ q < 0)) by omega)]))
        refine R_aload_n (i := 0) hC dX7_turn_0 rfl rfl (R_iload_n (i := 1) hC dX7_turn_1 rfl rfl (R_iload_n (i := 2) hC dX7_turn_2 rfl rfl ?_))
        refine R_V2i hC hR dX7_turn_3 MV_X7_has ml_X7_79 hA.1 rfl (c_has hA h _ _) (by first | decide | omega) ⟨by decide, by decide⟩ (Nat.le_of_ble_eq_true rfl) ?_
        refine R_top (y := 1) (b2i_t hr) ?_
        refine R_if_ne hC 11 dX7_turn_6 (by decide) (fun _ => ?_) (fun h => absurd h (by decide))
        refine R_aload_n (i := 0) hC dX7_turn_11 rfl rfl (R_iload_n (i := 1) hC dX7_turn_12 rfl rfl (R_iload_n (i := 2) hC dX7_turn_13 rfl rfl ?_))
        refine R_V2i hC hR dX7_turn_14 MV_X7_at ml_X7_28 hA.1 rfl (c_atN hA h hi hc) (by first | decide | omega) ⟨by decide, by decide⟩ (Nat.le_of_ble_eq_true rfl) ?_
        refine R_if_ne hC 22 dX7_turn_17 (by decide) (fun _ => ?_) (fun h => absurd h hz)
        refine R_aload_n (i := 0) hC dX7_turn_22 rfl rfl (R_iload_n (i := 1) hC dX7_turn_23 rfl rfl (R_iload_n (i := 2) hC dX7_turn_24 rfl rfl ?_))
        refine R_V2i hC hR dX7_turn_25 MV_X7_canTurn ml_X7_83 hA.1 rfl (c_canTurn hA h ok hi hc) (by first | decide | omega) ⟨by decide, by decide⟩ (Nat.le_of_ble_eq_true rfl) ?_
        refine R_top (y := 1) (b2i_t hs) ?_
        refine R_if_ne hC 33 dX7_turn_28 (by decide) (fun _ => ?_) (fun h => absurd h (by decide))
        refine R_aload_n (i := 0) hC dX7_turn_33 rfl rfl (R_iload_n (i := 1) hC dX7_turn_34 rfl rfl (R_iload_n (i := 2) hC dX7_turn_35 rfl rfl ?_))
        refine R_V2i hC hR dX7_turn_36 MV_X7_at ml_X7_28 hA.1 rfl (c_atN hA h hi hc) (by first | decide | omega) ⟨by decide, by decide⟩ (Nat.le_of_ble_eq_true rfl) ?_
        refine R_istore_n (i := 3) hC dX7_turn_39 rfl (by decide) rfl (R_iconst (v := 0) hC dX7_turn_40 (by decide) (R_istore hC dX7_turn_41 (by decide) rfl ?_))
        exact ph1 0 (Nat.zero_le _) σ (AE.rf _ _) (h.cg (fun p q hp hq => by split; rfl; exact if_neg (Nat.not_lt_zero _))) _
      · rw [actR_n (hst2 hz hs) (by decide)] at hT
        refine R_aload_n (i := 0) hC dX7_turn_0 rfl rfl (R_iload_n (i := 1) hC dX7_turn_1 rfl rfl (R_iload_n (i := 2) hC dX7_turn_2 rfl rfl ?_))
        refine R_V2i hC hR dX7_turn_3 MV_X7_has ml_X7_79 hA.1 rfl (c_has hA h _ _) (by first | decide | omega) ⟨by decide, by decide⟩ (Nat.le_of_ble_eq_true rfl) ?_
        refine R_top (y := 1) (b2i_t hr) ?_
        refine R_if_ne hC 11 dX7_turn_6 (by decide) (fun _ => ?_) (fun h => absurd h (by decide))
        refine R_aload_n (i := 0) hC dX7_turn_11 rfl rfl (R_iload_n (i := 1) hC dX7_turn_12 rfl rfl (R_iload_n (i := 2) hC dX7_turn_13 rfl rfl ?_))
        refine R_V2i hC hR dX7_turn_14 MV_X7_at ml_X7_28 hA.1 rfl (c_atN hA h hi hc) (by first | decide | omega) ⟨by decide, by decide⟩ (Nat.le_of_ble_eq_true rfl) ?_
        refine R_if_ne hC 22 dX7_turn_17 (by decide) (fun _ => ?_) (fun h => absurd h hz)
        refine R_aload_n (i := 0) hC dX7_turn_22 rfl rfl (R_iload_n (i := 1) hC dX7_turn_23 rfl rfl (R_iload_n (i := 2) hC dX7_turn_24 rfl rfl ?_))
        refine R_V2i hC hR dX7_turn_25 MV_X7_canTurn ml_X7_83 hA.1 rfl (c_canTurn hA h ok hi hc) (by first | decide | omega) ⟨by decide, by decide⟩ (Nat.le_of_ble_eq_true rfl) ?_
        refine R_top (y := 0) (b2i_f hs) ?_
        refine R_if_ne hC 33 dX7_turn_28 (by decide) (fun h => absurd rfl h) (fun _ => ?_)
        refine R_iconst (v := 3) hC dX7_turn_31 (by decide) ?_
        exact R_iret hC hT dX7_turn_32 rfl (TQ.i (AE.rf _ _) h)
  · rw [actR_n (st_4a h0 hr) (by decide)] at hT
    refine R_aload_n (i := 0) hC dX7_turn_0 rfl rfl (R_iload_n (i := 1) hC dX7_turn_1 rfl rfl (R_iload_n (i := 2) hC dX7_turn_2 rfl rfl ?_))
    refine R_V2i hC hR dX7_turn_3 MV_X7_has ml_X7_79 hA.1 rfl (c_has hA h _ _) (by first | decide | omega) ⟨by decide, by decide⟩ (Nat.le_of_ble_eq_true rfl) ?_
    refine R_top (y := 0) (b2i_f hr) ?_
    refine R_if_ne hC 11 dX7_turn_6 (by decide) (fun h => absurd rfl h) (fun _ => ?_)
    refine R_iconst (v := 1) hC dX7_turn_9 (by decide) ?_
    exact R_iret hC hT dX7_turn_10 rfl (TQ.i (AE.rf _ _) h)
/-- SET -/
noncomputable def setR (T : tb) (r c v : Int32) : Int32 × tb := by classical exact
  if ¬ (inR T.1 r ∧ inR T.2.1 c ∧ sml v) then (1, T) else if (T.2.2 r.toNatClampNeg c.toNatClampNeg = v) then (2, T) else (-1, tset T r.toNatClampNeg c.toNatClampNeg v)
theorem c_set {σ : sg} {x : aW} {a : Nat} {T : tb} (hA : TL a) (h : CT σ a T) (r c v : Int32) : Mt mX7_set 1 0 0 [.ref a, .int r, .int c, .int v] (wd σ x) (TQ σ x a (setR T r c v).2 (some (.int (setR T r c v).1))) := by
  refine Mt.of MI_X7_set (Nat.le_of_ble_eq_true rfl) (fun X hC hR hT => ?_)
  obtain ⟨k1, k2, k3, k4, k5⟩ := id h
  have e1 : (-1 : Int32).toInt = -1 := by decide
  have e2 : (1 : Int32).toInt = 1 := by decide
  by_cases hr : inR T.1 r ∧ inR T.2.1 c
  · have hr0 := hr
    obtain ⟨i, rfl, hi, hi2⟩ := inR_i hr.1
    obtain ⟨j, rfl, hj, hj2⟩ := inR_i hr.2
    have ev : ∀ hs : sml v, setR T (nI i) (nI j) v = if T.2.2 i j = v then (2, T) else (-1, tset T i j v) := fun hs => by
      unfold setR; rw [if_neg (fun q => q ⟨hr.1, hr.2, hs⟩), nI_clamp hi2, nI_clamp hj2]
    have en : ¬ sml v → setR T (nI i) (nI j) v = (1, T) := fun hs => by unfold setR; rw [if_pos (fun q => hs q.2.2)]
    refine R_aload_n (i := 0) hC dX7_set_0 rfl rfl (R_iload_n (i := 1) hC dX7_set_1 rfl rfl (R_iload_n (i := 2) hC dX7_set_2 rfl rfl ?_))
    refine R_V2i hC hR dX7_set_3 MV_X7_has ml_X7_79 hA.1 rfl (c_has hA h _ _) (by first | decide | omega) ⟨by decide, by decide⟩ (Nat.le_of_ble_eq_true rfl) ?_
    refine R_top (y := 1) (b2i_t hr) ?_
    refine R_if_eq hC 19 dX7_set_6 (by decide) (fun h => absurd h (by decide)) (fun _ => ?_)
    refine R_iload_n (i := 3) hC dX7_set_9 rfl rfl (R_iconst (v := (-1)) hC dX7_set_10 (by decide) ?_)
    refine R_icmp_lt hC 19 dX7_set_11 (by decide) (fun h11 => ?_) (fun h11 => ?_)
    · refine R_iconst (v := 1) hC dX7_set_19 (by decide) ?_
      exact R_iret hC hT dX7_set_20 rfl (by rw [en (fun q => by have q := sml_in.mp q; simp only [i32_ge, i32_lt, e1, e2] at *; omega)]; exact TQ.i (AE.rf _ _) h)
    · refine R_iload_n (i := 3) hC dX7_set_14 rfl rfl (R_iconst (v := 1) hC dX7_set_15 (by decide) ?_)
      refine R_icmp_le hC 21 dX7_set_16 (by decide) (fun h16 => ?_) (fun h16 => ?_)
      · have hs : sml v := sml_in.mpr (by simp only [i32_ge, i32_lt, e1, e2] at *; omega)
        refine R_aload_n (i := 0) hC dX7_set_21 rfl rfl (R_iload_n (i := 1) hC dX7_set_22 rfl rfl (R_iload_n (i := 2) hC dX7_set_23 rfl rfl ?_))
        refine R_V2i hC hR dX7_set_24 MV_X7_at ml_X7_28 hA.1 rfl (c_atN hA h hi hj) (by first | decide | omega) ⟨by decide, by decide⟩ (Nat.le_of_ble_eq_true rfl) ?_
        refine R_iload_n (i := 3) hC dX7_set_27 rfl rfl ?_
        refine R_icmp_ne hC 33 dX7_set_28 (by decide) (fun h28 => ?_) (fun h28 => ?_)
        · refine R_aload_n (i := 0) hC dX7_set_33 rfl rfl (R_iload_n (i := 1) hC dX7_set_34 rfl rfl (R_iload_n (i := 2) hC dX7_set_35 rfl rfl (R_iload_n (i := 3) hC dX7_set_36 rfl rfl ?_)))
          refine R_V3v hC hR dX7_set_37 MV_X7_put ml_X7_48 hA.1 rfl (c_put hA h hi hj _) (by first | decide | omega) ⟨by decide, by decide⟩ (Nat.le_of_ble_eq_true rfl) ?_
          refine R_iconst (v := (-1)) hC dX7_set_40 (by decide) ?_
          exact R_iret hC hT dX7_set_41 rfl (by rw [ev hs, if_neg h28]; exact TQ.i ((AE.rf _ _).a (m2 _ _)) (h.put hj _))
        · refine R_iconst (v := 2) hC dX7_set_31 (by decide) ?_
          exact R_iret hC hT dX7_set_32 rfl (by rw [ev hs, if_pos h28]; exact TQ.i (AE.rf _ _) h)
      · refine R_iconst (v := 1) hC dX7_set_19 (by decide) ?_
        exact R_iret hC hT dX7_set_20 rfl (by rw [en (fun q => by have q := sml_in.mp q; simp only [i32_ge, i32_lt, e1, e2] at *; omega)]; exact TQ.i (AE.rf _ _) h)
  · have en : setR T r c v = (1, T) := by unfold setR; rw [if_pos (fun q => hr ⟨q.1, q.2.1⟩)]
    rw [en] at hT
    refine R_aload_n (i := 0) hC dX7_set_0 rfl rfl (R_iload_n (i := 1) hC dX7_set_1 rfl rfl (R_iload_n (i := 2) hC dX7_set_2 rfl rfl ?_))
    refine R_V2i hC hR dX7_set_3 MV_X7_has ml_X7_79 hA.1 rfl (c_has hA h _ _) (by first | decide | omega) ⟨by decide, by decide⟩ (Nat.le_of_ble_eq_true rfl) ?_
    refine R_top (y := 0) (b2i_f hr) ?_
    refine R_if_eq hC 19 dX7_set_6 (by decide) (fun _ => ?_) (fun h => absurd rfl h)
    refine R_iconst (v := 1) hC dX7_set_19 (by decide) ?_
    exact R_iret hC hT dX7_set_20 rfl (TQ.i (AE.rf _ _) h)
theorem CT.tr {σ : sg} {a : Nat} {T : tb} (h : CT σ a T) : CT σ a T := h
theorem TQ.t {σ τ : sg} {x : aW} {a : Nat} {T : tb} {v r : Option Value} {w : aW} (c : AE [a, a + 1] σ τ) (h : TQ τ x a T v r w) : TQ σ x a T v r w := by
  obtain ⟨e, υ, e2, c2, h2⟩ := h
  exact ⟨e, υ, e2, c.tr c2, h2⟩
theorem c_onColumns {σ : sg} {x : aW} {a : Nat} {T : tb} (hA : TL a) (h : CT σ a T) (hI : tbI T) (k : Nat) (hk : k = 0 ∨ k = 2 ∨ k = 7) (r b : Int32) : Mt mX7_onColumns 2 0 0 [.ref a, .int (nI k), .int r, .int b] (wd σ x) (TQ σ x a (trT (actR (trT T) (if k = 7 then 6 else k) r b).2) (some (.int (actR (trT T) (if k = 7 then 6 else k) r b).1))) := by
  refine Mt.of MI_X7_onColumns (Nat.le_of_ble_eq_true rfl) (fun X hC hR hT => ?_)
  have fin : ∀ τ U v, AE [a, a + 1] σ τ → CT τ a U → (U, v) = ((actR (trT T) (if k = 7 then 6 else k) r b).2, (actR (trT T) (if k = 7 then 6 else k) r b).1) → Rw mX7_onColumns X 42 [some (.ref a), some (.int (nI k)), some (.int r), some (.int b), some (.int v)] [] (wd τ x) 0 0 := by
    intro τ U v c ht e
    obtain ⟨e1, e2⟩ := Prod.mk.inj e
    refine R_aload_n (i := 0) hC dX7_onColumns_42 rfl rfl ?_
    refine R_V0g hC hR dX7_onColumns_43 MV_X7_transpose ml_X7_69 hA.1 rfl (c_transpose hA ht) (by first | decide | omega) ⟨by decide, by decide⟩ (Nat.le_of_ble_eq_true rfl) (fun r w1 hq => ?_)
    obtain ⟨rfl, υ, rfl, c2, h2⟩ := hq
    refine R_pop hC dX7_onColumns_46 rfl (R_iload hC dX7_onColumns_47 rfl ?_)
    exact R_iret hC hT dX7_onColumns_49 rfl (by rw [← e1, ← e2]; exact TQ.i (c.tr c2) h2)
  have hI2 : tbI (trT T) := ⟨hI.2, hI.1⟩
  rcases hk with rfl | rfl | rfl
  · refine R_aload_n (i := 0) hC dX7_onColumns_0 rfl rfl ?_
    refine R_V0g hC hR dX7_onColumns_1 MV_X7_transpose ml_X7_69 hA.1 rfl (c_transpose hA h) (by first | decide | omega) ⟨by decide, by decide⟩ (Nat.le_of_ble_eq_true rfl) (fun r w1 hq => ?_)
    obtain ⟨rfl, υ, rfl, c2, h2⟩ := hq
    refine R_pop hC dX7_onColumns_4 rfl (R_iload_n (i := 1) hC dX7_onColumns_5 rfl rfl ?_)
    refine R_if_ne hC 19 dX7_onColumns_6 (by decide) (fun h => absurd rfl h) (fun _ => ?_)
    refine R_aload_n (i := 0) hC dX7_onColumns_9 rfl rfl (R_iload_n (i := 2) hC dX7_onColumns_10 rfl rfl ?_)
    refine R_V1g hC hR dX7_onColumns_11 MV_X7_negateRow ml_X7_56 hA.1 rfl (c_negateRow hA h2 hI2 r b) (by first | decide | omega) ⟨by decide, by decide⟩ (Nat.le_of_ble_eq_true rfl) (fun r w1 hq => ?_)
    obtain ⟨rfl, ω, rfl, c3, h3⟩ := hq
    refine R_istore hC dX7_onColumns_14 (by decide) rfl (R_goto hC 42 dX7_onColumns_16 (by decide) ?_)
    exact fin ω _ _ (c2.tr c3) h3 rfl
  · refine R_aload_n (i := 0) hC dX7_onColumns_0 rfl rfl ?_
    refine R_V0g hC hR dX7_onColumns_1 MV_X7_transpose ml_X7_69 hA.1 rfl (c_transpose hA h) (by first | decide | omega) ⟨by decide, by decide⟩ (Nat.le_of_ble_eq_true rfl) (fun r w1 hq => ?_)
    obtain ⟨rfl, υ, rfl, c2, h2⟩ := hq
    refine R_pop hC dX7_onColumns_4 rfl (R_iload_n (i := 1) hC dX7_onColumns_5 rfl rfl ?_)
    refine R_if_ne hC 19 dX7_onColumns_6 (by decide) (fun _ => ?_) (fun h => absurd h (by decide))
    refine R_iload_n (i := 1) hC dX7_onColumns_19 rfl rfl (R_iconst (v := 2) hC dX7_onColumns_20 (by decide) ?_)
    refine R_icmp_ne hC 35 dX7_onColumns_21 (by decide) (fun h => absurd rfl h) (fun _ => ?_)
    refine R_aload_n (i := 0) hC dX7_onColumns_24 rfl rfl (R_iload_n (i := 2) hC dX7_onColumns_25 rfl rfl (R_iload_n (i := 3) hC dX7_onColumns_26 rfl rfl ?_))
    refine R_V2g hC hR dX7_onColumns_27 MV_X7_changeRows ml_X7_63 hA.1 rfl (c_changeRows hA h2 hI2 r b) (by first | decide | omega) ⟨by decide, by decide⟩ (Nat.le_of_ble_eq_true rfl) (fun r w1 hq => ?_)
    obtain ⟨rfl, ω, rfl, c3, h3⟩ := hq
    refine R_istore hC dX7_onColumns_30 (by decide) rfl (R_goto hC 42 dX7_onColumns_32 (by decide) ?_)
    exact fin ω _ _ (c2.tr c3) h3 rfl
  · refine R_aload_n (i := 0) hC dX7_onColumns_0 rfl rfl ?_
    refine R_V0g hC hR dX7_onColumns_1 MV_X7_transpose ml_X7_69 hA.1 rfl (c_transpose hA h) (by first | decide | omega) ⟨by decide, by decide⟩ (Nat.le_of_ble_eq_true rfl) (fun r w1 hq => ?_)
    obtain ⟨rfl, υ, rfl, c2, h2⟩ := hq
    refine R_pop hC dX7_onColumns_4 rfl (R_iload_n (i := 1) hC dX7_onColumns_5 rfl rfl ?_)
    refine R_if_ne hC 19 dX7_onColumns_6 (by decide) (fun _ => ?_) (fun h => absurd h (by decide))
    refine R_iload_n (i := 1) hC dX7_onColumns_19 rfl rfl (R_iconst (v := 2) hC dX7_onColumns_20 (by decide) ?_)
    refine R_icmp_ne hC 35 dX7_onColumns_21 (by decide) (fun _ => ?_) (fun h => absurd h (by decide))
    refine R_aload_n (i := 0) hC dX7_onColumns_35 rfl rfl (R_iload_n (i := 2) hC dX7_onColumns_36 rfl rfl ?_)
    refine R_V1g hC hR dX7_onColumns_37 MV_X7_dropRow ml_X7_76 hA.1 rfl (c_dropRow hA h2 hI2 r b) (by first | decide | omega) ⟨by decide, by decide⟩ (Nat.le_of_ble_eq_true rfl) (fun r w1 hq => ?_)
    obtain ⟨rfl, ω, rfl, c3, h3⟩ := hq
    refine R_istore hC dX7_onColumns_40 (by decide) rfl ?_
    exact fin ω _ _ (c2.tr c3) h3 rfl
/-- acts by the class's numbers: up to 5 as deal has them, 6 SET, 7 and 8 drop -/
noncomputable def actC (T : tb) (k : Nat) (a b v : Int32) : Int32 × tb := if k ≤ 5 then actR T k a b else if k = 6 then setR T a b v else if k = 7 then actR T 6 a b else if k = 8 then actR T 7 a b else (1, T)
theorem stop_tr {T : tb} (hI : tbI T) (a b : Int32) : stopZ T 1 a b = stopZ (trT T) 0 a b ∧ stopZ T 3 a b = stopZ (trT T) 2 a b ∧ stopZ T 7 a b = stopZ (trT T) 6 a b := by
  have h1 : ¬ T.1 = 0 := by have := hI.1; omega
  have h2 : ¬ T.2.1 = 0 := by have := hI.2; omega
  refine ⟨?_, ?_, ?_⟩ <;> simp [stopZ, h1, h2]
theorem actR_tr {T : tb} (hI : tbI T) (a b : Int32) : actR T 1 a b = ((actR (trT T) 0 a b).1, trT (actR (trT T) 0 a b).2) ∧ actR T 3 a b = ((actR (trT T) 2 a b).1, trT (actR (trT T) 2 a b).2) ∧ actR T 7 a b = ((actR (trT T) 6 a b).1, trT (actR (trT T) 6 a b).2) := by
  obtain ⟨e1, e2, e3⟩ := stop_tr hI a b
  refine ⟨?_, ?_, ?_⟩
  · unfold actR; rw [e1]; refine Prod.ext rfl ?_; show (if _ then _ else _) = trT (if _ then _ else _); split <;> rfl
  · unfold actR; rw [e2]; refine Prod.ext rfl ?_; show (if _ then _ else _) = trT (if _ then _ else _); split <;> rfl
  · unfold actR; rw [e3]; refine Prod.ext rfl ?_; show (if _ then _ else _) = trT (if _ then _ else _); split <;> rfl
theorem sw9 {x : Int32} (h1 : 0 ≤ x.toInt) (h2 : x.toInt ≤ 8) : x = nI 0 ∨ x = nI 1 ∨ x = nI 2 ∨ x = nI 3 ∨ x = nI 4 ∨ x = nI 5 ∨ x = nI 6 ∨ x = nI 7 ∨ x = nI 8 := by
  obtain ⟨j, rfl, hj, -⟩ := i32_nI h1
  rcases (by omega : j = 0 ∨ j = 1 ∨ j = 2 ∨ j = 3 ∨ j = 4 ∨ j = 5 ∨ j = 6 ∨ j = 7 ∨ j = 8) with rfl | rfl | rfl | rfl | rfl | rfl | rfl | rfl | rfl <;> simp
theorem c_act {σ : sg} {x : aW} {a : Nat} {T : tb} (hA : TL a) (h : CT σ a T) (hI : tbI T) (ok : ∀ i j, i < T.1 → j < T.2.1 → sml (T.2.2 i j)) (k : Nat) (hk : k ≤ 8) (r b v : Int32) : Mt mX7_act 3 0 0 [.ref a, .int (nI k), .int r, .int b, .int v] (wd σ x) (TQ σ x a (actC T k r b v).2 (some (.int (actC T k r b v).1))) := by
  refine Mt.of MI_X7_act (Nat.le_of_ble_eq_true rfl) (fun X hC hR hT => ?_)
  obtain ⟨t1, t2, t3⟩ := actR_tr hI r b
  rcases (by omega : k = 0 ∨ k = 1 ∨ k = 2 ∨ k = 3 ∨ k = 4 ∨ k = 5 ∨ k = 6 ∨ k = 7 ∨ k = 8) with rfl | rfl | rfl | rfl | rfl | rfl | rfl | rfl | rfl
  · refine R_iload_n (i := 1) hC dX7_act_0 rfl rfl ?_
    refine R_tableIn hC 52 dX7_act_1 (by decide) (by decide) rfl (by decide) ?_
    refine R_aload_n (i := 0) hC dX7_act_52 rfl rfl (R_iload_n (i := 2) hC dX7_act_53 rfl rfl ?_)
    refine R_V1g hC hR dX7_act_54 MV_X7_negateRow ml_X7_56 hA.1 rfl (c_negateRow hA h hI r b) (by first | decide | omega) ⟨by decide, by decide⟩ (Nat.le_of_ble_eq_true rfl) (fun r w1 hq => ?_)
    obtain ⟨rfl, ω, rfl, c3, h3⟩ := hq
    exact R_iret hC hT dX7_act_57 rfl (TQ.i c3 h3)
  · refine R_iload_n (i := 1) hC dX7_act_0 rfl rfl ?_
    refine R_tableIn hC 58 dX7_act_1 (by decide) (by decide) rfl (by decide) ?_
    refine R_aload_n (i := 0) hC dX7_act_58 rfl rfl (R_iconst (v := 0) hC dX7_act_59 (by decide) (R_iload_n (i := 2) hC dX7_act_60 rfl rfl (R_iload_n (i := 3) hC dX7_act_61 rfl rfl ?_)))
    refine R_V3g hC hR dX7_act_62 MV_X7_onColumns ml_X7_59 hA.1 rfl (c_onColumns hA h hI 0 (Or.inl rfl) r b) (by first | decide | omega) ⟨by decide, by decide⟩ (Nat.le_of_ble_eq_true rfl) (fun r w1 hq => ?_)
    obtain ⟨rfl, ω, rfl, c3, h3⟩ := hq
    exact R_iret hC hT dX7_act_65 rfl (by rw [show actC T 1 r b v = actR T 1 r b from rfl, t1]; exact TQ.i c3 h3)
  · refine R_iload_n (i := 1) hC dX7_act_0 rfl rfl ?_
    refine R_tableIn hC 66 dX7_act_1 (by decide) (by decide) rfl (by decide) ?_
    refine R_aload_n (i := 0) hC dX7_act_66 rfl rfl (R_iload_n (i := 2) hC dX7_act_67 rfl rfl (R_iload_n (i := 3) hC dX7_act_68 rfl rfl ?_))
    refine R_V2g hC hR dX7_act_69 MV_X7_changeRows ml_X7_63 hA.1 rfl (c_changeRows hA h hI r b) (by first | decide | omega) ⟨by decide, by decide⟩ (Nat.le_of_ble_eq_true rfl) (fun r w1 hq => ?_)
    obtain ⟨rfl, ω, rfl, c3, h3⟩ := hq
    exact R_iret hC hT dX7_act_72 rfl (TQ.i c3 h3)
  · refine R_iload_n (i := 1) hC dX7_act_0 rfl rfl ?_
    refine R_tableIn hC 73 dX7_act_1 (by decide) (by decide) rfl (by decide) ?_
    refine R_aload_n (i := 0) hC dX7_act_73 rfl rfl (R_iconst (v := 2) hC dX7_act_74 (by decide) (R_iload_n (i := 2) hC dX7_act_75 rfl rfl (R_iload_n (i := 3) hC dX7_act_76 rfl rfl ?_)))
    refine R_V3g hC hR dX7_act_77 MV_X7_onColumns ml_X7_59 hA.1 rfl (c_onColumns hA h hI 2 (Or.inr (Or.inl rfl)) r b) (by first | decide | omega) ⟨by decide, by decide⟩ (Nat.le_of_ble_eq_true rfl) (fun r w1 hq => ?_)
    obtain ⟨rfl, ω, rfl, c3, h3⟩ := hq
    exact R_iret hC hT dX7_act_80 rfl (by rw [show actC T 3 r b v = actR T 3 r b from rfl, t2]; exact TQ.i c3 h3)
  · refine R_iload_n (i := 1) hC dX7_act_0 rfl rfl ?_
    refine R_tableIn hC 81 dX7_act_1 (by decide) (by decide) rfl (by decide) ?_
    refine R_aload_n (i := 0) hC dX7_act_81 rfl rfl (R_iload_n (i := 2) hC dX7_act_82 rfl rfl (R_iload_n (i := 3) hC dX7_act_83 rfl rfl ?_))
    refine R_V2g hC hR dX7_act_84 MV_X7_turn ml_X7_66 hA.1 rfl (c_turn hA h hI ok r b) (by first | decide | omega) ⟨by decide, by decide⟩ (Nat.le_of_ble_eq_true rfl) (fun r w1 hq => ?_)
    obtain ⟨rfl, ω, rfl, c3, h3⟩ := hq
    exact R_iret hC hT dX7_act_87 rfl (TQ.i c3 h3)
  · refine R_iload_n (i := 1) hC dX7_act_0 rfl rfl ?_
    refine R_tableIn hC 88 dX7_act_1 (by decide) (by decide) rfl (by decide) ?_
    refine R_aload_n (i := 0) hC dX7_act_88 rfl rfl ?_
    refine R_V0g hC hR dX7_act_89 MV_X7_transpose ml_X7_69 hA.1 rfl (c_transpose hA h) (by first | decide | omega) ⟨by decide, by decide⟩ (Nat.le_of_ble_eq_true rfl) (fun r w1 hq => ?_)
    obtain ⟨rfl, ω, rfl, c3, h3⟩ := hq
    exact R_iret hC hT dX7_act_92 rfl (by rw [show actC T 5 r b v = (-1, trT T) from actR_y (by have := hI.1; simp [stopZ, show ¬ T.1 = 0 by omega])]; exact TQ.i c3 h3)
  · refine R_iload_n (i := 1) hC dX7_act_0 rfl rfl ?_
    refine R_tableIn hC 93 dX7_act_1 (by decide) (by decide) rfl (by decide) ?_
    refine R_aload_n (i := 0) hC dX7_act_93 rfl rfl (R_iload_n (i := 2) hC dX7_act_94 rfl rfl (R_iload_n (i := 3) hC dX7_act_95 rfl rfl (R_iload hC dX7_act_96 rfl ?_)))
    refine R_V3g hC hR dX7_act_98 MV_X7_set ml_X7_73 hA.1 rfl (c_set hA h r b v) (by first | decide | omega) ⟨by decide, by decide⟩ (Nat.le_of_ble_eq_true rfl) (fun r w1 hq => ?_)
    obtain ⟨rfl, ω, rfl, c3, h3⟩ := hq
    exact R_iret hC hT dX7_act_101 rfl (TQ.i c3 h3)
  · refine R_iload_n (i := 1) hC dX7_act_0 rfl rfl ?_
    refine R_tableIn hC 102 dX7_act_1 (by decide) (by decide) rfl (by decide) ?_
    refine R_aload_n (i := 0) hC dX7_act_102 rfl rfl (R_iload_n (i := 2) hC dX7_act_103 rfl rfl ?_)
    refine R_V1g hC hR dX7_act_104 MV_X7_dropRow ml_X7_76 hA.1 rfl (c_dropRow hA h hI r b) (by first | decide | omega) ⟨by decide, by decide⟩ (Nat.le_of_ble_eq_true rfl) (fun r w1 hq => ?_)
    obtain ⟨rfl, ω, rfl, c3, h3⟩ := hq
    exact R_iret hC hT dX7_act_107 rfl (TQ.i c3 h3)
  · refine R_iload_n (i := 1) hC dX7_act_0 rfl rfl ?_
    refine R_tableIn hC 108 dX7_act_1 (by decide) (by decide) rfl (by decide) ?_
    refine R_aload_n (i := 0) hC dX7_act_108 rfl rfl (R_bipush (v := 7) hC dX7_act_109 (by decide) (R_iload_n (i := 2) hC dX7_act_111 rfl rfl (R_iload_n (i := 3) hC dX7_act_112 rfl rfl ?_)))
    refine R_V3g hC hR dX7_act_113 MV_X7_onColumns ml_X7_59 hA.1 rfl (c_onColumns hA h hI 7 (Or.inr (Or.inr rfl)) r b) (by first | decide | omega) ⟨by decide, by decide⟩ (Nat.le_of_ble_eq_true rfl) (fun r w1 hq => ?_)
    obtain ⟨rfl, ω, rfl, c3, h3⟩ := hq
    exact R_iret hC hT dX7_act_116 rfl (by rw [show actC T 8 r b v = actR T 7 r b from rfl, t3]; exact TQ.i c3 h3)
/-- no such act -/
theorem c_actN {σ : sg} {x : aW} {a : Nat} {T : tb} (hA : TL a) (h : CT σ a T) (r b v : Int32) : Mt mX7_act 3 0 0 [.ref a, .int (-1), .int r, .int b, .int v] (wd σ x) (TQ σ x a T (some (.int 1))) := by
  refine Mt.of MI_X7_act (Nat.le_of_ble_eq_true rfl) (fun X hC hR hT => ?_)
  refine R_iload_n (i := 1) hC dX7_act_0 rfl rfl ?_
  refine R_tableOut hC 117 dX7_act_1 (by decide) (by decide) ?_
  refine R_iconst (v := 1) hC dX7_act_117 (by decide) ?_
  exact R_iret hC hT dX7_act_118 rfl (TQ.i (AE.rf _ _) h)
