/-! ===== the class's halves, scaling, counting ===== -/
theorem c_rowSet {σ : sg} {x : aW} {a : Nat} {T : tb} (hA : TL a) (h : CT σ a T) (r : Int32) : Mt mX7_hasRowSet 0 0 0 [.ref a, .int r] (wd σ x) (QI (b2i (¬ T.1 = 0 ∧ 0 ≤ r.toInt ∧ r.toInt < (2 : Int) ^ T.1)) (wd σ x)) := by
  refine Mt.of MI_X7_hasRowSet (Nat.le_of_ble_eq_true rfl) (fun X hC hR hT => ?_)
  obtain ⟨k1, k2, k3, k4, k5⟩ := id h
  have p1 := pw6 k3
  have e1 := nI_toInt (n := 2 ^ T.1) (by omega)
  have e2 := nI_toInt (n := T.1) (by omega)
  rw [pwI] at e1
  refine R_aload_n (i := 0) hC dX7_hasRowSet_0 rfl rfl (R_gI hC dX7_hasRowSet_1 fl_X7_15 hA.1 rfl ?_)
  refine R_top (y := nI T.1) (k1) ?_
  refine R_if_le hC 25 dX7_hasRowSet_4 (by decide) (fun h4 => ?_) (fun h4 => ?_)
  · refine R_iconst (v := 0) hC dX7_hasRowSet_25 (by decide) ?_
    exact R_zret hC hT dX7_hasRowSet_26 rfl (by decide) ⟨by simp only [i32_ge, i32_lt, Int32.toInt_zero, e1, e2] at *; first | (rw [b2i_t (by omega)]; done) | (rw [b2i_f (by omega)]; done), rfl⟩
  · refine R_iload_n (i := 1) hC dX7_hasRowSet_7 rfl rfl ?_
    refine R_if_lt hC 25 dX7_hasRowSet_8 (by decide) (fun h8 => ?_) (fun h8 => ?_)
    · refine R_iconst (v := 0) hC dX7_hasRowSet_25 (by decide) ?_
      exact R_zret hC hT dX7_hasRowSet_26 rfl (by decide) ⟨by simp only [i32_ge, i32_lt, Int32.toInt_zero, e1, e2] at *; first | (rw [b2i_t (by omega)]; done) | (rw [b2i_f (by omega)]; done), rfl⟩
    · refine R_iload_n (i := 1) hC dX7_hasRowSet_11 rfl rfl (R_iconst (v := 1) hC dX7_hasRowSet_12 (by decide) (R_aload_n (i := 0) hC dX7_hasRowSet_13 rfl rfl (R_gI hC dX7_hasRowSet_14 fl_X7_15 hA.1 rfl ?_)))
      refine R_top (y := nI T.1) (k1) ?_
      refine R_ishl hC dX7_hasRowSet_17 ?_
      refine R_top (y := nI (2 ^ T.1)) (shl1 T.1 k3) ?_
      refine R_icmp_ge hC 25 dX7_hasRowSet_18 (by decide) (fun h18 => ?_) (fun h18 => ?_)
      · refine R_iconst (v := 0) hC dX7_hasRowSet_25 (by decide) ?_
        exact R_zret hC hT dX7_hasRowSet_26 rfl (by decide) ⟨by simp only [i32_ge, i32_lt, Int32.toInt_zero, e1, e2] at *; first | (rw [b2i_t (by omega)]; done) | (rw [b2i_f (by omega)]; done), rfl⟩
      · refine R_iconst (v := 1) hC dX7_hasRowSet_21 (by decide) (R_goto hC 26 dX7_hasRowSet_22 (by decide) ?_)
        exact R_zret hC hT dX7_hasRowSet_26 rfl (by decide) ⟨by simp only [i32_ge, i32_lt, Int32.toInt_zero, e1, e2] at *; first | (rw [b2i_t (by omega)]; done) | (rw [b2i_f (by omega)]; done), rfl⟩
theorem c_colSet {σ : sg} {x : aW} {a : Nat} {T : tb} (hA : TL a) (h : CT σ a T) (r : Int32) : Mt mX7_hasColumnSet 0 0 0 [.ref a, .int r] (wd σ x) (QI (b2i (¬ T.2.1 = 0 ∧ 0 ≤ r.toInt ∧ r.toInt < (2 : Int) ^ T.2.1)) (wd σ x)) := by
  refine Mt.of MI_X7_hasColumnSet (Nat.le_of_ble_eq_true rfl) (fun X hC hR hT => ?_)
  obtain ⟨k1, k2, k3, k4, k5⟩ := id h
  have p1 := pw6 k4
  have e1 := nI_toInt (n := 2 ^ T.2.1) (by omega)
  have e2 := nI_toInt (n := T.2.1) (by omega)
  rw [pwI] at e1
  refine R_aload_n (i := 0) hC dX7_hasColumnSet_0 rfl rfl (R_gI hC dX7_hasColumnSet_1 fl_X7_19 hA.1 rfl ?_)
  refine R_top (y := nI T.2.1) (k2) ?_
  refine R_if_le hC 25 dX7_hasColumnSet_4 (by decide) (fun h4 => ?_) (fun h4 => ?_)
  · refine R_iconst (v := 0) hC dX7_hasColumnSet_25 (by decide) ?_
    exact R_zret hC hT dX7_hasColumnSet_26 rfl (by decide) ⟨by simp only [i32_ge, i32_lt, Int32.toInt_zero, e1, e2] at *; first | (rw [b2i_t (by omega)]; done) | (rw [b2i_f (by omega)]; done), rfl⟩
  · refine R_iload_n (i := 1) hC dX7_hasColumnSet_7 rfl rfl ?_
    refine R_if_lt hC 25 dX7_hasColumnSet_8 (by decide) (fun h8 => ?_) (fun h8 => ?_)
    · refine R_iconst (v := 0) hC dX7_hasColumnSet_25 (by decide) ?_
      exact R_zret hC hT dX7_hasColumnSet_26 rfl (by decide) ⟨by simp only [i32_ge, i32_lt, Int32.toInt_zero, e1, e2] at *; first | (rw [b2i_t (by omega)]; done) | (rw [b2i_f (by omega)]; done), rfl⟩
    · refine R_iload_n (i := 1) hC dX7_hasColumnSet_11 rfl rfl (R_iconst (v := 1) hC dX7_hasColumnSet_12 (by decide) (R_aload_n (i := 0) hC dX7_hasColumnSet_13 rfl rfl (R_gI hC dX7_hasColumnSet_14 fl_X7_19 hA.1 rfl ?_)))
      refine R_top (y := nI T.2.1) (k2) ?_
      refine R_ishl hC dX7_hasColumnSet_17 ?_
      refine R_top (y := nI (2 ^ T.2.1)) (shl1 T.2.1 k4) ?_
      refine R_icmp_ge hC 25 dX7_hasColumnSet_18 (by decide) (fun h18 => ?_) (fun h18 => ?_)
      · refine R_iconst (v := 0) hC dX7_hasColumnSet_25 (by decide) ?_
        exact R_zret hC hT dX7_hasColumnSet_26 rfl (by decide) ⟨by simp only [i32_ge, i32_lt, Int32.toInt_zero, e1, e2] at *; first | (rw [b2i_t (by omega)]; done) | (rw [b2i_f (by omega)]; done), rfl⟩
      · refine R_iconst (v := 1) hC dX7_hasColumnSet_21 (by decide) (R_goto hC 26 dX7_hasColumnSet_22 (by decide) ?_)
        exact R_zret hC hT dX7_hasColumnSet_26 rfl (by decide) ⟨by simp only [i32_ge, i32_lt, Int32.toInt_zero, e1, e2] at *; first | (rw [b2i_t (by omega)]; done) | (rw [b2i_f (by omega)]; done), rfl⟩
theorem cnt_end (T : tb) (n : Nat) : ∀ k, T.2.1 + k ≤ 6 → cntT T (6 * n + T.2.1 + k) = cntT T (6 * n + T.2.1)
  | 0, _ => rfl
  | k + 1, h => by
    rw [← Nat.add_assoc, cntT, if_neg, Nat.add_zero, cnt_end T n k (by omega)]
    rintro ⟨-, z, -⟩
    rw [show (6 * n + T.2.1 + k) % 6 = T.2.1 + k by omega] at z
    omega
theorem cnt_rows (T : tb) : ∀ k, cntT T (6 * T.1 + k) = cntT T (6 * T.1)
  | 0 => rfl
  | k + 1 => by
    rw [← Nat.add_assoc, cntT, if_neg, Nat.add_zero, cnt_rows T k]
    rintro ⟨z, -⟩
    omega
theorem c_notNought {σ : sg} {x : aW} {a : Nat} {T : tb} (hA : TL a) (h : CT σ a T) : Mt mX7_notNought 1 0 0 [.ref a] (wd σ x) (QI (nI (cntT T 36)) (wd σ x)) := by
  refine Mt.of MI_X7_notNought (Nat.le_of_ble_eq_true rfl) (fun X hC hR hT => ?_)
  obtain ⟨k1, k2, k3, k4, k5⟩ := id h
  have outer : ∀ n, n ≤ T.1 → ∀ u3, Rw mX7_notNought X 4 [some (.ref a), some (.int (nI (cntT T (6 * n)))), some (.int (nI n)), u3] [] (wd σ x) 0 0 := by
    refine up_loop T.1 ?_ ?_
    · intro u3
      refine R_iload_n (i := 2) hC dX7_notNought_4 rfl rfl (R_aload_n (i := 0) hC dX7_notNought_5 rfl rfl (R_gI hC dX7_notNought_6 fl_X7_15 hA.1 rfl ?_))
      refine R_top (y := nI T.1) (k1) ?_
      refine R_icmp_ge hC 46 dX7_notNought_9 (by decide) (fun _ => ?_) (fun h => absurd (Int32.le_refl _) h)
      refine R_iload_n (i := 1) hC dX7_notNought_46 rfl rfl ?_
      exact R_iret hC hT dX7_notNought_47 rfl ⟨by rw [← cnt_rows T (36 - 6 * T.1), show 6 * T.1 + (36 - 6 * T.1) = 36 by omega], rfl⟩
    · intro n hn ih u3
      have inner : ∀ m, m ≤ T.2.1 → Rw mX7_notNought X 14 [some (.ref a), some (.int (nI (cntT T (6 * n + m)))), some (.int (nI n)), some (.int (nI m))] [] (wd σ x) 0 0 := by
        refine up_loop T.2.1 ?_ ?_
        · rw [← cnt_end T n (6 - T.2.1) (by omega), show 6 * n + T.2.1 + (6 - T.2.1) = 6 * (n + 1) by omega]
          refine R_iload_n (i := 3) hC dX7_notNought_14 rfl rfl (R_aload_n (i := 0) hC dX7_notNought_15 rfl rfl (R_gI hC dX7_notNought_16 fl_X7_19 hA.1 rfl ?_))
          refine R_top (y := nI T.2.1) (k2) ?_
          refine R_icmp_ge hC 40 dX7_notNought_19 (by decide) (fun _ => ?_) (fun h => absurd (Int32.le_refl _) h)
          refine R_iinc hC dX7_notNought_40 rfl (inc1 _) (by decide) rfl (R_goto hC 4 dX7_notNought_43 (by decide) ?_)
          exact ih _
        · intro m hm ihm
          have d1 : (6 * n + m) / 6 = n := by omega
          have d2 : (6 * n + m) % 6 = m := by omega
          refine R_iload_n (i := 3) hC dX7_notNought_14 rfl rfl (R_aload_n (i := 0) hC dX7_notNought_15 rfl rfl (R_gI hC dX7_notNought_16 fl_X7_19 hA.1 rfl ?_))
          refine R_top (y := nI T.2.1) (k2) ?_
          refine R_icmp_ge hC 40 dX7_notNought_19 (by decide) (fun h => absurd h (nI_ge hm (by omega))) (fun _ => ?_)
          refine R_aload_n (i := 0) hC dX7_notNought_22 rfl rfl (R_iload_n (i := 2) hC dX7_notNought_23 rfl rfl (R_iload_n (i := 3) hC dX7_notNought_24 rfl rfl ?_))
          refine R_V2i hC hR dX7_notNought_25 MV_X7_at ml_X7_28 hA.1 rfl (c_atN hA h hn hm) (by first | decide | omega) ⟨by decide, by decide⟩ (Nat.le_of_ble_eq_true rfl) ?_
          refine R_if_eq hC 34 dX7_notNought_28 (by decide) (fun h28 => ?_) (fun h28 => ?_)
          · first | (rw [← Nat.add_assoc, cntT, if_neg (by rw [d1, d2]; exact fun z => z.2.2 h28), Nat.add_zero] at ihm; refine R_iinc hC dX7_notNought_34 rfl (inc1 _) (by decide) rfl (R_goto hC 14 dX7_notNought_37 (by decide) ?_); exact ihm) | (rw [← Nat.add_assoc, cntT, if_pos (by rw [d1, d2]; exact ⟨hn, hm, h28⟩)] at ihm; refine R_iinc hC dX7_notNought_34 rfl (inc1 _) (by decide) rfl (R_goto hC 14 dX7_notNought_37 (by decide) ?_); exact ihm)
          · refine R_iinc hC dX7_notNought_31 rfl (inc1 _) (by decide) rfl ?_
            first | (rw [← Nat.add_assoc, cntT, if_neg (by rw [d1, d2]; exact fun z => z.2.2 h28), Nat.add_zero] at ihm; refine R_iinc hC dX7_notNought_34 rfl (inc1 _) (by decide) rfl (R_goto hC 14 dX7_notNought_37 (by decide) ?_); exact ihm) | (rw [← Nat.add_assoc, cntT, if_pos (by rw [d1, d2]; exact ⟨hn, hm, h28⟩)] at ihm; refine R_iinc hC dX7_notNought_34 rfl (inc1 _) (by decide) rfl (R_goto hC 14 dX7_notNought_37 (by decide) ?_); exact ihm)
      refine R_iload_n (i := 2) hC dX7_notNought_4 rfl rfl (R_aload_n (i := 0) hC dX7_notNought_5 rfl rfl (R_gI hC dX7_notNought_6 fl_X7_15 hA.1 rfl ?_))
      refine R_top (y := nI T.1) (k1) ?_
      refine R_icmp_ge hC 46 dX7_notNought_9 (by decide) (fun h => absurd h (nI_ge hn (by omega))) (fun _ => ?_)
      refine R_iconst (v := 0) hC dX7_notNought_12 (by decide) (R_istore_n (i := 3) hC dX7_notNought_13 rfl (by decide) rfl ?_)
      exact inner 0 (Nat.zero_le _)
  refine R_iconst (v := 0) hC dX7_notNought_0 (by decide) (R_istore_n (i := 1) hC dX7_notNought_1 rfl (by decide) rfl (R_iconst (v := 0) hC dX7_notNought_2 (by decide) (R_istore_n (i := 2) hC dX7_notNought_3 rfl (by decide) rfl ?_)))
  exact outer 0 (Nat.zero_le _) _
theorem c_halvesAll {σ : sg} {x : aW} {a : Nat} {T : tb} (hA : TL a) (h : CT σ a T) (R P : Nat) (hR0 : R < 64) (hP0 : P < 64) :
    Mt mX7_halvesAll 1 0 0 [.ref a, .int (nI R), .int (nI P)] (wd σ x) (QI (b2i (half T R P)) (wd σ x)) := by
  refine Mt.of MI_X7_halvesAll (Nat.le_of_ble_eq_true rfl) (fun X hC hR hT => ?_)
  obtain ⟨k1, k2, k3, k4, k5⟩ := id h
  have loop : ∀ c, c ≤ T.2.1 → (∀ c2, c2 < c → sml (sm (hfT T R P c2) T.1)) → ∀ u4 u5, Rw mX7_halvesAll X 2 [some (.ref a), some (.int (nI R)), some (.int (nI P)), some (.int (nI c)), u4, u5] [] (wd σ x) 0 0 := by
    refine up_loop T.2.1 ?_ ?_
    · intro hb u4 u5
      refine R_iload_n (i := 3) hC dX7_halvesAll_2 rfl rfl (R_aload_n (i := 0) hC dX7_halvesAll_3 rfl rfl (R_gI hC dX7_halvesAll_4 fl_X7_19 hA.1 rfl ?_))
      refine R_top (y := nI T.2.1) (k2) ?_
      refine R_icmp_ge hC 88 dX7_halvesAll_7 (by decide) (fun _ => ?_) (fun h => absurd (Int32.le_refl _) h)
      refine R_iconst (v := 1) hC dX7_halvesAll_88 (by decide) ?_
      exact R_zret hC hT dX7_halvesAll_89 rfl (by decide) ⟨by rw [b2i_t (show half T R P from hb)], rfl⟩
    · intro c hc ih hb u4 u5
      have inn : ∀ r, r ≤ T.1 → Rw mX7_halvesAll X 16 [some (.ref a), some (.int (nI R)), some (.int (nI P)), some (.int (nI c)), some (.int (sm (hfT T R P c) r)), some (.int (nI r))] [] (wd σ x) 0 0 := by
        refine up_loop T.1 ?_ ?_
        · refine R_iload hC dX7_halvesAll_16 rfl (R_aload_n (i := 0) hC dX7_halvesAll_18 rfl rfl (R_gI hC dX7_halvesAll_19 fl_X7_15 hA.1 rfl ?_))
          refine R_top (y := nI T.1) (k1) ?_
          refine R_icmp_ge hC 72 dX7_halvesAll_22 (by decide) (fun _ => ?_) (fun h => absurd (Int32.le_refl _) h)
          refine R_iload hC dX7_halvesAll_72 rfl ?_
          refine R_S1i hC hR dX7_halvesAll_74 MS_X10_isBeyond ml_X7_86 (c_isBeyond _ _) (by first | decide | omega) ⟨by decide, by decide⟩ (Nat.le_of_ble_eq_true rfl) ?_
          refine R_if_eq hC 82 dX7_halvesAll_77 (by decide) (fun h77 => ?_) (fun h77 => ?_)
          · refine R_iinc hC dX7_halvesAll_82 rfl (inc1 _) (by decide) rfl (R_goto hC 2 dX7_halvesAll_85 (by decide) ?_)
            exact ih (fun c2 h2 => by rcases (by omega : c2 < c ∨ c2 = c) with q | rfl; exact hb c2 q; exact Classical.byContradiction (b2i_0 h77)) _ _
          · refine R_iconst (v := 0) hC dX7_halvesAll_80 (by decide) ?_
            exact R_zret hC hT dX7_halvesAll_81 rfl (by decide) ⟨by rw [b2i_f (fun z : half T R P => b2i_ne h77 (z c hc))], rfl⟩
        · intro r hr ihr
          rw [sm] at ihr
          have nx : ∀ b, hfT T R P c r = b → Rw mX7_halvesAll X 63 [some (.ref a), some (.int (nI R)), some (.int (nI P)), some (.int (nI c)), some (.int (sm (hfT T R P c) r)), some (.int (nI r))] [.int b, .int (sm (hfT T R P c) r)] (wd σ x) 0 0 := by
            intro b hb
            rw [hb] at ihr
            refine R_iadd hC dX7_halvesAll_63 (R_istore hC dX7_halvesAll_64 (by decide) rfl (R_iinc hC dX7_halvesAll_66 rfl (inc1 _) (by decide) rfl (R_goto hC 16 dX7_halvesAll_69 (by decide) ?_)))
            exact ihr
          refine R_iload hC dX7_halvesAll_16 rfl (R_aload_n (i := 0) hC dX7_halvesAll_18 rfl rfl (R_gI hC dX7_halvesAll_19 fl_X7_15 hA.1 rfl ?_))
          refine R_top (y := nI T.1) (k1) ?_
          refine R_icmp_ge hC 72 dX7_halvesAll_22 (by decide) (fun h => absurd h (nI_ge hr (by omega))) (fun _ => ?_)
          refine R_iload_n (i := 1) hC dX7_halvesAll_25 rfl rfl (R_iload hC dX7_halvesAll_26 rfl ?_)
          refine R_S2i hC hR dX7_halvesAll_28 MS_X10_isIn ml_X7_97 (c_isIn R r hR0 (by omega) _) (by first | decide | omega) ⟨by decide, by decide⟩ (Nat.le_of_ble_eq_true rfl) ?_
          refine R_if_eq hC 66 dX7_halvesAll_31 (by decide) (fun h31 => ?_) (fun h31 => ?_)
          · refine R_iinc hC dX7_halvesAll_66 rfl (inc1 _) (by decide) rfl (R_goto hC 16 dX7_halvesAll_69 (by decide) ?_)
            (have e : hfT T R P c r = 0 := (by unfold hfT; rw [if_neg (tst0 h31)]); rw [e, Int32.add_zero] at ihr; exact ihr)
          · refine R_iload hC dX7_halvesAll_34 rfl (R_iload_n (i := 2) hC dX7_halvesAll_36 rfl rfl (R_iload hC dX7_halvesAll_37 rfl ?_))
            refine R_S2i hC hR dX7_halvesAll_39 MS_X10_isIn ml_X7_97 (c_isIn P r hP0 (by omega) _) (by first | decide | omega) ⟨by decide, by decide⟩ (Nat.le_of_ble_eq_true rfl) ?_
            refine R_if_eq hC 55 dX7_halvesAll_42 (by decide) (fun h42 => ?_) (fun h42 => ?_)
            · refine R_aload_n (i := 0) hC dX7_halvesAll_55 rfl rfl (R_iload hC dX7_halvesAll_56 rfl (R_iload_n (i := 3) hC dX7_halvesAll_58 rfl rfl ?_))
              refine R_V2i hC hR dX7_halvesAll_59 MV_X7_at ml_X7_28 hA.1 rfl (c_atN hA h hr hc) (by first | decide | omega) ⟨by decide, by decide⟩ (Nat.le_of_ble_eq_true rfl) ?_
              refine R_ineg hC dX7_halvesAll_62 ?_
              exact nx _ (by
              unfold hfT
              rw [if_pos (tst h31)]
              first
              | (rw [if_pos (tst h42)]; done)
              | (have h49 := h42; rw [if_neg (tst0 h49)]; done))
            · refine R_aload_n (i := 0) hC dX7_halvesAll_45 rfl rfl (R_iload hC dX7_halvesAll_46 rfl (R_iload_n (i := 3) hC dX7_halvesAll_48 rfl rfl ?_))
              refine R_V2i hC hR dX7_halvesAll_49 MV_X7_at ml_X7_28 hA.1 rfl (c_atN hA h hr hc) (by first | decide | omega) ⟨by decide, by decide⟩ (Nat.le_of_ble_eq_true rfl) ?_
              refine R_goto hC 63 dX7_halvesAll_52 (by decide) ?_
              exact nx _ (by
              unfold hfT
              rw [if_pos (tst h31)]
              first
              | (rw [if_pos (tst h42)]; done)
              | (have h49 := h42; rw [if_neg (tst0 h49)]; done))
      refine R_iload_n (i := 3) hC dX7_halvesAll_2 rfl rfl (R_aload_n (i := 0) hC dX7_halvesAll_3 rfl rfl (R_gI hC dX7_halvesAll_4 fl_X7_19 hA.1 rfl ?_))
      refine R_top (y := nI T.2.1) (k2) ?_
      refine R_icmp_ge hC 88 dX7_halvesAll_7 (by decide) (fun h => absurd h (nI_ge hc (by omega))) (fun _ => ?_)
      refine R_iconst (v := 0) hC dX7_halvesAll_10 (by decide) (R_istore hC dX7_halvesAll_11 (by decide) rfl (R_iconst (v := 0) hC dX7_halvesAll_13 (by decide) (R_istore hC dX7_halvesAll_14 (by decide) rfl ?_)))
      exact inn 0 (Nat.zero_le _)
  refine R_iconst (v := 0) hC dX7_halvesAll_0 (by decide) (R_istore_n (i := 3) hC dX7_halvesAll_1 rfl (by decide) rfl ?_)
  exact loop 0 (Nat.zero_le _) (fun _ h => absurd h (Nat.not_lt_zero _)) _ _
theorem c_halved {σ : sg} {x : aW} {a : Nat} {T : tb} (hA : TL a) (h : CT σ a T) (R : Nat) (hR0 : R < 64) :
    Mt mX7_halved 2 0 0 [.ref a, .int (nI R)] (wd σ x) (QI (o2i (hv T R)) (wd σ x)) := by
  refine Mt.of MI_X7_halved (Nat.le_of_ble_eq_true rfl) (fun X hC hR hT => ?_)
  have loop : ∀ p, p ≤ R + 1 → hv T R = fs (hvH T R) p (R + 1 - p) → Rw mX7_halved X 2 [some (.ref a), some (.int (nI R)), some (.int (nI p))] [] (wd σ x) 0 0 := by
    refine up_loop (R + 1) ?_ ?_
    · intro e
      rw [fs_0 (Nat.le_refl _)] at e
      refine R_iload_n (i := 2) hC dX7_halved_2 rfl rfl (R_iload_n (i := 1) hC dX7_halved_3 rfl rfl ?_)
      refine R_icmp_gt hC 38 dX7_halved_4 (by decide) (fun _ => ?_) (fun h => absurd (nI_lt (by omega) (by omega)) h)
      refine R_iconst (v := (-1)) hC dX7_halved_38 (by decide) ?_
      exact R_iret hC hT dX7_halved_39 rfl ⟨by rw [e]; rfl, rfl⟩
    · intro p hp ih e
      have em := sub64 p (by omega) R hR0
      have nx : hvH T R p = none → Rw mX7_halved X 32 [some (.ref a), some (.int (nI R)), some (.int (nI p))] [] (wd σ x) 0 0 := by
        intro z
        refine R_iinc hC dX7_halved_32 rfl (inc1 _) (by decide) rfl (R_goto hC 2 dX7_halved_35 (by decide) ?_)
        exact ih (by rw [e, fs_n hp z])
      refine R_iload_n (i := 2) hC dX7_halved_2 rfl rfl (R_iload_n (i := 1) hC dX7_halved_3 rfl rfl ?_)
      refine R_icmp_gt hC 38 dX7_halved_4 (by decide) (fun h => absurd h (nI_nlt (by omega) (by omega))) (fun _ => ?_)
      refine R_iload_n (i := 2) hC dX7_halved_7 rfl rfl (R_bipush (v := 64) hC dX7_halved_8 (by decide) ?_)
      refine R_icmp_ge hC 38 dX7_halved_10 (by decide) (fun h => absurd h (nI_ge (b := 64) (by omega) (by decide))) (fun _ => ?_)
      refine R_iload_n (i := 2) hC dX7_halved_13 rfl rfl (R_iload_n (i := 1) hC dX7_halved_14 rfl rfl (R_iconst (v := (-1)) hC dX7_halved_15 (by decide) (R_ixor hC dX7_halved_16 (R_iand hC dX7_halved_17 ?_))))
      refine R_if_ne hC 32 dX7_halved_18 (by decide) (fun h18 => ?_) (fun h18 => ?_)
      · exact nx (by
        unfold hvH
        first
        | (rw [if_neg (fun z => b2i_0 h27 z.2)]; done)
        | (rw [if_neg (fun z => h18 (em.mpr z.1))]; done))
      · refine R_aload_n (i := 0) hC dX7_halved_21 rfl rfl (R_iload_n (i := 1) hC dX7_halved_22 rfl rfl (R_iload_n (i := 2) hC dX7_halved_23 rfl rfl ?_))
        refine R_V2i hC hR dX7_halved_24 MV_X7_halvesAll ml_X7_94 hA.1 rfl (c_halvesAll hA h R p hR0 (by omega)) (by first | decide | omega) ⟨by decide, by decide⟩ (Nat.le_of_ble_eq_true rfl) ?_
        refine R_if_eq hC 32 dX7_halved_27 (by decide) (fun h27 => ?_) (fun h27 => ?_)
        · exact nx (by
          unfold hvH
          first
          | (rw [if_neg (fun z => b2i_0 h27 z.2)]; done)
          | (rw [if_neg (fun z => h18 (em.mpr z.1))]; done))
        · refine R_iload_n (i := 2) hC dX7_halved_30 rfl rfl ?_
          exact R_iret hC hT dX7_halved_31 rfl ⟨by rw [e, fs_y hp (v := p) (by unfold hvH; rw [if_pos ⟨em.mp h18, b2i_ne h27⟩])]; rfl, rfl⟩
  refine R_iconst (v := 0) hC dX7_halved_0 (by decide) (R_istore_n (i := 2) hC dX7_halved_1 rfl (by decide) rfl ?_)
  exact loop 0 (Nat.zero_le _) rfl
def ngv (N r : Nat) (v : Int32) : Int32 := if N.testBit r then -v else v
def colIs (T : tb) (U : Nat → Nat → Int32) (N c : Nat) (s : Int32) : Prop := ∀ r, r < T.1 → ngv N r (T.2.2 r c) * s = U r c
def colOK (T : tb) (U : Nat → Nat → Int32) (N c : Nat) : Prop := colIs T U N c 1 ∨ colIs T U N c (-1)
theorem c_columnIs {σ : sg} {x : aW} {a b : Nat} {T U : tb} (hA : TL a) (hB : TL b) (h : CT σ a T) (h2 : CT σ b U) (e1 : U.1 = T.1) (e2 : U.2.1 = T.2.1) {c N : Nat} (hc : c < T.2.1) (hN : N < 64) (s : Int32) : Mt mX7_columnIs 1 0 0 [.ref a, .ref b, .int (nI c), .int (nI N), .int s] (wd σ x) (QI (b2i (colIs T U.2.2 N c s)) (wd σ x)) := by
  refine Mt.of MI_X7_columnIs (Nat.le_of_ble_eq_true rfl) (fun X hC hR hT => ?_)
  obtain ⟨k1, k2, k3, k4, k5⟩ := id h
  have loop : ∀ r, r ≤ T.1 → (∀ q, q < r → ngv N q (T.2.2 q c) * s = U.2.2 q c) → ∀ u6, Rw mX7_columnIs X 3 [some (.ref a), some (.ref b), some (.int (nI c)), some (.int (nI N)), some (.int s), some (.int (nI r)), u6] [] (wd σ x) 0 0 := by
    refine up_loop T.1 ?_ ?_
    · intro hb u6
      refine R_iload hC dX7_columnIs_3 rfl (R_aload_n (i := 0) hC dX7_columnIs_5 rfl rfl (R_gI hC dX7_columnIs_6 fl_X7_15 hA.1 rfl ?_))
      refine R_top (y := nI T.1) (k1) ?_
      refine R_icmp_ge hC 64 dX7_columnIs_9 (by decide) (fun _ => ?_) (fun h => absurd (Int32.le_refl _) h)
      refine R_iconst (v := 1) hC dX7_columnIs_64 (by decide) ?_
      exact R_zret hC hT dX7_columnIs_65 rfl (by decide) ⟨by rw [b2i_t (show colIs T U.2.2 N c s from hb)], rfl⟩
    · intro r hr ih hb u6
      have nx : ∀ v, v = ngv N r (T.2.2 r c) → ∀ u6, Rw mX7_columnIs X 39 [some (.ref a), some (.ref b), some (.int (nI c)), some (.int (nI N)), some (.int s), some (.int (nI r)), u6] [.int v] (wd σ x) 0 0 := by
        intro v hv u6
        refine R_istore hC dX7_columnIs_39 (by decide) rfl (R_iload hC dX7_columnIs_41 rfl (R_iload hC dX7_columnIs_43 rfl (R_imul hC dX7_columnIs_45 (R_aload_n (i := 1) hC dX7_columnIs_46 rfl rfl (R_iload hC dX7_columnIs_47 rfl (R_iload_n (i := 2) hC dX7_columnIs_49 rfl rfl ?_))))))
        refine R_V2i hC hR dX7_columnIs_50 MV_X7_at ml_X7_28 hB.1 rfl (c_atN hB h2 (by omega) (by omega)) (by first | decide | omega) ⟨by decide, by decide⟩ (Nat.le_of_ble_eq_true rfl) ?_
        refine R_icmp_eq hC 58 dX7_columnIs_53 (by decide) (fun h53 => ?_) (fun h53 => ?_)
        · refine R_iinc hC dX7_columnIs_58 rfl (inc1 _) (by decide) rfl (R_goto hC 3 dX7_columnIs_61 (by decide) ?_)
          exact ih (fun q hq => by rcases (by omega : q < r ∨ q = r) with z | rfl; exact hb q z; rw [← hv]; first | exact h53 | exact Classical.byContradiction h53) _
        · refine R_iconst (v := 0) hC dX7_columnIs_56 (by decide) ?_
          exact R_zret hC hT dX7_columnIs_57 rfl (by decide) ⟨by rw [b2i_f (fun z : colIs T U.2.2 N c s => h53 (by rw [hv]; exact z r hr))], rfl⟩
      refine R_iload hC dX7_columnIs_3 rfl (R_aload_n (i := 0) hC dX7_columnIs_5 rfl rfl (R_gI hC dX7_columnIs_6 fl_X7_15 hA.1 rfl ?_))
      refine R_top (y := nI T.1) (k1) ?_
      refine R_icmp_ge hC 64 dX7_columnIs_9 (by decide) (fun h => absurd h (nI_ge hr (by omega))) (fun _ => ?_)
      refine R_iload_n (i := 3) hC dX7_columnIs_12 rfl rfl (R_iload hC dX7_columnIs_13 rfl ?_)
      refine R_S2i hC hR dX7_columnIs_15 MS_X10_isIn ml_X7_97 (c_isIn N r hN (by omega) _) (by first | decide | omega) ⟨by decide, by decide⟩ (Nat.le_of_ble_eq_true rfl) ?_
      refine R_if_eq hC 32 dX7_columnIs_18 (by decide) (fun h18 => ?_) (fun h18 => ?_)
      · refine R_aload_n (i := 0) hC dX7_columnIs_32 rfl rfl (R_iload hC dX7_columnIs_33 rfl (R_iload_n (i := 2) hC dX7_columnIs_35 rfl rfl ?_))
        refine R_V2i hC hR dX7_columnIs_36 MV_X7_at ml_X7_28 hA.1 rfl (c_atN hA h hr hc) (by first | decide | omega) ⟨by decide, by decide⟩ (Nat.le_of_ble_eq_true rfl) ?_
        first | exact nx _ (by unfold ngv; rw [if_pos (tst h18)]) _ | exact nx _ (by unfold ngv; rw [if_neg (tst0 h18)]) _
      · refine R_aload_n (i := 0) hC dX7_columnIs_21 rfl rfl (R_iload hC dX7_columnIs_22 rfl (R_iload_n (i := 2) hC dX7_columnIs_24 rfl rfl ?_))
        refine R_V2i hC hR dX7_columnIs_25 MV_X7_at ml_X7_28 hA.1 rfl (c_atN hA h hr hc) (by first | decide | omega) ⟨by decide, by decide⟩ (Nat.le_of_ble_eq_true rfl) ?_
        refine R_ineg hC dX7_columnIs_28 (R_goto hC 39 dX7_columnIs_29 (by decide) ?_)
        first | exact nx _ (by unfold ngv; rw [if_pos (tst h18)]) _ | exact nx _ (by unfold ngv; rw [if_neg (tst0 h18)]) _
  refine R_iconst (v := 0) hC dX7_columnIs_0 (by decide) (R_istore hC dX7_columnIs_1 (by decide) rfl ?_)
  exact loop 0 (Nat.zero_le _) (fun q hq => absurd hq (Nat.not_lt_zero _)) _
theorem mask_ex (p : Nat → Prop) : ∀ n, ∃ N, N < 2 ^ n ∧ ∀ i, i < n → (N.testBit i = true ↔ p i)
  | 0 => ⟨0, by decide, fun i hi => absurd hi (Nat.not_lt_zero _)⟩
  | n + 1 => by
    obtain ⟨N, h1, h2⟩ := mask_ex p n
    by_cases q : p n
    · refine ⟨2 ^ n + N, by rw [Nat.pow_succ]; omega, fun i hi => ?_⟩
      rcases (by omega : i < n ∨ i = n) with z | rfl
      · rw [Nat.testBit_two_pow_add_gt z]; exact h2 i z
      · rw [Nat.testBit_two_pow_add_eq, Nat.testBit_lt_two_pow h1]; simp [q]
    · refine ⟨N, by rw [Nat.pow_succ]; omega, fun i hi => ?_⟩
      rcases (by omega : i < n ∨ i = n) with z | rfl
      · exact h2 i z
      · rw [Nat.testBit_lt_two_pow h1]; simp [q]
theorem scl_iff {T : tb} {U : Nat → Nat → Int32} (h6 : T.1 ≤ 6) : scl T U ↔ ∃ N, N < 2 ^ T.1 ∧ ∀ c, c < T.2.1 → colOK T U N c := by
  constructor
  · rintro ⟨φ, hp, hs⟩
    obtain ⟨N, h1, h2⟩ := mask_ex (fun i => φ i = -1) T.1
    refine ⟨N, h1, fun c hc => ?_⟩
    have key : ∀ r, r < T.1 → ngv N r (T.2.2 r c) = φ r * T.2.2 r c := fun r hr => by
      unfold ngv
      rcases hp r with q | q
      · rw [if_neg (fun z => absurd (((h2 r hr).mp z).symm.trans q) (by decide)), q, Int32.one_mul]
      · rw [if_pos ((h2 r hr).mpr q), q, Int32.neg_mul, Int32.one_mul]
    rcases hp (6 + c) with q | q
    · exact Or.inl (fun r hr => by rw [key r hr, hs r c hr hc, q, Int32.mul_one, Int32.mul_one])
    · exact Or.inr (fun r hr => by rw [key r hr, hs r c hr hc, q, Int32.mul_assoc, Int32.mul_assoc, Int32.mul_comm (T.2.2 r c)])
  · rintro ⟨N, h1, h2⟩
    classical
    refine ⟨fun k => if k < 6 then (if N.testBit k then -1 else 1) else if colIs T U N (k - 6) 1 then 1 else -1, fun k => ?_, fun r c hr hc => ?_⟩
    · show pm (if k < 6 then (if N.testBit k then -1 else 1) else if colIs T U N (k - 6) 1 then 1 else -1)
      split
      · split
        · exact Or.inr rfl
        · exact Or.inl rfl
      · split
        · exact Or.inl rfl
        · exact Or.inr rfl
    · show U r c = (if r < 6 then (if N.testBit r then -1 else 1) else if colIs T U N (r - 6) 1 then 1 else -1) * (if 6 + c < 6 then (if N.testBit (6 + c) then -1 else 1) else if colIs T U N (6 + c - 6) 1 then 1 else -1) * T.2.2 r c
      have key : (if N.testBit r then (-1 : Int32) else 1) * T.2.2 r c = ngv N r (T.2.2 r c) := by
        unfold ngv
        split
        · rw [Int32.neg_mul, Int32.one_mul]
        · rw [Int32.one_mul]
      rw [if_pos (show r < 6 by omega), if_neg (show ¬ 6 + c < 6 by omega), Nat.add_sub_cancel_left, Int32.mul_assoc, Int32.mul_comm (if colIs T U N c 1 then (1 : Int32) else -1), ← Int32.mul_assoc, key]
      by_cases q : colIs T U N c 1
      · rw [if_pos q]; exact (q r hr).symm
      · rw [if_neg q]; exact ((h2 c hc).resolve_left q r hr).symm
theorem c_scalesTo {σ : sg} {x : aW} {a b : Nat} {T U : tb} (hA : TL a) (hB : TL b) (h : CT σ a T) (h2 : CT σ b U) (hI : tbI T) : Mt mX7_scalesTo 2 0 0 [.ref a, .ref b] (wd σ x) (QI (b2i (U.1 = T.1 ∧ U.2.1 = T.2.1 ∧ scl T U.2.2)) (wd σ x)) := by
  refine Mt.of MI_X7_scalesTo (Nat.le_of_ble_eq_true rfl) (fun X hC hR hT => ?_)
  obtain ⟨k1, k2, k3, k4, k5⟩ := id h
  obtain ⟨j1, j2, j3, j4, j5⟩ := id h2
  have p1 := pw6 k3
  by_cases e1 : U.1 = T.1
  · by_cases e2 : U.2.1 = T.2.1
    · have hi := scl_iff (T := T) (U := U.2.2) k3
      have no : (∀ q, q < 2 ^ T.1 → ¬ ∀ c, c < T.2.1 → colOK T U.2.2 q c) → Rw mX7_scalesTo X 94 [some (.ref a), some (.ref b), some (.int (nI (2 ^ T.1))), none] [] (wd σ x) 0 0 → True := fun _ _ => trivial
      have outer : ∀ N, N ≤ 2 ^ T.1 → (∀ q, q < N → ¬ ∀ c, c < T.2.1 → colOK T U.2.2 q c) → ∀ u3, Rw mX7_scalesTo X 26 [some (.ref a), some (.ref b), some (.int (nI N)), u3] [] (wd σ x) 0 0 := by
        refine up_loop (2 ^ T.1) ?_ ?_
        · intro hq u3
          have rt : (b2i (U.1 = T.1 ∧ U.2.1 = T.2.1 ∧ scl T U.2.2)) = 0 := b2i_f (fun z => by obtain ⟨N, q1, q2⟩ := hi.mp z.2.2; exact hq N q1 q2)
          refine R_iload_n (i := 2) hC dX7_scalesTo_26 rfl rfl (R_bipush (v := 64) hC dX7_scalesTo_27 (by decide) ?_)
          refine R_icmp_ge hC 94 dX7_scalesTo_29 (by decide) (fun h29 => ?_) (fun h29 => ?_)
          · refine R_iconst (v := 0) hC dX7_scalesTo_94 (by decide) ?_
            exact R_zret hC hT dX7_scalesTo_95 rfl (by decide) ⟨by rw [rt], rfl⟩
          · refine R_aload_n (i := 0) hC dX7_scalesTo_32 rfl rfl (R_iload_n (i := 2) hC dX7_scalesTo_33 rfl rfl ?_)
            refine R_V1i hC hR dX7_scalesTo_34 MV_X7_hasRowSet ml_X7_100 hA.1 rfl (c_rowSet hA h _) (by first | decide | omega) ⟨by decide, by decide⟩ (Nat.le_of_ble_eq_true rfl) ?_
            refine R_top (y := 0) (b2i_f (fun z => by have := z.2.2; rw [nI_toInt (by omega), pwI] at this; omega)) ?_
            refine R_if_eq hC 94 dX7_scalesTo_37 (by decide) (fun _ => ?_) (fun h => absurd rfl h)
            refine R_iconst (v := 0) hC dX7_scalesTo_94 (by decide) ?_
            exact R_zret hC hT dX7_scalesTo_95 rfl (by decide) ⟨by rw [rt], rfl⟩
        · intro N hN ih hq u3
          have inner : ∀ c, c ≤ T.2.1 → (∀ q, q < c → colOK T U.2.2 N q) → Rw mX7_scalesTo X 42 [some (.ref a), some (.ref b), some (.int (nI N)), some (.int (nI c))] [] (wd σ x) 0 0 := by
            refine up_loop T.2.1 ?_ ?_
            · intro hc
              refine R_iload_n (i := 3) hC dX7_scalesTo_42 rfl rfl (R_aload_n (i := 0) hC dX7_scalesTo_43 rfl rfl (R_gI hC dX7_scalesTo_44 fl_X7_19 hA.1 rfl ?_))
              refine R_top (y := nI T.2.1) (k2) ?_
              refine R_icmp_ge hC 78 dX7_scalesTo_47 (by decide) (fun _ => ?_) (fun h => absurd (Int32.le_refl _) h)
              refine R_iload_n (i := 3) hC dX7_scalesTo_78 rfl rfl (R_aload_n (i := 0) hC dX7_scalesTo_79 rfl rfl (R_gI hC dX7_scalesTo_80 fl_X7_19 hA.1 rfl ?_))
              refine R_top (y := nI T.2.1) (k2) ?_
              refine R_icmp_ne hC 88 dX7_scalesTo_83 (by decide) (fun h => absurd rfl h) (fun _ => ?_)
              refine R_iconst (v := 1) hC dX7_scalesTo_86 (by decide) ?_
              exact R_zret hC hT dX7_scalesTo_87 rfl (by decide) ⟨by rw [b2i_t ⟨e1, e2, hi.mpr ⟨N, hN, hc⟩⟩], rfl⟩
            · intro c hc ihc hb
              have bad : ¬ colOK T U.2.2 N c → Rw mX7_scalesTo X 78 [some (.ref a), some (.ref b), some (.int (nI N)), some (.int (nI c))] [] (wd σ x) 0 0 := by
                intro hbad
                refine R_iload_n (i := 3) hC dX7_scalesTo_78 rfl rfl (R_aload_n (i := 0) hC dX7_scalesTo_79 rfl rfl (R_gI hC dX7_scalesTo_80 fl_X7_19 hA.1 rfl ?_))
                refine R_top (y := nI T.2.1) (k2) ?_
                refine R_icmp_ne hC 88 dX7_scalesTo_83 (by decide) (fun _ => ?_) (fun h => absurd h (fun z => by have := (nI_eq (by omega) (by omega)).mp z; omega))
                refine R_iinc hC dX7_scalesTo_88 rfl (inc1 _) (by decide) rfl (R_goto hC 26 dX7_scalesTo_91 (by decide) ?_)
                exact ih (fun q hq2 => by rcases (by omega : q < N ∨ q = N) with z | rfl; exact hq q z; exact fun z => hbad (z c hc)) _
              have good : colOK T U.2.2 N c → Rw mX7_scalesTo X 72 [some (.ref a), some (.ref b), some (.int (nI N)), some (.int (nI c))] [] (wd σ x) 0 0 := by
                intro hg
                refine R_iinc hC dX7_scalesTo_72 rfl (inc1 _) (by decide) rfl (R_goto hC 42 dX7_scalesTo_75 (by decide) ?_)
                exact ihc (fun q hq2 => by rcases (by omega : q < c ∨ q = c) with z | rfl; exact hb q z; exact hg)
              refine R_iload_n (i := 3) hC dX7_scalesTo_42 rfl rfl (R_aload_n (i := 0) hC dX7_scalesTo_43 rfl rfl (R_gI hC dX7_scalesTo_44 fl_X7_19 hA.1 rfl ?_))
              refine R_top (y := nI T.2.1) (k2) ?_
              refine R_icmp_ge hC 78 dX7_scalesTo_47 (by decide) (fun h => absurd h (nI_ge hc (by omega))) (fun _ => ?_)
              refine R_aload_n (i := 0) hC dX7_scalesTo_50 rfl rfl (R_aload_n (i := 1) hC dX7_scalesTo_51 rfl rfl (R_iload_n (i := 3) hC dX7_scalesTo_52 rfl rfl (R_iload_n (i := 2) hC dX7_scalesTo_53 rfl rfl (R_iconst (v := 1) hC dX7_scalesTo_54 (by decide) ?_))))
              refine R_V4i hC hR dX7_scalesTo_55 MV_X7_columnIs ml_X7_103 hA.1 rfl (c_columnIs hA hB h h2 e1 e2 hc (by omega) 1) (by first | decide | omega) ⟨by decide, by decide⟩ (Nat.le_of_ble_eq_true rfl) ?_
              refine R_if_ne hC 72 dX7_scalesTo_58 (by decide) (fun h58 => ?_) (fun h58 => ?_)
              · first | exact good (Or.inl (b2i_ne h58)) | exact good (Or.inr (b2i_ne h69))
              · refine R_aload_n (i := 0) hC dX7_scalesTo_61 rfl rfl (R_aload_n (i := 1) hC dX7_scalesTo_62 rfl rfl (R_iload_n (i := 3) hC dX7_scalesTo_63 rfl rfl (R_iload_n (i := 2) hC dX7_scalesTo_64 rfl rfl (R_iconst (v := (-1)) hC dX7_scalesTo_65 (by decide) ?_))))
                refine R_V4i hC hR dX7_scalesTo_66 MV_X7_columnIs ml_X7_103 hA.1 rfl (c_columnIs hA hB h h2 e1 e2 hc (by omega) (-1)) (by first | decide | omega) ⟨by decide, by decide⟩ (Nat.le_of_ble_eq_true rfl) ?_
                refine R_if_eq hC 78 dX7_scalesTo_69 (by decide) (fun h69 => ?_) (fun h69 => ?_)
                · exact bad (fun z => z.elim (b2i_0 h58) (b2i_0 h69))
                · first | exact good (Or.inl (b2i_ne h58)) | exact good (Or.inr (b2i_ne h69))
          refine R_iload_n (i := 2) hC dX7_scalesTo_26 rfl rfl (R_bipush (v := 64) hC dX7_scalesTo_27 (by decide) ?_)
          refine R_icmp_ge hC 94 dX7_scalesTo_29 (by decide) (fun h => absurd h (nI_ge (b := 64) (by omega) (by decide))) (fun _ => ?_)
          refine R_aload_n (i := 0) hC dX7_scalesTo_32 rfl rfl (R_iload_n (i := 2) hC dX7_scalesTo_33 rfl rfl ?_)
          refine R_V1i hC hR dX7_scalesTo_34 MV_X7_hasRowSet ml_X7_100 hA.1 rfl (c_rowSet hA h _) (by first | decide | omega) ⟨by decide, by decide⟩ (Nat.le_of_ble_eq_true rfl) ?_
          refine R_top (y := 1) (b2i_t ⟨by have := hI.1; omega, by rw [nI_toInt (by omega)]; omega, by rw [nI_toInt (by omega), ← pwI]; omega⟩) ?_
          refine R_if_eq hC 94 dX7_scalesTo_37 (by decide) (fun h => absurd h (by decide)) (fun _ => ?_)
          refine R_iconst (v := 0) hC dX7_scalesTo_40 (by decide) (R_istore_n (i := 3) hC dX7_scalesTo_41 rfl (by decide) rfl ?_)
          exact inner 0 (Nat.zero_le _) (fun q hq => absurd hq (Nat.not_lt_zero _))
      refine R_aload_n (i := 0) hC dX7_scalesTo_0 rfl rfl (R_gI hC dX7_scalesTo_1 fl_X7_15 hA.1 rfl ?_)
      refine R_top (y := nI T.1) (k1) ?_
      refine R_aload_n (i := 1) hC dX7_scalesTo_4 rfl rfl (R_gI hC dX7_scalesTo_5 fl_X7_15 hB.1 rfl ?_)
      refine R_top (y := nI T.1) (by rw [j1, e1]) ?_
      refine R_icmp_ne hC 22 dX7_scalesTo_8 (by decide) (fun h => absurd rfl h) (fun _ => ?_)
      refine R_aload_n (i := 0) hC dX7_scalesTo_11 rfl rfl (R_gI hC dX7_scalesTo_12 fl_X7_19 hA.1 rfl ?_)
      refine R_top (y := nI T.2.1) (k2) ?_
      refine R_aload_n (i := 1) hC dX7_scalesTo_15 rfl rfl (R_gI hC dX7_scalesTo_16 fl_X7_19 hB.1 rfl ?_)
      refine R_top (y := nI T.2.1) (by rw [j2, e2]) ?_
      refine R_icmp_eq hC 24 dX7_scalesTo_19 (by decide) (fun _ => ?_) (fun h => absurd rfl h)
      refine R_iconst (v := 0) hC dX7_scalesTo_24 (by decide) (R_istore_n (i := 2) hC dX7_scalesTo_25 rfl (by decide) rfl ?_)
      exact outer 0 (Nat.zero_le _) (fun q hq => absurd hq (Nat.not_lt_zero _)) _
    · refine R_aload_n (i := 0) hC dX7_scalesTo_0 rfl rfl (R_gI hC dX7_scalesTo_1 fl_X7_15 hA.1 rfl ?_)
      refine R_top (y := nI T.1) (k1) ?_
      refine R_aload_n (i := 1) hC dX7_scalesTo_4 rfl rfl (R_gI hC dX7_scalesTo_5 fl_X7_15 hB.1 rfl ?_)
      refine R_top (y := nI T.1) (by rw [j1, e1]) ?_
      refine R_icmp_ne hC 22 dX7_scalesTo_8 (by decide) (fun h => absurd rfl h) (fun _ => ?_)
      refine R_aload_n (i := 0) hC dX7_scalesTo_11 rfl rfl (R_gI hC dX7_scalesTo_12 fl_X7_19 hA.1 rfl ?_)
      refine R_top (y := nI T.2.1) (k2) ?_
      refine R_aload_n (i := 1) hC dX7_scalesTo_15 rfl rfl (R_gI hC dX7_scalesTo_16 fl_X7_19 hB.1 rfl ?_)
      refine R_top (y := nI U.2.1) (j2) ?_
      refine R_icmp_eq hC 24 dX7_scalesTo_19 (by decide) (fun h => absurd h (fun z => e2 ((nI_eq (by omega) (by omega)).mp z).symm)) (fun _ => ?_)
      refine R_iconst (v := 0) hC dX7_scalesTo_22 (by decide) ?_
      exact R_zret hC hT dX7_scalesTo_23 rfl (by decide) ⟨by rw [b2i_f (fun z => e2 z.2.1)], rfl⟩
  · refine R_aload_n (i := 0) hC dX7_scalesTo_0 rfl rfl (R_gI hC dX7_scalesTo_1 fl_X7_15 hA.1 rfl ?_)
    refine R_top (y := nI T.1) (k1) ?_
    refine R_aload_n (i := 1) hC dX7_scalesTo_4 rfl rfl (R_gI hC dX7_scalesTo_5 fl_X7_15 hB.1 rfl ?_)
    refine R_top (y := nI U.1) (j1) ?_
    refine R_icmp_ne hC 22 dX7_scalesTo_8 (by decide) (fun _ => ?_) (fun h => absurd h (fun z => e1 ((nI_eq (by omega) (by omega)).mp z).symm))
    refine R_iconst (v := 0) hC dX7_scalesTo_22 (by decide) ?_
    exact R_zret hC hT dX7_scalesTo_23 rfl (by decide) ⟨by rw [b2i_f (fun z => e1 z.1)], rfl⟩
/-- bitCount, as far as it is needed -/
def us (x y : Int32) : Int32 := (x.toUInt32 >>> (y.toUInt32 &&& Int32.toUInt32 31)).toInt32
def bc1 (i : Int32) : Int32 := i - (us i 1 &&& 1431655765)
def bc2 (i : Int32) : Int32 := (i &&& 858993459) + (us i 2 &&& 858993459)
def bc3 (i : Int32) : Int32 := (i + us i 4) &&& 252645135
def bc4 (i : Int32) : Int32 := i + us i 8
def bc5 (i : Int32) : Int32 := i + us i 16
theorem bc_ok : ∀ s, s < 128 → bc5 (bc4 (bc3 (bc2 (bc1 (nI s))))) &&& 63 = nI (pcn s 7) := by decide +kernel
theorem bc_m : bc5 (bc4 (bc3 (bc2 (bc1 (-1))))) &&& 63 = 32 := by decide +kernel
theorem c_bitC (s : Int32) (w : aW) : Mt mJ6_bitCount_0f7a4 0 0 0 [.int s] w (QI (bc5 (bc4 (bc3 (bc2 (bc1 s)))) &&& 63) w) := by
  refine Mt.of MI_J6_bitCount_0f7a4 (Nat.le_of_ble_eq_true rfl) (fun X hC hR hT => ?_)
  refine R_iload_n (i := 0) hC dJ6_bitCount_0f7a4_0 rfl rfl (R_iload_n (i := 0) hC dJ6_bitCount_0f7a4_1 rfl rfl (R_iconst (v := 1) hC dJ6_bitCount_0f7a4_2 (by decide) (R_iushr hC dJ6_bitCount_0f7a4_3 (R_ldcw hC dJ6_bitCount_0f7a4_4 kc_J6_265 (R_iand hC dJ6_bitCount_0f7a4_7 (R_isub hC dJ6_bitCount_0f7a4_8 (R_istore_n (i := 0) hC dJ6_bitCount_0f7a4_9 rfl (by decide) rfl ?_)))))))
  refine R_iload_n (i := 0) hC dJ6_bitCount_0f7a4_10 rfl rfl (R_ldcw hC dJ6_bitCount_0f7a4_11 kc_J6_266 (R_iand hC dJ6_bitCount_0f7a4_14 (R_iload_n (i := 0) hC dJ6_bitCount_0f7a4_15 rfl rfl (R_iconst (v := 2) hC dJ6_bitCount_0f7a4_16 (by decide) (R_iushr hC dJ6_bitCount_0f7a4_17 (R_ldcw hC dJ6_bitCount_0f7a4_18 kc_J6_266 (R_iand hC dJ6_bitCount_0f7a4_21 ?_)))))))
  refine R_iadd hC dJ6_bitCount_0f7a4_22 (R_istore_n (i := 0) hC dJ6_bitCount_0f7a4_23 rfl (by decide) rfl (R_iload_n (i := 0) hC dJ6_bitCount_0f7a4_24 rfl rfl (R_iload_n (i := 0) hC dJ6_bitCount_0f7a4_25 rfl rfl (R_iconst (v := 4) hC dJ6_bitCount_0f7a4_26 (by decide) (R_iushr hC dJ6_bitCount_0f7a4_27 (R_iadd hC dJ6_bitCount_0f7a4_28 (R_ldcw hC dJ6_bitCount_0f7a4_29 kc_J6_267 ?_)))))))
  refine R_iand hC dJ6_bitCount_0f7a4_32 (R_istore_n (i := 0) hC dJ6_bitCount_0f7a4_33 rfl (by decide) rfl (R_iload_n (i := 0) hC dJ6_bitCount_0f7a4_34 rfl rfl (R_iload_n (i := 0) hC dJ6_bitCount_0f7a4_35 rfl rfl (R_bipush (v := 8) hC dJ6_bitCount_0f7a4_36 (by decide) (R_iushr hC dJ6_bitCount_0f7a4_38 (R_iadd hC dJ6_bitCount_0f7a4_39 (R_istore_n (i := 0) hC dJ6_bitCount_0f7a4_40 rfl (by decide) rfl ?_)))))))
  refine R_iload_n (i := 0) hC dJ6_bitCount_0f7a4_41 rfl rfl (R_iload_n (i := 0) hC dJ6_bitCount_0f7a4_42 rfl rfl (R_bipush (v := 16) hC dJ6_bitCount_0f7a4_43 (by decide) (R_iushr hC dJ6_bitCount_0f7a4_45 (R_iadd hC dJ6_bitCount_0f7a4_46 (R_istore_n (i := 0) hC dJ6_bitCount_0f7a4_47 rfl (by decide) rfl (R_iload_n (i := 0) hC dJ6_bitCount_0f7a4_48 rfl rfl (R_bipush (v := 63) hC dJ6_bitCount_0f7a4_49 (by decide) ?_)))))))
  refine R_iand hC dJ6_bitCount_0f7a4_51 ?_
  exact R_iret hC hT dJ6_bitCount_0f7a4_52 rfl ⟨rfl, rfl⟩
theorem c_bit7 (s : Nat) (hs : s < 128) (w : aW) : Mt mJ6_bitCount_0f7a4 0 0 0 [.int (nI s)] w (QI (nI (pcn s 7)) w) := by
  have q := c_bitC (nI s) w
  rwa [bc_ok s hs] at q
theorem pcn76 : ∀ s, s < 64 → pcn s 7 = pc6 s := by decide +kernel
theorem c_bit (s : Nat) (hs : s < 64) (w : aW) : Mt mJ6_bitCount_0f7a4 0 0 0 [.int (nI s)] w (QI (nI (pc6 s)) w) := by
  have q := c_bit7 s (by omega) w
  rwa [pcn76 s hs] at q
