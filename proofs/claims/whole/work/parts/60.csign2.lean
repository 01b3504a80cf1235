/-! ===== the class's signs ===== -/
def PRT (σ : sg) (f : Nat → Nat) : Prop := ∀ i, i < 6 → σ.2.2 i_rowParts i = nI (f i) ∧ σ.2.2 i_columnParts i = nI (f (6 + i))
theorem c_unite {σ : sg} {x : aW} {f : Nat → Nat} (h : PRT σ f) (h12 : ∀ k, k < 12 → f k < 12) (a b : Nat) (hb : b < 12) : Mt mX6_unite 0 0 0 [.ref i_signing, .int (nI a), .int (nI b)] (wd σ x) (fun r w => r = none ∧ ∃ τ, w = wd τ x ∧ AE [127, 128] σ τ ∧ PRT τ (fun k => if f k = b then a else f k)) := by
  refine Mt.of MI_X6_unite (Nat.le_of_ble_eq_true rfl) (fun X hC hR hT => ?_)
  have loop : ∀ n, n ≤ 6 → ∀ τ, AE [127, 128] σ τ → (∀ i, i < 6 → τ.2.2 i_rowParts i = nI (if i < n then (if f i = b then a else f i) else f i) ∧ τ.2.2 i_columnParts i = nI (if i < n then (if f (6 + i) = b then a else f (6 + i)) else f (6 + i))) → Rw mX6_unite X 2 [some (.ref i_signing), some (.int (nI a)), some (.int (nI b)), some (.int (nI n))] [] (wd τ x) 0 0 := by
    refine up_loop 6 ?_ ?_
    · intro τ e hz
      refine R_iload_n (i := 3) hC dX6_unite_2 rfl rfl (R_bipush (v := 6) hC dX6_unite_3 (by decide) ?_)
      refine R_icmp_ge hC 48 dX6_unite_5 (by decide) (fun _ => ?_) (fun h => absurd (by decide) h)
      exact R_vret hC hT dX6_unite_48 rfl ⟨rfl, τ, rfl, e, fun i hi => by have := hz i hi; rwa [if_pos hi, if_pos hi] at this⟩
    · intro n hn ih τ e hz
      have z1 := (hz n hn).1
      have z2 := (hz n hn).2
      rw [if_neg (Nat.lt_irrefl n)] at z1 z2
      have e1 := nI_eq (a := f n) (b := b) (by have := h12 n (by omega); omega) (by omega)
      have e2 := nI_eq (a := f (6 + n)) (b := b) (by have := h12 (6 + n) (by omega); omega) (by omega)
      have snd : ∀ τ', AE [127, 128] σ τ' → (∀ i, i < 6 → τ'.2.2 i_rowParts i = nI (if i < n + 1 then (if f i = b then a else f i) else f i) ∧ τ'.2.2 i_columnParts i = τ.2.2 i_columnParts i) → Rw mX6_unite X 25 [some (.ref i_signing), some (.int (nI a)), some (.int (nI b)), some (.int (nI n))] [] (wd τ' x) 0 0 := by
        intro τ' e' hs
        have nx : ∀ τ'', AE [127, 128] σ τ'' → (∀ i, i < 6 → τ''.2.2 i_rowParts i = τ'.2.2 i_rowParts i ∧ τ''.2.2 i_columnParts i = if i = n then nI (if f (6 + n) = b then a else f (6 + n)) else τ'.2.2 i_columnParts i) → Rw mX6_unite X 42 [some (.ref i_signing), some (.int (nI a)), some (.int (nI b)), some (.int (nI n))] [] (wd τ'' x) 0 0 := by
          intro τ'' e'' hs2
          refine R_iinc hC dX6_unite_42 rfl (inc1 _) (by decide) rfl (R_goto hC 2 dX6_unite_45 (by decide) ?_)
          exact ih τ'' e'' (fun i hi => by
            rw [(hs2 i hi).1, (hs2 i hi).2, (hs i hi).1, (hs i hi).2, (hz i hi).2]
            refine ⟨rfl, ?_⟩
            by_cases y : i = n
            · subst y; rw [if_pos rfl, if_pos (show i < i + 1 by omega)]
            · rw [if_neg y]
              by_cases y2 : i < n
              · rw [if_pos y2, if_pos (show i < n + 1 by omega)]
              · rw [if_neg y2, if_neg (show ¬ i < n + 1 by omega)])
        refine R_aload_n (i := 0) hC dX6_unite_25 rfl rfl (R_gR hC dX6_unite_26 fl_X6_22 L_signing rfl (R_iload_n (i := 3) hC dX6_unite_29 rfl rfl (R_aI hC dX6_unite_30 L_columnParts n rfl hn (by decide) ?_)))
        refine R_top (y := nI (f (6 + n))) (by rw [(hs n hn).2]; exact z2) ?_
        refine R_iload_n (i := 2) hC dX6_unite_31 rfl rfl ?_
        refine R_icmp_ne hC 42 dX6_unite_32 (by decide) (fun h32 => ?_) (fun h32 => ?_)
        · first
          | (have y : ¬ f (6 + n) = b := fun y => h32 (e2.mpr y)
             exact nx τ' e' (fun i hi => ⟨rfl, by
               by_cases w : i = n
               · rw [if_pos w, if_neg y, w, (hs n hn).2]; exact z2
               · rw [if_neg w]⟩))
          | (have y := e2.mp h32
             exact nx _ (e'.a (by decide)) (fun i hi => ⟨by rw [sA_ne (by decide)], by rw [sA_eq, if_pos y]; rfl⟩))
        · refine R_aload_n (i := 0) hC dX6_unite_35 rfl rfl (R_gR hC dX6_unite_36 fl_X6_22 L_signing rfl (R_iload_n (i := 3) hC dX6_unite_39 rfl rfl (R_iload_n (i := 1) hC dX6_unite_40 rfl rfl (R_sI hC dX6_unite_41 L_columnParts n rfl hn (by decide) ?_))))
          first
          | (have y : ¬ f (6 + n) = b := fun y => h32 (e2.mpr y)
             exact nx τ' e' (fun i hi => ⟨rfl, by
               by_cases w : i = n
               · rw [if_pos w, if_neg y, w, (hs n hn).2]; exact z2
               · rw [if_neg w]⟩))
          | (have y := e2.mp h32
             exact nx _ (e'.a (by decide)) (fun i hi => ⟨by rw [sA_ne (by decide)], by rw [sA_eq, if_pos y]; rfl⟩))
      refine R_iload_n (i := 3) hC dX6_unite_2 rfl rfl (R_bipush (v := 6) hC dX6_unite_3 (by decide) ?_)
      refine R_icmp_ge hC 48 dX6_unite_5 (by decide) (fun h => absurd h (nI_ge (b := 6) hn (by decide))) (fun _ => ?_)
      refine R_aload_n (i := 0) hC dX6_unite_8 rfl rfl (R_gR hC dX6_unite_9 fl_X6_18 L_signing rfl (R_iload_n (i := 3) hC dX6_unite_12 rfl rfl (R_aI hC dX6_unite_13 L_rowParts n rfl hn (by decide) ?_)))
      refine R_top (y := nI (f n)) (z1) ?_
      refine R_iload_n (i := 2) hC dX6_unite_14 rfl rfl ?_
      refine R_icmp_ne hC 25 dX6_unite_15 (by decide) (fun h15 => ?_) (fun h15 => ?_)
      · first
        | (have y : ¬ f n = b := fun y => h15 (e1.mpr y)
           exact snd τ e (fun i hi => ⟨by
             rw [(hz i hi).1]
             by_cases w : i = n
             · subst w; rw [if_neg (Nat.lt_irrefl i), if_pos (show i < i + 1 by omega), if_neg y]
             · by_cases w2 : i < n
               · rw [if_pos w2, if_pos (show i < n + 1 by omega)]
               · rw [if_neg w2, if_neg (show ¬ i < n + 1 by omega)], rfl⟩))
        | (have y := e1.mp h15
           exact snd _ (e.a (by decide)) (fun i hi => ⟨by
             rw [sA_eq]; unfold upd
             by_cases w : i = n
             · subst w; rw [if_pos rfl, if_pos (show i < i + 1 by omega), if_pos y]
             · rw [if_neg w, (hz i hi).1]
               by_cases w2 : i < n
               · rw [if_pos w2, if_pos (show i < n + 1 by omega)]
               · rw [if_neg w2, if_neg (show ¬ i < n + 1 by omega)], by rw [sA_ne (by decide)]⟩))
      · refine R_aload_n (i := 0) hC dX6_unite_18 rfl rfl (R_gR hC dX6_unite_19 fl_X6_18 L_signing rfl (R_iload_n (i := 3) hC dX6_unite_22 rfl rfl (R_iload_n (i := 1) hC dX6_unite_23 rfl rfl (R_sI hC dX6_unite_24 L_rowParts n rfl hn (by decide) ?_))))
        first
        | (have y : ¬ f n = b := fun y => h15 (e1.mpr y)
           exact snd τ e (fun i hi => ⟨by
             rw [(hz i hi).1]
             by_cases w : i = n
             · subst w; rw [if_neg (Nat.lt_irrefl i), if_pos (show i < i + 1 by omega), if_neg y]
             · by_cases w2 : i < n
               · rw [if_pos w2, if_pos (show i < n + 1 by omega)]
               · rw [if_neg w2, if_neg (show ¬ i < n + 1 by omega)], rfl⟩))
        | (have y := e1.mp h15
           exact snd _ (e.a (by decide)) (fun i hi => ⟨by
             rw [sA_eq]; unfold upd
             by_cases w : i = n
             · subst w; rw [if_pos rfl, if_pos (show i < i + 1 by omega), if_pos y]
             · rw [if_neg w, (hz i hi).1]
               by_cases w2 : i < n
               · rw [if_pos w2, if_pos (show i < n + 1 by omega)]
               · rw [if_neg w2, if_neg (show ¬ i < n + 1 by omega)], by rw [sA_ne (by decide)]⟩))
  refine R_iconst (v := 0) hC dX6_unite_0 (by decide) (R_istore_n (i := 3) hC dX6_unite_1 rfl (by decide) rfl ?_)
  exact loop 0 (by decide) σ (AE.rf _ _) (fun i hi => by rw [if_neg (Nat.not_lt_zero _), if_neg (Nat.not_lt_zero _)]; exact h i hi)
theorem c_forest {σ : sg} {x : aW} {T : tb} (h : CT σ i_table T) (hs0 : CT σ i_signs (T.1, T.2.1, fun _ _ => 0)) : Mt mX6_signForest 1 0 0 [.ref i_signing, .ref i_table] (wd σ x) (fun r w => r = none ∧ ∃ τ, w = wd τ x ∧ AE [125, 126, 127, 128] σ τ ∧ CT τ i_signs (T.1, T.2.1, (f1R T T.1).2)) := by
  refine Mt.of MI_X6_signForest (Nat.le_of_ble_eq_true rfl) (fun X hC hR hT => ?_)
  obtain ⟨k1, k2, k3, k4, k5⟩ := id h
  have ct : ∀ τ, AE [125, 126, 127, 128] σ τ → CT τ i_table T := fun τ e => h.ae e (by decide) (by decide)
  have outer : ∀ n, n ≤ T.1 → ∀ τ, AE [125, 126, 127, 128] σ τ → PRT τ (f1R T n).1 → CT τ i_signs (T.1, T.2.1, (f1R T n).2) → ∀ u3, Rw mX6_signForest X 33 [some (.ref i_signing), some (.ref i_table), some (.int (nI n)), u3] [] (wd τ x) 0 0 := by
    refine up_loop T.1 ?_ ?_
    · intro τ e hp hs u3
      refine R_iload_n (i := 2) hC dX6_signForest_33 rfl rfl (R_aload_n (i := 1) hC dX6_signForest_34 rfl rfl (R_gI hC dX6_signForest_35 fl_X6_31 L_table rfl ?_))
      refine R_top (y := nI T.1) ((ct τ e).1) ?_
      refine R_icmp_ge hC 113 dX6_signForest_38 (by decide) (fun _ => ?_) (fun h => absurd (Int32.le_refl _) h)
      exact R_vret hC hT dX6_signForest_113 rfl ⟨rfl, τ, rfl, e, hs⟩
    · intro n hn ih τ e hp hs u3
      rw [f1R_s] at ih
      have inner : ∀ m, m ≤ T.2.1 → ∀ τ, AE [125, 126, 127, 128] σ τ → PRT τ (f1C T n m).1 → CT τ i_signs (T.1, T.2.1, (f1C T n m).2) → Rw mX6_signForest X 43 [some (.ref i_signing), some (.ref i_table), some (.int (nI n)), some (.int (nI m))] [] (wd τ x) 0 0 := by
        refine up_loop T.2.1 ?_ ?_
        · intro τ e hp hs
          refine R_iload_n (i := 3) hC dX6_signForest_43 rfl rfl (R_aload_n (i := 1) hC dX6_signForest_44 rfl rfl (R_gI hC dX6_signForest_45 fl_X6_35 L_table rfl ?_))
          refine R_top (y := nI T.2.1) ((ct τ e).2.1) ?_
          refine R_icmp_ge hC 107 dX6_signForest_48 (by decide) (fun _ => ?_) (fun h => absurd (Int32.le_refl _) h)
          refine R_iinc hC dX6_signForest_107 rfl (inc1 _) (by decide) rfl (R_goto hC 33 dX6_signForest_110 (by decide) ?_)
          exact ih τ e hp hs _
        · intro m hm ihm τ e hp hs
          have J := J1_C k3 k4 hn (J1_R k3 k4 n (by omega)) m (by omega)
          rw [f1C_s] at ihm
          generalize f1C T n m = v at ihm hp hs J
          have hct := ct τ e
          have a12 := J.1 n (by omega)
          have b12 := J.1 (6 + m) (by omega)
          have ceq := nI_eq (a := v.1 n) (b := v.1 (6 + m)) (by omega) (by omega)
          have p1 := (hp n (by omega)).1
          have p2 := (hp m (by omega)).2
          by_cases hz : T.2.2 n m = 0 ∨ v.1 n = v.1 (6 + m)
          · have ef : f1 T n m v = v := by unfold f1; rw [if_pos hz]
            rw [ef] at ihm
            refine R_iload_n (i := 3) hC dX6_signForest_43 rfl rfl (R_aload_n (i := 1) hC dX6_signForest_44 rfl rfl (R_gI hC dX6_signForest_45 fl_X6_35 L_table rfl ?_))
            refine R_top (y := nI T.2.1) ((ct τ e).2.1) ?_
            refine R_icmp_ge hC 107 dX6_signForest_48 (by decide) (fun h => absurd h (nI_ge hm (by omega))) (fun _ => ?_)
            refine R_aload_n (i := 1) hC dX6_signForest_51 rfl rfl (R_iload_n (i := 2) hC dX6_signForest_52 rfl rfl (R_iload_n (i := 3) hC dX6_signForest_53 rfl rfl ?_))
            refine R_V2i hC hR dX6_signForest_54 MV_X7_at ml_X6_68 L_table rfl (c_atN TL_table hct hn hm) (by first | decide | omega) ⟨by decide, by decide⟩ (Nat.le_of_ble_eq_true rfl) ?_
            refine R_if_eq hC 101 dX6_signForest_57 (by decide) (fun h57 => ?_) (fun h57 => ?_)
            · refine R_iinc hC dX6_signForest_101 rfl (inc1 _) (by decide) rfl (R_goto hC 43 dX6_signForest_104 (by decide) ?_)
              exact ihm τ e hp hs
            · refine R_aload_n (i := 0) hC dX6_signForest_60 rfl rfl (R_gR hC dX6_signForest_61 fl_X6_18 L_signing rfl (R_iload_n (i := 2) hC dX6_signForest_64 rfl rfl (R_aI hC dX6_signForest_65 L_rowParts n rfl (by omega) (by decide) ?_)))
              refine R_top (y := nI (v.1 n)) (p1) ?_
              refine R_aload_n (i := 0) hC dX6_signForest_66 rfl rfl (R_gR hC dX6_signForest_67 fl_X6_22 L_signing rfl (R_iload_n (i := 3) hC dX6_signForest_70 rfl rfl (R_aI hC dX6_signForest_71 L_columnParts m rfl (by omega) (by decide) ?_)))
              refine R_top (y := nI (v.1 (6 + m))) (p2) ?_
              refine R_icmp_eq hC 101 dX6_signForest_72 (by decide) (fun _ => ?_) (fun h => absurd (ceq.mpr (hz.resolve_left h57)) h)
              refine R_iinc hC dX6_signForest_101 rfl (inc1 _) (by decide) rfl (R_goto hC 43 dX6_signForest_104 (by decide) ?_)
              exact ihm τ e hp hs
          · have ef : f1 T n m v = (fun k => if v.1 k = v.1 (6 + m) then v.1 n else v.1 k, setS v.2 n m 1) := by unfold f1; rw [if_neg hz]
            rw [ef] at ihm
            have hz1 : ¬ T.2.2 n m = 0 := fun y => hz (Or.inl y)
            have hz2 : ¬ v.1 n = v.1 (6 + m) := fun y => hz (Or.inr y)
            refine R_iload_n (i := 3) hC dX6_signForest_43 rfl rfl (R_aload_n (i := 1) hC dX6_signForest_44 rfl rfl (R_gI hC dX6_signForest_45 fl_X6_35 L_table rfl ?_))
            refine R_top (y := nI T.2.1) ((ct τ e).2.1) ?_
            refine R_icmp_ge hC 107 dX6_signForest_48 (by decide) (fun h => absurd h (nI_ge hm (by omega))) (fun _ => ?_)
            refine R_aload_n (i := 1) hC dX6_signForest_51 rfl rfl (R_iload_n (i := 2) hC dX6_signForest_52 rfl rfl (R_iload_n (i := 3) hC dX6_signForest_53 rfl rfl ?_))
            refine R_V2i hC hR dX6_signForest_54 MV_X7_at ml_X6_68 L_table rfl (c_atN TL_table hct hn hm) (by first | decide | omega) ⟨by decide, by decide⟩ (Nat.le_of_ble_eq_true rfl) ?_
            refine R_if_eq hC 101 dX6_signForest_57 (by decide) (fun h => absurd h hz1) (fun _ => ?_)
            refine R_aload_n (i := 0) hC dX6_signForest_60 rfl rfl (R_gR hC dX6_signForest_61 fl_X6_18 L_signing rfl (R_iload_n (i := 2) hC dX6_signForest_64 rfl rfl (R_aI hC dX6_signForest_65 L_rowParts n rfl (by omega) (by decide) ?_)))
            refine R_top (y := nI (v.1 n)) (p1) ?_
            refine R_aload_n (i := 0) hC dX6_signForest_66 rfl rfl (R_gR hC dX6_signForest_67 fl_X6_22 L_signing rfl (R_iload_n (i := 3) hC dX6_signForest_70 rfl rfl (R_aI hC dX6_signForest_71 L_columnParts m rfl (by omega) (by decide) ?_)))
            refine R_top (y := nI (v.1 (6 + m))) (p2) ?_
            refine R_icmp_eq hC 101 dX6_signForest_72 (by decide) (fun h => absurd h (fun y => hz2 (ceq.mp y))) (fun _ => ?_)
            refine R_aload_n (i := 0) hC dX6_signForest_75 rfl rfl (R_gR hC dX6_signForest_76 fl_X6_12 L_signing rfl (R_iload_n (i := 2) hC dX6_signForest_79 rfl rfl (R_iload_n (i := 3) hC dX6_signForest_80 rfl rfl (R_iconst (v := 1) hC dX6_signForest_81 (by decide) ?_))))
            refine R_V3v hC hR dX6_signForest_82 MV_X7_put ml_X6_64 L_signs rfl (c_put TL_signs hs hn hm 1) (by first | decide | omega) ⟨by decide, by decide⟩ (Nat.le_of_ble_eq_true rfl) ?_
            have hs2 := hs.put (i := n) (j := m) hm 1
            have hp2 : PRT (sA τ (i_signs + 1) (upd (τ.2.2 (i_signs + 1)) (6 * n + m) 1)) v.1 := fun i hi => by rw [sA_ne (by decide), sA_ne (by decide)]; exact hp i hi
            refine R_aload_n (i := 0) hC dX6_signForest_85 rfl rfl (R_aload_n (i := 0) hC dX6_signForest_86 rfl rfl (R_gR hC dX6_signForest_87 fl_X6_18 L_signing rfl (R_iload_n (i := 2) hC dX6_signForest_90 rfl rfl (R_aI hC dX6_signForest_91 L_rowParts n rfl (by omega) (by decide) ?_))))
            refine R_top (y := nI (v.1 n)) ((hp2 n (by omega)).1) ?_
            refine R_aload_n (i := 0) hC dX6_signForest_92 rfl rfl (R_gR hC dX6_signForest_93 fl_X6_22 L_signing rfl (R_iload_n (i := 3) hC dX6_signForest_96 rfl rfl (R_aI hC dX6_signForest_97 L_columnParts m rfl (by omega) (by decide) ?_)))
            refine R_top (y := nI (v.1 (6 + m))) ((hp2 m (by omega)).2) ?_
            refine R_V2g hC hR dX6_signForest_98 MV_X6_unite ml_X6_72 L_signing rfl (c_unite hp2 J.1 (v.1 n) (v.1 (6 + m)) b12) (by first | decide | omega) ⟨by decide, by decide⟩ (Nat.le_of_ble_eq_true rfl) (fun r w1 hq => ?_)
            obtain ⟨rfl, υ, rfl, e2, hu⟩ := hq
            refine R_iinc hC dX6_signForest_101 rfl (inc1 _) (by decide) rfl (R_goto hC 43 dX6_signForest_104 (by decide) ?_)
            exact ihm υ ((e.a (by decide)).tr (e2.w (by decide))) hu ((hs2.ae e2 (by decide) (by decide)))
      refine R_iload_n (i := 2) hC dX6_signForest_33 rfl rfl (R_aload_n (i := 1) hC dX6_signForest_34 rfl rfl (R_gI hC dX6_signForest_35 fl_X6_31 L_table rfl ?_))
      refine R_top (y := nI T.1) ((ct τ e).1) ?_
      refine R_icmp_ge hC 113 dX6_signForest_38 (by decide) (fun h => absurd h (nI_ge hn (by omega))) (fun _ => ?_)
      refine R_iconst (v := 0) hC dX6_signForest_41 (by decide) (R_istore_n (i := 3) hC dX6_signForest_42 rfl (by decide) rfl ?_)
      exact inner 0 (Nat.zero_le _) τ e hp hs
  have ini : ∀ n, n ≤ 6 → ∀ τ, AE [127, 128] σ τ → (∀ i, i < n → τ.2.2 i_rowParts i = nI i ∧ τ.2.2 i_columnParts i = nI (6 + i)) → Rw mX6_signForest X 2 [some (.ref i_signing), some (.ref i_table), some (.int (nI n)), none] [] (wd τ x) 0 0 := by
    refine up_loop 6 ?_ ?_
    · intro τ e hz
      refine R_iload_n (i := 2) hC dX6_signForest_2 rfl rfl (R_bipush (v := 6) hC dX6_signForest_3 (by decide) ?_)
      refine R_icmp_ge hC 31 dX6_signForest_5 (by decide) (fun _ => ?_) (fun h => absurd (by decide) h)
      refine R_iconst (v := 0) hC dX6_signForest_31 (by decide) (R_istore_n (i := 2) hC dX6_signForest_32 rfl (by decide) rfl ?_)
      exact outer 0 (Nat.zero_le _) τ (e.w (by decide)) (fun i hi => hz i hi) (hs0.ae e (by decide) (by decide)) _
    · intro n hn ih τ e hz
      refine R_iload_n (i := 2) hC dX6_signForest_2 rfl rfl (R_bipush (v := 6) hC dX6_signForest_3 (by decide) ?_)
      refine R_icmp_ge hC 31 dX6_signForest_5 (by decide) (fun h => absurd h (nI_ge (b := 6) hn (by decide))) (fun _ => ?_)
      refine R_aload_n (i := 0) hC dX6_signForest_8 rfl rfl (R_gR hC dX6_signForest_9 fl_X6_18 L_signing rfl (R_iload_n (i := 2) hC dX6_signForest_12 rfl rfl (R_iload_n (i := 2) hC dX6_signForest_13 rfl rfl (R_sI hC dX6_signForest_14 L_rowParts n rfl hn (by decide) (R_aload_n (i := 0) hC dX6_signForest_15 rfl rfl (R_gR hC dX6_signForest_16 fl_X6_22 L_signing rfl (R_iload_n (i := 2) hC dX6_signForest_19 rfl rfl ?_)))))))
      refine R_bipush (v := 6) hC dX6_signForest_20 (by decide) (R_iload_n (i := 2) hC dX6_signForest_22 rfl rfl (R_iadd hC dX6_signForest_23 ?_))
      refine R_top (y := nI (6 + n)) (by rw [show (6 : Int32) = nI 6 from rfl, nI_add]) ?_
      refine R_sI hC dX6_signForest_24 L_columnParts n rfl hn (by decide) (R_iinc hC dX6_signForest_25 rfl (inc1 _) (by decide) rfl (R_goto hC 2 dX6_signForest_28 (by decide) ?_))
      exact ih _ ((e.a (by decide)).a (by decide)) (fun i hi => by
        refine ⟨?_, ?_⟩
        · rw [sA_ne (by decide), sA_eq]; unfold upd
          by_cases y : i = n
          · rw [if_pos y, y]
          · rw [if_neg y]; exact (hz i (by omega)).1
        · rw [sA_eq, sA_ne (by decide)]; unfold upd
          by_cases y : i = n
          · rw [if_pos y, y]
          · rw [if_neg y]; exact (hz i (by omega)).2)
  refine R_iconst (v := 0) hC dX6_signForest_0 (by decide) (R_istore_n (i := 2) hC dX6_signForest_1 rfl (by decide) rfl ?_)
  exact ini 0 (by decide) σ (AE.rf _ _) (fun i hi => absurd hi (Nat.not_lt_zero _))
/-- entries ahead of row m of column n -/
def psc (n m r c : Nat) : Prop := c < n ∨ (c = n ∧ r < m)
def FN (σ : sg) (T : tb) (S : Nat → Nat → Int32) (n m : Nat) (least : Int32) : Prop := (least = 36000 ∧ ∀ r c, psc n m r c → ¬ opq T S r c) ∨ ∃ r c k, least = nI (36 * k + 6 * r + c) ∧ σ.1 i_signing 5 = nI r ∧ σ.1 i_signing 6 = nI c ∧ opq T S r c ∧ k ≤ 12 ∧ ds (tS2 T S) (6 + c) r k ∧ ∀ r' c' k', psc n m r' c' → opq T S r' c' → k' ≤ 12 → ds (tS2 T S) (6 + c') r' k' → 36 * k + 6 * r + c ≤ 36 * k' + 6 * r' + c'
theorem c_findNext {σ : sg} {x : aW} {T : tb} {S : Nat → Nat → Int32} (h : CT σ i_table T) (hs : CT σ i_signs (tS2 T S)) (ri : RI T S) : Mt mX6_findNext 4 0 0 [.ref i_signing, .ref i_table] (wd σ x) (fun r w => ∃ τ, w = wd τ x ∧ AE [124, 129, 130] σ τ ∧ τ.1 i_signing 7 = σ.1 i_signing 7 ∧ ((r = some (.int 0) ∧ ∀ p, ¬ bstC T S p) ∨ ∃ p : Nat × Nat × Nat, r = some (.int 1) ∧ bstC T S p ∧ τ.1 i_signing 5 = nI p.1 ∧ τ.1 i_signing 6 = nI p.2.1)) := by
  refine Mt.of MI_X6_findNext (Nat.le_of_ble_eq_true rfl) (fun X hC hR hT => ?_)
  obtain ⟨k1, k2, k3, k4, k5⟩ := id h
  have ct : ∀ τ, AE [124, 129, 130] σ τ → CT τ i_table T := fun τ e => h.ae e (by decide) (by decide)
  have cs : ∀ τ, AE [124, 129, 130] σ τ → CT τ i_signs (tS2 T S) := fun τ e => hs.ae e (by decide) (by decide)
  have outer : ∀ n, n ≤ T.2.1 → ∀ τ, AE [124, 129, 130] σ τ → τ.1 i_signing 7 = σ.1 i_signing 7 → ∀ least, FN τ T S n 0 least → ∀ u4 u5, Rw mX6_findNext X 5 [some (.ref i_signing), some (.ref i_table), some (.int least), some (.int (nI n)), u4, u5] [] (wd τ x) 0 0 := by
    refine up_loop T.2.1 ?_ ?_
    · intro τ e e7 least hf u4 u5
      have all : ∀ r c, opq T S r c → psc T.2.1 0 r c := fun r c z => Or.inl z.2.1
      rcases hf with ⟨f1, f2⟩ | ⟨r, c, k, f1, f2, f3, f4, f5, f6, f7⟩
      · refine R_iload_n (i := 3) hC dX6_findNext_5 rfl rfl (R_aload_n (i := 1) hC dX6_findNext_6 rfl rfl (R_gI hC dX6_findNext_7 fl_X6_35 L_table rfl ?_))
        refine R_top (y := nI T.2.1) ((ct τ e).2.1) ?_
        refine R_icmp_ge hC 105 dX6_findNext_10 (by decide) (fun _ => ?_) (fun h => absurd (Int32.le_refl _) h)
        refine R_iload_n (i := 2) hC dX6_findNext_105 rfl rfl (R_ldc hC dX6_findNext_106 kc_X6_75 ?_)
        refine R_icmp_ge hC 115 dX6_findNext_108 (by decide) (fun _ => ?_) (fun h => absurd (by rw [f1]; decide) h)
        refine R_iconst (v := 0) hC dX6_findNext_115 (by decide) ?_
        exact R_zret hC hT dX6_findNext_116 rfl (by decide) ⟨τ, rfl, e, e7, Or.inl ⟨rfl, fun p z => f2 _ _ (all _ _ z.1) z.1⟩⟩
      · have o1 := f4.1
        have o2 := f4.2.1
        refine R_iload_n (i := 3) hC dX6_findNext_5 rfl rfl (R_aload_n (i := 1) hC dX6_findNext_6 rfl rfl (R_gI hC dX6_findNext_7 fl_X6_35 L_table rfl ?_))
        refine R_top (y := nI T.2.1) ((ct τ e).2.1) ?_
        refine R_icmp_ge hC 105 dX6_findNext_10 (by decide) (fun _ => ?_) (fun h => absurd (Int32.le_refl _) h)
        refine R_iload_n (i := 2) hC dX6_findNext_105 rfl rfl (R_ldc hC dX6_findNext_106 kc_X6_75 ?_)
        refine R_icmp_ge hC 115 dX6_findNext_108 (by decide) (fun h => absurd h (by rw [f1]; exact nI_ge (b := 36000) (by omega) (by decide))) (fun _ => ?_)
        refine R_iconst (v := 1) hC dX6_findNext_111 (by decide) (R_goto hC 116 dX6_findNext_112 (by decide) ?_)
        exact R_zret hC hT dX6_findNext_116 rfl (by decide) ⟨τ, rfl, e, e7, Or.inr ⟨(r, c, k), rfl, ⟨f4, f5, f6, fun r' c' k' z1 z2 z3 => by
          have q := f7 r' c' k' (all _ _ z1) z1 z2 z3
          have := z1.1
          have := z1.2.1
          show k < k' ∨ (k = k' ∧ 6 * r + c ≤ 6 * r' + c')
          omega⟩, f2, f3⟩⟩
    · intro n hn ih τ e e7 least hf u4 u5
      have inner : ∀ m, m ≤ T.1 → ∀ τ, AE [124, 129, 130] σ τ → τ.1 i_signing 7 = σ.1 i_signing 7 → (∀ r, r < T.1 → DV (tS2 T S) (6 + n) 12 (τ.2.2 i_rowsFar r) r) → ∀ least, FN τ T S n m least → ∀ u5, Rw mX6_findNext X 21 [some (.ref i_signing), some (.ref i_table), some (.int least), some (.int (nI n)), some (.int (nI m)), u5] [] (wd τ x) 0 0 := by
        refine up_loop T.1 ?_ ?_
        · intro τ e e7 hm least hf u5
          refine R_iload hC dX6_findNext_21 rfl (R_aload_n (i := 1) hC dX6_findNext_23 rfl rfl (R_gI hC dX6_findNext_24 fl_X6_31 L_table rfl ?_))
          refine R_top (y := nI T.1) ((ct τ e).1) ?_
          refine R_icmp_ge hC 99 dX6_findNext_27 (by decide) (fun _ => ?_) (fun h => absurd (Int32.le_refl _) h)
          refine R_iinc hC dX6_findNext_99 rfl (inc1 _) (by decide) rfl (R_goto hC 5 dX6_findNext_102 (by decide) ?_)
          exact ih τ e e7 least (by
            have lem : ∀ r c, psc (n + 1) 0 r c → opq T S r c → psc n T.1 r c := fun r c z y => by have := y.1; unfold psc at *; omega
            rcases hf with ⟨f1, f2⟩ | ⟨r, c, k, f1, f2, f3, f4, f5, f6, f7⟩
            · exact Or.inl ⟨f1, fun r c z y => f2 r c (lem r c z y) y⟩
            · exact Or.inr ⟨r, c, k, f1, f2, f3, f4, f5, f6, fun r' c' k' z y => f7 r' c' k' (lem r' c' z y) y⟩) _ _
        · intro m hm0 ihm τ e e7 hm least hf u5
          have hct := ct τ e
          have hcs := cs τ e
          have lem : ∀ r c, psc n (m + 1) r c → psc n m r c ∨ (r = m ∧ c = n) := fun r c z => by unfold psc at *; omega
          have dv := hm m hm0
          have keep : (¬ opq T S m n ∨ ∃ k, k ≤ 12 ∧ ds (tS2 T S) (6 + n) m k ∧ ¬ nI (36 * k + 6 * m + n) < least) → ∀ u5, Rw mX6_findNext X 93 [some (.ref i_signing), some (.ref i_table), some (.int least), some (.int (nI n)), some (.int (nI m)), u5] [] (wd τ x) 0 0 := by
            intro z u5
            refine R_iinc hC dX6_findNext_93 rfl (inc1 _) (by decide) rfl (R_goto hC 21 dX6_findNext_96 (by decide) ?_)
            exact ihm τ e e7 hm least (by
              rcases hf with ⟨f1, f2⟩ | ⟨r, c, k, f1, f2, f3, f4, f5, f6, f7⟩
              · refine Or.inl ⟨f1, fun r c w y => ?_⟩
                rcases lem r c w with w | ⟨rfl, rfl⟩
                · exact f2 r c w y
                · rcases z with z | ⟨k, z1, z2, z3⟩
                  · exact z y
                  · exact z3 (by rw [f1]; exact nI_lt (b := 36000) (by omega) (by decide))
              · refine Or.inr ⟨r, c, k, f1, f2, f3, f4, f5, f6, fun r' c' k' w y y1 y2 => ?_⟩
                rcases lem r' c' w with w | ⟨rfl, rfl⟩
                · exact f7 r' c' k' w y y1 y2
                · rcases z with z | ⟨k2, z1, z2, z3⟩
                  · exact absurd y z
                  · have := ds_u y2 z2
                    subst this
                    have o1 := f4.1
                    have o2 := f4.2.1
                    rw [f1] at z3
                    have := mt (nI_lt (a := 36 * k' + 6 * r' + c') (b := 36 * k + 6 * r + c) · (by omega)) z3
                    omega) _
          by_cases ho : opq T S m n
          · obtain ⟨k, kk1, kk2⟩ := ri m n hm0 hn ho.2.2.1
            have fv := dv.of kk2 kk1
            have ov : nI k * 36 + nI m * 6 + nI n = nI (36 * k + 6 * m + n) := by
              rw [show nI k * (36 : Int32) = nI (36 * k) from by rw [Int32.mul_comm, show (36 : Int32) = nI 36 from rfl, pk_mul], show nI m * (6 : Int32) = nI (6 * m) from by rw [Int32.mul_comm, show (6 : Int32) = nI 6 from rfl, pk_mul], nI_add, nI_add]
            have tk : nI (36 * k + 6 * m + n) < least → Rw mX6_findNext X 79 [some (.ref i_signing), some (.ref i_table), some (.int least), some (.int (nI n)), some (.int (nI m)), some (.int (nI (36 * k + 6 * m + n)))] [] (wd τ x) 0 0 := by
              intro hlt
              refine R_iload hC dX6_findNext_79 rfl (R_istore_n (i := 2) hC dX6_findNext_81 rfl (by decide) rfl (R_aload_n (i := 0) hC dX6_findNext_82 rfl rfl (R_iload hC dX6_findNext_83 rfl (R_pI hC dX6_findNext_85 fl_X6_57 L_signing rfl (R_aload_n (i := 0) hC dX6_findNext_88 rfl rfl (R_iload_n (i := 3) hC dX6_findNext_89 rfl rfl (R_pI hC dX6_findNext_90 fl_X6_50 L_signing rfl ?_)))))))
              refine R_iinc hC dX6_findNext_93 rfl (inc1 _) (by decide) rfl (R_goto hC 21 dX6_findNext_96 (by decide) ?_)
              exact ihm _ ((e.g (by decide)).g (by decide)) ((sG_nk (by decide)).trans ((sG_nk (by decide)).trans e7)) hm (nI (36 * k + 6 * m + n)) (Or.inr ⟨m, n, k, rfl, (sG_nk (by decide)).trans (sG_eq _ _ _ _), sG_eq _ _ _ _, ho, kk1, kk2, fun r' c' k' w y y1 y2 => by
                rcases lem r' c' w with w | ⟨rfl, rfl⟩
                · rcases hf with ⟨f1, f2⟩ | ⟨r, c, k3, f1, f2, f3, f4, f5, f6, f7⟩
                  · exact absurd y (f2 r' c' w)
                  · have q := f7 r' c' k' w y y1 y2
                    have o1 := f4.1
                    have o2 := f4.2.1
                    rw [f1] at hlt
                    have := (nI_ltI (a := 36 * k + 6 * m + n) (b := 36 * k3 + 6 * r + c) (by omega) (by omega)).mp hlt
                    omega
                · have := ds_u y2 kk2; omega⟩) _
            refine R_iload hC dX6_findNext_21 rfl (R_aload_n (i := 1) hC dX6_findNext_23 rfl rfl (R_gI hC dX6_findNext_24 fl_X6_31 L_table rfl ?_))
            refine R_top (y := nI T.1) ((ct τ e).1) ?_
            refine R_icmp_ge hC 99 dX6_findNext_27 (by decide) (fun h => absurd h (nI_ge hm0 (by omega))) (fun _ => ?_)
            refine R_aload_n (i := 0) hC dX6_findNext_30 rfl rfl (R_gR hC dX6_findNext_31 fl_X6_25 L_signing rfl (R_iload hC dX6_findNext_34 rfl (R_aI hC dX6_findNext_36 L_rowsFar m rfl (by omega) (by decide) ?_)))
            refine R_top (y := nI k) (fv) ?_
            refine R_bipush (v := 36) hC dX6_findNext_37 (by decide) (R_imul hC dX6_findNext_39 (R_iload hC dX6_findNext_40 rfl (R_bipush (v := 6) hC dX6_findNext_42 (by decide) (R_imul hC dX6_findNext_44 (R_iadd hC dX6_findNext_45 (R_iload_n (i := 3) hC dX6_findNext_46 rfl rfl (R_iadd hC dX6_findNext_47 ?_)))))))
            refine R_top (y := nI (36 * k + 6 * m + n)) (ov) ?_
            refine R_istore hC dX6_findNext_48 (by decide) rfl (R_aload_n (i := 1) hC dX6_findNext_50 rfl rfl (R_iload hC dX6_findNext_51 rfl (R_iload_n (i := 3) hC dX6_findNext_53 rfl rfl ?_)))
            refine R_V2i hC hR dX6_findNext_54 MV_X7_at ml_X6_68 L_table rfl (c_atN TL_table hct hm0 hn) (by first | decide | omega) ⟨by decide, by decide⟩ (Nat.le_of_ble_eq_true rfl) ?_
            refine R_if_eq hC 93 dX6_findNext_57 (by decide) (fun h => absurd h ho.2.2.1) (fun _ => ?_)
            refine R_aload_n (i := 0) hC dX6_findNext_60 rfl rfl (R_gR hC dX6_findNext_61 fl_X6_12 L_signing rfl (R_iload hC dX6_findNext_64 rfl (R_iload_n (i := 3) hC dX6_findNext_66 rfl rfl ?_)))
            refine R_V2i hC hR dX6_findNext_67 MV_X7_at ml_X6_68 L_signs rfl (c_atN TL_signs hcs hm0 hn) (by first | decide | omega) ⟨by decide, by decide⟩ (Nat.le_of_ble_eq_true rfl) ?_
            refine R_if_ne hC 93 dX6_findNext_70 (by decide) (fun h => absurd ho.2.2.2 h) (fun _ => ?_)
            refine R_iload hC dX6_findNext_73 rfl (R_iload_n (i := 2) hC dX6_findNext_75 rfl rfl ?_)
            refine R_icmp_ge hC 93 dX6_findNext_76 (by decide) (fun h76 => ?_) (fun h76 => ?_)
            · exact keep (Or.inr ⟨k, kk1, kk2, Int32.not_lt.mpr h76⟩) _
            · exact tk (Int32.not_le.mp h76)
          · have no := keep (Or.inl ho)
            have hopq : ¬ T.2.2 m n = 0 → ¬ S m n = 0 := fun z y => ho ⟨hm0, hn, z, y⟩
            refine R_iload hC dX6_findNext_21 rfl (R_aload_n (i := 1) hC dX6_findNext_23 rfl rfl (R_gI hC dX6_findNext_24 fl_X6_31 L_table rfl ?_))
            refine R_top (y := nI T.1) ((ct τ e).1) ?_
            refine R_icmp_ge hC 99 dX6_findNext_27 (by decide) (fun h => absurd h (nI_ge hm0 (by omega))) (fun _ => ?_)
            refine R_aload_n (i := 0) hC dX6_findNext_30 rfl rfl (R_gR hC dX6_findNext_31 fl_X6_25 L_signing rfl (R_iload hC dX6_findNext_34 rfl (R_aI hC dX6_findNext_36 L_rowsFar m rfl (by omega) (by decide) (R_bipush (v := 36) hC dX6_findNext_37 (by decide) (R_imul hC dX6_findNext_39 (R_iload hC dX6_findNext_40 rfl (R_bipush (v := 6) hC dX6_findNext_42 (by decide) ?_)))))))
            refine R_imul hC dX6_findNext_44 (R_iadd hC dX6_findNext_45 (R_iload_n (i := 3) hC dX6_findNext_46 rfl rfl (R_iadd hC dX6_findNext_47 (R_istore hC dX6_findNext_48 (by decide) rfl (R_aload_n (i := 1) hC dX6_findNext_50 rfl rfl (R_iload hC dX6_findNext_51 rfl (R_iload_n (i := 3) hC dX6_findNext_53 rfl rfl ?_)))))))
            refine R_V2i hC hR dX6_findNext_54 MV_X7_at ml_X6_68 L_table rfl (c_atN TL_table hct hm0 hn) (by first | decide | omega) ⟨by decide, by decide⟩ (Nat.le_of_ble_eq_true rfl) ?_
            refine R_if_eq hC 93 dX6_findNext_57 (by decide) (fun h57 => ?_) (fun h57 => ?_)
            · exact no _
            · refine R_aload_n (i := 0) hC dX6_findNext_60 rfl rfl (R_gR hC dX6_findNext_61 fl_X6_12 L_signing rfl (R_iload hC dX6_findNext_64 rfl (R_iload_n (i := 3) hC dX6_findNext_66 rfl rfl ?_)))
              refine R_V2i hC hR dX6_findNext_67 MV_X7_at ml_X6_68 L_signs rfl (c_atN TL_signs hcs hm0 hn) (by first | decide | omega) ⟨by decide, by decide⟩ (Nat.le_of_ble_eq_true rfl) ?_
              refine R_if_ne hC 93 dX6_findNext_70 (by decide) (fun _ => ?_) (fun h => absurd h (hopq h57))
              exact no _
      refine R_iload_n (i := 3) hC dX6_findNext_5 rfl rfl (R_aload_n (i := 1) hC dX6_findNext_6 rfl rfl (R_gI hC dX6_findNext_7 fl_X6_35 L_table rfl ?_))
      refine R_top (y := nI T.2.1) ((ct τ e).2.1) ?_
      refine R_icmp_ge hC 105 dX6_findNext_10 (by decide) (fun h => absurd h (nI_ge hn (by omega))) (fun _ => ?_)
      refine R_aload_n (i := 0) hC dX6_findNext_13 rfl rfl (R_iload_n (i := 3) hC dX6_findNext_14 rfl rfl ?_)
      refine R_V1g hC hR dX6_findNext_15 MV_X6_measureFrom ml_X6_53 L_signing rfl (c_measure (cs τ e) hn) (by first | decide | omega) ⟨by decide, by decide⟩ (Nat.le_of_ble_eq_true rfl) (fun r w1 hq => ?_)
      obtain ⟨rfl, υ, rfl, e2, hm⟩ := hq
      have e24 := (e2 124 (by decide)).1
      refine R_iconst (v := 0) hC dX6_findNext_18 (by decide) (R_istore hC dX6_findNext_19 (by decide) rfl ?_)
      exact inner 0 (Nat.zero_le _) υ (e.tr (e2.w (by decide))) (by rw [e24]; exact e7) hm.1 least (by unfold FN; rw [e24]; exact hf) _
  refine R_ldc hC dX6_findNext_0 kc_X6_75 (R_istore_n (i := 2) hC dX6_findNext_2 rfl (by decide) rfl (R_iconst (v := 0) hC dX6_findNext_3 (by decide) (R_istore_n (i := 3) hC dX6_findNext_4 rfl (by decide) rfl ?_)))
  exact outer 0 (Nat.zero_le _) σ (AE.rf _ _) rfl 36000 (Or.inl ⟨rfl, fun r c z => by unfold psc at z; omega⟩) _ _
