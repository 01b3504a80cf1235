/-! ===== the class's special ===== -/
def alk (T : tb) (ρ : Nat → Nat) (G : Nat → Nat → Int32) (f c : Nat) : Prop := ∀ r, r < 5 → (T.2.2 (ρ r) f = 0 ↔ G r c = 0)
noncomputable def faH (T : tb) (ρ : Nat → Nat) (G : Nat → Nat → Int32) (c f : Nat) : Option Nat := cnd (alk T ρ G f c) (some f) none
def OR5 (σ : sg) (ρ : Nat → Nat) : Prop := ∀ p, p < 5 → σ.2.2 i_order p = nI (ρ p) ∧ ρ p < 5
theorem c_isAlike {σ : sg} {x : aW} {T : tb} {G : Nat → Nat → Int32} {ρ : Nat → Nat} (h : CT σ i_table T) (hs : CT σ i_special (5, 5, G)) (ho : OR5 σ ρ) (t1 : T.1 = 5) (t2 : T.2.1 = 5) {f c : Nat} (hf : f < 5) (hc0 : c < 5) : Mt mX3_isAlike 1 0 0 [.ref i_pattern, .ref i_table, .int (nI f), .int (nI c)] (wd σ x) (QI (b2i (alk T ρ G f c)) (wd σ x)) := by
  refine Mt.of MI_X3_isAlike (Nat.le_of_ble_eq_true rfl) (fun X hC hR hT => ?_)
  have loop : ∀ n, n ≤ 5 → (∀ r, r < n → (T.2.2 (ρ r) f = 0 ↔ G r c = 0)) → Rw mX3_isAlike X 3 [some (.ref i_pattern), some (.ref i_table), some (.int (nI f)), some (.int (nI c)), some (.int (nI n))] [] (wd σ x) 0 0 := by
    refine up_loop 5 ?_ ?_
    · intro hg
      refine R_iload hC dX3_isAlike_3 rfl (R_iconst (v := 5) hC dX3_isAlike_5 (by decide) ?_)
      refine R_icmp_ge hC 58 dX3_isAlike_6 (by decide) (fun _ => ?_) (fun h => absurd (by decide) h)
      refine R_iconst (v := 1) hC dX3_isAlike_58 (by decide) ?_
      exact R_zret hC hT dX3_isAlike_59 rfl (by decide) ⟨by rw [b2i_t (show alk T ρ G f c from hg)], rfl⟩
    · intro n hn ih hg
      obtain ⟨o1, o2⟩ := ho n hn
      have bad : ¬ (T.2.2 (ρ n) f = 0 ↔ G n c = 0) → b2i (alk T ρ G f c) = 0 := fun z => b2i_f (fun y => z (y n hn))
      have nx : (T.2.2 (ρ n) f = 0 ↔ G n c = 0) → Rw mX3_isAlike X 52 [some (.ref i_pattern), some (.ref i_table), some (.int (nI f)), some (.int (nI c)), some (.int (nI n))] [] (wd σ x) 0 0 := by
        intro z
        refine R_iinc hC dX3_isAlike_52 rfl (inc1 _) (by decide) rfl (R_goto hC 3 dX3_isAlike_55 (by decide) ?_)
        exact ih (fun r hr => by rcases (by omega : r < n ∨ r = n) with y | rfl; exact hg r y; exact z)
      refine R_iload hC dX3_isAlike_3 rfl (R_iconst (v := 5) hC dX3_isAlike_5 (by decide) ?_)
      refine R_icmp_ge hC 58 dX3_isAlike_6 (by decide) (fun h => absurd h (nI_ge (b := 5) hn (by decide))) (fun _ => ?_)
      refine R_aload_n (i := 1) hC dX3_isAlike_9 rfl rfl (R_aload_n (i := 0) hC dX3_isAlike_10 rfl rfl (R_gR hC dX3_isAlike_11 fl_X3_21 L_pattern rfl (R_iload hC dX3_isAlike_14 rfl (R_aI hC dX3_isAlike_16 L_order n rfl hn (by decide) ?_))))
      refine R_top (y := nI (ρ n)) (o1) ?_
      refine R_iload_n (i := 2) hC dX3_isAlike_17 rfl rfl ?_
      refine R_V2i hC hR dX3_isAlike_18 MV_X7_at ml_X3_85 L_table rfl (c_atN TL_table h (i := ρ n) (j := f) (by omega) (by omega)) (by first | decide | omega) ⟨by decide, by decide⟩ (Nat.le_of_ble_eq_true rfl) ?_
      refine R_if_ne hC 28 dX3_isAlike_21 (by decide) (fun h21 => ?_) (fun h21 => ?_)
      · refine R_iconst (v := 0) hC dX3_isAlike_28 (by decide) (R_aload_n (i := 0) hC dX3_isAlike_29 rfl rfl (R_gR hC dX3_isAlike_30 fl_X3_12 L_pattern rfl (R_iload hC dX3_isAlike_33 rfl (R_iload_n (i := 3) hC dX3_isAlike_35 rfl rfl ?_))))
        refine R_V2i hC hR dX3_isAlike_36 MV_X7_at ml_X3_85 L_special rfl (c_atN TL_special hs (i := n) (j := c) hn hc0) (by first | decide | omega) ⟨by decide, by decide⟩ (Nat.le_of_ble_eq_true rfl) ?_
        refine R_if_ne hC 46 dX3_isAlike_39 (by decide) (fun h39 => ?_) (fun h39 => ?_)
        · refine R_iconst (v := 0) hC dX3_isAlike_46 (by decide) ?_
          refine R_icmp_eq hC 52 dX3_isAlike_47 (by decide) (fun _ => ?_) (fun h => absurd (by decide) h)
          exact nx (by first | exact ⟨fun _ => h39, fun _ => h21⟩ | exact ⟨fun z => absurd z h21, fun z => absurd z h39⟩)
        · refine R_iconst (v := 1) hC dX3_isAlike_42 (by decide) (R_goto hC 47 dX3_isAlike_43 (by decide) ?_)
          refine R_icmp_eq hC 52 dX3_isAlike_47 (by decide) (fun h => absurd h (by decide)) (fun _ => ?_)
          refine R_iconst (v := 0) hC dX3_isAlike_50 (by decide) ?_
          exact R_zret hC hT dX3_isAlike_51 rfl (by decide) ⟨by
            have e := bad (by first | (intro z; exact h39 (z.mp h21)) | (intro z; exact h21 (z.mpr h39)))
            rw [e], rfl⟩
      · refine R_iconst (v := 1) hC dX3_isAlike_24 (by decide) (R_goto hC 29 dX3_isAlike_25 (by decide) (R_aload_n (i := 0) hC dX3_isAlike_29 rfl rfl (R_gR hC dX3_isAlike_30 fl_X3_12 L_pattern rfl (R_iload hC dX3_isAlike_33 rfl (R_iload_n (i := 3) hC dX3_isAlike_35 rfl rfl ?_)))))
        refine R_V2i hC hR dX3_isAlike_36 MV_X7_at ml_X3_85 L_special rfl (c_atN TL_special hs (i := n) (j := c) hn hc0) (by first | decide | omega) ⟨by decide, by decide⟩ (Nat.le_of_ble_eq_true rfl) ?_
        refine R_if_ne hC 46 dX3_isAlike_39 (by decide) (fun h39 => ?_) (fun h39 => ?_)
        · refine R_iconst (v := 0) hC dX3_isAlike_46 (by decide) ?_
          refine R_icmp_eq hC 52 dX3_isAlike_47 (by decide) (fun h => absurd h (by decide)) (fun _ => ?_)
          refine R_iconst (v := 0) hC dX3_isAlike_50 (by decide) ?_
          exact R_zret hC hT dX3_isAlike_51 rfl (by decide) ⟨by
            have e := bad (by first | (intro z; exact h39 (z.mp h21)) | (intro z; exact h21 (z.mpr h39)))
            rw [e], rfl⟩
        · refine R_iconst (v := 1) hC dX3_isAlike_42 (by decide) (R_goto hC 47 dX3_isAlike_43 (by decide) ?_)
          refine R_icmp_eq hC 52 dX3_isAlike_47 (by decide) (fun _ => ?_) (fun h => absurd (by decide) h)
          exact nx (by first | exact ⟨fun _ => h39, fun _ => h21⟩ | exact ⟨fun z => absurd z h21, fun z => absurd z h39⟩)
  refine R_iconst (v := 0) hC dX3_isAlike_0 (by decide) (R_istore hC dX3_isAlike_1 (by decide) rfl ?_)
  exact loop 0 (by decide) (fun r hr => absurd hr (Nat.not_lt_zero _))
theorem c_moveCols {σ : sg} {x : aW} {T : tb} {G : Nat → Nat → Int32} {ρ : Nat → Nat} (h : CT σ i_table T) (hs : CT σ i_special (5, 5, G)) (ho : OR5 σ ρ) (t1 : T.1 = 5) (t2 : T.2.1 = 5) : Mt mX3_moveColumns 2 0 0 [.ref i_pattern, .ref i_table] (wd σ x) (fun r w => ∃ τ, w = wd τ x ∧ AE [139, 140] σ τ ∧ ((r = some (.int 0) ∧ ∃ c, c < 5 ∧ fs (faH T ρ G c) 0 5 = none) ∨ (r = some (.int 1) ∧ ∃ γ : Nat → Nat, (∀ c, c < 5 → fs (faH T ρ G c) 0 5 = some (γ c)) ∧ CT τ i_moved (5, 5, fun r c => T.2.2 (ρ r) (γ c))))) := by
  refine Mt.of MI_X3_moveColumns (Nat.le_of_ble_eq_true rfl) (fun X hC hR hT => ?_)
  have ct : ∀ τ, AE [139, 140] σ τ → CT τ i_table T ∧ CT τ i_special (5, 5, G) ∧ OR5 τ ρ := fun τ e => ⟨h.ae e (by decide) (by decide), hs.ae e (by decide) (by decide), fun p hp => by rw [(e 141 (by decide)).2.2]; exact ho p hp⟩
  have outer : ∀ n, n ≤ 5 → ∀ τ (γ : Nat → Nat), AE [139, 140] σ τ → (∀ c, c < n → fs (faH T ρ G c) 0 5 = some (γ c)) → CT τ i_moved (5, 5, fun r c => if c < n then T.2.2 (ρ r) (γ c) else 0) → ∀ u3 u4, Rw mX3_moveColumns X 11 [some (.ref i_pattern), some (.ref i_table), some (.int (nI n)), u3, u4] [] (wd τ x) 0 0 := by
    refine up_loop 5 ?_ ?_
    · intro τ γ e hg hm u3 u4
      refine R_iload_n (i := 2) hC dX3_moveColumns_11 rfl rfl (R_iconst (v := 5) hC dX3_moveColumns_12 (by decide) ?_)
      refine R_icmp_ge hC 89 dX3_moveColumns_13 (by decide) (fun _ => ?_) (fun h => absurd (by decide) h)
      refine R_iconst (v := 1) hC dX3_moveColumns_89 (by decide) ?_
      exact R_zret hC hT dX3_moveColumns_90 rfl (by decide) ⟨τ, rfl, e, Or.inr ⟨rfl, γ, hg, hm.cg (fun r c _ hc => (if_pos hc).symm)⟩⟩
    · intro n hn ih τ γ e hg hm u3 u4
      obtain ⟨hct, hcs, hco⟩ := ct τ e
      -- the rows of a column that was found
      have cp : ∀ f, f < 5 → fs (faH T ρ G n) 0 5 = some f → ∀ m, m ≤ 5 → ∀ τ, AE [139, 140] σ τ → CT τ i_moved (5, 5, fun r c => if c < n ∨ (c = n ∧ r < m) then T.2.2 (ρ r) (if c = n then f else γ c) else 0) → Rw mX3_moveColumns X 49 [some (.ref i_pattern), some (.ref i_table), some (.int (nI n)), some (.int (nI f)), some (.int (nI m))] [] (wd τ x) 0 0 := by
        intro f hf ef
        refine up_loop 5 ?_ ?_
        · intro τ e hm
          refine R_iload hC dX3_moveColumns_49 rfl (R_iconst (v := 5) hC dX3_moveColumns_51 (by decide) ?_)
          refine R_icmp_ge hC 83 dX3_moveColumns_52 (by decide) (fun _ => ?_) (fun h => absurd (by decide) h)
          refine R_iinc hC dX3_moveColumns_83 rfl (inc1 _) (by decide) rfl (R_goto hC 11 dX3_moveColumns_86 (by decide) ?_)
          exact ih τ (fun c => if c = n then f else γ c) e (fun c hc => by
            by_cases q : c = n
            · rw [q]; simp only [if_true]; exact ef
            · simp only [q, if_false]; exact hg c (by omega)) (hm.cg (fun r c hr hc => by
            have hr : r < 5 := hr
            show (if c < n + 1 then T.2.2 (ρ r) (if c = n then f else γ c) else 0) = if c < n ∨ (c = n ∧ r < 5) then _ else 0
            by_cases q : c < n + 1
            · rw [if_pos q, if_pos (show c < n ∨ (c = n ∧ r < 5) by omega)]
            · rw [if_neg q, if_neg (show ¬ (c < n ∨ (c = n ∧ r < 5)) by omega)])) _ _
        · intro m hm0 ihm τ e hm
          obtain ⟨hct, hcs, hco⟩ := ct τ e
          obtain ⟨o1, o2⟩ := hco m hm0
          refine R_iload hC dX3_moveColumns_49 rfl (R_iconst (v := 5) hC dX3_moveColumns_51 (by decide) ?_)
          refine R_icmp_ge hC 83 dX3_moveColumns_52 (by decide) (fun h => absurd h (nI_ge (b := 5) hm0 (by decide))) (fun _ => ?_)
          refine R_aload_n (i := 0) hC dX3_moveColumns_55 rfl rfl (R_gR hC dX3_moveColumns_56 fl_X3_18 L_pattern rfl (R_iload hC dX3_moveColumns_59 rfl (R_iload_n (i := 2) hC dX3_moveColumns_61 rfl rfl (R_aload_n (i := 1) hC dX3_moveColumns_62 rfl rfl (R_aload_n (i := 0) hC dX3_moveColumns_63 rfl rfl (R_gR hC dX3_moveColumns_64 fl_X3_21 L_pattern rfl (R_iload hC dX3_moveColumns_67 rfl ?_)))))))
          refine R_aI hC dX3_moveColumns_69 L_order m rfl hm0 (by decide) ?_
          refine R_top (y := nI (ρ m)) (o1) ?_
          refine R_iload_n (i := 3) hC dX3_moveColumns_70 rfl rfl ?_
          refine R_V2i hC hR dX3_moveColumns_71 MV_X7_at ml_X3_85 L_table rfl (c_atN TL_table hct (i := ρ m) (j := f) (by omega) (by omega)) (by first | decide | omega) ⟨by decide, by decide⟩ (Nat.le_of_ble_eq_true rfl) ?_
          refine R_V3v hC hR dX3_moveColumns_74 MV_X7_put ml_X3_69 L_moved rfl (c_put TL_moved hm (i := m) (j := n) hm0 hn _) (by first | decide | omega) ⟨by decide, by decide⟩ (Nat.le_of_ble_eq_true rfl) ?_
          refine R_iinc hC dX3_moveColumns_77 rfl (inc1 _) (by decide) rfl (R_goto hC 49 dX3_moveColumns_80 (by decide) ?_)
          exact ihm _ (e.a (by decide)) ((hm.put (i := m) (j := n) hn _).cg (fun r c hr hc => by
            show (if c < n ∨ (c = n ∧ r < m + 1) then T.2.2 (ρ r) (if c = n then f else γ c) else 0) = if r = m ∧ c = n then T.2.2 (ρ m) f else if c < n ∨ (c = n ∧ r < m) then T.2.2 (ρ r) (if c = n then f else γ c) else 0
            by_cases q : r = m ∧ c = n
            · rw [if_pos q, if_pos (by omega), q.1, if_pos q.2]
            · rw [if_neg q]
              by_cases q2 : c < n ∨ (c = n ∧ r < m)
              · rw [if_pos q2, if_pos (show c < n ∨ (c = n ∧ r < m + 1) by omega)]
              · rw [if_neg q2, if_neg (show ¬ (c < n ∨ (c = n ∧ r < m + 1)) by omega)]))
      have find : ∀ f, f ≤ 5 → fs (faH T ρ G n) 0 5 = fs (faH T ρ G n) f (5 - f) → ∀ u4, Rw mX3_moveColumns X 18 [some (.ref i_pattern), some (.ref i_table), some (.int (nI n)), some (.int (nI f)), u4] [] (wd τ x) 0 0 := by
        refine up_loop 5 ?_ ?_
        · intro ef u4
          rw [fs_0 (Nat.le_refl _)] at ef
          refine R_iload_n (i := 3) hC dX3_moveColumns_18 rfl rfl (R_iconst (v := 5) hC dX3_moveColumns_19 (by decide) ?_)
          refine R_icmp_ge hC 39 dX3_moveColumns_20 (by decide) (fun _ => ?_) (fun h => absurd (by decide) h)
          refine R_iload_n (i := 3) hC dX3_moveColumns_39 rfl rfl (R_iconst (v := 5) hC dX3_moveColumns_40 (by decide) ?_)
          refine R_icmp_ne hC 46 dX3_moveColumns_41 (by decide) (fun h => absurd rfl h) (fun _ => ?_)
          refine R_iconst (v := 0) hC dX3_moveColumns_44 (by decide) ?_
          exact R_zret hC hT dX3_moveColumns_45 rfl (by decide) ⟨τ, rfl, e, Or.inl ⟨rfl, n, hn, ef⟩⟩
        · intro f hf ihf ef u4
          by_cases ha : alk T ρ G f n
          · have ev := ef.trans (fs_y hf (v := f) (by unfold faH; rw [cnd_t ha]))
            refine R_iload_n (i := 3) hC dX3_moveColumns_18 rfl rfl (R_iconst (v := 5) hC dX3_moveColumns_19 (by decide) ?_)
            refine R_icmp_ge hC 39 dX3_moveColumns_20 (by decide) (fun h => absurd h (nI_ge (b := 5) hf (by decide))) (fun _ => ?_)
            refine R_aload_n (i := 0) hC dX3_moveColumns_23 rfl rfl (R_aload_n (i := 1) hC dX3_moveColumns_24 rfl rfl (R_iload_n (i := 3) hC dX3_moveColumns_25 rfl rfl (R_iload_n (i := 2) hC dX3_moveColumns_26 rfl rfl ?_)))
            refine R_V3i hC hR dX3_moveColumns_27 MV_X3_isAlike ml_X3_81 L_pattern rfl (c_isAlike hct hcs hco t1 t2 hf hn) (by first | decide | omega) ⟨by decide, by decide⟩ (Nat.le_of_ble_eq_true rfl) ?_
            refine R_top (y := 1) (b2i_t ha) ?_
            refine R_if_ne hC 39 dX3_moveColumns_30 (by decide) (fun _ => ?_) (fun h => absurd h (by decide))
            refine R_iload_n (i := 3) hC dX3_moveColumns_39 rfl rfl (R_iconst (v := 5) hC dX3_moveColumns_40 (by decide) ?_)
            refine R_icmp_ne hC 46 dX3_moveColumns_41 (by decide) (fun _ => ?_) (fun h => absurd h (fun z => by have := (nI_eq (b := 5) (by omega) (by decide)).mp z; omega))
            refine R_iconst (v := 0) hC dX3_moveColumns_46 (by decide) (R_istore hC dX3_moveColumns_47 (by decide) rfl ?_)
            exact cp f hf ev 0 (by decide) τ e (hm.cg (fun r c hr hc => by
              show (if c < n ∨ (c = n ∧ r < 0) then T.2.2 (ρ r) (if c = n then f else γ c) else 0) = if c < n then T.2.2 (ρ r) (γ c) else 0
              by_cases q : c < n
              · rw [if_pos q, if_pos (Or.inl q), if_neg (by omega)]
              · rw [if_neg q, if_neg (by omega)]))
          · refine R_iload_n (i := 3) hC dX3_moveColumns_18 rfl rfl (R_iconst (v := 5) hC dX3_moveColumns_19 (by decide) ?_)
            refine R_icmp_ge hC 39 dX3_moveColumns_20 (by decide) (fun h => absurd h (nI_ge (b := 5) hf (by decide))) (fun _ => ?_)
            refine R_aload_n (i := 0) hC dX3_moveColumns_23 rfl rfl (R_aload_n (i := 1) hC dX3_moveColumns_24 rfl rfl (R_iload_n (i := 3) hC dX3_moveColumns_25 rfl rfl (R_iload_n (i := 2) hC dX3_moveColumns_26 rfl rfl ?_)))
            refine R_V3i hC hR dX3_moveColumns_27 MV_X3_isAlike ml_X3_81 L_pattern rfl (c_isAlike hct hcs hco t1 t2 hf hn) (by first | decide | omega) ⟨by decide, by decide⟩ (Nat.le_of_ble_eq_true rfl) ?_
            refine R_top (y := 0) (b2i_f ha) ?_
            refine R_if_ne hC 39 dX3_moveColumns_30 (by decide) (fun h => absurd rfl h) (fun _ => ?_)
            refine R_iinc hC dX3_moveColumns_33 rfl (inc1 _) (by decide) rfl (R_goto hC 18 dX3_moveColumns_36 (by decide) ?_)
            exact ihf (by rw [ef, fs_n hf (by unfold faH; rw [cnd_f ha])]) _
      refine R_iload_n (i := 2) hC dX3_moveColumns_11 rfl rfl (R_iconst (v := 5) hC dX3_moveColumns_12 (by decide) ?_)
      refine R_icmp_ge hC 89 dX3_moveColumns_13 (by decide) (fun h => absurd h (nI_ge (b := 5) hn (by decide))) (fun _ => ?_)
      refine R_iconst (v := 0) hC dX3_moveColumns_16 (by decide) (R_istore_n (i := 3) hC dX3_moveColumns_17 rfl (by decide) rfl ?_)
      exact find 0 (by decide) rfl _
  refine R_aload_n (i := 0) hC dX3_moveColumns_0 rfl rfl (R_gR hC dX3_moveColumns_1 fl_X3_18 L_pattern rfl (R_iconst (v := 5) hC dX3_moveColumns_4 (by decide) (R_iconst (v := 5) hC dX3_moveColumns_5 (by decide) ?_)))
  refine R_V2g hC hR dX3_moveColumns_6 MV_X7_clear ml_X3_51 L_moved rfl (c_clear TL_moved 5 5 (by decide) (by decide)) (by first | decide | omega) ⟨by decide, by decide⟩ (Nat.le_of_ble_eq_true rfl) (fun r w1 hq => ?_)
  obtain ⟨rfl, τ, rfl, c, hs2⟩ := hq
  refine R_iconst (v := 0) hC dX3_moveColumns_9 (by decide) (R_istore_n (i := 2) hC dX3_moveColumns_10 rfl (by decide) rfl ?_)
  exact outer 0 (by decide) τ id c (fun c hc => absurd hc (Nat.not_lt_zero _)) (hs2.cg (fun r c _ _ => if_neg (Nat.not_lt_zero _))) _ _
/-- no two columns of a special one have their noughts alike -/
theorem sp_dis0 : ∀ k, k < 3 → 1 ≤ k → ∀ c, c < 5 → ∀ d, d < 5 → (c == d || (List.range 5).any (fun r => decide (spG k r c = 0) != decide (spG k r d = 0))) = true := by decide +kernel
theorem sp_dis (k : Nat) (hk : k < 3) (hk1 : 1 ≤ k) (c : Nat) (hc : c < 5) (d : Nat) (hd : d < 5) : c = d ∨ ∃ r, r < 5 ∧ ¬ ((spG k r c = 0) ↔ (spG k r d = 0)) := by
  have q := sp_dis0 k hk hk1 c hc d hd
  rw [Bool.or_eq_true] at q
  rcases q with q | q
  · exact Or.inl (by simpa using q)
  · obtain ⟨r, r1, r2⟩ := List.any_eq_true.mp q
    refine Or.inr ⟨r, List.mem_range.mp r1, fun z => ?_⟩
    have e : decide (spG k r c = 0) = decide (spG k r d = 0) := decide_eq_decide.mpr z
    rw [e] at r2
    simp at r2
theorem pmz {a b v : Int32} (ha : pm a) (hb : pm b) (h : a * b * v = 0) : v = 0 := by
  have e : a * b * (a * b) = 1 := by rcases ha with rfl | rfl <;> rcases hb with rfl | rfl <;> decide
  have q : a * b * (a * b * v) = v := by rw [← Int32.mul_assoc, e, Int32.one_mul]
  rw [h, Int32.mul_zero] at q
  exact q.symm
theorem scl_cg {T U : tb} {G : Nat → Nat → Int32} (h1 : T.1 = U.1) (h2 : T.2.1 = U.2.1) (h : ∀ r c, r < T.1 → c < T.2.1 → T.2.2 r c = U.2.2 r c) (q : scl T G) : scl U G := by
  obtain ⟨φ, p1, p2⟩ := q
  exact ⟨φ, p1, fun r c hr hc => by rw [p2 r c (by omega) (by omega), h r c (by omega) (by omega)]⟩
/-- what fits finds at an order -/
def hit (T : tb) (G : Nat → Nat → Int32) (N : Nat) : Prop := ∃ γ : Nat → Nat, (∀ c, c < 5 → fs (faH T (od N) G c) 0 5 = some (γ c)) ∧ scl (prm T (od N) γ) G
theorem fr_in {T : tb} {ρ : Nat → Nat} {G : Nat → Nat → Int32} {c f : Nat} (h : fs (faH T ρ G c) 0 5 = some f) : f < 5 ∧ alk T ρ G f c := by
  obtain ⟨i, _, i2, i3⟩ := fs_in _ _ h
  unfold faH at i3
  by_cases q : alk T ρ G i c
  · rw [cnd_t q] at i3; cases i3; exact ⟨by omega, q⟩
  · rw [cnd_f q] at i3; cases i3
theorem spc_iff {T : tb} {k : Nat} (hk : k < 3) (hk1 : 1 ≤ k) : spc T (spG k) ↔ ∃ N, N < 120 ∧ hit T (spG k) N := by
  have dis : ∀ ρ f c d, c < 5 → d < 5 → alk T ρ (spG k) f c → alk T ρ (spG k) f d → c = d := fun ρ f c d hc hd h1 h2 => by
    rcases sp_dis k hk hk1 c hc d hd with z | ⟨r, r5, z⟩
    · exact z
    · exact absurd ((h1 r r5).symm.trans (h2 r r5)) z
  constructor
  · rintro ⟨ρ, γ, b, inj, hs⟩
    have iρ : inj5 ρ := ⟨fun r hr => (b r hr).1, fun i j h1 h2 => (inj i j h1 h2).1⟩
    have iγ : inj5 γ := ⟨fun r hr => (b r hr).2, fun i j h1 h2 => (inj i j h1 h2).2⟩
    obtain ⟨N, hN, eN⟩ := iρ.num
    have al : ∀ c, c < 5 → alk T (od N) (spG k) (γ c) c := fun c hc r hr => by
      obtain ⟨φ, p1, p2⟩ := hs
      have e := p2 r c hr hc
      have e : spG k r c = φ r * φ (6 + c) * T.2.2 (ρ r) (γ c) := e
      rw [eN r hr]
      constructor
      · intro z; rw [e, z, Int32.mul_zero]
      · intro z
        rw [e] at z
        exact pmz (p1 r) (p1 (6 + c)) z
    have fe : ∀ c, c < 5 → fs (faH T (od N) (spG k) c) 0 5 = some (γ c) := fun c hc => by
      cases q : fs (faH T (od N) (spG k) c) 0 5 with
      | none =>
        have := fs_none _ _ q (γ c) (Nat.zero_le _) (by have := (b c hc).2; omega)
        unfold faH at this
        rw [cnd_t (al c hc)] at this
        cases this
      | some f =>
        obtain ⟨f5, fa⟩ := fr_in q
        obtain ⟨d, d5, ed⟩ := iγ.sur f5
        have := dis (od N) f c d hc d5 fa (by rw [← ed]; exact al d d5)
        rw [← ed, this]
    exact ⟨N, hN, γ, fe, scl_cg (T := prm T ρ γ) rfl rfl (fun r c hr hc => by
      have hr : r < 5 := hr
      show T.2.2 (ρ r) (γ c) = T.2.2 (od N r) (γ c)
      rw [eN r hr]) hs⟩
  · rintro ⟨N, hN, γ, fe, hs⟩
    refine ⟨od N, γ, fun r hr => ⟨(od_ok N hN r hr).1, (fr_in (fe r hr)).1⟩, fun i j h1 h2 => ⟨(od_inj hN).2 i j h1 h2, fun z => ?_⟩, hs⟩
    have a1 := (fr_in (fe i (by omega))).2
    have a2 := (fr_in (fe j h2)).2
    rw [z] at a1
    have := dis _ _ i j (by omega) h2 a1 a2
    omega
/-- how many are not 0, row by row -/
def nz1 (v : Int32) : Int32 := if v = 0 then 0 else 1
theorem cnt5 {T : tb} (t1 : T.1 = 5) (t2 : T.2.1 = 5) : nI (cntT T 36) = sm (fun r => sm (fun c => nz1 (T.2.2 r c)) 5) 5 := by
  have row : ∀ n, n < 5 → ∀ m, m ≤ 5 → nI (cntT T (6 * n + m)) = nI (cntT T (6 * n)) + sm (fun c => nz1 (T.2.2 n c)) m := by
    intro n hn m
    induction m with
    | zero => intro _; rw [Nat.add_zero, sm, Int32.add_zero]
    | succ m ih =>
      intro hm
      rw [← Nat.add_assoc, cntT, show (6 * n + m) / 6 = n by omega, show (6 * n + m) % 6 = m by omega, sm, ← Int32.add_assoc, ← ih (by omega)]
      unfold nz1
      by_cases z : T.2.2 n m = 0
      · rw [if_neg (fun y => y.2.2 z), if_pos z, Nat.add_zero, Int32.add_zero]
      · rw [if_pos ⟨by omega, by omega, z⟩, if_neg z, nI_1]
  have rows : ∀ n, n ≤ 5 → nI (cntT T (6 * n)) = sm (fun r => sm (fun c => nz1 (T.2.2 r c)) 5) n := by
    intro n
    induction n with
    | zero => intro _; rfl
    | succ n ih =>
      intro hn
      rw [sm, ← ih (by omega), ← row n (by omega) 5 (Nat.le_refl _)]
      have := cnt_end T n 1 (by omega)
      rw [t2] at this
      rw [← this, show 6 * n + 5 + 1 = 6 * (n + 1) by omega]
  have := cnt_rows T 6
  rw [t1] at this
  rw [show 36 = 6 * 5 + 6 from rfl, this]
  exact rows 5 (Nat.le_refl _)
theorem sm_perm {ρ : Nat → Nat} (h : inj5 ρ) (f : Nat → Int32) : sm (fun i => f (ρ i)) 5 = sm f 5 := by
  have e1 : ∀ i, i < 5 → f (ρ i) = sm (fun v => if ρ i = v then f v else 0) 5 := fun i hi => by
    rw [sm_split (fun v => if ρ i = v then f v else 0) (c := ρ i) 5 (h.1 i hi), if_pos rfl, sm_ext (h := fun _ => 0) 5 (fun v hv => by
      by_cases z : v = ρ i
      · rw [if_pos z]
      · rw [if_neg z, if_neg (Ne.symm z)]), sm_z, Int32.add_zero]
  rw [sm_ext 5 e1, sm_swap (fun i v => if ρ i = v then f v else 0) 5 5]
  refine sm_ext 5 (fun v hv => ?_)
  obtain ⟨i0, h0, e0⟩ := h.sur hv
  rw [sm_split (fun i => if ρ i = v then f v else 0) (c := i0) 5 h0, if_pos e0, sm_ext (h := fun _ => 0) 5 (fun i hi => by
    by_cases z : i = i0
    · rw [if_pos z]
    · rw [if_neg z, if_neg (fun y => by
        rcases Nat.lt_or_ge i i0 with w | w
        · exact h.2 i i0 w h0 (by rw [y, e0])
        · exact h.2 i0 i (by omega) hi (by rw [y, e0]))]), sm_z, Int32.add_zero]
theorem spc_cnt {T : tb} {G : Nat → Nat → Int32} (t1 : T.1 = 5) (t2 : T.2.1 = 5) (h : spc T G) : nI (cntT T 36) = nI (cntT (5, 5, G) 36) := by
  obtain ⟨ρ, γ, b, inj, φ, p1, p2⟩ := h
  have iρ : inj5 ρ := ⟨fun r hr => (b r hr).1, fun i j h1 h2 => (inj i j h1 h2).1⟩
  have iγ : inj5 γ := ⟨fun r hr => (b r hr).2, fun i j h1 h2 => (inj i j h1 h2).2⟩
  rw [cnt5 t1 t2, cnt5 (T := (5, 5, G)) rfl rfl, ← sm_perm iρ (fun r => sm (fun c => nz1 (T.2.2 r c)) 5)]
  refine sm_ext 5 (fun r hr => ?_)
  rw [← sm_perm iγ (fun c => nz1 (T.2.2 (ρ r) c))]
  refine sm_ext 5 (fun c hc => ?_)
  have e : G r c = φ r * φ (6 + c) * T.2.2 (ρ r) (γ c) := p2 r c hr hc
  show nz1 (T.2.2 (ρ r) (γ c)) = nz1 (G r c)
  unfold nz1
  by_cases z : T.2.2 (ρ r) (γ c) = 0
  · rw [if_pos z, if_pos (by rw [e, z, Int32.mul_zero])]
  · rw [if_neg z, if_neg (fun y => z (by
      rw [e] at y
      exact pmz (p1 r) (p1 (6 + c)) y))]
theorem c_fits {σ : sg} {x : aW} {T : tb} (h : CT σ i_table T) (k : Nat) (hk : k < 3) (hk1 : 1 ≤ k) : Mt mX3_fits 5 0 0 [.ref i_pattern, .ref i_table, .ref (2 + k)] (wd σ x) (fun r w => r = some (.int (b2i (T.1 = 5 ∧ T.2.1 = 5 ∧ spc T (spG k)))) ∧ ∃ τ, w = wd τ x ∧ AE [137, 138, 139, 140, 141] σ τ) := by
  refine Mt.of MI_X3_fits (Nat.le_of_ble_eq_true rfl) (fun X hC hR hT => ?_)
  obtain ⟨k1, k2, k3, k4, k5⟩ := id h
  have ct : ∀ τ, AE [137, 138, 139, 140, 141] σ τ → CT τ i_table T := fun τ e => h.ae e (by decide) (by decide)
  by_cases t1 : T.1 = 5
  · by_cases t2 : T.2.1 = 5
    · have loop : ∀ N, N ≤ 120 → (∀ M, M < N → ¬ hit T (spG k) M) → ∀ τ, AE [137, 138, 139, 140, 141] σ τ → CT τ i_special (5, 5, spG k) → Rw mX3_fits X 41 [some (.ref i_pattern), some (.ref i_table), some (.ref (2 + k)), some (.int (nI N))] [] (wd τ x) 0 0 := by
        refine up_loop 120 ?_ ?_
        · intro hn τ e hs
          refine R_iload_n (i := 3) hC dX3_fits_41 rfl rfl (R_bipush (v := 120) hC dX3_fits_42 (by decide) ?_)
          refine R_icmp_ge hC 82 dX3_fits_44 (by decide) (fun _ => ?_) (fun h => absurd (by decide) h)
          refine R_iconst (v := 0) hC dX3_fits_82 (by decide) ?_
          exact R_zret hC hT dX3_fits_83 rfl (by decide) ⟨by rw [b2i_f (fun z => by obtain ⟨M, m1, m2⟩ := (spc_iff hk hk1).mp z.2.2; exact hn M m1 m2)], τ, rfl, e⟩
        · intro N hN ih hn τ e hs
          have skip : ¬ hit T (spG k) N → ∀ τ, AE [137, 138, 139, 140, 141] σ τ → CT τ i_special (5, 5, spG k) → Rw mX3_fits X 76 [some (.ref i_pattern), some (.ref i_table), some (.ref (2 + k)), some (.int (nI N))] [] (wd τ x) 0 0 := by
            intro z τ e hs
            refine R_iinc hC dX3_fits_76 rfl (inc1 _) (by decide) rfl (R_goto hC 41 dX3_fits_79 (by decide) ?_)
            exact ih (fun M hM => by rcases (by omega : M < N ∨ M = N) with y | rfl; exact hn M y; exact z) τ e hs
          refine R_iload_n (i := 3) hC dX3_fits_41 rfl rfl (R_bipush (v := 120) hC dX3_fits_42 (by decide) ?_)
          refine R_icmp_ge hC 82 dX3_fits_44 (by decide) (fun h => absurd h (nI_ge (b := 120) hN (by decide))) (fun _ => ?_)
          refine R_aload_n (i := 0) hC dX3_fits_47 rfl rfl (R_iload_n (i := 3) hC dX3_fits_48 rfl rfl ?_)
          refine R_V1g hC hR dX3_fits_49 MV_X3_setOrder ml_X3_40 L_pattern rfl (c_setOrder N hN) (by first | decide | omega) ⟨by decide, by decide⟩ (Nat.le_of_ble_eq_true rfl) (fun r w1 hq => ?_)
          obtain ⟨rfl, υ, rfl, e2, ho⟩ := hq
          have e3 : AE [137, 138, 139, 140, 141] σ υ := e.tr (e2.w (by decide))
          refine R_aload_n (i := 0) hC dX3_fits_52 rfl rfl (R_aload_n (i := 1) hC dX3_fits_53 rfl rfl ?_)
          refine R_V1g hC hR dX3_fits_54 MV_X3_moveColumns ml_X3_44 L_pattern rfl (c_moveCols (ct υ e3) (hs.ae e2 (by decide) (by decide)) (ρ := od N) (fun p hp => ⟨ho p hp, (od_ok N hN p hp).1⟩) t1 t2) (by first | decide | omega) ⟨by decide, by decide⟩ (Nat.le_of_ble_eq_true rfl) (fun r w1 hq => ?_)
          obtain ⟨ω, rfl, e4, hm⟩ := hq
          have e5 : AE [137, 138, 139, 140, 141] σ ω := e3.tr (e4.w (by decide))
          have hs5 : CT ω i_special (5, 5, spG k) := (hs.ae e2 (by decide) (by decide)).ae e4 (by decide) (by decide)
          skip
          rcases hm with ⟨rfl, c, c5, cn⟩ | ⟨rfl, γ, hγ, hmv⟩
          · refine R_if_eq hC 76 dX3_fits_57 (by decide) (fun _ => ?_) (fun h => absurd rfl h)
            exact skip (fun z => by obtain ⟨γ, g1, _⟩ := z; rw [g1 c c5] at cn; cases cn) ω e5 hs5
          · refine R_if_eq hC 76 dX3_fits_57 (by decide) (fun h => absurd h (by decide)) (fun _ => ?_)
            refine R_aload_n (i := 0) hC dX3_fits_60 rfl rfl (R_gR hC dX3_fits_61 fl_X3_18 L_pattern rfl (R_aload_n (i := 0) hC dX3_fits_64 rfl rfl (R_gR hC dX3_fits_65 fl_X3_12 L_pattern rfl ?_)))
            refine R_V1i hC hR dX3_fits_68 MV_X7_scalesTo ml_X3_48 L_moved rfl (c_scalesTo TL_moved TL_special hmv hs5 ⟨show 1 ≤ 5 by decide, show 1 ≤ 5 by decide⟩) (by first | decide | omega) ⟨by decide, by decide⟩ (Nat.le_of_ble_eq_true rfl) ?_
            refine R_if_eq hC 76 dX3_fits_71 (by decide) (fun h71 => ?_) (fun h71 => ?_)
            · exact skip (fun z => by
                obtain ⟨γ', g1, g2⟩ := z
                refine b2i_0 h71 ⟨rfl, rfl, scl_cg (T := prm T (od N) γ') rfl rfl (fun r c hr hc => ?_) g2⟩
                show T.2.2 (od N r) (γ' c) = T.2.2 (od N r) (γ c)
                rw [show γ' c = γ c from by have := (g1 c hc).symm.trans (hγ c hc); simpa using this]) ω e5 hs5
            · refine R_iconst (v := 1) hC dX3_fits_74 (by decide) ?_
              exact R_zret hC hT dX3_fits_75 rfl (by decide) ⟨by rw [b2i_t ⟨t1, t2, (spc_iff hk hk1).mpr ⟨N, hN, γ, hγ, (b2i_ne h71).2.2⟩⟩], ω, rfl, e5⟩
      refine R_aload_n (i := 1) hC dX3_fits_0 rfl rfl (R_gI hC dX3_fits_1 fl_X3_25 L_table rfl ?_)
      refine R_top (y := nI 5) (by rw [k1, t1]) ?_
      refine R_iconst (v := 5) hC dX3_fits_4 (by decide) ?_
      refine R_icmp_ne hC 16 dX3_fits_5 (by decide) (fun h => absurd rfl h) (fun _ => ?_)
      refine R_aload_n (i := 1) hC dX3_fits_8 rfl rfl (R_gI hC dX3_fits_9 fl_X3_29 L_table rfl ?_)
      refine R_top (y := nI 5) (by rw [k2, t2]) ?_
      refine R_iconst (v := 5) hC dX3_fits_12 (by decide) ?_
      refine R_icmp_eq hC 18 dX3_fits_13 (by decide) (fun _ => ?_) (fun h => absurd rfl h)
      refine R_aload_n (i := 0) hC dX3_fits_18 rfl rfl (R_aload_n (i := 2) hC dX3_fits_19 rfl rfl ?_)
      refine R_V1g hC hR dX3_fits_20 MV_X3_write ml_X3_32 L_pattern rfl (c_write k hk hk1) (by first | decide | omega) ⟨by decide, by decide⟩ (Nat.le_of_ble_eq_true rfl) (fun r w1 hq => ?_)
      obtain ⟨rfl, τ, rfl, e, hs⟩ := hq
      have e2 : AE [137, 138, 139, 140, 141] σ τ := e.w (by decide)
      refine R_aload_n (i := 1) hC dX3_fits_23 rfl rfl ?_
      refine R_V0i hC hR dX3_fits_24 MV_X7_notNought ml_X3_36 L_table rfl (c_notNought TL_table (ct τ e2)) (by first | decide | omega) ⟨by decide, by decide⟩ (Nat.le_of_ble_eq_true rfl) ?_
      refine R_aload_n (i := 0) hC dX3_fits_27 rfl rfl (R_gR hC dX3_fits_28 fl_X3_12 L_pattern rfl ?_)
      refine R_V0i hC hR dX3_fits_31 MV_X7_notNought ml_X3_36 L_special rfl (c_notNought TL_special hs) (by first | decide | omega) ⟨by decide, by decide⟩ (Nat.le_of_ble_eq_true rfl) ?_
      refine R_icmp_eq hC 39 dX3_fits_34 (by decide) (fun h34 => ?_) (fun h34 => ?_)
      · refine R_iconst (v := 0) hC dX3_fits_39 (by decide) (R_istore_n (i := 3) hC dX3_fits_40 rfl (by decide) rfl ?_)
        exact loop 0 (by decide) (fun M hM => absurd hM (Nat.not_lt_zero _)) τ e2 hs
      · refine R_iconst (v := 0) hC dX3_fits_37 (by decide) ?_
        exact R_zret hC hT dX3_fits_38 rfl (by decide) ⟨by rw [b2i_f (fun z => h34 (spc_cnt t1 t2 z.2.2))], τ, rfl, e2⟩
    · refine R_aload_n (i := 1) hC dX3_fits_0 rfl rfl (R_gI hC dX3_fits_1 fl_X3_25 L_table rfl ?_)
      refine R_top (y := nI 5) (by rw [k1, t1]) ?_
      refine R_iconst (v := 5) hC dX3_fits_4 (by decide) ?_
      refine R_icmp_ne hC 16 dX3_fits_5 (by decide) (fun h => absurd rfl h) (fun _ => ?_)
      refine R_aload_n (i := 1) hC dX3_fits_8 rfl rfl (R_gI hC dX3_fits_9 fl_X3_29 L_table rfl ?_)
      refine R_top (y := nI T.2.1) (k2) ?_
      refine R_iconst (v := 5) hC dX3_fits_12 (by decide) ?_
      refine R_icmp_eq hC 18 dX3_fits_13 (by decide) (fun h => absurd h (fun z => t2 ((nI_eq (b := 5) (by omega) (by decide)).mp z))) (fun _ => ?_)
      refine R_iconst (v := 0) hC dX3_fits_16 (by decide) ?_
      exact R_zret hC hT dX3_fits_17 rfl (by decide) ⟨by rw [b2i_f (fun z => t2 z.2.1)], σ, rfl, AE.rf _ _⟩
  · refine R_aload_n (i := 1) hC dX3_fits_0 rfl rfl (R_gI hC dX3_fits_1 fl_X3_25 L_table rfl ?_)
    refine R_top (y := nI T.1) (k1) ?_
    refine R_iconst (v := 5) hC dX3_fits_4 (by decide) ?_
    refine R_icmp_ne hC 16 dX3_fits_5 (by decide) (fun _ => ?_) (fun h => absurd h (fun z => t1 ((nI_eq (b := 5) (by omega) (by decide)).mp z)))
    refine R_iconst (v := 0) hC dX3_fits_16 (by decide) ?_
    exact R_zret hC hT dX3_fits_17 rfl (by decide) ⟨by rw [b2i_f (fun z => t1 z.1)], σ, rfl, AE.rf _ _⟩
theorem co_special {σ : sg} {x : aW} {α : aS} (h : CInv σ α) (ok : aOK α) : Mt mX10_special 6 0 0 [.ref i_U] (wd σ x) (CPost σ x (opSpecial α) α) := by
  refine Mt.of MI_X10_special (Nat.le_of_ble_eq_true rfl) (fun X hC hR hT => ?_)
  by_cases h0 : (tT α).1 = 0
  · have e : opSpecial α = -1 := by unfold opSpecial; rw [if_pos h0]
    refine R_aload_n (i := 0) hC dX10_special_0 rfl rfl (R_gR hC dX10_special_1 fl_X10_19 L_U rfl ?_)
    refine R_V0i hC hR dX10_special_4 MV_X7_isNone ml_X10_152 L_table rfl (c_isNone TL_table h.2.1) (by first | decide | omega) ⟨by decide, by decide⟩ (Nat.le_of_ble_eq_true rfl) ?_
    refine R_top (y := 1) (b2i_t h0) ?_
    refine R_if_eq hC 12 dX10_special_7 (by decide) (fun h => absurd h (by decide)) (fun _ => ?_)
    refine R_iconst (v := (-1)) hC dX10_special_10 (by decide) ?_
    exact R_iret hC hT dX10_special_11 rfl (by rw [e]; exact CPost.i h (MEq.rf _))
  · refine R_aload_n (i := 0) hC dX10_special_0 rfl rfl (R_gR hC dX10_special_1 fl_X10_19 L_U rfl ?_)
    refine R_V0i hC hR dX10_special_4 MV_X7_isNone ml_X10_152 L_table rfl (c_isNone TL_table h.2.1) (by first | decide | omega) ⟨by decide, by decide⟩ (Nat.le_of_ble_eq_true rfl) ?_
    refine R_top (y := 0) (b2i_f h0) ?_
    refine R_if_eq hC 12 dX10_special_7 (by decide) (fun _ => ?_) (fun h => absurd rfl h)
    refine R_aload_n (i := 0) hC dX10_special_12 rfl rfl (R_gR hC dX10_special_13 fl_X10_87 L_U rfl (R_aload_n (i := 0) hC dX10_special_16 rfl rfl (R_gR hC dX10_special_17 fl_X10_19 L_U rfl (R_ldS hC 1 (by decide) rfl dX10_special_20 ?_))))
    refine R_V2g hC hR dX10_special_22 MV_X3_fits ml_X10_242 L_pattern rfl (c_fits h.2.1 1 (by decide) (by decide)) (by first | decide | omega) ⟨by decide, by decide⟩ (Nat.le_of_ble_eq_true rfl) (fun r w1 hq => ?_)
    obtain ⟨rfl, τ, rfl, c⟩ := hq
    have hτ : CInv τ α := CInv.ae ok h c (by intro i q; unfold scq; simp at q; omega)
    refine R_if_eq hC 30 dX10_special_25 (by decide) (fun h25 => ?_) (fun h25 => ?_)
    · refine R_aload_n (i := 0) hC dX10_special_30 rfl rfl (R_gR hC dX10_special_31 fl_X10_87 L_U rfl (R_aload_n (i := 0) hC dX10_special_34 rfl rfl (R_gR hC dX10_special_35 fl_X10_19 L_U rfl (R_ldS hC 2 (by decide) rfl dX10_special_38 ?_))))
      refine R_V2g hC hR dX10_special_40 MV_X3_fits ml_X10_242 L_pattern rfl (c_fits hτ.2.1 2 (by decide) (by decide)) (by first | decide | omega) ⟨by decide, by decide⟩ (Nat.le_of_ble_eq_true rfl) (fun r w1 hq => ?_)
      obtain ⟨rfl, υ, rfl, c2⟩ := hq
      have hυ : CInv υ α := CInv.ae ok hτ c2 (by intro i q; unfold scq; simp at q; omega)
      have n1 := b2i_0 h25
      refine R_if_eq hC 50 dX10_special_43 (by decide) (fun h43 => ?_) (fun h43 => ?_)
      · refine R_iconst (v := 0) hC dX10_special_50 (by decide) ?_
        exact R_iret hC hT dX10_special_51 rfl (by
        first
        | (have z := b2i_ne h43
           have e : opSpecial α = 2 := by unfold opSpecial; rw [if_neg h0, if_neg (fun y => y ⟨z.1, z.2.1⟩), if_neg (fun y => n1 ⟨z.1, z.2.1, y⟩), if_pos z.2.2]
           rw [e]; exact CPost.i hυ ((c.meq (by decide)).tr (c2.meq (by decide))))
        | (have z := b2i_0 h43
           have e : opSpecial α = 0 := by
             unfold opSpecial
             rw [if_neg h0]
             by_cases q : (tT α).1 = 5 ∧ (tT α).2.1 = 5
             · rw [if_neg (fun y => y q), if_neg (fun y => n1 ⟨q.1, q.2, y⟩), if_neg (fun y => z ⟨q.1, q.2, y⟩)]
             · rw [if_pos q]
           rw [e]; exact CPost.i hυ ((c.meq (by decide)).tr (c2.meq (by decide)))))
      · refine R_iconst (v := 2) hC dX10_special_46 (by decide) (R_goto hC 51 dX10_special_47 (by decide) ?_)
        exact R_iret hC hT dX10_special_51 rfl (by
        first
        | (have z := b2i_ne h43
           have e : opSpecial α = 2 := by unfold opSpecial; rw [if_neg h0, if_neg (fun y => y ⟨z.1, z.2.1⟩), if_neg (fun y => n1 ⟨z.1, z.2.1, y⟩), if_pos z.2.2]
           rw [e]; exact CPost.i hυ ((c.meq (by decide)).tr (c2.meq (by decide))))
        | (have z := b2i_0 h43
           have e : opSpecial α = 0 := by
             unfold opSpecial
             rw [if_neg h0]
             by_cases q : (tT α).1 = 5 ∧ (tT α).2.1 = 5
             · rw [if_neg (fun y => y q), if_neg (fun y => n1 ⟨q.1, q.2, y⟩), if_neg (fun y => z ⟨q.1, q.2, y⟩)]
             · rw [if_pos q]
           rw [e]; exact CPost.i hυ ((c.meq (by decide)).tr (c2.meq (by decide)))))
    · refine R_iconst (v := 1) hC dX10_special_28 (by decide) ?_
      exact R_iret hC hT dX10_special_29 rfl (by
      have z := b2i_ne h25
      have e : opSpecial α = 1 := by unfold opSpecial; rw [if_neg h0, if_neg (fun y => y ⟨z.1, z.2.1⟩), if_pos z.2.2]
      rw [e]; exact CPost.i hτ (c.meq (by decide)))
