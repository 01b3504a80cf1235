/-! ===== the class's signs, all of them ===== -/
theorem fs_1 {A : Type} {h : Nat → Option A} {v : A} : ∀ n a, fs h a n = some v → ∃ i, a ≤ i ∧ i < a + n ∧ h i = some v ∧ ∀ j, a ≤ j → j < i → h j = none
  | 0, a, e => by rw [show (0 : Nat) = a - a by omega, fs_0 (Nat.le_refl _)] at e; cases e
  | n + 1, a, e => by
    cases q : h a with
    | some u =>
      have := fs_y (h := h) (a := a) (b := a + (n + 1)) (by omega) q
      rw [show a + (n + 1) - a = n + 1 by omega, e] at this
      cases this
      exact ⟨a, Nat.le_refl _, by omega, q, fun j h1 h2 => by omega⟩
    | none =>
      have e2 := fs_n (h := h) (a := a) (b := a + (n + 1)) (by omega) q
      rw [show a + (n + 1) - a = n + 1 by omega, show a + (n + 1) - (a + 1) = n by omega, e] at e2
      obtain ⟨i, h1, h2, h3, h4⟩ := fs_1 n (a + 1) e2.symm
      exact ⟨i, by omega, by omega, h3, fun j j1 j2 => by rcases (by omega : j = a ∨ a + 1 ≤ j) with z | z; rw [z]; exact q; exact h4 j z j2⟩
theorem fs_2 {A : Type} {h : Nat → Option A} {v : A} {i : Nat} : ∀ n a, a ≤ i → i < a + n → h i = some v → (∀ j, a ≤ j → j < i → h j = none) → fs h a n = some v
  | 0, a, h1, h2, _, _ => by omega
  | n + 1, a, h1, h2, h3, h4 => by
    rcases (by omega : i = a ∨ a < i) with z | z
    · subst z
      have := fs_y (h := h) (a := i) (b := i + (n + 1)) (by omega) h3
      rwa [show i + (n + 1) - i = n + 1 by omega] at this
    · have e2 := fs_n (h := h) (a := a) (b := a + (n + 1)) (by omega) (h4 a (Nat.le_refl _) z)
      rw [show a + (n + 1) - a = n + 1 by omega, show a + (n + 1) - (a + 1) = n by omega] at e2
      rw [e2]
      exact fs_2 n (a + 1) z (by omega) h3 (fun j j1 j2 => h4 j (by omega) j2)
theorem lstH_y {T : tb} {g a n b : Nat} (h : adj T a b ∧ ds T g b n) : lstH T g a n b = some b := by unfold lstH; rw [if_pos h]
theorem lstH_n {T : tb} {g a n b : Nat} (h : ¬ (adj T a b ∧ ds T g b n)) : lstH T g a n b = none := by unfold lstH; rw [if_neg h]
theorem wk_s {T : tb} {g n a b : Nat} (h : fs (lstH T g a n) 0 12 = some b) : wk T g (n + 1) a = eSg T.2.2 a b + wk T g n b := by rw [wk, h]
theorem lst_col {τ : sg} {U : tb} {g m a : Nat} (h7 : U.2.1 ≤ 6) (hm : MSd τ U g 12 12) (m12 : m ≤ 12) (ha : a < 6) (haU : a < U.1) {p : Nat} (e : fs (ctF τ U a (nI m)) 0 U.2.1 = some p) : fs (lstH U g a m) 0 12 = some (6 + p) := by
  obtain ⟨i, _, i2, i3, i4⟩ := fs_1 _ _ e
  have ip : i = p ∧ τ.2.2 i_columnsFar i = nI m ∧ ¬ U.2.2 a i = 0 := by
    unfold ctF at i3
    by_cases q : τ.2.2 i_columnsFar i = nI m ∧ ¬ U.2.2 a i = 0
    · rw [cnd_t q] at i3; cases i3; exact ⟨rfl, q⟩
    · rw [cnd_f q] at i3; cases i3
  obtain ⟨rfl, p1, p2⟩ := ip
  have il : i < U.2.1 := by omega
  refine fs_2 12 0 (Nat.zero_le _) (by omega) (lstH_y ⟨Or.inl ⟨ha, by omega, by rw [Nat.add_sub_cancel_left]; exact ⟨haU, il, p2⟩⟩, (hm.2 i il).eq (by omega) m12 p1⟩) (fun j _ j2 => lstH_n (fun z => ?_))
  rcases z.1 with ⟨_, z2, z3, z4, z5⟩ | ⟨z2, _⟩
  · have q := i4 (j - 6) (Nat.zero_le _) (by omega)
    unfold ctF at q
    rw [cnd_t ⟨(hm.2 (j - 6) z4).of (by rw [show 6 + (j - 6) = j by omega]; exact z.2) m12, z5⟩] at q
    cases q
  · omega
theorem lst_row {τ : sg} {U : tb} {g m c : Nat} (h6 : U.1 ≤ 6) (hm : MSd τ U g 12 12) (m12 : m ≤ 12) (hc : c < U.2.1) {p : Nat} (e : fs (rtF τ U c (nI m)) 0 U.1 = some p) : fs (lstH U g (6 + c) m) 0 12 = some p := by
  obtain ⟨i, _, i2, i3, i4⟩ := fs_1 _ _ e
  have ip : i = p ∧ τ.2.2 i_rowsFar i = nI m ∧ ¬ U.2.2 i c = 0 := by
    unfold rtF at i3
    by_cases q : τ.2.2 i_rowsFar i = nI m ∧ ¬ U.2.2 i c = 0
    · rw [cnd_t q] at i3; cases i3; exact ⟨rfl, q⟩
    · rw [cnd_f q] at i3; cases i3
  obtain ⟨rfl, p1, p2⟩ := ip
  have il : i < U.1 := by omega
  refine fs_2 12 0 (Nat.zero_le _) (by omega) (lstH_y ⟨Or.inr ⟨by omega, by omega, by rw [Nat.add_sub_cancel_left]; exact ⟨il, hc, p2⟩⟩, (hm.1 i il).eq (by omega) m12 p1⟩) (fun j _ j2 => lstH_n (fun z => ?_))
  rcases z.1 with ⟨z2, _⟩ | ⟨_, _, z3, z4, z5⟩
  · omega
  · rw [Nat.add_sub_cancel_left] at z4 z5
    have q := i4 j (Nat.zero_le _) j2
    unfold rtF at q
    rw [cnd_t ⟨(hm.1 j z3).of z.2 m12, z5⟩] at q
    cases q
theorem c_sumWay {σ : sg} {x : aW} {U : tb} {g : Nat} (h : CT σ i_signs U) (hg : 6 ≤ g) (hm : MSd σ U g 12 12) {r k : Nat} (hr : r < U.1) (hk : ds U g r k) (k12 : k ≤ 12) : Mt mX6_sumOfWay 2 0 0 [.ref i_signing, .int (nI r)] (wd σ x) (QI (wk U g k r) (wd σ x)) := by
  refine Mt.of MI_X6_sumOfWay (Nat.le_of_ble_eq_true rfl) (fun X hC hR hT => ?_)
  obtain ⟨q1, q2, q3, q4, q5⟩ := id h
  have odd : k % 2 = 1 := by
    obtain ⟨m, m1, m2, m3, m4⟩ := rch_par2 hg _ _ hk.1
    have := m3 (by omega)
    rcases Nat.lt_or_ge m k with z | z
    · exact absurd m2 (hk.2 m z)
    · have : m = k := by omega
      subst this; omega
  have loop : ∀ i a s, ds U g a (2 * i + 1) → a < U.1 → 2 * i + 1 ≤ 12 → wk U g k r = s + wk U g (2 * i + 1) a → ∀ u5, Rw mX6_sumOfWay X 12 [some (.ref i_signing), some (.int (nI r)), some (.int (nI a)), some (.int s), some (.int (nI (2 * i + 1))), u5] [] (wd σ x) 0 0 := by
    intro i
    induction i with
    | zero =>
      intro a s hd ha h12 e u5
      obtain ⟨b, b12, w1, w2⟩ := ds_pred (n := 0) hd
      have hb : b = g := w2.1
      -- the column at distance 0
      have hcol : ∃ p, fs (ctF σ U a (nI 0)) 0 U.2.1 = some p := by
        rcases w1 with ⟨_, y1, y2, y3, y4⟩ | ⟨y1, _⟩
        · cases q : fs (ctF σ U a (nI 0)) 0 U.2.1 with
          | some p => exact ⟨p, rfl⟩
          | none =>
            have := fs_none _ _ q (b - 6) (Nat.zero_le _) (by omega)
            unfold ctF at this
            rw [cnd_t ⟨(hm.2 (b - 6) y3).of (by rw [show 6 + (b - 6) = b by omega]; exact w2) (by omega), y4⟩] at this
            cases this
        · omega
      obtain ⟨p, hp⟩ := hcol
      have hpl := (ct_in hp).1
      have lc := lst_col q4 hm (by omega) (by omega) ha hp
      have ew : wk U g (2 * 0 + 1) a = U.2.2 a p := by
        rw [show 2 * 0 + 1 = 0 + 1 from rfl, wk_s lc]
        show eSg U.2.2 a (6 + p) + 0 = _
        unfold eSg
        rw [if_pos (by omega), Nat.add_sub_cancel_left, Int32.add_zero]
      have rn : fs (rtF σ U p (-1)) 0 U.1 = none := by
        cases q : fs (rtF σ U p (-1)) 0 U.1 with
        | none => rfl
        | some z =>
          obtain ⟨z1, z2, z3⟩ := rt_in q
          rcases hm.1 z z1 with ⟨j, j1, j2, _⟩ | ⟨j1, _⟩
          · rw [j2] at z2; exact absurd z2 (nI_n1 (by omega))
          · rw [j1] at z2; exact absurd z2 (by decide)
      have az : atZ U (-1) (nI p) = 0 := atZ_n (fun z => by have := z.1.1; rw [show (-1 : Int32).toInt = -1 by decide] at this; omega)
      refine R_iload hC dX6_sumOfWay_12 rfl ?_
      refine R_if_le hC 76 dX6_sumOfWay_14 (by decide) (fun h => absurd h (by decide)) (fun _ => ?_)
      refine R_iload_n (i := 2) hC dX6_sumOfWay_17 rfl rfl (R_iconst (v := (-1)) hC dX6_sumOfWay_18 (by decide) ?_)
      refine R_icmp_eq hC 76 dX6_sumOfWay_19 (by decide) (fun h => absurd h (nI_n1 (by omega))) (fun _ => ?_)
      refine R_aload_n (i := 0) hC dX6_sumOfWay_22 rfl rfl (R_iload_n (i := 2) hC dX6_sumOfWay_23 rfl rfl (R_iload hC dX6_sumOfWay_24 rfl (R_iconst (v := 1) hC dX6_sumOfWay_26 (by decide) (R_isub hC dX6_sumOfWay_27 ?_))))
      refine R_top (y := nI 0) (by decide) ?_
      refine R_V2i hC hR dX6_sumOfWay_28 MV_X6_columnToldAt ml_X6_82 L_signing rfl (c_colTold h ha (nI 0)) (by first | decide | omega) ⟨by decide, by decide⟩ (Nat.le_of_ble_eq_true rfl) ?_
      refine R_top (y := nI p) (by rw [hp]; rfl) ?_
      refine R_istore hC dX6_sumOfWay_31 (by decide) rfl (R_iload_n (i := 3) hC dX6_sumOfWay_33 rfl rfl (R_aload_n (i := 0) hC dX6_sumOfWay_34 rfl rfl (R_gR hC dX6_sumOfWay_35 fl_X6_12 L_signing rfl (R_iload_n (i := 2) hC dX6_sumOfWay_38 rfl rfl (R_iload hC dX6_sumOfWay_39 rfl ?_)))))
      refine R_V2i hC hR dX6_sumOfWay_41 MV_X7_at ml_X6_68 L_signs rfl (c_atN TL_signs h ha hpl) (by first | decide | omega) ⟨by decide, by decide⟩ (Nat.le_of_ble_eq_true rfl) ?_
      refine R_iadd hC dX6_sumOfWay_44 (R_istore_n (i := 3) hC dX6_sumOfWay_45 rfl (by decide) rfl (R_aload_n (i := 0) hC dX6_sumOfWay_46 rfl rfl (R_iload hC dX6_sumOfWay_47 rfl (R_iload hC dX6_sumOfWay_49 rfl (R_iconst (v := 2) hC dX6_sumOfWay_51 (by decide) (R_isub hC dX6_sumOfWay_52 ?_))))))
      refine R_top (y := -1) (by decide) ?_
      refine R_V2i hC hR dX6_sumOfWay_53 MV_X6_rowToldAt ml_X6_85 L_signing rfl (c_rowTold h hpl (-1)) (by first | decide | omega) ⟨by decide, by decide⟩ (Nat.le_of_ble_eq_true rfl) ?_
      refine R_top (y := -1) (by rw [rn]; rfl) ?_
      refine R_istore_n (i := 2) hC dX6_sumOfWay_56 rfl (by decide) rfl (R_iload_n (i := 3) hC dX6_sumOfWay_57 rfl rfl (R_aload_n (i := 0) hC dX6_sumOfWay_58 rfl rfl (R_gR hC dX6_sumOfWay_59 fl_X6_12 L_signing rfl (R_iload_n (i := 2) hC dX6_sumOfWay_62 rfl rfl (R_iload hC dX6_sumOfWay_63 rfl ?_)))))
      refine R_V2i hC hR dX6_sumOfWay_65 MV_X7_at ml_X6_68 L_signs rfl (c_at TL_signs h (-1) (nI p)) (by first | decide | omega) ⟨by decide, by decide⟩ (Nat.le_of_ble_eq_true rfl) ?_
      refine R_iadd hC dX6_sumOfWay_68 (R_istore_n (i := 3) hC dX6_sumOfWay_69 rfl (by decide) rfl (R_iinc hC dX6_sumOfWay_70 rfl (show nI (2 * 0 + 1) + Int32.ofInt (-2) = -1 from by decide) (by decide) rfl (R_goto hC 12 dX6_sumOfWay_73 (by decide) ?_)))
      skip
      refine R_iload hC dX6_sumOfWay_12 rfl ?_
      refine R_if_le hC 76 dX6_sumOfWay_14 (by decide) (fun _ => ?_) (fun h => absurd (by decide) h)
      refine R_iload_n (i := 3) hC dX6_sumOfWay_76 rfl rfl ?_
      exact R_iret hC hT dX6_sumOfWay_77 rfl ⟨by rw [e, ew, az, Int32.add_zero], rfl⟩
    | succ i ih =>
      intro a s hd ha h12 e u5
      obtain ⟨b, b12, w1, w2⟩ := ds_pred (n := 2 * i + 2) (by rw [show 2 * i + 2 + 1 = 2 * (i + 1) + 1 by omega]; exact hd)
      have hcol : ∃ p, fs (ctF σ U a (nI (2 * i + 2))) 0 U.2.1 = some p := by
        rcases w1 with ⟨_, y1, y2, y3, y4⟩ | ⟨y1, _⟩
        · cases q : fs (ctF σ U a (nI (2 * i + 2))) 0 U.2.1 with
          | some p => exact ⟨p, rfl⟩
          | none =>
            have := fs_none _ _ q (b - 6) (Nat.zero_le _) (by omega)
            unfold ctF at this
            rw [cnd_t ⟨(hm.2 (b - 6) y3).of (by rw [show 6 + (b - 6) = b by omega]; exact w2) (by omega), y4⟩] at this
            cases this
        · omega
      obtain ⟨p, hp⟩ := hcol
      obtain ⟨hpl, hpf, _⟩ := ct_in hp
      have dsp := (hm.2 p hpl).eq (by omega) (by omega) hpf
      obtain ⟨b2, b212, v1, v2⟩ := ds_pred (n := 2 * i + 1) dsp
      have hrow : ∃ p2, fs (rtF σ U p (nI (2 * i + 1))) 0 U.1 = some p2 := by
        rcases v1 with ⟨y1, _⟩ | ⟨_, y1, y2, y3, y4⟩
        · omega
        · rw [Nat.add_sub_cancel_left] at y3 y4
          cases q : fs (rtF σ U p (nI (2 * i + 1))) 0 U.1 with
          | some p => exact ⟨p, rfl⟩
          | none =>
            have := fs_none _ _ q b2 (Nat.zero_le _) (by omega)
            unfold rtF at this
            rw [cnd_t ⟨(hm.1 b2 y2).of v2 (by omega), y4⟩] at this
            cases this
      obtain ⟨p2, hp2⟩ := hrow
      obtain ⟨hpl2, hpf2, _⟩ := rt_in hp2
      have dsp2 := (hm.1 p2 hpl2).eq (by omega) (by omega) hpf2
      have lc := lst_col q4 hm (by omega) (by omega) ha hp
      have lr := lst_row q3 hm (by omega) hpl hp2
      have ew : wk U g (2 * (i + 1) + 1) a = U.2.2 a p + (U.2.2 p2 p + wk U g (2 * i + 1) p2) := by
        rw [show 2 * (i + 1) + 1 = (2 * i + 2) + 1 by omega, wk_s lc, show 2 * i + 2 = (2 * i + 1) + 1 by omega, wk_s lr]
        unfold eSg
        rw [if_pos (show a < 6 by omega), Nat.add_sub_cancel_left, if_neg (show ¬ 6 + p < 6 by omega)]
      refine R_iload hC dX6_sumOfWay_12 rfl ?_
      refine R_if_le hC 76 dX6_sumOfWay_14 (by decide) (fun h => absurd h (nI_nle (by omega) (by omega))) (fun _ => ?_)
      refine R_iload_n (i := 2) hC dX6_sumOfWay_17 rfl rfl (R_iconst (v := (-1)) hC dX6_sumOfWay_18 (by decide) ?_)
      refine R_icmp_eq hC 76 dX6_sumOfWay_19 (by decide) (fun h => absurd h (nI_n1 (by omega))) (fun _ => ?_)
      refine R_aload_n (i := 0) hC dX6_sumOfWay_22 rfl rfl (R_iload_n (i := 2) hC dX6_sumOfWay_23 rfl rfl (R_iload hC dX6_sumOfWay_24 rfl (R_iconst (v := 1) hC dX6_sumOfWay_26 (by decide) (R_isub hC dX6_sumOfWay_27 ?_))))
      refine R_top (y := nI (2 * i + 2)) (by rw [show 2 * (i + 1) + 1 = 2 * i + 2 + 1 by omega]; exact nI_pred _) ?_
      refine R_V2i hC hR dX6_sumOfWay_28 MV_X6_columnToldAt ml_X6_82 L_signing rfl (c_colTold h ha (nI (2 * i + 2))) (by first | decide | omega) ⟨by decide, by decide⟩ (Nat.le_of_ble_eq_true rfl) ?_
      refine R_top (y := nI p) (by rw [hp]; rfl) ?_
      refine R_istore hC dX6_sumOfWay_31 (by decide) rfl (R_iload_n (i := 3) hC dX6_sumOfWay_33 rfl rfl (R_aload_n (i := 0) hC dX6_sumOfWay_34 rfl rfl (R_gR hC dX6_sumOfWay_35 fl_X6_12 L_signing rfl (R_iload_n (i := 2) hC dX6_sumOfWay_38 rfl rfl (R_iload hC dX6_sumOfWay_39 rfl ?_)))))
      refine R_V2i hC hR dX6_sumOfWay_41 MV_X7_at ml_X6_68 L_signs rfl (c_atN TL_signs h ha hpl) (by first | decide | omega) ⟨by decide, by decide⟩ (Nat.le_of_ble_eq_true rfl) ?_
      refine R_iadd hC dX6_sumOfWay_44 (R_istore_n (i := 3) hC dX6_sumOfWay_45 rfl (by decide) rfl (R_aload_n (i := 0) hC dX6_sumOfWay_46 rfl rfl (R_iload hC dX6_sumOfWay_47 rfl (R_iload hC dX6_sumOfWay_49 rfl (R_iconst (v := 2) hC dX6_sumOfWay_51 (by decide) (R_isub hC dX6_sumOfWay_52 ?_))))))
      refine R_top (y := nI (2 * i + 1)) (by rw [show (2 : Int32) = nI 2 from rfl, nI_sub (by omega), show 2 * (i + 1) + 1 - 2 = 2 * i + 1 by omega]) ?_
      refine R_V2i hC hR dX6_sumOfWay_53 MV_X6_rowToldAt ml_X6_85 L_signing rfl (c_rowTold h hpl (nI (2 * i + 1))) (by first | decide | omega) ⟨by decide, by decide⟩ (Nat.le_of_ble_eq_true rfl) ?_
      refine R_top (y := nI p2) (by rw [hp2]; rfl) ?_
      refine R_istore_n (i := 2) hC dX6_sumOfWay_56 rfl (by decide) rfl (R_iload_n (i := 3) hC dX6_sumOfWay_57 rfl rfl (R_aload_n (i := 0) hC dX6_sumOfWay_58 rfl rfl (R_gR hC dX6_sumOfWay_59 fl_X6_12 L_signing rfl (R_iload_n (i := 2) hC dX6_sumOfWay_62 rfl rfl (R_iload hC dX6_sumOfWay_63 rfl ?_)))))
      refine R_V2i hC hR dX6_sumOfWay_65 MV_X7_at ml_X6_68 L_signs rfl (c_atN TL_signs h hpl2 hpl) (by first | decide | omega) ⟨by decide, by decide⟩ (Nat.le_of_ble_eq_true rfl) ?_
      refine R_iadd hC dX6_sumOfWay_68 (R_istore_n (i := 3) hC dX6_sumOfWay_69 rfl (by decide) rfl (R_iinc hC dX6_sumOfWay_70 rfl (show nI (2 * (i + 1) + 1) + Int32.ofInt (-2) = nI (2 * i + 1) from by rw [show Int32.ofInt (-2) = -(nI 2) from by decide, ← Int32.sub_eq_add_neg, nI_sub (by omega), show 2 * (i + 1) + 1 - 2 = 2 * i + 1 by omega]) (by decide) rfl (R_goto hC 12 dX6_sumOfWay_73 (by decide) ?_)))
      exact ih p2 _ dsp2 hpl2 (by omega) (by rw [e, ew, Int32.add_assoc, Int32.add_assoc]) _
  have fv := (hm.1 r hr).of hk k12
  obtain ⟨i, hi⟩ : ∃ i, k = 2 * i + 1 := ⟨k / 2, by omega⟩
  refine R_iload_n (i := 1) hC dX6_sumOfWay_0 rfl rfl (R_istore_n (i := 2) hC dX6_sumOfWay_1 rfl (by decide) rfl (R_iconst (v := 0) hC dX6_sumOfWay_2 (by decide) (R_istore_n (i := 3) hC dX6_sumOfWay_3 rfl (by decide) rfl (R_aload_n (i := 0) hC dX6_sumOfWay_4 rfl rfl (R_gR hC dX6_sumOfWay_5 fl_X6_25 L_signing rfl (R_iload_n (i := 1) hC dX6_sumOfWay_8 rfl rfl (R_aI hC dX6_sumOfWay_9 L_rowsFar r rfl (by omega) (by decide) ?_)))))))
  refine R_top (y := nI (2 * i + 1)) (by rw [← hi]; exact fv) ?_
  refine R_istore hC dX6_sumOfWay_10 (by decide) rfl ?_
  exact loop i r 0 (by rw [← hi]; exact hk) hr (by omega) (by rw [← hi, Int32.zero_add]) _
theorem bd_wk {U : tb} {g : Nat} (hs : ∀ r c, sml (U.2.2 r c)) : ∀ (n a : Nat), n ≤ 12 → bd (n : Int) (wk U g n a)
  | 0, a, _ => bd.z (Int.le_refl _)
  | n + 1, a, hn => by
    rw [wk]
    split
    · rename_i b _
      have q : bd 1 (eSg U.2.2 a b) := by
        unfold eSg
        split
        · exact sml_in.mp (hs _ _)
        · exact sml_in.mp (hs _ _)
      have := q.add (bd_wk (g := g) hs n b (by omega)) (by omega)
      rwa [show (1 : Int) + (n : Int) = ((n + 1 : Nat) : Int) by omega] at this
    · exact bd.z (by omega)
theorem vS_d : ∀ j, j < 25 → ((nI j - 12) &&& 3 = 3 ↔ (nI j - 12 + 1) - (nI j - 12 + 1) / 4 * 4 = 0) := by decide +kernel
theorem vS_and {s : Int32} (h : bd 12 s) : (s &&& 3 = 3 ↔ (s + 1) - (s + 1) / 4 * 4 = 0) := by
  have e : s = nI (s.toInt + 12).toNat - 12 := by
    have h1 := h.1
    have h2 := h.2
    have l : (s.toInt + 12).toNat < 2 ^ 31 := by omega
    rw [show nI (s.toInt + 12).toNat = s + 12 from by
      apply Int32.toInt_inj.mp
      rw [nI_toInt l, i32_add (by rw [show (12 : Int32).toInt = 12 by decide]; omega) (by rw [show (12 : Int32).toInt = 12 by decide]; omega), show (12 : Int32).toInt = 12 by decide]
      omega, Int32.add_sub_cancel]
  rw [e]
  exact vS_d _ (by have h1 := h.1; have h2 := h.2; omega)
theorem c_signAll {σ : sg} {x : aW} {T : tb} (h : CT σ i_table T) : Mt mX6_signAll 5 0 0 [.ref i_signing, .ref i_table] (wd σ x) (fun r w => r = none ∧ ∃ τ, w = wd τ x ∧ AE [124, 125, 126, 127, 128, 129, 130] σ τ ∧ CT τ i_signs (sgnA T)) := by
  refine Mt.of MI_X6_signAll (Nat.le_of_ble_eq_true rfl) (fun X hC hR hT => ?_)
  obtain ⟨k1, k2, k3, k4, k5⟩ := id h
  have ct : ∀ τ, AE [124, 125, 126, 127, 128, 129, 130] σ τ → CT τ i_table T := fun τ e => h.ae e (by decide) (by decide)
  have loop : ∀ f i τ S, f + i = 36 → AE [124, 125, 126, 127, 128, 129, 130] σ τ → CT τ i_signs (tS2 T S) → okS T S → RI T S → sg2 T 36 (f1R T T.1).2 = sg2 T f S → Rw mX6_signAll X 22 [some (.ref i_signing), some (.ref i_table), some (.int (nI i))] [] (wd τ x) 0 0 := by
    intro f
    induction f with
    | zero =>
      intro i τ S hi e hs okS ri es
      have : i = 36 := by omega
      subst this
      refine R_iload_n (i := 2) hC dX6_signAll_22 rfl rfl (R_bipush (v := 36) hC dX6_signAll_23 (by decide) ?_)
      refine R_icmp_ge hC 84 dX6_signAll_25 (by decide) (fun _ => ?_) (fun h => absurd (by decide) h)
      exact R_vret hC hT dX6_signAll_84 rfl ⟨rfl, τ, rfl, e, by unfold sgnA; rw [es]; exact hs⟩
    | succ f ih =>
      intro i τ S hi e hs okS ri es
      refine R_iload_n (i := 2) hC dX6_signAll_22 rfl rfl (R_bipush (v := 36) hC dX6_signAll_23 (by decide) ?_)
      refine R_icmp_ge hC 84 dX6_signAll_25 (by decide) (fun h => absurd h (nI_ge (b := 36) (by omega) (by decide))) (fun _ => ?_)
      refine R_aload_n (i := 0) hC dX6_signAll_28 rfl rfl (R_aload_n (i := 1) hC dX6_signAll_29 rfl rfl ?_)
      refine R_V1g hC hR dX6_signAll_30 MV_X6_findNext ml_X6_46 L_signing rfl (c_findNext (ct τ e) hs ri) (by first | decide | omega) ⟨by decide, by decide⟩ (Nat.le_of_ble_eq_true rfl) (fun r w1 hq => ?_)
      obtain ⟨υ, rfl, e2, _, hf⟩ := hq
      have e3 : AE [124, 125, 126, 127, 128, 129, 130] σ υ := e.tr (e2.w (by decide))
      have hs2 := hs.ae e2 (by decide) (by decide)
      skip
      rcases hf with ⟨rfl, hno⟩ | ⟨⟨r, c, k⟩, rfl, hb, n5, n6⟩
      · refine R_if_eq hC 84 dX6_signAll_33 (by decide) (fun _ => ?_) (fun h => absurd rfl h)
        exact R_vret hC hT dX6_signAll_84 rfl ⟨rfl, υ, rfl, e3, by unfold sgnA; rw [es, sg2_n hno]; exact hs2⟩
      · have rb := hb.1.1
        have cb := hb.1.2.1
        have wb : bd 12 (wk (tS2 T S) (6 + c) k r) := by
          have q := bd_wk (U := tS2 T S) (g := 6 + c) okS.1 k r hb.2.1
          have k12 : k ≤ 12 := hb.2.1
          unfold bd at *; omega
        have vv := vS_and wb
        have fin : ∀ τ' v, v = vS (wk (tS2 T S) (6 + c) k r) → AE [124, 125, 126, 127, 128, 129, 130] σ τ' → CT τ' i_signs (tS2 T S) → Rw mX6_signAll X 75 [some (.ref i_signing), some (.ref i_table), some (.int (nI i))] [.int v, .int (nI c), .int (nI r), .ref i_signs] (wd τ' x) 0 0 := by
          intro τ' v hv e' hs'
          refine R_V3v hC hR dX6_signAll_75 MV_X7_put ml_X6_64 L_signs rfl (c_put TL_signs hs' (i := r) (j := c) rb cb v) (by first | decide | omega) ⟨by decide, by decide⟩ (Nat.le_of_ble_eq_true rfl) ?_
          refine R_iinc hC dX6_signAll_78 rfl (inc1 _) (by decide) rfl (R_goto hC 22 dX6_signAll_81 (by decide) ?_)
          exact ih (i + 1) _ (setS S r c v) (by omega) (e'.a (by decide)) ((hs'.put (i := r) (j := c) cb v).cg (fun p q _ _ => rfl)) (by
            have vs : v = 1 ∨ v = -1 := by rw [hv]; exact vS_v _
            refine ⟨fun p q => ?_, fun p q z => ?_⟩
            · show sml (if p = r ∧ q = c then v else S p q)
              split
              · rcases vs with y | y
                · exact Or.inr (Or.inr y)
                · exact Or.inl y
              · exact okS.1 p q
            · have z : ¬ (if p = r ∧ q = c then v else S p q) = 0 := z
              by_cases y : p = r ∧ q = c
              · rw [y.1, y.2]; exact hb.1.2.2.1
              · rw [if_neg y] at z; exact okS.2 p q z) (RI_set k3 k4 (by rw [hv]; rcases vS_v (wk (tS2 T S) (6 + c) k r) with y | y <;> rw [y] <;> decide) ri) (by rw [es, sg2_y k4 hb, hv])
        refine R_if_eq hC 84 dX6_signAll_33 (by decide) (fun h => absurd h (by decide)) (fun _ => ?_)
        refine R_aload_n (i := 0) hC dX6_signAll_36 rfl rfl (R_aload_n (i := 0) hC dX6_signAll_37 rfl rfl (R_gI hC dX6_signAll_38 fl_X6_50 L_signing rfl ?_))
        refine R_top (y := nI c) (n6) ?_
        refine R_V1g hC hR dX6_signAll_41 MV_X6_measureFrom ml_X6_53 L_signing rfl (c_measure hs2 cb) (by first | decide | omega) ⟨by decide, by decide⟩ (Nat.le_of_ble_eq_true rfl) (fun r w1 hq => ?_)
        obtain ⟨rfl, ω, rfl, e4, hm⟩ := hq
        have w24 := (e4 124 (by decide)).1
        refine R_aload_n (i := 0) hC dX6_signAll_44 rfl rfl (R_gR hC dX6_signAll_45 fl_X6_12 L_signing rfl (R_aload_n (i := 0) hC dX6_signAll_48 rfl rfl (R_gI hC dX6_signAll_49 fl_X6_57 L_signing rfl ?_)))
        refine R_top (y := nI r) (by rw [w24]; exact n5) ?_
        refine R_aload_n (i := 0) hC dX6_signAll_52 rfl rfl (R_gI hC dX6_signAll_53 fl_X6_50 L_signing rfl ?_)
        refine R_top (y := nI c) (by rw [w24]; exact n6) ?_
        refine R_aload_n (i := 0) hC dX6_signAll_56 rfl rfl (R_aload_n (i := 0) hC dX6_signAll_57 rfl rfl (R_gI hC dX6_signAll_58 fl_X6_57 L_signing rfl ?_))
        refine R_top (y := nI r) (by rw [w24]; exact n5) ?_
        refine R_V1i hC hR dX6_signAll_61 MV_X6_sumOfWay ml_X6_60 L_signing rfl (c_sumWay (hs2.ae e4 (by decide) (by decide)) (by omega) hm rb hb.2.2.1 hb.2.1) (by first | decide | omega) ⟨by decide, by decide⟩ (Nat.le_of_ble_eq_true rfl) ?_
        refine R_iconst (v := 3) hC dX6_signAll_64 (by decide) (R_iand hC dX6_signAll_65 (R_iconst (v := 3) hC dX6_signAll_66 (by decide) ?_))
        refine R_icmp_ne hC 74 dX6_signAll_67 (by decide) (fun h67 => ?_) (fun h67 => ?_)
        · refine R_iconst (v := (-1)) hC dX6_signAll_74 (by decide) ?_
          refine fin ω _ ?_ (e3.tr (e4.w (by decide))) (hs2.ae e4 (by decide) (by decide))
          unfold vS
          first
          | (have z := vv.mp h67; rw [if_pos z]; done)
          | (rw [if_neg (fun z => h67 (vv.mpr z))]; done)
        · refine R_iconst (v := 1) hC dX6_signAll_70 (by decide) (R_goto hC 75 dX6_signAll_71 (by decide) ?_)
          refine fin ω _ ?_ (e3.tr (e4.w (by decide))) (hs2.ae e4 (by decide) (by decide))
          unfold vS
          first
          | (have z := vv.mp h67; rw [if_pos z]; done)
          | (rw [if_neg (fun z => h67 (vv.mpr z))]; done)
  have J := J1_R (T := T) k3 k4 T.1 (Nat.le_refl _)
  obtain ⟨i0, i1, i2, i3, i4⟩ := J
  refine R_aload_n (i := 0) hC dX6_signAll_0 rfl rfl (R_gR hC dX6_signAll_1 fl_X6_12 L_signing rfl (R_aload_n (i := 1) hC dX6_signAll_4 rfl rfl (R_gI hC dX6_signAll_5 fl_X6_31 L_table rfl ?_)))
  refine R_top (y := nI T.1) (k1) ?_
  refine R_aload_n (i := 1) hC dX6_signAll_8 rfl rfl (R_gI hC dX6_signAll_9 fl_X6_35 L_table rfl ?_)
  refine R_top (y := nI T.2.1) (k2) ?_
  refine R_V2g hC hR dX6_signAll_12 MV_X7_clear ml_X6_38 L_signs rfl (c_clear TL_signs T.1 T.2.1 k3 k4) (by first | decide | omega) ⟨by decide, by decide⟩ (Nat.le_of_ble_eq_true rfl) (fun r w1 hq => ?_)
  obtain ⟨rfl, τ, rfl, c, hs⟩ := hq
  refine R_aload_n (i := 0) hC dX6_signAll_15 rfl rfl (R_aload_n (i := 1) hC dX6_signAll_16 rfl rfl ?_)
  refine R_V1g hC hR dX6_signAll_17 MV_X6_signForest ml_X6_42 L_signing rfl (c_forest (h.ae c (by decide) (by decide)) hs) (by first | decide | omega) ⟨by decide, by decide⟩ (Nat.le_of_ble_eq_true rfl) (fun r w1 hq => ?_)
  obtain ⟨rfl, υ, rfl, c2, hs2⟩ := hq
  refine R_iconst (v := 0) hC dX6_signAll_20 (by decide) (R_istore_n (i := 2) hC dX6_signAll_21 rfl (by decide) rfl ?_)
  exact loop 36 0 υ (f1R T T.1).2 rfl ((c.w (by decide)).tr (c2.w (by decide))) hs2 ⟨fun r c => (i3 r c).elim (fun z => Or.inr (Or.inl z)) (fun z => Or.inr (Or.inr z)), fun r c z => (i4 r c z).2.2.2⟩ (fun r c hr hc ht => rel_ds (T := tS2 T (f1R T T.1).2) k3 k4 (show 6 + c < 12 by omega) (rel.sy (by omega) (by omega) (i2 r (6 + c) (by omega) (by omega) (i1 r c hr hc (Or.inl hr) ht)))) rfl
theorem c_knownS {σ : sg} {x : aW} {α : aS} (h : CInv σ α) (ok : aOK α) : Mt mX10_knownSigns 6 0 0 [.ref i_U] (wd σ x) (fun r w => r = some (.ref i_signs) ∧ ∃ τ, w = wd τ x ∧ CInv τ α ∧ CT τ i_signs (sgnA (tT α)) ∧ MEq σ τ) := by
  refine Mt.of MI_X10_knownSigns (Nat.le_of_ble_eq_true rfl) (fun X hC hR hT => ?_)
  rcases h.2.2.2.2.2.2.2.2.2.2.2 with q | ⟨q, q2⟩
  · refine R_aload_n (i := 0) hC dX10_knownSigns_0 rfl rfl (R_gR hC dX10_knownSigns_1 fl_X10_73 L_U rfl (R_gI hC dX10_knownSigns_4 fl_X10_343 L_signing rfl ?_))
    refine R_top (y := 0) (q) ?_
    refine R_if_ne hC 29 dX10_knownSigns_7 (by decide) (fun h => absurd rfl h) (fun _ => ?_)
    refine R_aload_n (i := 0) hC dX10_knownSigns_10 rfl rfl (R_gR hC dX10_knownSigns_11 fl_X10_73 L_U rfl (R_aload_n (i := 0) hC dX10_knownSigns_14 rfl rfl (R_gR hC dX10_knownSigns_15 fl_X10_19 L_U rfl ?_)))
    refine R_V1g hC hR dX10_knownSigns_18 MV_X6_signAll ml_X10_351 L_signing rfl (c_signAll h.2.1) (by first | decide | omega) ⟨by decide, by decide⟩ (Nat.le_of_ble_eq_true rfl) (fun r w1 hq => ?_)
    obtain ⟨rfl, τ, rfl, c, hs⟩ := hq
    refine R_aload_n (i := 0) hC dX10_knownSigns_21 rfl rfl (R_gR hC dX10_knownSigns_22 fl_X10_73 L_U rfl (R_iconst (v := 1) hC dX10_knownSigns_25 (by decide) (R_pZ hC dX10_knownSigns_26 fl_X10_343 L_signing rfl (by first | exact Or.inl rfl | exact Or.inr rfl) (R_aload_n (i := 0) hC dX10_knownSigns_29 rfl rfl (R_gR hC dX10_knownSigns_30 fl_X10_73 L_U rfl (R_gR hC dX10_knownSigns_33 fl_X10_354 L_signing rfl ?_))))))
    exact R_aret hC hT dX10_knownSigns_36 rfl (by
    have ca : AE [124, 125, 126, 127, 128, 129, 130] σ (sG τ i_signing 7 1) := c.g (by decide)
    have hs2 : CT (sG τ i_signing 7 1) i_signs (sgnA (tT α)) := hs.of (by funext b; exact sG_ni (by decide)) rfl
    refine ⟨rfl, _, rfl, ?_, hs2, ca.meq (by decide)⟩
    obtain ⟨q1, q2, q3, q4, q5, q6, q7, q8, ⟨q9, q10, q11, q12⟩⟩ := h
    have s4 := ok.2.2.2.2.1.1
    refine ⟨q1.ae ca (by decide), q2.ae ca (by decide) (by decide), q3.ae ok.2.2.2.1.1 ca (by decide), q4.ae ca (by intro i z; simp at z; omega), q5.ae ca (by decide), q6.ae ca (by decide), q7.ae ca (by decide), q8.ae ca (by decide), ?_, ?_, ?_, Or.inr ⟨sG_eq _ _ _ _, hs2⟩⟩
    · rw [(ca 112 (by decide)).1]; exact q9.imp id (fun z => ⟨z.1, z.2.ae ca (by decide)⟩)
    · rw [(ca 114 (by decide)).1]; exact q10.imp id (fun z => ⟨z.1, z.2.ae ca (by decide)⟩)
    · rw [(ca 119 (by decide)).1]; exact q11.imp id (fun z => ⟨z.1, z.2.ae ca (by decide)⟩))
  · refine R_aload_n (i := 0) hC dX10_knownSigns_0 rfl rfl (R_gR hC dX10_knownSigns_1 fl_X10_73 L_U rfl (R_gI hC dX10_knownSigns_4 fl_X10_343 L_signing rfl ?_))
    refine R_top (y := 1) (q) ?_
    refine R_if_ne hC 29 dX10_knownSigns_7 (by decide) (fun _ => ?_) (fun h => absurd h (by decide))
    refine R_aload_n (i := 0) hC dX10_knownSigns_29 rfl rfl (R_gR hC dX10_knownSigns_30 fl_X10_73 L_U rfl (R_gR hC dX10_knownSigns_33 fl_X10_354 L_signing rfl ?_))
    exact R_aret hC hT dX10_knownSigns_36 rfl ⟨rfl, σ, rfl, h, q2, MEq.rf _⟩
theorem co_signed {σ : sg} {x : aW} {α : aS} (h : CInv σ α) (ok : aOK α) (r c : Int32) : Mt mX10_signed 7 0 0 [.ref i_U, .int r, .int c] (wd σ x) (CPost σ x (opSigned α r c) α) := by
  refine Mt.of MI_X10_signed (Nat.le_of_ble_eq_true rfl) (fun X hC hR hT => ?_)
  by_cases h0 : inR (tT α).1 r ∧ inR (tT α).2.1 c
  · have e : opSigned α r c = (sgnA (tT α)).2.2 r.toNatClampNeg c.toNatClampNeg := by unfold opSigned; rw [if_pos h0]
    refine R_aload_n (i := 0) hC dX10_signed_0 rfl rfl (R_gR hC dX10_signed_1 fl_X10_19 L_U rfl (R_iload_n (i := 1) hC dX10_signed_4 rfl rfl (R_iload_n (i := 2) hC dX10_signed_5 rfl rfl ?_)))
    refine R_V2i hC hR dX10_signed_6 MV_X7_has ml_X10_126 L_table rfl (c_has TL_table h.2.1 _ _) (by first | decide | omega) ⟨by decide, by decide⟩ (Nat.le_of_ble_eq_true rfl) ?_
    refine R_top (y := 1) (b2i_t h0) ?_
    refine R_if_eq hC 24 dX10_signed_9 (by decide) (fun h => absurd h (by decide)) (fun _ => ?_)
    refine R_aload_n (i := 0) hC dX10_signed_12 rfl rfl ?_
    refine R_V0g hC hR dX10_signed_13 MV_X10_knownSigns ml_X10_229 L_U rfl (c_knownS h ok) (by first | decide | omega) ⟨by decide, by decide⟩ (Nat.le_of_ble_eq_true rfl) (fun r w1 hq => ?_)
    obtain ⟨rfl, τ, rfl, hτ, hs, c1⟩ := hq
    refine R_iload_n (i := 1) hC dX10_signed_16 rfl rfl (R_iload_n (i := 2) hC dX10_signed_17 rfl rfl ?_)
    refine R_V2i hC hR dX10_signed_18 MV_X7_at ml_X10_133 L_signs rfl (c_at TL_signs hs _ _) (by first | decide | omega) ⟨by decide, by decide⟩ (Nat.le_of_ble_eq_true rfl) ?_
    refine R_goto hC 26 dX10_signed_21 (by decide) ?_
    exact R_iret hC hT dX10_signed_26 rfl (by rw [e, ← atZ_y (T := sgnA (tT α)) h0]; exact CPost.i hτ c1)
  · have e : opSigned α r c = -1000000 := by unfold opSigned; rw [if_neg h0]
    refine R_aload_n (i := 0) hC dX10_signed_0 rfl rfl (R_gR hC dX10_signed_1 fl_X10_19 L_U rfl (R_iload_n (i := 1) hC dX10_signed_4 rfl rfl (R_iload_n (i := 2) hC dX10_signed_5 rfl rfl ?_)))
    refine R_V2i hC hR dX10_signed_6 MV_X7_has ml_X10_126 L_table rfl (c_has TL_table h.2.1 _ _) (by first | decide | omega) ⟨by decide, by decide⟩ (Nat.le_of_ble_eq_true rfl) ?_
    refine R_top (y := 0) (b2i_f h0) ?_
    refine R_if_eq hC 24 dX10_signed_9 (by decide) (fun _ => ?_) (fun h => absurd rfl h)
    refine R_ldc hC dX10_signed_24 kc_X10_145 ?_
    exact R_iret hC hT dX10_signed_26 rfl (by rw [e]; exact CPost.i h (MEq.rf _))
theorem co_regular {σ : sg} {x : aW} {α : aS} (h : CInv σ α) (ok : aOK α) : Mt mX10_regular 7 0 0 [.ref i_U] (wd σ x) (CPost σ x (opRegular α) α) := by
  refine Mt.of MI_X10_regular (Nat.le_of_ble_eq_true rfl) (fun X hC hR hT => ?_)
  by_cases h0 : (tT α).1 = 0
  · have e : opRegular α = -1 := by unfold opRegular; rw [if_pos h0]
    refine R_aload_n (i := 0) hC dX10_regular_0 rfl rfl (R_gR hC dX10_regular_1 fl_X10_19 L_U rfl ?_)
    refine R_V0i hC hR dX10_regular_4 MV_X7_isNone ml_X10_152 L_table rfl (c_isNone TL_table h.2.1) (by first | decide | omega) ⟨by decide, by decide⟩ (Nat.le_of_ble_eq_true rfl) ?_
    refine R_top (y := 1) (b2i_t h0) ?_
    refine R_if_eq hC 12 dX10_regular_7 (by decide) (fun h => absurd h (by decide)) (fun _ => ?_)
    refine R_iconst (v := (-1)) hC dX10_regular_10 (by decide) ?_
    exact R_iret hC hT dX10_regular_11 rfl (by rw [e]; exact CPost.i h (MEq.rf _))
  · have e : opRegular α = b2i (tot (sgnA (tT α))) := by unfold opRegular; rw [if_neg h0]
    refine R_aload_n (i := 0) hC dX10_regular_0 rfl rfl (R_gR hC dX10_regular_1 fl_X10_19 L_U rfl ?_)
    refine R_V0i hC hR dX10_regular_4 MV_X7_isNone ml_X10_152 L_table rfl (c_isNone TL_table h.2.1) (by first | decide | omega) ⟨by decide, by decide⟩ (Nat.le_of_ble_eq_true rfl) ?_
    refine R_top (y := 0) (b2i_f h0) ?_
    refine R_if_eq hC 12 dX10_regular_7 (by decide) (fun _ => ?_) (fun h => absurd rfl h)
    refine R_aload_n (i := 0) hC dX10_regular_12 rfl rfl (R_aload_n (i := 0) hC dX10_regular_13 rfl rfl ?_)
    refine R_V0g hC hR dX10_regular_14 MV_X10_knownSigns ml_X10_229 L_U rfl (c_knownS h ok) (by first | decide | omega) ⟨by decide, by decide⟩ (Nat.le_of_ble_eq_true rfl) (fun r w1 hq => ?_)
    obtain ⟨rfl, τ, rfl, hτ, hs, c1⟩ := hq
    refine R_V1g hC hR dX10_regular_17 MV_X10_isTotal ml_X10_233 L_U rfl (c_isTotal TL_signs (by decide) hτ ok hs) (by first | decide | omega) ⟨by decide, by decide⟩ (Nat.le_of_ble_eq_true rfl) (fun r w1 hq => ?_)
    obtain ⟨rfl, υ, rfl, hυ, c2⟩ := hq
    refine R_if_eq hC 27 dX10_regular_20 (by decide) (fun h20 => ?_) (fun h20 => ?_)
    · refine R_iconst (v := 0) hC dX10_regular_27 (by decide) ?_
      exact R_iret hC hT dX10_regular_28 rfl (by rw [e]; first | (rw [b2i_t (b2i_ne h20)]; exact CPost.i hυ (c1.tr c2)) | (rw [b2i_f (b2i_0 h20)]; exact CPost.i hυ (c1.tr c2)))
    · refine R_iconst (v := 1) hC dX10_regular_23 (by decide) (R_goto hC 28 dX10_regular_24 (by decide) ?_)
      exact R_iret hC hT dX10_regular_28 rfl (by rw [e]; first | (rw [b2i_t (b2i_ne h20)]; exact CPost.i hυ (c1.tr c2)) | (rw [b2i_f (b2i_0 h20)]; exact CPost.i hυ (c1.tr c2)))
