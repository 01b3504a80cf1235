/-! ===== the class's network, arc, way ===== -/
theorem ArR_0 {f g : Nat → Int32} {t : tre} {n : Nat} (h : ∀ r, r < n → f r = nI (t.1 r) ∧ g r = nI (t.2 r)) : ArR f g 0 t n := fun r hr => by rw [Nat.zero_add]; exact h r hr
theorem CKt.ac {σ : sg} {b : Nat} {T : tb} {t : tre} (h : CKt σ b T) (e : treeR T = some t) : σ.1 b 3 = 1 ∧ AC σ b t T.1 := by
  rcases h.2 with ⟨z, _⟩ | ⟨u, z, z1, z2⟩
  · rw [e] at z; cases z
  · rw [e] at z; cases z
    exact ⟨z1, fun r hr => by have := z2 r hr; rwa [Nat.zero_add] at this⟩
theorem CKt.no {σ : sg} {b : Nat} {T : tb} (h : CKt σ b T) (e : treeR T = none) : σ.1 b 3 = 0 := by
  rcases h.2 with ⟨_, z⟩ | ⟨u, z, _⟩
  · exact z
  · rw [e] at z; cases z
theorem treeC {T : tb} : treeR T = cnd (tot T) (grwC T T.1 0 (fun _ => 0, fun _ => 0)) none := by
  unfold treeR
  rw [grwC_eq _ _ _ (fun r hr => absurd hr (Nat.not_lt_zero _))]
def L5 (b : Nat) : List Nat := [b, b + 1, b + 2, b + 3, b + 4]
theorem c_seek {σ : sg} {x : aW} {b s : Nat} {T : tb} (hD : DL b) (hb : b ≠ 18 ∧ b + 1 ≠ 19) (hs : s < 2) (hT0 : CT σ i_table T) (ok : ∀ i j, i < T.1 → j < T.2.1 → sml (T.2.2 i j)) : Mt mX9_seek 15 0 0 [.ref b, .ref i_table, .int (nI s), .int (b2i (tot T))] (wd σ x) (fun r w => r = none ∧ ∃ τ, w = wd τ x ∧ AE (L5 b) σ τ ∧ CKt τ b (sdT T s)) := by
  refine Mt.of MI_X9_seek (Nat.le_of_ble_eq_true rfl) (fun X hC hR hT => ?_)
  obtain ⟨d1, d2⟩ := sd6 (s := s) hT0.2.2.1 hT0.2.2.2.1
  have oks : ∀ i j, i < (sdT T s).1 → j < (sdT T s).2.1 → sml ((sdT T s).2.2 i j) := by
    intro i j hi hj
    unfold sdT at *
    by_cases z : s = 0
    · rw [if_pos z] at *; exact ok i j hi hj
    · rw [if_neg z] at *; exact ok j i hj hi
  have tts : tot (sdT T s) ↔ tot T := by
    unfold sdT
    split
    · exact Iff.rfl
    · exact tot_tr T hT0.2.2.1 hT0.2.2.2.1
  have l12 : ∀ i, i ∈ [b + 1, b + 1 + 1] → i ∈ L5 b := fun i z => by simp [L5] at z ⊢; omega
  have l34 : ∀ i, i ∈ [b + 3, b + 4] → i ∈ L5 b := fun i z => by simp [L5] at z ⊢; omega
  have lb : b ∈ L5 b := List.mem_cons_self
  have fin : ∀ τ v, AE (L5 b) σ τ → CT τ (b + 1) (sdT T s) → ((treeR (sdT T s) = none ∧ v = 0) ∨ ∃ t, treeR (sdT T s) = some t ∧ v = 1 ∧ AC τ b t (sdT T s).1) → (v = 0 ∨ v = 1) → Rw mX9_seek X 38 [some (.ref b), some (.ref i_table), some (.int (nI s)), some (.int (b2i (tot T)))] [.int v, .ref b] (wd τ x) 0 0 := by
    intro τ v hg hA hv v01
    have c2 : CT (sG τ b 3 v) (b + 1) (sdT T s) := hA.of (by funext k; exact sG_ni (by omega)) rfl
    have k : CKt (sG τ b 3 v) b (sdT T s) := ⟨c2, hv.imp (fun z => ⟨z.1, by rw [sG_eq]; exact z.2⟩) (fun ⟨t, z1, z2, z3⟩ => ⟨t, z1, by rw [sG_eq]; exact z2, ArR_0 z3⟩)⟩
    refine R_pZ hC dX9_seek_38 fl_X9_37 hD.1 rfl v01 ?_
    exact R_vret hC hT dX9_seek_41 rfl ⟨rfl, _, rfl, hg.g lb, k⟩
  have mid : ∀ τ, AE (L5 b) σ τ → CT τ (b + 1) (sdT T s) → Rw mX9_seek X 20 [some (.ref b), some (.ref i_table), some (.int (nI s)), some (.int (b2i (tot T)))] [] (wd τ x) 0 0 := by
    intro τ hg hA
    refine R_aload_n (i := 0) hC dX9_seek_20 rfl rfl (R_iload_n (i := 3) hC dX9_seek_21 rfl rfl ?_)
    refine R_if_eq hC 37 dX9_seek_22 (by decide) (fun h22 => ?_) (fun h22 => ?_)
    · refine R_iconst (v := 0) hC dX9_seek_37 (by decide) ?_
      first
        | exact fin τ 0 hg hA (Or.inl ⟨by unfold treeR; rw [cnd_f (fun z => b2i_0 h22 (tts.mp z))], rfl⟩) (Or.inl rfl)
        | (have z := op_nn (b2i_0 h30); exact fin υ 0 (hg.cl hg2 l34) (hA.a34 hg2) (Or.inl ⟨z, rfl⟩) (Or.inl rfl))
        | (obtain ⟨t, z⟩ := b2i_ne h30; exact fin υ 1 (hg.cl hg2 l34) (hA.a34 hg2) (Or.inr ⟨t, z, rfl, q1 t z⟩) (Or.inr rfl))
    · refine R_aload_n (i := 0) hC dX9_seek_25 rfl rfl (R_iconst (v := 0) hC dX9_seek_26 (by decide) ?_)
      refine R_V1g hC hR dX9_seek_27 MV_X9_grow ml_X9_33 hD.1 rfl (c_grow hD d1 oks (sdT T s).1 0 τ (fun _ => 0, fun _ => 0) (by omega) hA (fun r hr => absurd hr (Nat.not_lt_zero _)) (fun r hr => absurd hr (Nat.not_lt_zero _))) (by first | decide | omega) ⟨by decide, by decide⟩ (Nat.le_of_ble_eq_true rfl) (fun r w1 hq => ?_)
      obtain ⟨υ, rfl, hg2, rfl, q1, q2⟩ := hq
      have te : treeR (sdT T s) = grwC (sdT T s) (sdT T s).1 0 (fun _ => 0, fun _ => 0) := by rw [treeC, cnd_t (tts.mpr (b2i_ne h22))]
      rw [← te] at q1 q2 ⊢
      refine R_if_eq hC 37 dX9_seek_30 (by decide) (fun h30 => ?_) (fun h30 => ?_)
      · refine R_iconst (v := 0) hC dX9_seek_37 (by decide) ?_
        first
          | exact fin τ 0 hg hA (Or.inl ⟨by unfold treeR; rw [cnd_f (fun z => b2i_0 h22 (tts.mp z))], rfl⟩) (Or.inl rfl)
          | (have z := op_nn (b2i_0 h30); exact fin υ 0 (hg.cl hg2 l34) (hA.a34 hg2) (Or.inl ⟨z, rfl⟩) (Or.inl rfl))
          | (obtain ⟨t, z⟩ := b2i_ne h30; exact fin υ 1 (hg.cl hg2 l34) (hA.a34 hg2) (Or.inr ⟨t, z, rfl, q1 t z⟩) (Or.inr rfl))
      · refine R_iconst (v := 1) hC dX9_seek_33 (by decide) (R_goto hC 38 dX9_seek_34 (by decide) ?_)
        first
          | exact fin τ 0 hg hA (Or.inl ⟨by unfold treeR; rw [cnd_f (fun z => b2i_0 h22 (tts.mp z))], rfl⟩) (Or.inl rfl)
          | (have z := op_nn (b2i_0 h30); exact fin υ 0 (hg.cl hg2 l34) (hA.a34 hg2) (Or.inl ⟨z, rfl⟩) (Or.inl rfl))
          | (obtain ⟨t, z⟩ := b2i_ne h30; exact fin υ 1 (hg.cl hg2 l34) (hA.a34 hg2) (Or.inr ⟨t, z, rfl, q1 t z⟩) (Or.inr rfl))
  rcases (by omega : s = 0 ∨ s = 1) with rfl | rfl
  · refine R_aload_n (i := 0) hC dX9_seek_0 rfl rfl (R_gR hC dX9_seek_1 fl_X9_12 hD.1 rfl (R_aload_n (i := 1) hC dX9_seek_4 rfl rfl ?_))
    refine R_V1g hC hR dX9_seek_5 MV_X7_copyFrom ml_X9_25 hD.2.1.1 rfl (c_copyFrom hD.2.1 TL_table (by show b + 1 ≠ 19; exact hb.2) hT0) (by first | decide | omega) ⟨by decide, by decide⟩ (Nat.le_of_ble_eq_true rfl) (fun r w1 hq => ?_)
    obtain ⟨rfl, τ, rfl, hg, hA⟩ := hq
    refine R_iload_n (i := 2) hC dX9_seek_8 rfl rfl ?_
    refine R_if_eq hC 20 dX9_seek_9 (by decide) (fun _ => ?_) (fun h => absurd rfl h)
    exact mid τ (hg.w l12) hA
  · refine R_aload_n (i := 0) hC dX9_seek_0 rfl rfl (R_gR hC dX9_seek_1 fl_X9_12 hD.1 rfl (R_aload_n (i := 1) hC dX9_seek_4 rfl rfl ?_))
    refine R_V1g hC hR dX9_seek_5 MV_X7_copyFrom ml_X9_25 hD.2.1.1 rfl (c_copyFrom hD.2.1 TL_table (by show b + 1 ≠ 19; exact hb.2) hT0) (by first | decide | omega) ⟨by decide, by decide⟩ (Nat.le_of_ble_eq_true rfl) (fun r w1 hq => ?_)
    obtain ⟨rfl, τ, rfl, hg, hA⟩ := hq
    refine R_iload_n (i := 2) hC dX9_seek_8 rfl rfl ?_
    refine R_if_eq hC 20 dX9_seek_9 (by decide) (fun h => absurd h (by decide)) (fun _ => ?_)
    refine R_aload_n (i := 0) hC dX9_seek_12 rfl rfl (R_gR hC dX9_seek_13 fl_X9_12 hD.1 rfl ?_)
    refine R_V0g hC hR dX9_seek_16 MV_X7_transpose ml_X9_29 hD.2.1.1 rfl (c_transpose hD.2.1 hA) (by first | decide | omega) ⟨by decide, by decide⟩ (Nat.le_of_ble_eq_true rfl) (fun r w1 hq => ?_)
    obtain ⟨rfl, υ, rfl, hg2, hA2⟩ := hq
    refine R_pop hC dX9_seek_19 rfl ?_
    exact mid υ ((hg.w l12).tr (hg2.w l12)) hA2
noncomputable def endZ (T : tb) (a q : Int32) : Int32 := cnd ((0 ≤ a.toInt ∧ a.toInt < T.1) ∧ (0 ≤ q.toInt ∧ q.toInt ≤ 1)) (match treeR T with
    | some t => nI (if q = 0 then t.1 a.toNatClampNeg else t.2 a.toNatClampNeg)
    | none => -1) (-1)
theorem c_endOf {σ : sg} {x : aW} {b : Nat} {T : tb} (hD : DL b) (hk : CKt σ b T) (a q : Int32) : Mt mX9_endOf 0 0 0 [.ref b, .int a, .int q] (wd σ x) (QI (endZ T a q) (wd σ x)) := by
  refine Mt.of MI_X9_endOf (Nat.le_of_ble_eq_true rfl) (fun X hC hR hT => ?_)
  obtain ⟨k1, k2, k3, k4, k5⟩ := hk.1
  have t1 := nI_toInt (n := T.1) (by omega)
  have no : ¬ ((0 ≤ a.toInt ∧ a.toInt < T.1) ∧ (0 ≤ q.toInt ∧ q.toInt ≤ 1)) → endZ T a q = -1 := fun z => by unfold endZ; rw [cnd_f z]
  have i6 : (6 : Int32).toInt = 6 := by decide
  have i1 : (1 : Int32).toInt = 1 := by decide
  cases ht : treeR T with
  | none =>
    refine R_aload_n (i := 0) hC dX9_endOf_0 rfl rfl (R_gI hC dX9_endOf_1 fl_X9_37 hD.1 rfl ?_)
    refine R_top (y := 0) (hk.no ht) ?_
    refine R_if_eq hC 37 dX9_endOf_4 (by decide) (fun _ => ?_) (fun h => absurd rfl h)
    refine R_iconst (v := (-1)) hC dX9_endOf_37 (by decide) ?_
    exact R_iret hC hT dX9_endOf_38 rfl ⟨by unfold endZ; rw [ht]; by_cases z : ((0 ≤ a.toInt ∧ a.toInt < T.1) ∧ (0 ≤ q.toInt ∧ q.toInt ≤ 1)); rw [cnd_t z]; rw [cnd_f z], rfl⟩
  | some t =>
    obtain ⟨f1, hA⟩ := hk.ac ht
    refine R_aload_n (i := 0) hC dX9_endOf_0 rfl rfl (R_gI hC dX9_endOf_1 fl_X9_37 hD.1 rfl ?_)
    refine R_top (y := 1) (f1) ?_
    refine R_if_eq hC 37 dX9_endOf_4 (by decide) (fun h => absurd h (by decide)) (fun _ => ?_)
    refine R_iload_n (i := 1) hC dX9_endOf_7 rfl rfl ?_
    refine R_if_lt hC 37 dX9_endOf_8 (by decide) (fun h8 => ?_) (fun h8 => ?_)
    · refine R_iconst (v := (-1)) hC dX9_endOf_37 (by decide) ?_
      exact R_iret hC hT dX9_endOf_38 rfl ⟨by rw [no (fun z => by simp only [i32_ge, i32_lt, Int32.toInt_zero, t1, i6, i1] at *; omega)], rfl⟩
    · refine R_iload_n (i := 1) hC dX9_endOf_11 rfl rfl (R_aload_n (i := 0) hC dX9_endOf_12 rfl rfl (R_gR hC dX9_endOf_13 fl_X9_12 hD.1 rfl (R_gI hC dX9_endOf_16 fl_X9_41 hD.2.1.1 rfl ?_)))
      refine R_top (y := nI T.1) (k1) ?_
      refine R_icmp_ge hC 37 dX9_endOf_19 (by decide) (fun h19 => ?_) (fun h19 => ?_)
      · refine R_iconst (v := (-1)) hC dX9_endOf_37 (by decide) ?_
        exact R_iret hC hT dX9_endOf_38 rfl ⟨by rw [no (fun z => by simp only [i32_ge, i32_lt, Int32.toInt_zero, t1, i6, i1] at *; omega)], rfl⟩
      · refine R_iload_n (i := 1) hC dX9_endOf_22 rfl rfl (R_bipush (v := 6) hC dX9_endOf_23 (by decide) ?_)
        refine R_icmp_ge hC 37 dX9_endOf_25 (by decide) (fun h25 => ?_) (fun h25 => ?_)
        · refine R_iconst (v := (-1)) hC dX9_endOf_37 (by decide) ?_
          exact R_iret hC hT dX9_endOf_38 rfl ⟨by rw [no (fun z => by simp only [i32_ge, i32_lt, Int32.toInt_zero, t1, i6, i1] at *; omega)], rfl⟩
        · refine R_iload_n (i := 2) hC dX9_endOf_28 rfl rfl ?_
          refine R_if_lt hC 37 dX9_endOf_29 (by decide) (fun h29 => ?_) (fun h29 => ?_)
          · refine R_iconst (v := (-1)) hC dX9_endOf_37 (by decide) ?_
            exact R_iret hC hT dX9_endOf_38 rfl ⟨by rw [no (fun z => by simp only [i32_ge, i32_lt, Int32.toInt_zero, t1, i6, i1] at *; omega)], rfl⟩
          · refine R_iload_n (i := 2) hC dX9_endOf_32 rfl rfl (R_iconst (v := 1) hC dX9_endOf_33 (by decide) ?_)
            refine R_icmp_le hC 39 dX9_endOf_34 (by decide) (fun h34 => ?_) (fun h34 => ?_)
            · have cn : (0 ≤ a.toInt ∧ a.toInt < T.1) ∧ (0 ≤ q.toInt ∧ q.toInt ≤ 1) := by simp only [i32_ge, i32_lt, Int32.toInt_zero, t1, i6, i1] at *; omega
              obtain ⟨i, rfl, hi1, hi2⟩ := i32_nI cn.1.1
              have il : i < T.1 := by omega
              have hv := hA i il
              have ye : endZ T (nI i) q = nI (if q = 0 then t.1 i else t.2 i) := by unfold endZ; rw [cnd_t cn, ht, nI_clamp hi2]
              refine R_iload_n (i := 2) hC dX9_endOf_39 rfl rfl ?_
              refine R_if_ne hC 52 dX9_endOf_40 (by decide) (fun h40 => ?_) (fun h40 => ?_)
              · refine R_aload_n (i := 0) hC dX9_endOf_52 rfl rfl (R_gR hC dX9_endOf_53 fl_X9_22 hD.1 rfl (R_iload_n (i := 1) hC dX9_endOf_56 rfl rfl (R_aI hC dX9_endOf_57 hD.2.2.2 i rfl (by omega) (by decide) ?_)))
                first | refine R_top (y := nI (t.1 i)) hv.1 ?_ | refine R_top (y := nI (t.2 i)) hv.2 ?_
                exact R_iret hC hT dX9_endOf_58 rfl ⟨by rw [ye]; first | (rw [if_pos h40]; done) | (rw [if_neg h40]; done), rfl⟩
              · refine R_aload_n (i := 0) hC dX9_endOf_43 rfl rfl (R_gR hC dX9_endOf_44 fl_X9_18 hD.1 rfl (R_iload_n (i := 1) hC dX9_endOf_47 rfl rfl (R_aI hC dX9_endOf_48 hD.2.2.1 i rfl (by omega) (by decide) (R_goto hC 58 dX9_endOf_49 (by decide) ?_))))
                first | refine R_top (y := nI (t.1 i)) hv.1 ?_ | refine R_top (y := nI (t.2 i)) hv.2 ?_
                exact R_iret hC hT dX9_endOf_58 rfl ⟨by rw [ye]; first | (rw [if_pos h40]; done) | (rw [if_neg h40]; done), rfl⟩
            · refine R_iconst (v := (-1)) hC dX9_endOf_37 (by decide) ?_
              exact R_iret hC hT dX9_endOf_38 rfl ⟨by rw [no (fun z => by simp only [i32_ge, i32_lt, Int32.toInt_zero, t1, i6, i1] at *; omega)], rfl⟩
noncomputable def nxA (T : tb) (t : tre) (c node : Nat) : Option Nat := fs (fun q => cnd (onC T T.1 c q ∧ lvA T t c q = node) (some q) none) 0 T.1
theorem c_arcFrom {σ : sg} {x : aW} {b c node : Nat} {T : tb} {t : tre} (hD : DL b) (hT0 : CT σ (b + 1) T) (ok : ∀ i j, i < T.1 → j < T.2.1 → sml (T.2.2 i j)) (ha : AC σ b t T.1) (hc : c < T.2.1) (hok : nodOK t T.1) (hn : node ≤ 32) : Mt mX9_arcFrom 1 0 0 [.ref b, .int (nI c), .int (nI node)] (wd σ x) (QI (o2i (nxA T t c node)) (wd σ x)) := by
  refine Mt.of MI_X9_arcFrom (Nat.le_of_ble_eq_true rfl) (fun X hC hR hT => ?_)
  obtain ⟨k1, k2, k3, k4, k5⟩ := id hT0
  generalize hfn : (fun q => cnd (onC T T.1 c q ∧ lvA T t c q = node) (some q) none) = fn
  have e0 : nxA T t c node = fs fn 0 (T.1 - 0) := by unfold nxA; rw [hfn]; rfl
  have lp : ∀ j, j ≤ T.1 → ∀ l4, nxA T t c node = fs fn j (T.1 - j) → Rw mX9_arcFrom X 2 [some (.ref b), some (.int (nI c)), some (.int (nI node)), some (.int (nI j)), l4] [] (wd σ x) 0 0 := by
    refine up_loop T.1 ?_ ?_
    · intro l4 e
      rw [fs_0 (Nat.le_refl _)] at e
      refine R_iload_n (i := 3) hC dX9_arcFrom_2 rfl rfl (R_aload_n (i := 0) hC dX9_arcFrom_3 rfl rfl (R_gR hC dX9_arcFrom_4 fl_X9_12 hD.1 rfl (R_gI hC dX9_arcFrom_7 fl_X9_41 hD.2.1.1 rfl ?_)))
      refine R_top (y := nI T.1) (k1) ?_
      refine R_icmp_ge hC 54 dX9_arcFrom_10 (by decide) (fun _ => ?_) (fun h => absurd (Int32.le_refl _) h)
      refine R_iconst (v := (-1)) hC dX9_arcFrom_54 (by decide) ?_
      exact R_iret hC hT dX9_arcFrom_55 rfl ⟨by rw [e]; rfl, rfl⟩
    · intro j hj ih l4 e
      have sj := ok j c hj hc
      obtain ⟨v1, v2⟩ := lv7 (T := T) (c := c) hok hj
      have ei := nI_eq (a := lvA T t c j) (b := node) (by omega) (by omega)
      have skip : ¬ (onC T T.1 c j ∧ lvA T t c j = node) → nxA T t c node = fs fn (j + 1) (T.1 - (j + 1)) := fun z => by rw [e, fs_n hj (by rw [← hfn]; exact cnd_f z)]
      refine R_iload_n (i := 3) hC dX9_arcFrom_2 rfl rfl (R_aload_n (i := 0) hC dX9_arcFrom_3 rfl rfl (R_gR hC dX9_arcFrom_4 fl_X9_12 hD.1 rfl (R_gI hC dX9_arcFrom_7 fl_X9_41 hD.2.1.1 rfl ?_)))
      refine R_top (y := nI T.1) (k1) ?_
      refine R_icmp_ge hC 54 dX9_arcFrom_10 (by decide) (fun h => absurd h (nI_ge hj (by omega))) (fun _ => ?_)
      refine R_iload_n (i := 3) hC dX9_arcFrom_13 rfl rfl (R_bipush (v := 6) hC dX9_arcFrom_14 (by decide) ?_)
      refine R_icmp_ge hC 54 dX9_arcFrom_16 (by decide) (fun h => absurd h (nI_ge (show j < 6 by omega) (by decide))) (fun _ => ?_)
      refine R_aload_n (i := 0) hC dX9_arcFrom_19 rfl rfl (R_gR hC dX9_arcFrom_20 fl_X9_12 hD.1 rfl (R_iload_n (i := 3) hC dX9_arcFrom_23 rfl rfl (R_iload_n (i := 1) hC dX9_arcFrom_24 rfl rfl ?_)))
      refine R_V2i hC hR dX9_arcFrom_25 MV_X7_at ml_X9_79 hD.2.1.1 rfl (c_atN hD.2.1 hT0 hj hc) (by first | decide | omega) ⟨by decide, by decide⟩ (Nat.le_of_ble_eq_true rfl) ?_
      refine R_istore hC dX9_arcFrom_28 (by decide) rfl (R_iload hC dX9_arcFrom_30 rfl ?_)
      refine R_if_eq hC 48 dX9_arcFrom_32 (by decide) (fun h32 => ?_) (fun h32 => ?_)
      · refine R_iinc hC dX9_arcFrom_48 rfl (inc1 _) (by decide) rfl (R_goto hC 2 dX9_arcFrom_51 (by decide) ?_)
        first | exact ih _ (skip (fun z => z.1.2 h32)) | exact ih _ (skip (fun z => h43 (ei.mpr z.2)))
      · refine R_aload_n (i := 0) hC dX9_arcFrom_35 rfl rfl (R_iload_n (i := 3) hC dX9_arcFrom_36 rfl rfl (R_iload hC dX9_arcFrom_37 rfl ?_))
        refine R_V2i hC hR dX9_arcFrom_39 MV_X9_leaves ml_X9_82 hD.1 rfl (c_leaves hD ha (by omega) hj sj) (by first | decide | omega) ⟨by decide, by decide⟩ (Nat.le_of_ble_eq_true rfl) ?_
        refine R_iload_n (i := 2) hC dX9_arcFrom_42 rfl rfl ?_
        refine R_icmp_ne hC 48 dX9_arcFrom_43 (by decide) (fun h43 => ?_) (fun h43 => ?_)
        · refine R_iinc hC dX9_arcFrom_48 rfl (inc1 _) (by decide) rfl (R_goto hC 2 dX9_arcFrom_51 (by decide) ?_)
          first | exact ih _ (skip (fun z => z.1.2 h32)) | exact ih _ (skip (fun z => h43 (ei.mpr z.2)))
        · refine R_iload_n (i := 3) hC dX9_arcFrom_46 rfl rfl ?_
          exact R_iret hC hT dX9_arcFrom_47 rfl ⟨by rw [e, fs_y hj (by rw [← hfn]; exact cnd_t ⟨⟨hj, h32⟩, ei.mp h43⟩)]; rfl, rfl⟩
  refine R_iconst (v := 0) hC dX9_arcFrom_0 (by decide) (R_istore_n (i := 3) hC dX9_arcFrom_1 rfl (by decide) rfl ?_)
  exact lp 0 (Nat.zero_le _) _ e0
