theorem M_ceq (σ : sg) : CEq σ (sG σ i_M 0 0) := (CEq.rf σ).g (Nat.le_refl _)
noncomputable def opKept (α : aS) (k r c : Int32) : Int32 := by classical exact
  if (inR (tK α).1 k ∧ inR ((tK α).2 k.toNatClampNeg).1 r ∧ inR ((tK α).2 k.toNatClampNeg).2.1 c) then ((tK α).2 k.toNatClampNeg).2.2 r.toNatClampNeg c.toNatClampNeg else -1000000
theorem mo_kept {σ : sg} {x : aW} {α : aS} (h : MInv σ α) (ok : aOK α) (k r c : Int32) : Mt mX11_kept 1 0 0 [.ref i_M, .int k, .int r, .int c] (wd σ x) (MPost σ x (opKept α k r c) α) := by
  refine Mt.of MI_X11_kept (Nat.le_of_ble_eq_true rfl) (fun X hC hR hT => ?_)
  have h1 := M_thr h 0
  have eK : ((sG σ i_M 0 0).1 i_M 12).toInt = (tK α).1 := by rw [sG_nk (by decide), h.2.2.1.1, nI_toInt (by have := ok.2.2.2.1.1; omega)]
  have no : ¬ (inR (tK α).1 k ∧ inR ((tK α).2 k.toNatClampNeg).1 r ∧ inR ((tK α).2 k.toNatClampNeg).2.1 c) → opKept α k r c = -1000000 := fun q => by unfold opKept; rw [if_neg q]
  refine R_aload_n (i := 0) hC dX11_kept_0 rfl rfl (R_iconst (v := 0) hC dX11_kept_1 (by decide) (R_pI hC dX11_kept_2 fl_X11_83 L_M rfl (R_aload_n (i := 0) hC dX11_kept_5 rfl rfl (R_iload_n (i := 1) hC dX11_kept_6 rfl rfl ?_))))
  refine R_V1i hC hR dX11_kept_7 MV_X11_isKept ml_X11_192 L_M rfl (s_isKept _ _ _) (by decide) ⟨by decide, by decide⟩ (Nat.le_of_ble_eq_true rfl) ?_
  rw [eK]
  refine R_if_eq hC 63 dX11_kept_10 (by decide) (fun h10 => ?_) (fun h10 => ?_)
  · refine R_ldc hC dX11_kept_63 kc_X11_133 ?_
    exact R_iret hC hT dX11_kept_65 rfl (by
    first
    | (rw [no (fun z => b2i_0 h10 z.1)]; exact MPost.i h1 (M_ceq σ))
    | (rw [no (fun z => by have := z.2.1.1; simp only [i32_lt, Int32.toInt_zero] at h14; omega)]; exact MPost.i h1 (M_ceq σ))
    | (rw [no (fun z => by have := z.2.1.2; simp only [i32_ge, tR] at h30; omega)]; exact MPost.i h1 (M_ceq σ))
    | (rw [no (fun z => by have := z.2.2.1; simp only [i32_lt, Int32.toInt_zero] at h34; omega)]; exact MPost.i h1 (M_ceq σ))
    | (rw [no (fun z => by have := z.2.2.2; simp only [i32_ge, tC] at h50; omega)]; exact MPost.i h1 (M_ceq σ))
    | (have e : opKept α (nI q) (nI i) (nI j) = ((tK α).2 q).2.2 i j := (by unfold opKept; rw [cq, if_pos ⟨inR_n hq (by omega), i1, i2⟩, nI_clamp hi2, nI_clamp hj2]); rw [e]; have e2 : (sG σ i_M 0 0).2.2 i_m_kept (38 * q + (6 * i + j)) = ((tK α).2 q).2.2 i j := hTR.2.2 i j hi hj; rw [e2]; exact MPost.i h1 (M_ceq σ)))
  · obtain ⟨q, rfl, hq, hq2⟩ := inR_i (n := (tK α).1) (b2i_ne h10)
    have hTR := h.2.2.1.2 q hq
    obtain ⟨⟨o1, o2, -, -⟩, o4⟩ := ok.2.2.2.1.2 q hq
    have b1 := ok.2.2.2.1.1
    have cq : (nI q).toNatClampNeg = q := nI_clamp hq2
    rw [cq] at no
    have eR : σ.2.2 i_m_kept (38 * q + 36) = nI ((tK α).2 q).1 := hTR.1
    have eC : σ.2.2 i_m_kept (38 * q + 37) = nI ((tK α).2 q).2.1 := hTR.2.1
    have tR := nI_toInt (n := ((tK α).2 q).1) (by omega)
    have tC := nI_toInt (n := ((tK α).2 q).2.1) (by omega)
    refine R_iload_n (i := 2) hC dX11_kept_13 rfl rfl ?_
    refine R_if_lt hC 63 dX11_kept_14 (by decide) (fun h14 => ?_) (fun h14 => ?_)
    · refine R_ldc hC dX11_kept_63 kc_X11_133 ?_
      exact R_iret hC hT dX11_kept_65 rfl (by
      first
      | (rw [no (fun z => b2i_0 h10 z.1)]; exact MPost.i h1 (M_ceq σ))
      | (rw [no (fun z => by have := z.2.1.1; simp only [i32_lt, Int32.toInt_zero] at h14; omega)]; exact MPost.i h1 (M_ceq σ))
      | (rw [no (fun z => by have := z.2.1.2; simp only [i32_ge, tR] at h30; omega)]; exact MPost.i h1 (M_ceq σ))
      | (rw [no (fun z => by have := z.2.2.1; simp only [i32_lt, Int32.toInt_zero] at h34; omega)]; exact MPost.i h1 (M_ceq σ))
      | (rw [no (fun z => by have := z.2.2.2; simp only [i32_ge, tC] at h50; omega)]; exact MPost.i h1 (M_ceq σ))
      | (have e : opKept α (nI q) (nI i) (nI j) = ((tK α).2 q).2.2 i j := (by unfold opKept; rw [cq, if_pos ⟨inR_n hq (by omega), i1, i2⟩, nI_clamp hi2, nI_clamp hj2]); rw [e]; have e2 : (sG σ i_M 0 0).2.2 i_m_kept (38 * q + (6 * i + j)) = ((tK α).2 q).2.2 i j := hTR.2.2 i j hi hj; rw [e2]; exact MPost.i h1 (M_ceq σ)))
    · refine R_iload_n (i := 2) hC dX11_kept_17 rfl rfl (R_aload_n (i := 0) hC dX11_kept_18 rfl rfl (R_gR hC dX11_kept_19 fl_X11_23 L_M rfl (R_bipush (v := 38) hC dX11_kept_22 (by decide) (R_iload_n (i := 1) hC dX11_kept_24 rfl rfl (R_imul hC dX11_kept_25 (R_bipush (v := 36) hC dX11_kept_26 (by decide) (R_iadd hC dX11_kept_28 ?_)))))))
      refine R_aI hC dX11_kept_29 L_m_kept (38 * q + 36) (n38 q 36) (by omega) (by decide) ?_
      refine R_top (y := nI ((tK α).2 q).1) eR ?_
      refine R_icmp_ge hC 63 dX11_kept_30 (by decide) (fun h30 => ?_) (fun h30 => ?_)
      · refine R_ldc hC dX11_kept_63 kc_X11_133 ?_
        exact R_iret hC hT dX11_kept_65 rfl (by
        first
        | (rw [no (fun z => b2i_0 h10 z.1)]; exact MPost.i h1 (M_ceq σ))
        | (rw [no (fun z => by have := z.2.1.1; simp only [i32_lt, Int32.toInt_zero] at h14; omega)]; exact MPost.i h1 (M_ceq σ))
        | (rw [no (fun z => by have := z.2.1.2; simp only [i32_ge, tR] at h30; omega)]; exact MPost.i h1 (M_ceq σ))
        | (rw [no (fun z => by have := z.2.2.1; simp only [i32_lt, Int32.toInt_zero] at h34; omega)]; exact MPost.i h1 (M_ceq σ))
        | (rw [no (fun z => by have := z.2.2.2; simp only [i32_ge, tC] at h50; omega)]; exact MPost.i h1 (M_ceq σ))
        | (have e : opKept α (nI q) (nI i) (nI j) = ((tK α).2 q).2.2 i j := (by unfold opKept; rw [cq, if_pos ⟨inR_n hq (by omega), i1, i2⟩, nI_clamp hi2, nI_clamp hj2]); rw [e]; have e2 : (sG σ i_M 0 0).2.2 i_m_kept (38 * q + (6 * i + j)) = ((tK α).2 q).2.2 i j := hTR.2.2 i j hi hj; rw [e2]; exact MPost.i h1 (M_ceq σ)))
      · refine R_iload_n (i := 3) hC dX11_kept_33 rfl rfl ?_
        refine R_if_lt hC 63 dX11_kept_34 (by decide) (fun h34 => ?_) (fun h34 => ?_)
        · refine R_ldc hC dX11_kept_63 kc_X11_133 ?_
          exact R_iret hC hT dX11_kept_65 rfl (by
          first
          | (rw [no (fun z => b2i_0 h10 z.1)]; exact MPost.i h1 (M_ceq σ))
          | (rw [no (fun z => by have := z.2.1.1; simp only [i32_lt, Int32.toInt_zero] at h14; omega)]; exact MPost.i h1 (M_ceq σ))
          | (rw [no (fun z => by have := z.2.1.2; simp only [i32_ge, tR] at h30; omega)]; exact MPost.i h1 (M_ceq σ))
          | (rw [no (fun z => by have := z.2.2.1; simp only [i32_lt, Int32.toInt_zero] at h34; omega)]; exact MPost.i h1 (M_ceq σ))
          | (rw [no (fun z => by have := z.2.2.2; simp only [i32_ge, tC] at h50; omega)]; exact MPost.i h1 (M_ceq σ))
          | (have e : opKept α (nI q) (nI i) (nI j) = ((tK α).2 q).2.2 i j := (by unfold opKept; rw [cq, if_pos ⟨inR_n hq (by omega), i1, i2⟩, nI_clamp hi2, nI_clamp hj2]); rw [e]; have e2 : (sG σ i_M 0 0).2.2 i_m_kept (38 * q + (6 * i + j)) = ((tK α).2 q).2.2 i j := hTR.2.2 i j hi hj; rw [e2]; exact MPost.i h1 (M_ceq σ)))
        · refine R_iload_n (i := 3) hC dX11_kept_37 rfl rfl (R_aload_n (i := 0) hC dX11_kept_38 rfl rfl (R_gR hC dX11_kept_39 fl_X11_23 L_M rfl (R_bipush (v := 38) hC dX11_kept_42 (by decide) (R_iload_n (i := 1) hC dX11_kept_44 rfl rfl (R_imul hC dX11_kept_45 (R_bipush (v := 37) hC dX11_kept_46 (by decide) (R_iadd hC dX11_kept_48 ?_)))))))
          refine R_aI hC dX11_kept_49 L_m_kept (38 * q + 37) (n38 q 37) (by omega) (by decide) ?_
          refine R_top (y := nI ((tK α).2 q).2.1) eC ?_
          refine R_icmp_ge hC 63 dX11_kept_50 (by decide) (fun h50 => ?_) (fun h50 => ?_)
          · refine R_ldc hC dX11_kept_63 kc_X11_133 ?_
            exact R_iret hC hT dX11_kept_65 rfl (by
            first
            | (rw [no (fun z => b2i_0 h10 z.1)]; exact MPost.i h1 (M_ceq σ))
            | (rw [no (fun z => by have := z.2.1.1; simp only [i32_lt, Int32.toInt_zero] at h14; omega)]; exact MPost.i h1 (M_ceq σ))
            | (rw [no (fun z => by have := z.2.1.2; simp only [i32_ge, tR] at h30; omega)]; exact MPost.i h1 (M_ceq σ))
            | (rw [no (fun z => by have := z.2.2.1; simp only [i32_lt, Int32.toInt_zero] at h34; omega)]; exact MPost.i h1 (M_ceq σ))
            | (rw [no (fun z => by have := z.2.2.2; simp only [i32_ge, tC] at h50; omega)]; exact MPost.i h1 (M_ceq σ))
            | (have e : opKept α (nI q) (nI i) (nI j) = ((tK α).2 q).2.2 i j := (by unfold opKept; rw [cq, if_pos ⟨inR_n hq (by omega), i1, i2⟩, nI_clamp hi2, nI_clamp hj2]); rw [e]; have e2 : (sG σ i_M 0 0).2.2 i_m_kept (38 * q + (6 * i + j)) = ((tK α).2 q).2.2 i j := hTR.2.2 i j hi hj; rw [e2]; exact MPost.i h1 (M_ceq σ)))
          · have i1 : inR ((tK α).2 q).1 r := ⟨by simp only [i32_lt, Int32.toInt_zero] at h14; omega, by simp only [i32_ge, tR] at h30; omega⟩
            have i2 : inR ((tK α).2 q).2.1 c := ⟨by simp only [i32_lt, Int32.toInt_zero] at h34; omega, by simp only [i32_ge, tC] at h50; omega⟩
            obtain ⟨i, rfl, hi, hi2⟩ := inR_i i1
            obtain ⟨j, rfl, hj, hj2⟩ := inR_i i2
            refine R_aload_n (i := 0) hC dX11_kept_53 rfl rfl (R_iload_n (i := 1) hC dX11_kept_54 rfl rfl (R_iload_n (i := 2) hC dX11_kept_55 rfl rfl (R_iload_n (i := 3) hC dX11_kept_56 rfl rfl ?_)))
            refine R_V3i hC hR dX11_kept_57 MV_X11_keptAt ml_X11_196 L_M rfl (s_keptAt _ _ q i j (by omega) (by omega)) (by decide) ⟨by decide, by decide⟩ (Nat.le_of_ble_eq_true rfl) ?_
            refine R_goto hC 65 dX11_kept_60 (by decide) ?_
            exact R_iret hC hT dX11_kept_65 rfl (by
            first
            | (rw [no (fun z => b2i_0 h10 z.1)]; exact MPost.i h1 (M_ceq σ))
            | (rw [no (fun z => by have := z.2.1.1; simp only [i32_lt, Int32.toInt_zero] at h14; omega)]; exact MPost.i h1 (M_ceq σ))
            | (rw [no (fun z => by have := z.2.1.2; simp only [i32_ge, tR] at h30; omega)]; exact MPost.i h1 (M_ceq σ))
            | (rw [no (fun z => by have := z.2.2.1; simp only [i32_lt, Int32.toInt_zero] at h34; omega)]; exact MPost.i h1 (M_ceq σ))
            | (rw [no (fun z => by have := z.2.2.2; simp only [i32_ge, tC] at h50; omega)]; exact MPost.i h1 (M_ceq σ))
            | (have e : opKept α (nI q) (nI i) (nI j) = ((tK α).2 q).2.2 i j := (by unfold opKept; rw [cq, if_pos ⟨inR_n hq (by omega), i1, i2⟩, nI_clamp hi2, nI_clamp hj2]); rw [e]; have e2 : (sG σ i_M 0 0).2.2 i_m_kept (38 * q + (6 * i + j)) = ((tK α).2 q).2.2 i j := hTR.2.2 i j hi hj; rw [e2]; exact MPost.i h1 (M_ceq σ)))
noncomputable def opStep (α : aS) (k i w : Int32) : Int32 := by classical exact
  if (inR (tS α).1 k ∧ inR ((tS α).2 k.toNatClampNeg).1 i ∧ inR 4 w) then ((tS α).2 k.toNatClampNeg).2 i.toNatClampNeg w.toNatClampNeg else -1000000
theorem mo_step {σ : sg} {x : aW} {α : aS} (h : MInv σ α) (ok : aOK α) (k i w : Int32) : Mt mX11_step 1 0 0 [.ref i_M, .int k, .int i, .int w] (wd σ x) (MPost σ x (opStep α k i w) α) := by
  refine Mt.of MI_X11_step (Nat.le_of_ble_eq_true rfl) (fun X hC hR hT => ?_)
  have h1 := M_thr h 0
  have eS : ((sG σ i_M 0 0).1 i_M 13).toInt = (tS α).1 := by rw [sG_nk (by decide), h.2.2.2.1.1, nI_toInt (by have := ok.2.2.2.2.1.1; omega)]
  have no : ¬ (inR (tS α).1 k ∧ inR ((tS α).2 k.toNatClampNeg).1 i ∧ inR 4 w) → opStep α k i w = -1000000 := fun q => by unfold opStep; rw [if_neg q]
  refine R_aload_n (i := 0) hC dX11_step_0 rfl rfl (R_iconst (v := 0) hC dX11_step_1 (by decide) (R_pI hC dX11_step_2 fl_X11_83 L_M rfl (R_aload_n (i := 0) hC dX11_step_5 rfl rfl (R_iload_n (i := 1) hC dX11_step_6 rfl rfl ?_))))
  refine R_V1i hC hR dX11_step_7 MV_X11_isPlan ml_X11_325 L_M rfl (s_isPlan _ _ _) (by decide) ⟨by decide, by decide⟩ (Nat.le_of_ble_eq_true rfl) ?_
  rw [eS]
  refine R_if_eq hC 61 dX11_step_10 (by decide) (fun h10 => ?_) (fun h10 => ?_)
  · refine R_ldc hC dX11_step_61 kc_X11_133 ?_
    exact R_iret hC hT dX11_step_63 rfl (by
    first
    | (rw [no (fun z => b2i_0 h10 z.1)]; exact MPost.i h1 (M_ceq σ))
    | (rw [no (fun z => ite0 h28 ⟨z.2.1.1, by have := z.2.1.2; omega⟩)]; exact MPost.i h1 (M_ceq σ))
    | (rw [no (fun z => ite0 h40 ⟨z.2.2.1, by have := z.2.2.2; omega⟩)]; exact MPost.i h1 (M_ceq σ))
    | (have e : opStep α (nI q) (nI a) (nI c) = ((tS α).2 q).2 a c := (by unfold opStep; rw [cq, if_pos ⟨inR_n hq (by omega), ⟨j1.1, by omega⟩, ⟨j2.1, by omega⟩⟩, nI_clamp ha2, nI_clamp hc2]); rw [e]; have e2 : (sG σ i_M 0 0).2.2 i_m_plan (4 * (12 * q + a) + c) = ((tS α).2 q).2 a c := (h.2.2.2.1.2 q hq).2 a c (by omega) (by omega); rw [e2]; exact MPost.i h1 (M_ceq σ)))
  · obtain ⟨q, rfl, hq, hq2⟩ := inR_i (n := (tS α).1) (b2i_ne h10)
    have b1 := ok.2.2.2.2.1.1
    obtain ⟨b2, b3, b4⟩ := ok.2.2.2.2.1.2 q hq
    have cq : (nI q).toNatClampNeg = q := nI_clamp hq2
    rw [cq] at no
    have hpl : σ.2.2 i_m_planLong q = nI ((tS α).2 q).1 := (h.2.2.2.1.2 q hq).1
    refine R_iload_n (i := 2) hC dX11_step_13 rfl rfl (R_i2l hC dX11_step_14 (R_lconst (v := 0) hC dX11_step_15 (by decide) (R_aload_n (i := 0) hC dX11_step_16 rfl rfl (R_gR hC dX11_step_17 fl_X11_29 L_M rfl (R_iload_n (i := 1) hC dX11_step_20 rfl rfl (R_aI hC dX11_step_21 L_m_planLong q rfl (by omega) (by decide) ?_))))))
    refine R_top (y := nI ((tS α).2 q).1) hpl ?_
    refine R_iconst (v := 1) hC dX11_step_22 (by decide) (R_isub hC dX11_step_23 ?_)
    refine R_top (y := nI (((tS α).2 q).1 - 1)) (nI_dec (by omega)) ?_
    refine R_i2l hC dX11_step_24 ?_
    refine R_S3i hC hR dX11_step_25 MS_X11_isIn ml_X11_140 (s_isInZ i 0 _ 0 (((tS α).2 q).1 - 1 : Nat) (by decide) (by rw [Int32.toInt_toInt64, nI_toInt (by omega)]) _) (by decide) ⟨by decide, by decide⟩ (Nat.le_of_ble_eq_true rfl) ?_
    refine R_if_eq hC 61 dX11_step_28 (by decide) (fun h28 => ?_) (fun h28 => ?_)
    · refine R_ldc hC dX11_step_61 kc_X11_133 ?_
      exact R_iret hC hT dX11_step_63 rfl (by
      first
      | (rw [no (fun z => b2i_0 h10 z.1)]; exact MPost.i h1 (M_ceq σ))
      | (rw [no (fun z => ite0 h28 ⟨z.2.1.1, by have := z.2.1.2; omega⟩)]; exact MPost.i h1 (M_ceq σ))
      | (rw [no (fun z => ite0 h40 ⟨z.2.2.1, by have := z.2.2.2; omega⟩)]; exact MPost.i h1 (M_ceq σ))
      | (have e : opStep α (nI q) (nI a) (nI c) = ((tS α).2 q).2 a c := (by unfold opStep; rw [cq, if_pos ⟨inR_n hq (by omega), ⟨j1.1, by omega⟩, ⟨j2.1, by omega⟩⟩, nI_clamp ha2, nI_clamp hc2]); rw [e]; have e2 : (sG σ i_M 0 0).2.2 i_m_plan (4 * (12 * q + a) + c) = ((tS α).2 q).2 a c := (h.2.2.2.1.2 q hq).2 a c (by omega) (by omega); rw [e2]; exact MPost.i h1 (M_ceq σ)))
    · refine R_iload_n (i := 3) hC dX11_step_31 rfl rfl (R_i2l hC dX11_step_32 (R_lconst (v := 0) hC dX11_step_33 (by decide) (R_ldc2 hC dX11_step_34 kc_X11_231 ?_)))
      refine R_S3i hC hR dX11_step_37 MS_X11_isIn ml_X11_140 (s_isInZ w 0 3 0 3 (by decide) (by decide) _) (by decide) ⟨by decide, by decide⟩ (Nat.le_of_ble_eq_true rfl) ?_
      refine R_if_eq hC 61 dX11_step_40 (by decide) (fun h40 => ?_) (fun h40 => ?_)
      · refine R_ldc hC dX11_step_61 kc_X11_133 ?_
        exact R_iret hC hT dX11_step_63 rfl (by
        first
        | (rw [no (fun z => b2i_0 h10 z.1)]; exact MPost.i h1 (M_ceq σ))
        | (rw [no (fun z => ite0 h28 ⟨z.2.1.1, by have := z.2.1.2; omega⟩)]; exact MPost.i h1 (M_ceq σ))
        | (rw [no (fun z => ite0 h40 ⟨z.2.2.1, by have := z.2.2.2; omega⟩)]; exact MPost.i h1 (M_ceq σ))
        | (have e : opStep α (nI q) (nI a) (nI c) = ((tS α).2 q).2 a c := (by unfold opStep; rw [cq, if_pos ⟨inR_n hq (by omega), ⟨j1.1, by omega⟩, ⟨j2.1, by omega⟩⟩, nI_clamp ha2, nI_clamp hc2]); rw [e]; have e2 : (sG σ i_M 0 0).2.2 i_m_plan (4 * (12 * q + a) + c) = ((tS α).2 q).2 a c := (h.2.2.2.1.2 q hq).2 a c (by omega) (by omega); rw [e2]; exact MPost.i h1 (M_ceq σ)))
      · have j1 := ite1 h28
        have j2 := ite1 h40
        obtain ⟨a, rfl, ha, ha2⟩ := i32_nI j1.1
        obtain ⟨c, rfl, hc, hc2⟩ := i32_nI j2.1
        refine R_aload_n (i := 0) hC dX11_step_43 rfl rfl (R_gR hC dX11_step_44 fl_X11_26 L_M rfl (R_iconst (v := 4) hC dX11_step_47 (by decide) (R_bipush (v := 12) hC dX11_step_48 (by decide) (R_iload_n (i := 1) hC dX11_step_50 rfl rfl (R_imul hC dX11_step_51 (R_iload_n (i := 2) hC dX11_step_52 rfl rfl (R_iadd hC dX11_step_53 ?_)))))))
        refine R_imul hC dX11_step_54 (R_iload_n (i := 3) hC dX11_step_55 rfl rfl (R_iadd hC dX11_step_56 (R_aI hC dX11_step_57 L_m_plan (4 * (12 * q + a) + c) (by rw [n412, nI_add]) (by omega) (by decide) (R_goto hC 63 dX11_step_58 (by decide) ?_))))
        exact R_iret hC hT dX11_step_63 rfl (by
        first
        | (rw [no (fun z => b2i_0 h10 z.1)]; exact MPost.i h1 (M_ceq σ))
        | (rw [no (fun z => ite0 h28 ⟨z.2.1.1, by have := z.2.1.2; omega⟩)]; exact MPost.i h1 (M_ceq σ))
        | (rw [no (fun z => ite0 h40 ⟨z.2.2.1, by have := z.2.2.2; omega⟩)]; exact MPost.i h1 (M_ceq σ))
        | (have e : opStep α (nI q) (nI a) (nI c) = ((tS α).2 q).2 a c := (by unfold opStep; rw [cq, if_pos ⟨inR_n hq (by omega), ⟨j1.1, by omega⟩, ⟨j2.1, by omega⟩⟩, nI_clamp ha2, nI_clamp hc2]); rw [e]; have e2 : (sG σ i_M 0 0).2.2 i_m_plan (4 * (12 * q + a) + c) = ((tS α).2 q).2 a c := (h.2.2.2.1.2 q hq).2 a c (by omega) (by omega); rw [e2]; exact MPost.i h1 (M_ceq σ)))
/-- how many of the first n places, by rows, are not 0 -/
noncomputable def cntT (T : tb) : Nat → Nat
  | 0 => 0
  | n + 1 => by classical exact cntT T n + (if (n / 6 < T.1 ∧ n % 6 < T.2.1 ∧ ¬ T.2.2 (n / 6) (n % 6) = 0) then 1 else 0)
noncomputable def opCount (α : aS) (w : Int32) : Int32 :=
  if w = 0 then nI (tT α).1 else if w = 1 then nI (tT α).2.1 else if w = 2 then nI (tK α).1 else if w = 3 then nI (tS α).1 else if w = 4 then nI (tp α).1 else if w = 5 then nI (tP α).1 else if w = 6 then nI (cntT (tT α) 36) else -1000000
theorem sw7 {x : Int32} (h1 : 0 ≤ x.toInt) (h2 : x.toInt ≤ 6) : x = nI 0 ∨ x = nI 1 ∨ x = nI 2 ∨ x = nI 3 ∨ x = nI 4 ∨ x = nI 5 ∨ x = nI 6 := by
  obtain ⟨j, rfl, hj, -⟩ := i32_nI h1
  rcases (by omega : j = 0 ∨ j = 1 ∨ j = 2 ∨ j = 3 ∨ j = 4 ∨ j = 5 ∨ j = 6) with rfl | rfl | rfl | rfl | rfl | rfl | rfl <;> simp
theorem mo_count {σ : sg} {x : aW} {α : aS} (h : MInv σ α) (ok : aOK α) (w : Int32) : Mt mX11_count 1 0 0 [.ref i_M, .int w] (wd σ x) (MPost σ x (opCount α w) α) := by
  refine Mt.of MI_X11_count (Nat.le_of_ble_eq_true rfl) (fun X hC hR hT => ?_)
  have h1 := M_thr h 0
  have hTB : TB (σ.2.2 i_m_now) (tT α) := h.2.1.TB ok.2.2.1
  obtain ⟨o1, o2, -, -⟩ := ok.2.2.1
  have fin : ∀ v, v = opCount α w → MPost σ x (opCount α w) α (some (.int v)) (wd (sG σ i_M 0 0) x) := fun v e => by rw [e]; exact MPost.i h1 (M_ceq σ)
  have sw : ∀ u3, Rw mX11_count X 57 [some (.ref i_M), some (.int w), some (.int (nI (cntT (tT α) 36))), u3] [] (wd (sG σ i_M 0 0) x) 0 0 := by
    intro u3
    by_cases hw : 0 ≤ w.toInt ∧ w.toInt ≤ 6
    · rcases sw7 hw.1 hw.2 with rfl | rfl | rfl | rfl | rfl | rfl | rfl
      · refine R_iload_n (i := 1) hC dX11_count_57 rfl rfl ?_
        refine R_tableIn hC 100 dX11_count_58 (by decide) (by decide) rfl (by decide) ?_
        refine R_aload_n (i := 0) hC dX11_count_100 rfl rfl (R_gR hC dX11_count_101 fl_X11_13 L_M rfl (R_bipush (v := 36) hC dX11_count_104 (by decide) (R_aI hC dX11_count_106 L_m_now 36 rfl (by decide) (by decide) ?_)))
        exact R_iret hC hT dX11_count_107 rfl (fin _ h.2.1.1)
      · refine R_iload_n (i := 1) hC dX11_count_57 rfl rfl ?_
        refine R_tableIn hC 108 dX11_count_58 (by decide) (by decide) rfl (by decide) ?_
        refine R_aload_n (i := 0) hC dX11_count_108 rfl rfl (R_gR hC dX11_count_109 fl_X11_13 L_M rfl (R_bipush (v := 37) hC dX11_count_112 (by decide) (R_aI hC dX11_count_114 L_m_now 37 rfl (by decide) (by decide) ?_)))
        exact R_iret hC hT dX11_count_115 rfl (fin _ h.2.1.2.1)
      · refine R_iload_n (i := 1) hC dX11_count_57 rfl rfl ?_
        refine R_tableIn hC 116 dX11_count_58 (by decide) (by decide) rfl (by decide) ?_
        refine R_aload_n (i := 0) hC dX11_count_116 rfl rfl (R_gI hC dX11_count_117 fl_X11_189 L_M rfl ?_)
        exact R_iret hC hT dX11_count_120 rfl (fin _ (by rw [sG_nk (by decide)]; exact h.2.2.1.1))
      · refine R_iload_n (i := 1) hC dX11_count_57 rfl rfl ?_
        refine R_tableIn hC 121 dX11_count_58 (by decide) (by decide) rfl (by decide) ?_
        refine R_aload_n (i := 0) hC dX11_count_121 rfl rfl (R_gI hC dX11_count_122 fl_X11_150 L_M rfl ?_)
        exact R_iret hC hT dX11_count_125 rfl (fin _ (by rw [sG_nk (by decide)]; exact h.2.2.2.1.1))
      · refine R_iload_n (i := 1) hC dX11_count_57 rfl rfl ?_
        refine R_tableIn hC 126 dX11_count_58 (by decide) (by decide) rfl (by decide) ?_
        refine R_aload_n (i := 0) hC dX11_count_126 rfl rfl (R_gI hC dX11_count_127 fl_X11_87 L_M rfl ?_)
        exact R_iret hC hT dX11_count_130 rfl (fin _ (by rw [sG_nk (by decide)]; exact h.1.1))
      · refine R_iload_n (i := 1) hC dX11_count_57 rfl rfl ?_
        refine R_tableIn hC 131 dX11_count_58 (by decide) (by decide) rfl (by decide) ?_
        refine R_aload_n (i := 0) hC dX11_count_131 rfl rfl (R_gI hC dX11_count_132 fl_X11_155 L_M rfl ?_)
        exact R_iret hC hT dX11_count_135 rfl (fin _ (by rw [sG_nk (by decide)]; exact h.2.2.2.2.1.1))
      · refine R_iload_n (i := 1) hC dX11_count_57 rfl rfl ?_
        refine R_tableIn hC 136 dX11_count_58 (by decide) (by decide) rfl (by decide) ?_
        refine R_iload_n (i := 2) hC dX11_count_136 rfl rfl ?_
        exact R_iret hC hT dX11_count_137 rfl (fin _ rfl)
    · refine R_iload_n (i := 1) hC dX11_count_57 rfl rfl ?_
      refine R_tableOut hC 138 dX11_count_58 (by omega) (by decide) ?_
      refine R_ldc hC dX11_count_138 kc_X11_133 ?_
      exact R_iret hC hT dX11_count_140 rfl (fin _ (by
      have n : ∀ j : Nat, j ≤ 6 → ¬ w = nI j := fun j hj e => hw (by rw [e, nI_toInt (by omega)]; omega)
      unfold opCount
      rw [if_neg (show ¬ w = 0 from n 0 (by decide)), if_neg (show ¬ w = 1 from n 1 (by decide)), if_neg (show ¬ w = 2 from n 2 (by decide)), if_neg (show ¬ w = 3 from n 3 (by decide)), if_neg (show ¬ w = 4 from n 4 (by decide)), if_neg (show ¬ w = 5 from n 5 (by decide)), if_neg (show ¬ w = 6 from n 6 (by decide))]))
  have loop : ∀ n, n ≤ 36 → Rw mX11_count X 9 [some (.ref i_M), some (.int w), some (.int (nI (cntT (tT α) n))), some (.int (nI n))] [] (wd (sG σ i_M 0 0) x) 0 0 := by
    refine up_loop 36 ?_ ?_
    · refine R_iload_n (i := 3) hC dX11_count_9 rfl rfl (R_bipush (v := 36) hC dX11_count_10 (by decide) ?_)
      refine R_icmp_ge hC 57 dX11_count_12 (by decide) (fun _ => ?_) (fun h => absurd (by decide) h)
      exact sw _
    · intro n hn ih
      have e6 : n = 6 * (n / 6) + n % 6 := by omega
      have nx : ∀ (b : Nat), cntT (tT α) (n + 1) = cntT (tT α) n + b → Rw mX11_count X 49 [some (.ref i_M), some (.int w), some (.int (nI (cntT (tT α) n))), some (.int (nI n))] [.int (nI b), .int (nI (cntT (tT α) n))] (wd (sG σ i_M 0 0) x) 0 0 := by
        intro b hb
        rw [hb] at ih
        refine R_iadd hC dX11_count_49 ?_
        refine R_top (nI_add _ _) ?_
        refine R_istore_n (i := 2) hC dX11_count_50 rfl (by decide) rfl (R_iinc hC dX11_count_51 rfl (inc1 _) (by decide) rfl (R_goto hC 9 dX11_count_54 (by decide) ?_))
        exact ih
      refine R_iload_n (i := 3) hC dX11_count_9 rfl rfl (R_bipush (v := 36) hC dX11_count_10 (by decide) ?_)
      refine R_icmp_ge hC 57 dX11_count_12 (by decide) (fun h => absurd h (nI_ge (b := 36) hn (by decide))) (fun _ => ?_)
      refine R_iload_n (i := 2) hC dX11_count_15 rfl rfl (R_aload_n (i := 0) hC dX11_count_16 rfl rfl (R_aload_n (i := 0) hC dX11_count_17 rfl rfl (R_gR hC dX11_count_18 fl_X11_13 L_M rfl (R_iload_n (i := 3) hC dX11_count_21 rfl rfl (R_bipush (v := 6) hC dX11_count_22 (by decide) (R_idiv hC dX11_count_24 (by decide) ?_))))))
      refine R_top (y := nI (n / 6)) (by rw [show (6 : Int32) = nI 6 from rfl]; exact pk_div (by omega) (by decide) (by decide)) ?_
      refine R_iload_n (i := 3) hC dX11_count_25 rfl rfl (R_bipush (v := 6) hC dX11_count_26 (by decide) (R_irem hC dX11_count_28 (by decide) ?_))
      refine R_top (y := nI (n % 6)) (by rw [show (6 : Int32) = nI 6 from rfl]; exact pk_rem (by omega) (by decide) (by decide)) ?_
      refine R_V3i hC hR dX11_count_29 MV_X11_isCell ml_X11_158 L_M rfl (s_isCell _ _ _ L_m_now _ _) (by decide) ⟨by decide, by decide⟩ (Nat.le_of_ble_eq_true rfl) ?_
      refine R_if_eq hC 48 dX11_count_32 (by decide) (fun h32 => ?_) (fun h32 => ?_)
      · refine R_iconst (v := 0) hC dX11_count_48 (by decide) ?_
        first
        | exact nx 1 (by rw [cntT, if_pos ⟨q1, q2, h41⟩])
        | (have h42 := h41; exact nx 0 (by rw [cntT, if_neg (fun z => z.2.2 h42)]))
        | exact nx 0 (by rw [cntT, if_neg (fun z => b2i_0 h32 (hTB.inT_iff.mpr ⟨inR_n z.1 (by omega), inR_n z.2.1 (by omega)⟩))])
      · have hin := hTB.inT_iff.mp (b2i_ne h32)
        have q1 : n / 6 < (tT α).1 := by have := hin.1.2; rw [nI_toInt (by omega)] at this; omega
        have q2 : n % 6 < (tT α).2.1 := by have := hin.2.2; rw [nI_toInt (by omega)] at this; omega
        have ev : σ.2.2 i_m_now n = (tT α).2.2 (n / 6) (n % 6) := by have := h.2.1.2.2 (n / 6) (n % 6) q1 q2; rwa [← e6] at this
        refine R_aload_n (i := 0) hC dX11_count_35 rfl rfl (R_gR hC dX11_count_36 fl_X11_13 L_M rfl (R_iload_n (i := 3) hC dX11_count_39 rfl rfl (R_aI hC dX11_count_40 L_m_now n rfl (by omega) (by decide) ?_)))
        refine R_top (y := (tT α).2.2 (n / 6) (n % 6)) ev ?_
        refine R_if_eq hC 48 dX11_count_41 (by decide) (fun h41 => ?_) (fun h41 => ?_)
        · refine R_iconst (v := 0) hC dX11_count_48 (by decide) ?_
          first
          | exact nx 1 (by rw [cntT, if_pos ⟨q1, q2, h41⟩])
          | (have h42 := h41; exact nx 0 (by rw [cntT, if_neg (fun z => z.2.2 h42)]))
          | exact nx 0 (by rw [cntT, if_neg (fun z => b2i_0 h32 (hTB.inT_iff.mpr ⟨inR_n z.1 (by omega), inR_n z.2.1 (by omega)⟩))])
        · refine R_iconst (v := 1) hC dX11_count_44 (by decide) (R_goto hC 49 dX11_count_45 (by decide) ?_)
          first
          | exact nx 1 (by rw [cntT, if_pos ⟨q1, q2, h41⟩])
          | (have h42 := h41; exact nx 0 (by rw [cntT, if_neg (fun z => z.2.2 h42)]))
          | exact nx 0 (by rw [cntT, if_neg (fun z => b2i_0 h32 (hTB.inT_iff.mpr ⟨inR_n z.1 (by omega), inR_n z.2.1 (by omega)⟩))])
  refine R_aload_n (i := 0) hC dX11_count_0 rfl rfl (R_iconst (v := 0) hC dX11_count_1 (by decide) (R_pI hC dX11_count_2 fl_X11_83 L_M rfl (R_iconst (v := 0) hC dX11_count_5 (by decide) (R_istore_n (i := 2) hC dX11_count_6 rfl (by decide) rfl (R_iconst (v := 0) hC dX11_count_7 (by decide) (R_istore_n (i := 3) hC dX11_count_8 rfl (by decide) rfl ?_))))))
  exact loop 0 (by decide)
