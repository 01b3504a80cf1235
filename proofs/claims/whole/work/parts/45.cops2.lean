/-! ===== the class's acts on its own table ===== -/
theorem CI5.h40 {α : aS} (ok : aOK α) : (tP α).1 ≤ 40 := ok.2.2.2.2.2.1.1
theorem tbI_of {T : tb} (ok : tbOK T) (h : ¬ T.1 = 0) : tbI T := ⟨by omega, by have := ok.2.2.1; omega⟩
noncomputable def attA (α : aS) (k : Nat) (a b v : Int32) : Int32 × aS := if (tT α).1 = 0 then (0, α) else ((actC (tT α) k a b v).1, if (actC (tT α) k a b v).1 = -1 then pushT α (actC (tT α) k a b v).2 else α)
theorem actC_n {T : tb} {k : Nat} {a b v : Int32} (h : ¬ (actC T k a b v).1 = -1) : (actC T k a b v).2 = T := by
  have r : ∀ k, ¬ (actR T k a b).1 = -1 → (actR T k a b).2 = T := fun k h => by unfold actR at h ⊢; exact if_neg h
  unfold actC at h ⊢
  split
  · rename_i q; rw [if_pos q] at h; exact r k h
  · rename_i q; rw [if_neg q] at h
    split
    · rename_i q; rw [if_pos q] at h
      unfold setR at h ⊢
      split
      · rfl
      · rename_i q; rw [if_neg q] at h
        split
        · rfl
        · rename_i q; rw [if_neg q] at h; exact absurd rfl h
    · rename_i q; rw [if_neg q] at h
      split
      · rename_i q; rw [if_pos q] at h; exact r 6 h
      · rename_i q; rw [if_neg q] at h
        split
        · rename_i q; rw [if_pos q] at h; exact r 7 h
        · rfl
def CPost2 (σ : sg) (x : aW) (v : Int32) (α : aS) : Option Value → aW → Prop := fun r w => r = some (.int v) ∧ ∃ τ, w = wd τ x ∧ CInv τ α ∧ MEq σ τ ∧ τ.2.1 142 = σ.2.1 142
theorem CPost2.i {σ τ : sg} {x : aW} {v : Int32} {α : aS} (h : CInv τ α) (c : MEq σ τ) (d : τ.2.1 142 = σ.2.1 142) : CPost2 σ x v α (some (.int v)) (wd τ x) := ⟨rfl, τ, rfl, h, c, d⟩
theorem c_attemptD {σ : sg} {x : aW} {α : aS} (h : CInv σ α) (ok : aOK α) (k : Nat) (hk : k ≤ 8) (a b v : Int32) : Mt mX10_attempt 4 0 0 [.ref i_U, .int (nI k), .int a, .int b, .int v] (wd σ x) (CPost2 σ x (attA α k a b v).1 (attA α k a b v).2) := by
  refine Mt.of MI_X10_attempt (Nat.le_of_ble_eq_true rfl) (fun X hC hR hT => ?_)
  by_cases h0 : (tT α).1 = 0
  · have e : attA α k a b v = (0, α) := by unfold attA; rw [if_pos h0]
    refine R_aload_n (i := 0) hC dX10_attempt_0 rfl rfl (R_gR hC dX10_attempt_1 fl_X10_19 L_U rfl ?_)
    refine R_V0i hC hR dX10_attempt_4 MV_X7_isNone ml_X10_152 L_table rfl (c_isNone TL_table h.2.1) (by first | decide | omega) ⟨by decide, by decide⟩ (Nat.le_of_ble_eq_true rfl) ?_
    refine R_top (y := 1) (b2i_t h0) ?_
    refine R_if_eq hC 12 dX10_attempt_7 (by decide) (fun h => absurd h (by decide)) (fun _ => ?_)
    refine R_iconst (v := 0) hC dX10_attempt_10 (by decide) ?_
    exact R_iret hC hT dX10_attempt_11 rfl (by rw [e]; exact CPost2.i h (MEq.rf _) rfl)
  · have e : attA α k a b v = ((actC (tT α) k a b v).1, if (actC (tT α) k a b v).1 = -1 then pushT α (actC (tT α) k a b v).2 else α) := by unfold attA; rw [if_neg h0]
    have hI := tbI_of ok.2.2.1 h0
    refine R_aload_n (i := 0) hC dX10_attempt_0 rfl rfl (R_gR hC dX10_attempt_1 fl_X10_19 L_U rfl ?_)
    refine R_V0i hC hR dX10_attempt_4 MV_X7_isNone ml_X10_152 L_table rfl (c_isNone TL_table h.2.1) (by first | decide | omega) ⟨by decide, by decide⟩ (Nat.le_of_ble_eq_true rfl) ?_
    refine R_top (y := 0) (b2i_f h0) ?_
    refine R_if_eq hC 12 dX10_attempt_7 (by decide) (fun _ => ?_) (fun h => absurd rfl h)
    refine R_aload_n (i := 0) hC dX10_attempt_12 rfl rfl (R_gR hC dX10_attempt_13 fl_X10_23 L_U rfl (R_aload_n (i := 0) hC dX10_attempt_16 rfl rfl (R_gR hC dX10_attempt_17 fl_X10_19 L_U rfl ?_)))
    refine R_V1g hC hR dX10_attempt_20 MV_X7_copyFrom ml_X10_159 L_before rfl (c_copyFrom TL_before TL_table (by decide) h.2.1) (by first | decide | omega) ⟨by decide, by decide⟩ (Nat.le_of_ble_eq_true rfl) (fun r w1 hq => ?_)
    obtain ⟨rfl, τ, rfl, c, ht⟩ := hq
    refine R_aload_n (i := 0) hC dX10_attempt_23 rfl rfl (R_aload_n (i := 0) hC dX10_attempt_24 rfl rfl (R_gR hC dX10_attempt_25 fl_X10_19 L_U rfl (R_iload_n (i := 1) hC dX10_attempt_28 rfl rfl (R_iload_n (i := 2) hC dX10_attempt_29 rfl rfl (R_iload_n (i := 3) hC dX10_attempt_30 rfl rfl (R_iload hC dX10_attempt_31 rfl ?_))))))
    refine R_V4g hC hR dX10_attempt_33 MV_X7_act ml_X10_304 L_table rfl (c_act TL_table (h.2.1.ae c (by decide) (by decide)) hI ok.2.2.1.2.2.2 k hk a b v) (by first | decide | omega) ⟨by decide, by decide⟩ (Nat.le_of_ble_eq_true rfl) (fun r w1 hq => ?_)
    obtain ⟨rfl, υ, rfl, c2, ht2⟩ := hq
    have c3 : AE [19, 20, 21, 22] σ υ := (c.w (by decide)).tr (c2.w (by decide))
    skip
    by_cases hv : (actC (tT α) k a b v).1 = -1
    · refine R_top (y := -1) hv ?_
      refine R_V1g hC hR dX10_attempt_36 MV_X10_settle ml_X10_323 L_U rfl (c_settleY (h.2.2.2.2.1.ae c3 (by decide)) (CI5.h40 ok) (ht.ae c2 (by decide) (by decide))) (by first | decide | omega) ⟨by decide, by decide⟩ (Nat.le_of_ble_eq_true rfl) (fun r w1 hq => ?_)
      obtain ⟨rfl, ω, L, rfl, c4, d4, h5, hcc⟩ := hq
      exact R_iret hC hT dX10_attempt_39 rfl (by
      rw [e, if_pos hv, hv]
      have cc : AE ([19, 20, 21, 22] ++ L) σ ω := (c3.w (fun i q => List.mem_append_left _ q)).tr (c4.w (fun i q => List.mem_append_right _ q))
      have dd : ∀ i, i ∈ [19, 20, 21, 22] ++ L → scP i ∧ i < 176 := fun i q => by
        rcases List.mem_append.mp q with z | z
        · simp at z; unfold scP scT scq; omega
        · have := d4 i z; unfold scF scR at this; unfold scP scT scq; omega
      exact CPost2.i (CInv.push ok h cc (fun i q => (dd i q).1) (ht2.ae c4 (fun q => by have := d4 19 q; unfold scF scR at this; omega) (fun q => by have := d4 20 q; unfold scF scR at this; omega)) h5 (hcc _)) (cc.meq (fun i q => (dd i q).2)) (cc 142 (fun q => (List.mem_append.mp q).elim (fun z => absurd z (by decide)) (fun z => by have := d4 142 z; unfold scF scR at this; omega))).2.1)
    · refine R_V1i hC hR dX10_attempt_36 MV_X10_settle ml_X10_323 L_U rfl (c_settleN _ _ _ hv) (by first | decide | omega) ⟨by decide, by decide⟩ (Nat.le_of_ble_eq_true rfl) ?_
      exact R_iret hC hT dX10_attempt_39 rfl (by rw [e, if_neg hv]; rw [actC_n hv] at ht2; exact CPost2.i (CInv.mv ok h c3 (by intro i q; unfold scT scq; simp at q; omega) ht2) (c3.meq (by decide)) (c3 142 (by decide)).2.1)
theorem c_attempt {σ : sg} {x : aW} {α : aS} (h : CInv σ α) (ok : aOK α) (k : Nat) (hk : k ≤ 8) (a b v : Int32) : Mt mX10_attempt 4 0 0 [.ref i_U, .int (nI k), .int a, .int b, .int v] (wd σ x) (CPost σ x (attA α k a b v).1 (attA α k a b v).2) :=
  (c_attemptD h ok k hk a b v).mono (fun r w1 q => by obtain ⟨q1, τ, q2, q3, q4, -⟩ := q; exact ⟨q1, τ, q2, q3, q4⟩)
/-- no such act -/
theorem c_attemptN {σ : sg} {x : aW} {α : aS} (h : CInv σ α) (ok : aOK α) (a b v : Int32) : Mt mX10_attempt 4 0 0 [.ref i_U, .int (-1), .int a, .int b, .int v] (wd σ x) (CPost σ x (if (tT α).1 = 0 then 0 else 1) α) := by
  refine Mt.of MI_X10_attempt (Nat.le_of_ble_eq_true rfl) (fun X hC hR hT => ?_)
  by_cases h0 : (tT α).1 = 0
  · refine R_aload_n (i := 0) hC dX10_attempt_0 rfl rfl (R_gR hC dX10_attempt_1 fl_X10_19 L_U rfl ?_)
    refine R_V0i hC hR dX10_attempt_4 MV_X7_isNone ml_X10_152 L_table rfl (c_isNone TL_table h.2.1) (by first | decide | omega) ⟨by decide, by decide⟩ (Nat.le_of_ble_eq_true rfl) ?_
    refine R_top (y := 1) (b2i_t h0) ?_
    refine R_if_eq hC 12 dX10_attempt_7 (by decide) (fun h => absurd h (by decide)) (fun _ => ?_)
    refine R_iconst (v := 0) hC dX10_attempt_10 (by decide) ?_
    exact R_iret hC hT dX10_attempt_11 rfl (by rw [if_pos h0]; exact CPost.i h (MEq.rf _))
  · refine R_aload_n (i := 0) hC dX10_attempt_0 rfl rfl (R_gR hC dX10_attempt_1 fl_X10_19 L_U rfl ?_)
    refine R_V0i hC hR dX10_attempt_4 MV_X7_isNone ml_X10_152 L_table rfl (c_isNone TL_table h.2.1) (by first | decide | omega) ⟨by decide, by decide⟩ (Nat.le_of_ble_eq_true rfl) ?_
    refine R_top (y := 0) (b2i_f h0) ?_
    refine R_if_eq hC 12 dX10_attempt_7 (by decide) (fun _ => ?_) (fun h => absurd rfl h)
    refine R_aload_n (i := 0) hC dX10_attempt_12 rfl rfl (R_gR hC dX10_attempt_13 fl_X10_23 L_U rfl (R_aload_n (i := 0) hC dX10_attempt_16 rfl rfl (R_gR hC dX10_attempt_17 fl_X10_19 L_U rfl ?_)))
    refine R_V1g hC hR dX10_attempt_20 MV_X7_copyFrom ml_X10_159 L_before rfl (c_copyFrom TL_before TL_table (by decide) h.2.1) (by first | decide | omega) ⟨by decide, by decide⟩ (Nat.le_of_ble_eq_true rfl) (fun r w1 hq => ?_)
    obtain ⟨rfl, τ, rfl, c, ht⟩ := hq
    refine R_aload_n (i := 0) hC dX10_attempt_23 rfl rfl (R_aload_n (i := 0) hC dX10_attempt_24 rfl rfl (R_gR hC dX10_attempt_25 fl_X10_19 L_U rfl (R_iload_n (i := 1) hC dX10_attempt_28 rfl rfl (R_iload_n (i := 2) hC dX10_attempt_29 rfl rfl (R_iload_n (i := 3) hC dX10_attempt_30 rfl rfl (R_iload hC dX10_attempt_31 rfl ?_))))))
    refine R_V4g hC hR dX10_attempt_33 MV_X7_act ml_X10_304 L_table rfl (c_actN TL_table (h.2.1.ae c (by decide) (by decide)) a b v) (by first | decide | omega) ⟨by decide, by decide⟩ (Nat.le_of_ble_eq_true rfl) (fun r w1 hq => ?_)
    obtain ⟨rfl, υ, rfl, c2, ht2⟩ := hq
    have c3 : AE [19, 20, 21, 22] σ υ := (c.w (by decide)).tr (c2.w (by decide))
    refine R_V1i hC hR dX10_attempt_36 MV_X10_settle ml_X10_323 L_U rfl (c_settleN _ _ _ (by decide)) (by first | decide | omega) ⟨by decide, by decide⟩ (Nat.le_of_ble_eq_true rfl) ?_
    exact R_iret hC hT dX10_attempt_39 rfl (by rw [if_neg h0]; exact CPost.i (CInv.mv ok h c3 (by intro i q; unfold scT scq; simp at q; omega) ht2) (c3.meq (by decide)))
theorem CPost.t {σ τ : sg} {x : aW} {v : Int32} {α : aS} {r : Option Value} {w : aW} (e : MEq σ τ) (h : CPost τ x v α r w) : CPost σ x v α r w := by
  obtain ⟨a, υ, b, c, d⟩ := h
  exact ⟨a, υ, b, c, e.tr d⟩
theorem actC_val (T : tb) (k : Nat) (a b v : Int32) (h0 : ¬ T.1 = 0) : (actC T k a b v).1 = -1 ∨ ∃ j : Nat, j < 4 ∧ (actC T k a b v).1 = nI j := by
  have r : ∀ k, (actR T k a b).1 = -1 ∨ ∃ j : Nat, j < 4 ∧ (actR T k a b).1 = nI j := fun k => stopZ_val T k a b
  unfold actC
  split
  · exact r k
  · split
    · unfold setR
      split
      · exact Or.inr ⟨1, by decide, rfl⟩
      · split
        · exact Or.inr ⟨2, by decide, rfl⟩
        · exact Or.inl rfl
    · split
      · exact r 6
      · split
        · exact r 7
        · exact Or.inr ⟨1, by decide, rfl⟩
theorem attA_val (α : aS) (k : Nat) (a b v : Int32) : ((attA α k a b v).1 = -1) ∨ ∃ j : Nat, j < 4 ∧ (attA α k a b v).1 = nI j ∧ (attA α k a b v).2 = α := by
  unfold attA
  by_cases h0 : (tT α).1 = 0
  · rw [if_pos h0]; exact Or.inr ⟨0, by decide, rfl, rfl⟩
  · rw [if_neg h0]
    rcases actC_val (tT α) k a b v h0 with q | ⟨j, hj, q⟩
    · exact Or.inl q
    · refine Or.inr ⟨j, hj, q, ?_⟩
      show (if (actC (tT α) k a b v).1 = -1 then _ else α) = α
      rw [if_neg (by rw [q]; intro z; exact absurd z (by rcases (by omega : j = 0 ∨ j = 1 ∨ j = 2 ∨ j = 3) with rfl | rfl | rfl | rfl <;> decide))]
theorem opChange_att (α : aS) (r c v : Int32) : opChange α r c v = if (attA α 6 r c v).1 = -1 then ((tT α).2.2 r.toNatClampNeg c.toNatClampNeg, (attA α 6 r c v).2) else (-1000000, withZ α (attA α 6 r c v).1.toNatClampNeg) := by
  unfold opChange attA
  by_cases h0 : (tT α).1 = 0
  · rw [if_pos h0, if_pos h0, if_neg (show ¬ (0 : Int32) = -1 by decide)]; rfl
  · rw [if_neg h0, if_neg h0]
    simp only [show ∀ T, actC T 6 r c v = setR T r c v from fun T => rfl]
    unfold setR
    by_cases h1 : ¬ (inR (tT α).1 r ∧ inR (tT α).2.1 c ∧ sml v)
    · rw [if_pos h1, if_pos h1, if_neg (show ¬ (1 : Int32) = -1 by decide)]; rfl
    · rw [if_neg h1, if_neg h1]
      by_cases h2 : (tT α).2.2 r.toNatClampNeg c.toNatClampNeg = v
      · rw [if_pos h2, if_pos h2, if_neg (show ¬ (2 : Int32) = -1 by decide)]; rfl
      · rw [if_neg h2, if_neg h2, if_pos rfl, if_pos rfl]; rfl
theorem co_change {σ : sg} {x : aW} {α : aS} (h : CInv σ α) (ok : aOK α) (r c v : Int32) : Mt mX10_change 5 0 0 [.ref i_U, .int r, .int c, .int v] (wd σ x) (CPost σ x (opChange α r c v).1 (opChange α r c v).2) := by
  refine Mt.of MI_X10_change (Nat.le_of_ble_eq_true rfl) (fun X hC hR hT => ?_)
  rw [opChange_att] at hT
  refine R_aload_n (i := 0) hC dX10_change_0 rfl rfl (R_gR hC dX10_change_1 fl_X10_19 L_U rfl (R_iload_n (i := 1) hC dX10_change_4 rfl rfl (R_iload_n (i := 2) hC dX10_change_5 rfl rfl ?_)))
  refine R_V2i hC hR dX10_change_6 MV_X7_at ml_X10_133 L_table rfl (c_at TL_table h.2.1 _ _) (by first | decide | omega) ⟨by decide, by decide⟩ (Nat.le_of_ble_eq_true rfl) ?_
  refine R_istore hC dX10_change_9 (by decide) rfl (R_aload_n (i := 0) hC dX10_change_11 rfl rfl (R_aload_n (i := 0) hC dX10_change_12 rfl rfl (R_bipush (v := 6) hC dX10_change_13 (by decide) (R_iload_n (i := 1) hC dX10_change_15 rfl rfl (R_iload_n (i := 2) hC dX10_change_16 rfl rfl (R_iload_n (i := 3) hC dX10_change_17 rfl rfl ?_))))))
  refine R_V4g hC hR dX10_change_18 MV_X10_attempt ml_X10_137 L_U rfl (c_attempt h ok 6 (by decide) r c v) (by first | decide | omega) ⟨by decide, by decide⟩ (Nat.le_of_ble_eq_true rfl) (fun r w1 hq => ?_)
  obtain ⟨rfl, τ, rfl, hτ, c1⟩ := hq
  skip
  rcases attA_val α 6 r c v with q | ⟨j, hj, q, q2⟩
  · rw [if_pos q] at hT
    refine R_top (y := -1) q ?_
    have hin : inR (tT α).1 r ∧ inR (tT α).2.1 c := Classical.byContradiction fun z => by
      unfold attA at q
      split at q
      · exact absurd (show (0 : Int32) = -1 from q) (by decide)
      · have e : actC (tT α) 6 r c v = setR (tT α) r c v := rfl
        rw [e] at q
        unfold setR at q
        rw [if_pos (fun y => z ⟨y.1, y.2.1⟩)] at q
        exact absurd (show (1 : Int32) = -1 from q) (by decide)
    refine R_V1i hC hR dX10_change_21 MV_X10_refused ml_X10_141 L_U rfl (c_refusedN _ _) (by first | decide | omega) ⟨by decide, by decide⟩ (Nat.le_of_ble_eq_true rfl) ?_
    refine R_if_eq hC 32 dX10_change_24 (by decide) (fun _ => ?_) (fun h => absurd rfl h)
    refine R_iload hC dX10_change_32 rfl ?_
    exact R_iret hC hT dX10_change_34 rfl (by rw [atZ_y hin]; exact CPost.i hτ c1)
  · rw [if_neg (by rw [q]; intro z; exact absurd z (by rcases (by omega : j = 0 ∨ j = 1 ∨ j = 2 ∨ j = 3) with rfl | rfl | rfl | rfl <;> decide)), q, nI_clamp (by omega)] at hT
    rw [q2] at hτ
    refine R_top (y := nI j) q ?_
    refine R_V1i hC hR dX10_change_21 MV_X10_refused ml_X10_141 L_U rfl (c_refusedY _ _ j hj) (by first | decide | omega) ⟨by decide, by decide⟩ (Nat.le_of_ble_eq_true rfl) ?_
    refine R_if_eq hC 32 dX10_change_24 (by decide) (fun h => absurd h (by decide)) (fun _ => ?_)
    refine R_ldc hC dX10_change_27 kc_X10_145 (R_goto hC 34 dX10_change_29 (by decide) ?_)
    exact R_iret hC hT dX10_change_34 rfl (CPost.i (CInv.stat ok hτ hj) (c1.a (by decide)))
theorem c_actOfDeal (k : Int32) (w : aW) : Mt mX10_actOfDeal 0 0 0 [.int k] w (fun r w1 => w1 = w ∧ ((∃ j : Nat, j ≤ 5 ∧ k = nI j ∧ r = some (.int (nI j))) ∨ (k = nI 6 ∧ r = some (.int (nI 7))) ∨ (k = nI 7 ∧ r = some (.int (nI 8))) ∨ (¬ (0 ≤ k.toInt ∧ k.toInt ≤ 7) ∧ r = some (.int (-1))))) := by
  refine Mt.of MI_X10_actOfDeal (Nat.le_of_ble_eq_true rfl) (fun X hC hR hT => ?_)
  have e5 : (5 : Int32).toInt = 5 := by decide
  have e6 : (6 : Int32).toInt = 6 := by decide
  have e7 : (7 : Int32).toInt = 7 := by decide
  refine R_iload_n (i := 0) hC dX10_actOfDeal_0 rfl rfl ?_
  refine R_if_lt hC 11 dX10_actOfDeal_1 (by decide) (fun h1 => ?_) (fun h1 => ?_)
  · refine R_iload_n (i := 0) hC dX10_actOfDeal_11 rfl rfl (R_bipush (v := 6) hC dX10_actOfDeal_12 (by decide) ?_)
    refine R_icmp_ne hC 20 dX10_actOfDeal_14 (by decide) (fun h14 => ?_) (fun h14 => ?_)
    · refine R_iload_n (i := 0) hC dX10_actOfDeal_20 rfl rfl (R_bipush (v := 7) hC dX10_actOfDeal_21 (by decide) ?_)
      refine R_icmp_ne hC 31 dX10_actOfDeal_23 (by decide) (fun h23 => ?_) (fun h23 => ?_)
      · refine R_iconst (v := (-1)) hC dX10_actOfDeal_31 (by decide) ?_
        exact R_iret hC hT dX10_actOfDeal_32 rfl (by first
        | exact ⟨rfl, Or.inr (Or.inr (Or.inl ⟨h23, rfl⟩))⟩
        | exact ⟨rfl, Or.inr (Or.inr (Or.inr ⟨by
          have n6 : ¬ k.toInt = 6 := fun z => h14 (Int32.toInt_inj.mp z)
          have n7 : ¬ k.toInt = 7 := fun z => h23 (Int32.toInt_inj.mp z)
          simp only [i32_ge, i32_lt, Int32.toInt_zero, e5] at *
          omega, rfl⟩))⟩)
      · refine R_bipush (v := 8) hC dX10_actOfDeal_26 (by decide) (R_goto hC 32 dX10_actOfDeal_28 (by decide) ?_)
        exact R_iret hC hT dX10_actOfDeal_32 rfl (by first
        | exact ⟨rfl, Or.inr (Or.inr (Or.inl ⟨h23, rfl⟩))⟩
        | exact ⟨rfl, Or.inr (Or.inr (Or.inr ⟨by
          have n6 : ¬ k.toInt = 6 := fun z => h14 (Int32.toInt_inj.mp z)
          have n7 : ¬ k.toInt = 7 := fun z => h23 (Int32.toInt_inj.mp z)
          simp only [i32_ge, i32_lt, Int32.toInt_zero, e5] at *
          omega, rfl⟩))⟩)
    · refine R_bipush (v := 7) hC dX10_actOfDeal_17 (by decide) ?_
      exact R_iret hC hT dX10_actOfDeal_19 rfl ⟨rfl, Or.inr (Or.inl ⟨h14, rfl⟩)⟩
  · refine R_iload_n (i := 0) hC dX10_actOfDeal_4 rfl rfl (R_iconst (v := 5) hC dX10_actOfDeal_5 (by decide) ?_)
    refine R_icmp_gt hC 11 dX10_actOfDeal_6 (by decide) (fun h6 => ?_) (fun h6 => ?_)
    · refine R_iload_n (i := 0) hC dX10_actOfDeal_11 rfl rfl (R_bipush (v := 6) hC dX10_actOfDeal_12 (by decide) ?_)
      refine R_icmp_ne hC 20 dX10_actOfDeal_14 (by decide) (fun h14 => ?_) (fun h14 => ?_)
      · refine R_iload_n (i := 0) hC dX10_actOfDeal_20 rfl rfl (R_bipush (v := 7) hC dX10_actOfDeal_21 (by decide) ?_)
        refine R_icmp_ne hC 31 dX10_actOfDeal_23 (by decide) (fun h23 => ?_) (fun h23 => ?_)
        · refine R_iconst (v := (-1)) hC dX10_actOfDeal_31 (by decide) ?_
          exact R_iret hC hT dX10_actOfDeal_32 rfl (by first
          | exact ⟨rfl, Or.inr (Or.inr (Or.inl ⟨h23, rfl⟩))⟩
          | exact ⟨rfl, Or.inr (Or.inr (Or.inr ⟨by
            have n6 : ¬ k.toInt = 6 := fun z => h14 (Int32.toInt_inj.mp z)
            have n7 : ¬ k.toInt = 7 := fun z => h23 (Int32.toInt_inj.mp z)
            simp only [i32_ge, i32_lt, Int32.toInt_zero, e5] at *
            omega, rfl⟩))⟩)
        · refine R_bipush (v := 8) hC dX10_actOfDeal_26 (by decide) (R_goto hC 32 dX10_actOfDeal_28 (by decide) ?_)
          exact R_iret hC hT dX10_actOfDeal_32 rfl (by first
          | exact ⟨rfl, Or.inr (Or.inr (Or.inl ⟨h23, rfl⟩))⟩
          | exact ⟨rfl, Or.inr (Or.inr (Or.inr ⟨by
            have n6 : ¬ k.toInt = 6 := fun z => h14 (Int32.toInt_inj.mp z)
            have n7 : ¬ k.toInt = 7 := fun z => h23 (Int32.toInt_inj.mp z)
            simp only [i32_ge, i32_lt, Int32.toInt_zero, e5] at *
            omega, rfl⟩))⟩)
      · refine R_bipush (v := 7) hC dX10_actOfDeal_17 (by decide) ?_
        exact R_iret hC hT dX10_actOfDeal_19 rfl ⟨rfl, Or.inr (Or.inl ⟨h14, rfl⟩)⟩
    · refine R_iload_n (i := 0) hC dX10_actOfDeal_9 rfl rfl ?_
      exact R_iret hC hT dX10_actOfDeal_10 rfl (by
      have hk : 0 ≤ k.toInt ∧ k.toInt ≤ 5 := by simp only [i32_ge, i32_lt, Int32.toInt_zero, e5] at *; omega
      obtain ⟨j, rfl, hj, hj2⟩ := i32_nI hk.1
      exact ⟨rfl, Or.inl ⟨j, by omega, rfl, rfl⟩⟩)
theorem st_8 (T : tb) (a b : Int32) : stopZ T 8 a b = if T.1 = 0 then 0 else 1 := by
  unfold stopZ
  by_cases h : T.1 = 0
  · rw [if_pos h, if_pos h]
  · rw [if_neg h, if_neg h, if_neg (by decide), if_neg (by decide), if_neg (by decide), if_neg (by decide), if_neg (by decide), if_neg (by decide), if_neg (by decide), if_neg (by decide)]
theorem co_deal {σ : sg} {x : aW} {α : aS} (h : CInv σ α) (ok : aOK α) (kd a b : Int32) : Mt mX10_deal 5 0 0 [.ref i_U, .int kd, .int a, .int b] (wd σ x) (CPost σ x (opDeal α kd a b).1 (opDeal α kd a b).2) := by
  refine Mt.of MI_X10_deal (Nat.le_of_ble_eq_true rfl) (fun X hC hR hT => ?_)
  -- behind the act, by the number that deal has
  have fin : ∀ (k : Nat) (τ : sg) (v : Int32) (β : aS), opDeal α kd a b = (if stopZ (tT α) k a b = -1 then (nI (pushP (tP α) (tT α)).1, pushT α (doA k a.toNatClampNeg b.toNatClampNeg (tT α))) else (-1, withZ α (stopZ (tT α) k a b).toNatClampNeg)) → v = stopZ (tT α) k a b → β = (if stopZ (tT α) k a b = -1 then pushT α (doA k a.toNatClampNeg b.toNatClampNeg (tT α)) else α) → CInv τ β → MEq σ τ → Rw mX10_deal X 12 [some (.ref i_U), some (.int kd), some (.int a), some (.int b)] [.int v, .ref i_U] (wd τ x) 0 0 := by
    intro k τ v β eo ev eb hτ c1
    rw [eo] at hT
    rcases stopZ_val (tT α) k a b with q | ⟨j, hj, q⟩
    · rw [q, if_pos rfl] at hT eb
      rw [eb] at hτ
      refine R_top (y := -1) (by rw [ev, q]) ?_
      obtain ⟨o, _, _, p2, _⟩ := hτ.2.2.2.2.1
      refine R_V1i hC hR dX10_deal_12 MV_X10_refused ml_X10_141 L_U rfl (c_refusedN _ _) (by first | decide | omega) ⟨by decide, by decide⟩ (Nat.le_of_ble_eq_true rfl) ?_
      refine R_if_eq hC 22 dX10_deal_15 (by decide) (fun _ => ?_) (fun h => absurd rfl h)
      refine R_aload_n (i := 0) hC dX10_deal_22 rfl rfl (R_gR hC dX10_deal_23 fl_X10_32 L_U rfl (R_gI hC dX10_deal_26 fl_X10_149 L_past rfl ?_))
      exact R_iret hC hT dX10_deal_29 rfl (by rw [p2]; exact CPost.i hτ c1)
    · have nj : ¬ nI j = -1 := by rcases (by omega : j = 0 ∨ j = 1 ∨ j = 2 ∨ j = 3) with rfl | rfl | rfl | rfl <;> decide
      rw [q, if_neg nj] at hT eb
      rw [nI_clamp (by omega)] at hT
      rw [eb] at hτ
      refine R_top (y := nI j) (by rw [ev, q]) ?_
      refine R_V1i hC hR dX10_deal_12 MV_X10_refused ml_X10_141 L_U rfl (c_refusedY _ _ j hj) (by first | decide | omega) ⟨by decide, by decide⟩ (Nat.le_of_ble_eq_true rfl) ?_
      refine R_if_eq hC 22 dX10_deal_15 (by decide) (fun h => absurd h (by decide)) (fun _ => ?_)
      refine R_iconst (v := (-1)) hC dX10_deal_18 (by decide) (R_goto hC 29 dX10_deal_19 (by decide) ?_)
      exact R_iret hC hT dX10_deal_29 rfl (CPost.i (CInv.stat ok hτ hj) (c1.a (by decide)))
  have z0 : ∀ k, (tT α).1 = 0 → stopZ (tT α) k a b = 0 := fun k q => by unfold stopZ; rw [if_pos q]
  have op : ∀ k : Nat, k ≤ 7 → kd = nI k → opDeal α kd a b = (if stopZ (tT α) k a b = -1 then (nI (pushP (tP α) (tT α)).1, pushT α (doA k a.toNatClampNeg b.toNatClampNeg (tT α))) else (-1, withZ α (stopZ (tT α) k a b).toNatClampNeg)) := fun k hk e => by
    unfold opDeal
    rw [if_pos (by rw [e, nI_toInt (by omega)]; omega), e, nI_clamp (by omega)]
  have sel : ∀ (k k2 : Nat) (τ : sg), k ≤ 7 → kd = nI k → (actC (tT α) k2 a b 0 = actR (tT α) k a b) → CInv τ (attA α k2 a b 0).2 → MEq σ τ → Rw mX10_deal X 12 [some (.ref i_U), some (.int kd), some (.int a), some (.int b)] [.int (attA α k2 a b 0).1, .ref i_U] (wd τ x) 0 0 := by
    intro k k2 τ hk e ea hτ c1
    refine fin k τ _ _ (op k hk e) ?_ ?_ hτ c1
    · unfold attA
      split
      · rename_i q; rw [z0 k q]
      · rw [ea]; rfl
    · unfold attA
      split
      · rename_i q; rw [z0 k q, if_neg (by decide)]
      · show (if (actC (tT α) k2 a b 0).1 = -1 then pushT α (actC (tT α) k2 a b 0).2 else α) = _
        rw [ea]
        unfold actR
        split
        · first | rfl | (rename_i q; rw [if_pos q])
        · rfl
  refine R_aload_n (i := 0) hC dX10_deal_0 rfl rfl (R_aload_n (i := 0) hC dX10_deal_1 rfl rfl (R_iload_n (i := 1) hC dX10_deal_2 rfl rfl ?_))
  refine R_S1g hC hR dX10_deal_3 MS_X10_actOfDeal ml_X10_146 (c_actOfDeal kd _) (by first | decide | omega) ⟨by decide, by decide⟩ (Nat.le_of_ble_eq_true rfl) (fun r w1 hq => ?_)
  obtain ⟨rfl, hq⟩ := hq
  skip
  rcases hq with ⟨j, hj, e, rfl⟩ | ⟨e, rfl⟩ | ⟨e, rfl⟩ | ⟨e, rfl⟩
  · refine R_iload_n (i := 2) hC dX10_deal_6 rfl rfl (R_iload_n (i := 3) hC dX10_deal_7 rfl rfl (R_iconst (v := 0) hC dX10_deal_8 (by decide) ?_))
    refine R_V4g hC hR dX10_deal_9 MV_X10_attempt ml_X10_137 L_U rfl (c_attempt h ok j (by omega) a b 0) (by first | decide | omega) ⟨by decide, by decide⟩ (Nat.le_of_ble_eq_true rfl) (fun r w1 hq => ?_)
    obtain ⟨rfl, τ, rfl, hτ, c1⟩ := hq
    exact sel j j τ (by omega) e (by unfold actC; rw [if_pos hj]) hτ c1
  · refine R_iload_n (i := 2) hC dX10_deal_6 rfl rfl (R_iload_n (i := 3) hC dX10_deal_7 rfl rfl (R_iconst (v := 0) hC dX10_deal_8 (by decide) ?_))
    refine R_V4g hC hR dX10_deal_9 MV_X10_attempt ml_X10_137 L_U rfl (c_attempt h ok 7 (by omega) a b 0) (by first | decide | omega) ⟨by decide, by decide⟩ (Nat.le_of_ble_eq_true rfl) (fun r w1 hq => ?_)
    obtain ⟨rfl, τ, rfl, hτ, c1⟩ := hq
    exact sel 6 7 τ (by omega) e rfl hτ c1
  · refine R_iload_n (i := 2) hC dX10_deal_6 rfl rfl (R_iload_n (i := 3) hC dX10_deal_7 rfl rfl (R_iconst (v := 0) hC dX10_deal_8 (by decide) ?_))
    refine R_V4g hC hR dX10_deal_9 MV_X10_attempt ml_X10_137 L_U rfl (c_attempt h ok 8 (by omega) a b 0) (by first | decide | omega) ⟨by decide, by decide⟩ (Nat.le_of_ble_eq_true rfl) (fun r w1 hq => ?_)
    obtain ⟨rfl, τ, rfl, hτ, c1⟩ := hq
    exact sel 7 8 τ (by omega) e rfl hτ c1
  · refine R_iload_n (i := 2) hC dX10_deal_6 rfl rfl (R_iload_n (i := 3) hC dX10_deal_7 rfl rfl (R_iconst (v := 0) hC dX10_deal_8 (by decide) ?_))
    refine R_V4g hC hR dX10_deal_9 MV_X10_attempt ml_X10_137 L_U rfl (c_attemptN h ok a b 0) (by first | decide | omega) ⟨by decide, by decide⟩ (Nat.le_of_ble_eq_true rfl) (fun r w1 hq => ?_)
    obtain ⟨rfl, τ, rfl, hτ, c1⟩ := hq
    exact fin 8 τ _ _ (by unfold opDeal; rw [if_neg e]) (st_8 _ a b).symm (by rw [st_8, if_neg (by split <;> decide)]) hτ c1
