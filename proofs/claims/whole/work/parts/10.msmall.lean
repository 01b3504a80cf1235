theorem sG_eq (σ : sg) (i k : Nat) (v : Int32) : (sG σ i k v).1 i k = v := by simp [sG]
theorem sG_nk {σ : sg} {i k a b : Nat} {v : Int32} (h : b ≠ k) : (sG σ i k v).1 a b = σ.1 a b := by
  show (if a = i then (if b = k then v else σ.1 a b) else σ.1 a b) = _
  rw [if_neg h]; split <;> rfl
theorem sG_ni {σ : sg} {i k a b : Nat} {v : Int32} (h : a ≠ i) : (sG σ i k v).1 a b = σ.1 a b := if_neg h
theorem b2i_ne {p : Prop} (h : ¬ b2i p = 0) : p := Classical.byContradiction fun q => h (b2i_f q)
theorem b2i_0 {p : Prop} (h : b2i p = 0) : ¬ p := fun q => by rw [b2i_t q] at h; exact absurd h (by decide)
theorem b2i_z (p : Prop) : narrow .boolean (.int (b2i p)) = .int (b2i p) := by
  by_cases h : p
  · rw [b2i_t h]; decide
  · rw [b2i_f h]; decide
theorem i32_nI {k : Int32} (h : 0 ≤ k.toInt) : ∃ j : Nat, k = nI j ∧ (j : Int) = k.toInt ∧ j < 2 ^ 31 := by
  refine ⟨k.toInt.toNat, ?_, by omega, ?_⟩
  · apply Int32.toInt_inj.mp
    have h2 : k.toInt.toNat < 2 ^ 31 := by have := Int32.toInt_lt k; omega
    rw [nI_toInt h2]; omega
  · have := Int32.toInt_lt k; omega
theorem ite1 {p : Prop} {_ : Decidable p} (h : ¬ (if p then (1 : Int32) else 0) = 0) : p := Decidable.byContradiction fun q => h (if_neg q)
theorem ite0 {p : Prop} {_ : Decidable p} (h : (if p then (1 : Int32) else 0) = 0) : ¬ p := fun q => by rw [if_pos q] at h; exact absurd h (by decide)
theorem s_isInZ (v : Int32) (a b : Int64) (A B : Int) (ha : a.toInt = A) (hb : b.toInt = B) (w : aW) : Mt mX11_isIn 0 0 0 [.long v.toInt64, .long a, .long b] w (QI (if A ≤ v.toInt ∧ v.toInt ≤ B then 1 else 0) w) := by
  subst ha; subst hb; exact s_isInI v a b w
theorem dX11_thrown_0 : decode cX11_thrown 0 = .ok (.aload_n 0, 1) := by decide +kernel
theorem dX11_thrown_1 : decode cX11_thrown 1 = .ok (.getfield 83, 3) := by decide +kernel
theorem dX11_thrown_4 : decode cX11_thrown 4 = .ok (.ireturn, 1) := by decide +kernel
theorem dX11_end_0 : decode cX11_end 0 = .ok (.aload_n 0, 1) := by decide +kernel
theorem dX11_end_1 : decode cX11_end 1 = .ok (.iconst 0, 1) := by decide +kernel
theorem dX11_end_2 : decode cX11_end 2 = .ok (.putfield 83, 3) := by decide +kernel
theorem dX11_end_5 : decode cX11_end 5 = .ok (.iload_n 1, 1) := by decide +kernel
theorem dX11_end_6 : decode cX11_end 6 = .ok (.ifCond .lt 11, 3) := by decide +kernel
theorem dX11_end_9 : decode cX11_end 9 = .ok (.iload_n 1, 1) := by decide +kernel
theorem dX11_end_10 : decode cX11_end 10 = .ok (.aload_n 0, 1) := by decide +kernel
theorem dX11_end_11 : decode cX11_end 11 = .ok (.getfield 87, 3) := by decide +kernel
theorem dX11_end_14 : decode cX11_end 14 = .ok (.if_icmp .le 5, 3) := by decide +kernel
theorem dX11_end_17 : decode cX11_end 17 = .ok (.iconst 0, 1) := by decide +kernel
theorem dX11_end_18 : decode cX11_end 18 = .ok (.ireturn, 1) := by decide +kernel
theorem dX11_end_19 : decode cX11_end 19 = .ok (.aload_n 0, 1) := by decide +kernel
theorem dX11_end_20 : decode cX11_end 20 = .ok (.iload_n 1, 1) := by decide +kernel
theorem dX11_end_21 : decode cX11_end 21 = .ok (.putfield 87, 3) := by decide +kernel
theorem dX11_end_24 : decode cX11_end 24 = .ok (.iconst 1, 1) := by decide +kernel
theorem dX11_end_25 : decode cX11_end 25 = .ok (.ireturn, 1) := by decide +kernel
theorem dX11_status_0 : decode cX11_status 0 = .ok (.aload_n 0, 1) := by decide +kernel
theorem dX11_status_1 : decode cX11_status 1 = .ok (.iconst 0, 1) := by decide +kernel
theorem dX11_status_2 : decode cX11_status 2 = .ok (.putfield 83, 3) := by decide +kernel
theorem dX11_status_5 : decode cX11_status 5 = .ok (.iload_n 1, 1) := by decide +kernel
theorem dX11_status_6 : decode cX11_status 6 = .ok (.i2l, 1) := by decide +kernel
theorem dX11_status_7 : decode cX11_status 7 = .ok (.lconst 0, 1) := by decide +kernel
theorem dX11_status_8 : decode cX11_status 8 = .ok (.ldc2_w 231, 3) := by decide +kernel
theorem dX11_status_11 : decode cX11_status 11 = .ok (.invokestatic 140, 3) := by decide +kernel
theorem dX11_status_14 : decode cX11_status 14 = .ok (.ifCond .eq 12, 3) := by decide +kernel
theorem dX11_status_17 : decode cX11_status 17 = .ok (.aload_n 0, 1) := by decide +kernel
theorem dX11_status_18 : decode cX11_status 18 = .ok (.getfield 32, 3) := by decide +kernel
theorem dX11_status_21 : decode cX11_status 21 = .ok (.iload_n 1, 1) := by decide +kernel
theorem dX11_status_22 : decode cX11_status 22 = .ok (.iaload, 1) := by decide +kernel
theorem dX11_status_23 : decode cX11_status 23 = .ok (.goto 4, 3) := by decide +kernel
theorem dX11_status_26 : decode cX11_status 26 = .ok (.iconst (-1), 1) := by decide +kernel
theorem dX11_status_27 : decode cX11_status 27 = .ok (.ireturn, 1) := by decide +kernel
theorem dX11_isKept_0 : decode cX11_isKept 0 = .ok (.iload_n 1, 1) := by decide +kernel
theorem dX11_isKept_1 : decode cX11_isKept 1 = .ok (.ifCond .lt 15, 3) := by decide +kernel
theorem dX11_isKept_4 : decode cX11_isKept 4 = .ok (.iload_n 1, 1) := by decide +kernel
theorem dX11_isKept_5 : decode cX11_isKept 5 = .ok (.aload_n 0, 1) := by decide +kernel
theorem dX11_isKept_6 : decode cX11_isKept 6 = .ok (.getfield 189, 3) := by decide +kernel
theorem dX11_isKept_9 : decode cX11_isKept 9 = .ok (.if_icmp .ge 7, 3) := by decide +kernel
theorem dX11_isKept_12 : decode cX11_isKept 12 = .ok (.iconst 1, 1) := by decide +kernel
theorem dX11_isKept_13 : decode cX11_isKept 13 = .ok (.goto 4, 3) := by decide +kernel
theorem dX11_isKept_16 : decode cX11_isKept 16 = .ok (.iconst 0, 1) := by decide +kernel
theorem dX11_isKept_17 : decode cX11_isKept 17 = .ok (.ireturn, 1) := by decide +kernel
theorem dX11_isPlan_0 : decode cX11_isPlan 0 = .ok (.iload_n 1, 1) := by decide +kernel
theorem dX11_isPlan_1 : decode cX11_isPlan 1 = .ok (.ifCond .lt 15, 3) := by decide +kernel
theorem dX11_isPlan_4 : decode cX11_isPlan 4 = .ok (.iload_n 1, 1) := by decide +kernel
theorem dX11_isPlan_5 : decode cX11_isPlan 5 = .ok (.aload_n 0, 1) := by decide +kernel
theorem dX11_isPlan_6 : decode cX11_isPlan 6 = .ok (.getfield 150, 3) := by decide +kernel
theorem dX11_isPlan_9 : decode cX11_isPlan 9 = .ok (.if_icmp .ge 7, 3) := by decide +kernel
theorem dX11_isPlan_12 : decode cX11_isPlan 12 = .ok (.iconst 1, 1) := by decide +kernel
theorem dX11_isPlan_13 : decode cX11_isPlan 13 = .ok (.goto 4, 3) := by decide +kernel
theorem dX11_isPlan_16 : decode cX11_isPlan 16 = .ok (.iconst 0, 1) := by decide +kernel
theorem dX11_isPlan_17 : decode cX11_isPlan 17 = .ok (.ireturn, 1) := by decide +kernel
theorem dX11_keptAt_0 : decode cX11_keptAt 0 = .ok (.aload_n 0, 1) := by decide +kernel
theorem dX11_keptAt_1 : decode cX11_keptAt 1 = .ok (.getfield 23, 3) := by decide +kernel
theorem dX11_keptAt_4 : decode cX11_keptAt 4 = .ok (.bipush 38, 2) := by decide +kernel
theorem dX11_keptAt_6 : decode cX11_keptAt 6 = .ok (.iload_n 1, 1) := by decide +kernel
theorem dX11_keptAt_7 : decode cX11_keptAt 7 = .ok (.imul, 1) := by decide +kernel
theorem dX11_keptAt_8 : decode cX11_keptAt 8 = .ok (.bipush 6, 2) := by decide +kernel
theorem dX11_keptAt_10 : decode cX11_keptAt 10 = .ok (.iload_n 2, 1) := by decide +kernel
theorem dX11_keptAt_11 : decode cX11_keptAt 11 = .ok (.imul, 1) := by decide +kernel
theorem dX11_keptAt_12 : decode cX11_keptAt 12 = .ok (.iadd, 1) := by decide +kernel
theorem dX11_keptAt_13 : decode cX11_keptAt 13 = .ok (.iload_n 3, 1) := by decide +kernel
theorem dX11_keptAt_14 : decode cX11_keptAt 14 = .ok (.iadd, 1) := by decide +kernel
theorem dX11_keptAt_15 : decode cX11_keptAt 15 = .ok (.iaload, 1) := by decide +kernel
theorem dX11_keptAt_16 : decode cX11_keptAt 16 = .ok (.ireturn, 1) := by decide +kernel
theorem dX11_kept_0 : decode cX11_kept 0 = .ok (.aload_n 0, 1) := by decide +kernel
theorem dX11_kept_1 : decode cX11_kept 1 = .ok (.iconst 0, 1) := by decide +kernel
theorem dX11_kept_2 : decode cX11_kept 2 = .ok (.putfield 83, 3) := by decide +kernel
theorem dX11_kept_5 : decode cX11_kept 5 = .ok (.aload_n 0, 1) := by decide +kernel
theorem dX11_kept_6 : decode cX11_kept 6 = .ok (.iload_n 1, 1) := by decide +kernel
theorem dX11_kept_7 : decode cX11_kept 7 = .ok (.invokevirtual 192, 3) := by decide +kernel
theorem dX11_kept_10 : decode cX11_kept 10 = .ok (.ifCond .eq 53, 3) := by decide +kernel
theorem dX11_kept_13 : decode cX11_kept 13 = .ok (.iload_n 2, 1) := by decide +kernel
theorem dX11_kept_14 : decode cX11_kept 14 = .ok (.ifCond .lt 49, 3) := by decide +kernel
theorem dX11_kept_17 : decode cX11_kept 17 = .ok (.iload_n 2, 1) := by decide +kernel
theorem dX11_kept_18 : decode cX11_kept 18 = .ok (.aload_n 0, 1) := by decide +kernel
theorem dX11_kept_19 : decode cX11_kept 19 = .ok (.getfield 23, 3) := by decide +kernel
theorem dX11_kept_22 : decode cX11_kept 22 = .ok (.bipush 38, 2) := by decide +kernel
theorem dX11_kept_24 : decode cX11_kept 24 = .ok (.iload_n 1, 1) := by decide +kernel
theorem dX11_kept_25 : decode cX11_kept 25 = .ok (.imul, 1) := by decide +kernel
theorem dX11_kept_26 : decode cX11_kept 26 = .ok (.bipush 36, 2) := by decide +kernel
theorem dX11_kept_28 : decode cX11_kept 28 = .ok (.iadd, 1) := by decide +kernel
theorem dX11_kept_29 : decode cX11_kept 29 = .ok (.iaload, 1) := by decide +kernel
theorem dX11_kept_30 : decode cX11_kept 30 = .ok (.if_icmp .ge 33, 3) := by decide +kernel
theorem dX11_kept_33 : decode cX11_kept 33 = .ok (.iload_n 3, 1) := by decide +kernel
theorem dX11_kept_34 : decode cX11_kept 34 = .ok (.ifCond .lt 29, 3) := by decide +kernel
theorem dX11_kept_37 : decode cX11_kept 37 = .ok (.iload_n 3, 1) := by decide +kernel
theorem dX11_kept_38 : decode cX11_kept 38 = .ok (.aload_n 0, 1) := by decide +kernel
theorem dX11_kept_39 : decode cX11_kept 39 = .ok (.getfield 23, 3) := by decide +kernel
theorem dX11_kept_42 : decode cX11_kept 42 = .ok (.bipush 38, 2) := by decide +kernel
theorem dX11_kept_44 : decode cX11_kept 44 = .ok (.iload_n 1, 1) := by decide +kernel
theorem dX11_kept_45 : decode cX11_kept 45 = .ok (.imul, 1) := by decide +kernel
theorem dX11_kept_46 : decode cX11_kept 46 = .ok (.bipush 37, 2) := by decide +kernel
theorem dX11_kept_48 : decode cX11_kept 48 = .ok (.iadd, 1) := by decide +kernel
theorem dX11_kept_49 : decode cX11_kept 49 = .ok (.iaload, 1) := by decide +kernel
theorem dX11_kept_50 : decode cX11_kept 50 = .ok (.if_icmp .ge 13, 3) := by decide +kernel
theorem dX11_kept_53 : decode cX11_kept 53 = .ok (.aload_n 0, 1) := by decide +kernel
theorem dX11_kept_54 : decode cX11_kept 54 = .ok (.iload_n 1, 1) := by decide +kernel
theorem dX11_kept_55 : decode cX11_kept 55 = .ok (.iload_n 2, 1) := by decide +kernel
theorem dX11_kept_56 : decode cX11_kept 56 = .ok (.iload_n 3, 1) := by decide +kernel
theorem dX11_kept_57 : decode cX11_kept 57 = .ok (.invokevirtual 196, 3) := by decide +kernel
theorem dX11_kept_60 : decode cX11_kept 60 = .ok (.goto 5, 3) := by decide +kernel
theorem dX11_kept_63 : decode cX11_kept 63 = .ok (.ldc 133, 2) := by decide +kernel
theorem dX11_kept_65 : decode cX11_kept 65 = .ok (.ireturn, 1) := by decide +kernel
theorem dX11_refused_0 : decode cX11_refused 0 = .ok (.aload_n 0, 1) := by decide +kernel
theorem dX11_refused_1 : decode cX11_refused 1 = .ok (.getfield 32, 3) := by decide +kernel
theorem dX11_refused_4 : decode cX11_refused 4 = .ok (.iload_n 1, 1) := by decide +kernel
theorem dX11_refused_5 : decode cX11_refused 5 = .ok (.dup2, 1) := by decide +kernel
theorem dX11_refused_6 : decode cX11_refused 6 = .ok (.iaload, 1) := by decide +kernel
theorem dX11_refused_7 : decode cX11_refused 7 = .ok (.iconst 1, 1) := by decide +kernel
theorem dX11_refused_8 : decode cX11_refused 8 = .ok (.iadd, 1) := by decide +kernel
theorem dX11_refused_9 : decode cX11_refused 9 = .ok (.iastore, 1) := by decide +kernel
theorem dX11_refused_10 : decode cX11_refused 10 = .ok (.iconst (-1), 1) := by decide +kernel
theorem dX11_refused_11 : decode cX11_refused 11 = .ok (.ireturn, 1) := by decide +kernel
theorem dX11_entry_0 : decode cX11_entry 0 = .ok (.aload_n 0, 1) := by decide +kernel
theorem dX11_entry_1 : decode cX11_entry 1 = .ok (.aload_n 0, 1) := by decide +kernel
theorem dX11_entry_2 : decode cX11_entry 2 = .ok (.aload_n 0, 1) := by decide +kernel
theorem dX11_entry_3 : decode cX11_entry 3 = .ok (.getfield 13, 3) := by decide +kernel
theorem dX11_entry_6 : decode cX11_entry 6 = .ok (.iload_n 1, 1) := by decide +kernel
theorem dX11_entry_7 : decode cX11_entry 7 = .ok (.iload_n 2, 1) := by decide +kernel
theorem dX11_entry_8 : decode cX11_entry 8 = .ok (.invokevirtual 158, 3) := by decide +kernel
theorem dX11_entry_11 : decode cX11_entry 11 = .ok (.ifCond .eq 7, 3) := by decide +kernel
theorem dX11_entry_14 : decode cX11_entry 14 = .ok (.iconst 0, 1) := by decide +kernel
theorem dX11_entry_15 : decode cX11_entry 15 = .ok (.goto 4, 3) := by decide +kernel
theorem dX11_entry_18 : decode cX11_entry 18 = .ok (.iconst 1, 1) := by decide +kernel
theorem dX11_entry_19 : decode cX11_entry 19 = .ok (.putfield 83, 3) := by decide +kernel
theorem dX11_entry_22 : decode cX11_entry 22 = .ok (.aload_n 0, 1) := by decide +kernel
theorem dX11_entry_23 : decode cX11_entry 23 = .ok (.getfield 83, 3) := by decide +kernel
theorem dX11_entry_26 : decode cX11_entry 26 = .ok (.ifCond .ne 17, 3) := by decide +kernel
theorem dX11_entry_29 : decode cX11_entry 29 = .ok (.aload_n 0, 1) := by decide +kernel
theorem dX11_entry_30 : decode cX11_entry 30 = .ok (.getfield 13, 3) := by decide +kernel
theorem dX11_entry_33 : decode cX11_entry 33 = .ok (.bipush 6, 2) := by decide +kernel
theorem dX11_entry_35 : decode cX11_entry 35 = .ok (.iload_n 1, 1) := by decide +kernel
theorem dX11_entry_36 : decode cX11_entry 36 = .ok (.imul, 1) := by decide +kernel
theorem dX11_entry_37 : decode cX11_entry 37 = .ok (.iload_n 2, 1) := by decide +kernel
theorem dX11_entry_38 : decode cX11_entry 38 = .ok (.iadd, 1) := by decide +kernel
theorem dX11_entry_39 : decode cX11_entry 39 = .ok (.iaload, 1) := by decide +kernel
theorem dX11_entry_40 : decode cX11_entry 40 = .ok (.goto 4, 3) := by decide +kernel
theorem dX11_entry_43 : decode cX11_entry 43 = .ok (.iconst 0, 1) := by decide +kernel
theorem dX11_entry_44 : decode cX11_entry 44 = .ok (.ireturn, 1) := by decide +kernel
theorem s_thrown (σ : sg) (x : aW) : Mt mX11_thrown 0 0 0 [.ref i_M] (wd σ x) (QI (σ.1 i_M 0) (wd σ x)) := by
  refine Mt.of MI_X11_thrown (Nat.le_of_ble_eq_true rfl) (fun X hC hR hT => ?_)
  refine R_aload_n (i := 0) hC dX11_thrown_0 rfl rfl (R_gI hC dX11_thrown_1 fl_X11_83 L_M rfl ?_)
  exact R_iret hC hT dX11_thrown_4 rfl ⟨rfl, rfl⟩
theorem s_isKept (σ : sg) (x : aW) (k : Int32) : Mt mX11_isKept 0 0 0 [.ref i_M, .int k] (wd σ x) (QI (b2i (0 ≤ k.toInt ∧ k.toInt < (σ.1 i_M 12).toInt)) (wd σ x)) := by
  refine Mt.of MI_X11_isKept (Nat.le_of_ble_eq_true rfl) (fun X hC hR hT => ?_)
  refine R_iload_n (i := 1) hC dX11_isKept_0 rfl rfl ?_
  refine R_if_lt hC 16 dX11_isKept_1 (by decide) (fun h1 => ?_) (fun h1 => ?_)
  · refine R_iconst (v := 0) hC dX11_isKept_16 (by decide) ?_
    exact R_zret hC hT dX11_isKept_17 rfl (by decide) ⟨by simp only [i32_ge, i32_lt, Int32.toInt_zero] at *; first | (rw [b2i_t (by omega)]; done) | (rw [b2i_f (by omega)]; done), rfl⟩
  · refine R_iload_n (i := 1) hC dX11_isKept_4 rfl rfl (R_aload_n (i := 0) hC dX11_isKept_5 rfl rfl (R_gI hC dX11_isKept_6 fl_X11_189 L_M rfl ?_))
    refine R_icmp_ge hC 16 dX11_isKept_9 (by decide) (fun h9 => ?_) (fun h9 => ?_)
    · refine R_iconst (v := 0) hC dX11_isKept_16 (by decide) ?_
      exact R_zret hC hT dX11_isKept_17 rfl (by decide) ⟨by simp only [i32_ge, i32_lt, Int32.toInt_zero] at *; first | (rw [b2i_t (by omega)]; done) | (rw [b2i_f (by omega)]; done), rfl⟩
    · refine R_iconst (v := 1) hC dX11_isKept_12 (by decide) (R_goto hC 17 dX11_isKept_13 (by decide) ?_)
      exact R_zret hC hT dX11_isKept_17 rfl (by decide) ⟨by simp only [i32_ge, i32_lt, Int32.toInt_zero] at *; first | (rw [b2i_t (by omega)]; done) | (rw [b2i_f (by omega)]; done), rfl⟩
theorem s_isPlan (σ : sg) (x : aW) (k : Int32) : Mt mX11_isPlan 0 0 0 [.ref i_M, .int k] (wd σ x) (QI (b2i (0 ≤ k.toInt ∧ k.toInt < (σ.1 i_M 13).toInt)) (wd σ x)) := by
  refine Mt.of MI_X11_isPlan (Nat.le_of_ble_eq_true rfl) (fun X hC hR hT => ?_)
  refine R_iload_n (i := 1) hC dX11_isPlan_0 rfl rfl ?_
  refine R_if_lt hC 16 dX11_isPlan_1 (by decide) (fun h1 => ?_) (fun h1 => ?_)
  · refine R_iconst (v := 0) hC dX11_isPlan_16 (by decide) ?_
    exact R_zret hC hT dX11_isPlan_17 rfl (by decide) ⟨by simp only [i32_ge, i32_lt, Int32.toInt_zero] at *; first | (rw [b2i_t (by omega)]; done) | (rw [b2i_f (by omega)]; done), rfl⟩
  · refine R_iload_n (i := 1) hC dX11_isPlan_4 rfl rfl (R_aload_n (i := 0) hC dX11_isPlan_5 rfl rfl (R_gI hC dX11_isPlan_6 fl_X11_150 L_M rfl ?_))
    refine R_icmp_ge hC 16 dX11_isPlan_9 (by decide) (fun h9 => ?_) (fun h9 => ?_)
    · refine R_iconst (v := 0) hC dX11_isPlan_16 (by decide) ?_
      exact R_zret hC hT dX11_isPlan_17 rfl (by decide) ⟨by simp only [i32_ge, i32_lt, Int32.toInt_zero] at *; first | (rw [b2i_t (by omega)]; done) | (rw [b2i_f (by omega)]; done), rfl⟩
    · refine R_iconst (v := 1) hC dX11_isPlan_12 (by decide) (R_goto hC 17 dX11_isPlan_13 (by decide) ?_)
      exact R_zret hC hT dX11_isPlan_17 rfl (by decide) ⟨by simp only [i32_ge, i32_lt, Int32.toInt_zero] at *; first | (rw [b2i_t (by omega)]; done) | (rw [b2i_f (by omega)]; done), rfl⟩
theorem s_end (σ : sg) (x : aW) (n : Int32) : Mt mX11_end 0 0 0 [.ref i_M, .int n] (wd σ x) (fun r w => (0 ≤ n.toInt ∧ n.toInt ≤ (σ.1 i_M 2).toInt ∧ r = some (.int 1) ∧ w = wd (sG (sG σ i_M 0 0) i_M 2 n) x) ∨ (¬ (0 ≤ n.toInt ∧ n.toInt ≤ (σ.1 i_M 2).toInt) ∧ r = some (.int 0) ∧ w = wd (sG σ i_M 0 0) x)) := by
  refine Mt.of MI_X11_end (Nat.le_of_ble_eq_true rfl) (fun X hC hR hT => ?_)
  refine R_aload_n (i := 0) hC dX11_end_0 rfl rfl (R_iconst (v := 0) hC dX11_end_1 (by decide) (R_pI hC dX11_end_2 fl_X11_83 L_M rfl (R_iload_n (i := 1) hC dX11_end_5 rfl rfl ?_)))
  refine R_if_lt hC 17 dX11_end_6 (by decide) (fun h6 => ?_) (fun h6 => ?_)
  · refine R_iconst (v := 0) hC dX11_end_17 (by decide) ?_
    exact R_zret hC hT dX11_end_18 rfl (by decide) (Or.inr ⟨by simp only [i32_ge, i32_lt, Int32.toInt_zero, sG_nk (show (2 : Nat) ≠ 0 by decide)] at *; omega, rfl, rfl⟩)
  · refine R_iload_n (i := 1) hC dX11_end_9 rfl rfl (R_aload_n (i := 0) hC dX11_end_10 rfl rfl (R_gI hC dX11_end_11 fl_X11_87 L_M rfl ?_))
    refine R_icmp_le hC 19 dX11_end_14 (by decide) (fun h14 => ?_) (fun h14 => ?_)
    · refine R_aload_n (i := 0) hC dX11_end_19 rfl rfl (R_iload_n (i := 1) hC dX11_end_20 rfl rfl (R_pI hC dX11_end_21 fl_X11_87 L_M rfl (R_iconst (v := 1) hC dX11_end_24 (by decide) ?_)))
      exact R_zret hC hT dX11_end_25 rfl (by decide) (Or.inl ⟨by simp only [i32_ge, i32_lt, Int32.toInt_zero] at *; omega, by simp only [i32_ge, i32_lt, Int32.toInt_zero, sG_nk (show (2 : Nat) ≠ 0 by decide)] at *; omega, rfl, rfl⟩)
    · refine R_iconst (v := 0) hC dX11_end_17 (by decide) ?_
      exact R_zret hC hT dX11_end_18 rfl (by decide) (Or.inr ⟨by simp only [i32_ge, i32_lt, Int32.toInt_zero, sG_nk (show (2 : Nat) ≠ 0 by decide)] at *; omega, rfl, rfl⟩)
theorem s_status (σ : sg) (x : aW) (k : Int32) : Mt mX11_status 1 0 0 [.ref i_M, .int k] (wd σ x) (fun r w => w = wd (sG σ i_M 0 0) x ∧ ((∃ j : Nat, j < 4 ∧ k = nI j ∧ r = some (.int (σ.2.2 i_m_status j))) ∨ (¬ (0 ≤ k.toInt ∧ k.toInt ≤ 3) ∧ r = some (.int (-1))))) := by
  refine Mt.of MI_X11_status (Nat.le_of_ble_eq_true rfl) (fun X hC hR hT => ?_)
  refine R_aload_n (i := 0) hC dX11_status_0 rfl rfl (R_iconst (v := 0) hC dX11_status_1 (by decide) (R_pI hC dX11_status_2 fl_X11_83 L_M rfl (R_iload_n (i := 1) hC dX11_status_5 rfl rfl (R_i2l hC dX11_status_6 (R_lconst (v := 0) hC dX11_status_7 (by decide) (R_ldc2 hC dX11_status_8 kc_X11_231 ?_))))))
  refine R_S3i hC hR dX11_status_11 MS_X11_isIn ml_X11_140 (s_isInZ k 0 3 0 3 (by decide) (by decide) _) (by decide) ⟨by decide, by decide⟩ (Nat.le_of_ble_eq_true rfl) ?_
  refine R_if_eq hC 26 dX11_status_14 (by decide) (fun h14 => ?_) (fun h14 => ?_)
  · have hn := ite0 h14
    refine R_iconst (v := (-1)) hC dX11_status_26 (by decide) ?_
    exact R_iret hC hT dX11_status_27 rfl ⟨rfl, by first | exact Or.inl ⟨j, hj4, rfl, rfl⟩ | exact Or.inr ⟨hn, rfl⟩⟩
  · obtain ⟨j, rfl, hj, -⟩ := i32_nI (ite1 h14).1
    have hj4 : j < 4 := by have := (ite1 h14).2; omega
    refine R_aload_n (i := 0) hC dX11_status_17 rfl rfl (R_gR hC dX11_status_18 fl_X11_32 L_M rfl (R_iload_n (i := 1) hC dX11_status_21 rfl rfl (R_aI hC dX11_status_22 L_m_status j rfl hj4 (by decide) (R_goto hC 27 dX11_status_23 (by decide) ?_))))
    exact R_iret hC hT dX11_status_27 rfl ⟨rfl, by first | exact Or.inl ⟨j, hj4, rfl, rfl⟩ | exact Or.inr ⟨hn, rfl⟩⟩
theorem s_refused (σ : sg) (x : aW) (j : Nat) (hj : j < 4) : Mt mX11_refused 0 0 0 [.ref i_M, .int (nI j)] (wd σ x) (QI (-1) (wd (sA σ i_m_status (upd (σ.2.2 i_m_status) j (σ.2.2 i_m_status j + 1))) x)) := by
  refine Mt.of MI_X11_refused (Nat.le_of_ble_eq_true rfl) (fun X hC hR hT => ?_)
  refine R_aload_n (i := 0) hC dX11_refused_0 rfl rfl (R_gR hC dX11_refused_1 fl_X11_32 L_M rfl (R_iload_n (i := 1) hC dX11_refused_4 rfl rfl (R_dup2 hC dX11_refused_5 rfl rfl (R_aI hC dX11_refused_6 L_m_status _ rfl (by omega) (by decide) (R_iconst (v := 1) hC dX11_refused_7 (by decide) (R_iadd hC dX11_refused_8 (R_sI hC dX11_refused_9 L_m_status _ rfl (by omega) (by decide) ?_)))))))
  refine R_iconst (v := (-1)) hC dX11_refused_10 (by decide) ?_
  exact R_iret hC hT dX11_refused_11 rfl ⟨rfl, rfl⟩
theorem n6 (r c : Nat) : (6 : Int32) * nI r + nI c = nI (6 * r + c) := by
  rw [show (6 : Int32) = nI 6 from rfl, pk_mul, nI_add]
theorem n38 (k c : Nat) : (38 : Int32) * nI k + nI c = nI (38 * k + c) := by
  rw [show (38 : Int32) = nI 38 from rfl, pk_mul, nI_add]
theorem s_keptAt (σ : sg) (x : aW) (k r c : Nat) (hk : k < 4) (hr : 6 * r + c < 38) : Mt mX11_keptAt 0 0 0 [.ref i_M, .int (nI k), .int (nI r), .int (nI c)] (wd σ x) (QI (σ.2.2 i_m_kept (38 * k + (6 * r + c))) (wd σ x)) := by
  refine Mt.of MI_X11_keptAt (Nat.le_of_ble_eq_true rfl) (fun X hC hR hT => ?_)
  refine R_aload_n (i := 0) hC dX11_keptAt_0 rfl rfl (R_gR hC dX11_keptAt_1 fl_X11_23 L_M rfl (R_bipush (v := 38) hC dX11_keptAt_4 (by decide) (R_iload_n (i := 1) hC dX11_keptAt_6 rfl rfl (R_imul hC dX11_keptAt_7 (R_bipush (v := 6) hC dX11_keptAt_8 (by decide) (R_iload_n (i := 2) hC dX11_keptAt_10 rfl rfl (R_imul hC dX11_keptAt_11 ?_)))))))
  refine R_iadd hC dX11_keptAt_12 (R_iload_n (i := 3) hC dX11_keptAt_13 rfl rfl (R_iadd hC dX11_keptAt_14 (R_aI hC dX11_keptAt_15 L_m_kept (38 * k + (6 * r + c)) (by rw [Int32.add_assoc, n6, n38]) (by omega) (by decide) ?_)))
  exact R_iret hC hT dX11_keptAt_16 rfl ⟨rfl, rfl⟩
theorem s_entry (σ : sg) (x : aW) (r c : Int32) (hR0 : 0 ≤ (σ.2.2 i_m_now 36).toInt ∧ (σ.2.2 i_m_now 36).toInt ≤ 6 ∧ 0 ≤ (σ.2.2 i_m_now 37).toInt ∧ (σ.2.2 i_m_now 37).toInt ≤ 6) : Mt mX11_entry 1 0 0 [.ref i_M, .int r, .int c] (wd σ x) (fun q w => (∃ i j : Nat, r = nI i ∧ c = nI j ∧ inT (σ.2.2 i_m_now) r c ∧ q = some (.int (σ.2.2 i_m_now (6 * i + j))) ∧ w = wd (sG σ i_M 0 0) x) ∨ (¬ inT (σ.2.2 i_m_now) r c ∧ q = some (.int 0) ∧ w = wd (sG σ i_M 0 1) x)) := by
  refine Mt.of MI_X11_entry (Nat.le_of_ble_eq_true rfl) (fun X hC hR hT => ?_)
  refine R_aload_n (i := 0) hC dX11_entry_0 rfl rfl (R_aload_n (i := 0) hC dX11_entry_1 rfl rfl (R_aload_n (i := 0) hC dX11_entry_2 rfl rfl (R_gR hC dX11_entry_3 fl_X11_13 L_M rfl (R_iload_n (i := 1) hC dX11_entry_6 rfl rfl (R_iload_n (i := 2) hC dX11_entry_7 rfl rfl ?_)))))
  refine R_V3i hC hR dX11_entry_8 MV_X11_isCell ml_X11_158 L_M rfl (s_isCell _ _ _ L_m_now _ _) (by decide) ⟨by decide, by decide⟩ (Nat.le_of_ble_eq_true rfl) ?_
  refine R_if_eq hC 18 dX11_entry_11 (by decide) (fun h11 => ?_) (fun h11 => ?_)
  · have hn := b2i_0 h11
    refine R_iconst (v := 1) hC dX11_entry_18 (by decide) (R_pI hC dX11_entry_19 fl_X11_83 L_M rfl (R_aload_n (i := 0) hC dX11_entry_22 rfl rfl (R_gI hC dX11_entry_23 fl_X11_83 L_M rfl ?_)))
    refine R_if_ne hC 43 dX11_entry_26 (by decide) (fun _ => ?_) (fun h => absurd h (by rw [sG_eq] <;> decide))
    refine R_iconst (v := 0) hC dX11_entry_43 (by decide) ?_
    exact R_iret hC hT dX11_entry_44 rfl (by first | exact Or.inl ⟨i, j, rfl, rfl, hin, rfl, rfl⟩ | exact Or.inr ⟨hn, rfl, rfl⟩)
  · have hin := b2i_ne h11
    obtain ⟨h1, h2, h3, h4⟩ := id hin
    obtain ⟨i, rfl, hi, hi2⟩ := i32_nI h1
    obtain ⟨j, rfl, hj, hj2⟩ := i32_nI h3
    refine R_iconst (v := 0) hC dX11_entry_14 (by decide) (R_goto hC 19 dX11_entry_15 (by decide) (R_pI hC dX11_entry_19 fl_X11_83 L_M rfl (R_aload_n (i := 0) hC dX11_entry_22 rfl rfl (R_gI hC dX11_entry_23 fl_X11_83 L_M rfl ?_))))
    refine R_if_ne hC 43 dX11_entry_26 (by decide) (fun h => absurd (by rw [sG_eq] <;> decide) h) (fun _ => ?_)
    refine R_aload_n (i := 0) hC dX11_entry_29 rfl rfl (R_gR hC dX11_entry_30 fl_X11_13 L_M rfl (R_bipush (v := 6) hC dX11_entry_33 (by decide) (R_iload_n (i := 1) hC dX11_entry_35 rfl rfl (R_imul hC dX11_entry_36 (R_iload_n (i := 2) hC dX11_entry_37 rfl rfl (R_iadd hC dX11_entry_38 (R_aI hC dX11_entry_39 L_m_now (6 * i + j) (n6 i j) (by omega) (by decide) ?_)))))))
    refine R_goto hC 44 dX11_entry_40 (by decide) ?_
    exact R_iret hC hT dX11_entry_44 rfl (by first | exact Or.inl ⟨i, j, rfl, rfl, hin, rfl, rfl⟩ | exact Or.inr ⟨hn, rfl, rfl⟩)
