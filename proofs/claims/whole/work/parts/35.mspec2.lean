def spG (k r c : Nat) : Int32 := o2i (spt 3 ((kby (4 + k)).getD (5 * r + c) 0)) - 1
theorem spG_ok : ∀ k, k < 3 → 1 ≤ k → ∀ r, r < 5 → ∀ c, c < 5 → (spG k r c = -1 ∨ spG k r c = 0 ∨ spG k r c = 1) := by decide +kernel
/-- the table is one of the special ones, but for the order of rows and columns and for factors -/
def spc (T : tb) (G : Nat → Nat → Int32) : Prop := ∃ ρ γ : Nat → Nat, (∀ r, r < 5 → ρ r < 5 ∧ γ r < 5) ∧ (∀ i j, i < j → j < 5 → ρ i ≠ ρ j ∧ γ i ≠ γ j) ∧ scl (prm T ρ γ) G
theorem spc_ex (T : tb) (G : Nat → Nat → Int32) : exR T G 0 0 id ↔ spc T G := by
  constructor
  · rintro ⟨ρ, -, a2, a3, γ, -, b2, b3, h⟩
    exact ⟨ρ, γ, fun r hr => ⟨(a2 r (Nat.zero_le _) hr).1, (b2 r (Nat.zero_le _) hr).1⟩, fun i j h1 h2 => ⟨a3 i j (Nat.zero_le _) h1 h2, b3 i j (Nat.zero_le _) h1 h2⟩, h⟩
  · rintro ⟨ρ, γ, h1, h2, h3⟩
    exact ⟨ρ, fun j h => absurd h (Nat.not_lt_zero _), fun j _ h => ⟨(h1 j h).1, by simp⟩, fun i j _ a b => (h2 i j a b).1, γ, fun j h => absurd h (Nat.not_lt_zero _), fun j _ h => ⟨(h1 j h).2, by simp⟩, fun i j _ a b => (h2 i j a b).2, h3⟩
noncomputable def opSpecial (α : aS) : Int32 := by classical exact (if (tT α).1 = 0 then -1 else if ¬ ((tT α).1 = 5 ∧ (tT α).2.1 = 5) then 0 else if spc (tT α) (spG 1) then 1 else if spc (tT α) (spG 2) then 2 else 0)
theorem kl56 : (kby 5).length = 25 ∧ (kby 6).length = 25 := by decide +kernel
theorem mo_special {σ : sg} {x : aW} {α : aS} (h : MInv σ α) (ok : aOK α) : Mt mX11_special 14 0 0 [.ref i_M] (wd σ x) (MPost σ x (opSpecial α) α) := by
  refine Mt.of MI_X11_special (Nat.le_of_ble_eq_true rfl) (fun X hC hR hT => ?_)
  have hω := MZ.of h
  have h6 := ok.2.2.1.1
  have h7 := ok.2.2.1.2.1
  have e5 : (nI (tT α).1 = (5 : Int32)) ↔ (tT α).1 = 5 := nI_eq (b := 5) (by omega) (by decide)
  have e5c : (nI (tT α).2.1 = (5 : Int32)) ↔ (tT α).2.1 = 5 := nI_eq (b := 5) (by omega) (by decide)
  have loop : (tT α).1 = 5 → (tT α).2.1 = 5 → ∀ k, k ≤ 3 → 1 ≤ k → (∀ k2, 1 ≤ k2 → k2 < k → ¬ spc (tT α) (spG k2)) → ∀ ω, MZ σ ω α → ∀ u2, Rw mX11_special X 43 [some (.ref i_M), some (.int (nI k)), u2] [] (wd ω x) 0 0 := by
    intro d1 d2
    have ev : opSpecial α = (by classical exact (if spc (tT α) (spG 1) then 1 else if spc (tT α) (spG 2) then 2 else 0)) := by unfold opSpecial; rw [if_neg (by omega), if_neg (fun z => z ⟨d1, d2⟩)]
    refine up_loop 3 ?_ ?_
    · intro k1 hno ω hz u2
      refine R_iload_n (i := 1) hC dX11_special_43 rfl rfl (R_iconst (v := 3) hC dX11_special_44 (by decide) ?_)
      refine R_icmp_ge hC 119 dX11_special_45 (by decide) (fun _ => ?_) (fun h => absurd (by decide) h)
      refine R_iconst (v := 0) hC dX11_special_119 (by decide) ?_
      exact R_iret hC hT dX11_special_120 rfl (by rw [ev, if_neg (hno 1 (by decide) (by decide)), if_neg (hno 2 (by decide) (by decide))]; exact hz.p)
    · intro k hk ih k1 hno ω hz u2
      have fill : ∀ i, i ≤ 25 → ∀ g : Nat → Int32, (∀ j, j < i → g (6 * (j / 5) + j % 5) = spG k (j / 5) (j % 5)) → Rw mX11_special X 50 [some (.ref i_M), some (.int (nI k)), some (.int (nI i))] [] (wd (sA ω i_m_goal g) x) 0 0 := by
        refine up_loop 25 ?_ ?_
        · intro g hg
          have hz2 : LZ σ (sA ω i_m_goal g) α (spG k) id 0 := ⟨hz.a (by decide) (by decide), fun r c hr hc => by
            rw [sA_eq]
            have := hg (5 * r + c) (by omega)
            rwa [show (5 * r + c) / 5 = r by omega, show (5 * r + c) % 5 = c by omega] at this, fun r hr => absurd hr (Nat.not_lt_zero _)⟩
          refine R_iload_n (i := 2) hC dX11_special_50 rfl rfl (R_bipush (v := 25) hC dX11_special_51 (by decide) ?_)
          refine R_icmp_ge hC 102 dX11_special_53 (by decide) (fun _ => ?_) (fun h => absurd (by decide) h)
          refine R_aload_n (i := 0) hC dX11_special_102 rfl rfl (R_iconst (v := 0) hC dX11_special_103 (by decide) (R_iconst (v := 0) hC dX11_special_104 (by decide) ?_))
          refine R_V2g hC hR dX11_special_105 MV_X11_doRows ml_X11_297 L_M rfl (s_doRows (x := x) ok d1 d2 (fun r c hr hc => spG_ok k hk k1 r hr c hc) 5 0 0 (sA ω i_m_goal g) id rfl (by decide) hz2 (fun c h => absurd h (Nat.not_lt_zero _))) (by first | decide | omega) ⟨by decide, by decide⟩ (Nat.le_of_ble_eq_true rfl) (fun r w1 hq => ?_)
          obtain ⟨rfl, τ, rfl, hz3⟩ := hq
          refine R_if_eq hC 113 dX11_special_108 (by decide) (fun h108 => ?_) (fun h108 => ?_)
          · refine R_iinc hC dX11_special_113 rfl (inc1 _) (by decide) rfl (R_goto hC 43 dX11_special_116 (by decide) ?_)
            exact ih (by omega) (fun k2 a b => by rcases (by omega : k2 < k ∨ k2 = k) with y | rfl; exact hno k2 a y; exact fun z => b2i_0 h108 ((spc_ex _ _).mpr z)) τ hz3.1 _
          · refine R_iload_n (i := 1) hC dX11_special_111 rfl rfl ?_
            exact R_iret hC hT dX11_special_112 rfl (by
            have hs := (spc_ex _ _).mp (b2i_ne h108)
            rw [ev]
            rcases (by omega : k = 1 ∨ k = 2) with rfl | rfl
            · rw [if_pos hs]; exact hz3.1.p
            · rw [if_neg (hno 1 (by decide) (by decide)), if_pos hs]; exact hz3.1.p)
        · intro i hi ihi g hg
          have i1 : (i / 5) < 5 := by omega
          have nx : ∀ ch : Int32, ch = (kby (4 + k)).getD i 0 → Rw mX11_special X 90 [some (.ref i_M), some (.int (nI k)), some (.int (nI i))] [.int ch, .ref (2 + 3), .int (nI (6 * (i / 5) + i % 5)), .ref i_m_goal] (wd (sA ω i_m_goal g) x) 0 0 := by
            intro ch hch
            refine R_S2i hC hR dX11_special_90 MS_X11_spotOf ml_X11_121 (s_spotOf 3 (by decide) ch _) (by decide) ⟨by decide, by decide⟩ (Nat.le_of_ble_eq_true rfl) ?_
            refine R_iconst (v := 1) hC dX11_special_93 (by decide) (R_isub hC dX11_special_94 ?_)
            refine R_top (y := spG k (i / 5) (i % 5)) (by unfold spG; rw [hch, show 5 * (i / 5) + i % 5 = i by omega]) ?_
            refine R_sI hC dX11_special_95 L_m_goal (6 * (i / 5) + i % 5) rfl (by omega) (by decide) ?_
            refine R_wd (by rw [sA_eq, sA_sA]) ?_
            refine R_iinc hC dX11_special_96 rfl (inc1 _) (by decide) rfl (R_goto hC 50 dX11_special_99 (by decide) ?_)
            exact ihi _ (fun j hj => by
            by_cases e : j = i
            · rw [upd, if_pos (by rw [e]), e]
            · rw [upd, if_neg (by omega)]; exact hg j (by omega))
          refine R_iload_n (i := 2) hC dX11_special_50 rfl rfl (R_bipush (v := 25) hC dX11_special_51 (by decide) ?_)
          refine R_icmp_ge hC 102 dX11_special_53 (by decide) (fun h => absurd h (nI_ge (b := 25) hi (by decide))) (fun _ => ?_)
          refine R_aload_n (i := 0) hC dX11_special_56 rfl rfl (R_gR hC dX11_special_57 fl_X11_65 L_M rfl (R_bipush (v := 6) hC dX11_special_60 (by decide) (R_iload_n (i := 2) hC dX11_special_62 rfl rfl (R_iconst (v := 5) hC dX11_special_63 (by decide) (R_idiv hC dX11_special_64 (by decide) ?_)))))
          refine R_top (y := nI (i / 5)) (by rw [show (5 : Int32) = nI 5 from rfl]; exact pk_div (by omega) (by decide) (by decide)) ?_
          refine R_imul hC dX11_special_65 (R_iload_n (i := 2) hC dX11_special_66 rfl rfl (R_iconst (v := 5) hC dX11_special_67 (by decide) (R_irem hC dX11_special_68 (by decide) ?_)))
          refine R_top (y := nI (i % 5)) (by rw [show (5 : Int32) = nI 5 from rfl]; exact pk_rem (by omega) (by decide) (by decide)) ?_
          refine R_iadd hC dX11_special_69 ?_
          refine R_top (y := nI (6 * (i / 5) + i % 5)) (n6 _ _) ?_
          refine R_ldS hC 3 (by decide) rfl dX11_special_70 (R_iload_n (i := 1) hC dX11_special_72 rfl rfl (R_iconst (v := 1) hC dX11_special_73 (by decide) ?_))
          refine R_icmp_ne hC 83 dX11_special_74 (by decide) (fun h74 => ?_) (fun h74 => ?_)
          · refine R_ldSw hC 6 (by decide) rfl dX11_special_83 ?_
            have hk12 : k = 1 ∨ k = 2 := by omega
            refine R_iload_n (i := 2) hC dX11_special_86 rfl rfl ?_
            first
            | (have h75 : ¬ nI k = 1 := h74
               have k2 : k = 2 := hk12.resolve_left (fun z => h75 (by rw [z]; rfl))
               refine R_K1 (i := 6) hC hR (by decide) dX11_special_87 MV_J0_charAt_5068e rfl ml_X11_112 (k_charAt 6 (by decide) i (by rw [kl56.2]; exact hi) _) (by decide) ⟨by decide, by decide⟩ (Nat.le_of_ble_eq_true rfl) ?_
               exact nx _ (by rw [k2]))
            | (have h75 : nI k = 1 := h74
               have k2 : k = 1 := nI_inj (b := 1) (by omega) (by decide) h75
               refine R_K1 (i := 5) hC hR (by decide) dX11_special_87 MV_J0_charAt_5068e rfl ml_X11_112 (k_charAt 5 (by decide) i (by rw [kl56.1]; exact hi) _) (by decide) ⟨by decide, by decide⟩ (Nat.le_of_ble_eq_true rfl) ?_
               exact nx _ (by rw [k2]))
            skip
          · refine R_ldSw hC 5 (by decide) rfl dX11_special_77 (R_goto hC 86 dX11_special_80 (by decide) ?_)
            have hk12 : k = 1 ∨ k = 2 := by omega
            refine R_iload_n (i := 2) hC dX11_special_86 rfl rfl ?_
            first
            | (have h75 : ¬ nI k = 1 := h74
               have k2 : k = 2 := hk12.resolve_left (fun z => h75 (by rw [z]; rfl))
               refine R_K1 (i := 6) hC hR (by decide) dX11_special_87 MV_J0_charAt_5068e rfl ml_X11_112 (k_charAt 6 (by decide) i (by rw [kl56.2]; exact hi) _) (by decide) ⟨by decide, by decide⟩ (Nat.le_of_ble_eq_true rfl) ?_
               exact nx _ (by rw [k2]))
            | (have h75 : nI k = 1 := h74
               have k2 : k = 1 := nI_inj (b := 1) (by omega) (by decide) h75
               refine R_K1 (i := 5) hC hR (by decide) dX11_special_87 MV_J0_charAt_5068e rfl ml_X11_112 (k_charAt 5 (by decide) i (by rw [kl56.1]; exact hi) _) (by decide) ⟨by decide, by decide⟩ (Nat.le_of_ble_eq_true rfl) ?_
               exact nx _ (by rw [k2]))
            skip
      refine R_iload_n (i := 1) hC dX11_special_43 rfl rfl (R_iconst (v := 3) hC dX11_special_44 (by decide) ?_)
      refine R_icmp_ge hC 119 dX11_special_45 (by decide) (fun h => absurd h (nI_ge (b := 3) hk (by decide))) (fun _ => ?_)
      refine R_iconst (v := 0) hC dX11_special_48 (by decide) (R_istore_n (i := 2) hC dX11_special_49 rfl (by decide) rfl ?_)
      (refine R_wd (sA_self ω i_m_goal).symm ?_; exact fill 0 (Nat.zero_le _) _ (fun j h => absurd h (Nat.not_lt_zero _)))
  refine R_aload_n (i := 0) hC dX11_special_0 rfl rfl (R_iconst (v := 0) hC dX11_special_1 (by decide) (R_pI hC dX11_special_2 fl_X11_83 L_M rfl (R_aload_n (i := 0) hC dX11_special_5 rfl rfl (R_gR hC dX11_special_6 fl_X11_13 L_M rfl (R_bipush (v := 36) hC dX11_special_9 (by decide) (R_aI hC dX11_special_11 L_m_now 36 rfl (by decide) (by decide) ?_))))))
  refine R_top (y := nI (tT α).1) (hω.R) ?_
  refine R_if_ne hC 17 dX11_special_12 (by decide) (fun h12 => ?_) (fun h12 => ?_)
  · have n0 : ¬ (tT α).1 = 0 := fun z => h12 ((T0_iff ok).mpr z)
    refine R_aload_n (i := 0) hC dX11_special_17 rfl rfl (R_gR hC dX11_special_18 fl_X11_13 L_M rfl (R_bipush (v := 36) hC dX11_special_21 (by decide) (R_aI hC dX11_special_23 L_m_now 36 rfl (by decide) (by decide) ?_)))
    refine R_top (y := nI (tT α).1) (hω.R) ?_
    refine R_iconst (v := 5) hC dX11_special_24 (by decide) ?_
    refine R_icmp_ne hC 39 dX11_special_25 (by decide) (fun h25 => ?_) (fun h25 => ?_)
    · refine R_iconst (v := 0) hC dX11_special_39 (by decide) ?_
      exact R_iret hC hT dX11_special_40 rfl (by
      have e : opSpecial α = 0 := by
        unfold opSpecial
        rw [if_neg n0, if_pos]
        first
        | exact fun z => h36 (e5c.mpr z.2)
        | exact fun z => h25 (e5.mpr z.1)
      rw [e]; exact hω.p)
    · refine R_aload_n (i := 0) hC dX11_special_28 rfl rfl (R_gR hC dX11_special_29 fl_X11_13 L_M rfl (R_bipush (v := 37) hC dX11_special_32 (by decide) (R_aI hC dX11_special_34 L_m_now 37 rfl (by decide) (by decide) ?_)))
      refine R_top (y := nI (tT α).2.1) (hω.C) ?_
      refine R_iconst (v := 5) hC dX11_special_35 (by decide) ?_
      refine R_icmp_eq hC 41 dX11_special_36 (by decide) (fun h36 => ?_) (fun h36 => ?_)
      · refine R_iconst (v := 1) hC dX11_special_41 (by decide) (R_istore_n (i := 1) hC dX11_special_42 rfl (by decide) rfl ?_)
        exact loop (e5.mp h25) (e5c.mp h36) 1 (by decide) (by decide) (fun k2 a b => by omega) _ hω _
      · refine R_iconst (v := 0) hC dX11_special_39 (by decide) ?_
        exact R_iret hC hT dX11_special_40 rfl (by
        have e : opSpecial α = 0 := by
          unfold opSpecial
          rw [if_neg n0, if_pos]
          first
          | exact fun z => h36 (e5c.mpr z.2)
          | exact fun z => h25 (e5.mpr z.1)
        rw [e]; exact hω.p)
  · refine R_iconst (v := (-1)) hC dX11_special_15 (by decide) ?_
    exact R_iret hC hT dX11_special_16 rfl (by have e : opSpecial α = -1 := (by unfold opSpecial; rw [if_pos ((T0_iff ok).mp h12)]); rw [e]; exact hω.p)
