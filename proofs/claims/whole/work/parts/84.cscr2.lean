/-! ===== the class goes on with a step; reads a script ===== -/
theorem CS_put {σ : sg} {b size j : Nat} {S : Nat → Nat → Int32} {v : Int32} (h : CS σ b (size, S)) (h1 : 1 ≤ size) (hj : j < 4) : CS (sA σ (b + 1 + j) (upd (σ.2.2 (b + 1 + j)) (size - 1) v)) b (size, stA S (size - 1) j v) := by
  refine ⟨h.1, fun i hi => ?_⟩
  have hi : i < size := hi
  obtain ⟨o0, o1, o2, o3⟩ := h.2 i hi
  show _ = stA S (size - 1) j v i 0 ∧ _ = stA S (size - 1) j v i 1 ∧ _ = stA S (size - 1) j v i 2 ∧ _ = stA S (size - 1) j v i 3
  unfold stA
  have key : ∀ q, q < 4 → σ.2.2 (b + 1 + q) i = S i q → (sA σ (b + 1 + j) (upd (σ.2.2 (b + 1 + j)) (size - 1) v)).2.2 (b + 1 + q) i = (if i = size - 1 ∧ q = j then v else S i q) := fun q hq e => by
    by_cases z : q = j
    · subst z
      rw [sA_eq]
      unfold upd
      by_cases y : i = size - 1
      · rw [if_pos y, if_pos ⟨y, rfl⟩]
      · rw [if_neg y, if_neg (fun w => y w.1)]; exact e
    · rw [sA_ne (by omega), if_neg (fun w => z w.2)]; exact e
  exact ⟨key 0 (by decide) o0, key 1 (by decide) o1, key 2 (by decide) o2, key 3 (by decide) o3⟩
theorem c_goesOn {σ : sg} {x : aW} {b size sn c : Nat} {S : Nat → Nat → Int32} (hS : SL b) (h : CS σ b (size, S)) (hz : size ≤ 12) (h1 : 1 ≤ size) (hc : c < 256) (hn : 1 ≤ sn) (hn3 : sn ≤ 3) : Mt mX4_goesOn 1 0 0 [.ref b, .int (nI sn), .int (nI c)] (wd σ x) (fun r w => ∃ τ, w = wd τ x ∧ AE (L5 b) σ τ ∧ (((if sn = 3 then vsN c = none else ¬ (48 ≤ c ∧ c ≤ 57)) ∧ r = some (.int 0)) ∨ ∃ v, (if sn = 3 then vsN c = some v else (48 ≤ c ∧ c ≤ 57) ∧ v = nI (c - 48)) ∧ r = some (.int 1) ∧ CS τ b (size, stA S (size - 1) sn v))) := by
  refine Mt.of MI_X4_goesOn (Nat.le_of_ble_eq_true rfl) (fun X hC hR hT => ?_)
  have m : ∀ j, j ≤ 4 → b + j ∈ L5 b := fun j hj => by unfold L5; simp; omega
  have dc := nI_dec (n := size) (by omega)
  have s3 := nI_eq (a := sn) (b := 3) (by omega) (by decide)
  have s1 := nI_eq (a := sn) (b := 1) (by omega) (by decide)
  have c48 : nI c < 48 ↔ c < 48 := nI_ltI (b := 48) (by omega) (by decide)
  have c57 : nI c ≤ 57 ↔ c ≤ 57 := nI_leI (b := 57) (by omega) (by decide)
  have dig2 : 48 ≤ c → nI c - 48 = nI (c - 48) := fun z => nI_sub z
  refine R_aload_n (i := 0) hC dX4_goesOn_0 rfl rfl (R_gI hC dX4_goesOn_1 fl_X4_24 hS.1 rfl ?_)
  refine R_top (y := nI size) (h.1) ?_
  refine R_iconst (v := 1) hC dX4_goesOn_4 (by decide) (R_isub hC dX4_goesOn_5 ?_)
  refine R_top (y := nI (size - 1)) (dc) ?_
  refine R_istore_n (i := 3) hC dX4_goesOn_6 rfl (by decide) rfl (R_iload_n (i := 3) hC dX4_goesOn_7 rfl rfl ?_)
  refine R_if_ge hC 13 dX4_goesOn_8 (by decide) (fun _ => ?_) (fun h => absurd (by rw [i32_ge, nI_toInt (by omega), Int32.toInt_zero]; omega) h)
  refine R_iload_n (i := 1) hC dX4_goesOn_13 rfl rfl (R_iconst (v := 3) hC dX4_goesOn_14 (by decide) ?_)
  refine R_icmp_ne hC 45 dX4_goesOn_15 (by decide) (fun h15 => ?_) (fun h15 => ?_)
  · refine R_iload_n (i := 2) hC dX4_goesOn_45 rfl rfl (R_bipush (v := 48) hC dX4_goesOn_46 (by decide) ?_)
    refine R_icmp_lt hC 57 dX4_goesOn_48 (by decide) (fun h48 => ?_) (fun h48 => ?_)
    · refine R_iconst (v := 0) hC dX4_goesOn_57 (by decide) ?_
      exact R_zret hC hT dX4_goesOn_58 rfl (by decide) (by
      have e3 : ¬ sn = 3 := fun z => h15 (s3.mpr z)
      refine ⟨σ, rfl, AE.rf _ _, Or.inl ⟨by rw [if_neg e3]; first | (have := c48.mp h48; omega) | (have := mt c57.mpr h54; omega), rfl⟩⟩)
    · refine R_iload_n (i := 2) hC dX4_goesOn_51 rfl rfl (R_bipush (v := 57) hC dX4_goesOn_52 (by decide) ?_)
      refine R_icmp_le hC 59 dX4_goesOn_54 (by decide) (fun h54 => ?_) (fun h54 => ?_)
      · have cd : 48 ≤ c ∧ c ≤ 57 := ⟨by have := mt c48.mpr h48; omega, c57.mp h54⟩
        have e3 : ¬ sn = 3 := fun z => h15 (s3.mpr z)
        refine R_iload_n (i := 1) hC dX4_goesOn_59 rfl rfl (R_iconst (v := 1) hC dX4_goesOn_60 (by decide) ?_)
        refine R_icmp_ne hC 77 dX4_goesOn_61 (by decide) (fun h61 => ?_) (fun h61 => ?_)
        · refine R_aload_n (i := 0) hC dX4_goesOn_77 rfl rfl (R_gR hC dX4_goesOn_78 fl_X4_18 hS.1 rfl (R_iload_n (i := 3) hC dX4_goesOn_81 rfl rfl (R_iload_n (i := 2) hC dX4_goesOn_82 rfl rfl (R_bipush (v := 48) hC dX4_goesOn_83 (by decide) (R_isub hC dX4_goesOn_85 ?_)))))
          refine R_top (y := nI (c - 48)) (dig2 cd.1) ?_
          refine R_sI hC dX4_goesOn_86 hS.2.2.2.1 (size - 1) rfl (by omega) (by decide) (R_iconst (v := 1) hC dX4_goesOn_87 (by decide) ?_)
          exact R_zret hC hT dX4_goesOn_88 rfl (by decide) (by first
            | (have e1 := s1.mp h61; subst e1; exact ⟨_, rfl, (AE.rf (L5 b) σ).a (m 2 (by decide)), Or.inr ⟨_, by rw [if_neg (by decide)]; exact ⟨cd, rfl⟩, rfl, CS_put (j := 1) h h1 (by decide)⟩⟩)
            | (have e1 : sn = 2 := (by have := mt s1.mpr h61; omega); subst e1; exact ⟨_, rfl, (AE.rf (L5 b) σ).a (m 3 (by decide)), Or.inr ⟨_, by rw [if_neg (by decide)]; exact ⟨cd, rfl⟩, rfl, CS_put (j := 2) h h1 (by decide)⟩⟩))
        · refine R_aload_n (i := 0) hC dX4_goesOn_64 rfl rfl (R_gR hC dX4_goesOn_65 fl_X4_15 hS.1 rfl (R_iload_n (i := 3) hC dX4_goesOn_68 rfl rfl (R_iload_n (i := 2) hC dX4_goesOn_69 rfl rfl (R_bipush (v := 48) hC dX4_goesOn_70 (by decide) (R_isub hC dX4_goesOn_72 ?_)))))
          refine R_top (y := nI (c - 48)) (dig2 cd.1) ?_
          refine R_sI hC dX4_goesOn_73 hS.2.2.1 (size - 1) rfl (by omega) (by decide) (R_goto hC 87 dX4_goesOn_74 (by decide) (R_iconst (v := 1) hC dX4_goesOn_87 (by decide) ?_))
          exact R_zret hC hT dX4_goesOn_88 rfl (by decide) (by first
            | (have e1 := s1.mp h61; subst e1; exact ⟨_, rfl, (AE.rf (L5 b) σ).a (m 2 (by decide)), Or.inr ⟨_, by rw [if_neg (by decide)]; exact ⟨cd, rfl⟩, rfl, CS_put (j := 1) h h1 (by decide)⟩⟩)
            | (have e1 : sn = 2 := (by have := mt s1.mpr h61; omega); subst e1; exact ⟨_, rfl, (AE.rf (L5 b) σ).a (m 3 (by decide)), Or.inr ⟨_, by rw [if_neg (by decide)]; exact ⟨cd, rfl⟩, rfl, CS_put (j := 2) h h1 (by decide)⟩⟩))
      · refine R_iconst (v := 0) hC dX4_goesOn_57 (by decide) ?_
        exact R_zret hC hT dX4_goesOn_58 rfl (by decide) (by
        have e3 : ¬ sn = 3 := fun z => h15 (s3.mpr z)
        refine ⟨σ, rfl, AE.rf _ _, Or.inl ⟨by rw [if_neg e3]; first | (have := c48.mp h48; omega) | (have := mt c57.mpr h54; omega), rfl⟩⟩)
  · refine R_aload_n (i := 0) hC dX4_goesOn_18 rfl rfl (R_gR hC dX4_goesOn_19 fl_X4_21 hS.1 rfl (R_iload_n (i := 3) hC dX4_goesOn_22 rfl rfl (R_iload_n (i := 2) hC dX4_goesOn_23 rfl rfl ?_)))
    refine R_S1i hC hR dX4_goesOn_24 MS_X10_valueOfSign ml_X4_59 (c_valSign _ _) (by first | decide | omega) ⟨by decide, by decide⟩ (Nat.le_of_ble_eq_true rfl) ?_
    refine R_sI hC dX4_goesOn_27 hS.2.2.2.2 (size - 1) rfl (by omega) (by decide) (R_aload_n (i := 0) hC dX4_goesOn_28 rfl rfl (R_gR hC dX4_goesOn_29 fl_X4_21 hS.1 rfl (R_iload_n (i := 3) hC dX4_goesOn_32 rfl rfl (R_aI hC dX4_goesOn_33 hS.2.2.2.2 (size - 1) rfl (by omega) (by decide) ?_))))
    refine R_top (y := vsg (nI c)) ((by show (sA σ (b + 4) _).2.2 (b + 4) (size - 1) = _; rw [sA_eq]; unfold upd; rw [if_pos rfl])) ?_
    refine R_ldc hC dX4_goesOn_34 kc_X4_58 ?_
    refine R_icmp_eq hC 43 dX4_goesOn_36 (by decide) (fun h36 => ?_) (fun h36 => ?_)
    · refine R_iconst (v := 0) hC dX4_goesOn_43 (by decide) ?_
      exact R_zret hC hT dX4_goesOn_44 rfl (by decide) (by
      have e3 := s3.mp h15
      subst e3
      refine ⟨_, rfl, (AE.rf (L5 b) σ).a (m 4 (by decide)), ?_⟩
      rcases vs_vsg c hc with ⟨v1, v2⟩ | ⟨v1, v2⟩
      · first | exact Or.inl ⟨by rw [if_pos rfl]; exact v1, rfl⟩ | exact absurd v2 h36
      · first | exact absurd h36 v2 | exact Or.inr ⟨_, by rw [if_pos rfl]; exact v1, rfl, CS_put (j := 3) h h1 (by decide)⟩)
    · refine R_iconst (v := 1) hC dX4_goesOn_39 (by decide) (R_goto hC 44 dX4_goesOn_40 (by decide) ?_)
      exact R_zret hC hT dX4_goesOn_44 rfl (by decide) (by
      have e3 := s3.mp h15
      subst e3
      refine ⟨_, rfl, (AE.rf (L5 b) σ).a (m 4 (by decide)), ?_⟩
      rcases vs_vsg c hc with ⟨v1, v2⟩ | ⟨v1, v2⟩
      · first | exact Or.inl ⟨by rw [if_pos rfl]; exact v1, rfl⟩ | exact absurd v2 h36
      · first | exact absurd h36 v2 | exact Or.inr ⟨_, by rw [if_pos rfl]; exact v1, rfl, CS_put (j := 3) h h1 (by decide)⟩)
theorem c_begB {σ : sg} {x : aW} {b size c : Nat} {S : Nat → Nat → Int32} (hS : SL b) (h : CS σ b (size, S)) (hz : size < 12) (hc : c < 256) : Mt mX4_begins 4 0 0 [.ref b, .int (nI c)] (wd σ x) (fun r w => ∃ τ, w = wd τ x ∧ AE (L5 b) σ τ ∧ r = some (.int (b2i (∃ k, kdN c = some k))) ∧ ∀ k, kdN c = some k → k < 7 ∧ CS τ b (size + 1, stN S size k)) := by
  refine Mt.mono (c_begins hS h hz hc) ?_
  rintro r w ⟨τ, rfl, ae, hd⟩
  refine ⟨τ, rfl, ae, ?_⟩
  rcases hd with ⟨e, rfl⟩ | ⟨k, k7, e, rfl, cs⟩
  · rw [b2i_f (fun ⟨k, z⟩ => by rw [e] at z; cases z)]
    exact ⟨rfl, fun k z => by rw [e] at z; cases z⟩
  · rw [b2i_t ⟨k, e⟩]
    exact ⟨rfl, fun j z => by rw [e] at z; cases z; exact ⟨k7, cs⟩⟩
def PV (sn c : Nat) (v : Int32) : Prop := if sn = 3 then vsN c = some v else (48 ≤ c ∧ c ≤ 57) ∧ v = nI (c - 48)
theorem c_goB {σ : sg} {x : aW} {b size sn c : Nat} {S : Nat → Nat → Int32} (hS : SL b) (h : CS σ b (size, S)) (hz : size ≤ 12) (h1 : 1 ≤ size) (hc : c < 256) (hn : 1 ≤ sn) (hn3 : sn ≤ 3) : Mt mX4_goesOn 1 0 0 [.ref b, .int (nI sn), .int (nI c)] (wd σ x) (fun r w => ∃ τ, w = wd τ x ∧ AE (L5 b) σ τ ∧ r = some (.int (b2i (∃ v, PV sn c v))) ∧ ∀ v, PV sn c v → CS τ b (size, stA S (size - 1) sn v)) := by
  refine Mt.mono (c_goesOn hS h hz h1 hc hn hn3) ?_
  rintro r w ⟨τ, rfl, ae, hd⟩
  refine ⟨τ, rfl, ae, ?_⟩
  rcases hd with ⟨e, rfl⟩ | ⟨v, e, rfl, cs⟩
  · have no : ∀ v, ¬ PV sn c v := fun v z => by
      unfold PV at z
      by_cases y : sn = 3
      · rw [if_pos y] at e z; rw [e] at z; cases z
      · rw [if_neg y] at e z; exact e z.1
    rw [b2i_f (fun ⟨v, z⟩ => no v z)]
    exact ⟨rfl, fun v z => absurd z (no v)⟩
  · rw [b2i_t ⟨v, show PV sn c v from e⟩]
    refine ⟨rfl, fun u z => ?_⟩
    have : u = v := by
      unfold PV at z
      by_cases y : sn = 3
      · rw [if_pos y] at e z; rw [e] at z; cases z; rfl
      · rw [if_neg y] at e z; rw [e.2, z.2]
    rw [this]; exact cs
def rzQ (σ : sg) (x : aW) (b : Nat) (res : Nat ⊕ scr) : Option Value → aW → Prop := fun r w => ∃ τ v, w = wd τ x ∧ AE (L5 b) σ τ ∧ r = some (.int v) ∧ ((∃ p, p ≤ 240 ∧ res = .inl p ∧ v = nI p) ∨ ∃ z, res = .inr z ∧ v = -1 ∧ CS τ b z)
theorem sgK_pos : ∀ k, k < 7 → 1 ≤ sgK k ∧ sgK k ≤ 4 := by decide
theorem c_readZ {σ : sg} {x : aW} {b : Nat} {t : tap} (hS : SL b) (hb : 19 ≤ b) (ht : CI1 σ t) (ok : tpOK t) : Mt mX4_read 5 0 0 [.ref b, .ref i_tape] (wd σ x) (rzQ σ x b (RZ t 0 0 0 0 (fun _ _ => 0))) := by
  refine Mt.of MI_X4_read (Nat.le_of_ble_eq_true rfl) (fun X hC hR hT => ?_)
  have o1 := ok.1
  generalize hres : RZ t 0 0 0 0 (fun _ _ => 0) = res at hT
  have hta : ∀ τ, AE (L5 b) σ τ → CI1 τ t := fun τ hg => ht.ae hg (by intro i z; simp [L5] at z; omega)
  have m0 : b ∈ L5 b := List.mem_cons_self
  have bad : ∀ τ p, AE (L5 b) σ τ → p ≤ 240 → res = .inl p → rzQ σ x b res (some (.int (nI p))) (wd τ x) := fun τ p hg hp hr => ⟨τ, nI p, rfl, hg, rfl, Or.inl ⟨p, hp, hr, rfl⟩⟩
  have lp : ∀ i, i ≤ t.1 → ∀ τ size k sn S l4, AE (L5 b) σ τ → CS τ b (size, S) → size ≤ 12 → (sn = 0 → size < 12) → (0 < sn → 1 ≤ size ∧ k < 7 ∧ S (size - 1) 0 = nI k ∧ sn ≤ sgK k) → res = RZ t i size k sn S → Rw mX4_read X 9 [some (.ref b), some (.ref i_tape), some (.int (nI sn)), some (.int (nI i)), l4] [] (wd τ x) 0 0 := by
    refine up_loop t.1 ?_ ?_
    · intro τ size k sn S l4 hg hc h12 hs0 hk hr
      have htt := hta τ hg
      rw [RZ_end] at hr
      have sn4 : sn ≤ 4 := by
        rcases (by omega : sn = 0 ∨ 0 < sn) with z | z
        · omega
        · have := hk z; have := (sgK_pos k this.2.1).2; omega
      refine R_iload_n (i := 3) hC dX4_read_9 rfl rfl (R_aload_n (i := 1) hC dX4_read_10 rfl rfl (R_gI hC dX4_read_11 fl_X4_28 L_tape rfl ?_))
      refine R_top (y := nI t.1) (htt.1) ?_
      refine R_icmp_ge hC 102 dX4_read_14 (by decide) (fun _ => ?_) (fun h => absurd (Int32.le_refl _) h)
      refine R_aload_n (i := 0) hC dX4_read_102 rfl rfl (R_iload_n (i := 2) hC dX4_read_103 rfl rfl ?_)
      refine R_V1i hC hR dX4_read_104 MV_X4_isWhole ml_X4_37 hS.1 rfl (c_isWhole (k := k) hS hc h12 (fun z => ⟨(hk z).1, (hk z).2.1, (hk z).2.2.1⟩) sn4) (by first | decide | omega) ⟨by decide, by decide⟩ (Nat.le_of_ble_eq_true rfl) ?_
      refine R_if_eq hC 114 dX4_read_107 (by decide) (fun h107 => ?_) (fun h107 => ?_)
      · refine R_aload_n (i := 1) hC dX4_read_114 rfl rfl (R_gI hC dX4_read_115 fl_X4_28 L_tape rfl ?_)
        first | refine R_top (y := nI t.1) htt.1 ?_ | skip
        exact R_iret hC hT dX4_read_118 rfl (by first | exact bad τ t.1 hg o1 (by rw [hr, if_neg (b2i_0 h107)]) | exact ⟨τ, -1, rfl, hg, rfl, Or.inr ⟨(size, S), by rw [hr, if_pos (b2i_ne h107)], rfl, hc⟩⟩)
      · refine R_iconst (v := (-1)) hC dX4_read_110 (by decide) (R_goto hC 118 dX4_read_111 (by decide) ?_)
        first | refine R_top (y := nI t.1) htt.1 ?_ | skip
        exact R_iret hC hT dX4_read_118 rfl (by first | exact bad τ t.1 hg o1 (by rw [hr, if_neg (b2i_0 h107)]) | exact ⟨τ, -1, rfl, hg, rfl, Or.inr ⟨(size, S), by rw [hr, if_pos (b2i_ne h107)], rfl, hc⟩⟩)
    · intro i hi ih τ size k sn S l4 hg hc h12 hs0 hk hr
      have htt := hta τ hg
      have c1 := ok.2 i hi
      have e32 := nI_eq (a := t.2 i) (b := 32) (by omega) (by decide)
      have e59 := nI_eq (a := t.2 i) (b := 59) (by omega) (by decide)
      have z12 := nI_eq (a := size) (b := 12) (by omega) (by decide)
      have bd := fun h => bad τ i hg (by omega) h
      have sn4 : sn ≤ 4 := by
        rcases (by omega : sn = 0 ∨ 0 < sn) with z | z
        · omega
        · have := hk z; have := (sgK_pos k this.2.1).2; omega
      have s0 := nI_eq (a := sn) (b := 0) (by omega) (by decide)
      have goY : ¬ t.2 i = 32 → ¬ sn = sgK k → ¬ sn = 0 → ∀ v, PV sn (t.2 i) v → RZ t i size k sn S = RZ t (i + 1) size k (sn + 1) (stA S (size - 1) sn v) := fun nb nw sz v hv => by
        unfold PV at hv
        by_cases y : sn = 3
        · subst y; rw [if_pos rfl] at hv; exact RZ_v hi nb nw hv
        · rw [if_neg y] at hv; rw [hv.2]; exact RZ_d hi nb nw sz y hv.1
      have goN : ¬ t.2 i = 32 → ¬ sn = sgK k → ¬ sn = 0 → (¬ ∃ v, PV sn (t.2 i) v) → RZ t i size k sn S = .inl i := fun nb nw sz np => by
        by_cases y : sn = 3
        · subst y
          exact RZ_v0 hi nb nw (op_nn (fun ⟨v, z⟩ => np ⟨v, by unfold PV; rw [if_pos rfl]; exact z⟩))
        · exact RZ_d0 hi nb nw sz y (fun z => np ⟨_, by unfold PV; rw [if_neg y]; exact ⟨z, rfl⟩⟩)
      have bd2 : ∀ φ, AE (L5 b) τ φ → res = .inl i → rzQ σ x b res (some (.int (nI i))) (wd φ x) := fun φ ha h => bad φ i (hg.tr ha) (by omega) h
      refine R_iload_n (i := 3) hC dX4_read_9 rfl rfl (R_aload_n (i := 1) hC dX4_read_10 rfl rfl (R_gI hC dX4_read_11 fl_X4_28 L_tape rfl ?_))
      refine R_top (y := nI t.1) (htt.1) ?_
      refine R_icmp_ge hC 102 dX4_read_14 (by decide) (fun h => absurd h (nI_ge hi (by omega))) (fun _ => ?_)
      refine R_aload_n (i := 1) hC dX4_read_17 rfl rfl (R_iload_n (i := 3) hC dX4_read_18 rfl rfl ?_)
      refine R_V1i hC hR dX4_read_19 MV_X8_at ml_X4_33 L_tape rfl (c_tat htt o1 hi) (by first | decide | omega) ⟨by decide, by decide⟩ (Nat.le_of_ble_eq_true rfl) ?_
      refine R_istore hC dX4_read_22 (by decide) rfl (R_iload hC dX4_read_24 rfl (R_bipush (v := 32) hC dX4_read_26 (by decide) ?_))
      refine R_icmp_ne hC 34 dX4_read_28 (by decide) (fun h28 => ?_) (fun h28 => ?_)
      · have nb : ¬ t.2 i = 32 := fun z => h28 (e32.mpr z)
        refine R_aload_n (i := 0) hC dX4_read_34 rfl rfl (R_iload_n (i := 2) hC dX4_read_35 rfl rfl ?_)
        refine R_V1i hC hR dX4_read_36 MV_X4_isWhole ml_X4_37 hS.1 rfl (c_isWhole (k := k) hS hc h12 (fun z => ⟨(hk z).1, (hk z).2.1, (hk z).2.2.1⟩) sn4) (by first | decide | omega) ⟨by decide, by decide⟩ (Nat.le_of_ble_eq_true rfl) ?_
        refine R_if_eq hC 65 dX4_read_39 (by decide) (fun h39 => ?_) (fun h39 => ?_)
        · refine R_iload_n (i := 2) hC dX4_read_65 rfl rfl ?_
          refine R_if_ne hC 81 dX4_read_66 (by decide) (fun h66 => ?_) (fun h66 => ?_)
          · have sz : ¬ sn = 0 := fun z => h66 (s0.mpr z)
            obtain ⟨hk1, hk2, hk3, hk4⟩ := hk (by omega)
            have nw : ¬ sn = sgK k := fun z => b2i_0 h39 ⟨by omega, z⟩
            have sg4 := (sgK_pos k hk2).2
            refine R_aload_n (i := 0) hC dX4_read_81 rfl rfl (R_iload_n (i := 2) hC dX4_read_82 rfl rfl (R_iload hC dX4_read_83 rfl ?_))
            refine R_V2g hC hR dX4_read_85 MV_X4_goesOn ml_X4_44 hS.1 rfl (c_goB hS hc h12 hk1 (by omega) (show 1 ≤ sn by omega) (show sn ≤ 3 by omega)) (by first | decide | omega) ⟨by decide, by decide⟩ (Nat.le_of_ble_eq_true rfl) (fun r w1 hq => ?_)
            obtain ⟨φ, rfl, ha, rfl, hb2⟩ := hq
            refine R_if_ne hC 93 dX4_read_88 (by decide) (fun h88 => ?_) (fun h88 => ?_)
            · refine R_iinc hC dX4_read_93 rfl (inc1 _) (by decide) rfl (R_iinc hC dX4_read_96 rfl (inc1 _) (by decide) rfl (R_goto hC 9 dX4_read_99 (by decide) ?_))
              first
                | exact ih τ size k sn S _ hg hc h12 hs0 hk (by rw [hr, RZ_1 hi, if_pos (e32.mp h28)])
                | exact ih τ size k 0 S _ hg hc h12 (fun _ => by have := mt z12.mpr h55; omega) (fun z => absurd z (Nat.lt_irrefl _)) (by rw [hr, RZ_w hi nb (b2i_ne h39) ⟨e59.mp h46, fun z => h55 (z12.mpr z)⟩])
                | (subst sz; obtain ⟨k2, hk2⟩ := b2i_ne h75; have w2 := hb2 k2 hk2; have p2 := sgK_pos k2 w2.1; exact ih φ (size + 1) k2 1 (stN S size k2) _ (hg.tr ha) w2.2 (by have := hs0 rfl; omega) (fun z => absurd z (by decide)) (fun _ => ⟨by omega, w2.1, by rw [show size + 1 - 1 = size by omega]; unfold stN; rw [if_pos rfl, if_pos rfl], p2.1⟩) (by rw [hr, RZ_k hi nb hk2]))
                | (obtain ⟨v, hv⟩ := b2i_ne h88; have w2 := hb2 v hv; exact ih φ size k (sn + 1) (stA S (size - 1) sn v) _ (hg.tr ha) w2 h12 (fun z => absurd z (by omega)) (fun _ => ⟨hk1, hk2, by unfold stA; rw [if_neg (by omega)]; exact hk3, by omega⟩) (hr.trans (goY nb nw sz v hv)))
            · refine R_iload_n (i := 3) hC dX4_read_91 rfl rfl ?_
              exact R_iret hC hT dX4_read_92 rfl (by
              first
                | (subst sz; exact bd2 φ ha (by rw [hr, RZ_k0 hi nb (op_nn (b2i_0 h75))]))
                | exact bd2 φ ha (hr.trans (goN nb nw sz (b2i_0 h88))))
          · have sz : sn = 0 := s0.mp h66
            refine R_aload_n (i := 0) hC dX4_read_69 rfl rfl (R_iload hC dX4_read_70 rfl ?_)
            refine R_V1g hC hR dX4_read_72 MV_X4_begins ml_X4_41 hS.1 rfl (c_begB hS hc (hs0 sz) (by omega)) (by first | decide | omega) ⟨by decide, by decide⟩ (Nat.le_of_ble_eq_true rfl) (fun r w1 hq => ?_)
            obtain ⟨φ, rfl, ha, rfl, hb2⟩ := hq
            refine R_if_eq hC 91 dX4_read_75 (by decide) (fun h75 => ?_) (fun h75 => ?_)
            · refine R_iload_n (i := 3) hC dX4_read_91 rfl rfl ?_
              exact R_iret hC hT dX4_read_92 rfl (by
              first
                | (subst sz; exact bd2 φ ha (by rw [hr, RZ_k0 hi nb (op_nn (b2i_0 h75))]))
                | exact bd2 φ ha (hr.trans (goN nb nw sz (b2i_0 h88))))
            · refine R_goto hC 93 dX4_read_78 (by decide) (R_iinc hC dX4_read_93 rfl (inc1 _) (by decide) rfl (R_iinc hC dX4_read_96 rfl (inc1 _) (by decide) rfl (R_goto hC 9 dX4_read_99 (by decide) ?_)))
              first
                | exact ih τ size k sn S _ hg hc h12 hs0 hk (by rw [hr, RZ_1 hi, if_pos (e32.mp h28)])
                | exact ih τ size k 0 S _ hg hc h12 (fun _ => by have := mt z12.mpr h55; omega) (fun z => absurd z (Nat.lt_irrefl _)) (by rw [hr, RZ_w hi nb (b2i_ne h39) ⟨e59.mp h46, fun z => h55 (z12.mpr z)⟩])
                | (subst sz; obtain ⟨k2, hk2⟩ := b2i_ne h75; have w2 := hb2 k2 hk2; have p2 := sgK_pos k2 w2.1; exact ih φ (size + 1) k2 1 (stN S size k2) _ (hg.tr ha) w2.2 (by have := hs0 rfl; omega) (fun z => absurd z (by decide)) (fun _ => ⟨by omega, w2.1, by rw [show size + 1 - 1 = size by omega]; unfold stN; rw [if_pos rfl, if_pos rfl], p2.1⟩) (by rw [hr, RZ_k hi nb hk2]))
                | (obtain ⟨v, hv⟩ := b2i_ne h88; have w2 := hb2 v hv; exact ih φ size k (sn + 1) (stA S (size - 1) sn v) _ (hg.tr ha) w2 h12 (fun z => absurd z (by omega)) (fun _ => ⟨hk1, hk2, by unfold stA; rw [if_neg (by omega)]; exact hk3, by omega⟩) (hr.trans (goY nb nw sz v hv)))
        · refine R_iload hC dX4_read_42 rfl (R_bipush (v := 59) hC dX4_read_44 (by decide) ?_)
          refine R_icmp_ne hC 58 dX4_read_46 (by decide) (fun h46 => ?_) (fun h46 => ?_)
          · refine R_iload_n (i := 3) hC dX4_read_58 rfl rfl ?_
            exact R_iret hC hT dX4_read_59 rfl (bd (by first | (rw [hr, RZ_w0 hi nb (b2i_ne h39) (fun z => h46 (e59.mpr z.1))]; done) | (rw [hr, RZ_w0 hi nb (b2i_ne h39) (fun z => z.2 (z12.mp h55))]; done)))
          · refine R_aload_n (i := 0) hC dX4_read_49 rfl rfl (R_gI hC dX4_read_50 fl_X4_24 hS.1 rfl ?_)
            refine R_top (y := nI size) (hc.1) ?_
            refine R_bipush (v := 12) hC dX4_read_53 (by decide) ?_
            refine R_icmp_ne hC 60 dX4_read_55 (by decide) (fun h55 => ?_) (fun h55 => ?_)
            · refine R_iconst (v := 0) hC dX4_read_60 (by decide) (R_istore_n (i := 2) hC dX4_read_61 rfl (by decide) rfl (R_goto hC 96 dX4_read_62 (by decide) (R_iinc hC dX4_read_96 rfl (inc1 _) (by decide) rfl (R_goto hC 9 dX4_read_99 (by decide) ?_))))
              first
                | exact ih τ size k sn S _ hg hc h12 hs0 hk (by rw [hr, RZ_1 hi, if_pos (e32.mp h28)])
                | exact ih τ size k 0 S _ hg hc h12 (fun _ => by have := mt z12.mpr h55; omega) (fun z => absurd z (Nat.lt_irrefl _)) (by rw [hr, RZ_w hi nb (b2i_ne h39) ⟨e59.mp h46, fun z => h55 (z12.mpr z)⟩])
                | (subst sz; obtain ⟨k2, hk2⟩ := b2i_ne h75; have w2 := hb2 k2 hk2; have p2 := sgK_pos k2 w2.1; exact ih φ (size + 1) k2 1 (stN S size k2) _ (hg.tr ha) w2.2 (by have := hs0 rfl; omega) (fun z => absurd z (by decide)) (fun _ => ⟨by omega, w2.1, by rw [show size + 1 - 1 = size by omega]; unfold stN; rw [if_pos rfl, if_pos rfl], p2.1⟩) (by rw [hr, RZ_k hi nb hk2]))
                | (obtain ⟨v, hv⟩ := b2i_ne h88; have w2 := hb2 v hv; exact ih φ size k (sn + 1) (stA S (size - 1) sn v) _ (hg.tr ha) w2 h12 (fun z => absurd z (by omega)) (fun _ => ⟨hk1, hk2, by unfold stA; rw [if_neg (by omega)]; exact hk3, by omega⟩) (hr.trans (goY nb nw sz v hv)))
            · refine R_iload_n (i := 3) hC dX4_read_58 rfl rfl ?_
              exact R_iret hC hT dX4_read_59 rfl (bd (by first | (rw [hr, RZ_w0 hi nb (b2i_ne h39) (fun z => h46 (e59.mpr z.1))]; done) | (rw [hr, RZ_w0 hi nb (b2i_ne h39) (fun z => z.2 (z12.mp h55))]; done)))
      · refine R_goto hC 96 dX4_read_31 (by decide) (R_iinc hC dX4_read_96 rfl (inc1 _) (by decide) rfl (R_goto hC 9 dX4_read_99 (by decide) ?_))
        first
          | exact ih τ size k sn S _ hg hc h12 hs0 hk (by rw [hr, RZ_1 hi, if_pos (e32.mp h28)])
          | exact ih τ size k 0 S _ hg hc h12 (fun _ => by have := mt z12.mpr h55; omega) (fun z => absurd z (Nat.lt_irrefl _)) (by rw [hr, RZ_w hi nb (b2i_ne h39) ⟨e59.mp h46, fun z => h55 (z12.mpr z)⟩])
          | (subst sz; obtain ⟨k2, hk2⟩ := b2i_ne h75; have w2 := hb2 k2 hk2; have p2 := sgK_pos k2 w2.1; exact ih φ (size + 1) k2 1 (stN S size k2) _ (hg.tr ha) w2.2 (by have := hs0 rfl; omega) (fun z => absurd z (by decide)) (fun _ => ⟨by omega, w2.1, by rw [show size + 1 - 1 = size by omega]; unfold stN; rw [if_pos rfl, if_pos rfl], p2.1⟩) (by rw [hr, RZ_k hi nb hk2]))
          | (obtain ⟨v, hv⟩ := b2i_ne h88; have w2 := hb2 v hv; exact ih φ size k (sn + 1) (stA S (size - 1) sn v) _ (hg.tr ha) w2 h12 (fun z => absurd z (by omega)) (fun _ => ⟨hk1, hk2, by unfold stA; rw [if_neg (by omega)]; exact hk3, by omega⟩) (hr.trans (goY nb nw sz v hv)))
  refine R_aload_n (i := 0) hC dX4_read_0 rfl rfl (R_iconst (v := 0) hC dX4_read_1 (by decide) (R_pI hC dX4_read_2 fl_X4_24 hS.1 rfl (R_iconst (v := 0) hC dX4_read_5 (by decide) (R_istore_n (i := 2) hC dX4_read_6 rfl (by decide) rfl (R_iconst (v := 0) hC dX4_read_7 (by decide) (R_istore_n (i := 3) hC dX4_read_8 rfl (by decide) rfl ?_))))))
  exact lp 0 (Nat.zero_le _) _ 0 0 0 (fun _ _ => 0) _ ((AE.rf _ σ).g m0) ⟨sG_eq _ _ _ _, fun i hi => absurd hi (Nat.not_lt_zero _)⟩ (by decide) (fun _ => by decide) (fun z => absurd z (Nat.lt_irrefl _)) hres.symm
