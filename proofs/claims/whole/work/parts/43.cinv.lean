/-! ===== the class's cells hold the abstract state ===== -/
def SL (b : Nat) : Prop := LY b (2, 4, [(0, 0), (2, b + 1), (2, b + 2), (2, b + 3), (2, b + 4)]) ∧ LY (b + 1) (0, 12, []) ∧ LY (b + 2) (0, 12, []) ∧ LY (b + 3) (0, 12, []) ∧ LY (b + 4) (0, 12, [])
def DL (b : Nat) : Prop := LY b (2, 9, [(2, b + 1), (2, b + 3), (2, b + 4), (0, 0), (0, 0)]) ∧ TL (b + 1) ∧ LY (b + 3) (0, 6, []) ∧ LY (b + 4) (0, 6, [])
theorem TL_table : TL i_table := ⟨L_table, L_table_c⟩
theorem TL_before : TL i_before := ⟨L_before, L_before_c⟩
theorem TL_draft : TL i_draft := ⟨L_draft, L_draft_c⟩
theorem TL_pic : TL i_pictured := ⟨L_pictured, L_pictured_c⟩
theorem TL_signs : TL i_signs := ⟨L_signs, L_signs_c⟩
theorem TL_special : TL i_special := ⟨L_special, L_special_c⟩
theorem TL_moved : TL i_moved := ⟨L_moved, L_moved_c⟩
theorem DL_tree : DL i_tree := ⟨L_tree, ⟨L_tree_plan, L_tree_plan_c⟩, L_tree_t, L_tree_h⟩
theorem DL_cotree : DL i_cotree := ⟨L_cotree, ⟨L_cotree_plan, L_cotree_plan_c⟩, L_cotree_t, L_cotree_h⟩
theorem TL_kept (k : Nat) (h : k < 4) : TL (143 + 2 * k) := by
  rcases (by omega : k = 0 ∨ k = 1 ∨ k = 2 ∨ k = 3) with rfl | rfl | rfl | rfl
  · exact ⟨L_kept0, L_kept0_c⟩
  · exact ⟨L_kept1, L_kept1_c⟩
  · exact ⟨L_kept2, L_kept2_c⟩
  · exact ⟨L_kept3, L_kept3_c⟩
theorem SL_scr (k : Nat) (h : k < 5) : SL (151 + 5 * k) := by
  rcases (by omega : k = 0 ∨ k = 1 ∨ k = 2 ∨ k = 3 ∨ k = 4) with rfl | rfl | rfl | rfl | rfl
  · exact ⟨L_scr0, L_scr0_k, L_scr0_f, L_scr0_s, L_scr0_v⟩
  · exact ⟨L_scr1, L_scr1_k, L_scr1_f, L_scr1_s, L_scr1_v⟩
  · exact ⟨L_scr2, L_scr2_k, L_scr2_f, L_scr2_s, L_scr2_v⟩
  · exact ⟨L_scr3, L_scr3_k, L_scr3_f, L_scr3_s, L_scr3_v⟩
  · exact ⟨L_scr4, L_scr4_k, L_scr4_f, L_scr4_s, L_scr4_v⟩
theorem TL_past : ∀ k : Nat, k < 40 → TL (27 + 2 * k)
  | 0, _ => ⟨L_past0, L_past0_c⟩
  | 1, _ => ⟨L_past1, L_past1_c⟩
  | 2, _ => ⟨L_past2, L_past2_c⟩
  | 3, _ => ⟨L_past3, L_past3_c⟩
  | 4, _ => ⟨L_past4, L_past4_c⟩
  | 5, _ => ⟨L_past5, L_past5_c⟩
  | 6, _ => ⟨L_past6, L_past6_c⟩
  | 7, _ => ⟨L_past7, L_past7_c⟩
  | 8, _ => ⟨L_past8, L_past8_c⟩
  | 9, _ => ⟨L_past9, L_past9_c⟩
  | 10, _ => ⟨L_past10, L_past10_c⟩
  | 11, _ => ⟨L_past11, L_past11_c⟩
  | 12, _ => ⟨L_past12, L_past12_c⟩
  | 13, _ => ⟨L_past13, L_past13_c⟩
  | 14, _ => ⟨L_past14, L_past14_c⟩
  | 15, _ => ⟨L_past15, L_past15_c⟩
  | 16, _ => ⟨L_past16, L_past16_c⟩
  | 17, _ => ⟨L_past17, L_past17_c⟩
  | 18, _ => ⟨L_past18, L_past18_c⟩
  | 19, _ => ⟨L_past19, L_past19_c⟩
  | 20, _ => ⟨L_past20, L_past20_c⟩
  | 21, _ => ⟨L_past21, L_past21_c⟩
  | 22, _ => ⟨L_past22, L_past22_c⟩
  | 23, _ => ⟨L_past23, L_past23_c⟩
  | 24, _ => ⟨L_past24, L_past24_c⟩
  | 25, _ => ⟨L_past25, L_past25_c⟩
  | 26, _ => ⟨L_past26, L_past26_c⟩
  | 27, _ => ⟨L_past27, L_past27_c⟩
  | 28, _ => ⟨L_past28, L_past28_c⟩
  | 29, _ => ⟨L_past29, L_past29_c⟩
  | 30, _ => ⟨L_past30, L_past30_c⟩
  | 31, _ => ⟨L_past31, L_past31_c⟩
  | 32, _ => ⟨L_past32, L_past32_c⟩
  | 33, _ => ⟨L_past33, L_past33_c⟩
  | 34, _ => ⟨L_past34, L_past34_c⟩
  | 35, _ => ⟨L_past35, L_past35_c⟩
  | 36, _ => ⟨L_past36, L_past36_c⟩
  | 37, _ => ⟨L_past37, L_past37_c⟩
  | 38, _ => ⟨L_past38, L_past38_c⟩
  | 39, _ => ⟨L_past39, L_past39_c⟩
  | k + 40, h => absurd h (by omega)
theorem fl_kept : ∀ k, k < 4 → ([(2, 143), (2, 145), (2, 147), (2, 149)] : List (Nat × Nat))[k]? = some (2, 143 + 2 * k) := by decide
theorem fl_scr : ∀ k, k < 5 → ([(2, 151), (2, 156), (2, 161), (2, 166), (2, 171)] : List (Nat × Nat))[k]? = some (2, 151 + 5 * k) := by decide
theorem fl_past : ∀ k, k < 40 → ([(2, 27), (2, 29), (2, 31), (2, 33), (2, 35), (2, 37), (2, 39), (2, 41), (2, 43), (2, 45), (2, 47), (2, 49), (2, 51), (2, 53), (2, 55), (2, 57), (2, 59), (2, 61), (2, 63), (2, 65), (2, 67), (2, 69), (2, 71), (2, 73), (2, 75), (2, 77), (2, 79), (2, 81), (2, 83), (2, 85), (2, 87), (2, 89), (2, 91), (2, 93), (2, 95), (2, 97), (2, 99), (2, 101), (2, 103), (2, 105)] : List (Nat × Nat))[k]? = some (2, 27 + 2 * k) := by decide +kernel
def CS (σ : sg) (b : Nat) (s : scr) : Prop := σ.1 b 0 = nI s.1 ∧ ∀ i, i < s.1 → σ.2.2 (b + 1) i = s.2 i 0 ∧ σ.2.2 (b + 2) i = s.2 i 1 ∧ σ.2.2 (b + 3) i = s.2 i 2 ∧ σ.2.2 (b + 4) i = s.2 i 3
def CI1 (σ : sg) (t : Nat × (Nat → Nat)) : Prop := σ.1 i_tape 1 = nI t.1 ∧ ∀ i, i < t.1 → σ.2.2 i_tape_b i = nI (t.2 i)
def CI3 (σ : sg) (K : Nat × (Nat → tb)) : Prop := σ.1 i_U 6 = nI K.1 ∧ ∀ k, k < K.1 → CT σ (143 + 2 * k) (K.2 k)
def CI4 (σ : sg) (S : Nat × (Nat → scr)) : Prop := σ.1 i_U 8 = nI S.1 ∧ ∀ k, k < S.1 → CS σ (151 + 5 * k) (S.2 k)
def CI5 (σ : sg) (P : Nat × (Nat → tb)) : Prop := ∃ o, o < 40 ∧ σ.1 i_past 1 = nI o ∧ σ.1 i_past 2 = nI P.1 ∧ ∀ k, k < P.1 → CT σ (27 + 2 * ((o + k) % 40)) (P.2 k)
def CI6 (σ : sg) (Z : Nat → Int32) : Prop := ∀ i, i < 4 → σ.2.2 i_refu i = Z i
def CI7 (σ : sg) (I : Bool × tb × Nat) : Prop := CT σ i_pictured (if I.1 = true then I.2.1 else (0, 0, fun _ _ => 0)) ∧ (I.1 = true → σ.1 i_U 10 = nI I.2.2)
def KD (σ : sg) : Prop := ∀ R C, R < 64 → C < 64 → pc6 R ≠ pc6 C → σ.2.2 i_cdets (64 * R + C) = 0
def CKm (σ : sg) (T : tb) : Prop := σ.1 i_minors 1 = nI (2 ^ T.1) ∧ σ.1 i_minors 2 = nI (2 ^ T.2.1) ∧ DT (σ.2.2 i_cdets) T ∧ ((tot T ∧ σ.1 i_minors 3 = 0) ∨ ∃ p, wit T p ∧ σ.1 i_minors 3 = nI p.1 ∧ σ.1 i_minors 4 = nI p.2)
def CKt (σ : sg) (b : Nat) (T : tb) : Prop := CT σ (b + 1) T ∧ ((treeR T = none ∧ σ.1 b 3 = 0) ∨ ∃ t, treeR T = some t ∧ σ.1 b 3 = 1 ∧ ArR (σ.2.2 (b + 3)) (σ.2.2 (b + 4)) 0 t T.1)
def CC (σ : sg) (T : tb) : Prop := (σ.1 i_minors 5 = 0 ∨ (σ.1 i_minors 5 = 1 ∧ CKm σ T)) ∧ (σ.1 i_tree 4 = 0 ∨ (σ.1 i_tree 4 = 1 ∧ CKt σ i_tree T)) ∧ (σ.1 i_cotree 4 = 0 ∨ (σ.1 i_cotree 4 = 1 ∧ CKt σ i_cotree (trT T))) ∧ (σ.1 i_signing 7 = 0 ∨ (σ.1 i_signing 7 = 1 ∧ CT σ i_signs (sgnA T)))
def CInv (σ : sg) (α : aS) : Prop := CI1 σ (tp α) ∧ CT σ i_table (tT α) ∧ CI3 σ (tK α) ∧ CI4 σ (tS α) ∧ CI5 σ (tP α) ∧ CI6 σ (tZ α) ∧ CI7 σ (tI α) ∧ KD σ ∧ CC σ (tT α)
section FRAMES
variable {L : List Nat} {σ τ : sg}
theorem CI1.ae {t : Nat × (Nat → Nat)} (h : CI1 σ t) (e : AE L σ τ) (d : ∀ i, i ∈ L → i ≠ 17 ∧ i ≠ 18) : CI1 τ t := by
  unfold CI1; rw [(e 17 (fun q => (d _ q).1 rfl)).1, (e 18 (fun q => (d _ q).2 rfl)).2.2]; exact h
theorem CI3.ae {K : Nat × (Nat → tb)} (h : CI3 σ K) (k4 : K.1 ≤ 4) (e : AE L σ τ) (d : ∀ i, i ∈ L → i ≠ 16 ∧ ¬ (143 ≤ i ∧ i ≤ 150)) : CI3 τ K :=
  ⟨by rw [(e 16 (fun q => (d _ q).1 rfl)).1]; exact h.1, fun k hk => (h.2 k hk).ae e (fun q => (d _ q).2 (by omega)) (fun q => (d _ q).2 (by omega))⟩
theorem CS.ae {b : Nat} {s : scr} (h : CS σ b s) (e : AE L σ τ) (d : ∀ i, i ∈ L → ¬ (b ≤ i ∧ i ≤ b + 4)) : CS τ b s := by
  unfold CS
  rw [(e b (fun q => d _ q (by omega))).1, (e (b + 1) (fun q => d _ q (by omega))).2.2, (e (b + 2) (fun q => d _ q (by omega))).2.2, (e (b + 3) (fun q => d _ q (by omega))).2.2, (e (b + 4) (fun q => d _ q (by omega))).2.2]
  exact h
theorem CI4.ae {S : Nat × (Nat → scr)} (h : CI4 σ S) (e : AE L σ τ) (d : ∀ i, i ∈ L → i ≠ 16 ∧ ¬ (151 ≤ i ∧ i < 151 + 5 * S.1)) : CI4 τ S :=
  ⟨by rw [(e 16 (fun q => (d _ q).1 rfl)).1]; exact h.1, fun k hk => (h.2 k hk).ae e (fun i q z => (d _ q).2 (by omega))⟩
theorem CI5.ae {P : Nat × (Nat → tb)} (h : CI5 σ P) (e : AE L σ τ) (d : ∀ i, i ∈ L → i ≠ 25 ∧ ¬ (27 ≤ i ∧ i ≤ 106)) : CI5 τ P := by
  obtain ⟨o, h1, h2, h3, h4⟩ := h
  have q := (e 25 (fun q => (d _ q).1 rfl)).1
  exact ⟨o, h1, by rw [q]; exact h2, by rw [q]; exact h3, fun k hk => (h4 k hk).ae e (fun z => (d _ z).2 (by omega)) (fun z => (d _ z).2 (by omega))⟩
theorem CI6.ae {Z : Nat → Int32} (h : CI6 σ Z) (e : AE L σ τ) (d : ∀ i, i ∈ L → i ≠ 111) : CI6 τ Z := by
  unfold CI6; rw [(e 111 (fun q => d _ q rfl)).2.2]; exact h
theorem CI7.ae {I : Bool × tb × Nat} (h : CI7 σ I) (e : AE L σ τ) (d : ∀ i, i ∈ L → i ≠ 16 ∧ i ≠ 109 ∧ i ≠ 110) : CI7 τ I :=
  ⟨h.1.ae e (fun q => (d _ q).2.1 rfl) (fun q => (d _ q).2.2 rfl), by rw [(e 16 (fun q => (d _ q).1 rfl)).1]; exact h.2⟩
theorem KD.ae (h : KD σ) (e : AE L σ τ) (d : ∀ i, i ∈ L → i ≠ 113) : KD τ := by
  unfold KD; rw [(e 113 (fun q => d _ q rfl)).2.2]; exact h
theorem CKm.ae {T : tb} (h : CKm σ T) (e : AE L σ τ) (d : ∀ i, i ∈ L → i ≠ 112 ∧ i ≠ 113) : CKm τ T := by
  unfold CKm; rw [(e 112 (fun q => (d _ q).1 rfl)).1, (e 113 (fun q => (d _ q).2 rfl)).2.2]; exact h
theorem CKt.ae {T : tb} {b : Nat} (h : CKt σ b T) (e : AE L σ τ) (d : ∀ i, i ∈ L → ¬ (b ≤ i ∧ i ≤ b + 4)) : CKt τ b T := by
  refine ⟨h.1.ae e (fun q => d _ q (by omega)) (fun q => d _ q (by omega)), ?_⟩
  rw [(e b (fun q => d _ q (by omega))).1, (e (b + 3) (fun q => d _ q (by omega))).2.2, (e (b + 4) (fun q => d _ q (by omega))).2.2]; exact h.2
theorem CC.ae {T : tb} (h : CC σ T) (e : AE L σ τ) (d : ∀ i, i ∈ L → ¬ (112 ≤ i ∧ i ≤ 126)) : CC τ T := by
  obtain ⟨h1, h2, h3, h4⟩ := h
  refine ⟨?_, ?_, ?_, ?_⟩
  · rw [(e 112 (fun q => d _ q (by omega))).1]; exact h1.imp id (fun z => ⟨z.1, z.2.ae e (fun i q => ⟨fun y => d _ q (by omega), fun y => d _ q (by omega)⟩)⟩)
  · rw [(e 114 (fun q => d _ q (by omega))).1]; exact h2.imp id (fun z => ⟨z.1, z.2.ae e (fun i q y => d _ q (by have y : 114 ≤ i ∧ i ≤ 118 := y; omega))⟩)
  · rw [(e 119 (fun q => d _ q (by omega))).1]; exact h3.imp id (fun z => ⟨z.1, z.2.ae e (fun i q y => d _ q (by have y : 119 ≤ i ∧ i ≤ 123 := y; omega))⟩)
  · rw [(e 124 (fun q => d _ q (by omega))).1]; exact h4.imp id (fun z => ⟨z.1, z.2.ae e (fun q => d 125 q (by omega)) (fun q => d 126 q (by omega))⟩)
theorem CC.none {T : tb} (h1 : τ.1 112 5 = 0) (h2 : τ.1 114 4 = 0) (h3 : τ.1 119 4 = 0) (h4 : τ.1 124 7 = 0) : CC τ T := ⟨Or.inl h1, Or.inl h2, Or.inl h3, Or.inl h4⟩
/-- what is used for a while alone -/
def scq (i : Nat) : Prop := (21 ≤ i ∧ i ≤ 24) ∨ (127 ≤ i ∧ i ≤ 142) ∨ 176 ≤ i
theorem CInv.ae {α : aS} (ok : aOK α) (h : CInv σ α) (e : AE L σ τ) (d : ∀ i, i ∈ L → scq i) : CInv τ α := by
  obtain ⟨q1, q2, q3, q4, q5, q6, q7, q8, q9⟩ := h
  have k4 := ok.2.2.2.1.1
  have s4 := ok.2.2.2.2.1.1
  refine ⟨q1.ae e ?_, q2.ae e ?_ ?_, q3.ae k4 e ?_, q4.ae e ?_, q5.ae e ?_, q6.ae e ?_, q7.ae e ?_, q8.ae e ?_, q9.ae e ?_⟩
  all_goals first
    | (intro i q; have z := d i q; unfold scq at z; omega)
    | (intro q; have z := d 19 q; unfold scq at z; omega)
    | (intro q; have z := d 20 q; unfold scq at z; omega)
end FRAMES
theorem CInv.ceq {σ τ : sg} {α : aS} (ok : aOK α) (h : CInv σ α) (e : CEq σ τ) : CInv τ α := by
  -- through a state that has the class's cells of both
  have e2 : ∀ i, i < 176 → Sm σ τ i := e
  obtain ⟨q1, q2, q3, q4, q5, q6, q7, q8, q9⟩ := h
  have k4 := ok.2.2.2.1.1
  have s4 := ok.2.2.2.2.1.1
  have c : ∀ a T, a + 1 < 176 → CT σ a T → CT τ a T := fun a T ha z => z.of (e2 a (by omega)).1 (e2 (a + 1) ha).2.2
  have c16 := (e2 16 (by decide)).1
  have t1 : ∀ b T, b + 4 < 176 → CKt σ b T → CKt τ b T := fun b T hb z => by
    refine ⟨c _ _ (by omega) z.1, ?_⟩
    rw [(e2 b (by omega)).1, (e2 (b + 3) (by omega)).2.2, (e2 (b + 4) (by omega)).2.2]; exact z.2
  refine ⟨?_, c _ _ (by decide) q2, ⟨by rw [c16]; exact q3.1, fun k hk => c _ _ (by omega) (q3.2 k hk)⟩, ⟨by rw [c16]; exact q4.1, fun k hk => ?_⟩, ?_, ?_, ⟨c _ _ (by decide) q7.1, by rw [c16]; exact q7.2⟩, ?_, ?_⟩
  · unfold CI1; rw [(e2 17 (by decide)).1, (e2 18 (by decide)).2.2]; exact q1
  · have z := q4.2 k hk
    unfold CS
    rw [(e2 (151 + 5 * k) (by omega)).1, (e2 (151 + 5 * k + 1) (by omega)).2.2, (e2 (151 + 5 * k + 2) (by omega)).2.2, (e2 (151 + 5 * k + 3) (by omega)).2.2, (e2 (151 + 5 * k + 4) (by omega)).2.2]
    exact z
  · obtain ⟨o, z1, z2, z3, z4⟩ := q5
    have y := (e2 25 (by decide)).1
    exact ⟨o, z1, by rw [y]; exact z2, by rw [y]; exact z3, fun k hk => c _ _ (by omega) (z4 k hk)⟩
  · unfold CI6; rw [(e2 111 (by decide)).2.2]; exact q6
  · unfold KD; rw [(e2 113 (by decide)).2.2]; exact q8
  · obtain ⟨h1, h2, h3, h4⟩ := q9
    refine ⟨?_, ?_, ?_, ?_⟩
    · rw [(e2 112 (by decide)).1]; exact h1.imp id (fun z => ⟨z.1, by unfold CKm; rw [(e2 112 (by decide)).1, (e2 113 (by decide)).2.2]; exact z.2⟩)
    · rw [(e2 114 (by decide)).1]; exact h2.imp id (fun z => ⟨z.1, t1 _ _ (by decide) z.2⟩)
    · rw [(e2 119 (by decide)).1]; exact h3.imp id (fun z => ⟨z.1, t1 _ _ (by decide) z.2⟩)
    · rw [(e2 124 (by decide)).1]; exact h4.imp id (fun z => ⟨z.1, c _ _ (by decide) z.2⟩)
theorem MInv.meq {σ τ : sg} {α : aS} (h : MInv σ α) (e : MEq σ τ) : MInv τ α := by
  have m := (e i_M (Nat.le_refl _)).1
  exact h.of (by rw [m]) (by rw [m]) (by rw [m]) (by rw [m]) (by rw [m]) (by rw [m]) (e i_m_tape (by decide)).2.2 (e i_m_now (by decide)).2.2 (e i_m_kept (by decide)).2.2 (e i_m_plan (by decide)).2.2 (e i_m_planLong (by decide)).2.2 (e i_m_status (by decide)).2.2 (e i_m_undoRow (by decide)).2.2 (e i_m_imageRow (by decide)).2.2
theorem AE.meq {L : List Nat} {σ τ : sg} (h : AE L σ τ) (d : ∀ i, i ∈ L → i < i_M) : MEq σ τ := fun i hi => h i (fun q => by have := d i q; omega)
theorem MEq.rf (σ : sg) : MEq σ σ := fun _ _ => ⟨rfl, rfl, rfl⟩
theorem MEq.tr {σ τ υ : sg} (h : MEq σ τ) (k : MEq τ υ) : MEq σ υ := fun i hi => ⟨(k i hi).1.trans (h i hi).1, (k i hi).2.1.trans (h i hi).2.1, (k i hi).2.2.trans (h i hi).2.2⟩
theorem MEq.g {σ τ : sg} (h : MEq σ τ) {i k : Nat} {v : Int32} (hi : i < i_M) : MEq σ (sG τ i k v) := h.tr fun j hj => ⟨by funext b; exact sG_ni (by omega), rfl, rfl⟩
theorem MEq.l {σ τ : sg} (h : MEq σ τ) {i : Nat} {v : Int64} (hi : i < i_M) : MEq σ (sL τ i v) := h.tr fun j hj => ⟨rfl, if_neg (by omega), rfl⟩
theorem MEq.a {σ τ : sg} (h : MEq σ τ) {i : Nat} {f : Nat → Int32} (hi : i < i_M) : MEq σ (sA τ i f) := h.tr fun j hj => ⟨rfl, rfl, sA_ne (by omega)⟩
/-- the end of one of the class's calls -/
def CPost (σ : sg) (x : aW) (v : Int32) (α : aS) : Option Value → aW → Prop := fun r w => r = some (.int v) ∧ ∃ τ, w = wd τ x ∧ CInv τ α ∧ MEq σ τ
theorem CPost.i {σ τ : sg} {x : aW} {v : Int32} {α : aS} (h : CInv τ α) (c : MEq σ τ) : CPost σ x v α (some (.int v)) (wd τ x) := ⟨rfl, τ, rfl, h, c⟩
