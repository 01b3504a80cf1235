/-! ===== texts: what a tape says, sign by sign; the model's reading ===== -/
def vsN (b : Nat) : Option Int32 := if b = 43 then some 1 else if b = 45 then some (-1) else if b = 48 then some 0 else none
theorem vs_spt : ∀ b, b < 256 → (vsN b = none ∧ o2i (spt 3 (nI b)) = -1) ∨ (vsN b = some (o2i (spt 3 (nI b)) - 1) ∧ ¬ o2i (spt 3 (nI b)) = -1 ∧ (o2i (spt 3 (nI b)) - 1 = -1 ∨ o2i (spt 3 (nI b)) - 1 = 0 ∨ o2i (spt 3 (nI b)) - 1 = 1)) := by decide +kernel
theorem vs_m1 : o2i (spt 3 (-1)) = -1 := by decide +kernel
def ful (row col wid : Nat) : Prop := (row = 0 ∧ 0 < col) ∨ (¬ row = 0 ∧ col = wid)
noncomputable def rdT (t : tap) : Nat → Nat → Nat → Nat → Nat → (Nat → Nat → Int32) → Nat ⊕ tb
  | 0, i, row, col, wid, f => cnd (ful row col wid) (.inr (row + 1, col, f)) (.inl i)
  | n + 1, i, row, col, wid, f => match vsN (t.2 i) with
    | some v => if col = wid then .inl i else rdT t n (i + 1) row (col + 1) wid (fun a b => if a = row ∧ b = col then v else f a b)
    | none => if t.2 i = 47 then cnd (ful row col wid ∧ ¬ row = 5) (rdT t n (i + 1) (row + 1) 0 col f) (.inl i) else if t.2 i = 32 then rdT t n (i + 1) row col wid f else .inl i
noncomputable def RT (t : tap) (i row col wid : Nat) (f : Nat → Nat → Int32) : Nat ⊕ tb := rdT t (t.1 - i) i row col wid f
section RTL
variable {t : tap} {i row col wid : Nat} {f : Nat → Nat → Int32}
theorem RT_end : RT t t.1 row col wid f = cnd (ful row col wid) (.inr (row + 1, col, f)) (.inl t.1) := by unfold RT; rw [Nat.sub_self, rdT]
theorem RT_v (hi : i < t.1) {v : Int32} (h : vsN (t.2 i) = some v) (hc : ¬ col = wid) : RT t i row col wid f = RT t (i + 1) row (col + 1) wid (fun a b => if a = row ∧ b = col then v else f a b) := by
  unfold RT; rw [show t.1 - i = (t.1 - (i + 1)) + 1 by omega, rdT, h]; simp only [hc, if_false]
theorem RT_v0 (hi : i < t.1) {v : Int32} (h : vsN (t.2 i) = some v) (hc : col = wid) : RT t i row col wid f = .inl i := by
  unfold RT; rw [show t.1 - i = (t.1 - (i + 1)) + 1 by omega, rdT, h]; simp only [hc, if_true]
theorem vs47 : vsN 47 = none := by decide
theorem vs32 : vsN 32 = none := by decide
theorem RT_s (hi : i < t.1) (h : t.2 i = 47) (hc : ful row col wid ∧ ¬ row = 5) : RT t i row col wid f = RT t (i + 1) (row + 1) 0 col f := by
  unfold RT; rw [show t.1 - i = (t.1 - (i + 1)) + 1 by omega, rdT, h, vs47]; simp only [if_true]; rw [cnd_t hc]
theorem RT_s0 (hi : i < t.1) (h : t.2 i = 47) (hc : ¬ (ful row col wid ∧ ¬ row = 5)) : RT t i row col wid f = .inl i := by
  unfold RT; rw [show t.1 - i = (t.1 - (i + 1)) + 1 by omega, rdT, h, vs47]; simp only [if_true]; rw [cnd_f hc]
theorem RT_b (hi : i < t.1) (h : t.2 i = 32) : RT t i row col wid f = RT t (i + 1) row col wid f := by
  unfold RT; rw [show t.1 - i = (t.1 - (i + 1)) + 1 by omega, rdT, h, vs32]; simp
theorem RT_o (hi : i < t.1) (h : vsN (t.2 i) = none) (h1 : ¬ t.2 i = 47) (h2 : ¬ t.2 i = 32) : RT t i row col wid f = .inl i := by
  unfold RT; rw [show t.1 - i = (t.1 - (i + 1)) + 1 by omega, rdT, h]; simp only [h1, h2, if_false]
end RTL
/-- behind blanks -/
def skp (t : tap) : Nat → Nat → Nat
  | 0, i => i
  | n + 1, i => if t.2 i = 32 then skp t n (i + 1) else i
def SK (t : tap) (i : Nat) : Nat := skp t (t.1 - i) i
theorem SK_e (t : tap) : SK t t.1 = t.1 := by unfold SK; rw [Nat.sub_self, skp]
theorem SK_b {t : tap} {i : Nat} (hi : i < t.1) (h : t.2 i = 32) : SK t i = SK t (i + 1) := by
  unfold SK; rw [show t.1 - i = (t.1 - (i + 1)) + 1 by omega, skp, if_pos h]
theorem SK_n {t : tap} {i : Nat} (hi : i < t.1) (h : ¬ t.2 i = 32) : SK t i = i := by
  unfold SK; rw [show t.1 - i = (t.1 - (i + 1)) + 1 by omega, skp, if_neg h]
theorem SK_ok (t : tap) : ∀ i, i ≤ t.1 → i ≤ SK t i ∧ SK t i ≤ t.1 ∧ (SK t i < t.1 → ¬ t.2 (SK t i) = 32) := by
  refine up_loop t.1 ?_ ?_
  · rw [SK_e]; exact ⟨Nat.le_refl _, Nat.le_refl _, fun z => absurd z (Nat.lt_irrefl _)⟩
  · intro i hi ih
    by_cases h : t.2 i = 32
    · rw [SK_b hi h]; exact ⟨by omega, ih.2⟩
    · rw [SK_n hi h]; exact ⟨Nat.le_refl _, by omega, fun _ => h⟩
theorem RT_k {t : tap} {row col wid : Nat} {f : Nat → Nat → Int32} : ∀ i, i ≤ t.1 → RT t i row col wid f = RT t (SK t i) row col wid f := by
  refine up_loop t.1 ?_ ?_
  · rw [SK_e]
  · intro i hi ih
    by_cases h : t.2 i = 32
    · rw [SK_b hi h, RT_b hi h]; exact ih
    · rw [SK_n hi h]
theorem SK_nb {t : tap} {p : Nat} (hp : p ≤ t.1) (h : p < t.1 → ¬ t.2 p = 32) : SK t p = p := by
  rcases (by omega : p = t.1 ∨ p < t.1) with rfl | z
  · exact SK_e t
  · exact SK_n z (h z)
def chA (t : tap) (i : Nat) : Int32 := if i < t.1 then nI (t.2 i) else -1
theorem chA_y {t : tap} {i : Nat} (h : i < t.1) : chA t i = nI (t.2 i) := if_pos h
theorem chA_n {t : tap} {i : Nat} (h : ¬ i < t.1) : chA t i = -1 := if_neg h
/-- a tape as it must be, and the model's cells of it -/
def tpOK (t : tap) : Prop := t.1 ≤ 240 ∧ ∀ i, i < t.1 → 1 ≤ t.2 i ∧ t.2 i ≤ 255
def HT (σ : sg) (t : tap) : Prop := σ.1 i_M 2 = nI t.1 ∧ ∀ i, i < t.1 → σ.2.2 i_m_tape i &&& 255 = nI (t.2 i)
/-- while the model reads: where it is, the fault -/
def RDS (σ τ : sg) (i : Nat) (F : Int32) : Prop := (∀ k, k ≠ i_m_read → k ≠ i_m_plan → k ≠ i_m_planLong → τ.2.2 k = σ.2.2 k) ∧ τ.2.1 = σ.2.1 ∧ (∀ a b, ¬ (a = i_M ∧ (b = 3 ∨ b = 4)) → τ.1 a b = σ.1 a b) ∧ τ.1 i_M 3 = nI i ∧ τ.1 i_M 4 = F
theorem RDS.ht {σ τ : sg} {i : Nat} {F : Int32} {t : tap} (h : RDS σ τ i F) (k : HT σ t) : HT τ t := by
  unfold HT
  rw [h.2.2.1 _ _ (by decide), h.1 _ (by decide) (by decide) (by decide)]; exact k
theorem RDS.at {σ τ : sg} {i j : Nat} {F : Int32} (h : RDS σ τ i F) : RDS σ (sG τ i_M 3 (nI j)) j F :=
  ⟨h.1, h.2.1, fun a b z => by rw [show (sG τ i_M 3 (nI j)).1 a b = τ.1 a b from (by by_cases y : a = i_M; exact sG_nk (fun w => z ⟨y, Or.inl w⟩); exact sG_ni y)]; exact h.2.2.1 a b z, sG_eq _ _ _ _, (sG_nk (by decide)).trans h.2.2.2.2⟩
theorem RDS.fl {σ τ : sg} {i : Nat} {F G : Int32} (h : RDS σ τ i F) : RDS σ (sG τ i_M 4 G) i G :=
  ⟨h.1, h.2.1, fun a b z => by rw [show (sG τ i_M 4 G).1 a b = τ.1 a b from (by by_cases y : a = i_M; exact sG_nk (fun w => z ⟨y, Or.inr w⟩); exact sG_ni y)]; exact h.2.2.1 a b z, (sG_nk (by decide)).trans h.2.2.2.1, sG_eq _ _ _ _⟩
theorem RDS.rd {σ τ : sg} {i : Nat} {F : Int32} (h : RDS σ τ i F) (g : Nat → Int32) : RDS σ (sA τ i_m_read g) i F := ⟨fun k a b c => (sA_ne a).trans (h.1 k a b c), h.2⟩
theorem RDS.pl {σ τ : sg} {i : Nat} {F : Int32} (h : RDS σ τ i F) (g : Nat → Int32) : RDS σ (sA τ i_m_plan g) i F := ⟨fun k a b c => (sA_ne b).trans (h.1 k a b c), h.2⟩
theorem RDS.pn {σ τ : sg} {i : Nat} {F : Int32} (h : RDS σ τ i F) (g : Nat → Int32) : RDS σ (sA τ i_m_planLong g) i F := ⟨fun k a b c => (sA_ne c).trans (h.1 k a b c), h.2⟩
theorem dX11_here_0 : decode cX11_here 0 = .ok (.aload_n 0, 1) := by decide +kernel
theorem dX11_here_1 : decode cX11_here 1 = .ok (.getfield 98, 3) := by decide +kernel
theorem dX11_here_4 : decode cX11_here 4 = .ok (.aload_n 0, 1) := by decide +kernel
theorem dX11_here_5 : decode cX11_here 5 = .ok (.getfield 87, 3) := by decide +kernel
theorem dX11_here_8 : decode cX11_here 8 = .ok (.if_icmp .ge 19, 3) := by decide +kernel
theorem dX11_here_11 : decode cX11_here 11 = .ok (.aload_n 0, 1) := by decide +kernel
theorem dX11_here_12 : decode cX11_here 12 = .ok (.getfield 9, 3) := by decide +kernel
theorem dX11_here_15 : decode cX11_here 15 = .ok (.aload_n 0, 1) := by decide +kernel
theorem dX11_here_16 : decode cX11_here 16 = .ok (.getfield 98, 3) := by decide +kernel
theorem dX11_here_19 : decode cX11_here 19 = .ok (.baload, 1) := by decide +kernel
theorem dX11_here_20 : decode cX11_here 20 = .ok (.sipush 255, 3) := by decide +kernel
theorem dX11_here_23 : decode cX11_here 23 = .ok (.iand, 1) := by decide +kernel
theorem dX11_here_24 : decode cX11_here 24 = .ok (.goto 4, 3) := by decide +kernel
theorem dX11_here_27 : decode cX11_here 27 = .ok (.iconst (-1), 1) := by decide +kernel
theorem dX11_here_28 : decode cX11_here 28 = .ok (.ireturn, 1) := by decide +kernel
theorem dX11_look_0 : decode cX11_look 0 = .ok (.aload_n 0, 1) := by decide +kernel
theorem dX11_look_1 : decode cX11_look 1 = .ok (.invokevirtual 101, 3) := by decide +kernel
theorem dX11_look_4 : decode cX11_look 4 = .ok (.bipush 32, 2) := by decide +kernel
theorem dX11_look_6 : decode cX11_look 6 = .ok (.if_icmp .ne 16, 3) := by decide +kernel
theorem dX11_look_9 : decode cX11_look 9 = .ok (.aload_n 0, 1) := by decide +kernel
theorem dX11_look_10 : decode cX11_look 10 = .ok (.dup, 1) := by decide +kernel
theorem dX11_look_11 : decode cX11_look 11 = .ok (.getfield 98, 3) := by decide +kernel
theorem dX11_look_14 : decode cX11_look 14 = .ok (.iconst 1, 1) := by decide +kernel
theorem dX11_look_15 : decode cX11_look 15 = .ok (.iadd, 1) := by decide +kernel
theorem dX11_look_16 : decode cX11_look 16 = .ok (.putfield 98, 3) := by decide +kernel
theorem dX11_look_19 : decode cX11_look 19 = .ok (.goto (-19), 3) := by decide +kernel
theorem dX11_look_22 : decode cX11_look 22 = .ok (.aload_n 0, 1) := by decide +kernel
theorem dX11_look_23 : decode cX11_look 23 = .ok (.invokevirtual 101, 3) := by decide +kernel
theorem dX11_look_26 : decode cX11_look 26 = .ok (.ireturn, 1) := by decide +kernel
theorem dX11_fails_0 : decode cX11_fails 0 = .ok (.aload_n 0, 1) := by decide +kernel
theorem dX11_fails_1 : decode cX11_fails 1 = .ok (.getfield 105, 3) := by decide +kernel
theorem dX11_fails_4 : decode cX11_fails 4 = .ok (.iconst (-1), 1) := by decide +kernel
theorem dX11_fails_5 : decode cX11_fails 5 = .ok (.if_icmp .ne 11, 3) := by decide +kernel
theorem dX11_fails_8 : decode cX11_fails 8 = .ok (.aload_n 0, 1) := by decide +kernel
theorem dX11_fails_9 : decode cX11_fails 9 = .ok (.aload_n 0, 1) := by decide +kernel
theorem dX11_fails_10 : decode cX11_fails 10 = .ok (.getfield 98, 3) := by decide +kernel
theorem dX11_fails_13 : decode cX11_fails 13 = .ok (.putfield 105, 3) := by decide +kernel
theorem dX11_fails_16 : decode cX11_fails 16 = .ok (.return_, 1) := by decide +kernel
theorem dX11_readRow_0 : decode cX11_readRow 0 = .ok (.iconst 0, 1) := by decide +kernel
theorem dX11_readRow_1 : decode cX11_readRow 1 = .ok (.istore_n 1, 1) := by decide +kernel
theorem dX11_readRow_2 : decode cX11_readRow 2 = .ok (.ldc 116, 2) := by decide +kernel
theorem dX11_readRow_4 : decode cX11_readRow 4 = .ok (.aload_n 0, 1) := by decide +kernel
theorem dX11_readRow_5 : decode cX11_readRow 5 = .ok (.invokevirtual 118, 3) := by decide +kernel
theorem dX11_readRow_8 : decode cX11_readRow 8 = .ok (.invokestatic 121, 3) := by decide +kernel
theorem dX11_readRow_11 : decode cX11_readRow 11 = .ok (.istore_n 2, 1) := by decide +kernel
theorem dX11_readRow_12 : decode cX11_readRow 12 = .ok (.aload_n 0, 1) := by decide +kernel
theorem dX11_readRow_13 : decode cX11_readRow 13 = .ok (.getfield 17, 3) := by decide +kernel
theorem dX11_readRow_16 : decode cX11_readRow 16 = .ok (.bipush 36, 2) := by decide +kernel
theorem dX11_readRow_18 : decode cX11_readRow 18 = .ok (.iaload, 1) := by decide +kernel
theorem dX11_readRow_19 : decode cX11_readRow 19 = .ok (.ifCond .ne 8, 3) := by decide +kernel
theorem dX11_readRow_22 : decode cX11_readRow 22 = .ok (.bipush 6, 2) := by decide +kernel
theorem dX11_readRow_24 : decode cX11_readRow 24 = .ok (.goto 10, 3) := by decide +kernel
theorem dX11_readRow_27 : decode cX11_readRow 27 = .ok (.aload_n 0, 1) := by decide +kernel
theorem dX11_readRow_28 : decode cX11_readRow 28 = .ok (.getfield 17, 3) := by decide +kernel
theorem dX11_readRow_31 : decode cX11_readRow 31 = .ok (.bipush 37, 2) := by decide +kernel
theorem dX11_readRow_33 : decode cX11_readRow 33 = .ok (.iaload, 1) := by decide +kernel
theorem dX11_readRow_34 : decode cX11_readRow 34 = .ok (.istore_n 3, 1) := by decide +kernel
theorem dX11_readRow_35 : decode cX11_readRow 35 = .ok (.iload_n 2, 1) := by decide +kernel
theorem dX11_readRow_36 : decode cX11_readRow 36 = .ok (.iconst (-1), 1) := by decide +kernel
theorem dX11_readRow_37 : decode cX11_readRow 37 = .ok (.if_icmp .eq 54, 3) := by decide +kernel
theorem dX11_readRow_40 : decode cX11_readRow 40 = .ok (.iload_n 1, 1) := by decide +kernel
theorem dX11_readRow_41 : decode cX11_readRow 41 = .ok (.iload_n 3, 1) := by decide +kernel
theorem dX11_readRow_42 : decode cX11_readRow 42 = .ok (.if_icmp .ge 49, 3) := by decide +kernel
theorem dX11_readRow_45 : decode cX11_readRow 45 = .ok (.aload_n 0, 1) := by decide +kernel
theorem dX11_readRow_46 : decode cX11_readRow 46 = .ok (.getfield 17, 3) := by decide +kernel
theorem dX11_readRow_49 : decode cX11_readRow 49 = .ok (.bipush 6, 2) := by decide +kernel
theorem dX11_readRow_51 : decode cX11_readRow 51 = .ok (.aload_n 0, 1) := by decide +kernel
theorem dX11_readRow_52 : decode cX11_readRow 52 = .ok (.getfield 17, 3) := by decide +kernel
theorem dX11_readRow_55 : decode cX11_readRow 55 = .ok (.bipush 36, 2) := by decide +kernel
theorem dX11_readRow_57 : decode cX11_readRow 57 = .ok (.iaload, 1) := by decide +kernel
theorem dX11_readRow_58 : decode cX11_readRow 58 = .ok (.imul, 1) := by decide +kernel
theorem dX11_readRow_59 : decode cX11_readRow 59 = .ok (.iload_n 1, 1) := by decide +kernel
theorem dX11_readRow_60 : decode cX11_readRow 60 = .ok (.iadd, 1) := by decide +kernel
theorem dX11_readRow_61 : decode cX11_readRow 61 = .ok (.iload_n 2, 1) := by decide +kernel
theorem dX11_readRow_62 : decode cX11_readRow 62 = .ok (.iconst 1, 1) := by decide +kernel
theorem dX11_readRow_63 : decode cX11_readRow 63 = .ok (.isub, 1) := by decide +kernel
theorem dX11_readRow_64 : decode cX11_readRow 64 = .ok (.iastore, 1) := by decide +kernel
theorem dX11_readRow_65 : decode cX11_readRow 65 = .ok (.iinc 1 1, 3) := by decide +kernel
theorem dX11_readRow_68 : decode cX11_readRow 68 = .ok (.aload_n 0, 1) := by decide +kernel
theorem dX11_readRow_69 : decode cX11_readRow 69 = .ok (.dup, 1) := by decide +kernel
theorem dX11_readRow_70 : decode cX11_readRow 70 = .ok (.getfield 98, 3) := by decide +kernel
theorem dX11_readRow_73 : decode cX11_readRow 73 = .ok (.iconst 1, 1) := by decide +kernel
theorem dX11_readRow_74 : decode cX11_readRow 74 = .ok (.iadd, 1) := by decide +kernel
theorem dX11_readRow_75 : decode cX11_readRow 75 = .ok (.putfield 98, 3) := by decide +kernel
theorem dX11_readRow_78 : decode cX11_readRow 78 = .ok (.ldc 116, 2) := by decide +kernel
theorem dX11_readRow_80 : decode cX11_readRow 80 = .ok (.aload_n 0, 1) := by decide +kernel
theorem dX11_readRow_81 : decode cX11_readRow 81 = .ok (.invokevirtual 118, 3) := by decide +kernel
theorem dX11_readRow_84 : decode cX11_readRow 84 = .ok (.invokestatic 121, 3) := by decide +kernel
theorem dX11_readRow_87 : decode cX11_readRow 87 = .ok (.istore_n 2, 1) := by decide +kernel
theorem dX11_readRow_88 : decode cX11_readRow 88 = .ok (.goto (-53), 3) := by decide +kernel
theorem dX11_readRow_91 : decode cX11_readRow 91 = .ok (.iload_n 2, 1) := by decide +kernel
theorem dX11_readRow_92 : decode cX11_readRow 92 = .ok (.iconst (-1), 1) := by decide +kernel
theorem dX11_readRow_93 : decode cX11_readRow 93 = .ok (.if_icmp .ne 22, 3) := by decide +kernel
theorem dX11_readRow_96 : decode cX11_readRow 96 = .ok (.iload_n 1, 1) := by decide +kernel
theorem dX11_readRow_97 : decode cX11_readRow 97 = .ok (.ifCond .eq 18, 3) := by decide +kernel
theorem dX11_readRow_100 : decode cX11_readRow 100 = .ok (.aload_n 0, 1) := by decide +kernel
theorem dX11_readRow_101 : decode cX11_readRow 101 = .ok (.getfield 17, 3) := by decide +kernel
theorem dX11_readRow_104 : decode cX11_readRow 104 = .ok (.bipush 36, 2) := by decide +kernel
theorem dX11_readRow_106 : decode cX11_readRow 106 = .ok (.iaload, 1) := by decide +kernel
theorem dX11_readRow_107 : decode cX11_readRow 107 = .ok (.ifCond .le 12, 3) := by decide +kernel
theorem dX11_readRow_110 : decode cX11_readRow 110 = .ok (.iload_n 1, 1) := by decide +kernel
theorem dX11_readRow_111 : decode cX11_readRow 111 = .ok (.iload_n 3, 1) := by decide +kernel
theorem dX11_readRow_112 : decode cX11_readRow 112 = .ok (.if_icmp .ge 7, 3) := by decide +kernel
theorem dX11_readRow_115 : decode cX11_readRow 115 = .ok (.aload_n 0, 1) := by decide +kernel
theorem dX11_readRow_116 : decode cX11_readRow 116 = .ok (.invokevirtual 125, 3) := by decide +kernel
theorem dX11_readRow_119 : decode cX11_readRow 119 = .ok (.aload_n 0, 1) := by decide +kernel
theorem dX11_readRow_120 : decode cX11_readRow 120 = .ok (.getfield 17, 3) := by decide +kernel
theorem dX11_readRow_123 : decode cX11_readRow 123 = .ok (.bipush 36, 2) := by decide +kernel
theorem dX11_readRow_125 : decode cX11_readRow 125 = .ok (.iaload, 1) := by decide +kernel
theorem dX11_readRow_126 : decode cX11_readRow 126 = .ok (.ifCond .ne 11, 3) := by decide +kernel
theorem dX11_readRow_129 : decode cX11_readRow 129 = .ok (.aload_n 0, 1) := by decide +kernel
theorem dX11_readRow_130 : decode cX11_readRow 130 = .ok (.getfield 17, 3) := by decide +kernel
theorem dX11_readRow_133 : decode cX11_readRow 133 = .ok (.bipush 37, 2) := by decide +kernel
theorem dX11_readRow_135 : decode cX11_readRow 135 = .ok (.iload_n 1, 1) := by decide +kernel
theorem dX11_readRow_136 : decode cX11_readRow 136 = .ok (.iastore, 1) := by decide +kernel
theorem dX11_readRow_137 : decode cX11_readRow 137 = .ok (.aload_n 0, 1) := by decide +kernel
theorem dX11_readRow_138 : decode cX11_readRow 138 = .ok (.getfield 17, 3) := by decide +kernel
theorem dX11_readRow_141 : decode cX11_readRow 141 = .ok (.bipush 36, 2) := by decide +kernel
theorem dX11_readRow_143 : decode cX11_readRow 143 = .ok (.dup2, 1) := by decide +kernel
theorem dX11_readRow_144 : decode cX11_readRow 144 = .ok (.iaload, 1) := by decide +kernel
theorem dX11_readRow_145 : decode cX11_readRow 145 = .ok (.iconst 1, 1) := by decide +kernel
theorem dX11_readRow_146 : decode cX11_readRow 146 = .ok (.iadd, 1) := by decide +kernel
theorem dX11_readRow_147 : decode cX11_readRow 147 = .ok (.iastore, 1) := by decide +kernel
theorem dX11_readRow_148 : decode cX11_readRow 148 = .ok (.return_, 1) := by decide +kernel
theorem dX11_readTable_0 : decode cX11_readTable 0 = .ok (.aload_n 0, 1) := by decide +kernel
theorem dX11_readTable_1 : decode cX11_readTable 1 = .ok (.getfield 17, 3) := by decide +kernel
theorem dX11_readTable_4 : decode cX11_readTable 4 = .ok (.bipush 36, 2) := by decide +kernel
theorem dX11_readTable_6 : decode cX11_readTable 6 = .ok (.iconst 0, 1) := by decide +kernel
theorem dX11_readTable_7 : decode cX11_readTable 7 = .ok (.iastore, 1) := by decide +kernel
theorem dX11_readTable_8 : decode cX11_readTable 8 = .ok (.aload_n 0, 1) := by decide +kernel
theorem dX11_readTable_9 : decode cX11_readTable 9 = .ok (.invokevirtual 128, 3) := by decide +kernel
theorem dX11_readTable_12 : decode cX11_readTable 12 = .ok (.aload_n 0, 1) := by decide +kernel
theorem dX11_readTable_13 : decode cX11_readTable 13 = .ok (.getfield 105, 3) := by decide +kernel
theorem dX11_readTable_16 : decode cX11_readTable 16 = .ok (.iconst (-1), 1) := by decide +kernel
theorem dX11_readTable_17 : decode cX11_readTable 17 = .ok (.if_icmp .ne 46, 3) := by decide +kernel
theorem dX11_readTable_20 : decode cX11_readTable 20 = .ok (.aload_n 0, 1) := by decide +kernel
theorem dX11_readTable_21 : decode cX11_readTable 21 = .ok (.invokevirtual 118, 3) := by decide +kernel
theorem dX11_readTable_24 : decode cX11_readTable 24 = .ok (.bipush 47, 2) := by decide +kernel
theorem dX11_readTable_26 : decode cX11_readTable 26 = .ok (.if_icmp .ne 37, 3) := by decide +kernel
theorem dX11_readTable_29 : decode cX11_readTable 29 = .ok (.aload_n 0, 1) := by decide +kernel
theorem dX11_readTable_30 : decode cX11_readTable 30 = .ok (.getfield 17, 3) := by decide +kernel
theorem dX11_readTable_33 : decode cX11_readTable 33 = .ok (.bipush 36, 2) := by decide +kernel
theorem dX11_readTable_35 : decode cX11_readTable 35 = .ok (.iaload, 1) := by decide +kernel
theorem dX11_readTable_36 : decode cX11_readTable 36 = .ok (.bipush 6, 2) := by decide +kernel
theorem dX11_readTable_38 : decode cX11_readTable 38 = .ok (.if_icmp .ne 8, 3) := by decide +kernel
theorem dX11_readTable_41 : decode cX11_readTable 41 = .ok (.aload_n 0, 1) := by decide +kernel
theorem dX11_readTable_42 : decode cX11_readTable 42 = .ok (.invokevirtual 125, 3) := by decide +kernel
theorem dX11_readTable_45 : decode cX11_readTable 45 = .ok (.return_, 1) := by decide +kernel
theorem dX11_readTable_46 : decode cX11_readTable 46 = .ok (.aload_n 0, 1) := by decide +kernel
theorem dX11_readTable_47 : decode cX11_readTable 47 = .ok (.dup, 1) := by decide +kernel
theorem dX11_readTable_48 : decode cX11_readTable 48 = .ok (.getfield 98, 3) := by decide +kernel
theorem dX11_readTable_51 : decode cX11_readTable 51 = .ok (.iconst 1, 1) := by decide +kernel
theorem dX11_readTable_52 : decode cX11_readTable 52 = .ok (.iadd, 1) := by decide +kernel
theorem dX11_readTable_53 : decode cX11_readTable 53 = .ok (.putfield 98, 3) := by decide +kernel
theorem dX11_readTable_56 : decode cX11_readTable 56 = .ok (.aload_n 0, 1) := by decide +kernel
theorem dX11_readTable_57 : decode cX11_readTable 57 = .ok (.invokevirtual 128, 3) := by decide +kernel
theorem dX11_readTable_60 : decode cX11_readTable 60 = .ok (.goto (-48), 3) := by decide +kernel
theorem dX11_readTable_63 : decode cX11_readTable 63 = .ok (.aload_n 0, 1) := by decide +kernel
theorem dX11_readTable_64 : decode cX11_readTable 64 = .ok (.getfield 105, 3) := by decide +kernel
theorem dX11_readTable_67 : decode cX11_readTable 67 = .ok (.iconst (-1), 1) := by decide +kernel
theorem dX11_readTable_68 : decode cX11_readTable 68 = .ok (.if_icmp .ne 15, 3) := by decide +kernel
theorem dX11_readTable_71 : decode cX11_readTable 71 = .ok (.aload_n 0, 1) := by decide +kernel
theorem dX11_readTable_72 : decode cX11_readTable 72 = .ok (.invokevirtual 118, 3) := by decide +kernel
theorem dX11_readTable_75 : decode cX11_readTable 75 = .ok (.iconst (-1), 1) := by decide +kernel
theorem dX11_readTable_76 : decode cX11_readTable 76 = .ok (.if_icmp .eq 7, 3) := by decide +kernel
theorem dX11_readTable_79 : decode cX11_readTable 79 = .ok (.aload_n 0, 1) := by decide +kernel
theorem dX11_readTable_80 : decode cX11_readTable 80 = .ok (.invokevirtual 125, 3) := by decide +kernel
theorem dX11_readTable_83 : decode cX11_readTable 83 = .ok (.return_, 1) := by decide +kernel
theorem dX11_digit_0 : decode cX11_digit 0 = .ok (.aload_n 0, 1) := by decide +kernel
theorem dX11_digit_1 : decode cX11_digit 1 = .ok (.invokevirtual 118, 3) := by decide +kernel
theorem dX11_digit_4 : decode cX11_digit 4 = .ok (.istore_n 1, 1) := by decide +kernel
theorem dX11_digit_5 : decode cX11_digit 5 = .ok (.iload_n 1, 1) := by decide +kernel
theorem dX11_digit_6 : decode cX11_digit 6 = .ok (.bipush 48, 2) := by decide +kernel
theorem dX11_digit_8 : decode cX11_digit 8 = .ok (.if_icmp .lt 9, 3) := by decide +kernel
theorem dX11_digit_11 : decode cX11_digit 11 = .ok (.iload_n 1, 1) := by decide +kernel
theorem dX11_digit_12 : decode cX11_digit 12 = .ok (.bipush 57, 2) := by decide +kernel
theorem dX11_digit_14 : decode cX11_digit 14 = .ok (.if_icmp .le 9, 3) := by decide +kernel
theorem dX11_digit_17 : decode cX11_digit 17 = .ok (.aload_n 0, 1) := by decide +kernel
theorem dX11_digit_18 : decode cX11_digit 18 = .ok (.invokevirtual 125, 3) := by decide +kernel
theorem dX11_digit_21 : decode cX11_digit 21 = .ok (.iconst 0, 1) := by decide +kernel
theorem dX11_digit_22 : decode cX11_digit 22 = .ok (.ireturn, 1) := by decide +kernel
theorem dX11_digit_23 : decode cX11_digit 23 = .ok (.aload_n 0, 1) := by decide +kernel
theorem dX11_digit_24 : decode cX11_digit 24 = .ok (.dup, 1) := by decide +kernel
theorem dX11_digit_25 : decode cX11_digit 25 = .ok (.getfield 98, 3) := by decide +kernel
theorem dX11_digit_28 : decode cX11_digit 28 = .ok (.iconst 1, 1) := by decide +kernel
theorem dX11_digit_29 : decode cX11_digit 29 = .ok (.iadd, 1) := by decide +kernel
theorem dX11_digit_30 : decode cX11_digit 30 = .ok (.putfield 98, 3) := by decide +kernel
theorem dX11_digit_33 : decode cX11_digit 33 = .ok (.iload_n 1, 1) := by decide +kernel
theorem dX11_digit_34 : decode cX11_digit 34 = .ok (.bipush 48, 2) := by decide +kernel
theorem dX11_digit_36 : decode cX11_digit 36 = .ok (.isub, 1) := by decide +kernel
theorem dX11_digit_37 : decode cX11_digit 37 = .ok (.ireturn, 1) := by decide +kernel
theorem dX11_readStep_0 : decode cX11_readStep 0 = .ok (.ldc 131, 2) := by decide +kernel
theorem dX11_readStep_2 : decode cX11_readStep 2 = .ok (.aload_n 0, 1) := by decide +kernel
theorem dX11_readStep_3 : decode cX11_readStep 3 = .ok (.invokevirtual 118, 3) := by decide +kernel
theorem dX11_readStep_6 : decode cX11_readStep 6 = .ok (.invokestatic 121, 3) := by decide +kernel
theorem dX11_readStep_9 : decode cX11_readStep 9 = .ok (.istore_n 2, 1) := by decide +kernel
theorem dX11_readStep_10 : decode cX11_readStep 10 = .ok (.iload_n 2, 1) := by decide +kernel
theorem dX11_readStep_11 : decode cX11_readStep 11 = .ok (.iconst (-1), 1) := by decide +kernel
theorem dX11_readStep_12 : decode cX11_readStep 12 = .ok (.if_icmp .ne 8, 3) := by decide +kernel
theorem dX11_readStep_15 : decode cX11_readStep 15 = .ok (.aload_n 0, 1) := by decide +kernel
theorem dX11_readStep_16 : decode cX11_readStep 16 = .ok (.invokevirtual 125, 3) := by decide +kernel
theorem dX11_readStep_19 : decode cX11_readStep 19 = .ok (.return_, 1) := by decide +kernel
theorem dX11_readStep_20 : decode cX11_readStep 20 = .ok (.aload_n 0, 1) := by decide +kernel
theorem dX11_readStep_21 : decode cX11_readStep 21 = .ok (.dup, 1) := by decide +kernel
theorem dX11_readStep_22 : decode cX11_readStep 22 = .ok (.getfield 98, 3) := by decide +kernel
theorem dX11_readStep_25 : decode cX11_readStep 25 = .ok (.iconst 1, 1) := by decide +kernel
theorem dX11_readStep_26 : decode cX11_readStep 26 = .ok (.iadd, 1) := by decide +kernel
theorem dX11_readStep_27 : decode cX11_readStep 27 = .ok (.putfield 98, 3) := by decide +kernel
theorem dX11_readStep_30 : decode cX11_readStep 30 = .ok (.aload_n 0, 1) := by decide +kernel
theorem dX11_readStep_31 : decode cX11_readStep 31 = .ok (.getfield 26, 3) := by decide +kernel
theorem dX11_readStep_34 : decode cX11_readStep 34 = .ok (.iload_n 1, 1) := by decide +kernel
theorem dX11_readStep_35 : decode cX11_readStep 35 = .ok (.iload_n 2, 1) := by decide +kernel
theorem dX11_readStep_36 : decode cX11_readStep 36 = .ok (.iastore, 1) := by decide +kernel
theorem dX11_readStep_37 : decode cX11_readStep 37 = .ok (.iconst 1, 1) := by decide +kernel
theorem dX11_readStep_38 : decode cX11_readStep 38 = .ok (.istore_n 3, 1) := by decide +kernel
theorem dX11_readStep_39 : decode cX11_readStep 39 = .ok (.iload_n 3, 1) := by decide +kernel
theorem dX11_readStep_40 : decode cX11_readStep 40 = .ok (.iconst 4, 1) := by decide +kernel
theorem dX11_readStep_41 : decode cX11_readStep 41 = .ok (.if_icmp .ge 19, 3) := by decide +kernel
theorem dX11_readStep_44 : decode cX11_readStep 44 = .ok (.aload_n 0, 1) := by decide +kernel
theorem dX11_readStep_45 : decode cX11_readStep 45 = .ok (.getfield 26, 3) := by decide +kernel
theorem dX11_readStep_48 : decode cX11_readStep 48 = .ok (.iload_n 1, 1) := by decide +kernel
theorem dX11_readStep_49 : decode cX11_readStep 49 = .ok (.iload_n 3, 1) := by decide +kernel
theorem dX11_readStep_50 : decode cX11_readStep 50 = .ok (.iadd, 1) := by decide +kernel
theorem dX11_readStep_51 : decode cX11_readStep 51 = .ok (.ldc 133, 2) := by decide +kernel
theorem dX11_readStep_53 : decode cX11_readStep 53 = .ok (.iastore, 1) := by decide +kernel
theorem dX11_readStep_54 : decode cX11_readStep 54 = .ok (.iinc 3 1, 3) := by decide +kernel
theorem dX11_readStep_57 : decode cX11_readStep 57 = .ok (.goto (-18), 3) := by decide +kernel
theorem dX11_readStep_60 : decode cX11_readStep 60 = .ok (.iload_n 2, 1) := by decide +kernel
theorem dX11_readStep_61 : decode cX11_readStep 61 = .ok (.iconst 5, 1) := by decide +kernel
theorem dX11_readStep_62 : decode cX11_readStep 62 = .ok (.if_icmp .ne 4, 3) := by decide +kernel
theorem dX11_readStep_65 : decode cX11_readStep 65 = .ok (.return_, 1) := by decide +kernel
theorem dX11_readStep_66 : decode cX11_readStep 66 = .ok (.aload_n 0, 1) := by decide +kernel
theorem dX11_readStep_67 : decode cX11_readStep 67 = .ok (.getfield 26, 3) := by decide +kernel
theorem dX11_readStep_70 : decode cX11_readStep 70 = .ok (.iload_n 1, 1) := by decide +kernel
theorem dX11_readStep_71 : decode cX11_readStep 71 = .ok (.iconst 1, 1) := by decide +kernel
theorem dX11_readStep_72 : decode cX11_readStep 72 = .ok (.iadd, 1) := by decide +kernel
theorem dX11_readStep_73 : decode cX11_readStep 73 = .ok (.aload_n 0, 1) := by decide +kernel
theorem dX11_readStep_74 : decode cX11_readStep 74 = .ok (.invokevirtual 134, 3) := by decide +kernel
theorem dX11_readStep_77 : decode cX11_readStep 77 = .ok (.iastore, 1) := by decide +kernel
theorem dX11_readStep_78 : decode cX11_readStep 78 = .ok (.aload_n 0, 1) := by decide +kernel
theorem dX11_readStep_79 : decode cX11_readStep 79 = .ok (.getfield 105, 3) := by decide +kernel
theorem dX11_readStep_82 : decode cX11_readStep 82 = .ok (.iconst (-1), 1) := by decide +kernel
theorem dX11_readStep_83 : decode cX11_readStep 83 = .ok (.if_icmp .ne 8, 3) := by decide +kernel
theorem dX11_readStep_86 : decode cX11_readStep 86 = .ok (.iload_n 2, 1) := by decide +kernel
theorem dX11_readStep_87 : decode cX11_readStep 87 = .ok (.iconst 2, 1) := by decide +kernel
theorem dX11_readStep_88 : decode cX11_readStep 88 = .ok (.if_icmp .ge 4, 3) := by decide +kernel
theorem dX11_readStep_91 : decode cX11_readStep 91 = .ok (.return_, 1) := by decide +kernel
theorem dX11_readStep_92 : decode cX11_readStep 92 = .ok (.aload_n 0, 1) := by decide +kernel
theorem dX11_readStep_93 : decode cX11_readStep 93 = .ok (.getfield 26, 3) := by decide +kernel
theorem dX11_readStep_96 : decode cX11_readStep 96 = .ok (.iload_n 1, 1) := by decide +kernel
theorem dX11_readStep_97 : decode cX11_readStep 97 = .ok (.iconst 2, 1) := by decide +kernel
theorem dX11_readStep_98 : decode cX11_readStep 98 = .ok (.iadd, 1) := by decide +kernel
theorem dX11_readStep_99 : decode cX11_readStep 99 = .ok (.aload_n 0, 1) := by decide +kernel
theorem dX11_readStep_100 : decode cX11_readStep 100 = .ok (.invokevirtual 134, 3) := by decide +kernel
theorem dX11_readStep_103 : decode cX11_readStep 103 = .ok (.iastore, 1) := by decide +kernel
theorem dX11_readStep_104 : decode cX11_readStep 104 = .ok (.aload_n 0, 1) := by decide +kernel
theorem dX11_readStep_105 : decode cX11_readStep 105 = .ok (.getfield 105, 3) := by decide +kernel
theorem dX11_readStep_108 : decode cX11_readStep 108 = .ok (.iconst (-1), 1) := by decide +kernel
theorem dX11_readStep_109 : decode cX11_readStep 109 = .ok (.if_icmp .ne 9, 3) := by decide +kernel
theorem dX11_readStep_112 : decode cX11_readStep 112 = .ok (.iload_n 2, 1) := by decide +kernel
theorem dX11_readStep_113 : decode cX11_readStep 113 = .ok (.bipush 6, 2) := by decide +kernel
theorem dX11_readStep_115 : decode cX11_readStep 115 = .ok (.if_icmp .eq 4, 3) := by decide +kernel
theorem dX11_readStep_118 : decode cX11_readStep 118 = .ok (.return_, 1) := by decide +kernel
theorem dX11_readStep_119 : decode cX11_readStep 119 = .ok (.ldc 116, 2) := by decide +kernel
theorem dX11_readStep_121 : decode cX11_readStep 121 = .ok (.aload_n 0, 1) := by decide +kernel
theorem dX11_readStep_122 : decode cX11_readStep 122 = .ok (.invokevirtual 118, 3) := by decide +kernel
theorem dX11_readStep_125 : decode cX11_readStep 125 = .ok (.invokestatic 121, 3) := by decide +kernel
theorem dX11_readStep_128 : decode cX11_readStep 128 = .ok (.istore_n 3, 1) := by decide +kernel
theorem dX11_readStep_129 : decode cX11_readStep 129 = .ok (.iload_n 3, 1) := by decide +kernel
theorem dX11_readStep_130 : decode cX11_readStep 130 = .ok (.iconst (-1), 1) := by decide +kernel
theorem dX11_readStep_131 : decode cX11_readStep 131 = .ok (.if_icmp .ne 8, 3) := by decide +kernel
theorem dX11_readStep_134 : decode cX11_readStep 134 = .ok (.aload_n 0, 1) := by decide +kernel
theorem dX11_readStep_135 : decode cX11_readStep 135 = .ok (.invokevirtual 125, 3) := by decide +kernel
theorem dX11_readStep_138 : decode cX11_readStep 138 = .ok (.return_, 1) := by decide +kernel
theorem dX11_readStep_139 : decode cX11_readStep 139 = .ok (.aload_n 0, 1) := by decide +kernel
theorem dX11_readStep_140 : decode cX11_readStep 140 = .ok (.dup, 1) := by decide +kernel
theorem dX11_readStep_141 : decode cX11_readStep 141 = .ok (.getfield 98, 3) := by decide +kernel
theorem dX11_readStep_144 : decode cX11_readStep 144 = .ok (.iconst 1, 1) := by decide +kernel
theorem dX11_readStep_145 : decode cX11_readStep 145 = .ok (.iadd, 1) := by decide +kernel
theorem dX11_readStep_146 : decode cX11_readStep 146 = .ok (.putfield 98, 3) := by decide +kernel
theorem dX11_readStep_149 : decode cX11_readStep 149 = .ok (.aload_n 0, 1) := by decide +kernel
theorem dX11_readStep_150 : decode cX11_readStep 150 = .ok (.getfield 26, 3) := by decide +kernel
theorem dX11_readStep_153 : decode cX11_readStep 153 = .ok (.iload_n 1, 1) := by decide +kernel
theorem dX11_readStep_154 : decode cX11_readStep 154 = .ok (.iconst 3, 1) := by decide +kernel
theorem dX11_readStep_155 : decode cX11_readStep 155 = .ok (.iadd, 1) := by decide +kernel
theorem dX11_readStep_156 : decode cX11_readStep 156 = .ok (.iload_n 3, 1) := by decide +kernel
theorem dX11_readStep_157 : decode cX11_readStep 157 = .ok (.iconst 1, 1) := by decide +kernel
theorem dX11_readStep_158 : decode cX11_readStep 158 = .ok (.isub, 1) := by decide +kernel
theorem dX11_readStep_159 : decode cX11_readStep 159 = .ok (.iastore, 1) := by decide +kernel
theorem dX11_readStep_160 : decode cX11_readStep 160 = .ok (.return_, 1) := by decide +kernel
theorem dX11_readPlan_0 : decode cX11_readPlan 0 = .ok (.iconst 0, 1) := by decide +kernel
theorem dX11_readPlan_1 : decode cX11_readPlan 1 = .ok (.istore_n 1, 1) := by decide +kernel
theorem dX11_readPlan_2 : decode cX11_readPlan 2 = .ok (.iconst 1, 1) := by decide +kernel
theorem dX11_readPlan_3 : decode cX11_readPlan 3 = .ok (.istore_n 2, 1) := by decide +kernel
theorem dX11_readPlan_4 : decode cX11_readPlan 4 = .ok (.iload_n 2, 1) := by decide +kernel
theorem dX11_readPlan_5 : decode cX11_readPlan 5 = .ok (.ifCond .eq 72, 3) := by decide +kernel
theorem dX11_readPlan_8 : decode cX11_readPlan 8 = .ok (.aload_n 0, 1) := by decide +kernel
theorem dX11_readPlan_9 : decode cX11_readPlan 9 = .ok (.iconst 4, 1) := by decide +kernel
theorem dX11_readPlan_10 : decode cX11_readPlan 10 = .ok (.bipush 48, 2) := by decide +kernel
theorem dX11_readPlan_12 : decode cX11_readPlan 12 = .ok (.iload_n 1, 1) := by decide +kernel
theorem dX11_readPlan_13 : decode cX11_readPlan 13 = .ok (.iadd, 1) := by decide +kernel
theorem dX11_readPlan_14 : decode cX11_readPlan 14 = .ok (.imul, 1) := by decide +kernel
theorem dX11_readPlan_15 : decode cX11_readPlan 15 = .ok (.invokevirtual 137, 3) := by decide +kernel
theorem dX11_readPlan_18 : decode cX11_readPlan 18 = .ok (.aload_n 0, 1) := by decide +kernel
theorem dX11_readPlan_19 : decode cX11_readPlan 19 = .ok (.getfield 105, 3) := by decide +kernel
theorem dX11_readPlan_22 : decode cX11_readPlan 22 = .ok (.iconst (-1), 1) := by decide +kernel
theorem dX11_readPlan_23 : decode cX11_readPlan 23 = .ok (.if_icmp .eq 4, 3) := by decide +kernel
theorem dX11_readPlan_26 : decode cX11_readPlan 26 = .ok (.return_, 1) := by decide +kernel
theorem dX11_readPlan_27 : decode cX11_readPlan 27 = .ok (.iinc 1 1, 3) := by decide +kernel
theorem dX11_readPlan_30 : decode cX11_readPlan 30 = .ok (.aload_n 0, 1) := by decide +kernel
theorem dX11_readPlan_31 : decode cX11_readPlan 31 = .ok (.invokevirtual 118, 3) := by decide +kernel
theorem dX11_readPlan_34 : decode cX11_readPlan 34 = .ok (.bipush 59, 2) := by decide +kernel
theorem dX11_readPlan_36 : decode cX11_readPlan 36 = .ok (.if_icmp .ne 7, 3) := by decide +kernel
theorem dX11_readPlan_39 : decode cX11_readPlan 39 = .ok (.iconst 1, 1) := by decide +kernel
theorem dX11_readPlan_40 : decode cX11_readPlan 40 = .ok (.goto 4, 3) := by decide +kernel
theorem dX11_readPlan_43 : decode cX11_readPlan 43 = .ok (.iconst 0, 1) := by decide +kernel
theorem dX11_readPlan_44 : decode cX11_readPlan 44 = .ok (.istore_n 2, 1) := by decide +kernel
theorem dX11_readPlan_45 : decode cX11_readPlan 45 = .ok (.iload_n 2, 1) := by decide +kernel
theorem dX11_readPlan_46 : decode cX11_readPlan 46 = .ok (.ifCond .eq 14, 3) := by decide +kernel
theorem dX11_readPlan_49 : decode cX11_readPlan 49 = .ok (.iload_n 1, 1) := by decide +kernel
theorem dX11_readPlan_50 : decode cX11_readPlan 50 = .ok (.bipush 12, 2) := by decide +kernel
theorem dX11_readPlan_52 : decode cX11_readPlan 52 = .ok (.if_icmp .ne 8, 3) := by decide +kernel
theorem dX11_readPlan_55 : decode cX11_readPlan 55 = .ok (.aload_n 0, 1) := by decide +kernel
theorem dX11_readPlan_56 : decode cX11_readPlan 56 = .ok (.invokevirtual 125, 3) := by decide +kernel
theorem dX11_readPlan_59 : decode cX11_readPlan 59 = .ok (.return_, 1) := by decide +kernel
theorem dX11_readPlan_60 : decode cX11_readPlan 60 = .ok (.iload_n 2, 1) := by decide +kernel
theorem dX11_readPlan_61 : decode cX11_readPlan 61 = .ok (.ifCond .eq (-57), 3) := by decide +kernel
theorem dX11_readPlan_64 : decode cX11_readPlan 64 = .ok (.aload_n 0, 1) := by decide +kernel
theorem dX11_readPlan_65 : decode cX11_readPlan 65 = .ok (.dup, 1) := by decide +kernel
theorem dX11_readPlan_66 : decode cX11_readPlan 66 = .ok (.getfield 98, 3) := by decide +kernel
theorem dX11_readPlan_69 : decode cX11_readPlan 69 = .ok (.iconst 1, 1) := by decide +kernel
theorem dX11_readPlan_70 : decode cX11_readPlan 70 = .ok (.iadd, 1) := by decide +kernel
theorem dX11_readPlan_71 : decode cX11_readPlan 71 = .ok (.putfield 98, 3) := by decide +kernel
theorem dX11_readPlan_74 : decode cX11_readPlan 74 = .ok (.goto (-70), 3) := by decide +kernel
theorem dX11_readPlan_77 : decode cX11_readPlan 77 = .ok (.aload_n 0, 1) := by decide +kernel
theorem dX11_readPlan_78 : decode cX11_readPlan 78 = .ok (.getfield 29, 3) := by decide +kernel
theorem dX11_readPlan_81 : decode cX11_readPlan 81 = .ok (.iconst 4, 1) := by decide +kernel
theorem dX11_readPlan_82 : decode cX11_readPlan 82 = .ok (.iload_n 1, 1) := by decide +kernel
theorem dX11_readPlan_83 : decode cX11_readPlan 83 = .ok (.iastore, 1) := by decide +kernel
theorem dX11_readPlan_84 : decode cX11_readPlan 84 = .ok (.aload_n 0, 1) := by decide +kernel
theorem dX11_readPlan_85 : decode cX11_readPlan 85 = .ok (.invokevirtual 118, 3) := by decide +kernel
theorem dX11_readPlan_88 : decode cX11_readPlan 88 = .ok (.iconst (-1), 1) := by decide +kernel
theorem dX11_readPlan_89 : decode cX11_readPlan 89 = .ok (.if_icmp .eq 7, 3) := by decide +kernel
theorem dX11_readPlan_92 : decode cX11_readPlan 92 = .ok (.aload_n 0, 1) := by decide +kernel
theorem dX11_readPlan_93 : decode cX11_readPlan 93 = .ok (.invokevirtual 125, 3) := by decide +kernel
theorem dX11_readPlan_96 : decode cX11_readPlan 96 = .ok (.return_, 1) := by decide +kernel
theorem dX11_fault_0 : decode cX11_fault 0 = .ok (.aload_n 0, 1) := by decide +kernel
theorem dX11_fault_1 : decode cX11_fault 1 = .ok (.iconst 0, 1) := by decide +kernel
theorem dX11_fault_2 : decode cX11_fault 2 = .ok (.putfield 83, 3) := by decide +kernel
theorem dX11_fault_5 : decode cX11_fault 5 = .ok (.iload_n 1, 1) := by decide +kernel
theorem dX11_fault_6 : decode cX11_fault 6 = .ok (.i2l, 1) := by decide +kernel
theorem dX11_fault_7 : decode cX11_fault 7 = .ok (.lconst 0, 1) := by decide +kernel
theorem dX11_fault_8 : decode cX11_fault 8 = .ok (.lconst 1, 1) := by decide +kernel
theorem dX11_fault_9 : decode cX11_fault 9 = .ok (.invokestatic 140, 3) := by decide +kernel
theorem dX11_fault_12 : decode cX11_fault 12 = .ok (.ifCond .ne 6, 3) := by decide +kernel
theorem dX11_fault_15 : decode cX11_fault 15 = .ok (.bipush (-2), 2) := by decide +kernel
theorem dX11_fault_17 : decode cX11_fault 17 = .ok (.ireturn, 1) := by decide +kernel
theorem dX11_fault_18 : decode cX11_fault 18 = .ok (.aload_n 0, 1) := by decide +kernel
theorem dX11_fault_19 : decode cX11_fault 19 = .ok (.iconst 0, 1) := by decide +kernel
theorem dX11_fault_20 : decode cX11_fault 20 = .ok (.putfield 98, 3) := by decide +kernel
theorem dX11_fault_23 : decode cX11_fault 23 = .ok (.aload_n 0, 1) := by decide +kernel
theorem dX11_fault_24 : decode cX11_fault 24 = .ok (.iconst (-1), 1) := by decide +kernel
theorem dX11_fault_25 : decode cX11_fault 25 = .ok (.putfield 105, 3) := by decide +kernel
theorem dX11_fault_28 : decode cX11_fault 28 = .ok (.iload_n 1, 1) := by decide +kernel
theorem dX11_fault_29 : decode cX11_fault 29 = .ok (.ifCond .ne 10, 3) := by decide +kernel
theorem dX11_fault_32 : decode cX11_fault 32 = .ok (.aload_n 0, 1) := by decide +kernel
theorem dX11_fault_33 : decode cX11_fault 33 = .ok (.invokevirtual 144, 3) := by decide +kernel
theorem dX11_fault_36 : decode cX11_fault 36 = .ok (.goto 7, 3) := by decide +kernel
theorem dX11_fault_39 : decode cX11_fault 39 = .ok (.aload_n 0, 1) := by decide +kernel
theorem dX11_fault_40 : decode cX11_fault 40 = .ok (.invokevirtual 147, 3) := by decide +kernel
theorem dX11_fault_43 : decode cX11_fault 43 = .ok (.aload_n 0, 1) := by decide +kernel
theorem dX11_fault_44 : decode cX11_fault 44 = .ok (.getfield 105, 3) := by decide +kernel
theorem dX11_fault_47 : decode cX11_fault 47 = .ok (.ireturn, 1) := by decide +kernel
theorem dX11_text_0 : decode cX11_text 0 = .ok (.iload_n 1, 1) := by decide +kernel
theorem dX11_text_1 : decode cX11_text 1 = .ok (.i2l, 1) := by decide +kernel
theorem dX11_text_2 : decode cX11_text 2 = .ok (.lconst 0, 1) := by decide +kernel
theorem dX11_text_3 : decode cX11_text 3 = .ok (.lconst 1, 1) := by decide +kernel
theorem dX11_text_4 : decode cX11_text 4 = .ok (.invokestatic 140, 3) := by decide +kernel
theorem dX11_text_7 : decode cX11_text 7 = .ok (.ifCond .eq 25, 3) := by decide +kernel
theorem dX11_text_10 : decode cX11_text 10 = .ok (.iload_n 1, 1) := by decide +kernel
theorem dX11_text_11 : decode cX11_text 11 = .ok (.iconst 1, 1) := by decide +kernel
theorem dX11_text_12 : decode cX11_text 12 = .ok (.if_icmp .ne 11, 3) := by decide +kernel
theorem dX11_text_15 : decode cX11_text 15 = .ok (.aload_n 0, 1) := by decide +kernel
theorem dX11_text_16 : decode cX11_text 16 = .ok (.getfield 150, 3) := by decide +kernel
theorem dX11_text_19 : decode cX11_text 19 = .ok (.iconst 4, 1) := by decide +kernel
theorem dX11_text_20 : decode cX11_text 20 = .ok (.if_icmp .eq 12, 3) := by decide +kernel
theorem dX11_text_23 : decode cX11_text 23 = .ok (.aload_n 0, 1) := by decide +kernel
theorem dX11_text_24 : decode cX11_text 24 = .ok (.iload_n 1, 1) := by decide +kernel
theorem dX11_text_25 : decode cX11_text 25 = .ok (.invokevirtual 153, 3) := by decide +kernel
theorem dX11_text_28 : decode cX11_text 28 = .ok (.iconst (-1), 1) := by decide +kernel
theorem dX11_text_29 : decode cX11_text 29 = .ok (.if_icmp .eq 10, 3) := by decide +kernel
theorem dX11_text_32 : decode cX11_text 32 = .ok (.aload_n 0, 1) := by decide +kernel
theorem dX11_text_33 : decode cX11_text 33 = .ok (.iconst 0, 1) := by decide +kernel
theorem dX11_text_34 : decode cX11_text 34 = .ok (.putfield 83, 3) := by decide +kernel
theorem dX11_text_37 : decode cX11_text 37 = .ok (.iconst (-1), 1) := by decide +kernel
theorem dX11_text_38 : decode cX11_text 38 = .ok (.ireturn, 1) := by decide +kernel
theorem dX11_text_39 : decode cX11_text 39 = .ok (.aload_n 0, 1) := by decide +kernel
theorem dX11_text_40 : decode cX11_text 40 = .ok (.iconst 0, 1) := by decide +kernel
theorem dX11_text_41 : decode cX11_text 41 = .ok (.putfield 87, 3) := by decide +kernel
theorem dX11_text_44 : decode cX11_text 44 = .ok (.iload_n 1, 1) := by decide +kernel
theorem dX11_text_45 : decode cX11_text 45 = .ok (.iconst 1, 1) := by decide +kernel
theorem dX11_text_46 : decode cX11_text 46 = .ok (.if_icmp .ne 73, 3) := by decide +kernel
theorem dX11_text_49 : decode cX11_text 49 = .ok (.iconst 0, 1) := by decide +kernel
theorem dX11_text_50 : decode cX11_text 50 = .ok (.istore_n 2, 1) := by decide +kernel
theorem dX11_text_51 : decode cX11_text 51 = .ok (.iload_n 2, 1) := by decide +kernel
theorem dX11_text_52 : decode cX11_text 52 = .ok (.bipush 48, 2) := by decide +kernel
theorem dX11_text_54 : decode cX11_text 54 = .ok (.if_icmp .ge 33, 3) := by decide +kernel
theorem dX11_text_57 : decode cX11_text 57 = .ok (.aload_n 0, 1) := by decide +kernel
theorem dX11_text_58 : decode cX11_text 58 = .ok (.getfield 26, 3) := by decide +kernel
theorem dX11_text_61 : decode cX11_text 61 = .ok (.bipush 48, 2) := by decide +kernel
theorem dX11_text_63 : decode cX11_text 63 = .ok (.aload_n 0, 1) := by decide +kernel
theorem dX11_text_64 : decode cX11_text 64 = .ok (.getfield 150, 3) := by decide +kernel
theorem dX11_text_67 : decode cX11_text 67 = .ok (.imul, 1) := by decide +kernel
theorem dX11_text_68 : decode cX11_text 68 = .ok (.iload_n 2, 1) := by decide +kernel
theorem dX11_text_69 : decode cX11_text 69 = .ok (.iadd, 1) := by decide +kernel
theorem dX11_text_70 : decode cX11_text 70 = .ok (.aload_n 0, 1) := by decide +kernel
theorem dX11_text_71 : decode cX11_text 71 = .ok (.getfield 26, 3) := by decide +kernel
theorem dX11_text_74 : decode cX11_text 74 = .ok (.sipush 192, 3) := by decide +kernel
theorem dX11_text_77 : decode cX11_text 77 = .ok (.iload_n 2, 1) := by decide +kernel
theorem dX11_text_78 : decode cX11_text 78 = .ok (.iadd, 1) := by decide +kernel
theorem dX11_text_79 : decode cX11_text 79 = .ok (.iaload, 1) := by decide +kernel
theorem dX11_text_80 : decode cX11_text 80 = .ok (.iastore, 1) := by decide +kernel
theorem dX11_text_81 : decode cX11_text 81 = .ok (.iinc 2 1, 3) := by decide +kernel
theorem dX11_text_84 : decode cX11_text 84 = .ok (.goto (-33), 3) := by decide +kernel
theorem dX11_text_87 : decode cX11_text 87 = .ok (.aload_n 0, 1) := by decide +kernel
theorem dX11_text_88 : decode cX11_text 88 = .ok (.getfield 29, 3) := by decide +kernel
theorem dX11_text_91 : decode cX11_text 91 = .ok (.aload_n 0, 1) := by decide +kernel
theorem dX11_text_92 : decode cX11_text 92 = .ok (.getfield 150, 3) := by decide +kernel
theorem dX11_text_95 : decode cX11_text 95 = .ok (.aload_n 0, 1) := by decide +kernel
theorem dX11_text_96 : decode cX11_text 96 = .ok (.getfield 29, 3) := by decide +kernel
theorem dX11_text_99 : decode cX11_text 99 = .ok (.iconst 4, 1) := by decide +kernel
theorem dX11_text_100 : decode cX11_text 100 = .ok (.iaload, 1) := by decide +kernel
theorem dX11_text_101 : decode cX11_text 101 = .ok (.iastore, 1) := by decide +kernel
theorem dX11_text_102 : decode cX11_text 102 = .ok (.aload_n 0, 1) := by decide +kernel
theorem dX11_text_103 : decode cX11_text 103 = .ok (.dup, 1) := by decide +kernel
theorem dX11_text_104 : decode cX11_text 104 = .ok (.getfield 150, 3) := by decide +kernel
theorem dX11_text_107 : decode cX11_text 107 = .ok (.iconst 1, 1) := by decide +kernel
theorem dX11_text_108 : decode cX11_text 108 = .ok (.iadd, 1) := by decide +kernel
theorem dX11_text_109 : decode cX11_text 109 = .ok (.putfield 150, 3) := by decide +kernel
theorem dX11_text_112 : decode cX11_text 112 = .ok (.aload_n 0, 1) := by decide +kernel
theorem dX11_text_113 : decode cX11_text 113 = .ok (.getfield 150, 3) := by decide +kernel
theorem dX11_text_116 : decode cX11_text 116 = .ok (.iconst 1, 1) := by decide +kernel
theorem dX11_text_117 : decode cX11_text 117 = .ok (.isub, 1) := by decide +kernel
theorem dX11_text_118 : decode cX11_text 118 = .ok (.ireturn, 1) := by decide +kernel
theorem dX11_text_119 : decode cX11_text 119 = .ok (.iconst 0, 1) := by decide +kernel
theorem dX11_text_120 : decode cX11_text 120 = .ok (.istore_n 2, 1) := by decide +kernel
theorem dX11_text_121 : decode cX11_text 121 = .ok (.iload_n 2, 1) := by decide +kernel
theorem dX11_text_122 : decode cX11_text 122 = .ok (.bipush 38, 2) := by decide +kernel
theorem dX11_text_124 : decode cX11_text 124 = .ok (.if_icmp .ge 21, 3) := by decide +kernel
theorem dX11_text_127 : decode cX11_text 127 = .ok (.aload_n 0, 1) := by decide +kernel
theorem dX11_text_128 : decode cX11_text 128 = .ok (.getfield 13, 3) := by decide +kernel
theorem dX11_text_131 : decode cX11_text 131 = .ok (.iload_n 2, 1) := by decide +kernel
theorem dX11_text_132 : decode cX11_text 132 = .ok (.aload_n 0, 1) := by decide +kernel
theorem dX11_text_133 : decode cX11_text 133 = .ok (.getfield 17, 3) := by decide +kernel
theorem dX11_text_136 : decode cX11_text 136 = .ok (.iload_n 2, 1) := by decide +kernel
theorem dX11_text_137 : decode cX11_text 137 = .ok (.iaload, 1) := by decide +kernel
theorem dX11_text_138 : decode cX11_text 138 = .ok (.iastore, 1) := by decide +kernel
theorem dX11_text_139 : decode cX11_text 139 = .ok (.iinc 2 1, 3) := by decide +kernel
theorem dX11_text_142 : decode cX11_text 142 = .ok (.goto (-21), 3) := by decide +kernel
theorem dX11_text_145 : decode cX11_text 145 = .ok (.aload_n 0, 1) := by decide +kernel
theorem dX11_text_146 : decode cX11_text 146 = .ok (.iconst 0, 1) := by decide +kernel
theorem dX11_text_147 : decode cX11_text 147 = .ok (.putfield 155, 3) := by decide +kernel
theorem dX11_text_150 : decode cX11_text 150 = .ok (.aload_n 0, 1) := by decide +kernel
theorem dX11_text_151 : decode cX11_text 151 = .ok (.getfield 13, 3) := by decide +kernel
theorem dX11_text_154 : decode cX11_text 154 = .ok (.bipush 36, 2) := by decide +kernel
theorem dX11_text_156 : decode cX11_text 156 = .ok (.iaload, 1) := by decide +kernel
theorem dX11_text_157 : decode cX11_text 157 = .ok (.ireturn, 1) := by decide +kernel
theorem s_here {τ : sg} {x : aW} {t : tap} {i : Nat} (ht : HT τ t) (ok : tpOK t) (hi : i ≤ t.1) (h3 : τ.1 i_M 3 = nI i) : Mt mX11_here 0 0 0 [.ref i_M] (wd τ x) (QI (chA t i) (wd τ x)) := by
  refine Mt.of MI_X11_here (Nat.le_of_ble_eq_true rfl) (fun X hC hR hT => ?_)
  have o1 := ok.1
  rcases (by omega : i < t.1 ∨ i = t.1) with z | rfl
  · refine R_aload_n (i := 0) hC dX11_here_0 rfl rfl (R_gI hC dX11_here_1 fl_X11_98 L_M rfl ?_)
    refine R_top (y := nI i) (h3) ?_
    refine R_aload_n (i := 0) hC dX11_here_4 rfl rfl (R_gI hC dX11_here_5 fl_X11_87 L_M rfl ?_)
    refine R_top (y := nI t.1) (ht.1) ?_
    refine R_icmp_ge hC 27 dX11_here_8 (by decide) (fun h => absurd h (nI_ge z (by omega))) (fun _ => ?_)
    refine R_aload_n (i := 0) hC dX11_here_11 rfl rfl (R_gR hC dX11_here_12 fl_X11_9 L_M rfl (R_aload_n (i := 0) hC dX11_here_15 rfl rfl (R_gI hC dX11_here_16 fl_X11_98 L_M rfl (R_aB hC dX11_here_19 L_m_tape i h3 (by omega) (by decide) (R_sipush (v := 255) hC dX11_here_20 (by decide) (R_iand hC dX11_here_23 ?_))))))
    refine R_top (y := nI (t.2 i)) (ht.2 i z) ?_
    refine R_goto hC 28 dX11_here_24 (by decide) ?_
    exact R_iret hC hT dX11_here_28 rfl ⟨by rw [chA_y z], rfl⟩
  · refine R_aload_n (i := 0) hC dX11_here_0 rfl rfl (R_gI hC dX11_here_1 fl_X11_98 L_M rfl ?_)
    refine R_top (y := nI t.1) (h3) ?_
    refine R_aload_n (i := 0) hC dX11_here_4 rfl rfl (R_gI hC dX11_here_5 fl_X11_87 L_M rfl ?_)
    refine R_top (y := nI t.1) (ht.1) ?_
    refine R_icmp_ge hC 27 dX11_here_8 (by decide) (fun _ => ?_) (fun h => absurd (Int32.le_refl _) h)
    refine R_iconst (v := (-1)) hC dX11_here_27 (by decide) ?_
    exact R_iret hC hT dX11_here_28 rfl ⟨by rw [chA_n (Nat.lt_irrefl _)], rfl⟩
theorem s_look {σ τ : sg} {x : aW} {t : tap} {i : Nat} {F : Int32} (h : RDS σ τ i F) (ht : HT σ t) (ok : tpOK t) (hi : i ≤ t.1) : Mt mX11_look 1 0 0 [.ref i_M] (wd τ x) (fun r w => ∃ υ, w = wd υ x ∧ RDS σ υ (SK t i) F ∧ υ.2.2 = τ.2.2 ∧ r = some (.int (chA t (SK t i)))) := by
  refine Mt.of MI_X11_look (Nat.le_of_ble_eq_true rfl) (fun X hC hR hT => ?_)
  have o1 := ok.1
  have lp : ∀ j, j ≤ t.1 → SK t i = SK t j → ∀ υ, RDS σ υ j F → υ.2.2 = τ.2.2 → Rw mX11_look X 0 [some (.ref i_M)] [] (wd υ x) 0 0 := by
    refine up_loop t.1 ?_ ?_
    · intro e υ hυ hr
      rw [SK_e] at e
      refine R_aload_n (i := 0) hC dX11_look_0 rfl rfl ?_
      refine R_V0i hC hR dX11_look_1 MV_X11_here ml_X11_101 L_M rfl (s_here (hυ.ht ht) ok (Nat.le_refl _) hυ.2.2.2.1) (by first | decide | omega) ⟨by decide, by decide⟩ (Nat.le_of_ble_eq_true rfl) ?_
      refine R_bipush (v := 32) hC dX11_look_4 (by decide) ?_
      refine R_icmp_ne hC 22 dX11_look_6 (by decide) (fun _ => ?_) (fun h => absurd h (by rw [chA_n (Nat.lt_irrefl _)]; decide))
      refine R_aload_n (i := 0) hC dX11_look_22 rfl rfl ?_
      refine R_V0i hC hR dX11_look_23 MV_X11_here ml_X11_101 L_M rfl (s_here (hυ.ht ht) ok (Nat.le_refl _) hυ.2.2.2.1) (by first | decide | omega) ⟨by decide, by decide⟩ (Nat.le_of_ble_eq_true rfl) ?_
      exact R_iret hC hT dX11_look_26 rfl ⟨υ, rfl, by rw [e]; exact hυ, hr, by rw [e]⟩
    · intro j hj ih e υ hυ hr
      have c1 := ok.2 j hj
      have e32 := nI_eq (a := t.2 j) (b := 32) (by omega) (by decide)
      refine R_aload_n (i := 0) hC dX11_look_0 rfl rfl ?_
      refine R_V0i hC hR dX11_look_1 MV_X11_here ml_X11_101 L_M rfl (s_here (hυ.ht ht) ok (by omega) hυ.2.2.2.1) (by first | decide | omega) ⟨by decide, by decide⟩ (Nat.le_of_ble_eq_true rfl) ?_
      rw [chA_y hj]
      refine R_bipush (v := 32) hC dX11_look_4 (by decide) ?_
      refine R_icmp_ne hC 22 dX11_look_6 (by decide) (fun h6 => ?_) (fun h6 => ?_)
      · refine R_aload_n (i := 0) hC dX11_look_22 rfl rfl ?_
        refine R_V0i hC hR dX11_look_23 MV_X11_here ml_X11_101 L_M rfl (s_here (hυ.ht ht) ok (by omega) hυ.2.2.2.1) (by first | decide | omega) ⟨by decide, by decide⟩ (Nat.le_of_ble_eq_true rfl) ?_
        have en : SK t i = j := by rw [e, SK_n hj (fun y => h6 (e32.mpr y))]
        exact R_iret hC hT dX11_look_26 rfl ⟨υ, rfl, by rw [en]; exact hυ, hr, by rw [en]⟩
      · refine R_aload_n (i := 0) hC dX11_look_9 rfl rfl (R_dup hC dX11_look_10 rfl (R_gI hC dX11_look_11 fl_X11_98 L_M rfl ?_))
        rw [hυ.2.2.2.1]
        refine R_iconst (v := 1) hC dX11_look_14 (by decide) (R_iadd hC dX11_look_15 ?_)
        refine R_top (y := nI (j + 1)) (inc1 _) ?_
        refine R_pI hC dX11_look_16 fl_X11_98 L_M rfl (R_goto hC 0 dX11_look_19 (by decide) ?_)
        exact ih (by rw [e, SK_b hj (e32.mp h6)]) _ hυ.at hr
  exact lp i hi rfl τ h rfl
theorem s_fails {σ τ : sg} {x : aW} {i : Nat} (h : RDS σ τ i (-1)) : Mt mX11_fails 0 0 0 [.ref i_M] (wd τ x) (fun r w => r = none ∧ w = wd (sG τ i_M 4 (nI i)) x ∧ RDS σ (sG τ i_M 4 (nI i)) i (nI i)) := by
  refine Mt.of MI_X11_fails (Nat.le_of_ble_eq_true rfl) (fun X hC hR hT => ?_)
  refine R_aload_n (i := 0) hC dX11_fails_0 rfl rfl (R_gI hC dX11_fails_1 fl_X11_105 L_M rfl ?_)
  refine R_top (y := -1) (h.2.2.2.2) ?_
  refine R_iconst (v := (-1)) hC dX11_fails_4 (by decide) ?_
  refine R_icmp_ne hC 16 dX11_fails_5 (by decide) (fun h => absurd rfl h) (fun _ => ?_)
  refine R_aload_n (i := 0) hC dX11_fails_8 rfl rfl (R_aload_n (i := 0) hC dX11_fails_9 rfl rfl (R_gI hC dX11_fails_10 fl_X11_98 L_M rfl ?_))
  refine R_top (y := nI i) (h.2.2.2.1) ?_
  refine R_pI hC dX11_fails_13 fl_X11_105 L_M rfl ?_
  exact R_vret hC hT dX11_fails_16 rfl ⟨rfl, rfl, h.fl⟩
