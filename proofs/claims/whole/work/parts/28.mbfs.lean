theorem dX11_isTold_0 : decode cX11_isTold 0 = .ok (.aload_n 0, 1) := by decide +kernel
theorem dX11_isTold_1 : decode cX11_isTold 1 = .ok (.aload_n 0, 1) := by decide +kernel
theorem dX11_isTold_2 : decode cX11_isTold 2 = .ok (.getfield 59, 3) := by decide +kernel
theorem dX11_isTold_5 : decode cX11_isTold 5 = .ok (.iload_n 1, 1) := by decide +kernel
theorem dX11_isTold_6 : decode cX11_isTold 6 = .ok (.iload_n 2, 1) := by decide +kernel
theorem dX11_isTold_7 : decode cX11_isTold 7 = .ok (.invokevirtual 158, 3) := by decide +kernel
theorem dX11_isTold_10 : decode cX11_isTold 10 = .ok (.ifCond .eq 37, 3) := by decide +kernel
theorem dX11_isTold_13 : decode cX11_isTold 13 = .ok (.aload_n 0, 1) := by decide +kernel
theorem dX11_isTold_14 : decode cX11_isTold 14 = .ok (.getfield 59, 3) := by decide +kernel
theorem dX11_isTold_17 : decode cX11_isTold 17 = .ok (.bipush 6, 2) := by decide +kernel
theorem dX11_isTold_19 : decode cX11_isTold 19 = .ok (.iload_n 1, 1) := by decide +kernel
theorem dX11_isTold_20 : decode cX11_isTold 20 = .ok (.imul, 1) := by decide +kernel
theorem dX11_isTold_21 : decode cX11_isTold 21 = .ok (.iload_n 2, 1) := by decide +kernel
theorem dX11_isTold_22 : decode cX11_isTold 22 = .ok (.iadd, 1) := by decide +kernel
theorem dX11_isTold_23 : decode cX11_isTold 23 = .ok (.iaload, 1) := by decide +kernel
theorem dX11_isTold_24 : decode cX11_isTold 24 = .ok (.ifCond .eq 23, 3) := by decide +kernel
theorem dX11_isTold_27 : decode cX11_isTold 27 = .ok (.aload_n 0, 1) := by decide +kernel
theorem dX11_isTold_28 : decode cX11_isTold 28 = .ok (.getfield 59, 3) := by decide +kernel
theorem dX11_isTold_31 : decode cX11_isTold 31 = .ok (.bipush 6, 2) := by decide +kernel
theorem dX11_isTold_33 : decode cX11_isTold 33 = .ok (.iload_n 1, 1) := by decide +kernel
theorem dX11_isTold_34 : decode cX11_isTold 34 = .ok (.imul, 1) := by decide +kernel
theorem dX11_isTold_35 : decode cX11_isTold 35 = .ok (.iload_n 2, 1) := by decide +kernel
theorem dX11_isTold_36 : decode cX11_isTold 36 = .ok (.iadd, 1) := by decide +kernel
theorem dX11_isTold_37 : decode cX11_isTold 37 = .ok (.iaload, 1) := by decide +kernel
theorem dX11_isTold_38 : decode cX11_isTold 38 = .ok (.bipush 9, 2) := by decide +kernel
theorem dX11_isTold_40 : decode cX11_isTold 40 = .ok (.if_icmp .eq 7, 3) := by decide +kernel
theorem dX11_isTold_43 : decode cX11_isTold 43 = .ok (.iconst 1, 1) := by decide +kernel
theorem dX11_isTold_44 : decode cX11_isTold 44 = .ok (.goto 4, 3) := by decide +kernel
theorem dX11_isTold_47 : decode cX11_isTold 47 = .ok (.iconst 0, 1) := by decide +kernel
theorem dX11_isTold_48 : decode cX11_isTold 48 = .ok (.ireturn, 1) := by decide +kernel
theorem dX11_areTold_0 : decode cX11_areTold 0 = .ok (.iload_n 1, 1) := by decide +kernel
theorem dX11_areTold_1 : decode cX11_areTold 1 = .ok (.bipush 6, 2) := by decide +kernel
theorem dX11_areTold_3 : decode cX11_areTold 3 = .ok (.if_icmp .ge 21, 3) := by decide +kernel
theorem dX11_areTold_6 : decode cX11_areTold 6 = .ok (.iload_n 2, 1) := by decide +kernel
theorem dX11_areTold_7 : decode cX11_areTold 7 = .ok (.bipush 6, 2) := by decide +kernel
theorem dX11_areTold_9 : decode cX11_areTold 9 = .ok (.if_icmp .lt 15, 3) := by decide +kernel
theorem dX11_areTold_12 : decode cX11_areTold 12 = .ok (.aload_n 0, 1) := by decide +kernel
theorem dX11_areTold_13 : decode cX11_areTold 13 = .ok (.iload_n 1, 1) := by decide +kernel
theorem dX11_areTold_14 : decode cX11_areTold 14 = .ok (.iload_n 2, 1) := by decide +kernel
theorem dX11_areTold_15 : decode cX11_areTold 15 = .ok (.bipush 6, 2) := by decide +kernel
theorem dX11_areTold_17 : decode cX11_areTold 17 = .ok (.isub, 1) := by decide +kernel
theorem dX11_areTold_18 : decode cX11_areTold 18 = .ok (.invokevirtual 271, 3) := by decide +kernel
theorem dX11_areTold_21 : decode cX11_areTold 21 = .ok (.goto 32, 3) := by decide +kernel
theorem dX11_areTold_24 : decode cX11_areTold 24 = .ok (.iload_n 1, 1) := by decide +kernel
theorem dX11_areTold_25 : decode cX11_areTold 25 = .ok (.bipush 6, 2) := by decide +kernel
theorem dX11_areTold_27 : decode cX11_areTold 27 = .ok (.if_icmp .lt 25, 3) := by decide +kernel
theorem dX11_areTold_30 : decode cX11_areTold 30 = .ok (.iload_n 2, 1) := by decide +kernel
theorem dX11_areTold_31 : decode cX11_areTold 31 = .ok (.bipush 6, 2) := by decide +kernel
theorem dX11_areTold_33 : decode cX11_areTold 33 = .ok (.if_icmp .ge 19, 3) := by decide +kernel
theorem dX11_areTold_36 : decode cX11_areTold 36 = .ok (.aload_n 0, 1) := by decide +kernel
theorem dX11_areTold_37 : decode cX11_areTold 37 = .ok (.iload_n 2, 1) := by decide +kernel
theorem dX11_areTold_38 : decode cX11_areTold 38 = .ok (.iload_n 1, 1) := by decide +kernel
theorem dX11_areTold_39 : decode cX11_areTold 39 = .ok (.bipush 6, 2) := by decide +kernel
theorem dX11_areTold_41 : decode cX11_areTold 41 = .ok (.isub, 1) := by decide +kernel
theorem dX11_areTold_42 : decode cX11_areTold 42 = .ok (.invokevirtual 271, 3) := by decide +kernel
theorem dX11_areTold_45 : decode cX11_areTold 45 = .ok (.ifCond .eq 7, 3) := by decide +kernel
theorem dX11_areTold_48 : decode cX11_areTold 48 = .ok (.iconst 1, 1) := by decide +kernel
theorem dX11_areTold_49 : decode cX11_areTold 49 = .ok (.goto 4, 3) := by decide +kernel
theorem dX11_areTold_52 : decode cX11_areTold 52 = .ok (.iconst 0, 1) := by decide +kernel
theorem dX11_areTold_53 : decode cX11_areTold 53 = .ok (.ireturn, 1) := by decide +kernel
theorem dX11_signBetween_0 : decode cX11_signBetween 0 = .ok (.iload_n 1, 1) := by decide +kernel
theorem dX11_signBetween_1 : decode cX11_signBetween 1 = .ok (.bipush 6, 2) := by decide +kernel
theorem dX11_signBetween_3 : decode cX11_signBetween 3 = .ok (.if_icmp .ge 20, 3) := by decide +kernel
theorem dX11_signBetween_6 : decode cX11_signBetween 6 = .ok (.aload_n 0, 1) := by decide +kernel
theorem dX11_signBetween_7 : decode cX11_signBetween 7 = .ok (.getfield 59, 3) := by decide +kernel
theorem dX11_signBetween_10 : decode cX11_signBetween 10 = .ok (.bipush 6, 2) := by decide +kernel
theorem dX11_signBetween_12 : decode cX11_signBetween 12 = .ok (.iload_n 1, 1) := by decide +kernel
theorem dX11_signBetween_13 : decode cX11_signBetween 13 = .ok (.imul, 1) := by decide +kernel
theorem dX11_signBetween_14 : decode cX11_signBetween 14 = .ok (.iload_n 2, 1) := by decide +kernel
theorem dX11_signBetween_15 : decode cX11_signBetween 15 = .ok (.iadd, 1) := by decide +kernel
theorem dX11_signBetween_16 : decode cX11_signBetween 16 = .ok (.bipush 6, 2) := by decide +kernel
theorem dX11_signBetween_18 : decode cX11_signBetween 18 = .ok (.isub, 1) := by decide +kernel
theorem dX11_signBetween_19 : decode cX11_signBetween 19 = .ok (.iaload, 1) := by decide +kernel
theorem dX11_signBetween_20 : decode cX11_signBetween 20 = .ok (.goto 17, 3) := by decide +kernel
theorem dX11_signBetween_23 : decode cX11_signBetween 23 = .ok (.aload_n 0, 1) := by decide +kernel
theorem dX11_signBetween_24 : decode cX11_signBetween 24 = .ok (.getfield 59, 3) := by decide +kernel
theorem dX11_signBetween_27 : decode cX11_signBetween 27 = .ok (.bipush 6, 2) := by decide +kernel
theorem dX11_signBetween_29 : decode cX11_signBetween 29 = .ok (.iload_n 2, 1) := by decide +kernel
theorem dX11_signBetween_30 : decode cX11_signBetween 30 = .ok (.imul, 1) := by decide +kernel
theorem dX11_signBetween_31 : decode cX11_signBetween 31 = .ok (.iload_n 1, 1) := by decide +kernel
theorem dX11_signBetween_32 : decode cX11_signBetween 32 = .ok (.iadd, 1) := by decide +kernel
theorem dX11_signBetween_33 : decode cX11_signBetween 33 = .ok (.bipush 6, 2) := by decide +kernel
theorem dX11_signBetween_35 : decode cX11_signBetween 35 = .ok (.isub, 1) := by decide +kernel
theorem dX11_signBetween_36 : decode cX11_signBetween 36 = .ok (.iaload, 1) := by decide +kernel
theorem dX11_signBetween_37 : decode cX11_signBetween 37 = .ok (.ireturn, 1) := by decide +kernel
theorem dX11_laysSteps_0 : decode cX11_laysSteps 0 = .ok (.iconst 0, 1) := by decide +kernel
theorem dX11_laysSteps_1 : decode cX11_laysSteps 1 = .ok (.istore_n 2, 1) := by decide +kernel
theorem dX11_laysSteps_2 : decode cX11_laysSteps 2 = .ok (.iload_n 2, 1) := by decide +kernel
theorem dX11_laysSteps_3 : decode cX11_laysSteps 3 = .ok (.bipush 12, 2) := by decide +kernel
theorem dX11_laysSteps_5 : decode cX11_laysSteps 5 = .ok (.if_icmp .ge 25, 3) := by decide +kernel
theorem dX11_laysSteps_8 : decode cX11_laysSteps 8 = .ok (.aload_n 0, 1) := by decide +kernel
theorem dX11_laysSteps_9 : decode cX11_laysSteps 9 = .ok (.getfield 56, 3) := by decide +kernel
theorem dX11_laysSteps_12 : decode cX11_laysSteps 12 = .ok (.iload_n 2, 1) := by decide +kernel
theorem dX11_laysSteps_13 : decode cX11_laysSteps 13 = .ok (.iload_n 2, 1) := by decide +kernel
theorem dX11_laysSteps_14 : decode cX11_laysSteps 14 = .ok (.iload_n 1, 1) := by decide +kernel
theorem dX11_laysSteps_15 : decode cX11_laysSteps 15 = .ok (.if_icmp .ne 7, 3) := by decide +kernel
theorem dX11_laysSteps_18 : decode cX11_laysSteps 18 = .ok (.iconst 0, 1) := by decide +kernel
theorem dX11_laysSteps_19 : decode cX11_laysSteps 19 = .ok (.goto 4, 3) := by decide +kernel
theorem dX11_laysSteps_22 : decode cX11_laysSteps 22 = .ok (.iconst (-1), 1) := by decide +kernel
theorem dX11_laysSteps_23 : decode cX11_laysSteps 23 = .ok (.iastore, 1) := by decide +kernel
theorem dX11_laysSteps_24 : decode cX11_laysSteps 24 = .ok (.iinc 2 1, 3) := by decide +kernel
theorem dX11_laysSteps_27 : decode cX11_laysSteps 27 = .ok (.goto (-25), 3) := by decide +kernel
theorem dX11_laysSteps_30 : decode cX11_laysSteps 30 = .ok (.iconst 0, 1) := by decide +kernel
theorem dX11_laysSteps_31 : decode cX11_laysSteps 31 = .ok (.istore_n 2, 1) := by decide +kernel
theorem dX11_laysSteps_32 : decode cX11_laysSteps 32 = .ok (.iload_n 2, 1) := by decide +kernel
theorem dX11_laysSteps_33 : decode cX11_laysSteps 33 = .ok (.bipush 12, 2) := by decide +kernel
theorem dX11_laysSteps_35 : decode cX11_laysSteps 35 = .ok (.if_icmp .ge 83, 3) := by decide +kernel
theorem dX11_laysSteps_38 : decode cX11_laysSteps 38 = .ok (.iconst 0, 1) := by decide +kernel
theorem dX11_laysSteps_39 : decode cX11_laysSteps 39 = .ok (.istore_n 3, 1) := by decide +kernel
theorem dX11_laysSteps_40 : decode cX11_laysSteps 40 = .ok (.iload_n 3, 1) := by decide +kernel
theorem dX11_laysSteps_41 : decode cX11_laysSteps 41 = .ok (.bipush 12, 2) := by decide +kernel
theorem dX11_laysSteps_43 : decode cX11_laysSteps 43 = .ok (.if_icmp .ge 69, 3) := by decide +kernel
theorem dX11_laysSteps_46 : decode cX11_laysSteps 46 = .ok (.aload_n 0, 1) := by decide +kernel
theorem dX11_laysSteps_47 : decode cX11_laysSteps 47 = .ok (.getfield 56, 3) := by decide +kernel
theorem dX11_laysSteps_50 : decode cX11_laysSteps 50 = .ok (.iload_n 3, 1) := by decide +kernel
theorem dX11_laysSteps_51 : decode cX11_laysSteps 51 = .ok (.iaload, 1) := by decide +kernel
theorem dX11_laysSteps_52 : decode cX11_laysSteps 52 = .ok (.iload_n 2, 1) := by decide +kernel
theorem dX11_laysSteps_53 : decode cX11_laysSteps 53 = .ok (.if_icmp .eq 6, 3) := by decide +kernel
theorem dX11_laysSteps_56 : decode cX11_laysSteps 56 = .ok (.goto 50, 3) := by decide +kernel
theorem dX11_laysSteps_59 : decode cX11_laysSteps 59 = .ok (.iconst 0, 1) := by decide +kernel
theorem dX11_laysSteps_60 : decode cX11_laysSteps 60 = .ok (.istore 4, 2) := by decide +kernel
theorem dX11_laysSteps_62 : decode cX11_laysSteps 62 = .ok (.iload 4, 2) := by decide +kernel
theorem dX11_laysSteps_64 : decode cX11_laysSteps 64 = .ok (.bipush 12, 2) := by decide +kernel
theorem dX11_laysSteps_66 : decode cX11_laysSteps 66 = .ok (.if_icmp .ge 40, 3) := by decide +kernel
theorem dX11_laysSteps_69 : decode cX11_laysSteps 69 = .ok (.aload_n 0, 1) := by decide +kernel
theorem dX11_laysSteps_70 : decode cX11_laysSteps 70 = .ok (.getfield 56, 3) := by decide +kernel
theorem dX11_laysSteps_73 : decode cX11_laysSteps 73 = .ok (.iload 4, 2) := by decide +kernel
theorem dX11_laysSteps_75 : decode cX11_laysSteps 75 = .ok (.iaload, 1) := by decide +kernel
theorem dX11_laysSteps_76 : decode cX11_laysSteps 76 = .ok (.iconst (-1), 1) := by decide +kernel
theorem dX11_laysSteps_77 : decode cX11_laysSteps 77 = .ok (.if_icmp .ne 23, 3) := by decide +kernel
theorem dX11_laysSteps_80 : decode cX11_laysSteps 80 = .ok (.aload_n 0, 1) := by decide +kernel
theorem dX11_laysSteps_81 : decode cX11_laysSteps 81 = .ok (.iload_n 3, 1) := by decide +kernel
theorem dX11_laysSteps_82 : decode cX11_laysSteps 82 = .ok (.iload 4, 2) := by decide +kernel
theorem dX11_laysSteps_84 : decode cX11_laysSteps 84 = .ok (.invokevirtual 274, 3) := by decide +kernel
theorem dX11_laysSteps_87 : decode cX11_laysSteps 87 = .ok (.ifCond .eq 13, 3) := by decide +kernel
theorem dX11_laysSteps_90 : decode cX11_laysSteps 90 = .ok (.aload_n 0, 1) := by decide +kernel
theorem dX11_laysSteps_91 : decode cX11_laysSteps 91 = .ok (.getfield 56, 3) := by decide +kernel
theorem dX11_laysSteps_94 : decode cX11_laysSteps 94 = .ok (.iload 4, 2) := by decide +kernel
theorem dX11_laysSteps_96 : decode cX11_laysSteps 96 = .ok (.iload_n 2, 1) := by decide +kernel
theorem dX11_laysSteps_97 : decode cX11_laysSteps 97 = .ok (.iconst 1, 1) := by decide +kernel
theorem dX11_laysSteps_98 : decode cX11_laysSteps 98 = .ok (.iadd, 1) := by decide +kernel
theorem dX11_laysSteps_99 : decode cX11_laysSteps 99 = .ok (.iastore, 1) := by decide +kernel
theorem dX11_laysSteps_100 : decode cX11_laysSteps 100 = .ok (.iinc 4 1, 3) := by decide +kernel
theorem dX11_laysSteps_103 : decode cX11_laysSteps 103 = .ok (.goto (-41), 3) := by decide +kernel
theorem dX11_laysSteps_106 : decode cX11_laysSteps 106 = .ok (.iinc 3 1, 3) := by decide +kernel
theorem dX11_laysSteps_109 : decode cX11_laysSteps 109 = .ok (.goto (-69), 3) := by decide +kernel
theorem dX11_laysSteps_112 : decode cX11_laysSteps 112 = .ok (.iinc 2 1, 3) := by decide +kernel
theorem dX11_laysSteps_115 : decode cX11_laysSteps 115 = .ok (.goto (-83), 3) := by decide +kernel
theorem dX11_laysSteps_118 : decode cX11_laysSteps 118 = .ok (.return_, 1) := by decide +kernel
/-! ===== rows and columns as a graph ===== -/
/-- what the row sign tells of a table: where it is told (neither 0 nor open) -/
def SG (g : Nat → Int32) (T : tb) : Prop := g 36 = nI T.1 ∧ g 37 = nI T.2.1 ∧ T.1 ≤ 6 ∧ T.2.1 ≤ 6 ∧ ∀ r c, r < T.1 → c < T.2.1 → ((¬ g (6 * r + c) = 0 ∧ ¬ g (6 * r + c) = 9) ↔ ¬ T.2.2 r c = 0)
def tld (T : tb) (r c : Nat) : Prop := r < T.1 ∧ c < T.2.1 ∧ ¬ T.2.2 r c = 0
def adj (T : tb) (a b : Nat) : Prop := (a < 6 ∧ 6 ≤ b ∧ tld T a (b - 6)) ∨ (6 ≤ a ∧ b < 6 ∧ tld T b (a - 6))
/-- reached from g by at most n entries -/
def rch (T : tb) (g : Nat) : Nat → Nat → Prop
  | 0, b => b = g
  | n + 1, b => rch T g n b ∨ ∃ a, a < 12 ∧ rch T g n a ∧ adj T a b
def ds (T : tb) (g b n : Nat) : Prop := rch T g n b ∧ ∀ m, m < n → ¬ rch T g m b
theorem rch_s {T : tb} {g n b : Nat} (h : rch T g n b) : rch T g (n + 1) b := Or.inl h
theorem rch_mono {T : tb} {g n b : Nat} (h : rch T g n b) : ∀ m, n ≤ m → rch T g m b := by
  intro m hm
  obtain ⟨k, rfl⟩ : ∃ k, m = n + k := ⟨m - n, by omega⟩
  clear hm
  induction k with
  | zero => exact h
  | succ k ih => exact rch_s ih
theorem adj_sym {T : tb} {a b : Nat} (h : adj T a b) : adj T b a := by
  rcases h with ⟨h1, h2, h3⟩ | ⟨h1, h2, h3⟩
  · exact Or.inr ⟨h2, h1, h3⟩
  · exact Or.inl ⟨h2, h1, h3⟩
/-- the row steps, behind n passes -/
def SP (st : Nat → Int32) (T : tb) (g n : Nat) : Prop := ∀ b, b < 12 → (∃ k, k ≤ n ∧ st b = nI k ∧ ds T g b k) ∨ (st b = -1 ∧ ¬ rch T g n b)
theorem s_isTold (σ : sg) (x : aW) (T : tb) (hS : SG (σ.2.2 i_m_sign) T) (r c : Nat) (hr : r < 6) (hc : c < 6) :
    Mt mX11_isTold 1 0 0 [.ref i_M, .int (nI r), .int (nI c)] (wd σ x) (QI (b2i (tld T r c)) (wd σ x)) := by
  refine Mt.of MI_X11_isTold (Nat.le_of_ble_eq_true rfl) (fun X hC hR hT => ?_)
  obtain ⟨h1, h2, h3, h4, h5⟩ := hS
  have e : inT (σ.2.2 i_m_sign) (nI r) (nI c) ↔ r < T.1 ∧ c < T.2.1 := by
    unfold inT
    rw [h1, h2, nI_toInt (by omega), nI_toInt (by omega), nI_toInt (by omega), nI_toInt (by omega)]
    omega
  refine R_aload_n (i := 0) hC dX11_isTold_0 rfl rfl (R_aload_n (i := 0) hC dX11_isTold_1 rfl rfl (R_gR hC dX11_isTold_2 fl_X11_59 L_M rfl (R_iload_n (i := 1) hC dX11_isTold_5 rfl rfl (R_iload_n (i := 2) hC dX11_isTold_6 rfl rfl ?_))))
  refine R_V3i hC hR dX11_isTold_7 MV_X11_isCell ml_X11_158 L_M rfl (s_isCell _ _ _ L_m_sign _ _) (by decide) ⟨by decide, by decide⟩ (Nat.le_of_ble_eq_true rfl) ?_
  refine R_if_eq hC 47 dX11_isTold_10 (by decide) (fun h10 => ?_) (fun h10 => ?_)
  · refine R_iconst (v := 0) hC dX11_isTold_47 (by decide) ?_
    exact R_zret hC hT dX11_isTold_48 rfl (by decide) ⟨by
    first
    | (rw [b2i_t (show tld T r c from ⟨hin.1, hin.2, e5.mp ⟨h24, h40⟩⟩)]; done)
    | (have h41 := h40; rw [b2i_f (fun z : tld T r c => (e5.mpr z.2.2).2 h41)]; done)
    | (have h25 := h24; rw [b2i_f (fun z : tld T r c => (e5.mpr z.2.2).1 h25)]; done)
    | (have h11 := b2i_0 h10; rw [b2i_f (fun z : tld T r c => h11 (e.mpr ⟨z.1, z.2.1⟩))]; done), rfl⟩
  · have hin := e.mp (b2i_ne h10)
    have e5 := h5 r c hin.1 hin.2
    refine R_aload_n (i := 0) hC dX11_isTold_13 rfl rfl (R_gR hC dX11_isTold_14 fl_X11_59 L_M rfl (R_bipush (v := 6) hC dX11_isTold_17 (by decide) (R_iload_n (i := 1) hC dX11_isTold_19 rfl rfl (R_imul hC dX11_isTold_20 (R_iload_n (i := 2) hC dX11_isTold_21 rfl rfl (R_iadd hC dX11_isTold_22 (R_aI hC dX11_isTold_23 L_m_sign (6 * r + c) (n6 r c) (by omega) (by decide) ?_)))))))
    refine R_if_eq hC 47 dX11_isTold_24 (by decide) (fun h24 => ?_) (fun h24 => ?_)
    · refine R_iconst (v := 0) hC dX11_isTold_47 (by decide) ?_
      exact R_zret hC hT dX11_isTold_48 rfl (by decide) ⟨by
      first
      | (rw [b2i_t (show tld T r c from ⟨hin.1, hin.2, e5.mp ⟨h24, h40⟩⟩)]; done)
      | (have h41 := h40; rw [b2i_f (fun z : tld T r c => (e5.mpr z.2.2).2 h41)]; done)
      | (have h25 := h24; rw [b2i_f (fun z : tld T r c => (e5.mpr z.2.2).1 h25)]; done)
      | (have h11 := b2i_0 h10; rw [b2i_f (fun z : tld T r c => h11 (e.mpr ⟨z.1, z.2.1⟩))]; done), rfl⟩
    · refine R_aload_n (i := 0) hC dX11_isTold_27 rfl rfl (R_gR hC dX11_isTold_28 fl_X11_59 L_M rfl (R_bipush (v := 6) hC dX11_isTold_31 (by decide) (R_iload_n (i := 1) hC dX11_isTold_33 rfl rfl (R_imul hC dX11_isTold_34 (R_iload_n (i := 2) hC dX11_isTold_35 rfl rfl (R_iadd hC dX11_isTold_36 (R_aI hC dX11_isTold_37 L_m_sign (6 * r + c) (n6 r c) (by omega) (by decide) ?_)))))))
      refine R_bipush (v := 9) hC dX11_isTold_38 (by decide) ?_
      refine R_icmp_eq hC 47 dX11_isTold_40 (by decide) (fun h40 => ?_) (fun h40 => ?_)
      · refine R_iconst (v := 0) hC dX11_isTold_47 (by decide) ?_
        exact R_zret hC hT dX11_isTold_48 rfl (by decide) ⟨by
        first
        | (rw [b2i_t (show tld T r c from ⟨hin.1, hin.2, e5.mp ⟨h24, h40⟩⟩)]; done)
        | (have h41 := h40; rw [b2i_f (fun z : tld T r c => (e5.mpr z.2.2).2 h41)]; done)
        | (have h25 := h24; rw [b2i_f (fun z : tld T r c => (e5.mpr z.2.2).1 h25)]; done)
        | (have h11 := b2i_0 h10; rw [b2i_f (fun z : tld T r c => h11 (e.mpr ⟨z.1, z.2.1⟩))]; done), rfl⟩
      · refine R_iconst (v := 1) hC dX11_isTold_43 (by decide) (R_goto hC 48 dX11_isTold_44 (by decide) ?_)
        exact R_zret hC hT dX11_isTold_48 rfl (by decide) ⟨by
        first
        | (rw [b2i_t (show tld T r c from ⟨hin.1, hin.2, e5.mp ⟨h24, h40⟩⟩)]; done)
        | (have h41 := h40; rw [b2i_f (fun z : tld T r c => (e5.mpr z.2.2).2 h41)]; done)
        | (have h25 := h24; rw [b2i_f (fun z : tld T r c => (e5.mpr z.2.2).1 h25)]; done)
        | (have h11 := b2i_0 h10; rw [b2i_f (fun z : tld T r c => h11 (e.mpr ⟨z.1, z.2.1⟩))]; done), rfl⟩
theorem s_areTold (σ : sg) (x : aW) (T : tb) (hS : SG (σ.2.2 i_m_sign) T) (a b : Nat) (ha : a < 12) (hb : b < 12) :
    Mt mX11_areTold 2 0 0 [.ref i_M, .int (nI a), .int (nI b)] (wd σ x) (QI (b2i (adj T a b)) (wd σ x)) := by
  refine Mt.of MI_X11_areTold (Nat.le_of_ble_eq_true rfl) (fun X hC hR hT => ?_)
  have ea : ((6 : Int32) ≤ nI a) ↔ 6 ≤ a := nI_leI (a := 6) (by decide) (by omega)
  have eb : ((6 : Int32) ≤ nI b) ↔ 6 ≤ b := nI_leI (a := 6) (by decide) (by omega)
  have fa : (nI a < (6 : Int32)) ↔ a < 6 := nI_ltI (b := 6) (by omega) (by decide)
  have fb : (nI b < (6 : Int32)) ↔ b < 6 := nI_ltI (b := 6) (by omega) (by decide)
  refine R_iload_n (i := 1) hC dX11_areTold_0 rfl rfl (R_bipush (v := 6) hC dX11_areTold_1 (by decide) ?_)
  refine R_icmp_ge hC 24 dX11_areTold_3 (by decide) (fun h3 => ?_) (fun h3 => ?_)
  · refine R_iload_n (i := 1) hC dX11_areTold_24 rfl rfl (R_bipush (v := 6) hC dX11_areTold_25 (by decide) ?_)
    refine R_icmp_lt hC 52 dX11_areTold_27 (by decide) (fun h27 => ?_) (fun h27 => ?_)
    · refine R_iconst (v := 0) hC dX11_areTold_52 (by decide) ?_
      exact R_zret hC hT dX11_areTold_53 rfl (by decide) ⟨by
      first
      | (have h46 := b2i_ne h45; rw [b2i_t (show adj T a b from Or.inr ⟨a6, b6, h46⟩)]; done)
      | (have h46 := b2i_0 h45; rw [b2i_f (fun z : adj T a b => z.elim (fun y => absurd y.1 (by omega)) (fun y => h46 y.2.2))]; done)
      | (have h34 := eb.mp h33; have h28 := mt fa.mpr h27; rw [b2i_f (fun z : adj T a b => z.elim (fun y => absurd y.1 (by omega)) (fun y => absurd y.2.1 (by omega)))]; done)
      | (have h28 := fa.mp h27; have h4 := ea.mp h3; exfalso; omega)
      | (have h10 := fb.mp h9; have h4 := mt ea.mpr h3; rw [b2i_f (fun z : adj T a b => z.elim (fun y => absurd y.2.1 (by omega)) (fun y => absurd y.1 (by omega)))]; done)
      | (have a7 := a6; have b7 := b6; have en : adj T a b ↔ tld T a (b - 6) := ⟨fun z => z.elim (fun y => y.2.2) (fun y => absurd y.1 (by omega)), fun z => Or.inl ⟨a7, b7, z⟩⟩; rw [show adj T a b = tld T a (b - 6) from propext en]; done), rfl⟩
    · refine R_iload_n (i := 2) hC dX11_areTold_30 rfl rfl (R_bipush (v := 6) hC dX11_areTold_31 (by decide) ?_)
      refine R_icmp_ge hC 52 dX11_areTold_33 (by decide) (fun h33 => ?_) (fun h33 => ?_)
      · refine R_iconst (v := 0) hC dX11_areTold_52 (by decide) ?_
        exact R_zret hC hT dX11_areTold_53 rfl (by decide) ⟨by
        first
        | (have h46 := b2i_ne h45; rw [b2i_t (show adj T a b from Or.inr ⟨a6, b6, h46⟩)]; done)
        | (have h46 := b2i_0 h45; rw [b2i_f (fun z : adj T a b => z.elim (fun y => absurd y.1 (by omega)) (fun y => h46 y.2.2))]; done)
        | (have h34 := eb.mp h33; have h28 := mt fa.mpr h27; rw [b2i_f (fun z : adj T a b => z.elim (fun y => absurd y.1 (by omega)) (fun y => absurd y.2.1 (by omega)))]; done)
        | (have h28 := fa.mp h27; have h4 := ea.mp h3; exfalso; omega)
        | (have h10 := fb.mp h9; have h4 := mt ea.mpr h3; rw [b2i_f (fun z : adj T a b => z.elim (fun y => absurd y.2.1 (by omega)) (fun y => absurd y.1 (by omega)))]; done)
        | (have a7 := a6; have b7 := b6; have en : adj T a b ↔ tld T a (b - 6) := ⟨fun z => z.elim (fun y => y.2.2) (fun y => absurd y.1 (by omega)), fun z => Or.inl ⟨a7, b7, z⟩⟩; rw [show adj T a b = tld T a (b - 6) from propext en]; done), rfl⟩
      · refine R_aload_n (i := 0) hC dX11_areTold_36 rfl rfl (R_iload_n (i := 2) hC dX11_areTold_37 rfl rfl (R_iload_n (i := 1) hC dX11_areTold_38 rfl rfl (R_bipush (v := 6) hC dX11_areTold_39 (by decide) (R_isub hC dX11_areTold_41 ?_))))
        have a6 : 6 ≤ a := by first | exact ea.mp h3 | (have := mt fa.mpr h27; omega)
        have b6 : b < 6 := by have := mt eb.mpr h33; omega
        refine R_top (y := nI (a - 6)) (nI_sub (b := 6) a6) ?_
        refine R_V2i hC hR dX11_areTold_42 MV_X11_isTold ml_X11_271 L_M rfl (s_isTold σ x T hS b (a - 6) b6 (by omega)) (by decide) ⟨by decide, by decide⟩ (Nat.le_of_ble_eq_true rfl) ?_
        refine R_if_eq hC 52 dX11_areTold_45 (by decide) (fun h45 => ?_) (fun h45 => ?_)
        · refine R_iconst (v := 0) hC dX11_areTold_52 (by decide) ?_
          exact R_zret hC hT dX11_areTold_53 rfl (by decide) ⟨by
          first
          | (have h46 := b2i_ne h45; rw [b2i_t (show adj T a b from Or.inr ⟨a6, b6, h46⟩)]; done)
          | (have h46 := b2i_0 h45; rw [b2i_f (fun z : adj T a b => z.elim (fun y => absurd y.1 (by omega)) (fun y => h46 y.2.2))]; done)
          | (have h34 := eb.mp h33; have h28 := mt fa.mpr h27; rw [b2i_f (fun z : adj T a b => z.elim (fun y => absurd y.1 (by omega)) (fun y => absurd y.2.1 (by omega)))]; done)
          | (have h28 := fa.mp h27; have h4 := ea.mp h3; exfalso; omega)
          | (have h10 := fb.mp h9; have h4 := mt ea.mpr h3; rw [b2i_f (fun z : adj T a b => z.elim (fun y => absurd y.2.1 (by omega)) (fun y => absurd y.1 (by omega)))]; done)
          | (have a7 := a6; have b7 := b6; have en : adj T a b ↔ tld T a (b - 6) := ⟨fun z => z.elim (fun y => y.2.2) (fun y => absurd y.1 (by omega)), fun z => Or.inl ⟨a7, b7, z⟩⟩; rw [show adj T a b = tld T a (b - 6) from propext en]; done), rfl⟩
        · refine R_iconst (v := 1) hC dX11_areTold_48 (by decide) (R_goto hC 53 dX11_areTold_49 (by decide) ?_)
          exact R_zret hC hT dX11_areTold_53 rfl (by decide) ⟨by
          first
          | (have h46 := b2i_ne h45; rw [b2i_t (show adj T a b from Or.inr ⟨a6, b6, h46⟩)]; done)
          | (have h46 := b2i_0 h45; rw [b2i_f (fun z : adj T a b => z.elim (fun y => absurd y.1 (by omega)) (fun y => h46 y.2.2))]; done)
          | (have h34 := eb.mp h33; have h28 := mt fa.mpr h27; rw [b2i_f (fun z : adj T a b => z.elim (fun y => absurd y.1 (by omega)) (fun y => absurd y.2.1 (by omega)))]; done)
          | (have h28 := fa.mp h27; have h4 := ea.mp h3; exfalso; omega)
          | (have h10 := fb.mp h9; have h4 := mt ea.mpr h3; rw [b2i_f (fun z : adj T a b => z.elim (fun y => absurd y.2.1 (by omega)) (fun y => absurd y.1 (by omega)))]; done)
          | (have a7 := a6; have b7 := b6; have en : adj T a b ↔ tld T a (b - 6) := ⟨fun z => z.elim (fun y => y.2.2) (fun y => absurd y.1 (by omega)), fun z => Or.inl ⟨a7, b7, z⟩⟩; rw [show adj T a b = tld T a (b - 6) from propext en]; done), rfl⟩
  · refine R_iload_n (i := 2) hC dX11_areTold_6 rfl rfl (R_bipush (v := 6) hC dX11_areTold_7 (by decide) ?_)
    refine R_icmp_lt hC 24 dX11_areTold_9 (by decide) (fun h9 => ?_) (fun h9 => ?_)
    · refine R_iload_n (i := 1) hC dX11_areTold_24 rfl rfl (R_bipush (v := 6) hC dX11_areTold_25 (by decide) ?_)
      refine R_icmp_lt hC 52 dX11_areTold_27 (by decide) (fun h27 => ?_) (fun h27 => ?_)
      · refine R_iconst (v := 0) hC dX11_areTold_52 (by decide) ?_
        exact R_zret hC hT dX11_areTold_53 rfl (by decide) ⟨by
        first
        | (have h46 := b2i_ne h45; rw [b2i_t (show adj T a b from Or.inr ⟨a6, b6, h46⟩)]; done)
        | (have h46 := b2i_0 h45; rw [b2i_f (fun z : adj T a b => z.elim (fun y => absurd y.1 (by omega)) (fun y => h46 y.2.2))]; done)
        | (have h34 := eb.mp h33; have h28 := mt fa.mpr h27; rw [b2i_f (fun z : adj T a b => z.elim (fun y => absurd y.1 (by omega)) (fun y => absurd y.2.1 (by omega)))]; done)
        | (have h28 := fa.mp h27; have h4 := ea.mp h3; exfalso; omega)
        | (have h10 := fb.mp h9; have h4 := mt ea.mpr h3; rw [b2i_f (fun z : adj T a b => z.elim (fun y => absurd y.2.1 (by omega)) (fun y => absurd y.1 (by omega)))]; done)
        | (have a7 := a6; have b7 := b6; have en : adj T a b ↔ tld T a (b - 6) := ⟨fun z => z.elim (fun y => y.2.2) (fun y => absurd y.1 (by omega)), fun z => Or.inl ⟨a7, b7, z⟩⟩; rw [show adj T a b = tld T a (b - 6) from propext en]; done), rfl⟩
      · refine R_iload_n (i := 2) hC dX11_areTold_30 rfl rfl (R_bipush (v := 6) hC dX11_areTold_31 (by decide) ?_)
        refine R_icmp_ge hC 52 dX11_areTold_33 (by decide) (fun h33 => ?_) (fun h33 => ?_)
        · refine R_iconst (v := 0) hC dX11_areTold_52 (by decide) ?_
          exact R_zret hC hT dX11_areTold_53 rfl (by decide) ⟨by
          first
          | (have h46 := b2i_ne h45; rw [b2i_t (show adj T a b from Or.inr ⟨a6, b6, h46⟩)]; done)
          | (have h46 := b2i_0 h45; rw [b2i_f (fun z : adj T a b => z.elim (fun y => absurd y.1 (by omega)) (fun y => h46 y.2.2))]; done)
          | (have h34 := eb.mp h33; have h28 := mt fa.mpr h27; rw [b2i_f (fun z : adj T a b => z.elim (fun y => absurd y.1 (by omega)) (fun y => absurd y.2.1 (by omega)))]; done)
          | (have h28 := fa.mp h27; have h4 := ea.mp h3; exfalso; omega)
          | (have h10 := fb.mp h9; have h4 := mt ea.mpr h3; rw [b2i_f (fun z : adj T a b => z.elim (fun y => absurd y.2.1 (by omega)) (fun y => absurd y.1 (by omega)))]; done)
          | (have a7 := a6; have b7 := b6; have en : adj T a b ↔ tld T a (b - 6) := ⟨fun z => z.elim (fun y => y.2.2) (fun y => absurd y.1 (by omega)), fun z => Or.inl ⟨a7, b7, z⟩⟩; rw [show adj T a b = tld T a (b - 6) from propext en]; done), rfl⟩
        · refine R_aload_n (i := 0) hC dX11_areTold_36 rfl rfl (R_iload_n (i := 2) hC dX11_areTold_37 rfl rfl (R_iload_n (i := 1) hC dX11_areTold_38 rfl rfl (R_bipush (v := 6) hC dX11_areTold_39 (by decide) (R_isub hC dX11_areTold_41 ?_))))
          have a6 : 6 ≤ a := by first | exact ea.mp h3 | (have := mt fa.mpr h27; omega)
          have b6 : b < 6 := by have := mt eb.mpr h33; omega
          refine R_top (y := nI (a - 6)) (nI_sub (b := 6) a6) ?_
          refine R_V2i hC hR dX11_areTold_42 MV_X11_isTold ml_X11_271 L_M rfl (s_isTold σ x T hS b (a - 6) b6 (by omega)) (by decide) ⟨by decide, by decide⟩ (Nat.le_of_ble_eq_true rfl) ?_
          refine R_if_eq hC 52 dX11_areTold_45 (by decide) (fun h45 => ?_) (fun h45 => ?_)
          · refine R_iconst (v := 0) hC dX11_areTold_52 (by decide) ?_
            exact R_zret hC hT dX11_areTold_53 rfl (by decide) ⟨by
            first
            | (have h46 := b2i_ne h45; rw [b2i_t (show adj T a b from Or.inr ⟨a6, b6, h46⟩)]; done)
            | (have h46 := b2i_0 h45; rw [b2i_f (fun z : adj T a b => z.elim (fun y => absurd y.1 (by omega)) (fun y => h46 y.2.2))]; done)
            | (have h34 := eb.mp h33; have h28 := mt fa.mpr h27; rw [b2i_f (fun z : adj T a b => z.elim (fun y => absurd y.1 (by omega)) (fun y => absurd y.2.1 (by omega)))]; done)
            | (have h28 := fa.mp h27; have h4 := ea.mp h3; exfalso; omega)
            | (have h10 := fb.mp h9; have h4 := mt ea.mpr h3; rw [b2i_f (fun z : adj T a b => z.elim (fun y => absurd y.2.1 (by omega)) (fun y => absurd y.1 (by omega)))]; done)
            | (have a7 := a6; have b7 := b6; have en : adj T a b ↔ tld T a (b - 6) := ⟨fun z => z.elim (fun y => y.2.2) (fun y => absurd y.1 (by omega)), fun z => Or.inl ⟨a7, b7, z⟩⟩; rw [show adj T a b = tld T a (b - 6) from propext en]; done), rfl⟩
          · refine R_iconst (v := 1) hC dX11_areTold_48 (by decide) (R_goto hC 53 dX11_areTold_49 (by decide) ?_)
            exact R_zret hC hT dX11_areTold_53 rfl (by decide) ⟨by
            first
            | (have h46 := b2i_ne h45; rw [b2i_t (show adj T a b from Or.inr ⟨a6, b6, h46⟩)]; done)
            | (have h46 := b2i_0 h45; rw [b2i_f (fun z : adj T a b => z.elim (fun y => absurd y.1 (by omega)) (fun y => h46 y.2.2))]; done)
            | (have h34 := eb.mp h33; have h28 := mt fa.mpr h27; rw [b2i_f (fun z : adj T a b => z.elim (fun y => absurd y.1 (by omega)) (fun y => absurd y.2.1 (by omega)))]; done)
            | (have h28 := fa.mp h27; have h4 := ea.mp h3; exfalso; omega)
            | (have h10 := fb.mp h9; have h4 := mt ea.mpr h3; rw [b2i_f (fun z : adj T a b => z.elim (fun y => absurd y.2.1 (by omega)) (fun y => absurd y.1 (by omega)))]; done)
            | (have a7 := a6; have b7 := b6; have en : adj T a b ↔ tld T a (b - 6) := ⟨fun z => z.elim (fun y => y.2.2) (fun y => absurd y.1 (by omega)), fun z => Or.inl ⟨a7, b7, z⟩⟩; rw [show adj T a b = tld T a (b - 6) from propext en]; done), rfl⟩
    · refine R_aload_n (i := 0) hC dX11_areTold_12 rfl rfl (R_iload_n (i := 1) hC dX11_areTold_13 rfl rfl (R_iload_n (i := 2) hC dX11_areTold_14 rfl rfl (R_bipush (v := 6) hC dX11_areTold_15 (by decide) (R_isub hC dX11_areTold_17 ?_))))
      have b6 : 6 ≤ b := by have := mt fb.mpr h9; omega
      have a6 : a < 6 := by have := mt ea.mpr h3; omega
      refine R_top (y := nI (b - 6)) (nI_sub (b := 6) b6) ?_
      refine R_V2i hC hR dX11_areTold_18 MV_X11_isTold ml_X11_271 L_M rfl (s_isTold σ x T hS a (b - 6) a6 (by omega)) (by decide) ⟨by decide, by decide⟩ (Nat.le_of_ble_eq_true rfl) ?_
      refine R_goto hC 53 dX11_areTold_21 (by decide) ?_
      exact R_zret hC hT dX11_areTold_53 rfl (by first | decide | exact b2i_z _) ⟨by
      first
      | (have h46 := b2i_ne h45; rw [b2i_t (show adj T a b from Or.inr ⟨a6, b6, h46⟩)]; done)
      | (have h46 := b2i_0 h45; rw [b2i_f (fun z : adj T a b => z.elim (fun y => absurd y.1 (by omega)) (fun y => h46 y.2.2))]; done)
      | (have h34 := eb.mp h33; have h28 := mt fa.mpr h27; rw [b2i_f (fun z : adj T a b => z.elim (fun y => absurd y.1 (by omega)) (fun y => absurd y.2.1 (by omega)))]; done)
      | (have h28 := fa.mp h27; have h4 := ea.mp h3; exfalso; omega)
      | (have h10 := fb.mp h9; have h4 := mt ea.mpr h3; rw [b2i_f (fun z : adj T a b => z.elim (fun y => absurd y.2.1 (by omega)) (fun y => absurd y.1 (by omega)))]; done)
      | (have a7 := a6; have b7 := b6; have en : adj T a b ↔ tld T a (b - 6) := ⟨fun z => z.elim (fun y => y.2.2) (fun y => absurd y.1 (by omega)), fun z => Or.inl ⟨a7, b7, z⟩⟩; rw [show adj T a b = tld T a (b - 6) from propext en]; done), rfl⟩
/-- the sign of the entry between a row and a column -/
def eSg (f : Nat → Nat → Int32) (a b : Nat) : Int32 := if a < 6 then f a (b - 6) else f b (a - 6)
theorem s_signBetween (σ : sg) (x : aW) (a b : Nat) (ha : a < 12) (hb : b < 12) (hab : (a < 6 ∧ 6 ≤ b) ∨ (6 ≤ a ∧ b < 6)) :
    Mt mX11_signBetween 0 0 0 [.ref i_M, .int (nI a), .int (nI b)] (wd σ x) (QI (eSg (fun r c => σ.2.2 i_m_sign (6 * r + c)) a b) (wd σ x)) := by
  refine Mt.of MI_X11_signBetween (Nat.le_of_ble_eq_true rfl) (fun X hC hR hT => ?_)
  have ea : ((6 : Int32) ≤ nI a) ↔ 6 ≤ a := nI_leI (a := 6) (by decide) (by omega)
  refine R_iload_n (i := 1) hC dX11_signBetween_0 rfl rfl (R_bipush (v := 6) hC dX11_signBetween_1 (by decide) ?_)
  refine R_icmp_ge hC 23 dX11_signBetween_3 (by decide) (fun h3 => ?_) (fun h3 => ?_)
  · have a6 : 6 ≤ a := ea.mp h3
    refine R_aload_n (i := 0) hC dX11_signBetween_23 rfl rfl (R_gR hC dX11_signBetween_24 fl_X11_59 L_M rfl (R_bipush (v := 6) hC dX11_signBetween_27 (by decide) (R_iload_n (i := 2) hC dX11_signBetween_29 rfl rfl (R_imul hC dX11_signBetween_30 (R_iload_n (i := 1) hC dX11_signBetween_31 rfl rfl (R_iadd hC dX11_signBetween_32 (R_bipush (v := 6) hC dX11_signBetween_33 (by decide) ?_)))))))
    refine R_isub hC dX11_signBetween_35 (R_aI hC dX11_signBetween_36 L_m_sign (6 * b + (a - 6)) (by rw [n6, show (6 : Int32) = nI 6 from rfl, nI_sub (by omega)]; congr 1; omega) (by omega) (by decide) ?_)
    exact R_iret hC hT dX11_signBetween_37 rfl ⟨by
    unfold eSg
    first
    | (rw [if_pos a6]; done)
    | (have a7 : ¬ a < 6 := (by omega); rw [if_neg a7]; done), rfl⟩
  · have a6 : a < 6 := by have := mt ea.mpr h3; omega
    refine R_aload_n (i := 0) hC dX11_signBetween_6 rfl rfl (R_gR hC dX11_signBetween_7 fl_X11_59 L_M rfl (R_bipush (v := 6) hC dX11_signBetween_10 (by decide) (R_iload_n (i := 1) hC dX11_signBetween_12 rfl rfl (R_imul hC dX11_signBetween_13 (R_iload_n (i := 2) hC dX11_signBetween_14 rfl rfl (R_iadd hC dX11_signBetween_15 (R_bipush (v := 6) hC dX11_signBetween_16 (by decide) ?_)))))))
    refine R_isub hC dX11_signBetween_18 (R_aI hC dX11_signBetween_19 L_m_sign (6 * a + (b - 6)) (by rw [n6, show (6 : Int32) = nI 6 from rfl, nI_sub (by omega)]; congr 1; omega) (by omega) (by decide) (R_goto hC 37 dX11_signBetween_20 (by decide) ?_))
    exact R_iret hC hT dX11_signBetween_37 rfl ⟨by
    unfold eSg
    first
    | (rw [if_pos a6]; done)
    | (have a7 : ¬ a < 6 := (by omega); rw [if_neg a7]; done), rfl⟩
theorem s_laysSteps (σ : sg) (x : aW) (T : tb) (hS : SG (σ.2.2 i_m_sign) T) (goal : Nat) (hgoal : goal < 12) :
    Mt mX11_laysSteps 3 0 0 [.ref i_M, .int (nI goal)] (wd σ x) (fun q w => q = none ∧ ∃ st, w = wd (sA σ i_m_steps st) x ∧ SP st T goal 12) := by
  refine Mt.of MI_X11_laysSteps (Nat.le_of_ble_eq_true rfl) (fun X hC hR hT => ?_)
  have hS2 : ∀ st, SG ((sA σ i_m_steps st).2.2 i_m_sign) T := fun st => by rw [sA_ne (by decide)]; exact hS
  have pass : ∀ n, n ≤ 12 → ∀ st, SP st T goal n → ∀ u3 u4, Rw mX11_laysSteps X 32 [some (.ref i_M), some (.int (nI goal)), some (.int (nI n)), u3, u4] [] (wd (sA σ i_m_steps st) x) 0 0 := by
    refine up_loop 12 ?_ ?_
    · intro st hst u3 u4
      refine R_iload_n (i := 2) hC dX11_laysSteps_32 rfl rfl (R_bipush (v := 12) hC dX11_laysSteps_33 (by decide) ?_)
      refine R_icmp_ge hC 118 dX11_laysSteps_35 (by decide) (fun _ => ?_) (fun h => absurd (by decide) h)
      exact R_vret hC hT dX11_laysSteps_118 rfl ⟨rfl, st, rfl, hst⟩
    · intro n hn ih st hst u3 u4
      -- of a node: what it holds when the nodes ahead of a are done
      have mid : ∀ a, a ≤ 12 → ∀ st, (∀ b, b < 12 → (∃ k, k ≤ n ∧ st b = nI k ∧ ds T goal b k) ∨ (¬ rch T goal n b ∧ st b = nI (n + 1) ∧ ∃ a2, a2 < 12 ∧ rch T goal n a2 ∧ adj T a2 b) ∨ (¬ rch T goal n b ∧ st b = -1 ∧ ∀ a2, a2 < a → rch T goal n a2 → ¬ adj T a2 b)) → ∀ u4, Rw mX11_laysSteps X 40 [some (.ref i_M), some (.int (nI goal)), some (.int (nI n)), some (.int (nI a)), u4] [] (wd (sA σ i_m_steps st) x) 0 0 := by
        refine up_loop 12 ?_ ?_
        · intro st hs u4
          refine R_iload_n (i := 3) hC dX11_laysSteps_40 rfl rfl (R_bipush (v := 12) hC dX11_laysSteps_41 (by decide) ?_)
          refine R_icmp_ge hC 112 dX11_laysSteps_43 (by decide) (fun _ => ?_) (fun h => absurd (by decide) h)
          refine R_iinc hC dX11_laysSteps_112 rfl (inc1 _) (by decide) rfl (R_goto hC 32 dX11_laysSteps_115 (by decide) ?_)
          exact ih st (fun b hb => by
          rcases hs b hb with ⟨k, h1, h2, h3⟩ | ⟨h1, h2, a2, h3, h4, h5⟩ | ⟨h1, h2, h3⟩
          · exact Or.inl ⟨k, by omega, h2, h3⟩
          · exact Or.inl ⟨n + 1, Nat.le_refl _, h2, Or.inr ⟨a2, h3, h4, h5⟩, fun m hm z => h1 (rch_mono z n (by omega))⟩
          · exact Or.inr ⟨h2, fun z => z.elim h1 (fun ⟨a2, y1, y2, y3⟩ => h3 a2 y1 y2 y3)⟩) _ _
        · intro a ha iha st hs u4
          have inn : rch T goal n a → ∀ c, c ≤ 12 → ∀ st, (∀ b, b < 12 → (∃ k, k ≤ n ∧ st b = nI k ∧ ds T goal b k) ∨ (¬ rch T goal n b ∧ st b = nI (n + 1) ∧ ∃ a2, a2 < 12 ∧ rch T goal n a2 ∧ adj T a2 b) ∨ (¬ rch T goal n b ∧ st b = -1 ∧ ∀ a2, a2 < (if b < c then a + 1 else a) → rch T goal n a2 → ¬ adj T a2 b)) → Rw mX11_laysSteps X 62 [some (.ref i_M), some (.int (nI goal)), some (.int (nI n)), some (.int (nI a)), some (.int (nI c))] [] (wd (sA σ i_m_steps st) x) 0 0 := by
            intro hra
            refine up_loop 12 ?_ ?_
            · intro st hs
              refine R_iload hC dX11_laysSteps_62 rfl (R_bipush (v := 12) hC dX11_laysSteps_64 (by decide) ?_)
              refine R_icmp_ge hC 106 dX11_laysSteps_66 (by decide) (fun _ => ?_) (fun h => absurd (by decide) h)
              refine R_iinc hC dX11_laysSteps_106 rfl (inc1 _) (by decide) rfl (R_goto hC 40 dX11_laysSteps_109 (by decide) ?_)
              exact iha st (fun b hb => by
              rcases hs b hb with h1 | h1 | ⟨h1, h2, h3⟩
              · exact Or.inl h1
              · exact Or.inr (Or.inl h1)
              · rw [if_pos hb] at h3; exact Or.inr (Or.inr ⟨h1, h2, h3⟩)) _
            · intro c hc ihc st hs
              have up : ∀ (P : Nat → Prop), (∀ a2, a2 < (if c < c then a + 1 else a) → P a2) → P a → ∀ a2, a2 < (if c < c + 1 then a + 1 else a) → P a2 := by
                intro P p1 p2 a2 h
                rw [if_pos (by omega)] at h
                rw [if_neg (by omega)] at p1
                rcases (by omega : a2 < a ∨ a2 = a) with z | rfl
                · exact p1 a2 z
                · exact p2
              have oth : ∀ b, b ≠ c → (if b < c + 1 then a + 1 else a) = (if b < c then a + 1 else a) := fun b hb => by
                by_cases e : b < c
                · rw [if_pos e, if_pos (by omega)]
                · rw [if_neg e, if_neg (by omega)]
              have nx : ∀ st2, (∀ b, b ≠ c → st2 b = st b) → ((∃ k, k ≤ n ∧ st2 c = nI k ∧ ds T goal c k) ∨ (¬ rch T goal n c ∧ st2 c = nI (n + 1) ∧ ∃ a2, a2 < 12 ∧ rch T goal n a2 ∧ adj T a2 c) ∨ (¬ rch T goal n c ∧ st2 c = -1 ∧ ∀ a2, a2 < (if c < c + 1 then a + 1 else a) → rch T goal n a2 → ¬ adj T a2 c)) → Rw mX11_laysSteps X 100 [some (.ref i_M), some (.int (nI goal)), some (.int (nI n)), some (.int (nI a)), some (.int (nI c))] [] (wd (sA σ i_m_steps st2) x) 0 0 := by
                intro st2 e2 hc2
                refine R_iinc hC dX11_laysSteps_100 rfl (inc1 _) (by decide) rfl (R_goto hC 62 dX11_laysSteps_103 (by decide) ?_)
                exact ihc st2 (fun b hb => by
                by_cases e : b = c
                · subst e; exact hc2
                · rw [e2 b e, oth b e]; exact hs b hb)
              have hsc := hs c hc
              refine R_iload hC dX11_laysSteps_62 rfl (R_bipush (v := 12) hC dX11_laysSteps_64 (by decide) ?_)
              refine R_icmp_ge hC 106 dX11_laysSteps_66 (by decide) (fun h => absurd h (nI_ge (b := 12) hc (by decide))) (fun _ => ?_)
              refine R_aload_n (i := 0) hC dX11_laysSteps_69 rfl rfl (R_gR hC dX11_laysSteps_70 fl_X11_56 L_M rfl (R_iload hC dX11_laysSteps_73 rfl (R_aI hC dX11_laysSteps_75 L_m_steps _ rfl (by omega) (by decide) ?_)))
              refine R_top (y := st c) (by rw [sA_eq]) ?_
              refine R_iconst (v := (-1)) hC dX11_laysSteps_76 (by decide) ?_
              refine R_icmp_ne hC 100 dX11_laysSteps_77 (by decide) (fun h77 => ?_) (fun h77 => ?_)
              · first
                | (have h88 := b2i_ne h87
                   refine R_wd (by rw [sA_eq, sA_sA]) ?_
                   refine nx _ (fun b hb => by rw [upd, if_neg hb]) (Or.inr (Or.inl ⟨?_, by rw [upd, if_pos rfl], a, ha, hra, h88⟩))
                   rcases hsc with ⟨k, y1, y2, y3⟩ | ⟨y1, y2, y3⟩ | ⟨y1, y2, y3⟩
                   · exact absurd (y2.symm.trans h77) (nI_n1 (by omega))
                   · exact y1
                   · exact y1)
                | (have h88 := b2i_0 h87
                   refine nx st (fun b hb => rfl) ?_
                   rcases hsc with ⟨k, y1, y2, y3⟩ | ⟨y1, y2, y3⟩ | ⟨y1, y2, y3⟩
                   · exact absurd (y2.symm.trans h77) (nI_n1 (by omega))
                   · exact absurd (y2.symm.trans h77) (nI_n1 (by omega))
                   · exact Or.inr (Or.inr ⟨y1, y2, up (fun a2 => rch T goal n a2 → ¬ adj T a2 c) y3 (fun _ => h88)⟩))
                | (refine nx st (fun b hb => rfl) ?_
                   rcases hsc with y | y | ⟨y1, y2, y3⟩
                   · exact Or.inl y
                   · exact Or.inr (Or.inl y)
                   · exact absurd y2 h77)
              · refine R_aload_n (i := 0) hC dX11_laysSteps_80 rfl rfl (R_iload_n (i := 3) hC dX11_laysSteps_81 rfl rfl (R_iload hC dX11_laysSteps_82 rfl ?_))
                refine R_V2i hC hR dX11_laysSteps_84 MV_X11_areTold ml_X11_274 L_M rfl (s_areTold _ x T (hS2 st) a c ha hc) (by decide) ⟨by decide, by decide⟩ (Nat.le_of_ble_eq_true rfl) ?_
                refine R_if_eq hC 100 dX11_laysSteps_87 (by decide) (fun h87 => ?_) (fun h87 => ?_)
                · first
                  | (have h88 := b2i_ne h87
                     refine R_wd (by rw [sA_eq, sA_sA]) ?_
                     refine nx _ (fun b hb => by rw [upd, if_neg hb]) (Or.inr (Or.inl ⟨?_, by rw [upd, if_pos rfl], a, ha, hra, h88⟩))
                     rcases hsc with ⟨k, y1, y2, y3⟩ | ⟨y1, y2, y3⟩ | ⟨y1, y2, y3⟩
                     · exact absurd (y2.symm.trans h77) (nI_n1 (by omega))
                     · exact y1
                     · exact y1)
                  | (have h88 := b2i_0 h87
                     refine nx st (fun b hb => rfl) ?_
                     rcases hsc with ⟨k, y1, y2, y3⟩ | ⟨y1, y2, y3⟩ | ⟨y1, y2, y3⟩
                     · exact absurd (y2.symm.trans h77) (nI_n1 (by omega))
                     · exact absurd (y2.symm.trans h77) (nI_n1 (by omega))
                     · exact Or.inr (Or.inr ⟨y1, y2, up (fun a2 => rch T goal n a2 → ¬ adj T a2 c) y3 (fun _ => h88)⟩))
                  | (refine nx st (fun b hb => rfl) ?_
                     rcases hsc with y | y | ⟨y1, y2, y3⟩
                     · exact Or.inl y
                     · exact Or.inr (Or.inl y)
                     · exact absurd y2 h77)
                · refine R_aload_n (i := 0) hC dX11_laysSteps_90 rfl rfl (R_gR hC dX11_laysSteps_91 fl_X11_56 L_M rfl (R_iload hC dX11_laysSteps_94 rfl (R_iload_n (i := 2) hC dX11_laysSteps_96 rfl rfl (R_iconst (v := 1) hC dX11_laysSteps_97 (by decide) (R_iadd hC dX11_laysSteps_98 ?_)))))
                  refine R_top (y := nI (n + 1)) (nI_1 n) ?_
                  refine R_sI hC dX11_laysSteps_99 L_m_steps _ rfl (by omega) (by decide) ?_
                  first
                  | (have h88 := b2i_ne h87
                     refine R_wd (by rw [sA_eq, sA_sA]) ?_
                     refine nx _ (fun b hb => by rw [upd, if_neg hb]) (Or.inr (Or.inl ⟨?_, by rw [upd, if_pos rfl], a, ha, hra, h88⟩))
                     rcases hsc with ⟨k, y1, y2, y3⟩ | ⟨y1, y2, y3⟩ | ⟨y1, y2, y3⟩
                     · exact absurd (y2.symm.trans h77) (nI_n1 (by omega))
                     · exact y1
                     · exact y1)
                  | (have h88 := b2i_0 h87
                     refine nx st (fun b hb => rfl) ?_
                     rcases hsc with ⟨k, y1, y2, y3⟩ | ⟨y1, y2, y3⟩ | ⟨y1, y2, y3⟩
                     · exact absurd (y2.symm.trans h77) (nI_n1 (by omega))
                     · exact absurd (y2.symm.trans h77) (nI_n1 (by omega))
                     · exact Or.inr (Or.inr ⟨y1, y2, up (fun a2 => rch T goal n a2 → ¬ adj T a2 c) y3 (fun _ => h88)⟩))
                  | (refine nx st (fun b hb => rfl) ?_
                     rcases hsc with y | y | ⟨y1, y2, y3⟩
                     · exact Or.inl y
                     · exact Or.inr (Or.inl y)
                     · exact absurd y2 h77)
          have skp : (rch T goal n a → ∃ k, k < n ∧ rch T goal k a) → Rw mX11_laysSteps X 106 [some (.ref i_M), some (.int (nI goal)), some (.int (nI n)), some (.int (nI a)), u4] [] (wd (sA σ i_m_steps st) x) 0 0 := by
            intro hna
            refine R_iinc hC dX11_laysSteps_106 rfl (inc1 _) (by decide) rfl (R_goto hC 40 dX11_laysSteps_109 (by decide) ?_)
            exact iha st (fun b hb => by
            rcases hs b hb with h1 | h1 | ⟨h1, h2, h3⟩
            · exact Or.inl h1
            · exact Or.inr (Or.inl h1)
            · refine Or.inr (Or.inr ⟨h1, h2, fun a2 h4 h5 h6 => ?_⟩)
              rcases (by omega : a2 < a ∨ a2 = a) with z | rfl
              · exact h3 a2 z h5 h6
              · obtain ⟨k, k1, k2⟩ := hna h5
                exact h1 (rch_mono (n := k + 1) (Or.inr ⟨a2, ha, k2, h6⟩) n k1)) _
          have hsa := hs a ha
          refine R_iload_n (i := 3) hC dX11_laysSteps_40 rfl rfl (R_bipush (v := 12) hC dX11_laysSteps_41 (by decide) ?_)
          refine R_icmp_ge hC 112 dX11_laysSteps_43 (by decide) (fun h => absurd h (nI_ge (b := 12) ha (by decide))) (fun _ => ?_)
          refine R_aload_n (i := 0) hC dX11_laysSteps_46 rfl rfl (R_gR hC dX11_laysSteps_47 fl_X11_56 L_M rfl (R_iload_n (i := 3) hC dX11_laysSteps_50 rfl rfl (R_aI hC dX11_laysSteps_51 L_m_steps _ rfl (by omega) (by decide) ?_)))
          refine R_top (y := st a) (by rw [sA_eq]) ?_
          refine R_iload_n (i := 2) hC dX11_laysSteps_52 rfl rfl ?_
          refine R_icmp_eq hC 59 dX11_laysSteps_53 (by decide) (fun h53 => ?_) (fun h53 => ?_)
          · refine R_iconst (v := 0) hC dX11_laysSteps_59 (by decide) (R_istore hC dX11_laysSteps_60 (by decide) rfl ?_)
            refine inn ?_ 0 (Nat.zero_le _) st (fun b hb => by
              rcases hs b hb with h1 | h1 | ⟨h1, h2, h3⟩
              · exact Or.inl h1
              · exact Or.inr (Or.inl h1)
              · exact Or.inr (Or.inr ⟨h1, h2, by rw [if_neg (Nat.not_lt_zero _)]; exact h3⟩))
            rcases hsa with ⟨k, y1, y2, y3⟩ | ⟨y1, y2, y3⟩ | ⟨y1, y2, y3⟩
            · exact rch_mono y3.1 n y1
            · have := nI_inj (by omega) (by omega) (y2.symm.trans h53); omega
            · exact absurd (h53.symm.trans y2) (nI_n1 (by omega))
          · refine R_goto hC 106 dX11_laysSteps_56 (by decide) ?_
            refine skp (fun y => ?_)
            rcases hsa with ⟨k, y1, y2, y3⟩ | ⟨y1, y2, y3⟩ | ⟨y1, y2, y3⟩
            · rcases (by omega : k < n ∨ k = n) with z | rfl
              · exact ⟨k, z, y3.1⟩
              · exact absurd y2 h53
            · exact absurd y y1
            · exact absurd y y1
      refine R_iload_n (i := 2) hC dX11_laysSteps_32 rfl rfl (R_bipush (v := 12) hC dX11_laysSteps_33 (by decide) ?_)
      refine R_icmp_ge hC 118 dX11_laysSteps_35 (by decide) (fun h => absurd h (nI_ge (b := 12) hn (by decide))) (fun _ => ?_)
      refine R_iconst (v := 0) hC dX11_laysSteps_38 (by decide) (R_istore_n (i := 3) hC dX11_laysSteps_39 rfl (by decide) rfl ?_)
      exact mid 0 (Nat.zero_le _) st (fun b hb => by
      rcases hst b hb with h1 | ⟨h1, h2⟩
      · exact Or.inl h1
      · exact Or.inr (Or.inr ⟨h2, h1, fun a2 z => absurd z (Nat.not_lt_zero _)⟩)) _
  have init : ∀ n, n ≤ 12 → ∀ st : Nat → Int32, (∀ b, b < n → st b = if b = goal then 0 else -1) → ∀ u3 u4, Rw mX11_laysSteps X 2 [some (.ref i_M), some (.int (nI goal)), some (.int (nI n)), u3, u4] [] (wd (sA σ i_m_steps st) x) 0 0 := by
    refine up_loop 12 ?_ ?_
    · intro st hst u3 u4
      refine R_iload_n (i := 2) hC dX11_laysSteps_2 rfl rfl (R_bipush (v := 12) hC dX11_laysSteps_3 (by decide) ?_)
      refine R_icmp_ge hC 30 dX11_laysSteps_5 (by decide) (fun _ => ?_) (fun h => absurd (by decide) h)
      refine R_iconst (v := 0) hC dX11_laysSteps_30 (by decide) (R_istore_n (i := 2) hC dX11_laysSteps_31 rfl (by decide) rfl ?_)
      exact pass 0 (Nat.zero_le _) st (fun b hb => by
      rw [hst b hb]
      by_cases e : b = goal
      · rw [if_pos e]; exact Or.inl ⟨0, Nat.le_refl _, rfl, e, fun m hm => absurd hm (Nat.not_lt_zero _)⟩
      · rw [if_neg e]; exact Or.inr ⟨rfl, e⟩) _ _
    · intro n hn ih st hst u3 u4
      have em : (nI n = nI goal) ↔ n = goal := nI_eq (by omega) (by omega)
      refine R_iload_n (i := 2) hC dX11_laysSteps_2 rfl rfl (R_bipush (v := 12) hC dX11_laysSteps_3 (by decide) ?_)
      refine R_icmp_ge hC 30 dX11_laysSteps_5 (by decide) (fun h => absurd h (nI_ge (b := 12) hn (by decide))) (fun _ => ?_)
      refine R_aload_n (i := 0) hC dX11_laysSteps_8 rfl rfl (R_gR hC dX11_laysSteps_9 fl_X11_56 L_M rfl (R_iload_n (i := 2) hC dX11_laysSteps_12 rfl rfl (R_iload_n (i := 2) hC dX11_laysSteps_13 rfl rfl (R_iload_n (i := 1) hC dX11_laysSteps_14 rfl rfl ?_))))
      refine R_icmp_ne hC 22 dX11_laysSteps_15 (by decide) (fun h15 => ?_) (fun h15 => ?_)
      · refine R_iconst (v := (-1)) hC dX11_laysSteps_22 (by decide) (R_sI hC dX11_laysSteps_23 L_m_steps _ rfl (by omega) (by decide) ?_)
        refine R_wd (by rw [sA_eq, sA_sA]) ?_
        refine R_iinc hC dX11_laysSteps_24 rfl (inc1 _) (by decide) rfl (R_goto hC 2 dX11_laysSteps_27 (by decide) ?_)
        exact ih _ (fun b hb => by
        by_cases e : b = n
        · rw [upd, if_pos e, e]
          first
          | (rw [if_pos (em.mp h15)]; done)
          | (have h16 := h15; rw [if_neg (fun z => h16 (em.mpr z))]; done)
        · rw [upd, if_neg e]; exact hst b (by omega)) _ _
      · refine R_iconst (v := 0) hC dX11_laysSteps_18 (by decide) (R_goto hC 23 dX11_laysSteps_19 (by decide) (R_sI hC dX11_laysSteps_23 L_m_steps _ rfl (by omega) (by decide) ?_))
        refine R_wd (by rw [sA_eq, sA_sA]) ?_
        refine R_iinc hC dX11_laysSteps_24 rfl (inc1 _) (by decide) rfl (R_goto hC 2 dX11_laysSteps_27 (by decide) ?_)
        exact ih _ (fun b hb => by
        by_cases e : b = n
        · rw [upd, if_pos e, e]
          first
          | (rw [if_pos (em.mp h15)]; done)
          | (have h16 := h15; rw [if_neg (fun z => h16 (em.mpr z))]; done)
        · rw [upd, if_neg e]; exact hst b (by omega)) _ _
  refine R_iconst (v := 0) hC dX11_laysSteps_0 (by decide) (R_istore_n (i := 2) hC dX11_laysSteps_1 rfl (by decide) rfl ?_)
  (refine R_wd (sA_self σ i_m_steps).symm ?_; exact init 0 (Nat.zero_le _) _ (fun b hb => absurd hb (Nat.not_lt_zero _)) _ _)
