theorem dX11_bytesOf_0 : decode cX11_bytesOf 0 = .ok (.iconst 0, 1) := by decide +kernel
theorem dX11_bytesOf_1 : decode cX11_bytesOf 1 = .ok (.istore_n 1, 1) := by decide +kernel
theorem dX11_bytesOf_2 : decode cX11_bytesOf 2 = .ok (.iconst 0, 1) := by decide +kernel
theorem dX11_bytesOf_3 : decode cX11_bytesOf 3 = .ok (.istore_n 2, 1) := by decide +kernel
theorem dX11_bytesOf_4 : decode cX11_bytesOf 4 = .ok (.iload_n 2, 1) := by decide +kernel
theorem dX11_bytesOf_5 : decode cX11_bytesOf 5 = .ok (.iconst 4, 1) := by decide +kernel
theorem dX11_bytesOf_6 : decode cX11_bytesOf 6 = .ok (.if_icmp .ge 30, 3) := by decide +kernel
theorem dX11_bytesOf_9 : decode cX11_bytesOf 9 = .ok (.iload_n 1, 1) := by decide +kernel
theorem dX11_bytesOf_10 : decode cX11_bytesOf 10 = .ok (.iload_n 0, 1) := by decide +kernel
theorem dX11_bytesOf_11 : decode cX11_bytesOf 11 = .ok (.bipush 8, 2) := by decide +kernel
theorem dX11_bytesOf_13 : decode cX11_bytesOf 13 = .ok (.iload_n 2, 1) := by decide +kernel
theorem dX11_bytesOf_14 : decode cX11_bytesOf 14 = .ok (.imul, 1) := by decide +kernel
theorem dX11_bytesOf_15 : decode cX11_bytesOf 15 = .ok (.ishr, 1) := by decide +kernel
theorem dX11_bytesOf_16 : decode cX11_bytesOf 16 = .ok (.sipush 255, 3) := by decide +kernel
theorem dX11_bytesOf_19 : decode cX11_bytesOf 19 = .ok (.iand, 1) := by decide +kernel
theorem dX11_bytesOf_20 : decode cX11_bytesOf 20 = .ok (.ifCond .ne 7, 3) := by decide +kernel
theorem dX11_bytesOf_23 : decode cX11_bytesOf 23 = .ok (.iconst 0, 1) := by decide +kernel
theorem dX11_bytesOf_24 : decode cX11_bytesOf 24 = .ok (.goto 4, 3) := by decide +kernel
theorem dX11_bytesOf_27 : decode cX11_bytesOf 27 = .ok (.iconst 1, 1) := by decide +kernel
theorem dX11_bytesOf_28 : decode cX11_bytesOf 28 = .ok (.iadd, 1) := by decide +kernel
theorem dX11_bytesOf_29 : decode cX11_bytesOf 29 = .ok (.istore_n 1, 1) := by decide +kernel
theorem dX11_bytesOf_30 : decode cX11_bytesOf 30 = .ok (.iinc 2 1, 3) := by decide +kernel
theorem dX11_bytesOf_33 : decode cX11_bytesOf 33 = .ok (.goto (-29), 3) := by decide +kernel
theorem dX11_bytesOf_36 : decode cX11_bytesOf 36 = .ok (.iload_n 1, 1) := by decide +kernel
theorem dX11_bytesOf_37 : decode cX11_bytesOf 37 = .ok (.ireturn, 1) := by decide +kernel
theorem dX11_brings_0 : decode cX11_brings 0 = .ok (.bipush 24, 2) := by decide +kernel
theorem dX11_brings_2 : decode cX11_brings 2 = .ok (.istore_n 2, 1) := by decide +kernel
theorem dX11_brings_3 : decode cX11_brings 3 = .ok (.iload_n 2, 1) := by decide +kernel
theorem dX11_brings_4 : decode cX11_brings 4 = .ok (.ifCond .lt 45, 3) := by decide +kernel
theorem dX11_brings_7 : decode cX11_brings 7 = .ok (.iload_n 1, 1) := by decide +kernel
theorem dX11_brings_8 : decode cX11_brings 8 = .ok (.iload_n 2, 1) := by decide +kernel
theorem dX11_brings_9 : decode cX11_brings 9 = .ok (.ishr, 1) := by decide +kernel
theorem dX11_brings_10 : decode cX11_brings 10 = .ok (.sipush 255, 3) := by decide +kernel
theorem dX11_brings_13 : decode cX11_brings 13 = .ok (.iand, 1) := by decide +kernel
theorem dX11_brings_14 : decode cX11_brings 14 = .ok (.istore_n 3, 1) := by decide +kernel
theorem dX11_brings_15 : decode cX11_brings 15 = .ok (.iload_n 3, 1) := by decide +kernel
theorem dX11_brings_16 : decode cX11_brings 16 = .ok (.ifCond .ne 6, 3) := by decide +kernel
theorem dX11_brings_19 : decode cX11_brings 19 = .ok (.goto 24, 3) := by decide +kernel
theorem dX11_brings_22 : decode cX11_brings 22 = .ok (.aload_n 0, 1) := by decide +kernel
theorem dX11_brings_23 : decode cX11_brings 23 = .ok (.getfield 9, 3) := by decide +kernel
theorem dX11_brings_26 : decode cX11_brings 26 = .ok (.aload_n 0, 1) := by decide +kernel
theorem dX11_brings_27 : decode cX11_brings 27 = .ok (.getfield 87, 3) := by decide +kernel
theorem dX11_brings_30 : decode cX11_brings 30 = .ok (.iload_n 3, 1) := by decide +kernel
theorem dX11_brings_31 : decode cX11_brings 31 = .ok (.i2b, 1) := by decide +kernel
theorem dX11_brings_32 : decode cX11_brings 32 = .ok (.bastore, 1) := by decide +kernel
theorem dX11_brings_33 : decode cX11_brings 33 = .ok (.aload_n 0, 1) := by decide +kernel
theorem dX11_brings_34 : decode cX11_brings 34 = .ok (.dup, 1) := by decide +kernel
theorem dX11_brings_35 : decode cX11_brings 35 = .ok (.getfield 87, 3) := by decide +kernel
theorem dX11_brings_38 : decode cX11_brings 38 = .ok (.iconst 1, 1) := by decide +kernel
theorem dX11_brings_39 : decode cX11_brings 39 = .ok (.iadd, 1) := by decide +kernel
theorem dX11_brings_40 : decode cX11_brings 40 = .ok (.putfield 87, 3) := by decide +kernel
theorem dX11_brings_43 : decode cX11_brings 43 = .ok (.iinc 2 (-8), 3) := by decide +kernel
theorem dX11_brings_46 : decode cX11_brings 46 = .ok (.goto (-43), 3) := by decide +kernel
theorem dX11_brings_49 : decode cX11_brings 49 = .ok (.return_, 1) := by decide +kernel
theorem dX11_feed_0 : decode cX11_feed 0 = .ok (.aload_n 0, 1) := by decide +kernel
theorem dX11_feed_1 : decode cX11_feed 1 = .ok (.iconst 0, 1) := by decide +kernel
theorem dX11_feed_2 : decode cX11_feed 2 = .ok (.putfield 83, 3) := by decide +kernel
theorem dX11_feed_5 : decode cX11_feed 5 = .ok (.aload_n 0, 1) := by decide +kernel
theorem dX11_feed_6 : decode cX11_feed 6 = .ok (.getfield 87, 3) := by decide +kernel
theorem dX11_feed_9 : decode cX11_feed 9 = .ok (.iload_n 1, 1) := by decide +kernel
theorem dX11_feed_10 : decode cX11_feed 10 = .ok (.invokestatic 90, 3) := by decide +kernel
theorem dX11_feed_13 : decode cX11_feed 13 = .ok (.iadd, 1) := by decide +kernel
theorem dX11_feed_14 : decode cX11_feed 14 = .ok (.iload_n 2, 1) := by decide +kernel
theorem dX11_feed_15 : decode cX11_feed 15 = .ok (.invokestatic 90, 3) := by decide +kernel
theorem dX11_feed_18 : decode cX11_feed 18 = .ok (.iadd, 1) := by decide +kernel
theorem dX11_feed_19 : decode cX11_feed 19 = .ok (.iload_n 3, 1) := by decide +kernel
theorem dX11_feed_20 : decode cX11_feed 20 = .ok (.invokestatic 90, 3) := by decide +kernel
theorem dX11_feed_23 : decode cX11_feed 23 = .ok (.iadd, 1) := by decide +kernel
theorem dX11_feed_24 : decode cX11_feed 24 = .ok (.iload 4, 2) := by decide +kernel
theorem dX11_feed_26 : decode cX11_feed 26 = .ok (.invokestatic 90, 3) := by decide +kernel
theorem dX11_feed_29 : decode cX11_feed 29 = .ok (.iadd, 1) := by decide +kernel
theorem dX11_feed_30 : decode cX11_feed 30 = .ok (.iload 5, 2) := by decide +kernel
theorem dX11_feed_32 : decode cX11_feed 32 = .ok (.invokestatic 90, 3) := by decide +kernel
theorem dX11_feed_35 : decode cX11_feed 35 = .ok (.iadd, 1) := by decide +kernel
theorem dX11_feed_36 : decode cX11_feed 36 = .ok (.sipush 240, 3) := by decide +kernel
theorem dX11_feed_39 : decode cX11_feed 39 = .ok (.if_icmp .le 5, 3) := by decide +kernel
theorem dX11_feed_42 : decode cX11_feed 42 = .ok (.iconst (-1), 1) := by decide +kernel
theorem dX11_feed_43 : decode cX11_feed 43 = .ok (.ireturn, 1) := by decide +kernel
theorem dX11_feed_44 : decode cX11_feed 44 = .ok (.aload_n 0, 1) := by decide +kernel
theorem dX11_feed_45 : decode cX11_feed 45 = .ok (.iload_n 1, 1) := by decide +kernel
theorem dX11_feed_46 : decode cX11_feed 46 = .ok (.invokevirtual 94, 3) := by decide +kernel
theorem dX11_feed_49 : decode cX11_feed 49 = .ok (.aload_n 0, 1) := by decide +kernel
theorem dX11_feed_50 : decode cX11_feed 50 = .ok (.iload_n 2, 1) := by decide +kernel
theorem dX11_feed_51 : decode cX11_feed 51 = .ok (.invokevirtual 94, 3) := by decide +kernel
theorem dX11_feed_54 : decode cX11_feed 54 = .ok (.aload_n 0, 1) := by decide +kernel
theorem dX11_feed_55 : decode cX11_feed 55 = .ok (.iload_n 3, 1) := by decide +kernel
theorem dX11_feed_56 : decode cX11_feed 56 = .ok (.invokevirtual 94, 3) := by decide +kernel
theorem dX11_feed_59 : decode cX11_feed 59 = .ok (.aload_n 0, 1) := by decide +kernel
theorem dX11_feed_60 : decode cX11_feed 60 = .ok (.iload 4, 2) := by decide +kernel
theorem dX11_feed_62 : decode cX11_feed 62 = .ok (.invokevirtual 94, 3) := by decide +kernel
theorem dX11_feed_65 : decode cX11_feed 65 = .ok (.aload_n 0, 1) := by decide +kernel
theorem dX11_feed_66 : decode cX11_feed 66 = .ok (.iload 5, 2) := by decide +kernel
theorem dX11_feed_68 : decode cX11_feed 68 = .ok (.invokevirtual 94, 3) := by decide +kernel
theorem dX11_feed_71 : decode cX11_feed 71 = .ok (.aload_n 0, 1) := by decide +kernel
theorem dX11_feed_72 : decode cX11_feed 72 = .ok (.getfield 87, 3) := by decide +kernel
theorem dX11_feed_75 : decode cX11_feed 75 = .ok (.ireturn, 1) := by decide +kernel
/-! ===== feeding ===== -/
def bI (v : Int32) (k : Nat) : Int32 := (v >>> (nI (8 * k) &&& 31)) &&& 255
def bN (v : Int32) (k : Nat) : Nat := (bI v k).toNatClampNeg
theorem bN_e (v : Int32) (k : Nat) : bI v k = nI (bN v k) ∧ bN v k < 256 := by
  obtain ⟨j, hj, e⟩ := pk_andE (v >>> (nI (8 * k) &&& 31)) (m := 255) 8 (by decide)
  have e : bI v k = nI j := e
  unfold bN
  rw [e, nI_clamp (by omega)]
  exact ⟨rfl, by omega⟩
theorem bI_0 (v : Int32) (k : Nat) : bI v k = 0 ↔ bN v k = 0 := by
  rw [(bN_e v k).1]; exact nI_eq (b := 0) (by have := (bN_e v k).2; omega) (by decide)
def on1 (b : Nat) : Nat := if b = 0 then 0 else 1
/-- how many bytes of the first n, from the low end, are not 0 -/
def nbF (v : Int32) : Nat → Nat
  | 0 => 0
  | k + 1 => nbF v k + on1 (bN v k)
abbrev nb (v : Int32) : Nat := nbF v 4
theorem nbF_le (v : Int32) : ∀ k, nbF v k ≤ k
  | 0 => Nat.le_refl _
  | k + 1 => by have := nbF_le v k; rw [nbF, on1]; split <;> omega
theorem s_bytesOf (v : Int32) (w : aW) : Mt mX11_bytesOf 0 0 0 [.int v] w (QI (nI (nb v)) w) := by
  refine Mt.of MI_X11_bytesOf (Nat.le_of_ble_eq_true rfl) (fun X hC hR hT => ?_)
  have loop : ∀ k, k ≤ 4 → Rw mX11_bytesOf X 4 [some (.int v), some (.int (nI (nbF v k))), some (.int (nI k))] [] w 0 0 := by
    refine up_loop 4 ?_ ?_
    · refine R_iload_n (i := 2) hC dX11_bytesOf_4 rfl rfl (R_iconst (v := 4) hC dX11_bytesOf_5 (by decide) ?_)
      refine R_icmp_ge hC 36 dX11_bytesOf_6 (by decide) (fun _ => ?_) (fun h => absurd (by decide) h)
      refine R_iload_n (i := 1) hC dX11_bytesOf_36 rfl rfl ?_
      exact R_iret hC hT dX11_bytesOf_37 rfl ⟨rfl, rfl⟩
    · intro k hk ih
      by_cases e : bN v k = 0
      · rw [nbF, on1, if_pos e, Nat.add_zero] at ih
        refine R_iload_n (i := 2) hC dX11_bytesOf_4 rfl rfl (R_iconst (v := 4) hC dX11_bytesOf_5 (by decide) ?_)
        refine R_icmp_ge hC 36 dX11_bytesOf_6 (by decide) (fun h => absurd h (nI_ge (b := 4) hk (by decide))) (fun _ => ?_)
        refine R_iload_n (i := 1) hC dX11_bytesOf_9 rfl rfl (R_iload_n (i := 0) hC dX11_bytesOf_10 rfl rfl (R_bipush (v := 8) hC dX11_bytesOf_11 (by decide) (R_iload_n (i := 2) hC dX11_bytesOf_13 rfl rfl (R_imul hC dX11_bytesOf_14 ?_))))
        refine R_top (y := nI (8 * k)) (by rw [show (8 : Int32) = nI 8 from rfl, pk_mul]) ?_
        refine R_ishr hC dX11_bytesOf_15 (R_sipush (v := 255) hC dX11_bytesOf_16 (by decide) (R_iand hC dX11_bytesOf_19 ?_))
        refine R_top (y := bI v k) (rfl) ?_
        refine R_if_ne hC 27 dX11_bytesOf_20 (by decide) (fun h => absurd ((bI_0 v k).mpr e) h) (fun _ => ?_)
        refine R_iconst (v := 0) hC dX11_bytesOf_23 (by decide) (R_goto hC 28 dX11_bytesOf_24 (by decide) (R_iadd hC dX11_bytesOf_28 ?_))
        refine R_top (y := nI (nbF v k)) (Int32.add_zero _) ?_
        refine R_istore_n (i := 1) hC dX11_bytesOf_29 rfl (by decide) rfl (R_iinc hC dX11_bytesOf_30 rfl (inc1 _) (by decide) rfl (R_goto hC 4 dX11_bytesOf_33 (by decide) ?_))
        exact ih
      · rw [nbF, on1, if_neg e] at ih
        refine R_iload_n (i := 2) hC dX11_bytesOf_4 rfl rfl (R_iconst (v := 4) hC dX11_bytesOf_5 (by decide) ?_)
        refine R_icmp_ge hC 36 dX11_bytesOf_6 (by decide) (fun h => absurd h (nI_ge (b := 4) hk (by decide))) (fun _ => ?_)
        refine R_iload_n (i := 1) hC dX11_bytesOf_9 rfl rfl (R_iload_n (i := 0) hC dX11_bytesOf_10 rfl rfl (R_bipush (v := 8) hC dX11_bytesOf_11 (by decide) (R_iload_n (i := 2) hC dX11_bytesOf_13 rfl rfl (R_imul hC dX11_bytesOf_14 ?_))))
        refine R_top (y := nI (8 * k)) (by rw [show (8 : Int32) = nI 8 from rfl, pk_mul]) ?_
        refine R_ishr hC dX11_bytesOf_15 (R_sipush (v := 255) hC dX11_bytesOf_16 (by decide) (R_iand hC dX11_bytesOf_19 ?_))
        refine R_top (y := bI v k) (rfl) ?_
        refine R_if_ne hC 27 dX11_bytesOf_20 (by decide) (fun _ => ?_) (fun h => absurd h (fun z => e ((bI_0 v k).mp z)))
        refine R_iconst (v := 1) hC dX11_bytesOf_27 (by decide) (R_iadd hC dX11_bytesOf_28 ?_)
        refine R_top (y := nI (nbF v k + 1)) (nI_1 _) ?_
        refine R_istore_n (i := 1) hC dX11_bytesOf_29 rfl (by decide) rfl (R_iinc hC dX11_bytesOf_30 rfl (inc1 _) (by decide) rfl (R_goto hC 4 dX11_bytesOf_33 (by decide) ?_))
        exact ih
  refine R_iconst (v := 0) hC dX11_bytesOf_0 (by decide) (R_istore_n (i := 1) hC dX11_bytesOf_1 rfl (by decide) rfl (R_iconst (v := 0) hC dX11_bytesOf_2 (by decide) (R_istore_n (i := 2) hC dX11_bytesOf_3 rfl (by decide) rfl ?_)))
  exact loop 0 (Nat.zero_le _)
abbrev tap : Type := Nat × (Nat → Nat)
def push1 (t : tap) (b : Nat) : tap := if b = 0 then t else (t.1 + 1, fun i => if i = t.1 then b else t.2 i)
/-- the bytes of a word, the high end first: j of them -/
def pd (t : tap) (v : Int32) : Nat → tap
  | 0 => t
  | j + 1 => push1 (pd t v j) (bN v (3 - j))
theorem pd_1 (t : tap) (v : Int32) : (pd t v 4).1 = t.1 + nb v := by
  have p : ∀ (t : tap) b, (push1 t b).1 = t.1 + on1 b := fun t b => by unfold push1 on1; split <;> rfl
  show (push1 (push1 (push1 (push1 t (bN v 3)) (bN v 2)) (bN v 1)) (bN v 0)).1 = t.1 + (0 + on1 (bN v 0) + on1 (bN v 1) + on1 (bN v 2) + on1 (bN v 3))
  rw [p, p, p, p]; omega
theorem pd_le (t : tap) (v : Int32) : ∀ j, j ≤ 4 → (pd t v j).1 ≤ t.1 + nb v ∧ (bN v (3 - j) ≠ 0 → j < 4 → (pd t v j).1 < t.1 + nb v) := by
  have p : ∀ (t : tap) b, (push1 t b).1 = t.1 + on1 b := fun t b => by unfold push1 on1; split <;> rfl
  have e := pd_1 t v
  intro j hj
  have q1 : (pd t v 1).1 = t.1 + _ := p t (bN v 3)
  have q2 : (pd t v 2).1 = (pd t v 1).1 + _ := p _ (bN v 2)
  have q3 : (pd t v 3).1 = (pd t v 2).1 + _ := p _ (bN v 1)
  have q4 : (pd t v 4).1 = (pd t v 3).1 + _ := p _ (bN v 0)
  have q0 : (pd t v 0).1 = t.1 := rfl
  rcases (by omega : j = 0 ∨ j = 1 ∨ j = 2 ∨ j = 3 ∨ j = 4) with rfl | rfl | rfl | rfl | rfl
  · refine ⟨by omega, fun z _ => ?_⟩; rw [on1, if_neg z] at q1; omega
  · refine ⟨by omega, fun z _ => ?_⟩; rw [on1, if_neg z] at q2; omega
  · refine ⟨by omega, fun z _ => ?_⟩; rw [on1, if_neg z] at q3; omega
  · refine ⟨by omega, fun z _ => ?_⟩; rw [on1, if_neg z] at q4; omega
  · exact ⟨by omega, fun _ z => by omega⟩
def shF (j : Nat) : Int32 := (24 : Int32) - nI (8 * j)
theorem shF_ok : ∀ j, j < 4 → ¬ shF j < 0 ∧ shF j = nI (8 * (3 - j)) ∧ shF j + Int32.ofInt (-8) = shF (j + 1) := by decide +kernel
theorem shF_4 : shF 4 < 0 := by decide
theorem byte_rt : ∀ b, b < 256 → (vp_nar .byte (nI b).toInt8.toInt32) &&& 255 = nI b := by decide +kernel
theorem MInv.tape {σ : sg} {α : aS} (h : MInv σ α) (hl : (tp α).1 < 240) {b : Nat} (hb : b < 256) (h0 : b ≠ 0) : MInv (sG (sA σ i_m_tape (upd (σ.2.2 i_m_tape) (tp α).1 (vp_nar .byte (nI b).toInt8.toInt32))) i_M 2 (nI ((tp α).1 + 1))) (push1 (tp α) b, α.2) := by
  obtain ⟨⟨q1, q2⟩, q3, q4, q5, q6, q7, q8⟩ := h
  have e : push1 (tp α) b = ((tp α).1 + 1, fun i => if i = (tp α).1 then b else (tp α).2 i) := if_neg h0
  have n12 : ∀ k, k ≠ 2 → (sG (sA σ i_m_tape (upd (σ.2.2 i_m_tape) (tp α).1 (vp_nar .byte (nI b).toInt8.toInt32))) i_M 2 (nI ((tp α).1 + 1))).1 i_M k = σ.1 i_M k := fun k hk => sG_nk hk
  refine ⟨⟨?_, fun i hi => ?_⟩, ?_, ?_, ?_, ?_, ?_, ?_⟩
  · rw [sG_eq]; show _ = nI (push1 (tp α) b).1; rw [e]
  · have hi : i < (push1 (tp α) b).1 := hi
    show (sA σ i_m_tape _).2.2 i_m_tape i &&& 255 = nI ((push1 (tp α) b).2 i)
    rw [sA_eq, e]
    rw [e] at hi
    have hi : i < (tp α).1 + 1 := hi
    show upd (σ.2.2 i_m_tape) (tp α).1 _ i &&& 255 = nI (if i = (tp α).1 then b else (tp α).2 i)
    by_cases z : i = (tp α).1
    · rw [upd, if_pos z, if_pos z]; exact byte_rt b hb
    · rw [upd, if_neg z, if_neg z]; exact q2 i (by omega)
  · exact q3
  · rw [n12 _ (by decide)]; exact q4
  · rw [n12 _ (by decide)]; exact q5
  · rw [n12 _ (by decide)]; exact q6
  · exact q7
  · rw [n12 _ (by decide), n12 _ (by decide)]; exact q8
theorem s_brings {σ : sg} {x : aW} {α : aS} {ω : sg} (hz : MZ σ ω α) (v : Int32) (hl : (tp α).1 + nb v ≤ 240) :
    Mt mX11_brings 0 0 0 [.ref i_M, .int v] (wd ω x) (fun q w => q = none ∧ ∃ τ, w = wd τ x ∧ MZ σ τ (pd (tp α) v 4, α.2)) := by
  refine Mt.of MI_X11_brings (Nat.le_of_ble_eq_true rfl) (fun X hC hR hT => ?_)
  have loop : ∀ j, j ≤ 4 → ∀ τ, MZ σ τ (pd (tp α) v j, α.2) → ∀ u3, Rw mX11_brings X 3 [some (.ref i_M), some (.int v), some (.int (shF j)), u3] [] (wd τ x) 0 0 := by
    refine up_loop 4 ?_ ?_
    · intro τ hz u3
      refine R_iload_n (i := 2) hC dX11_brings_3 rfl rfl ?_
      refine R_if_lt hC 49 dX11_brings_4 (by decide) (fun _ => ?_) (fun h => absurd shF_4 h)
      exact R_vret hC hT dX11_brings_49 rfl ⟨rfl, τ, rfl, hz⟩
    · intro j hj ih τ hz u3
      obtain ⟨s1, s2, s3⟩ := shF_ok j hj
      obtain ⟨b1, b2⟩ := bN_e v (3 - j)
      by_cases e : bN v (3 - j) = 0
      · have e2 : pd (tp α) v (j + 1) = pd (tp α) v j := by rw [pd, push1, if_pos e]
        rw [e2] at ih
        refine R_iload_n (i := 2) hC dX11_brings_3 rfl rfl ?_
        refine R_if_lt hC 49 dX11_brings_4 (by decide) (fun h => absurd h s1) (fun _ => ?_)
        refine R_iload_n (i := 1) hC dX11_brings_7 rfl rfl (R_iload_n (i := 2) hC dX11_brings_8 rfl rfl ?_)
        refine R_top (y := nI (8 * (3 - j))) (s2) ?_
        refine R_ishr hC dX11_brings_9 (R_sipush (v := 255) hC dX11_brings_10 (by decide) (R_iand hC dX11_brings_13 ?_))
        refine R_top (y := bI v (3 - j)) (rfl) ?_
        refine R_istore_n (i := 3) hC dX11_brings_14 rfl (by decide) rfl (R_iload_n (i := 3) hC dX11_brings_15 rfl rfl ?_)
        refine R_if_ne hC 22 dX11_brings_16 (by decide) (fun h => absurd ((bI_0 _ _).mpr e) h) (fun _ => ?_)
        refine R_goto hC 43 dX11_brings_19 (by decide) (R_iinc hC dX11_brings_43 rfl s3 (by decide) rfl (R_goto hC 3 dX11_brings_46 (by decide) ?_))
        exact ih τ hz _
      · have hp := (pd_le (tp α) v j (by omega)).2 e hj
        have len : τ.1 i_M 2 = nI (pd (tp α) v j).1 := hz.1.1.1
        have hz2 : MZ σ (sG (sA τ i_m_tape (upd (τ.2.2 i_m_tape) (pd (tp α) v j).1 (vp_nar .byte (nI (bN v (3 - j))).toInt8.toInt32))) i_M 2 (nI ((pd (tp α) v j).1 + 1))) (pd (tp α) v (j + 1), α.2) := ⟨hz.1.tape (α := (pd (tp α) v j, α.2)) (by show (pd (tp α) v j).1 < 240; omega) b2 e, (hz.2.a (by decide)).g (Nat.le_refl _)⟩
        refine R_iload_n (i := 2) hC dX11_brings_3 rfl rfl ?_
        refine R_if_lt hC 49 dX11_brings_4 (by decide) (fun h => absurd h s1) (fun _ => ?_)
        refine R_iload_n (i := 1) hC dX11_brings_7 rfl rfl (R_iload_n (i := 2) hC dX11_brings_8 rfl rfl ?_)
        refine R_top (y := nI (8 * (3 - j))) (s2) ?_
        refine R_ishr hC dX11_brings_9 (R_sipush (v := 255) hC dX11_brings_10 (by decide) (R_iand hC dX11_brings_13 ?_))
        refine R_top (y := nI (bN v (3 - j))) (b1) ?_
        refine R_istore_n (i := 3) hC dX11_brings_14 rfl (by decide) rfl (R_iload_n (i := 3) hC dX11_brings_15 rfl rfl ?_)
        refine R_if_ne hC 22 dX11_brings_16 (by decide) (fun _ => ?_) (fun h => absurd h (fun z => e ((bI_0 _ _).mp (b1.trans z))))
        refine R_aload_n (i := 0) hC dX11_brings_22 rfl rfl (R_gR hC dX11_brings_23 fl_X11_9 L_M rfl (R_aload_n (i := 0) hC dX11_brings_26 rfl rfl (R_gI hC dX11_brings_27 fl_X11_87 L_M rfl ?_)))
        refine R_top (y := nI (pd (tp α) v j).1) (len) ?_
        refine R_iload_n (i := 3) hC dX11_brings_30 rfl rfl (R_i2b hC dX11_brings_31 (R_sB hC dX11_brings_32 L_m_tape (pd (tp α) v j).1 rfl (by omega) (by decide) (R_aload_n (i := 0) hC dX11_brings_33 rfl rfl (R_dup hC dX11_brings_34 rfl (R_gI hC dX11_brings_35 fl_X11_87 L_M rfl ?_)))))
        refine R_top (y := nI (pd (tp α) v j).1) (len) ?_
        refine R_iconst (v := 1) hC dX11_brings_38 (by decide) (R_iadd hC dX11_brings_39 ?_)
        refine R_top (y := nI ((pd (tp α) v j).1 + 1)) (nI_1 _) ?_
        refine R_pI hC dX11_brings_40 fl_X11_87 L_M rfl (R_iinc hC dX11_brings_43 rfl s3 (by decide) rfl (R_goto hC 3 dX11_brings_46 (by decide) ?_))
        exact ih _ hz2 _
  refine R_bipush (v := 24) hC dX11_brings_0 (by decide) ?_
  refine R_top (y := shF 0) (by decide) ?_
  refine R_istore_n (i := 2) hC dX11_brings_2 rfl (by decide) rfl ?_
  exact loop 0 (Nat.zero_le _) ω hz _
def opFeed (α : aS) (a b c d e : Int32) : Int32 × aS := if (tp α).1 + nb a + nb b + nb c + nb d + nb e > 240 then (-1, α) else
  (nI ((tp α).1 + nb a + nb b + nb c + nb d + nb e), (pd (pd (pd (pd (pd (tp α) a 4) b 4) c 4) d 4) e 4, α.2))
theorem mo_feed {σ : sg} {x : aW} {α : aS} (h : MInv σ α) (ok : aOK α) (a b c d e : Int32) : Mt mX11_feed 1 0 0 [.ref i_M, .int a, .int b, .int c, .int d, .int e] (wd σ x) (MPost σ x (opFeed α a b c d e).1 (opFeed α a b c d e).2) := by
  refine Mt.of MI_X11_feed (Nat.le_of_ble_eq_true rfl) (fun X hC hR hT => ?_)
  have hω := MZ.of h
  have l0 := ok.1
  have la : nb a ≤ 4 := nbF_le a 4
  have lb : nb b ≤ 4 := nbF_le b 4
  have lc : nb c ≤ 4 := nbF_le c 4
  have ld : nb d ≤ 4 := nbF_le d 4
  have le : nb e ≤ 4 := nbF_le e 4
  have len : ∀ τ β, MZ σ τ β → τ.1 i_M 2 = nI (tp β).1 := fun τ β h => h.1.1.1
  have em : (nI ((tp α).1 + nb a + nb b + nb c + nb d + nb e) ≤ (240 : Int32)) ↔ (tp α).1 + nb a + nb b + nb c + nb d + nb e ≤ 240 := nI_leI (b := 240) (by omega) (by decide)
  refine R_aload_n (i := 0) hC dX11_feed_0 rfl rfl (R_iconst (v := 0) hC dX11_feed_1 (by decide) (R_pI hC dX11_feed_2 fl_X11_83 L_M rfl (R_aload_n (i := 0) hC dX11_feed_5 rfl rfl (R_gI hC dX11_feed_6 fl_X11_87 L_M rfl ?_))))
  refine R_top (y := nI (tp α).1) (len _ _ hω) ?_
  refine R_iload_n (i := 1) hC dX11_feed_9 rfl rfl ?_
  refine R_S1i hC hR dX11_feed_10 MS_X11_bytesOf ml_X11_90 (s_bytesOf a _) (by first | decide | omega) ⟨by decide, by decide⟩ (Nat.le_of_ble_eq_true rfl) ?_
  refine R_iadd hC dX11_feed_13 ?_
  refine R_top (y := nI ((tp α).1 + nb a)) (nI_add _ _) ?_
  refine R_iload_n (i := 2) hC dX11_feed_14 rfl rfl ?_
  refine R_S1i hC hR dX11_feed_15 MS_X11_bytesOf ml_X11_90 (s_bytesOf b _) (by first | decide | omega) ⟨by decide, by decide⟩ (Nat.le_of_ble_eq_true rfl) ?_
  refine R_iadd hC dX11_feed_18 ?_
  refine R_top (y := nI ((tp α).1 + nb a + nb b)) (nI_add _ _) ?_
  refine R_iload_n (i := 3) hC dX11_feed_19 rfl rfl ?_
  refine R_S1i hC hR dX11_feed_20 MS_X11_bytesOf ml_X11_90 (s_bytesOf c _) (by first | decide | omega) ⟨by decide, by decide⟩ (Nat.le_of_ble_eq_true rfl) ?_
  refine R_iadd hC dX11_feed_23 ?_
  refine R_top (y := nI ((tp α).1 + nb a + nb b + nb c)) (nI_add _ _) ?_
  refine R_iload hC dX11_feed_24 rfl ?_
  refine R_S1i hC hR dX11_feed_26 MS_X11_bytesOf ml_X11_90 (s_bytesOf d _) (by first | decide | omega) ⟨by decide, by decide⟩ (Nat.le_of_ble_eq_true rfl) ?_
  refine R_iadd hC dX11_feed_29 ?_
  refine R_top (y := nI ((tp α).1 + nb a + nb b + nb c + nb d)) (nI_add _ _) ?_
  refine R_iload hC dX11_feed_30 rfl ?_
  refine R_S1i hC hR dX11_feed_32 MS_X11_bytesOf ml_X11_90 (s_bytesOf e _) (by first | decide | omega) ⟨by decide, by decide⟩ (Nat.le_of_ble_eq_true rfl) ?_
  refine R_iadd hC dX11_feed_35 ?_
  refine R_top (y := nI ((tp α).1 + nb a + nb b + nb c + nb d + nb e)) (nI_add _ _) ?_
  refine R_sipush (v := 240) hC dX11_feed_36 (by decide) ?_
  refine R_icmp_le hC 44 dX11_feed_39 (by decide) (fun h39 => ?_) (fun h39 => ?_)
  · have q := em.mp h39
    have ev : opFeed α a b c d e = (nI ((tp α).1 + nb a + nb b + nb c + nb d + nb e), (pd (pd (pd (pd (pd (tp α) a 4) b 4) c 4) d 4) e 4, α.2)) := if_neg (by omega)
    refine R_aload_n (i := 0) hC dX11_feed_44 rfl rfl (R_iload_n (i := 1) hC dX11_feed_45 rfl rfl ?_)
    refine R_V1g hC hR dX11_feed_46 MV_X11_brings ml_X11_94 L_M rfl (s_brings hω a (by omega)) (by first | decide | omega) ⟨by decide, by decide⟩ (Nat.le_of_ble_eq_true rfl) (fun r w1 hq => ?_)
    obtain ⟨rfl, τ1, rfl, z1⟩ := hq
    have p1 := pd_1 (tp α) a
    refine R_aload_n (i := 0) hC dX11_feed_49 rfl rfl (R_iload_n (i := 2) hC dX11_feed_50 rfl rfl ?_)
    refine R_V1g hC hR dX11_feed_51 MV_X11_brings ml_X11_94 L_M rfl (s_brings z1 b (by show (pd (tp α) a 4).1 + nb b ≤ 240; omega)) (by first | decide | omega) ⟨by decide, by decide⟩ (Nat.le_of_ble_eq_true rfl) (fun r w1 hq => ?_)
    obtain ⟨rfl, τ2, rfl, z2⟩ := hq
    have p2 := pd_1 (pd (tp α) a 4) b
    refine R_aload_n (i := 0) hC dX11_feed_54 rfl rfl (R_iload_n (i := 3) hC dX11_feed_55 rfl rfl ?_)
    refine R_V1g hC hR dX11_feed_56 MV_X11_brings ml_X11_94 L_M rfl (s_brings z2 c (by show (pd (pd (tp α) a 4) b 4).1 + nb c ≤ 240; omega)) (by first | decide | omega) ⟨by decide, by decide⟩ (Nat.le_of_ble_eq_true rfl) (fun r w1 hq => ?_)
    obtain ⟨rfl, τ3, rfl, z3⟩ := hq
    have p3 := pd_1 (pd (pd (tp α) a 4) b 4) c
    refine R_aload_n (i := 0) hC dX11_feed_59 rfl rfl (R_iload hC dX11_feed_60 rfl ?_)
    refine R_V1g hC hR dX11_feed_62 MV_X11_brings ml_X11_94 L_M rfl (s_brings z3 d (by show (pd (pd (pd (tp α) a 4) b 4) c 4).1 + nb d ≤ 240; omega)) (by first | decide | omega) ⟨by decide, by decide⟩ (Nat.le_of_ble_eq_true rfl) (fun r w1 hq => ?_)
    obtain ⟨rfl, τ4, rfl, z4⟩ := hq
    have p4 := pd_1 (pd (pd (pd (tp α) a 4) b 4) c 4) d
    refine R_aload_n (i := 0) hC dX11_feed_65 rfl rfl (R_iload hC dX11_feed_66 rfl ?_)
    refine R_V1g hC hR dX11_feed_68 MV_X11_brings ml_X11_94 L_M rfl (s_brings z4 e (by show (pd (pd (pd (pd (tp α) a 4) b 4) c 4) d 4).1 + nb e ≤ 240; omega)) (by first | decide | omega) ⟨by decide, by decide⟩ (Nat.le_of_ble_eq_true rfl) (fun r w1 hq => ?_)
    obtain ⟨rfl, τ5, rfl, z5⟩ := hq
    have p5 := pd_1 (pd (pd (pd (pd (tp α) a 4) b 4) c 4) d 4) e
    refine R_aload_n (i := 0) hC dX11_feed_71 rfl rfl (R_gI hC dX11_feed_72 fl_X11_87 L_M rfl ?_)
    exact R_iret hC hT dX11_feed_75 rfl (by rw [ev, len τ5 _ z5]; show MPost σ x _ _ (some (.int (nI (pd (pd (pd (pd (pd (tp α) a 4) b 4) c 4) d 4) e 4).1))) _; rw [p5, p4, p3, p2, p1]; exact z5.p)
  · refine R_iconst (v := (-1)) hC dX11_feed_42 (by decide) ?_
    exact R_iret hC hT dX11_feed_43 rfl (by have q := mt em.mpr h39; have ev : opFeed α a b c d e = (-1, α) := if_pos (by omega); rw [ev]; exact hω.p)
