theorem tbOK_doA {T : tb} (ok : tbOK T) {k : Nat} {a b : Int32} (h : stopZ T k a b = -1) : tbOK (doA k a.toNatClampNeg b.toNatClampNeg T) := by
  obtain ⟨h0, hk, o1, o2, o3, o4, o5, o6, o7⟩ := stopZ_ok h
  obtain ⟨b1, b2, b3, b4⟩ := ok
  match k, hk with
  | 0, _ =>
    refine ⟨b1, b2, b3, fun i j hi hj => ?_⟩
    show sml (if i = a.toNatClampNeg then -(T.2.2 i j) else T.2.2 i j)
    split
    · exact sml_neg (b4 i j hi hj)
    · exact b4 i j hi hj
  | 1, _ =>
    refine ⟨b1, b2, b3, fun i j hi hj => ?_⟩
    show sml (if j = a.toNatClampNeg then -(T.2.2 i j) else T.2.2 i j)
    split
    · exact sml_neg (b4 i j hi hj)
    · exact b4 i j hi hj
  | 2, _ =>
    obtain ⟨u1, u2, u3⟩ := o3 rfl
    obtain ⟨p, rfl, hp, hp2⟩ := inR_i u1
    obtain ⟨q, rfl, hq, hq2⟩ := inR_i u2
    rw [nI_clamp hp2, nI_clamp hq2]
    refine ⟨b1, b2, b3, fun i j hi hj => ?_⟩
    show sml (if i = p then T.2.2 q j else if i = q then T.2.2 p j else T.2.2 i j)
    split
    · exact b4 q j hq hj
    · split
      · exact b4 p j hp hj
      · exact b4 i j hi hj
  | 3, _ =>
    obtain ⟨u1, u2, u3⟩ := o4 rfl
    obtain ⟨p, rfl, hp, hp2⟩ := inR_i u1
    obtain ⟨q, rfl, hq, hq2⟩ := inR_i u2
    rw [nI_clamp hp2, nI_clamp hq2]
    refine ⟨b1, b2, b3, fun i j hi hj => ?_⟩
    show sml (if j = p then T.2.2 i q else if j = q then T.2.2 i p else T.2.2 i j)
    split
    · exact b4 i q hi hq
    · split
      · exact b4 i p hi hp
      · exact b4 i j hi hj
  | 4, _ => exact ⟨b1, b2, b3, (o5 rfl).2.2.2⟩
  | 5, _ => exact ⟨b2, b1, b3.symm, fun i j hi hj => b4 j i hj hi⟩
  | 6, _ =>
    have h1 := o6 rfl
    refine ⟨?_, b2, ?_, fun i j hi hj => ?_⟩
    · show T.1 - 1 ≤ 6; omega
    · show T.1 - 1 = 0 ↔ T.2.1 = 0; omega
    · have hi : i < T.1 - 1 := hi
      show sml (if i < a.toNatClampNeg then T.2.2 i j else T.2.2 (i + 1) j)
      split
      · exact b4 i j (by omega) hj
      · exact b4 (i + 1) j (by omega) hj
  | 7, _ =>
    have h1 := o7 rfl
    refine ⟨b1, ?_, ?_, fun i j hi hj => ?_⟩
    · show T.2.1 - 1 ≤ 6; omega
    · show T.1 = 0 ↔ T.2.1 - 1 = 0; omega
    · have hj : j < T.2.1 - 1 := hj
      show sml (if j < a.toNatClampNeg then T.2.2 i j else T.2.2 i (j + 1))
      split
      · exact b4 i j hi (by omega)
      · exact b4 i (j + 1) hi (by omega)
/-- a step can be; what it makes of a table -/
def stepCan (T : tb) (s : Nat → Int32) : Prop := (∃ k : Nat, k < 6 ∧ s 0 = nI k ∧ stopZ T k (s 1) (s 2) = -1) ∨ (s 0 = nI 6 ∧ inR T.1 (s 1) ∧ inR T.2.1 (s 2) ∧ ¬ T.2.2 (s 1).toNatClampNeg (s 2).toNatClampNeg = s 3)
def tset (T : tb) (a b : Nat) (v : Int32) : tb := (T.1, T.2.1, fun i j => if i = a ∧ j = b then v else T.2.2 i j)
def stepA (T : tb) (s : Nat → Int32) : tb := if s 0 = nI 6 then tset T (s 1).toNatClampNeg (s 2).toNatClampNeg (s 3) else doA (s 0).toNatClampNeg (s 1).toNatClampNeg (s 2).toNatClampNeg T
theorem tbOK_tset {T : tb} (ok : tbOK T) (a b : Nat) {v : Int32} (hv : sml v) : tbOK (tset T a b v) := by
  obtain ⟨b1, b2, b3, b4⟩ := ok
  refine ⟨b1, b2, b3, fun i j hi hj => ?_⟩
  show sml (if i = a ∧ j = b then v else T.2.2 i j)
  split
  · exact hv
  · exact b4 i j hi hj
theorem nI_ne {a b : Nat} (ha : a < 2 ^ 31) (hb : b < 2 ^ 31) (h : a ≠ b) : ¬ nI a = nI b := fun q => h ((nI_eq ha hb).mp q)
theorem tbOK_step {T : tb} (ok : tbOK T) {s : Nat → Int32} (hs : stepOK s) (h : stepCan T s) : tbOK (stepA T s) := by
  unfold stepA
  rcases h with ⟨k, hk, e, h⟩ | ⟨e, -⟩
  · rw [if_neg (by rw [e]; exact nI_ne (by omega) (by omega) (by omega)), e, nI_clamp (by omega)]
    exact tbOK_doA ok h
  · rw [if_pos e]
    obtain ⟨k, hk, e2, -, -, h6⟩ := hs
    have : k = 6 := (nI_eq (by omega) (by decide)).mp (e2.symm.trans e)
    exact tbOK_tset ok _ _ (h6 this)
theorem dX11_canStep_0 : decode cX11_canStep 0 = .ok (.aload_n 0, 1) := by decide +kernel
theorem dX11_canStep_1 : decode cX11_canStep 1 = .ok (.getfield 26, 3) := by decide +kernel
theorem dX11_canStep_4 : decode cX11_canStep 4 = .ok (.iload_n 2, 1) := by decide +kernel
theorem dX11_canStep_5 : decode cX11_canStep 5 = .ok (.iaload, 1) := by decide +kernel
theorem dX11_canStep_6 : decode cX11_canStep 6 = .ok (.bipush 6, 2) := by decide +kernel
theorem dX11_canStep_8 : decode cX11_canStep 8 = .ok (.if_icmp .ge 40, 3) := by decide +kernel
theorem dX11_canStep_11 : decode cX11_canStep 11 = .ok (.aload_n 0, 1) := by decide +kernel
theorem dX11_canStep_12 : decode cX11_canStep 12 = .ok (.aload_n 1, 1) := by decide +kernel
theorem dX11_canStep_13 : decode cX11_canStep 13 = .ok (.aload_n 0, 1) := by decide +kernel
theorem dX11_canStep_14 : decode cX11_canStep 14 = .ok (.getfield 26, 3) := by decide +kernel
theorem dX11_canStep_17 : decode cX11_canStep 17 = .ok (.iload_n 2, 1) := by decide +kernel
theorem dX11_canStep_18 : decode cX11_canStep 18 = .ok (.iaload, 1) := by decide +kernel
theorem dX11_canStep_19 : decode cX11_canStep 19 = .ok (.aload_n 0, 1) := by decide +kernel
theorem dX11_canStep_20 : decode cX11_canStep 20 = .ok (.getfield 26, 3) := by decide +kernel
theorem dX11_canStep_23 : decode cX11_canStep 23 = .ok (.iload_n 2, 1) := by decide +kernel
theorem dX11_canStep_24 : decode cX11_canStep 24 = .ok (.iconst 1, 1) := by decide +kernel
theorem dX11_canStep_25 : decode cX11_canStep 25 = .ok (.iadd, 1) := by decide +kernel
theorem dX11_canStep_26 : decode cX11_canStep 26 = .ok (.iaload, 1) := by decide +kernel
theorem dX11_canStep_27 : decode cX11_canStep 27 = .ok (.aload_n 0, 1) := by decide +kernel
theorem dX11_canStep_28 : decode cX11_canStep 28 = .ok (.getfield 26, 3) := by decide +kernel
theorem dX11_canStep_31 : decode cX11_canStep 31 = .ok (.iload_n 2, 1) := by decide +kernel
theorem dX11_canStep_32 : decode cX11_canStep 32 = .ok (.iconst 2, 1) := by decide +kernel
theorem dX11_canStep_33 : decode cX11_canStep 33 = .ok (.iadd, 1) := by decide +kernel
theorem dX11_canStep_34 : decode cX11_canStep 34 = .ok (.iaload, 1) := by decide +kernel
theorem dX11_canStep_35 : decode cX11_canStep 35 = .ok (.invokevirtual 181, 3) := by decide +kernel
theorem dX11_canStep_38 : decode cX11_canStep 38 = .ok (.iconst (-1), 1) := by decide +kernel
theorem dX11_canStep_39 : decode cX11_canStep 39 = .ok (.if_icmp .ne 7, 3) := by decide +kernel
theorem dX11_canStep_42 : decode cX11_canStep 42 = .ok (.iconst 1, 1) := by decide +kernel
theorem dX11_canStep_43 : decode cX11_canStep 43 = .ok (.goto 4, 3) := by decide +kernel
theorem dX11_canStep_46 : decode cX11_canStep 46 = .ok (.iconst 0, 1) := by decide +kernel
theorem dX11_canStep_47 : decode cX11_canStep 47 = .ok (.ireturn, 1) := by decide +kernel
theorem dX11_canStep_48 : decode cX11_canStep 48 = .ok (.aload_n 0, 1) := by decide +kernel
theorem dX11_canStep_49 : decode cX11_canStep 49 = .ok (.aload_n 1, 1) := by decide +kernel
theorem dX11_canStep_50 : decode cX11_canStep 50 = .ok (.aload_n 0, 1) := by decide +kernel
theorem dX11_canStep_51 : decode cX11_canStep 51 = .ok (.getfield 26, 3) := by decide +kernel
theorem dX11_canStep_54 : decode cX11_canStep 54 = .ok (.iload_n 2, 1) := by decide +kernel
theorem dX11_canStep_55 : decode cX11_canStep 55 = .ok (.iconst 1, 1) := by decide +kernel
theorem dX11_canStep_56 : decode cX11_canStep 56 = .ok (.iadd, 1) := by decide +kernel
theorem dX11_canStep_57 : decode cX11_canStep 57 = .ok (.iaload, 1) := by decide +kernel
theorem dX11_canStep_58 : decode cX11_canStep 58 = .ok (.aload_n 0, 1) := by decide +kernel
theorem dX11_canStep_59 : decode cX11_canStep 59 = .ok (.getfield 26, 3) := by decide +kernel
theorem dX11_canStep_62 : decode cX11_canStep 62 = .ok (.iload_n 2, 1) := by decide +kernel
theorem dX11_canStep_63 : decode cX11_canStep 63 = .ok (.iconst 2, 1) := by decide +kernel
theorem dX11_canStep_64 : decode cX11_canStep 64 = .ok (.iadd, 1) := by decide +kernel
theorem dX11_canStep_65 : decode cX11_canStep 65 = .ok (.iaload, 1) := by decide +kernel
theorem dX11_canStep_66 : decode cX11_canStep 66 = .ok (.invokevirtual 158, 3) := by decide +kernel
theorem dX11_canStep_69 : decode cX11_canStep 69 = .ok (.ifCond .eq 40, 3) := by decide +kernel
theorem dX11_canStep_72 : decode cX11_canStep 72 = .ok (.aload_n 1, 1) := by decide +kernel
theorem dX11_canStep_73 : decode cX11_canStep 73 = .ok (.bipush 6, 2) := by decide +kernel
theorem dX11_canStep_75 : decode cX11_canStep 75 = .ok (.aload_n 0, 1) := by decide +kernel
theorem dX11_canStep_76 : decode cX11_canStep 76 = .ok (.getfield 26, 3) := by decide +kernel
theorem dX11_canStep_79 : decode cX11_canStep 79 = .ok (.iload_n 2, 1) := by decide +kernel
theorem dX11_canStep_80 : decode cX11_canStep 80 = .ok (.iconst 1, 1) := by decide +kernel
theorem dX11_canStep_81 : decode cX11_canStep 81 = .ok (.iadd, 1) := by decide +kernel
theorem dX11_canStep_82 : decode cX11_canStep 82 = .ok (.iaload, 1) := by decide +kernel
theorem dX11_canStep_83 : decode cX11_canStep 83 = .ok (.imul, 1) := by decide +kernel
theorem dX11_canStep_84 : decode cX11_canStep 84 = .ok (.aload_n 0, 1) := by decide +kernel
theorem dX11_canStep_85 : decode cX11_canStep 85 = .ok (.getfield 26, 3) := by decide +kernel
theorem dX11_canStep_88 : decode cX11_canStep 88 = .ok (.iload_n 2, 1) := by decide +kernel
theorem dX11_canStep_89 : decode cX11_canStep 89 = .ok (.iconst 2, 1) := by decide +kernel
theorem dX11_canStep_90 : decode cX11_canStep 90 = .ok (.iadd, 1) := by decide +kernel
theorem dX11_canStep_91 : decode cX11_canStep 91 = .ok (.iaload, 1) := by decide +kernel
theorem dX11_canStep_92 : decode cX11_canStep 92 = .ok (.iadd, 1) := by decide +kernel
theorem dX11_canStep_93 : decode cX11_canStep 93 = .ok (.iaload, 1) := by decide +kernel
theorem dX11_canStep_94 : decode cX11_canStep 94 = .ok (.aload_n 0, 1) := by decide +kernel
theorem dX11_canStep_95 : decode cX11_canStep 95 = .ok (.getfield 26, 3) := by decide +kernel
theorem dX11_canStep_98 : decode cX11_canStep 98 = .ok (.iload_n 2, 1) := by decide +kernel
theorem dX11_canStep_99 : decode cX11_canStep 99 = .ok (.iconst 3, 1) := by decide +kernel
theorem dX11_canStep_100 : decode cX11_canStep 100 = .ok (.iadd, 1) := by decide +kernel
theorem dX11_canStep_101 : decode cX11_canStep 101 = .ok (.iaload, 1) := by decide +kernel
theorem dX11_canStep_102 : decode cX11_canStep 102 = .ok (.if_icmp .eq 7, 3) := by decide +kernel
theorem dX11_canStep_105 : decode cX11_canStep 105 = .ok (.iconst 1, 1) := by decide +kernel
theorem dX11_canStep_106 : decode cX11_canStep 106 = .ok (.goto 4, 3) := by decide +kernel
theorem dX11_canStep_109 : decode cX11_canStep 109 = .ok (.iconst 0, 1) := by decide +kernel
theorem dX11_canStep_110 : decode cX11_canStep 110 = .ok (.ireturn, 1) := by decide +kernel
theorem dX11_doesStep_0 : decode cX11_doesStep 0 = .ok (.aload_n 0, 1) := by decide +kernel
theorem dX11_doesStep_1 : decode cX11_doesStep 1 = .ok (.getfield 26, 3) := by decide +kernel
theorem dX11_doesStep_4 : decode cX11_doesStep 4 = .ok (.iload_n 2, 1) := by decide +kernel
theorem dX11_doesStep_5 : decode cX11_doesStep 5 = .ok (.iaload, 1) := by decide +kernel
theorem dX11_doesStep_6 : decode cX11_doesStep 6 = .ok (.bipush 6, 2) := by decide +kernel
theorem dX11_doesStep_8 : decode cX11_doesStep 8 = .ok (.if_icmp .ge 33, 3) := by decide +kernel
theorem dX11_doesStep_11 : decode cX11_doesStep 11 = .ok (.aload_n 0, 1) := by decide +kernel
theorem dX11_doesStep_12 : decode cX11_doesStep 12 = .ok (.aload_n 1, 1) := by decide +kernel
theorem dX11_doesStep_13 : decode cX11_doesStep 13 = .ok (.aload_n 0, 1) := by decide +kernel
theorem dX11_doesStep_14 : decode cX11_doesStep 14 = .ok (.getfield 26, 3) := by decide +kernel
theorem dX11_doesStep_17 : decode cX11_doesStep 17 = .ok (.iload_n 2, 1) := by decide +kernel
theorem dX11_doesStep_18 : decode cX11_doesStep 18 = .ok (.iaload, 1) := by decide +kernel
theorem dX11_doesStep_19 : decode cX11_doesStep 19 = .ok (.aload_n 0, 1) := by decide +kernel
theorem dX11_doesStep_20 : decode cX11_doesStep 20 = .ok (.getfield 26, 3) := by decide +kernel
theorem dX11_doesStep_23 : decode cX11_doesStep 23 = .ok (.iload_n 2, 1) := by decide +kernel
theorem dX11_doesStep_24 : decode cX11_doesStep 24 = .ok (.iconst 1, 1) := by decide +kernel
theorem dX11_doesStep_25 : decode cX11_doesStep 25 = .ok (.iadd, 1) := by decide +kernel
theorem dX11_doesStep_26 : decode cX11_doesStep 26 = .ok (.iaload, 1) := by decide +kernel
theorem dX11_doesStep_27 : decode cX11_doesStep 27 = .ok (.aload_n 0, 1) := by decide +kernel
theorem dX11_doesStep_28 : decode cX11_doesStep 28 = .ok (.getfield 26, 3) := by decide +kernel
theorem dX11_doesStep_31 : decode cX11_doesStep 31 = .ok (.iload_n 2, 1) := by decide +kernel
theorem dX11_doesStep_32 : decode cX11_doesStep 32 = .ok (.iconst 2, 1) := by decide +kernel
theorem dX11_doesStep_33 : decode cX11_doesStep 33 = .ok (.iadd, 1) := by decide +kernel
theorem dX11_doesStep_34 : decode cX11_doesStep 34 = .ok (.iaload, 1) := by decide +kernel
theorem dX11_doesStep_35 : decode cX11_doesStep 35 = .ok (.invokevirtual 185, 3) := by decide +kernel
theorem dX11_doesStep_38 : decode cX11_doesStep 38 = .ok (.goto 33, 3) := by decide +kernel
theorem dX11_doesStep_41 : decode cX11_doesStep 41 = .ok (.aload_n 1, 1) := by decide +kernel
theorem dX11_doesStep_42 : decode cX11_doesStep 42 = .ok (.bipush 6, 2) := by decide +kernel
theorem dX11_doesStep_44 : decode cX11_doesStep 44 = .ok (.aload_n 0, 1) := by decide +kernel
theorem dX11_doesStep_45 : decode cX11_doesStep 45 = .ok (.getfield 26, 3) := by decide +kernel
theorem dX11_doesStep_48 : decode cX11_doesStep 48 = .ok (.iload_n 2, 1) := by decide +kernel
theorem dX11_doesStep_49 : decode cX11_doesStep 49 = .ok (.iconst 1, 1) := by decide +kernel
theorem dX11_doesStep_50 : decode cX11_doesStep 50 = .ok (.iadd, 1) := by decide +kernel
theorem dX11_doesStep_51 : decode cX11_doesStep 51 = .ok (.iaload, 1) := by decide +kernel
theorem dX11_doesStep_52 : decode cX11_doesStep 52 = .ok (.imul, 1) := by decide +kernel
theorem dX11_doesStep_53 : decode cX11_doesStep 53 = .ok (.aload_n 0, 1) := by decide +kernel
theorem dX11_doesStep_54 : decode cX11_doesStep 54 = .ok (.getfield 26, 3) := by decide +kernel
theorem dX11_doesStep_57 : decode cX11_doesStep 57 = .ok (.iload_n 2, 1) := by decide +kernel
theorem dX11_doesStep_58 : decode cX11_doesStep 58 = .ok (.iconst 2, 1) := by decide +kernel
theorem dX11_doesStep_59 : decode cX11_doesStep 59 = .ok (.iadd, 1) := by decide +kernel
theorem dX11_doesStep_60 : decode cX11_doesStep 60 = .ok (.iaload, 1) := by decide +kernel
theorem dX11_doesStep_61 : decode cX11_doesStep 61 = .ok (.iadd, 1) := by decide +kernel
theorem dX11_doesStep_62 : decode cX11_doesStep 62 = .ok (.aload_n 0, 1) := by decide +kernel
theorem dX11_doesStep_63 : decode cX11_doesStep 63 = .ok (.getfield 26, 3) := by decide +kernel
theorem dX11_doesStep_66 : decode cX11_doesStep 66 = .ok (.iload_n 2, 1) := by decide +kernel
theorem dX11_doesStep_67 : decode cX11_doesStep 67 = .ok (.iconst 3, 1) := by decide +kernel
theorem dX11_doesStep_68 : decode cX11_doesStep 68 = .ok (.iadd, 1) := by decide +kernel
theorem dX11_doesStep_69 : decode cX11_doesStep 69 = .ok (.iaload, 1) := by decide +kernel
theorem dX11_doesStep_70 : decode cX11_doesStep 70 = .ok (.iastore, 1) := by decide +kernel
theorem dX11_doesStep_71 : decode cX11_doesStep 71 = .ok (.return_, 1) := by decide +kernel
theorem dX11_perform_0 : decode cX11_perform 0 = .ok (.aload_n 0, 1) := by decide +kernel
theorem dX11_perform_1 : decode cX11_perform 1 = .ok (.iconst 0, 1) := by decide +kernel
theorem dX11_perform_2 : decode cX11_perform 2 = .ok (.putfield 83, 3) := by decide +kernel
theorem dX11_perform_5 : decode cX11_perform 5 = .ok (.aload_n 0, 1) := by decide +kernel
theorem dX11_perform_6 : decode cX11_perform 6 = .ok (.getfield 13, 3) := by decide +kernel
theorem dX11_perform_9 : decode cX11_perform 9 = .ok (.bipush 36, 2) := by decide +kernel
theorem dX11_perform_11 : decode cX11_perform 11 = .ok (.iaload, 1) := by decide +kernel
theorem dX11_perform_12 : decode cX11_perform 12 = .ok (.ifCond .eq 11, 3) := by decide +kernel
theorem dX11_perform_15 : decode cX11_perform 15 = .ok (.aload_n 0, 1) := by decide +kernel
theorem dX11_perform_16 : decode cX11_perform 16 = .ok (.iload_n 1, 1) := by decide +kernel
theorem dX11_perform_17 : decode cX11_perform 17 = .ok (.invokevirtual 325, 3) := by decide +kernel
theorem dX11_perform_20 : decode cX11_perform 20 = .ok (.ifCond .ne 5, 3) := by decide +kernel
theorem dX11_perform_23 : decode cX11_perform 23 = .ok (.iconst (-1), 1) := by decide +kernel
theorem dX11_perform_24 : decode cX11_perform 24 = .ok (.ireturn, 1) := by decide +kernel
theorem dX11_perform_25 : decode cX11_perform 25 = .ok (.iconst 0, 1) := by decide +kernel
theorem dX11_perform_26 : decode cX11_perform 26 = .ok (.istore_n 2, 1) := by decide +kernel
theorem dX11_perform_27 : decode cX11_perform 27 = .ok (.iload_n 2, 1) := by decide +kernel
theorem dX11_perform_28 : decode cX11_perform 28 = .ok (.aload_n 0, 1) := by decide +kernel
theorem dX11_perform_29 : decode cX11_perform 29 = .ok (.getfield 29, 3) := by decide +kernel
theorem dX11_perform_32 : decode cX11_perform 32 = .ok (.iload_n 1, 1) := by decide +kernel
theorem dX11_perform_33 : decode cX11_perform 33 = .ok (.iaload, 1) := by decide +kernel
theorem dX11_perform_34 : decode cX11_perform 34 = .ok (.if_icmp .ge 48, 3) := by decide +kernel
theorem dX11_perform_37 : decode cX11_perform 37 = .ok (.aload_n 0, 1) := by decide +kernel
theorem dX11_perform_38 : decode cX11_perform 38 = .ok (.aload_n 0, 1) := by decide +kernel
theorem dX11_perform_39 : decode cX11_perform 39 = .ok (.getfield 13, 3) := by decide +kernel
theorem dX11_perform_42 : decode cX11_perform 42 = .ok (.iconst 4, 1) := by decide +kernel
theorem dX11_perform_43 : decode cX11_perform 43 = .ok (.bipush 12, 2) := by decide +kernel
theorem dX11_perform_45 : decode cX11_perform 45 = .ok (.iload_n 1, 1) := by decide +kernel
theorem dX11_perform_46 : decode cX11_perform 46 = .ok (.imul, 1) := by decide +kernel
theorem dX11_perform_47 : decode cX11_perform 47 = .ok (.iload_n 2, 1) := by decide +kernel
theorem dX11_perform_48 : decode cX11_perform 48 = .ok (.iadd, 1) := by decide +kernel
theorem dX11_perform_49 : decode cX11_perform 49 = .ok (.imul, 1) := by decide +kernel
theorem dX11_perform_50 : decode cX11_perform 50 = .ok (.invokevirtual 328, 3) := by decide +kernel
theorem dX11_perform_53 : decode cX11_perform 53 = .ok (.ifCond .eq 29, 3) := by decide +kernel
theorem dX11_perform_56 : decode cX11_perform 56 = .ok (.aload_n 0, 1) := by decide +kernel
theorem dX11_perform_57 : decode cX11_perform 57 = .ok (.invokevirtual 167, 3) := by decide +kernel
theorem dX11_perform_60 : decode cX11_perform 60 = .ok (.aload_n 0, 1) := by decide +kernel
theorem dX11_perform_61 : decode cX11_perform 61 = .ok (.aload_n 0, 1) := by decide +kernel
theorem dX11_perform_62 : decode cX11_perform 62 = .ok (.getfield 13, 3) := by decide +kernel
theorem dX11_perform_65 : decode cX11_perform 65 = .ok (.iconst 4, 1) := by decide +kernel
theorem dX11_perform_66 : decode cX11_perform 66 = .ok (.bipush 12, 2) := by decide +kernel
theorem dX11_perform_68 : decode cX11_perform 68 = .ok (.iload_n 1, 1) := by decide +kernel
theorem dX11_perform_69 : decode cX11_perform 69 = .ok (.imul, 1) := by decide +kernel
theorem dX11_perform_70 : decode cX11_perform 70 = .ok (.iload_n 2, 1) := by decide +kernel
theorem dX11_perform_71 : decode cX11_perform 71 = .ok (.iadd, 1) := by decide +kernel
theorem dX11_perform_72 : decode cX11_perform 72 = .ok (.imul, 1) := by decide +kernel
theorem dX11_perform_73 : decode cX11_perform 73 = .ok (.invokevirtual 332, 3) := by decide +kernel
theorem dX11_perform_76 : decode cX11_perform 76 = .ok (.iinc 2 1, 3) := by decide +kernel
theorem dX11_perform_79 : decode cX11_perform 79 = .ok (.goto (-52), 3) := by decide +kernel
theorem dX11_perform_82 : decode cX11_perform 82 = .ok (.iload_n 2, 1) := by decide +kernel
theorem dX11_perform_83 : decode cX11_perform 83 = .ok (.ireturn, 1) := by decide +kernel
theorem n412 (k i : Nat) : (4 : Int32) * ((12 : Int32) * nI k + nI i) = nI (4 * (12 * k + i)) := by
  rw [show (12 : Int32) = nI 12 from rfl, show (4 : Int32) = nI 4 from rfl, pk_mul, nI_add, pk_mul]
theorem s_canStep {σ : sg} {x : aW} {t : Nat} (ht : LY t (0, 38, [])) (hne : t ≠ i_m_trial) {T : tb} (hT0 : TB (σ.2.2 t) T) (q : Nat) (hq : q + 3 < 240) {s : Nat → Int32} (hs : stepOK s) (hsr : ∀ j, j < 4 → σ.2.2 i_m_plan (q + j) = s j) :
    Mt mX11_canStep 3 0 0 [.ref i_M, .ref t, .int (nI q)] (wd σ x) (fun r w => ∃ g : Nat → Int32, w = wd (sA σ i_m_trial g) x ∧ ((stepCan T s ∧ r = some (.int 1)) ∨ (¬ stepCan T s ∧ r = some (.int 0)))) := by
  refine Mt.of MI_X11_canStep (Nat.le_of_ble_eq_true rfl) (fun X hC hR hT => ?_)
  obtain ⟨k, hk, e0, d1, d2, d3⟩ := id hs
  have r0 : σ.2.2 i_m_plan q = nI k := by rw [← e0]; exact hsr 0 (by decide)
  have r1 := hsr 1 (by decide)
  have r2 := hsr 2 (by decide)
  have r3 := hsr 3 (by decide)
  have hself : wd σ x = wd (sA σ i_m_trial (σ.2.2 i_m_trial)) x := by rw [sA_self]
  obtain ⟨hR1, hC1, hR6, hC6, hE⟩ := id hT0
  by_cases k6 : k = 6
  · subst k6
    obtain ⟨i, hi, ei⟩ := d1.resolve_left (by decide)
    obtain ⟨j, hj, ej⟩ := (d2.resolve_left (by decide)).resolve_left (by decide)
    have c2 : (nI i).toNatClampNeg = i := nI_clamp (by omega)
    have c3 : (nI j).toNatClampNeg = j := nI_clamp (by omega)
    have ncan : ¬ (inR T.1 (nI i) ∧ inR T.2.1 (nI j) ∧ ¬ T.2.2 i j = s 3) → ¬ stepCan T s := by
      rintro hn (⟨k, hk, e, -⟩ | ⟨-, h1, h2, h3⟩)
      · exact absurd ((nI_eq (a := 6) (b := k) (by decide) (by omega)).mp (e0.symm.trans e)) (by omega)
      · rw [ei] at h1; rw [ej] at h2; rw [ei, ej, c2, c3] at h3; exact hn ⟨h1, h2, h3⟩
    refine R_aload_n (i := 0) hC dX11_canStep_0 rfl rfl (R_gR hC dX11_canStep_1 fl_X11_26 L_M rfl (R_iload_n (i := 2) hC dX11_canStep_4 rfl rfl (R_aI hC dX11_canStep_5 L_m_plan q rfl (by omega) (by decide) ?_)))
    refine R_top (y := nI 6) r0 ?_
    refine R_bipush (v := 6) hC dX11_canStep_6 (by decide) ?_
    refine R_icmp_ge hC 48 dX11_canStep_8 (by decide) (fun _ => ?_) (fun h => absurd (by decide) h)
    refine R_aload_n (i := 0) hC dX11_canStep_48 rfl rfl (R_aload_n (i := 1) hC dX11_canStep_49 rfl rfl (R_aload_n (i := 0) hC dX11_canStep_50 rfl rfl (R_gR hC dX11_canStep_51 fl_X11_26 L_M rfl (R_iload_n (i := 2) hC dX11_canStep_54 rfl rfl (R_iconst (v := 1) hC dX11_canStep_55 (by decide) (R_iadd hC dX11_canStep_56 (R_aI hC dX11_canStep_57 L_m_plan (q + 1) (nI_1 q) (by omega) (by decide) ?_)))))))
    refine R_top (y := nI i) (r1.trans ei) ?_
    refine R_aload_n (i := 0) hC dX11_canStep_58 rfl rfl (R_gR hC dX11_canStep_59 fl_X11_26 L_M rfl (R_iload_n (i := 2) hC dX11_canStep_62 rfl rfl (R_iconst (v := 2) hC dX11_canStep_63 (by decide) (R_iadd hC dX11_canStep_64 (R_aI hC dX11_canStep_65 L_m_plan (q + 2) (by rw [show (2 : Int32) = nI 2 from rfl, nI_add]) (by omega) (by decide) ?_)))))
    refine R_top (y := nI j) (r2.trans ej) ?_
    refine R_V3i hC hR dX11_canStep_66 MV_X11_isCell ml_X11_158 L_M rfl (s_isCell _ _ _ ht _ _) (by decide) ⟨by decide, by decide⟩ (Nat.le_of_ble_eq_true rfl) ?_
    refine R_if_eq hC 109 dX11_canStep_69 (by decide) (fun h69 => ?_) (fun h69 => ?_)
    · refine R_iconst (v := 0) hC dX11_canStep_109 (by decide) ?_
      exact R_zret hC hT dX11_canStep_110 rfl (by decide) (by
      refine ⟨_, hself, ?_⟩
      first
      | exact Or.inl ⟨Or.inr ⟨e0, by rw [ei]; exact hin1, by rw [ej]; exact hin2, by rw [ei, ej, c2, c3]; exact h102⟩, rfl⟩
      | exact Or.inr ⟨ncan (fun z => z.2.2 h102), rfl⟩
      | exact Or.inr ⟨ncan (fun z => b2i_0 h69 (hT0.inT_iff.mpr ⟨z.1, z.2.1⟩)), rfl⟩)
    · obtain ⟨hin1, hin2⟩ := hT0.inT_iff.mp (b2i_ne h69)
      obtain ⟨i', ei', hi', -⟩ := inR_i hin1
      obtain ⟨j', ej', hj', -⟩ := inR_i hin2
      have hii : i = i' := (nI_eq (by omega) (by omega)).mp ei'
      have hjj : j = j' := (nI_eq (by omega) (by omega)).mp ej'
      subst hii; subst hjj
      refine R_aload_n (i := 1) hC dX11_canStep_72 rfl rfl (R_bipush (v := 6) hC dX11_canStep_73 (by decide) (R_aload_n (i := 0) hC dX11_canStep_75 rfl rfl (R_gR hC dX11_canStep_76 fl_X11_26 L_M rfl (R_iload_n (i := 2) hC dX11_canStep_79 rfl rfl (R_iconst (v := 1) hC dX11_canStep_80 (by decide) (R_iadd hC dX11_canStep_81 (R_aI hC dX11_canStep_82 L_m_plan (q + 1) (nI_1 q) (by omega) (by decide) ?_)))))))
      refine R_top (y := nI i) (r1.trans ei) ?_
      refine R_imul hC dX11_canStep_83 (R_aload_n (i := 0) hC dX11_canStep_84 rfl rfl (R_gR hC dX11_canStep_85 fl_X11_26 L_M rfl (R_iload_n (i := 2) hC dX11_canStep_88 rfl rfl (R_iconst (v := 2) hC dX11_canStep_89 (by decide) (R_iadd hC dX11_canStep_90 (R_aI hC dX11_canStep_91 L_m_plan (q + 2) (by rw [show (2 : Int32) = nI 2 from rfl, nI_add]) (by omega) (by decide) ?_))))))
      refine R_top (y := nI j) (r2.trans ej) ?_
      refine R_iadd hC dX11_canStep_92 (R_aI hC dX11_canStep_93 ht (6 * i + j) (n6 i j) (by omega) (by decide) ?_)
      refine R_top (y := T.2.2 i j) (hE i j hi' hj').1 ?_
      refine R_aload_n (i := 0) hC dX11_canStep_94 rfl rfl (R_gR hC dX11_canStep_95 fl_X11_26 L_M rfl (R_iload_n (i := 2) hC dX11_canStep_98 rfl rfl (R_iconst (v := 3) hC dX11_canStep_99 (by decide) (R_iadd hC dX11_canStep_100 (R_aI hC dX11_canStep_101 L_m_plan (q + 3) (by rw [show (3 : Int32) = nI 3 from rfl, nI_add]) (by omega) (by decide) ?_)))))
      refine R_top (y := s 3) r3 ?_
      refine R_icmp_eq hC 109 dX11_canStep_102 (by decide) (fun h102 => ?_) (fun h102 => ?_)
      · refine R_iconst (v := 0) hC dX11_canStep_109 (by decide) ?_
        exact R_zret hC hT dX11_canStep_110 rfl (by decide) (by
        refine ⟨_, hself, ?_⟩
        first
        | exact Or.inl ⟨Or.inr ⟨e0, by rw [ei]; exact hin1, by rw [ej]; exact hin2, by rw [ei, ej, c2, c3]; exact h102⟩, rfl⟩
        | exact Or.inr ⟨ncan (fun z => z.2.2 h102), rfl⟩
        | exact Or.inr ⟨ncan (fun z => b2i_0 h69 (hT0.inT_iff.mpr ⟨z.1, z.2.1⟩)), rfl⟩)
      · refine R_iconst (v := 1) hC dX11_canStep_105 (by decide) (R_goto hC 110 dX11_canStep_106 (by decide) ?_)
        exact R_zret hC hT dX11_canStep_110 rfl (by decide) (by
        refine ⟨_, hself, ?_⟩
        first
        | exact Or.inl ⟨Or.inr ⟨e0, by rw [ei]; exact hin1, by rw [ej]; exact hin2, by rw [ei, ej, c2, c3]; exact h102⟩, rfl⟩
        | exact Or.inr ⟨ncan (fun z => z.2.2 h102), rfl⟩
        | exact Or.inr ⟨ncan (fun z => b2i_0 h69 (hT0.inT_iff.mpr ⟨z.1, z.2.1⟩)), rfl⟩)
  · have hk6 : k < 6 := by omega
    have can : stepCan T s ↔ stopZ T k (s 1) (s 2) = -1 := by
      constructor
      · rintro (⟨k', hk', e, h⟩ | ⟨e, -⟩)
        · have : k = k' := (nI_eq (by omega) (by omega)).mp (e0.symm.trans e)
          subst this; exact h
        · exact absurd ((nI_eq (by omega) (by decide)).mp (e0.symm.trans e)) k6
      · intro h; exact Or.inl ⟨k, hk6, e0, h⟩
    refine R_aload_n (i := 0) hC dX11_canStep_0 rfl rfl (R_gR hC dX11_canStep_1 fl_X11_26 L_M rfl (R_iload_n (i := 2) hC dX11_canStep_4 rfl rfl (R_aI hC dX11_canStep_5 L_m_plan q rfl (by omega) (by decide) ?_)))
    refine R_top (y := nI k) r0 ?_
    refine R_bipush (v := 6) hC dX11_canStep_6 (by decide) ?_
    refine R_icmp_ge hC 48 dX11_canStep_8 (by decide) (fun h => absurd h (nI_ge (b := 6) hk6 (by decide))) (fun _ => ?_)
    refine R_aload_n (i := 0) hC dX11_canStep_11 rfl rfl (R_aload_n (i := 1) hC dX11_canStep_12 rfl rfl (R_aload_n (i := 0) hC dX11_canStep_13 rfl rfl (R_gR hC dX11_canStep_14 fl_X11_26 L_M rfl (R_iload_n (i := 2) hC dX11_canStep_17 rfl rfl (R_aI hC dX11_canStep_18 L_m_plan q rfl (by omega) (by decide) ?_)))))
    refine R_top (y := nI k) r0 ?_
    refine R_aload_n (i := 0) hC dX11_canStep_19 rfl rfl (R_gR hC dX11_canStep_20 fl_X11_26 L_M rfl (R_iload_n (i := 2) hC dX11_canStep_23 rfl rfl (R_iconst (v := 1) hC dX11_canStep_24 (by decide) (R_iadd hC dX11_canStep_25 (R_aI hC dX11_canStep_26 L_m_plan (q + 1) (nI_1 q) (by omega) (by decide) ?_)))))
    refine R_top (y := s 1) r1 ?_
    refine R_aload_n (i := 0) hC dX11_canStep_27 rfl rfl (R_gR hC dX11_canStep_28 fl_X11_26 L_M rfl (R_iload_n (i := 2) hC dX11_canStep_31 rfl rfl (R_iconst (v := 2) hC dX11_canStep_32 (by decide) (R_iadd hC dX11_canStep_33 (R_aI hC dX11_canStep_34 L_m_plan (q + 2) (by rw [show (2 : Int32) = nI 2 from rfl, nI_add]) (by omega) (by decide) ?_)))))
    refine R_top (y := s 2) r2 ?_
    refine R_V4g hC hR dX11_canStep_35 MV_X11_stops ml_X11_181 L_M rfl (s_stops _ _ _ ht hne T hT0 (nI k) (s 1) (s 2)) (by decide) ⟨by decide, by decide⟩ (Nat.le_of_ble_eq_true rfl) (fun r w1 hq => ?_)
    obtain ⟨g, rfl, ⟨k', hk', ek, rfl⟩ | ⟨hk', -⟩⟩ := hq
    case inr => exact absurd (by rw [nI_toInt (by omega)]; omega) hk'
    have ek : k = k' := (nI_eq (by omega) (by omega)).mp ek
    subst ek
    refine R_iconst (v := (-1)) hC dX11_canStep_38 (by decide) ?_
    refine R_icmp_ne hC 46 dX11_canStep_39 (by decide) (fun h39 => ?_) (fun h39 => ?_)
    · refine R_iconst (v := 0) hC dX11_canStep_46 (by decide) ?_
      exact R_zret hC hT dX11_canStep_47 rfl (by decide) (by
      refine ⟨g, rfl, ?_⟩
      first
      | exact Or.inl ⟨can.mpr h39, rfl⟩
      | exact Or.inr ⟨fun z => h39 (can.mp z), rfl⟩)
    · refine R_iconst (v := 1) hC dX11_canStep_42 (by decide) (R_goto hC 47 dX11_canStep_43 (by decide) ?_)
      exact R_zret hC hT dX11_canStep_47 rfl (by decide) (by
      refine ⟨g, rfl, ?_⟩
      first
      | exact Or.inl ⟨can.mpr h39, rfl⟩
      | exact Or.inr ⟨fun z => h39 (can.mp z), rfl⟩)
