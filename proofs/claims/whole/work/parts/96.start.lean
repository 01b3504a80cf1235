/-! ===== the law's start: the places of the numbered cells, and what is known of the tables ===== -/
theorem st_known {args : Array Value} {s : State} (hts : ∀ w ∈ lw_gl, w.before args s = true) : ∃ (dC : Nat → ClassId) (dI : Nat → Nat → Nat), ∀ (k : Nat) (q : vw_C), vwCl[k]? = some q → u_Kn s q.1 q.2.1 q.2.2 (dC k) (dI k) := by
  have h : ∀ k : Nat, ∃ y : ClassId × (Nat → Nat), ∀ q : vw_C, vwCl[k]? = some q → u_Kn s q.1 q.2.1 q.2.2 y.1 y.2 := by
    intro k
    match k with
    | 0 =>
      obtain ⟨c, i, hk⟩ := u_known hts cf_X0.1 (hts _ in_X0)
      exact ⟨(c, i), fun q hq => by cases hq; exact hk⟩
    | 1 =>
      obtain ⟨c, i, hk⟩ := u_known hts cf_X1.1 (hts _ in_X1)
      exact ⟨(c, i), fun q hq => by cases hq; exact hk⟩
    | 2 =>
      obtain ⟨c, i, hk⟩ := u_known hts cf_X2.1 (hts _ in_X2)
      exact ⟨(c, i), fun q hq => by cases hq; exact hk⟩
    | 3 =>
      obtain ⟨c, i, hk⟩ := u_known hts cf_X3.1 (hts _ in_X3)
      exact ⟨(c, i), fun q hq => by cases hq; exact hk⟩
    | 4 =>
      obtain ⟨c, i, hk⟩ := u_known hts cf_X4.1 (hts _ in_X4)
      exact ⟨(c, i), fun q hq => by cases hq; exact hk⟩
    | 5 =>
      obtain ⟨c, i, hk⟩ := u_known hts cf_X5.1 (hts _ in_X5)
      exact ⟨(c, i), fun q hq => by cases hq; exact hk⟩
    | 6 =>
      obtain ⟨c, i, hk⟩ := u_known hts cf_X6.1 (hts _ in_X6)
      exact ⟨(c, i), fun q hq => by cases hq; exact hk⟩
    | 7 =>
      obtain ⟨c, i, hk⟩ := u_known hts cf_X7.1 (hts _ in_X7)
      exact ⟨(c, i), fun q hq => by cases hq; exact hk⟩
    | 8 =>
      obtain ⟨c, i, hk⟩ := u_known hts cf_X8.1 (hts _ in_X8)
      exact ⟨(c, i), fun q hq => by cases hq; exact hk⟩
    | 9 =>
      obtain ⟨c, i, hk⟩ := u_known hts cf_X9.1 (hts _ in_X9)
      exact ⟨(c, i), fun q hq => by cases hq; exact hk⟩
    | 10 =>
      obtain ⟨c, i, hk⟩ := u_known hts cf_X10.1 (hts _ in_X10)
      exact ⟨(c, i), fun q hq => by cases hq; exact hk⟩
    | 11 =>
      obtain ⟨c, i, hk⟩ := u_known hts cf_X11.1 (hts _ in_X11)
      exact ⟨(c, i), fun q hq => by cases hq; exact hk⟩
    | k + 12 => exact ⟨(0, fun _ => 0), fun q hq => by simp at hq⟩
  obtain ⟨f, hf⟩ := Classical.axiomOfChoice h
  exact ⟨fun k => (f k).1, fun k => (f k).2, fun k q hq => hf k q hq⟩
theorem st_ac {args : Array Value} {s : State} {ty : FieldType} (h : (Cond.arrayClass ty).before args s = true) (hn : ∀ cA, s.vm.findClass ("[" ++ ty.toString) = some cA → va_RA s cA ty) : ∃ cA : ClassId, ArrOfT s cA ty ∧ va_RA s cA ty := by
  obtain ⟨c, k, comp, h1, h2, h3⟩ := Cond.arrayClass_spec (args := args) (first := s) (o := none) (s := s) (idx := []) h
  exact ⟨c, fun n z => ⟨(fun k h => by cases h), k, h2, comp, h3⟩, hn c h1⟩
theorem st_ao {args : Array Value} {s : State} {C : String} (h : (Cond.arrayOver (.object C)).before args s = true) : ∃ cA : ClassId, ArrOfT s cA (.object C) ∧ va_RA s cA (.object C) := by
  obtain ⟨comp, c, k, h1, -, h2, h3, h4⟩ := Cond.arrayOver_spec (args := args) (first := s) (o := none) (s := s) (idx := []) h
  exact ⟨c, fun n z => ⟨(fun k h => by cases h), k, h2, comp, h3⟩, k, comp, h2, h3, h1, h4⟩
theorem st_nest {args : Array Value} {s : State} (hts : ∀ w ∈ lw_tbl, w.before args s = true) : ∀ w ∈ lw_nl, va_Nw w s := by
  intro w hw
  obtain ⟨h1, h2⟩ := List.mem_filter.mp hw
  have h := hts w h1
  unfold is_nest at h2
  split at h2
  · exact va_Nw.of rfl h
  · exact va_Nw.of rfl h
  · exact va_AO.of h
  · exact va_Nw.of rfl h
  · exact va_Nw.of rfl h
  · cases h2
/-- the words that the Statement gives of the start -/
abbrev flG : List Cond := flatC (Jvm.Cond.and given_1 narrow_1)
theorem st_str {args : Array Value} {s : State} {A : Nat → Prop} {own tx : String} {k n : Nat} {bs : List Int32} (hsr : (Cond.stringRef own k tx).before args s = true) (hn : n < 2 ^ 31) (hex : (Cond.exactly (.string own k) "java/lang/String").before args s = true) (hco : (Cond.eq (.field (.string own k) "java/lang/String" "coder" "B") (.int 0)).before args s = true)
    (har : (Cond.arrayOf (.field (.string own k) "java/lang/String" "value" "[B") .byte).before args s = true) (hle : (Cond.eq (.length (.field (.string own k) "java/lang/String" "value" "[B")) (.int (Int32.ofNat n))).before args s = true)
    (hel : ∀ j : Nat, j < n → (Cond.eq (.elem (.field (.string own k) "java/lang/String" "value" "[B") (.int (Int32.ofNat j))) (.int (bs.getD j 0))).before args s = true) (hA : ∀ a : Nat, a < s.heap.size → ¬ A a) :
    ∃ y : Nat × Nat, y.1 < s.heap.size ∧ y.2 < s.heap.size ∧ vk_R own k tx y.1 s ∧ vk_S 1 [n] [bs] (fun _ => y.1) (fun _ => y.2) A s s.heap := by
  have z0 : ∀ i : Nat, i < 1 → i = 0 := fun i hi => by omega
  obtain ⟨adK, adV, hS, hE⟩ := vk_Sof (N := 1) (tm := fun _ => Term.string own k) (len := [n]) (byt := [bs]) (A := A) (fun i hi => by rw [z0 i hi]; exact hn) (fun _ _ => hex) (fun _ _ => hco) (fun _ _ => har) (fun i hi => by rw [z0 i hi]; exact hle) (fun i hi => by rw [z0 i hi]; exact hel) (fun i j hi hj hij => absurd ((z0 i hi).trans (z0 j hj).symm) hij) hA
  have h0 := hS.1 0 (by decide)
  refine ⟨(adK 0, adV 0), ?_, ?_, vk_R.of hsr (hE 0 (by decide)), fun i hi => ?_, fun i j hi hj _ => (z0 i hi).trans (z0 j hj).symm⟩
  · obtain ⟨cell, g1, -⟩ := h0.1
    exact (Array.getElem?_eq_some_iff.mp g1).1
  · obtain ⟨cell, g1, -⟩ := h0.2.2.2
    exact (Array.getElem?_eq_some_iff.mp g1).1
  · rw [z0 i hi]
    exact h0
theorem st_t0 : ∀ j, j < 7 → flG[65 + j]? = some (Cond.eq (.elem (.field (.string RX4 51) "java/lang/String" "value" "[B") (.int (Int32.ofNat j))) (.int (([114, 99, 120, 121, 112, 116, 101] : List Int32).getD j 0))) := by decide +kernel
theorem st_t1 : ∀ j, j < 29 → flG[76 + j]? = some (Cond.eq (.elem (.field (.string RX10 240) "java/lang/String" "value" "[B") (.int (Int32.ofNat j))) (.int (([43, 45, 48, 48, 45, 47, 45, 43, 45, 48, 48, 47, 48, 45, 43, 45, 48, 47, 48, 48, 45, 43, 45, 47, 45, 48, 48, 45, 43] : List Int32).getD j 0))) := by decide +kernel
theorem st_t2 : ∀ j, j < 29 → flG[110 + j]? = some (Cond.eq (.elem (.field (.string RX10 246) "java/lang/String" "value" "[B") (.int (Int32.ofNat j))) (.int (([43, 43, 43, 43, 43, 47, 43, 43, 43, 48, 48, 47, 43, 48, 43, 43, 48, 47, 43, 48, 48, 43, 43, 47, 43, 43, 48, 48, 43] : List Int32).getD j 0))) := by decide +kernel
theorem st_t3 : ∀ j, j < 3 → flG[145 + j]? = some (Cond.eq (.elem (.field (.string RX11 116) "java/lang/String" "value" "[B") (.int (Int32.ofNat j))) (.int (([45, 48, 43] : List Int32).getD j 0))) := by decide +kernel
theorem st_t4 : ∀ j, j < 7 → flG[155 + j]? = some (Cond.eq (.elem (.field (.string RX11 131) "java/lang/String" "value" "[B") (.int (Int32.ofNat j))) (.int (([114, 99, 120, 121, 112, 116, 101] : List Int32).getD j 0))) := by decide +kernel
theorem st_t5 : ∀ j, j < 25 → flG[170 + j]? = some (Cond.eq (.elem (.field (.string RX11 300) "java/lang/String" "value" "[B") (.int (Int32.ofNat j))) (.int (([43, 45, 48, 48, 45, 45, 43, 45, 48, 48, 48, 45, 43, 45, 48, 48, 48, 45, 43, 45, 45, 48, 48, 45, 43] : List Int32).getD j 0))) := by decide +kernel
theorem st_t6 : ∀ j, j < 25 → flG[204 + j]? = some (Cond.eq (.elem (.field (.string RX11 302) "java/lang/String" "value" "[B") (.int (Int32.ofNat j))) (.int (([43, 43, 43, 43, 43, 43, 43, 43, 48, 48, 43, 48, 43, 43, 48, 43, 48, 48, 43, 43, 43, 43, 48, 48, 43] : List Int32).getD j 0))) := by decide +kernel
theorem st_strs {args : Array Value} {s : State} {A : Nat → Prop} (hts : ∀ w ∈ lw_tbl, w.before args s = true) (hs : ∀ w ∈ flG, w.before args s = true) (hA : ∀ a : Nat, a < s.heap.size → ¬ A a) :
    ∃ f : Nat → Nat × Nat, ∀ i, i < 7 → ∀ k, kst[i]? = some k → (f i).1 < s.heap.size ∧ (f i).2 < s.heap.size ∧ vk_R k.1 k.2.1 k.2.2.1 (f i).1 s ∧ vk_S 1 [k.2.2.2.length] [k.2.2.2] (fun _ => (f i).1) (fun _ => (f i).2) A s s.heap := by
  have hg : ∀ (i : Nat) (w : Cond), flG[i]? = some w → w.before args s = true := fun i w h => hs w (List.mem_of_getElem? h)
  have h : ∀ i : Nat, ∃ y : Nat × Nat, i < 7 → ∀ k, kst[i]? = some k → y.1 < s.heap.size ∧ y.2 < s.heap.size ∧ vk_R k.1 k.2.1 k.2.2.1 y.1 s ∧ vk_S 1 [k.2.2.2.length] [k.2.2.2] (fun _ => y.1) (fun _ => y.2) A s s.heap := by
    intro i
    match i with
    | 0 =>
      obtain ⟨y, g1, g2, g3, g4⟩ := st_str (args := args) (s := s) (A := A) (own := RX4) (tx := "rcxypte") (k := 51) (n := 7) (bs := [114, 99, 120, 121, 112, 116, 101]) (hts _ (tc_2 _ (List.mem_of_getElem? (i := 146) rfl))) (by decide) (hg 61 _ (by decide +kernel)) (hg 62 _ (by decide +kernel)) (hg 63 _ (by decide +kernel)) (hg 64 _ (by decide +kernel)) (fun j hj => hg (65 + j) _ (st_t0 j hj)) hA
      exact ⟨y, fun _ k hk => by cases hk; exact ⟨g1, g2, g3, g4⟩⟩
    | 1 =>
      obtain ⟨y, g1, g2, g3, g4⟩ := st_str (args := args) (s := s) (A := A) (own := RX10) (tx := "+-00-/-+-00/0-+-0/00-+-/-00-+") (k := 240) (n := 29) (bs := [43, 45, 48, 48, 45, 47, 45, 43, 45, 48, 48, 47, 48, 45, 43, 45, 48, 47, 48, 48, 45, 43, 45, 47, 45, 48, 48, 45, 43]) (hts _ (tc_4 _ (List.mem_of_getElem? (i := 145) rfl))) (by decide) (hg 72 _ (by decide +kernel)) (hg 73 _ (by decide +kernel)) (hg 74 _ (by decide +kernel)) (hg 75 _ (by decide +kernel)) (fun j hj => hg (76 + j) _ (st_t1 j hj)) hA
      exact ⟨y, fun _ k hk => by cases hk; exact ⟨g1, g2, g3, g4⟩⟩
    | 2 =>
      obtain ⟨y, g1, g2, g3, g4⟩ := st_str (args := args) (s := s) (A := A) (own := RX10) (tx := "+++++/+++00/+0++0/+00++/++00+") (k := 246) (n := 29) (bs := [43, 43, 43, 43, 43, 47, 43, 43, 43, 48, 48, 47, 43, 48, 43, 43, 48, 47, 43, 48, 48, 43, 43, 47, 43, 43, 48, 48, 43]) (hts _ (tc_4 _ (List.mem_of_getElem? (i := 201) rfl))) (by decide) (hg 106 _ (by decide +kernel)) (hg 107 _ (by decide +kernel)) (hg 108 _ (by decide +kernel)) (hg 109 _ (by decide +kernel)) (fun j hj => hg (110 + j) _ (st_t2 j hj)) hA
      exact ⟨y, fun _ k hk => by cases hk; exact ⟨g1, g2, g3, g4⟩⟩
    | 3 =>
      obtain ⟨y, g1, g2, g3, g4⟩ := st_str (args := args) (s := s) (A := A) (own := RX11) (tx := "-0+") (k := 116) (n := 3) (bs := [45, 48, 43]) (hts _ (tc_6 _ (List.mem_of_getElem? (i := 96) rfl))) (by decide) (hg 141 _ (by decide +kernel)) (hg 142 _ (by decide +kernel)) (hg 143 _ (by decide +kernel)) (hg 144 _ (by decide +kernel)) (fun j hj => hg (145 + j) _ (st_t3 j hj)) hA
      exact ⟨y, fun _ k hk => by cases hk; exact ⟨g1, g2, g3, g4⟩⟩
    | 4 =>
      obtain ⟨y, g1, g2, g3, g4⟩ := st_str (args := args) (s := s) (A := A) (own := RX11) (tx := "rcxypte") (k := 131) (n := 7) (bs := [114, 99, 120, 121, 112, 116, 101]) (hts _ (tc_6 _ (List.mem_of_getElem? (i := 122) rfl))) (by decide) (hg 151 _ (by decide +kernel)) (hg 152 _ (by decide +kernel)) (hg 153 _ (by decide +kernel)) (hg 154 _ (by decide +kernel)) (fun j hj => hg (155 + j) _ (st_t4 j hj)) hA
      exact ⟨y, fun _ k hk => by cases hk; exact ⟨g1, g2, g3, g4⟩⟩
    | 5 =>
      obtain ⟨y, g1, g2, g3, g4⟩ := st_str (args := args) (s := s) (A := A) (own := RX11) (tx := "+-00--+-000-+-000-+--00-+") (k := 300) (n := 25) (bs := [43, 45, 48, 48, 45, 45, 43, 45, 48, 48, 48, 45, 43, 45, 48, 48, 48, 45, 43, 45, 45, 48, 48, 45, 43]) (hts _ (tc_7 _ (List.mem_of_getElem? (i := 105) rfl))) (by decide) (hg 166 _ (by decide +kernel)) (hg 167 _ (by decide +kernel)) (hg 168 _ (by decide +kernel)) (hg 169 _ (by decide +kernel)) (fun j hj => hg (170 + j) _ (st_t5 j hj)) hA
      exact ⟨y, fun _ k hk => by cases hk; exact ⟨g1, g2, g3, g4⟩⟩
    | 6 =>
      obtain ⟨y, g1, g2, g3, g4⟩ := st_str (args := args) (s := s) (A := A) (own := RX11) (tx := "++++++++00+0++0+00++++00+") (k := 302) (n := 25) (bs := [43, 43, 43, 43, 43, 43, 43, 43, 48, 48, 43, 48, 43, 43, 48, 43, 48, 48, 43, 43, 43, 43, 48, 48, 43]) (hts _ (tc_7 _ (List.mem_of_getElem? (i := 106) rfl))) (by decide) (hg 200 _ (by decide +kernel)) (hg 201 _ (by decide +kernel)) (hg 202 _ (by decide +kernel)) (hg 203 _ (by decide +kernel)) (fun j hj => hg (204 + j) _ (st_t6 j hj)) hA
      exact ⟨y, fun _ k hk => by cases hk; exact ⟨g1, g2, g3, g4⟩⟩
    | i + 7 => exact ⟨(0, 0), fun hi => absurd hi (by omega)⟩
  obtain ⟨f, hf⟩ := Classical.axiomOfChoice h
  exact ⟨f, fun i hi k hk => hf i hi k hk⟩
theorem st_sg : ∀ j, j < 7 → flG[7 + j]? = some (Cond.eq (.elem (.static RX4 "SIGNS" "[I") (.int (Int32.ofNat j))) (.int (([2, 2, 3, 3, 3, 1, 4] : List Int32).getD j 0))) := by decide +kernel
theorem st_sta {args : Array Value} {s : State} {A : Nat → Prop} (hts : ∀ w ∈ lw_tbl, w.before args s = true) (hs : ∀ w ∈ flG, w.before args s = true) (hA : ∀ a : Nat, a < s.heap.size → ¬ A a) :
    (∃ a : Nat, a < s.heap.size ∧ va_Z RX4 "SIGNS" "[I" (.ref a) A s s.heap ∧ va_T .int a 7 (fun j => .int (([2, 2, 3, 3, 3, 1, 4] : List Int32).getD j 0)) A s s.heap) ∧ va_Z "java/lang/String" "COMPACT_STRINGS" "Z" (.int 1) A s s.heap ∧
    (∃ t : Nat, va_Z "jdk/internal/util/Preconditions" "SIOOBE_FORMATTER" "Ljava/util/function/BiFunction;" .null A s s.heap ∨ va_Z "jdk/internal/util/Preconditions" "SIOOBE_FORMATTER" "Ljava/util/function/BiFunction;" (.ref t) A s s.heap) := by
  have hg : ∀ (i : Nat) (w : Cond), flG[i]? = some w → w.before args s = true := fun i w h => hs w (List.mem_of_getElem? h)
  have ht1 : ∀ {w : Cond} (n : Nat), tables_1_1[n]? = some w → w.before args s = true := fun n h => hts _ (tc_1 _ (List.mem_of_getElem? h))
  have ht2 : ∀ {w : Cond} (n : Nat), tables_1_2[n]? = some w → w.before args s = true := fun n h => hts _ (tc_2 _ (List.mem_of_getElem? h))
  refine ⟨?_, ?_, ?_⟩
  · obtain ⟨t, h1, h2⟩ := va_Tof (tm := .static RX4 "SIGNS" "[I") (ty := .int) (N := 7) (f := fun j => .int (([2, 2, 3, 3, 3, 1, 4] : List Int32).getD j 0)) (A := A) (args := args) (s := s) (by decide) (hg 5 _ (by decide +kernel)) (va_eqt (z := 7) (hg 6 _ (by decide +kernel))) (fun j hj => va_eqt (hg (7 + j) _ (st_sg j hj))) hA
    refine ⟨t, ?_, va_Zof (args := args) (ht2 141 rfl) (ht1 11 rfl) h1 hA, h2⟩
    obtain ⟨cell, g1, -⟩ := h2
    exact (Array.getElem?_eq_some_iff.mp g1).1
  · exact va_Zof (args := args) (ht2 160 rfl) (ht1 13 rfl) (va_eqt (hg 14 _ (by decide +kernel))) hA
  · rcases va_Zqof (args := args) (C := "jdk/internal/util/Preconditions") (n := "SIOOBE_FORMATTER") (d := "Ljava/util/function/BiFunction;") (A := A) (ht2 203 rfl) (ht1 17 rfl) (hg 15 _ (by decide +kernel)) hA with h | ⟨t, h⟩
    · exact ⟨0, Or.inl h⟩
    · exact ⟨t, Or.inr h⟩
theorem st_lyS {args : Array Value} {s : State} {C n d : String} {V : aV} (hV : V.2.2.2 = s.heap) (hl : (Cond.laysStatic C n d).before args s = true) (hi : (Cond.isRef (.static C n d)).before args s = true) : lyS C n d V s := by
  obtain ⟨c, k, i, f, a, cell, h1, h2, h3, h4, h5, h6, h7, h8, h9⟩ := Cond.laysStatic_spec (args := args) (first := s) (o := none) (s := s) (idx := []) hl
  have hv := hi
  have hc : cell.slots[f.slot]? = some (cell.slots[f.slot]'h8) := Array.getElem?_eq_getElem h8
  have he : (Term.static C n d).eval args s none [] s = some (cell.slots[f.slot]'h8) := by
    simp [Term.eval, State.fieldNamed?, h2, h3, h4, h5, h6, hc]
  simp only [Cond.before, Cond.holds, Cond.value, he] at hv
  refine ⟨c, k, i, f, a, cell, cell.slots[f.slot]'h8, h1, h2, h3, h4, by rw [hV]; exact h5, h6, h7, h8, h9, hc, ?_⟩
  generalize cell.slots[f.slot]'h8 = v at hv
  cases v with
  | null => exact Or.inl rfl
  | ref r => exact Or.inr ⟨r, rfl⟩
  | _ => simp at hv
def mapV (z b t a : Nat) (f : Nat → Nat × Nat) (n : Nat) : Nat :=
  if n < 16 then (if n = 1 then a else if n < 2 then b else if n < 9 then (f (n - 2)).1 else (f (n - 9)).2) else if n < 1099511627776 then z + (n - 16) else if n = 1099511627776 then b else t
theorem start_V {b : Nat} {s : State} (hts : ∀ w ∈ lw_tbl, w.before #[Value.ref b] s = true) (hgv : (Jvm.Cond.and given_1 narrow_1).before #[Value.ref b] s = true) (hb : b < s.heap.size) : ∃ V : aV, VOK V ∧ V.2.2.2 = s.heap ∧ V.2.2.1 BIG = b ∧ KX V s := by
  have hs := flat_of_before _ hgv
  have hgl : ∀ w ∈ lw_gl, w.before #[Value.ref b] s = true := fun w hw => hts w (List.mem_filter.mp hw).1
  have hA : ∀ a : Nat, a < s.heap.size → ¬ s.heap.size ≤ a := fun a h => Nat.not_le.mpr h
  obtain ⟨dC, dI, hKc⟩ := st_known hgl
  obtain ⟨c0, a0⟩ := st_ac (ty := .int) (hgl _ (gmt tc_1 49 rfl (by decide +kernel))) (fun _ h => h)
  obtain ⟨c1, a1⟩ := st_ac (ty := .byte) (hgl _ (gmt tc_2 239 rfl (by decide +kernel))) (fun _ h => h)
  obtain ⟨c2, a2⟩ := st_ac (ty := .long) (hgl _ (gmt tc_7 232 rfl (by decide +kernel))) (fun _ h => h)
  obtain ⟨c3, a3⟩ := st_ao (C := RX7) (hts _ (tc_1 _ (List.mem_of_getElem? (i := 85) rfl)))
  obtain ⟨c4, a4⟩ := st_ao (C := RX4) (hts _ (tc_1 _ (List.mem_of_getElem? (i := 99) rfl)))
  obtain ⟨f, hf⟩ := st_strs (A := fun q => s.heap.size ≤ q) hts hs hA
  obtain ⟨⟨a, ha, hz, hT⟩, hcs, t, hq⟩ := st_sta (A := fun q => s.heap.size ≤ q) hts hs hA
  have hf2 : ∀ i, i < 7 → (f i).1 < s.heap.size ∧ (f i).2 < s.heap.size := fun i hi => by
    obtain ⟨k, hk⟩ : ∃ k, kst[i]? = some k := ⟨kst[i]'(by show i < 7; exact hi), List.getElem?_eq_getElem _⟩
    exact ⟨(hf i hi k hk).1, (hf i hi k hk).2.1⟩
  refine ⟨((dC, dI), (fun k => match k with | 0 => c0 | 1 => c1 | 2 => c2 | 3 => c3 | _ => c4), mapV s.heap.size b t a f, s.heap), ⟨fun n hn => ?_, fun i hi => ?_⟩, rfl, ?_, ⟨hKc, fun k q hk => ?_⟩, st_nest hts, fun i hi k hk => ?_, ?_, ?_, hcs, ?_, st_lyS rfl (hts _ (tc_5 _ (List.mem_of_getElem? (i := 156) rfl))) (hs _ (List.mem_of_getElem? (i := 19) (by decide +kernel))), st_lyS rfl (hts _ (tc_5 _ (List.mem_of_getElem? (i := 158) rfl))) (hs _ (List.mem_of_getElem? (i := 20) (by decide +kernel)))⟩
  · have hn2 : n < 1099511627776 - 16 := hn
    show mapV s.heap.size b t a f (16 + n) = s.heap.size + n
    unfold mapV
    rw [if_neg (by omega), if_pos (by omega)]
    omega
  · show mapV s.heap.size b t a f i < s.heap.size
    unfold mapV
    rw [if_pos hi]
    split
    · exact ha
    · split
      · exact hb
      · split
        · exact (hf2 (i - 2) (by omega)).1
        · exact (hf2 (i - 9) (by omega)).2
  · show mapV s.heap.size b t a f 1099511627776 = b
    unfold mapV
    rw [if_neg (by omega), if_neg (by omega), if_pos rfl]
  · match k, hk with
    | 0, hk => cases hk; exact a0
    | 1, hk => cases hk; exact a1
    | 2, hk => cases hk; exact a2
    | 3, hk => cases hk; exact a3
    | 4, hk => cases hk; exact a4
    | k + 5, hk => simp [tys] at hk
  · obtain ⟨-, -, g1, g2⟩ := hf i hi k hk
    have e1 : mapV s.heap.size b t a f (2 + i) = (f i).1 := by
      unfold mapV
      rw [if_pos (by omega), if_neg (by omega), if_neg (by omega), if_pos (by omega), show 2 + i - 2 = i by omega]
    have e2 : mapV s.heap.size b t a f (9 + i) = (f i).2 := by
      unfold mapV
      rw [if_pos (by omega), if_neg (by omega), if_neg (by omega), if_neg (by omega), show 9 + i - 9 = i by omega]
    show vk_R k.1 k.2.1 k.2.2.1 (mapV s.heap.size b t a f (2 + i)) s ∧ vk_S 1 [k.2.2.2.length] [k.2.2.2] (fun _ => mapV s.heap.size b t a f (2 + i)) (fun _ => mapV s.heap.size b t a f (9 + i)) _ s s.heap
    rw [e1, e2]
    exact ⟨g1, g2⟩
  · have e1 : mapV s.heap.size b t a f 1 = a := rfl
    show va_Z RX4 "SIGNS" "[I" (.ref (mapV s.heap.size b t a f 1)) _ s s.heap
    rw [e1]
    exact hz
  · have e1 : mapV s.heap.size b t a f 1 = a := rfl
    show va_T .int (mapV s.heap.size b t a f 1) 7 _ _ s s.heap
    rw [e1]
    exact hT
  · have e1 : mapV s.heap.size b t a f FMT = t := by
      show mapV s.heap.size b t a f 1099511627777 = t
      unfold mapV
      rw [if_neg (by omega), if_neg (by omega), if_neg (by omega)]
    rcases hq with h | h
    · exact Or.inl h
    · refine Or.inr ?_
      show va_Z _ _ _ (.ref (mapV s.heap.size b t a f FMT)) _ s s.heap
      rw [e1]
      exact h
