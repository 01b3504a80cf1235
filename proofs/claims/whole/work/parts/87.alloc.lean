/-! ===== making cells ===== -/
theorem rho_lt {V : aV} (hV : VOK V) {i n : Nat} (hn : 16 ≤ n) (hb : n < BIG) (h : i < n) : V.2.2.1 i < V.2.2.1 n := by
  rw [rho_ge hV hn hb]
  by_cases hj : 16 ≤ i
  · rw [rho_ge hV hj (by omega)]; omega
  · have := hV.2 i (by omega); omega
theorem HW_push {V : aV} {w : aW} {H H1 : Heap} {c : aE} (hV : VOK V) (hH : HW V w H) (hb : w.1 < 1000000) (hc : va_at V.1 vwCl (V.2.2.1 w.1, cE V c) H1) (hz : H1.size = H.size + 1) (o : ∀ q : Nat, q < H.size → H1[q]? = H[q]?) : HW V (w.1 + 1, va_up w.2 w.1 (some c)) H1 := by
  obtain ⟨h1, h2, h3, h4⟩ := hH
  have hbb : w.1 + 1 < BIG := Nat.lt_of_le_of_lt (Nat.succ_le_of_lt hb) (by decide)
  have hsz : V.2.2.2.size ≤ H.size := by rw [h1, rho_ge hV h2.1 h2.2]; omega
  refine ⟨?_, ⟨by show 16 ≤ w.1 + 1; omega, hbb⟩, fun q hq => ?_, fun i ci hi => ?_⟩
  · rw [hz, h1, rho_ge hV h2.1 h2.2, rho_ge hV (by omega) hbb]; omega
  · rw [o q (by omega)]; exact h3 q hq
  · by_cases hia : i = w.1
    · subst hia
      simp only [va_up_eq] at hi
      cases hi
      exact ⟨Nat.lt_succ_self _, hc⟩
    · simp only [va_up, if_neg hia] at hi
      obtain ⟨g1, g2⟩ := h4 i ci hi
      exact ⟨Nat.lt_succ_of_lt g1, g2.kept (o _ (by rw [h1]; exact rho_lt hV h2.1 h2.2 g1))⟩
section ARULES
variable {m : mi} {X : aX} {pc : Nat} {ls : List (Option Value)} {st : List Value} {w : aW} {cl sl : Nat}
theorem R_newA (hC : Cx m X) {dd mcX msX N t : Nat} {atype : ArrayType} {ty : FieldType} {a0 : vp_A} (hR : Rd X dd mcX msX) (hd : decode m.2.1 pc = .ok (.newarray atype, 2)) (hty : newarray.typeOf atype = ty) (harr : Cond.arrayClass ty ∈ lw_gl) (ht : ∀ V, (tys V)[t]? = some (V.2.1 t, ty)) (hra : ∀ U cA, va_RA U cA ty → U.vm.findClass ("[" ++ ty.toString) = some cA)
    (ha : ∀ cA : ClassId, vp_cell cA a0 = arrV cA N (fun _ => defaultValue ty)) (hrn : ∀ r, rA r a0 = a0) (hN : N < 2 ^ 31) (hbytes : N * componentBytes ty ≤ 536870912) (hw1 : w.1 < 1000000) (hroom : cl + 1 ≤ mcX ∧ sl + N ≤ msX)
    (kk : Rw m X (pc + 2) ls (.ref w.1 :: st) (w.1 + 1, va_up w.2 w.1 (some (.inl (t, a0)))) (cl + 1) (sl + N)) : Rw m X pc ls (.int (nI N) :: st) w cl sl := by
  subst hty
  obtain ⟨p, l, e, R, s, mm, args, below, meth, c, Z, V⟩ := X
  obtain ⟨hV, hx, hb, hml, hr, hlk, hown, hts, hK, hnm⟩ := hC
  obtain ⟨r1, r2, r3, r4⟩ := hR
  intro H locs la hH hL hl
  refine va_newaK hx hb (gl_ts hts harr) rfl hd rfl (nI_pos hN) (nI_clamp hN) hbytes (by omega) (by omega) (h := H.size) rfl (fun H1 cA e1 z1 o1 hAr hNm => ?_)
  have hcA : cA = V.2.1 t := Option.some.inj (hNm.symm.trans (hra _ _ (hK.1.2 t _ (ht V)).2))
  subst hcA
  have hw : HW V (w.1 + 1, va_up w.2 w.1 (some (.inl (t, a0)))) H1 := HW_push hV hH hw1 (by
    show H1[V.2.2.1 w.1]? = some (vp_cell (V.2.1 t) (rA V.2.2.1 a0))
    rw [hrn, ha, ← hH.1]; exact e1) z1 o1
  have z := kk H1 locs la hw hL hl
  have e3 : ((Value.ref w.1 :: st).map (rl V.2.2.1)) = .ref H.size :: st.map (rl V.2.2.1) := by rw [hH.1]; rfl
  rw [e3] at z
  exact z
theorem R_newO (hC : Cx m X) {dd mcX msX N ci idx : Nat} {C : String} {T : u_T} {ty : Nat → FieldType} {fs : List Value} (hR : Rd X dd mcX msX) (hd : decode m.2.1 pc = .ok (.new idx, 3)) (hcl : Cond.classLink m.1.cls idx C ∈ lw_gl) (hinst : Cond.instantiable C N ∈ lw_gl) (hini : Cond.initialized C ∈ lw_gl) (hc : vwCl[ci]? = some (C, T, N)) (hin : ∀ w ∈ u_ws C T N, w ∈ lw_gl) (hty : ∀ k, k < N → parseFieldDescriptor (T k).2.2.1 = some (ty k)) (hfs : ∀ j, j < N → defaultValue (ty j) = vp_V fs j) (hrn : ∀ r, fs.map (rl r) = fs) (hw1 : w.1 < 1000000) (hroom : cl + 1 ≤ mcX ∧ sl + N ≤ msX)
    (kk : Rw m X (pc + 3) ls (.ref w.1 :: st) (w.1 + 1, va_up w.2 w.1 (some (.inr (ci, fs)))) (cl + 1) (sl + N)) : Rw m X pc ls st w cl sl := by
  obtain ⟨p, l, e, R, s, mm, args, below, meth, c, Z, V⟩ := X
  obtain ⟨hV, hx, hb, hml, hr, hlk, hown, hts, hK, hnm⟩ := hC
  obtain ⟨r1, r2, r3, r4⟩ := hR
  intro H locs la hH hL hl
  have hKn := hK.1.1 ci _ hc
  refine W.newcK hx hb hown (gl_ts hts hcl) (gl_ts hts hinst) (gl_ts hts hini) rfl hd (by omega) (by omega) hKn.2.1 (h := H.size) rfl (fun H1 kC hkC e1 z1 o1 => ?_)
  have hw : HW V (w.1 + 1, va_up w.2 w.1 (some (.inr (ci, fs)))) H1 := HW_push hV hH hw1 (by
    show va_at V.1 vwCl (V.2.2.1 w.1, .inr (ci, fs.map (rl V.2.2.1))) H1
    rw [hrn, ← hH.1]
    exact ⟨_, hc, (u_born ty (fun w hw => gl_ts hts hw) hin hKn hkC e1 hty).to hfs⟩) z1 o1
  have z := kk H1 locs la hw hL hl
  have e3 : ((Value.ref w.1 :: st).map (rl V.2.2.1)) = .ref H.size :: st.map (rl V.2.2.1) := by rw [hH.1]; rfl
  rw [e3] at z
  exact z
theorem R_newQ (hC : Cx m X) {dd mcX msX N t idx : Nat} {C : String} (hR : Rd X dd mcX msX) (hd : decode m.2.1 pc = .ok (.anewarray idx, 3)) (hcl : Cond.classLink m.1.cls idx C ∈ lw_gl) (hov : Cond.arrayOver (.object C) ∈ lw_nl) (ht : ∀ V, (tys V)[t]? = some (V.2.1 t, .object C)) (hN : N < 2 ^ 31) (hbytes : N * 4 ≤ 536870912) (hw1 : w.1 < 1000000) (hroom : cl + 1 ≤ mcX ∧ sl + N ≤ msX)
    (kk : Rw m X (pc + 3) ls (.ref w.1 :: st) (w.1 + 1, va_up w.2 w.1 (some (.inl (t, N, .inr (.inr (.inr (.inr (fun _ => none)))))))) (cl + 1) (sl + N)) : Rw m X pc ls (.int (nI N) :: st) w cl sl := by
  obtain ⟨p, l, e, R, s, mm, args, below, meth, c, Z, V⟩ := X
  obtain ⟨hV, hx, hb, hml, hr, hlk, hown, hts, hK, hnm⟩ := hC
  obtain ⟨r1, r2, r3, r4⟩ := hR
  intro H locs la hH hL hl
  have hNc := nI_clamp hN
  refine W.anew hx hb hown (gl_ts hts hcl) (va_AO.use (hK.2.1 _ hov)) rfl hd rfl (nI_pos hN) (by rw [hNc]; exact hbytes) (by omega) (by rw [hNc]; omega) (fun cA kA comp f1 f2 f3 f4 => ?_)
  rw [hNc]
  obtain ⟨kA', comp', g1, g2, g3, g4⟩ := (hK.1.2 t _ (ht V)).2
  have hcA : cA = V.2.1 t := Option.some.inj (f1.symm.trans g4)
  subst hcA
  generalize hH1 : H.push ({ cls := V.2.1 t, slots := Array.replicate N .null, vm := .none } : Cell) = H1
  have z1 : H1.size = H.size + 1 := by rw [← hH1, Array.size_push]
  have e1 : H1[H.size]? = some (arrV (V.2.1 t) N (fun _ => .null)) := by rw [← hH1, Array.getElem?_push_size, ← arrV_new]
  have o1 : ∀ q : Nat, q < H.size → H1[q]? = H[q]? := fun q hq => by rw [← hH1, Array.getElem?_push, if_neg (Nat.ne_of_lt hq)]
  have hw : HW V (w.1 + 1, va_up w.2 w.1 (some (.inl (t, N, .inr (.inr (.inr (.inr (fun _ => none)))))))) H1 := HW_push hV hH hw1 (by
    show H1[V.2.2.1 w.1]? = some (vp_cell (V.2.1 t) (N, .inr (.inr (.inr (.inr (fun _ => none))))))
    rw [vp_cell_q, ← hH.1]; exact e1) z1 o1
  have z := kk H1 locs la hw hL hl
  have e3 : ((Value.ref w.1 :: st).map (rl V.2.2.1)) = .ref H.size :: st.map (rl V.2.2.1) := by rw [hH.1]; rfl
  rw [e3] at z
  exact z
theorem R_aast (hC : Cx m X) {a v n t ci : Nat} {r : vw_C} {vs : List Value} {f : Nat → Option Nat} {q : Int32} (hd : decode m.2.1 pc = .ok (.aastore, 1)) (ha : 16 ≤ a) (hwa : w.2 a = some (.inl (t, n, .inr (.inr (.inr (.inr f)))))) (ht : ∀ V, (tys V)[t]? = some (V.2.1 t, .object r.1)) (hwv : w.2 v = some (.inr (ci, vs))) (hc : vwCl[ci]? = some r) (j : Nat) (hq : q = nI j) (hj : j < n) (hn : n < 2 ^ 31)
    (kk : Rw m X (pc + 1) ls st (w.1, va_up w.2 a (some (.inl (t, n, .inr (.inr (.inr (.inr (va_up f j (some v)))))))) ) cl sl) : Rw m X pc ls (.ref v :: .int q :: .ref a :: st) w cl sl := by
  obtain ⟨h1, h2⟩ := vp_in_j hq hj hn
  obtain ⟨p, l, e, R, s, mm, args, below, meth, c, Z, V⟩ := X
  obtain ⟨hV, hx, hb, hml, hr, hlk, hown, hts, hK, hnm⟩ := hC
  intro H locs la hH hL hl
  have h0 : ¬ q < 0 := fun z => h1 (Or.inl z)
  obtain ⟨r', hr', cellV, g1, g2, g3, -⟩ := (hH.2.2.2 v _ hwv).2
  have hcls := (hK.1.1 ci r hc).2
  obtain ⟨kA, comp, k1, k2, k3, -⟩ := (hK.1.2 t _ (ht V)).2
  have hcomp : comp = V.1.1 ci := Option.some.inj (k3.symm.trans hcls.1)
  subst hcomp
  obtain ⟨kC, hkC, -⟩ := hcls.2
  have hA := (hH.2.2.2 a _ hwa).2
  refine W.aast hx hb hA (fun q h => by cases h) (fun h => by cases h) k1 k2 rfl hkC ⟨h0, by show _ < (arrV _ _ _).slots.size; rw [arrV_size, h2]; exact hj⟩ g1 (fun q h => by rw [g3] at h; cases h) (by rw [g2]; exact hkC) (by rw [g2]; exact va_assign hcls) rfl rfl hd (fun H1 e z oq => ?_)
  refine kk H1 _ la (HW_set hV hH ha hwa ?_ z oq) (fr_app hL (rho_fr hV ha (hH.lt hwa))) hl
  show H1[V.2.2.1 a]? = some (vp_cell (V.2.1 t) (rA V.2.2.1 (n, .inr (.inr (.inr (.inr (va_up f j (some v))))))))
  rw [e]
  show some _ = some (arrV (V.2.1 t) n (fun k => va_rf ((va_up f j (some v) k).map V.2.2.1)))
  rw [show vp_cell (V.2.1 t) (rA V.2.2.1 (n, .inr (.inr (.inr (.inr f))))) = arrV (V.2.1 t) n (fun k => va_rf ((f k).map V.2.2.1)) from rfl, arrV_store]
  congr 2
  funext k
  rw [h2]
  by_cases y : k = j
  · subst y; simp [updV, va_up, va_rf, rl]
  · simp [updV, va_up, y]
end ARULES
/-! ===== worlds while they are made: all cells below n are as they will be, but those of ex ===== -/
def sg0 : sg := (fun _ _ => 0, fun _ => 0, fun _ _ => 0)
def DN (w : aW) (n : Nat) (ex : List Nat) : Prop := w.1 = n ∧ (16 ≤ n ∧ n < 1000) ∧ (∀ i, i < 16 → w.2 i = none) ∧ (∀ i, 16 ≤ i → i < n → i ∉ ex → w.2 i = wdc sg0 i) ∧ ∀ i, n ≤ i → w.2 i = none
theorem DN.lt {w : aW} {n : Nat} {ex : List Nat} (h : DN w n ex) : n < 1000000 := Nat.lt_trans h.2.1.2 (by decide)
theorem DN.new {w : aW} {n : Nat} {ex : List Nat} (h : DN w n ex) (h9 : n < 900) (c : aE) : DN (w.1 + 1, va_up w.2 w.1 (some c)) (n + 1) (n :: ex) := by
  obtain ⟨rfl, h2, h3, h4, h5⟩ := h
  refine ⟨rfl, ⟨by omega, by omega⟩, fun i hi => ?_, fun i h6 h7 h8 => ?_, fun i hi => ?_⟩
  · show (if i = w.1 then some c else w.2 i) = none
    rw [if_neg (by omega)]; exact h3 i hi
  · have z : i ≠ w.1 ∧ i ∉ ex := by simpa using h8
    show (if i = w.1 then some c else w.2 i) = _
    rw [if_neg z.1]; exact h4 i h6 (by omega) z.2
  · show (if i = w.1 then some c else w.2 i) = none
    rw [if_neg (by omega)]; exact h5 i (by omega)
theorem DN.done {w : aW} {n a : Nat} {ex : List Nat} (h : DN w n (a :: ex)) (e : w.2 a = wdc sg0 a) : DN w n ex := by
  obtain ⟨h1, h2, h3, h4, h5⟩ := h
  refine ⟨h1, h2, h3, fun i h6 h7 h8 => ?_, h5⟩
  by_cases z : i = a
  · rw [z]; exact e
  · exact h4 i h6 h7 (by simp [z, h8])
theorem DN.up {w : aW} {n a : Nat} {ex : List Nat} (h : DN w n ex) (ha : a ∈ ex) (h16 : 16 ≤ a) (hn : a < n) (c : aE) : DN (w.1, va_up w.2 a (some c)) n ex := by
  obtain ⟨h1, h2, h3, h4, h5⟩ := h
  refine ⟨h1, h2, fun i hi => ?_, fun i h6 h7 h8 => ?_, fun i hi => ?_⟩
  · show (if i = a then some c else w.2 i) = none
    rw [if_neg (by omega)]; exact h3 i hi
  · show (if i = a then some c else w.2 i) = _
    rw [if_neg (fun z : i = a => h8 (by rw [z]; exact ha))]; exact h4 i h6 h7 h8
  · show (if i = a then some c else w.2 i) = none
    rw [if_neg (by omega)]; exact h5 i hi
theorem wdc_at {i : Nat} {d : ld} (h : LY i d) : wdc sg0 i = some (cellF sg0 i d) := by
  obtain ⟨h1, h2, h3⟩ := h
  unfold wdc
  rw [if_neg (by omega), h3]; rfl
theorem ac_int : Cond.arrayClass .int ∈ lw_gl := gmt tc_1 49 rfl (by decide +kernel)
theorem ac_byte : Cond.arrayClass .byte ∈ lw_gl := gmt tc_2 239 rfl (by decide +kernel)
theorem ac_long : Cond.arrayClass .long ∈ lw_gl := gmt tc_7 232 rfl (by decide +kernel)
section BRULES
variable {m : mi} {X : aX} {pc : Nat} {ls : List (Option Value)} {st : List Value} {w : aW} {cl sl : Nat}
/-- a row of ints that is made where it will be -/
theorem B_int (hC : Cx m X) {dd mcX msX N n : Nat} {ex : List Nat} (hR : Rd X dd mcX msX) (hd : decode m.2.1 pc = .ok (.newarray .int, 2)) (hD : DN w n ex) (h9 : n < 900) (hL : LY n (0, N, [])) (hN : N ≤ 4096) (hroom : cl + 1 ≤ mcX ∧ sl + N ≤ msX)
    (kk : ∀ w2, DN w2 (n + 1) ex → (∀ i, i < n → w2.2 i = w.2 i) → Rw m X (pc + 2) ls (.ref n :: st) w2 (cl + 1) (sl + N)) : Rw m X pc ls (.int (nI N) :: st) w cl sl := by
  have h1 := hD.1
  refine R_newA (t := 0) (ty := .int) (a0 := (N, .inl (fun _ => 0))) hC hR hd rfl ac_int (fun V => rfl) (fun _ _ h => h) (fun _ => rfl) (fun _ => rfl) (by omega) (by show N * 4 ≤ _; omega) (by rw [h1]; exact hD.lt) hroom ?_
  rw [h1]
  have z := hD.new h9 (.inl (0, N, .inl (fun _ => 0)))
  rw [h1] at z
  refine kk _ (z.done ?_) (fun i hi => ?_)
  · rw [wdc_at hL]; exact va_up_eq _ _ _
  · show (if i = n then _ else w.2 i) = _
    rw [if_neg (by omega)]
theorem B_byte (hC : Cx m X) {dd mcX msX N n : Nat} {ex : List Nat} (hR : Rd X dd mcX msX) (hd : decode m.2.1 pc = .ok (.newarray .byte, 2)) (hD : DN w n ex) (h9 : n < 900) (hL : LY n (1, N, [])) (hN : N ≤ 4096) (hroom : cl + 1 ≤ mcX ∧ sl + N ≤ msX)
    (kk : ∀ w2, DN w2 (n + 1) ex → (∀ i, i < n → w2.2 i = w.2 i) → Rw m X (pc + 2) ls (.ref n :: st) w2 (cl + 1) (sl + N)) : Rw m X pc ls (.int (nI N) :: st) w cl sl := by
  have h1 := hD.1
  refine R_newA (t := 1) (ty := .byte) (a0 := (N, .inl (fun _ => 0))) hC hR hd rfl ac_byte (fun V => rfl) (fun _ _ h => h) (fun _ => rfl) (fun _ => rfl) (by omega) (by show N * 1 ≤ _; omega) (by rw [h1]; exact hD.lt) hroom ?_
  rw [h1]
  have z := hD.new h9 (.inl (1, N, .inl (fun _ => 0)))
  rw [h1] at z
  refine kk _ (z.done ?_) (fun i hi => ?_)
  · rw [wdc_at hL]; exact va_up_eq _ _ _
  · show (if i = n then _ else w.2 i) = _
    rw [if_neg (by omega)]
theorem B_long (hC : Cx m X) {dd mcX msX N n : Nat} {ex : List Nat} (hR : Rd X dd mcX msX) (hd : decode m.2.1 pc = .ok (.newarray .long, 2)) (hD : DN w n ex) (h9 : n < 900) (hL : LY n (5, N, [])) (hN : N ≤ 4096) (hroom : cl + 1 ≤ mcX ∧ sl + N ≤ msX)
    (kk : ∀ w2, DN w2 (n + 1) ex → (∀ i, i < n → w2.2 i = w.2 i) → Rw m X (pc + 2) ls (.ref n :: st) w2 (cl + 1) (sl + N)) : Rw m X pc ls (.int (nI N) :: st) w cl sl := by
  have h1 := hD.1
  refine R_newA (t := 2) (ty := .long) (a0 := (N, .inr (.inl (fun _ => 0)))) hC hR hd rfl ac_long (fun V => rfl) (fun _ _ h => h) (fun _ => rfl) (fun _ => rfl) (by omega) (by show N * 8 ≤ _; omega) (by rw [h1]; exact hD.lt) hroom ?_
  rw [h1]
  have z := hD.new h9 (.inl (2, N, .inr (.inl (fun _ => 0))))
  rw [h1] at z
  refine kk _ (z.done ?_) (fun i hi => ?_)
  · rw [wdc_at hL]; exact va_up_eq _ _ _
  · show (if i = n then _ else w.2 i) = _
    rw [if_neg (by omega)]
/-- an object: its fields are empty as yet -/
theorem B_obj (hC : Cx m X) {dd mcX msX N ci idx n : Nat} {ex : List Nat} {C : String} {T : u_T} {ty : Nat → FieldType} {fs : List Value} (hR : Rd X dd mcX msX) (hd : decode m.2.1 pc = .ok (.new idx, 3)) (hcl : Cond.classLink m.1.cls idx C ∈ lw_gl) (hinst : Cond.instantiable C N ∈ lw_gl) (hini : Cond.initialized C ∈ lw_gl) (hc : vwCl[ci]? = some (C, T, N)) (hin : ∀ w ∈ u_ws C T N, w ∈ lw_gl) (hty : ∀ k, k < N → parseFieldDescriptor (T k).2.2.1 = some (ty k)) (hfs : ∀ j, j < N → defaultValue (ty j) = vp_V fs j) (hrn : ∀ r, fs.map (rl r) = fs) (hD : DN w n ex) (h9 : n < 900) (hroom : cl + 1 ≤ mcX ∧ sl + N ≤ msX)
    (kk : ∀ w2, DN w2 (n + 1) (n :: ex) → w2.2 n = some (.inr (ci, fs)) → (∀ i, i < n → w2.2 i = w.2 i) → Rw m X (pc + 3) ls (.ref n :: st) w2 (cl + 1) (sl + N)) : Rw m X pc ls st w cl sl := by
  have h1 := hD.1
  refine R_newO (fs := fs) hC hR hd hcl hinst hini hc hin hty hfs hrn (by rw [h1]; exact hD.lt) hroom ?_
  rw [h1]
  have z := hD.new h9 (.inr (ci, fs))
  rw [h1] at z
  refine kk _ z (va_up_eq _ _ _) (fun i hi => ?_)
  show (if i = n then _ else w.2 i) = _
  rw [if_neg (by omega)]
theorem B_put (hC : Cx m X) {a ci k idx n : Nat} {ex : List Nat} {ty : FieldType} {fs : List Value} {v : Value} (hd : decode m.2.1 pc = .ok (.putfield idx, 3)) (hf : FL m.1.cls idx ci k true ty) (hi0 : m.1.name = "<init>") (hD : DN w n ex) (ha : a ∈ ex) (h16 : 16 ≤ a) (han : a < n) (hw : w.2 a = some (.inr (ci, fs))) (hkl : k < fs.length) (hown2 : ∀ (C : String) (T : u_T) (N : Nat), vwCl[ci]? = some (C, T, N) → (T k).1 = m.1.cls) (hn : ∀ r, narrow ty (rl r v) = rl r v ∧ fits ty (rl r v) = true)
    (kk : ∀ w2, DN w2 n ex → w2.2 a = some (.inr (ci, fs.set k v)) → (∀ i, i ≠ a → w2.2 i = w.2 i) → Rw m X (pc + 3) ls st w2 cl sl) : Rw m X pc ls (v :: .ref a :: st) w cl sl := by
  refine R_putF hC hd hf hi0 h16 hw hkl hown2 hn ?_
  exact kk _ (hD.up ha h16 han _) (va_up_eq _ _ _) (fun i hi => if_neg hi)
end BRULES
