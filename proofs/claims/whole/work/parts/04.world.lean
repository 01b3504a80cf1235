theorem rho_ge {V : aV} (hV : VOK V) {a : Nat} (ha : 16 ≤ a) (hb : a < BIG) : V.2.2.1 a = V.2.2.2.size + (a - 16) := by
  have h := hV.1 (a - 16) (by omega)
  rwa [show 16 + (a - 16) = a by omega] at h
theorem rho_fr {V : aV} (hV : VOK V) {a : Nat} (ha : 16 ≤ a) (hb : a < BIG) : fr V (V.2.2.1 a) := by
  show V.2.2.2.size ≤ V.2.2.1 a
  rw [rho_ge hV ha hb]; omega
theorem rho_ne {V : aV} (hV : VOK V) {a j : Nat} (ha : 16 ≤ a) (hb : a < BIG) (hb2 : j < BIG) (hne : j ≠ a) : V.2.2.1 j ≠ V.2.2.1 a := by
  rw [rho_ge hV ha hb]
  by_cases hj : 16 ≤ j
  · rw [rho_ge hV hj hb2]; omega
  · have := hV.2 j (by omega); omega
theorem HW.lt {V : aV} {w : aW} {H : Heap} (h : HW V w H) {a : Nat} {c : aE} (e : w.2 a = some c) : a < BIG := Nat.lt_trans (h.2.2.2 a c e).1 h.2.1.2
theorem va_up_eq {α : Type} (f : Nat → α) (k : Nat) (v : α) : va_up f k v k = v := by simp [va_up]
theorem HW_set {V : aV} {w : aW} {H H1 : Heap} {a : Nat} {c c0 : aE} (hV : VOK V) (hH : HW V w H) (ha : 16 ≤ a) (h0 : w.2 a = some c0) (hc : va_at V.1 vwCl (V.2.2.1 a, cE V c) H1) (hz : H1.size = H.size) (oq : ∀ q : Nat, q ≠ V.2.2.1 a → H1[q]? = H[q]?) : HW V (w.1, va_up w.2 a (some c)) H1 := by
  obtain ⟨h1, h2, h3, h4⟩ := hH
  refine ⟨by rw [hz]; exact h1, h2, fun q hq => ?_, fun i ci hi => ?_⟩
  · have := rho_fr hV ha (Nat.lt_trans (h4 a c0 h0).1 h2.2)
    unfold fr at this
    rw [oq q (by omega)]; exact h3 q hq
  · by_cases hia : i = a
    · subst hia
      simp only [va_up_eq] at hi
      cases hi
      exact ⟨(h4 i c0 h0).1, hc⟩
    · simp only [va_up, if_neg hia] at hi
      obtain ⟨g1, g2⟩ := h4 i ci hi
      exact ⟨g1, g2.kept (oq _ (rho_ne hV ha (Nat.lt_trans (h4 a c0 h0).1 h2.2) (Nat.lt_trans g1 h2.2) hia))⟩
theorem fr_app {V : aV} {locs : List Loc} {a k : Nat} (hL : ∀ q ∈ locs, fr V q.base) (ha : fr V a) : ∀ q ∈ locs ++ [⟨a, k⟩], fr V q.base := by
  intro q hq
  rcases List.mem_append.mp hq with h | h
  · exact hL q h
  · rw [List.mem_singleton.mp h]; exact ha
theorem gl_ts {args : Array Value} {s : State} (hts : ∀ w ∈ lw_gl, w.before args s = true) {w : Cond} (h : w ∈ lw_gl) : w.before args s = true := hts w h
section WRULES
variable {m : mi} {X : aX} {pc : Nat} {ls : List (Option Value)} {st : List Value} {w : aW} {cl sl : Nat}
theorem R_get (hC : Cx m X) {a ci k idx : Nat} {fin : Bool} {ty : FieldType} {fs : List Value} {v : Value} (hd : decode m.2.1 pc = .ok (.getfield idx, 3)) (hf : FL m.1.cls idx ci k fin ty) (hw : w.2 a = some (.inr (ci, fs))) (hv : fs[k]? = some v)
    (kk : Rw m X (pc + 3) ls (v :: st) w cl sl) : Rw m X pc ls (.ref a :: st) w cl sl := by
  obtain ⟨p, l, e, R, s, mm, args, below, meth, c, Z, V⟩ := X
  obtain ⟨hV, hx, hb, hml, hr, hlk, hown, hts, hK, hnm⟩ := hC
  intro H locs la hH hL hl
  obtain ⟨C, T, N, h1, ⟨hin, -, -⟩, h3, -, -, h6⟩ := hf
  have hP : va_P V.1 vwCl [(V.2.2.1 a, .inr (ci, fs.map (rl V.2.2.1)))] H := by
    intro k q hq
    have hq2 := List.mem_of_getElem? hq
    rw [List.mem_singleton] at hq2
    subst hq2
    exact (hH.2.2.2 a _ hw).2
  have hv2 : (fs.map (rl V.2.2.1))[k]? = some (rl V.2.2.1 v) := by rw [List.getElem?_map, hv]; rfl
  rcases h6 with ⟨h6, -⟩ | ⟨host, h6⟩
  · exact va_get hx hb (fun w hw => gl_ts hts hw) hin hown hK.1 hP 0 rfl h1 k h3 (gl_ts hts h6) (fun _ h => h) hv2 hd (kk H locs la hH hL hl)
  · exact va_getN hx hb (fun w hw => gl_ts hts hw) hin hown hK.1 hP 0 rfl h1 k h3 (va_Nw.use rfl (hK.2.1 _ h6)) (fun _ h => h) hv2 hd (kk H locs la hH hL hl)
theorem R_put (hC : Cx m X) {a ci k idx : Nat} {ty : FieldType} {fs : List Value} {v : Value} (hd : decode m.2.1 pc = .ok (.putfield idx, 3)) (hf : FL m.1.cls idx ci k false ty) (ha : 16 ≤ a) (hw : w.2 a = some (.inr (ci, fs))) (hkl : k < fs.length) (hn : ∀ r, narrow ty (rl r v) = rl r v ∧ fits ty (rl r v) = true)
    (kk : Rw m X (pc + 3) ls st (w.1, va_up w.2 a (some (.inr (ci, fs.set k v)))) cl sl) : Rw m X pc ls (v :: .ref a :: st) w cl sl := by
  obtain ⟨p, l, e, R, s, mm, args, below, meth, c, Z, V⟩ := X
  obtain ⟨hV, hx, hb, hml, hr, hlk, hown, hts, hK, hnm⟩ := hC
  intro H locs la hH hL hl
  obtain ⟨C, T, N, h1, ⟨hin, ⟨ty0, hty⟩, hnn⟩, hk, hfin, hdt, h6⟩ := hf
  have hap := va_apart (own := m.1.cls) (fun w hw => gl_ts hts hw) hin ty0 hty hnn hK.1 h1
  obtain ⟨r, h2, cell, q1, q2, q3, q4⟩ := (hH.2.2.2 a _ hw).2
  have hr2 : r = (C, T, N) := Option.some.inj (h2.symm.trans h1)
  subst hr2
  obtain ⟨hS, hfc, kC, hkC, hkind⟩ := hK.1.1 ci _ h1
  obtain ⟨cf, kf, fi, f, hi, hsl⟩ := hS k hk
  have hlay := gl_ts hts (hin _ (u_in_lay hk))
  unfold u_lay at hlay
  rw [if_neg (by rw [hfin]; decide)] at hlay
  have hst := (u_facts hfc hkC (u_lays (fun w hw => gl_ts hts hw) hin hk) hi).1
  have h7 := u_store hfc hkC hkind hlay hi hdt (hn V.2.2.1).1 (hn V.2.2.1).2
  have fin : ∀ H' : Heap, H'[V.2.2.1 a]? = some (cell.setSlot f.slot (rl V.2.2.1 v)) → H'.size = H.size → (∀ q, q ≠ V.2.2.1 a → H'[q]? = H[q]?) → W p l e R s mm args below meth c H' (locs ++ [⟨V.2.2.1 a, f.slot⟩]) cl sl Z (F0 mm (pc + 3) la (st.map (rl V.2.2.1))) := by
    intro H' e1 e2 e3
    refine kk H' _ la (HW_set hV hH ha hw ?_ e2 e3) (fr_app hL (rho_fr hV ha (hH.lt hw))) hl
    rw [hsl] at e1
    refine ⟨_, h1, t_OB.to (V := updV (vp_V (fs.map (rl V.2.2.1))) k (rl V.2.2.1 v)) ⟨_, e1, q2, q3, t_set q4 hap hk _⟩ (fun j _ => ?_)⟩
    show _ = vp_V ((fs.set k v).map (rl V.2.2.1)) j
    rw [List.map_set]
    exact vp_updV_set (by simpa using hkl) _ j
  rcases h6 with ⟨h6, -⟩ | ⟨host, h6⟩
  · exact W.putK hx hb (f := f) ⟨hown, gl_ts hts h6, ⟨_, _, _, hi⟩, hst⟩ (by rw [q2]; exact h7) q1 q3 (by rw [hsl]; exact k2_hasslot (q4 k hk)) rfl rfl hd fin
  · exact va_WputK hx hb (f := f) hown (va_Nw.use rfl (hK.2.1 _ h6)) hi hst (by rw [q2]; exact h7) q1 q3 (by rw [hsl]; exact k2_hasslot (q4 k hk)) rfl rfl hd fin
theorem R_putF (hC : Cx m X) {a ci k idx : Nat} {ty : FieldType} {fs : List Value} {v : Value} (hd : decode m.2.1 pc = .ok (.putfield idx, 3)) (hf : FL m.1.cls idx ci k true ty) (hi0 : m.1.name = "<init>") (ha : 16 ≤ a) (hw : w.2 a = some (.inr (ci, fs))) (hkl : k < fs.length) (hown2 : ∀ (C : String) (T : u_T) (N : Nat), vwCl[ci]? = some (C, T, N) → (T k).1 = m.1.cls) (hn : ∀ r, narrow ty (rl r v) = rl r v ∧ fits ty (rl r v) = true)
    (kk : Rw m X (pc + 3) ls st (w.1, va_up w.2 a (some (.inr (ci, fs.set k v)))) cl sl) : Rw m X pc ls (v :: .ref a :: st) w cl sl := by
  obtain ⟨p, l, e, R, s, mm, args, below, meth, c, Z, V⟩ := X
  obtain ⟨hV, hx, hb, hml, hr, hlk, hown, hts, hK, hnm⟩ := hC
  intro H locs la hH hL hl
  obtain ⟨C, T, N, h1, ⟨hin, ⟨ty0, hty⟩, hnn⟩, hk, hfin, hdt, h6⟩ := hf
  have hap := va_apart (own := m.1.cls) (fun w hw => gl_ts hts hw) hin ty0 hty hnn hK.1 h1
  obtain ⟨r, h2, cell, q1, q2, q3, q4⟩ := (hH.2.2.2 a _ hw).2
  have hr2 : r = (C, T, N) := Option.some.inj (h2.symm.trans h1)
  subst hr2
  obtain ⟨hS, hfc, kC, hkC, hkind⟩ := hK.1.1 ci _ h1
  obtain ⟨cf, kf, fi, f, hi, hsl⟩ := hS k hk
  have hlay := gl_ts hts (hin _ (u_in_lay hk))
  unfold u_lay at hlay
  rw [if_pos hfin] at hlay
  have hst := (u_facts hfc hkC (u_lays (fun w hw => gl_ts hts hw) hin hk) hi).1
  have hcf : mm.cls = cf := by
    obtain ⟨_, _, c', _, _, _, -, -, hf', -, -, -, hown3, -⟩ := Cond.laysFinal_spec hlay
    have e1 : c' = cf := by have := hi.symm.trans hf'; simp at this; exact this.1.symm
    rw [hown2 C T N h1] at hown3
    rw [← e1]; exact Option.some.inj (hown.symm.trans hown3)
  have h7 := u_fits hfc hkC hkind (Or.inr hlay) hi hdt (hn V.2.2.1).1 (hn V.2.2.1).2
  have fin : ∀ H' : Heap, H'[V.2.2.1 a]? = some (cell.setSlot f.slot (rl V.2.2.1 v)) → H'.size = H.size → (∀ q, q ≠ V.2.2.1 a → H'[q]? = H[q]?) → W p l e R s mm args below meth c H' (locs ++ [⟨V.2.2.1 a, f.slot⟩]) cl sl Z (F0 mm (pc + 3) la (st.map (rl V.2.2.1))) := by
    intro H' e1 e2 e3
    refine kk H' _ la (HW_set hV hH ha hw ?_ e2 e3) (fr_app hL (rho_fr hV ha (hH.lt hw))) hl
    rw [hsl] at e1
    refine ⟨_, h1, t_OB.to (V := updV (vp_V (fs.map (rl V.2.2.1))) k (rl V.2.2.1 v)) ⟨_, e1, q2, q3, t_set q4 hap hk _⟩ (fun j _ => ?_)⟩
    show _ = vp_V ((fs.set k v).map (rl V.2.2.1)) j
    rw [List.map_set]
    exact vp_updV_set (by simpa using hkl) _ j
  rcases h6 with ⟨h6, -⟩ | ⟨host, h6⟩
  · exact W.putFinK hx hb hown (gl_ts hts h6) hi hst hcf (hnm.trans hi0) (by rw [q2]; exact h7) q1 q3 (by rw [hsl]; exact k2_hasslot (q4 k hk)) rfl rfl hd fin
  · refine va_Wputf hx hb hown (va_Nw.use rfl (hK.2.1 _ h6)) hi hst (Or.inr ⟨hcf, hnm.trans hi0⟩) q1 (by rw [q3]; exact fun h => by cases h) (by rw [hsl]; exact k2_hasslot (q4 k hk)) h7.1 (by rw [q2, q3]; exact h7.2) rfl rfl hd ?_
    have hlt : V.2.2.1 a < H.size := (Array.getElem?_eq_some_iff.mp q1).1
    refine fin _ ?_ ?_ ?_
    · simp [Array.getElem?_setIfInBounds, hlt]
    · simp
    · intro q hq
      simp [Array.getElem?_setIfInBounds, Ne.symm hq]
theorem arrK {V : aV} {s : State} (hK : KX V s) {t : Nat} {ty : FieldType} (ht : (tys V)[t]? = some (V.2.1 t, ty)) (n : Nat) (z : Nat → Value) : s.isArrayOf (arrV (V.2.1 t) n z) ty := (hK.1.2 t _ ht).1 n z
theorem R_iaload (hC : Cx m X) {a n : Nat} {f : Nat → Int32} {i : Int32} (hd : decode m.2.1 pc = .ok (.iaload, 1)) (hw : w.2 a = some (.inl (0, n, .inl f))) (hi : vp_in i n)
    (kk : Rw m X (pc + 1) ls (.int (f i.toNatClampNeg) :: st) w cl sl) : Rw m X pc ls (.int i :: .ref a :: st) w cl sl := by
  obtain ⟨p, l, e, R, s, mm, args, below, meth, c, Z, V⟩ := X
  obtain ⟨hV, hx, hb, hml, hr, hlk, hown, hts, hK, hnm⟩ := hC
  intro H locs la hH hL hl
  have hP : va_P V.1 vwCl [(V.2.2.1 a, .inl (V.2.1 0, n, .inl f))] H := by
    intro k q hq
    have hq2 := List.mem_of_getElem? hq
    rw [List.mem_singleton] at hq2
    subst hq2
    exact (hH.2.2.2 a _ hw).2
  exact va_iald hx hb hK.1 hP 0 0 rfl rfl hi hd (kk H locs la hH hL hl)
theorem R_baload (hC : Cx m X) {a n : Nat} {f : Nat → Int32} {i : Int32} (hd : decode m.2.1 pc = .ok (.baload, 1)) (hw : w.2 a = some (.inl (1, n, .inl f))) (hi : vp_in i n)
    (kk : Rw m X (pc + 1) ls (.int (f i.toNatClampNeg) :: st) w cl sl) : Rw m X pc ls (.int i :: .ref a :: st) w cl sl := by
  obtain ⟨p, l, e, R, s, mm, args, below, meth, c, Z, V⟩ := X
  obtain ⟨hV, hx, hb, hml, hr, hlk, hown, hts, hK, hnm⟩ := hC
  intro H locs la hH hL hl
  have hP : va_P V.1 vwCl [(V.2.2.1 a, .inl (V.2.1 1, n, .inl f))] H := by
    intro k q hq
    have hq2 := List.mem_of_getElem? hq
    rw [List.mem_singleton] at hq2
    subst hq2
    exact (hH.2.2.2 a _ hw).2
  exact va_bald hx hb hK.1 hP 0 1 rfl rfl hi hd (kk H locs la hH hL hl)
theorem R_aaload (hC : Cx m X) {a n t b : Nat} {f : Nat → Option Nat} {i : Int32} (hd : decode m.2.1 pc = .ok (.aaload, 1)) (hw : w.2 a = some (.inl (t, n, .inr (.inr (.inr (.inr f)))))) (ht : t = 3 ∨ t = 4) (hi : vp_in i n) (hb2 : f i.toNatClampNeg = some b)
    (kk : Rw m X (pc + 1) ls (.ref b :: st) w cl sl) : Rw m X pc ls (.int i :: .ref a :: st) w cl sl := by
  obtain ⟨p, l, e, R, s, mm, args, below, meth, c, Z, V⟩ := X
  obtain ⟨hV, hx, hb, hml, hr, hlk, hown, hts, hK, hnm⟩ := hC
  intro H locs la hH hL hl
  have hP : va_P V.1 vwCl [(V.2.2.1 a, .inl (V.2.1 t, n, .inr (.inr (.inr (.inr (fun j => (f j).map V.2.2.1))))))] H := by
    intro k q hq
    have hq2 := List.mem_of_getElem? hq
    rw [List.mem_singleton] at hq2
    subst hq2
    exact (hH.2.2.2 a _ hw).2
  have hk := kk H locs la hH hL hl
  have e1 : (Value.ref (V.2.2.1 b)) = va_rf ((f i.toNatClampNeg).map V.2.2.1) := by rw [hb2]; rfl
  have hk2 : W p l e R s mm args below meth c H locs cl sl Z (F0 mm (pc + 1) la (va_rf ((f i.toNatClampNeg).map V.2.2.1) :: st.map (rl V.2.2.1))) := by rw [← e1]; exact hk
  rcases ht with rfl | rfl
  · exact va_aldq hx hb hK.1 hP 0 3 rfl rfl hi hd hk2
  · exact va_aldq hx hb hK.1 hP 0 4 rfl rfl hi hd hk2
theorem R_alen (hC : Cx m X) {a n : Nat} {t : Nat} {f : Nat → Int32} (hd : decode m.2.1 pc = .ok (.arraylength, 1)) (hw : w.2 a = some (.inl (t, n, .inl f))) (ht : t = 0 ∨ t = 1)
    (kk : Rw m X (pc + 1) ls (.int (nI n) :: st) w cl sl) : Rw m X pc ls (.ref a :: st) w cl sl := by
  obtain ⟨p, l, e, R, s, mm, args, below, meth, c, Z, V⟩ := X
  obtain ⟨hV, hx, hb, hml, hr, hlk, hown, hts, hK, hnm⟩ := hC
  intro H locs la hH hL hl
  have hc : H[V.2.2.1 a]? = some (arrV (V.2.1 t) n (fun j => .int (f j))) := (hH.2.2.2 a _ hw).2
  rcases ht with rfl | rfl
  · exact W.alen hx hb hc (arrK hK (t := 0) rfl n _) (by rw [arrV_size]; rfl) rfl rfl hd (kk H locs la hH hL hl)
  · exact W.alen hx hb hc (arrK hK (t := 1) rfl n _) (by rw [arrV_size]; rfl) rfl rfl hd (kk H locs la hH hL hl)
theorem R_iastore (hC : Cx m X) {a n : Nat} {f : Nat → Int32} {i x : Int32} (hd : decode m.2.1 pc = .ok (.iastore, 1)) (ha : 16 ≤ a) (hw : w.2 a = some (.inl (0, n, .inl f))) (hi : vp_in i n)
    (kk : Rw m X (pc + 1) ls st (w.1, va_up w.2 a (some (.inl (0, n, .inl (upd f i.toNatClampNeg x))))) cl sl) : Rw m X pc ls (.int x :: .int i :: .ref a :: st) w cl sl := by
  obtain ⟨p, l, e, R, s, mm, args, below, meth, c, Z, V⟩ := X
  obtain ⟨hV, hx, hb, hml, hr, hlk, hown, hts, hK, hnm⟩ := hC
  intro H locs la hH hL hl
  have hc : H[V.2.2.1 a]? = some (arrV (V.2.1 0) n (fun j => .int (f j))) := (hH.2.2.2 a _ hw).2
  refine W.iast hx hb hc (arrK hK (t := 0) rfl n _) (fun q => by cases q) (by rw [arrV_size]; exact hi) rfl rfl hd fun H1 e z oq => ?_
  refine kk H1 _ la (HW_set hV hH ha hw ?_ z oq) (fr_app hL (rho_fr hV ha (hH.lt hw))) hl
  show H1[V.2.2.1 a]? = some (vp_cell (V.2.1 0) (n, .inl (upd f i.toNatClampNeg x)))
  rw [e, arrV_store, vp_cell_i]
  congr 2
  funext q
  by_cases hq : q = i.toNatClampNeg
  · subst hq
    simp [updV, upd]
  · simp [updV, upd, hq]
theorem R_bastore (hC : Cx m X) {a n : Nat} {f : Nat → Int32} {i x : Int32} (hd : decode m.2.1 pc = .ok (.bastore, 1)) (ha : 16 ≤ a) (hw : w.2 a = some (.inl (1, n, .inl f))) (hi : vp_in i n)
    (kk : Rw m X (pc + 1) ls st (w.1, va_up w.2 a (some (.inl (1, n, .inl (upd f i.toNatClampNeg (vp_nar .byte x)))))) cl sl) : Rw m X pc ls (.int x :: .int i :: .ref a :: st) w cl sl := by
  obtain ⟨p, l, e, R, s, mm, args, below, meth, c, Z, V⟩ := X
  obtain ⟨hV, hx, hb, hml, hr, hlk, hown, hts, hK, hnm⟩ := hC
  intro H locs la hH hL hl
  have hc : H[V.2.2.1 a]? = some (arrV (V.2.1 1) n (fun j => .int (f j))) := (hH.2.2.2 a _ hw).2
  refine W.bast hx hb hc (arrK hK (t := 1) rfl n _) (fun q => by cases q) (by rw [arrV_size]; exact hi) rfl rfl hd fun H1 e z oq => ?_
  refine kk H1 _ la (HW_set hV hH ha hw ?_ z oq) (fr_app hL (rho_fr hV ha (hH.lt hw))) hl
  show H1[V.2.2.1 a]? = some (vp_cell (V.2.1 1) (n, .inl (upd f i.toNatClampNeg (vp_nar .byte x))))
  rw [e, arrV_store, vp_cell_i]
  congr 2
  funext q
  by_cases hq : q = i.toNatClampNeg
  · subst hq
    simp [updV, upd, vp_nar, narrow]
  · simp [updV, upd, hq]
theorem R_copy (hC : Cx m X) {a a0 n0 n1 idx dd mc ms : Nat} {f g : Nat → Int32} {sp dp n : Int32} (hR : Rd X dd mc ms) (hd : decode m.2.1 pc = .ok (.invokestatic idx, 3)) (hlink : Cond.methodLink m.1.cls idx arraycopyName ∈ lw_gl) (hnat : Cond.native arraycopyName ∈ lw_gl) (hstat : Cond.static arraycopyName ∈ lw_gl) (hini : Cond.initialized "java/lang/System" ∈ lw_gl) (hdd : 1 ≤ dd) (ha : 16 ≤ a)
    (hw0 : w.2 a0 = some (.inl (0, n0, .inl f))) (hw : w.2 a = some (.inl (0, n1, .inl g))) (h1 : ¬ sp < 0) (h2 : ¬ dp < 0) (h3 : ¬ n < 0) (h4 : sp.toNatClampNeg + n.toNatClampNeg ≤ n0) (h5 : dp.toNatClampNeg + n.toNatClampNeg ≤ n1) (hcat : (st.map fun v => v.category).sum ≤ 8)
    (kk : Rw m X (pc + 3) ls st (w.1, va_up w.2 a (some (.inl (0, n1, .inl (va_cpy f g sp.toNatClampNeg dp.toNatClampNeg n.toNatClampNeg))))) cl sl) : Rw m X pc ls (.int n :: .int dp :: .ref a :: .int sp :: .ref a0 :: st) w cl sl := by
  obtain ⟨p, l, e, R, s, mm, args, below, meth, c, Z, V⟩ := X
  obtain ⟨hV, hx, hb, hml, hr, hlk, hown, hts, hK, hnm⟩ := hC
  obtain ⟨r1, r2, r3, r4⟩ := hR
  intro H locs la hH hL hl
  have nn : ∀ z : Int32, ¬ z < 0 → z.toInt = (z.toNatClampNeg : Int) := by
    intro z hz
    have hz0 : (0 : Int) ≤ z.toInt := by
      have := Int32.not_lt.mp hz
      simpa using Int32.le_iff_toInt_le.mp this
    show z.toInt = ((z.toInt.toNat : Nat) : Int)
    omega
  have hcs : ((st.map (rl V.2.2.1)).map fun v => v.category).sum = (st.map fun v => v.category).sum := by
    rw [List.map_map]
    congr 1
    exact List.map_congr_left (fun v _ => rl_cat _ v)
  intro T hT X
  have hc0 : H[V.2.2.1 a0]? = some (vp_cell (V.2.1 0) (n0, .inl f)) := (hH.2.2.2 a0 _ hw0).2
  have hc1 : H[V.2.2.1 a]? = some (vp_cell (V.2.1 0) (n1, .inl g)) := (hH.2.2.2 a _ hw).2
  obtain ⟨-, k0, hk0, cm0, hkk0⟩ := arrK hK (t := 0) rfl n0 (fun j => .int (f j))
  obtain ⟨-, k1, hk1, cm1, hkk1⟩ := arrK hK (t := 0) rfl n1 (fun j => .int (g j))
  obtain ⟨vm', X', step⟩ := X.arraycopy hx hown (gl_ts hts hlink) (gl_ts hts hnat) (gl_ts hts hstat) (gl_ts hts hini) (src := V.2.2.1 a0) (dst := V.2.2.1 a) (cs := vp_cell (V.2.1 0) (n0, .inl f)) (cd := vp_cell (V.2.1 0) (n1, .inl g)) (srcPos := sp) (destPos := dp) (n := n) (by rw [hT]; exact hc0) (by rw [hT]; exact hc1)
    (fun _ h => by cases h) (fun _ h => by cases h) (fun h => by cases h) (fun h => by cases h) hk0 hk1 hkk0 hkk1 (by simp [refKind]) h1 h2 h3
    (by rw [nn sp h1, nn n h3]; show ¬ _ > ((arrV (V.2.1 0) n0 (fun j => .int (f j))).slots.size : Int); rw [arrV_size]; omega)
    (by rw [nn dp h2, nn n h3]; show ¬ _ > ((arrV (V.2.1 0) n1 (fun j => .int (g j))).slots.size : Int); rw [arrV_size]; omega)
    (fun vm₁ _ i hi => by
      have e : (vp_cell (V.2.1 0) (n0, .inl f)).slots.getD (sp.toNatClampNeg + i) .null = .int (f (sp.toNatClampNeg + i)) := by
        show (arrV (V.2.1 0) n0 (fun j => .int (f j))).slots.getD _ _ = _
        rw [Array.getD_eq_getD_getElem?, arrV_read _ _ (by omega)]
        rfl
      refine ⟨?_, ?_⟩
      · rw [e]
        rfl
      · rw [e]
        exact trivial)
    (g := F0 mm pc la (.int n :: .int dp :: .ref (V.2.2.1 a) :: .int sp :: .ref (V.2.2.1 a0) :: st.map (rl V.2.2.1))) rfl (by rw [hml]; exact hl.1) (rest := st.map (rl V.2.2.1)) rfl (by rw [hb]; exact hd) (by omega) (by
      show 2 * 0 + _ + _ ≤ _
      have hq : nativeFrameWords "java/lang/System" "arraycopy" 5 + 11 ≤ 100 := by decide +kernel
      rw [hcs]; omega)
  have e1 : copied (vp_cell (V.2.1 0) (n0, .inl f)) (vp_cell (V.2.1 0) (n1, .inl g)) sp dp n = vp_cell (V.2.1 0) (n1, .inl (va_cpy f g sp.toNatClampNeg dp.toNatClampNeg n.toNatClampNeg)) := va_copied (fun z => .int z) _ _ f g h4
  rw [e1] at X' step
  have hlt : V.2.2.1 a < H.size := (Array.getElem?_eq_some_iff.mp hc1).1
  have hheap : ((T.setVm vm').setCell (V.2.2.1 a) (vp_cell (V.2.1 0) (n1, .inl (va_cpy f g sp.toNatClampNeg dp.toNatClampNeg n.toNatClampNeg)))).heap = H.setIfInBounds (V.2.2.1 a) (vp_cell (V.2.1 0) (n1, .inl (va_cpy f g sp.toNatClampNeg dp.toNatClampNeg n.toNatClampNeg))) := by rw [← hT]; rfl
  have oq : ∀ q : Nat, q ≠ V.2.2.1 a → (H.setIfInBounds (V.2.2.1 a) (vp_cell (V.2.1 0) (n1, .inl (va_cpy f g sp.toNatClampNeg dp.toNatClampNeg n.toNatClampNeg))))[q]? = H[q]? := fun q hq => by simp [Array.getElem?_setIfInBounds, Ne.symm hq]
  obtain ⟨t, a1, b1⟩ := kk _ _ la (HW_set hV hH ha hw (show (H.setIfInBounds (V.2.2.1 a) _)[V.2.2.1 a]? = some _ by simp [Array.getElem?_setIfInBounds, hlt]; rfl) (by simp) oq) (fun q hq => by
      rcases List.mem_append.mp hq with h | h
      · exact hL q h
      · obtain ⟨z, -, hz⟩ := List.mem_map.mp h
        rw [← hz]
        exact rho_fr hV ha (hH.lt hw)) hl _ hheap X'
  exact ⟨t, step t a1, b1⟩
end WRULES
