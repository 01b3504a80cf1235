theorem aPc_blind {V : aV} {as : List Value} {w : aW} : FrameBlind (aPc V as w) := fun a U g mk h => ⟨h.1, h.2.1, KX.same (s := U) (U := U.calling g mk a) rfl h.2.2⟩
theorem wsOf_good {j : mi} (hj : MI j) : GoodIn lw_gl (wsOf j) := by
  intro w hw
  rcases List.mem_cons.mp hw with rfl | h
  · exact ⟨hj.2.1, good_of_word (List.mem_filter.mp hj.2.1).2⟩
  · exact ⟨h, good_of_word (List.mem_filter.mp h).2⟩
theorem cat_map (r : Nat → Nat) (st : List Value) : ((st.map (rl r)).map fun v => v.category).sum = (st.map fun v => v.category).sum := by
  rw [List.map_map]
  congr 1
  exact List.map_congr_left (fun v _ => rl_cat _ v)
theorem run_go {p : Program} {l : Launch} {e : Env} {R : Room} {s : State} {mm : MethodId} {args : Array Value} {below : List Frame} {meth : Method} {c : Code} {H : Heap} {locs : List Loc} {cl sl mc ms : Nat} {Z : State → Prop} {V : aV} {pc : Nat} {la : Array Slot} {st0 st : List Value} {Q : Option Value → aW → Prop} {a : Array Value}
    (hL : ∀ q ∈ locs, fr V q.base)
    (hr : va_Run p l e R s mm args below meth c H locs cl sl mc ms (F0 mm pc la st0) (st.map (rl V.2.2.1)) (aQc V Q a) (fr V))
    (kk : ∀ (r : Option Value) (w : aW), Q r w → ∀ (H1 : Heap) (locs1 : List Loc), HW V w H1 → (∀ q ∈ locs1, fr V q.base) → W p l e R s mm args below meth c H1 locs1 (cl + mc) (sl + ms) Z (F0 mm (pc + 3) la ((r.toList ++ st).map (rl V.2.2.1)))) :
    W p l e R s mm args below meth c H locs cl sl Z (F0 mm pc la st0) := by
  intro T hT X
  obtain ⟨v, st₀, t, T', L, h0, X', hL2, e1, e2, ⟨r, w, hv, hq, hw⟩, stp⟩ := hr T hT X
  cases hv
  obtain ⟨t2, a1, b1⟩ := kk r w hq T'.heap (locs ++ L) (by rw [e1]; exact hw) (fun q hq => (List.mem_append.mp hq).elim (hL q) (hL2 q)) T' rfl X'
  refine ⟨t2, stp t2 ?_, b1⟩
  have e3 : ((r.toList ++ st).map (rl V.2.2.1)) = (r.map (rl V.2.2.1)).toList ++ st.map (rl V.2.2.1) := by
    cases r <;> simp
  rw [e3] at a1
  exact a1
section CRULES
variable {m : mi} {X : aX} {pc : Nat} {ls : List (Option Value)} {st : List Value} {w : aW} {cl sl : Nat}
theorem R_callV (hC : Cx m X) {j : mi} {n idx a ci d dd mc ms mcX msX N : Nat} {T : u_T} {fs As : List Value} {Q : Option Value → aW → Prop} (hR : Rd X dd mcX msX) (hd : decode m.2.1 pc = .ok (.invokevirtual idx, 3)) (hj : MV j n) (hl : ML m.1.cls idx j) (hw : w.2 a = some (.inr (ci, fs))) (hcl : vwCl[ci]? = some (j.1.cls, T, N)) (hM : Mt j d mc ms (.ref a :: As) w Q)
    (hn : As.length = n) (hdd : d + 1 ≤ dd) (hroom : cl + mc ≤ mcX ∧ sl + ms ≤ msX) (hcat : (st.map fun v => v.category).sum ≤ 8)
    (kk : ∀ (r : Option Value) (w' : aW), Q r w' → Rw m X (pc + 3) ls (r.toList ++ st) w' (cl + mc) (sl + ms)) : Rw m X pc ls (As.reverse ++ .ref a :: st) w cl sl := by
  obtain ⟨p, l, e, R, s, mm, args, below, meth, c, Z, V⟩ := X
  obtain ⟨hV, hx, hb, hml, hr, hlk, hown, hts, hK, hnm⟩ := hC
  obtain ⟨r1, r2, r3, r4⟩ := hR
  intro H locs la hH hL hl2
  have hcb : Cond.code j.1 j.2.1 j.2.2.1 j.2.2.2 ∈ wsOf j := List.mem_cons_self
  have hrec : ∃ cellB : Cell, H[V.2.2.1 a]? = some cellB ∧ cellB.vm.isStatics = false ∧ s.vm.findClass j.1.cls = some cellB.cls := by
    have hP : va_P V.1 vwCl [(V.2.2.1 a, .inr (ci, fs.map (rl V.2.2.1)))] H := by
      intro k q hq
      have hq2 := List.mem_of_getElem? hq
      rw [List.mem_singleton] at hq2
      subst hq2
      exact (hH.2.2.2 a _ hw).2
    exact va_recv hK.1 hP (ci := ci) (q0 := 0) hcl rfl
  have hpre : PreV s H j.1.cls (V.2.2.1 a) (aPc V (.ref a :: As) w) (As.map (rl V.2.2.1)) := ⟨aPc_blind, hrec, fun U hU hW => ⟨rfl, by rw [hU]; exact hH, hK.moved hW⟩⟩
  have hsig : ∀ sig, parseMethodDescriptor j.1.desc = some sig → n = sig.parameters.length := fun sig h => by
    have h2 := hj.2.2.2
    rw [h] at h2
    exact (Option.some.inj h2).symm
  have hst : (As.reverse ++ .ref a :: st).map (rl V.2.2.1) = (As.map (rl V.2.2.1)).reverse ++ .ref (V.2.2.1 a) :: st.map (rl V.2.2.1) := by
    rw [List.map_append, List.map_reverse]; rfl
  have hrm : (rmD d mc ms).frames + 1 ≤ R.frames ∧ 8 + (j.2.2.1 + 11) + (rmD d mc ms).locals ≤ R.locals := by
    have := hj.1.2.2.2.2
    constructor
    · show d + 1 ≤ _; omega
    · show 8 + (j.2.2.1 + 11) + (60 * d + 60) ≤ _; omega
  have hroom2 : cl + mc ≤ R.cells ∧ sl + ms ≤ R.slots := ⟨by omega, by omega⟩
  refine run_go (a := (Value.ref (V.2.2.1 a) :: As.map (rl V.2.2.1)).toArray) (Q := Q) hL ?_ (fun r w' hq H1 locs1 g1 g2 => kk r w' hq H1 locs1 la g1 g2 hl2)
  rcases hl with hl | ⟨host, hl⟩
  · exact va_runV (C := j.1.cls) (bytes := j.2.1) (maxL := j.2.2.1) (ret := j.2.2.2) (n := n) ⟨hx, hb, hml, hown, hts⟩ (hM l V hV) ⟨⟨rfl, rfl, hrm.1, hrm.2, pay_in hts (wsOf_good hj.1), hcb, gl_ts hts hj.1.2.1, gl_ts hts hj.1.2.2.1, hj.1.2.2.2.1, hsig, gl_ts hts hl⟩, gl_ts hts hj.2.1, gl_ts hts hj.2.2.1⟩ hpre rfl (by rw [List.length_map]; exact hn) hl2.1 hst (lv_room (by rw [cat_map]; exact hcat)) hd hroom2
  · exact va_runVN (C := j.1.cls) (bytes := j.2.1) (maxL := j.2.2.1) (ret := j.2.2.2) (n := n) ⟨hx, hb, hml, hown, hts⟩ (hM l V hV) ⟨⟨⟨rfl, rfl, hrm.1, hrm.2, pay_in hts (wsOf_good hj.1), hcb⟩, gl_ts hts hj.1.2.1, gl_ts hts hj.1.2.2.1, hj.1.2.2.2.1, hsig, va_Nw.use rfl (hK.2.1 _ hl)⟩, gl_ts hts hj.2.1, gl_ts hts hj.2.2.1⟩ hpre rfl (by rw [List.length_map]; exact hn) hl2.1 hst (lv_room (by rw [cat_map]; exact hcat)) hd hroom2
theorem R_callS (hC : Cx m X) {j : mi} {n idx d dd mc ms mcX msX : Nat} {As : List Value} {Q : Option Value → aW → Prop} (hR : Rd X dd mcX msX) (hd : decode m.2.1 pc = .ok (.invokestatic idx, 3)) (hj : MS j n) (hl : ML m.1.cls idx j) (hM : Mt j d mc ms As w Q)
    (hn : As.length = n) (hdd : d + 1 ≤ dd) (hroom : cl + mc ≤ mcX ∧ sl + ms ≤ msX) (hcat : (st.map fun v => v.category).sum ≤ 8)
    (kk : ∀ (r : Option Value) (w' : aW), Q r w' → Rw m X (pc + 3) ls (r.toList ++ st) w' (cl + mc) (sl + ms)) : Rw m X pc ls (As.reverse ++ st) w cl sl := by
  obtain ⟨p, l, e, R, s, mm, args, below, meth, c, Z, V⟩ := X
  obtain ⟨hV, hx, hb, hml, hr, hlk, hown, hts, hK, hnm⟩ := hC
  obtain ⟨r1, r2, r3, r4⟩ := hR
  intro H locs la hH hL hl2
  have hcb : Cond.code j.1 j.2.1 j.2.2.1 j.2.2.2 ∈ wsOf j := List.mem_cons_self
  have hpre : PreS s H (aPc V As w) (As.map (rl V.2.2.1)) := ⟨aPc_blind, fun U hU hW => ⟨rfl, by rw [hU]; exact hH, hK.moved hW⟩⟩
  have hsig : ∀ sig, parseMethodDescriptor j.1.desc = some sig → n = sig.parameters.length := fun sig h => by
    have h2 := hj.2.2
    rw [h] at h2
    exact (Option.some.inj h2).symm
  have hst : (As.reverse ++ st).map (rl V.2.2.1) = (As.map (rl V.2.2.1)).reverse ++ st.map (rl V.2.2.1) := by
    rw [List.map_append, List.map_reverse]
  have hrm : (rmD d mc ms).frames + 1 ≤ R.frames ∧ 8 + (j.2.2.1 + 11) + (rmD d mc ms).locals ≤ R.locals := by
    have := hj.1.2.2.2.2
    constructor
    · show d + 1 ≤ _; omega
    · show 8 + (j.2.2.1 + 11) + (60 * d + 60) ≤ _; omega
  have hroom2 : cl + mc ≤ R.cells ∧ sl + ms ≤ R.slots := ⟨by omega, by omega⟩
  refine run_go (a := (As.map (rl V.2.2.1)).toArray) (Q := Q) hL ?_ (fun r w' hq H1 locs1 g1 g2 => kk r w' hq H1 locs1 la g1 g2 hl2)
  rcases hl with hl | ⟨host, hl⟩
  · exact va_runS (bytes := j.2.1) (maxL := j.2.2.1) (ret := j.2.2.2) (n := n) ⟨hx, hb, hml, hown, hts⟩ (hM l V hV) ⟨⟨rfl, rfl, hrm.1, hrm.2, pay_in hts (wsOf_good hj.1), hcb, gl_ts hts hj.1.2.1, gl_ts hts hj.1.2.2.1, hj.1.2.2.2.1, hsig, gl_ts hts hl⟩, gl_ts hts hj.2.1⟩ hpre rfl (by rw [List.length_map]; exact hn) hl2.1 hst (lv_room (by rw [cat_map]; exact hcat)) hd hroom2
  · exact va_runSN (bytes := j.2.1) (maxL := j.2.2.1) (ret := j.2.2.2) (n := n) ⟨hx, hb, hml, hown, hts⟩ (hM l V hV) ⟨⟨⟨rfl, rfl, hrm.1, hrm.2, pay_in hts (wsOf_good hj.1), hcb⟩, gl_ts hts hj.1.2.1, gl_ts hts hj.1.2.2.1, hj.1.2.2.2.1, hsig, va_Nw.use rfl (hK.2.1 _ hl)⟩, gl_ts hts hj.2.1, trivial⟩ hpre rfl (by rw [List.length_map]; exact hn) hl2.1 hst (lv_room (by rw [cat_map]; exact hcat)) hd hroom2
theorem R_callI (hC : Cx m X) {j : mi} {n idx a d dd mc ms mcX msX : Nat} {As : List Value} {Q : Option Value → aW → Prop} (hR : Rd X dd mcX msX) (hd : decode m.2.1 pc = .ok (.invokespecial idx, 3)) (hj : MN j n) (hl : ML m.1.cls idx j) (hM : Mt j d mc ms (.ref a :: As) w Q)
    (hn : As.length = n) (hdd : d + 1 ≤ dd) (hroom : cl + mc ≤ mcX ∧ sl + ms ≤ msX) (hcat : (st.map fun v => v.category).sum ≤ 8)
    (kk : ∀ (r : Option Value) (w' : aW), Q r w' → Rw m X (pc + 3) ls (r.toList ++ st) w' (cl + mc) (sl + ms)) : Rw m X pc ls (As.reverse ++ .ref a :: st) w cl sl := by
  obtain ⟨p, l, e, R, s, mm, args, below, meth, c, Z, V⟩ := X
  obtain ⟨hV, hx, hb, hml, hr, hlk, hown, hts, hK, hnm⟩ := hC
  obtain ⟨r1, r2, r3, r4⟩ := hR
  intro H locs la hH hL hl2
  have hcb : Cond.code j.1 j.2.1 j.2.2.1 none ∈ wsOf j := by rw [← hj.2.2.1]; exact List.mem_cons_self
  have hcg : Cond.code j.1 j.2.1 j.2.2.1 none ∈ lw_gl := by rw [← hj.2.2.1]; exact hj.1.2.1
  have hpre : PreS s H (aPc V (.ref a :: As) w) (.ref (V.2.2.1 a) :: As.map (rl V.2.2.1)) := ⟨aPc_blind, fun U hU hW => ⟨rfl, by rw [hU]; exact hH, hK.moved hW⟩⟩
  have hsig : ∀ sig, parseMethodDescriptor j.1.desc = some sig → n = sig.parameters.length := fun sig h => by
    have h2 := hj.2.2.2.2
    rw [h] at h2
    exact (Option.some.inj h2).symm
  have hst : (As.reverse ++ .ref a :: st).map (rl V.2.2.1) = (As.map (rl V.2.2.1)).reverse ++ .ref (V.2.2.1 a) :: st.map (rl V.2.2.1) := by
    rw [List.map_append, List.map_reverse]; rfl
  have hrm : (rmD d mc ms).frames + 1 ≤ R.frames ∧ 8 + (j.2.2.1 + 11) + (rmD d mc ms).locals ≤ R.locals := by
    have := hj.1.2.2.2.2
    constructor
    · show d + 1 ≤ _; omega
    · show 8 + (j.2.2.1 + 11) + (60 * d + 60) ≤ _; omega
  have hroom2 : cl + mc ≤ R.cells ∧ sl + ms ≤ R.slots := ⟨by omega, by omega⟩
  refine run_go (a := (Value.ref (V.2.2.1 a) :: As.map (rl V.2.2.1)).toArray) (Q := Q) hL ?_ (fun r w' hq H1 locs1 g1 g2 => kk r w' hq H1 locs1 la g1 g2 hl2)
  rcases hl with hl | ⟨host, hl⟩
  · exact va_runI (bytes := j.2.1) (maxL := j.2.2.1) (n := n) ⟨hx, hb, hml, hown, hts⟩ (hM l V hV) ⟨⟨rfl, rfl, hrm.1, hrm.2, pay_in hts (wsOf_good hj.1), hcb, gl_ts hts hcg, gl_ts hts hj.1.2.2.1, hj.1.2.2.2.1, hsig, gl_ts hts hl⟩, hj.2.1, gl_ts hts hj.2.2.2.1⟩ hpre rfl (by rw [List.length_map]; exact hn) hl2.1 hst (lv_room (by rw [cat_map]; exact hcat)) hd hroom2
  · exact va_runIN (bytes := j.2.1) (maxL := j.2.2.1) (n := n) ⟨hx, hb, hml, hown, hts⟩ (hM l V hV) ⟨⟨⟨rfl, rfl, hrm.1, hrm.2, pay_in hts (wsOf_good hj.1), hcb⟩, gl_ts hts hcg, gl_ts hts hj.1.2.2.1, hj.1.2.2.2.1, hsig, va_Nw.use rfl (hK.2.1 _ hl)⟩, hj.2.1, gl_ts hts hj.2.2.2.1⟩ hpre rfl (by rw [List.length_map]; exact hn) hl2.1 hst (lv_room (by rw [cat_map]; exact hcat)) hd hroom2
theorem R_obj (hC : Cx m X) {idx a dd mcX msX : Nat} (hR : Rd X dd mcX msX) (hd : decode m.2.1 pc = .ok (.invokespecial idx, 3)) (hdd : 1 ≤ dd) (hlink : Cond.methodLink m.1.cls idx Lib.objectInit ∈ lw_gl) (hinst : Cond.instanceMethod Lib.objectInit ∈ lw_gl) (hcode : Cond.code Lib.objectInit ⟨#[0xb1]⟩ 1 none ∈ lw_gl) (hcat : (st.map fun v => v.category).sum ≤ 8)
    (kk : Rw m X (pc + 3) ls st w cl sl) : Rw m X pc ls (.ref a :: st) w cl sl := by
  obtain ⟨p, l, e, R, s, mm, args, below, meth, c, Z, V⟩ := X
  obtain ⟨hV, hx, hb, hml, hr, hlk, hown, hts, hK, hnm⟩ := hC
  obtain ⟨r1, r2, r3, r4⟩ := hR
  intro H locs la hH hL hl
  refine W.objInit hx hb hown (gl_ts hts hlink) (gl_ts hts hinst) (gl_ts hts hcode) rfl (by rw [hml]; exact hl.1) rfl hd (by omega) ?_ (kk H locs la hH hL hl)
  show 2 * 0 + ((st.map (rl V.2.2.1)).map fun v => v.category).sum + 12 ≤ _
  rw [cat_map]; omega
theorem R_iret (hC : Cx m X) {Q : Option Value → aW → Prop} {v : Int32} (hT : Rt X cl sl Q) (hd : decode m.2.1 pc = .ok (.ireturn, 1)) (hret : m.2.2.2 = some .int) (hq : Q (some (.int v)) w) : Rw m X pc ls [.int v] w cl sl := by
  obtain ⟨p, l, e, R, s, mm, args, below, meth, c, Z, V⟩ := X
  obtain ⟨hV, hx, hb, hml, hr, hlk, hown, hts, hK, hnm⟩ := hC
  intro H locs la hH hL hl
  have hT : Z = MQ below (aQc V Q) args s cl sl (fr V) := hT
  subst hT
  exact W.iret hx hb (hr.trans hret) (fun t ht hW => ⟨some (.int v), w, rfl, hq, by rw [ht]; exact hH⟩) hL hd hlk
theorem R_zret (hC : Cx m X) {Q : Option Value → aW → Prop} {v : Int32} {ty : FieldType} (hT : Rt X cl sl Q) (hd : decode m.2.1 pc = .ok (.ireturn, 1)) (hret : m.2.2.2 = some ty) (hn : narrow ty (.int v) = .int v) (hq : Q (some (.int v)) w) : Rw m X pc ls [.int v] w cl sl := by
  obtain ⟨p, l, e, R, s, mm, args, below, meth, c, Z, V⟩ := X
  obtain ⟨hV, hx, hb, hml, hr, hlk, hown, hts, hK, hnm⟩ := hC
  intro H locs la hH hL hl
  have hT : Z = MQ below (aQc V Q) args s cl sl (fr V) := hT
  subst hT
  exact W.zret hx hb (hr.trans hret) hn (fun t ht hW => ⟨some (.int v), w, rfl, hq, by rw [ht]; exact hH⟩) hL hd hlk
theorem R_vret (hC : Cx m X) {Q : Option Value → aW → Prop} (hT : Rt X cl sl Q) (hd : decode m.2.1 pc = .ok (.return_, 1)) (hret : m.2.2.2 = none) (hq : Q none w) : Rw m X pc ls [] w cl sl := by
  obtain ⟨p, l, e, R, s, mm, args, below, meth, c, Z, V⟩ := X
  obtain ⟨hV, hx, hb, hml, hr, hlk, hown, hts, hK, hnm⟩ := hC
  intro H locs la hH hL hl
  have hT : Z = MQ below (aQc V Q) args s cl sl (fr V) := hT
  subst hT
  exact W.vret hx hb (hr.trans hret) (fun t ht hW => ⟨none, w, rfl, hq, by rw [ht]; exact hH⟩) hL hd hlk
theorem R_aret (hC : Cx m X) {Q : Option Value → aW → Prop} {a : Nat} {n : String} (hT : Rt X cl sl Q) (hd : decode m.2.1 pc = .ok (.areturn, 1)) (hret : m.2.2.2 = some (.object n)) (hq : Q (some (.ref a)) w) : Rw m X pc ls [.ref a] w cl sl := by
  obtain ⟨p, l, e, R, s, mm, args, below, meth, c, Z, V⟩ := X
  obtain ⟨hV, hx, hb, hml, hr, hlk, hown, hts, hK, hnm⟩ := hC
  intro H locs la hH hL hl
  have hT : Z = MQ below (aQc V Q) args s cl sl (fr V) := hT
  subst hT
  exact W.aret hx hb (hr.trans hret) (Or.inl ⟨n, rfl⟩) (Or.inr ⟨_, rfl⟩) (fun t ht hW => ⟨some (.ref a), w, rfl, hq, by rw [ht]; exact hH⟩) hL hd hlk
theorem R_widen {cl' sl' : Nat} (h1 : cl ≤ cl') (h2 : sl ≤ sl') (k : Rw m X pc ls st w cl' sl') : Rw m X pc ls st w cl sl := by
  obtain ⟨p, l, e, R, s, mm, args, below, meth, c, Z, V⟩ := X
  intro H locs la hH hL hl
  exact W.widen h1 h2 (k H locs la hH hL hl)
end CRULES
/-- the locals at a method's entry -/
def entL : List Value → List (Option Value)
  | [] => []
  | v :: t => if v.category = 2 then some v :: none :: entL t else some v :: entL t
def ent (as : List Value) (n : Nat) : List (Option Value) := entL as ++ List.replicate (n - (entL as).length) none
theorem lvl_none (r : Nat → Nat) : ∀ (n i : Nat), lvl r i (List.replicate n none) = []
  | 0, _ => rfl
  | n + 1, i => by rw [List.replicate_succ, lvl, lvl_none r n]
theorem lvl_ent (r : Nat → Nat) (n : Nat) : ∀ (as : List Value) (i : Nat), lvl r i (entL as ++ List.replicate n none) = lv_args i (as.map (rl r))
  | [], i => by simp [entL, lv_args, lvl_none]
  | v :: t, i => by
    rw [List.map_cons, lv_args, rl_cat]
    by_cases h : v.category = 2
    · simp only [entL, h, if_true, List.cons_append, lvl]
      rw [lvl_ent r n t]
    · simp only [entL, h, if_false, List.cons_append, lvl]
      rw [lvl_ent r n t]
theorem ent_len (r : Nat → Nat) : ∀ (as : List Value), (lg_sl (as.map (rl r))).length = (entL as).length
  | [] => rfl
  | v :: t => by
    have ih := ent_len r t
    simp only [lg_sl, List.map_cons, List.flatMap_cons, List.length_append] at ih ⊢
    rw [ih, rl_cat]
    by_cases h : v.category = 2
    · simp [entL, h]; omega
    · simp [entL, h]; omega
theorem Mt.of {m : mi} {d mc ms : Nat} {as : List Value} {w : aW} {Q : Option Value → aW → Prop} (hI : MI m) (hlen : (entL as).length ≤ m.2.2.1)
    (h : ∀ X : aX, Cx m X → Rd X d mc ms → Rt X mc ms Q → Rw m X 0 (ent as m.2.2.1) [] w 0 0) : Mt m d mc ms as w Q := by
  intro l V hV
  refine Met.ofW (cc := m.2.1) (maxL := m.2.2.1) (ret := m.2.2.2) hI.1 rfl ?_
  intro p e s mm args below meth c s₁ B hml hv
  obtain ⟨rfl, hH, hK⟩ := hv
  have hts := atoms_spec (ws := wsOf m) B.pre
  have hown : s.vm.findClass m.1.cls = some mm.cls := findClass_of_methodNamed B.named
  have hent := lv_entry (as.map (rl V.2.2.1)) (n := m.2.2.1) (by rw [ent_len]; exact hlen)
  have hk := h (p, l, e, (headSpec (wsOf m) (rmD d mc ms)).room, s, mm, (as.map (rl V.2.2.1)).toArray, below, meth, c, MQ below (aQc V Q) (as.map (rl V.2.2.1)).toArray s mc ms (fr V), V) ⟨hV, B.exec, B.bytes, hml, B.returns, B.notSynchronized, hown, (fun w hw => hts w (List.mem_cons_of_mem _ hw)), hK, (name_of_methodNamed B.named B.method).1⟩ ⟨Nat.le_refl _, Nat.le_refl _, Nat.le_refl _, Nat.le_refl _⟩ rfl
  rw [lg_entry_eq]
  refine hk s.heap [] _ hH (fun q hq => by cases hq) ?_
  unfold ent
  rw [lvl_ent]
  exact hent
