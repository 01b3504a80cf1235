/-! ===== String constants ===== -/
theorem kl_value : Cond.fieldLink RJ0 9 RJ0 "value" "[B" ∈ lw_gl := gmt tc_8 10 rfl (by decide +kernel)
theorem kl_coder : Cond.fieldLink RJ0 15 RJ0 "coder" "B" ∈ lw_gl := gmt tc_8 9 rfl (by decide +kernel)
theorem kl_compact : Cond.fieldLink RJ0 38 RJ0 "COMPACT_STRINGS" "Z" ∈ lw_gl := gmt tc_2 159 rfl (by decide +kernel)
theorem kl_sioobe : Cond.fieldLink RJ0 1053 "jdk/internal/util/Preconditions" "SIOOBE_FORMATTER" "Ljava/util/function/BiFunction;" ∈ lw_gl := gmt tc_2 202 rfl (by decide +kernel)
theorem kl_signs : Cond.fieldLink RX4 48 RX4 "SIGNS" "[I" ∈ lw_gl := gmt tc_2 140 rfl (by decide +kernel)
/-- the bytes of the i-th constant -/
def kby (i : Nat) : List Int32 := match kst[i]? with
  | some k => k.2.2.2
  | none => []
theorem HW.kq {V : aV} {w : aW} {H : Heap} (h : HW V w H) : ∀ a : Nat, a < V.2.2.2.size → ¬ fr V a → H[a]? = V.2.2.2[a]? := fun a ha _ => h.2.2.1 a ha
theorem kst_ex : ∀ i, i < 7 → ∃ k, kst[i]? = some k ∧ kby i = k.2.2.2 := by
  intro i hi
  rcases (by omega : i = 0 ∨ i = 1 ∨ i = 2 ∨ i = 3 ∨ i = 4 ∨ i = 5 ∨ i = 6) with rfl | rfl | rfl | rfl | rfl | rfl | rfl <;> exact ⟨_, rfl, rfl⟩
theorem kS {V : aV} {s : State} (hK : KX V s) {i : Nat} (hi : i < 7) : vk_S 1 [(kby i).length] [kby i] (fun _ => V.2.2.1 (2 + i)) (fun _ => V.2.2.1 (9 + i)) (fr V) s V.2.2.2 := by
  obtain ⟨k, h1, h2⟩ := kst_ex i hi
  rw [h2]; exact (hK.2.2.1 i hi k h1).2
section STRR
variable {m : mi} {X : aX} {pc : Nat} {ls : List (Option Value)} {st : List Value} {w : aW} {cl sl : Nat}
theorem R_ldS (hC : Cx m X) (i : Nat) {idx : Nat} {tx : String} {bs : List Int32} (hi : i < 7) (hk : kst[i]? = some (m.1.cls, idx, tx, bs)) (hd : decode m.2.1 pc = .ok (.ldc idx, 2)) (kk : Rw m X (pc + 2) ls (.ref (2 + i) :: st) w cl sl) : Rw m X pc ls st w cl sl := by
  obtain ⟨p, l, e, R, s, mm, args, below, meth, c, Z, V⟩ := X
  obtain ⟨hV, hx, hb, hml, hr, hlk, hown, hts, hK, hnm⟩ := hC
  intro H locs la hH hL hl
  exact va_ldcS hx hb hown (hK.2.2.1 i hi _ hk).1 hd (kk H locs la hH hL hl)
theorem R_ldSw (hC : Cx m X) (i : Nat) {idx : Nat} {tx : String} {bs : List Int32} (hi : i < 7) (hk : kst[i]? = some (m.1.cls, idx, tx, bs)) (hd : decode m.2.1 pc = .ok (.ldc_w idx, 3)) (kk : Rw m X (pc + 3) ls (.ref (2 + i) :: st) w cl sl) : Rw m X pc ls st w cl sl := by
  obtain ⟨p, l, e, R, s, mm, args, below, meth, c, Z, V⟩ := X
  obtain ⟨hV, hx, hb, hml, hr, hlk, hown, hts, hK, hnm⟩ := hC
  intro H locs la hH hL hl T hT X'
  have hZ := (hK.2.2.1 i hi _ hk).1
  obtain ⟨t, a1, b1⟩ := kk H locs la hH hL hl T hT X'
  exact ⟨t, X'.ldcStringW hx hown (text := tx) (a := V.2.2.1 (2 + i)) hZ.1 hZ.2 (g := F0 mm pc la (st.map (rl V.2.2.1))) rfl (by rw [hb]; exact hd) t a1, b1⟩
theorem R_sval (hC : Cx m X) {i : Nat} (hi : i < 7) (hm : m.1.cls = RJ0) (hd : decode m.2.1 pc = .ok (.getfield 9, 3)) (kk : Rw m X (pc + 3) ls (.ref (9 + i) :: st) w cl sl) : Rw m X pc ls (.ref (2 + i) :: st) w cl sl := by
  obtain ⟨p, l, e, R, s, mm, args, below, meth, c, Z, V⟩ := X
  obtain ⟨hV, hx, hb, hml, hr, hlk, hown, hts, hK, hnm⟩ := hC
  intro H locs la hH hL hl
  obtain ⟨cf, k, fi, f, cell, h1, h2, h3, h4, h5, h6⟩ := (((kS hK hi).1 0 (by decide)).2.2.1).kept hH.kq
  exact W.getf hx hb hown (by rw [hm]; exact gl_ts hts kl_value) h1 h2 h3 h4 (v := .ref (V.2.2.1 (9 + i))) h5 rfl rfl hd (kk H locs la hH hL hl)
theorem R_scod (hC : Cx m X) {i : Nat} (hi : i < 7) (hm : m.1.cls = RJ0) (hd : decode m.2.1 pc = .ok (.getfield 15, 3)) (kk : Rw m X (pc + 3) ls (.int 0 :: st) w cl sl) : Rw m X pc ls (.ref (2 + i) :: st) w cl sl := by
  obtain ⟨p, l, e, R, s, mm, args, below, meth, c, Z, V⟩ := X
  obtain ⟨hV, hx, hb, hml, hr, hlk, hown, hts, hK, hnm⟩ := hC
  intro H locs la hH hL hl
  obtain ⟨cf, k, fi, f, cell, h1, h2, h3, h4, h5, h6⟩ := (((kS hK hi).1 0 (by decide)).2.1).kept hH.kq
  exact W.getf hx hb hown (by rw [hm]; exact gl_ts hts kl_coder) h1 h2 h3 h4 (v := .int 0) h5 rfl rfl hd (kk H locs la hH hL hl)
theorem R_slen (hC : Cx m X) {i : Nat} (hi : i < 7) (hd : decode m.2.1 pc = .ok (.arraylength, 1)) (kk : Rw m X (pc + 1) ls (.int (nI (kby i).length) :: st) w cl sl) : Rw m X pc ls (.ref (9 + i) :: st) w cl sl := by
  obtain ⟨p, l, e, R, s, mm, args, below, meth, c, Z, V⟩ := X
  obtain ⟨hV, hx, hb, hml, hr, hlk, hown, hts, hK, hnm⟩ := hC
  intro H locs la hH hL hl
  obtain ⟨cell, h1, h2, h3, h4, h5, h6, h7⟩ := (((kS hK hi).1 0 (by decide)).2.2.2).kept hH.kq
  exact W.alen (n := Int32.ofNat (kby i).length) hx hb h1 h2 h5 rfl rfl hd (kk H locs la hH hL hl)
theorem R_sbal (hC : Cx m X) {i : Nat} (hi : i < 7) {q : Int32} (j : Nat) (hq : q = nI j) (hj : j < (kby i).length) (hj2 : (kby i).length < 2 ^ 31) (hd : decode m.2.1 pc = .ok (.baload, 1)) (kk : Rw m X (pc + 1) ls (.int ((kby i).getD j 0) :: st) w cl sl) : Rw m X pc ls (.int q :: .ref (9 + i) :: st) w cl sl := by
  obtain ⟨p, l, e, R, s, mm, args, below, meth, c, Z, V⟩ := X
  obtain ⟨hV, hx, hb, hml, hr, hlk, hown, hts, hK, hnm⟩ := hC
  intro H locs la hH hL hl
  obtain ⟨cell, h1, h2, h3, h4, h5, h6, h7⟩ := (((kS hK hi).1 0 (by decide)).2.2.2).kept hH.kq
  obtain ⟨g1, g2⟩ := vp_in_j hq hj hj2
  have h4 : (kby i).length ≤ cell.slots.size := h4
  have hin' : ¬ (q < 0 ∨ cell.slots.size ≤ q.toNatClampNeg) := by
    rintro (z | z)
    · exact g1 (Or.inl z)
    · omega
  exact W.bald (v := .int ((kby i).getD j 0)) hx hb h1 h2 h3 hin' (by rw [g2]; exact h6 j hj) rfl rfl hd (kk H locs la hH hL hl)
theorem R_gst (hC : Cx m X) {C n d ref : String} {v : Value} {idx : Nat} (hZ : ∀ V s, KX V s → va_Z C n d (rl V.2.2.1 v) (fr V) s V.2.2.2) (hlink : Cond.fieldLink m.1.cls idx ref n d ∈ lw_gl) (href : ref = C) (hd : decode m.2.1 pc = .ok (.getstatic idx, 3)) (kk : Rw m X (pc + 3) ls (v :: st) w cl sl) : Rw m X pc ls st w cl sl := by
  subst href
  obtain ⟨p, l, e, R, s, mm, args, below, meth, c, Z, V⟩ := X
  obtain ⟨hV, hx, hb, hml, hr, hlk, hown, hts, hK, hnm⟩ := hC
  intro H locs la hH hL hl
  obtain ⟨cf, kf, fi, f, a, cell, h1, h2, h3, h4, h5, h6, h7, h8⟩ := (hZ V s hK).kept hH.kq
  exact W.gets hx hb hown (gl_ts hts hlink) h1 h2 h3 h4 h5 (fun e => by rw [e] at h6; cases h6) h7 rfl hd (kk H locs la hH hL hl)
/-- a static that is null or the cell 0: the same goes on with either -/
theorem R_gsq (hC : Cx m X) (hm : m.1.cls = RJ0) (hd : decode m.2.1 pc = .ok (.getstatic 1053, 3)) (kk : ∀ v : Value, (v = .null ∨ v = .ref FMT) → Rw m X (pc + 3) ls (v :: st) w cl sl) : Rw m X pc ls st w cl sl := by
  obtain ⟨p, l, e, R, s, mm, args, below, meth, c, Z, V⟩ := X
  have hC' := hC
  obtain ⟨hV, hx, hb, hml, hr, hlk, hown, hts, hK, hnm⟩ := hC
  intro H locs la hH hL hl
  rcases hK.2.2.2.2.2.2.1 with z | z
  · obtain ⟨cf, kf, fi, f, a, cell, h1, h2, h3, h4, h5, h6, h7, h8⟩ := z.kept hH.kq
    exact W.gets hx hb hown (by rw [hm]; exact gl_ts hts kl_sioobe) h1 h2 h3 h4 h5 (fun e => by rw [e] at h6; cases h6) h7 rfl hd (kk .null (Or.inl rfl) H locs la hH hL hl)
  · obtain ⟨cf, kf, fi, f, a, cell, h1, h2, h3, h4, h5, h6, h7, h8⟩ := z.kept hH.kq
    exact W.gets hx hb hown (by rw [hm]; exact gl_ts hts kl_sioobe) h1 h2 h3 h4 h5 (fun e => by rw [e] at h6; cases h6) h7 rfl hd (kk (.ref FMT) (Or.inr rfl) H locs la hH hL hl)
/-- a call on a constant -/
theorem R_callK (hC : Cx m X) {j : mi} {n idx i d dd mcX msX : Nat} {As : List Value} {Q : Option Value → aW → Prop} (hR : Rd X dd mcX msX) (hi : i < 7) (hd : decode m.2.1 pc = .ok (.invokevirtual idx, 3)) (hj : MV j n) (hcl : j.1.cls = RJ0) (hl : ML m.1.cls idx j) (hM : Mt j d 0 0 (.ref (2 + i) :: As) w Q)
    (hn : As.length = n) (hdd : d + 1 ≤ dd) (hroom : cl ≤ mcX ∧ sl ≤ msX) (hcat : (st.map fun v => v.category).sum ≤ 8)
    (kk : ∀ (r : Option Value) (w' : aW), Q r w' → Rw m X (pc + 3) ls (r.toList ++ st) w' cl sl) : Rw m X pc ls (As.reverse ++ .ref (2 + i) :: st) w cl sl := by
  obtain ⟨p, l, e, R, s, mm, args, below, meth, c, Z, V⟩ := X
  obtain ⟨hV, hx, hb, hml, hr, hlk, hown, hts, hK, hnm⟩ := hC
  obtain ⟨r1, r2, r3, r4⟩ := hR
  intro H locs la hH hL hl2
  have hcb : Cond.code j.1 j.2.1 j.2.2.1 j.2.2.2 ∈ wsOf j := List.mem_cons_self
  have hrec : ∃ cellB : Cell, H[V.2.2.1 (2 + i)]? = some cellB ∧ cellB.vm.isStatics = false ∧ s.vm.findClass j.1.cls = some cellB.cls := by
    obtain ⟨cell, h1, h2, h3, -⟩ := (((kS hK hi).1 0 (by decide)).1).kept hH.kq
    exact ⟨cell, h1, h2, by rw [hcl]; exact h3⟩
  have hpre : PreV s H j.1.cls (V.2.2.1 (2 + i)) (aPc V (.ref (2 + i) :: As) w) (As.map (rl V.2.2.1)) := ⟨aPc_blind, hrec, fun U hU hW => ⟨rfl, by rw [hU]; exact hH, hK.moved hW⟩⟩
  have hsig : ∀ sig, parseMethodDescriptor j.1.desc = some sig → n = sig.parameters.length := fun sig h => by
    have h2 := hj.2.2.2
    rw [h] at h2
    exact (Option.some.inj h2).symm
  have hst : (As.reverse ++ .ref (2 + i) :: st).map (rl V.2.2.1) = (As.map (rl V.2.2.1)).reverse ++ .ref (V.2.2.1 (2 + i)) :: st.map (rl V.2.2.1) := by
    rw [List.map_append, List.map_reverse]; rfl
  have hrm : (rmD d 0 0).frames + 1 ≤ R.frames ∧ 8 + (j.2.2.1 + 11) + (rmD d 0 0).locals ≤ R.locals := by
    have := hj.1.2.2.2.2
    constructor
    · show d + 1 ≤ _; omega
    · show 8 + (j.2.2.1 + 11) + (60 * d + 60) ≤ _; omega
  have hroom2 : cl + 0 ≤ R.cells ∧ sl + 0 ≤ R.slots := ⟨by omega, by omega⟩
  refine run_go (mc := 0) (ms := 0) (st := st) (a := (Value.ref (V.2.2.1 (2 + i)) :: As.map (rl V.2.2.1)).toArray) (Q := Q) hL ?_ (fun r w' hq H1 locs1 g1 g2 => kk r w' hq H1 locs1 la g1 g2 hl2)
  rcases hl with hl | ⟨host, hl⟩
  · exact va_runV (C := j.1.cls) (bytes := j.2.1) (maxL := j.2.2.1) (ret := j.2.2.2) (n := n) ⟨hx, hb, hml, hown, hts⟩ (hM l V hV) ⟨⟨rfl, rfl, hrm.1, hrm.2, pay_in hts (wsOf_good hj.1), hcb, gl_ts hts hj.1.2.1, gl_ts hts hj.1.2.2.1, hj.1.2.2.2.1, hsig, gl_ts hts hl⟩, gl_ts hts hj.2.1, gl_ts hts hj.2.2.1⟩ hpre rfl (by rw [List.length_map]; exact hn) hl2.1 hst (lv_room (by rw [cat_map]; exact hcat)) hd hroom2
  · exact va_runVN (C := j.1.cls) (bytes := j.2.1) (maxL := j.2.2.1) (ret := j.2.2.2) (n := n) ⟨hx, hb, hml, hown, hts⟩ (hM l V hV) ⟨⟨⟨rfl, rfl, hrm.1, hrm.2, pay_in hts (wsOf_good hj.1), hcb⟩, gl_ts hts hj.1.2.1, gl_ts hts hj.1.2.2.1, hj.1.2.2.2.1, hsig, va_Nw.use rfl (hK.2.1 _ hl)⟩, gl_ts hts hj.2.1, gl_ts hts hj.2.2.1⟩ hpre rfl (by rw [List.length_map]; exact hn) hl2.1 hst (lv_room (by rw [cat_map]; exact hcat)) hd hroom2
theorem R_K0 (hC : Cx m X) {j : mi} {idx i d dd mcX msX : Nat} {v : Int32} (hR : Rd X dd mcX msX) (hi : i < 7) (hd : decode m.2.1 pc = .ok (.invokevirtual idx, 3)) (hj : MV j 0) (hcl : j.1.cls = RJ0) (hl : ML m.1.cls idx j) (hM : Mt j d 0 0 [.ref (2 + i)] w (QI v w)) (hdd : d + 1 ≤ dd) (hroom : cl ≤ mcX ∧ sl ≤ msX) (hcat : (st.map fun v => v.category).sum ≤ 8)
    (kk : Rw m X (pc + 3) ls (.int v :: st) w cl sl) : Rw m X pc ls (.ref (2 + i) :: st) w cl sl :=
  R_callK (As := []) hC hR hi hd hj hcl hl hM rfl hdd hroom hcat (fun r w2 hq => by obtain ⟨rfl, rfl⟩ := hq; exact kk)
theorem R_K1 (hC : Cx m X) {j : mi} {idx i d dd mcX msX : Nat} {v : Int32} {a1 : Value} (hR : Rd X dd mcX msX) (hi : i < 7) (hd : decode m.2.1 pc = .ok (.invokevirtual idx, 3)) (hj : MV j 1) (hcl : j.1.cls = RJ0) (hl : ML m.1.cls idx j) (hM : Mt j d 0 0 [.ref (2 + i), a1] w (QI v w)) (hdd : d + 1 ≤ dd) (hroom : cl ≤ mcX ∧ sl ≤ msX) (hcat : (st.map fun v => v.category).sum ≤ 8)
    (kk : Rw m X (pc + 3) ls (.int v :: st) w cl sl) : Rw m X pc ls (a1 :: .ref (2 + i) :: st) w cl sl :=
  R_callK (As := [a1]) hC hR hi hd hj hcl hl hM rfl hdd hroom hcat (fun r w2 hq => by obtain ⟨rfl, rfl⟩ := hq; exact kk)
theorem R_K2 (hC : Cx m X) {j : mi} {idx i d dd mcX msX : Nat} {v : Int32} {a1 a2 : Value} (hR : Rd X dd mcX msX) (hi : i < 7) (hd : decode m.2.1 pc = .ok (.invokevirtual idx, 3)) (hj : MV j 2) (hcl : j.1.cls = RJ0) (hl : ML m.1.cls idx j) (hM : Mt j d 0 0 [.ref (2 + i), a1, a2] w (QI v w)) (hdd : d + 1 ≤ dd) (hroom : cl ≤ mcX ∧ sl ≤ msX) (hcat : (st.map fun v => v.category).sum ≤ 8)
    (kk : Rw m X (pc + 3) ls (.int v :: st) w cl sl) : Rw m X pc ls (a2 :: a1 :: .ref (2 + i) :: st) w cl sl :=
  R_callK (As := [a1, a2]) hC hR hi hd hj hcl hl hM rfl hdd hroom hcat (fun r w2 hq => by obtain ⟨rfl, rfl⟩ := hq; exact kk)
end STRR
theorem kz_compact {V : aV} {s : State} (h : KX V s) : va_Z RJ0 "COMPACT_STRINGS" "Z" (rl V.2.2.1 (.int 1)) (fr V) s V.2.2.2 := h.2.2.2.2.2.1
theorem kz_signs {V : aV} {s : State} (h : KX V s) : va_Z RX4 "SIGNS" "[I" (rl V.2.2.1 (.ref 1)) (fr V) s V.2.2.2 := h.2.2.2.1
theorem dJ0_length_8abf5_0 : decode cJ0_length_8abf5 0 = .ok (.aload_n 0, 1) := by decide +kernel
theorem dJ0_length_8abf5_1 : decode cJ0_length_8abf5 1 = .ok (.getfield 9, 3) := by decide +kernel
theorem dJ0_length_8abf5_4 : decode cJ0_length_8abf5 4 = .ok (.arraylength, 1) := by decide +kernel
theorem dJ0_length_8abf5_5 : decode cJ0_length_8abf5 5 = .ok (.aload_n 0, 1) := by decide +kernel
theorem dJ0_length_8abf5_6 : decode cJ0_length_8abf5 6 = .ok (.invokevirtual 335, 3) := by decide +kernel
theorem dJ0_length_8abf5_9 : decode cJ0_length_8abf5 9 = .ok (.ishr, 1) := by decide +kernel
theorem dJ0_length_8abf5_10 : decode cJ0_length_8abf5 10 = .ok (.ireturn, 1) := by decide +kernel
theorem dJ0_charAt_5068e_0 : decode cJ0_charAt_5068e 0 = .ok (.aload_n 0, 1) := by decide +kernel
theorem dJ0_charAt_5068e_1 : decode cJ0_charAt_5068e 1 = .ok (.invokevirtual 492, 3) := by decide +kernel
theorem dJ0_charAt_5068e_4 : decode cJ0_charAt_5068e 4 = .ok (.ifCond .eq 12, 3) := by decide +kernel
theorem dJ0_charAt_5068e_7 : decode cJ0_charAt_5068e 7 = .ok (.aload_n 0, 1) := by decide +kernel
theorem dJ0_charAt_5068e_8 : decode cJ0_charAt_5068e 8 = .ok (.getfield 9, 3) := by decide +kernel
theorem dJ0_charAt_5068e_11 : decode cJ0_charAt_5068e 11 = .ok (.iload_n 1, 1) := by decide +kernel
theorem dJ0_charAt_5068e_12 : decode cJ0_charAt_5068e 12 = .ok (.invokestatic 495, 3) := by decide +kernel
theorem dJ0_charAt_5068e_15 : decode cJ0_charAt_5068e 15 = .ok (.ireturn, 1) := by decide +kernel
theorem dJ0_charAt_5068e_16 : decode cJ0_charAt_5068e 16 = .ok (.aload_n 0, 1) := by decide +kernel
theorem dJ0_charAt_5068e_17 : decode cJ0_charAt_5068e 17 = .ok (.getfield 9, 3) := by decide +kernel
theorem dJ0_charAt_5068e_20 : decode cJ0_charAt_5068e 20 = .ok (.iload_n 1, 1) := by decide +kernel
theorem dJ0_charAt_5068e_21 : decode cJ0_charAt_5068e 21 = .ok (.invokestatic 498, 3) := by decide +kernel
theorem dJ0_charAt_5068e_24 : decode cJ0_charAt_5068e 24 = .ok (.ireturn, 1) := by decide +kernel
theorem dJ0_isLatin1_aae02_0 : decode cJ0_isLatin1_aae02 0 = .ok (.getstatic 38, 3) := by decide +kernel
theorem dJ0_isLatin1_aae02_3 : decode cJ0_isLatin1_aae02 3 = .ok (.ifCond .eq 14, 3) := by decide +kernel
theorem dJ0_isLatin1_aae02_6 : decode cJ0_isLatin1_aae02 6 = .ok (.aload_n 0, 1) := by decide +kernel
theorem dJ0_isLatin1_aae02_7 : decode cJ0_isLatin1_aae02 7 = .ok (.getfield 15, 3) := by decide +kernel
theorem dJ0_isLatin1_aae02_10 : decode cJ0_isLatin1_aae02 10 = .ok (.ifCond .ne 7, 3) := by decide +kernel
theorem dJ0_isLatin1_aae02_13 : decode cJ0_isLatin1_aae02 13 = .ok (.iconst 1, 1) := by decide +kernel
theorem dJ0_isLatin1_aae02_14 : decode cJ0_isLatin1_aae02 14 = .ok (.goto 4, 3) := by decide +kernel
theorem dJ0_isLatin1_aae02_17 : decode cJ0_isLatin1_aae02 17 = .ok (.iconst 0, 1) := by decide +kernel
theorem dJ0_isLatin1_aae02_18 : decode cJ0_isLatin1_aae02 18 = .ok (.ireturn, 1) := by decide +kernel
theorem dJ0_coder_7d493_0 : decode cJ0_coder_7d493 0 = .ok (.getstatic 38, 3) := by decide +kernel
theorem dJ0_coder_7d493_3 : decode cJ0_coder_7d493 3 = .ok (.ifCond .eq 10, 3) := by decide +kernel
theorem dJ0_coder_7d493_6 : decode cJ0_coder_7d493 6 = .ok (.aload_n 0, 1) := by decide +kernel
theorem dJ0_coder_7d493_7 : decode cJ0_coder_7d493 7 = .ok (.getfield 15, 3) := by decide +kernel
theorem dJ0_coder_7d493_10 : decode cJ0_coder_7d493 10 = .ok (.goto 4, 3) := by decide +kernel
theorem dJ0_coder_7d493_13 : decode cJ0_coder_7d493 13 = .ok (.iconst 1, 1) := by decide +kernel
theorem dJ0_coder_7d493_14 : decode cJ0_coder_7d493 14 = .ok (.ireturn, 1) := by decide +kernel
theorem dJ1_charAt_3b067_0 : decode cJ1_charAt_3b067 0 = .ok (.iload_n 1, 1) := by decide +kernel
theorem dJ1_charAt_3b067_1 : decode cJ1_charAt_3b067 1 = .ok (.aload_n 0, 1) := by decide +kernel
theorem dJ1_charAt_3b067_2 : decode cJ1_charAt_3b067 2 = .ok (.arraylength, 1) := by decide +kernel
theorem dJ1_charAt_3b067_3 : decode cJ1_charAt_3b067 3 = .ok (.invokestatic 9, 3) := by decide +kernel
theorem dJ1_charAt_3b067_6 : decode cJ1_charAt_3b067 6 = .ok (.aload_n 0, 1) := by decide +kernel
theorem dJ1_charAt_3b067_7 : decode cJ1_charAt_3b067 7 = .ok (.iload_n 1, 1) := by decide +kernel
theorem dJ1_charAt_3b067_8 : decode cJ1_charAt_3b067 8 = .ok (.baload, 1) := by decide +kernel
theorem dJ1_charAt_3b067_9 : decode cJ1_charAt_3b067 9 = .ok (.sipush 255, 3) := by decide +kernel
theorem dJ1_charAt_3b067_12 : decode cJ1_charAt_3b067 12 = .ok (.iand, 1) := by decide +kernel
theorem dJ1_charAt_3b067_13 : decode cJ1_charAt_3b067 13 = .ok (.i2c, 1) := by decide +kernel
theorem dJ1_charAt_3b067_14 : decode cJ1_charAt_3b067 14 = .ok (.ireturn, 1) := by decide +kernel
theorem dJ0_checkIndex_df160_0 : decode cJ0_checkIndex_df160 0 = .ok (.iload_n 0, 1) := by decide +kernel
theorem dJ0_checkIndex_df160_1 : decode cJ0_checkIndex_df160 1 = .ok (.iload_n 1, 1) := by decide +kernel
theorem dJ0_checkIndex_df160_2 : decode cJ0_checkIndex_df160 2 = .ok (.getstatic 1053, 3) := by decide +kernel
theorem dJ0_checkIndex_df160_5 : decode cJ0_checkIndex_df160 5 = .ok (.invokestatic 1059, 3) := by decide +kernel
theorem dJ0_checkIndex_df160_8 : decode cJ0_checkIndex_df160 8 = .ok (.pop, 1) := by decide +kernel
theorem dJ0_checkIndex_df160_9 : decode cJ0_checkIndex_df160 9 = .ok (.return_, 1) := by decide +kernel
theorem dJ3_checkIndex_8e157_0 : decode cJ3_checkIndex_8e157 0 = .ok (.iload_n 0, 1) := by decide +kernel
theorem dJ3_checkIndex_8e157_1 : decode cJ3_checkIndex_8e157 1 = .ok (.ifCond .lt 8, 3) := by decide +kernel
theorem dJ3_checkIndex_8e157_4 : decode cJ3_checkIndex_8e157 4 = .ok (.iload_n 0, 1) := by decide +kernel
theorem dJ3_checkIndex_8e157_5 : decode cJ3_checkIndex_8e157 5 = .ok (.iload_n 1, 1) := by decide +kernel
theorem dJ3_checkIndex_8e157_6 : decode cJ3_checkIndex_8e157 6 = .ok (.if_icmp .lt 10, 3) := by decide +kernel
theorem dJ3_checkIndex_8e157_9 : decode cJ3_checkIndex_8e157 9 = .ok (.aload_n 2, 1) := by decide +kernel
theorem dJ3_checkIndex_8e157_10 : decode cJ3_checkIndex_8e157 10 = .ok (.iload_n 0, 1) := by decide +kernel
theorem dJ3_checkIndex_8e157_11 : decode cJ3_checkIndex_8e157 11 = .ok (.iload_n 1, 1) := by decide +kernel
theorem dJ3_checkIndex_8e157_12 : decode cJ3_checkIndex_8e157 12 = .ok (.invokestatic 95, 3) := by decide +kernel
theorem dJ3_checkIndex_8e157_15 : decode cJ3_checkIndex_8e157 15 = .ok (.athrow, 1) := by decide +kernel
theorem dJ3_checkIndex_8e157_16 : decode cJ3_checkIndex_8e157 16 = .ok (.iload_n 0, 1) := by decide +kernel
theorem dJ3_checkIndex_8e157_17 : decode cJ3_checkIndex_8e157 17 = .ok (.ireturn, 1) := by decide +kernel
theorem k_coder (i : Nat) (hi : i < 7) (w : aW) : Mt mJ0_coder_7d493 0 0 0 [.ref (2 + i)] w (QI 0 w) := by
  refine Mt.of MI_J0_coder_7d493 (Nat.le_of_ble_eq_true rfl) (fun X hC hR hT => ?_)
  refine R_gst hC (v := .int 1) (fun V s h => kz_compact h) kl_compact rfl dJ0_coder_7d493_0 ?_
  refine R_if_eq hC 13 dJ0_coder_7d493_3 (by decide) (fun h => absurd h (by decide)) (fun _ => ?_)
  refine R_aload_n (i := 0) hC dJ0_coder_7d493_6 rfl rfl ?_
  refine R_scod hC hi rfl dJ0_coder_7d493_7 ?_
  refine R_goto hC 14 dJ0_coder_7d493_10 (by decide) ?_
  exact R_zret hC hT dJ0_coder_7d493_14 rfl (by decide) ⟨rfl, rfl⟩
theorem k_isLatin1 (i : Nat) (hi : i < 7) (w : aW) : Mt mJ0_isLatin1_aae02 0 0 0 [.ref (2 + i)] w (QI 1 w) := by
  refine Mt.of MI_J0_isLatin1_aae02 (Nat.le_of_ble_eq_true rfl) (fun X hC hR hT => ?_)
  refine R_gst hC (v := .int 1) (fun V s h => kz_compact h) kl_compact rfl dJ0_isLatin1_aae02_0 ?_
  refine R_if_eq hC 17 dJ0_isLatin1_aae02_3 (by decide) (fun h => absurd h (by decide)) (fun _ => ?_)
  refine R_aload_n (i := 0) hC dJ0_isLatin1_aae02_6 rfl rfl ?_
  refine R_scod hC hi rfl dJ0_isLatin1_aae02_7 ?_
  refine R_if_ne hC 17 dJ0_isLatin1_aae02_10 (by decide) (fun h => absurd rfl h) (fun _ => ?_)
  refine R_iconst (v := 1) hC dJ0_isLatin1_aae02_13 (by decide) ?_
  refine R_goto hC 18 dJ0_isLatin1_aae02_14 (by decide) ?_
  exact R_zret hC hT dJ0_isLatin1_aae02_18 rfl (by decide) ⟨rfl, rfl⟩
theorem shr0 : ∀ i, i < 7 → nI (kby i).length >>> ((0 : Int32) &&& 31) = nI (kby i).length ∧ (kby i).length < 64 := by decide +kernel
theorem k_length (i : Nat) (hi : i < 7) (w : aW) : Mt mJ0_length_8abf5 1 0 0 [.ref (2 + i)] w (QI (nI (kby i).length) w) := by
  refine Mt.of MI_J0_length_8abf5 (Nat.le_of_ble_eq_true rfl) (fun X hC hR hT => ?_)
  refine R_aload_n (i := 0) hC dJ0_length_8abf5_0 rfl rfl ?_
  refine R_sval hC hi rfl dJ0_length_8abf5_1 ?_
  refine R_slen hC hi dJ0_length_8abf5_4 ?_
  refine R_aload_n (i := 0) hC dJ0_length_8abf5_5 rfl rfl ?_
  refine R_K0 hC hR hi dJ0_length_8abf5_6 MV_J0_coder_7d493 rfl ml_J0_335 (k_coder i hi w) (by decide) ⟨by decide, by decide⟩ (Nat.le_of_ble_eq_true rfl) ?_
  refine R_ishr hC dJ0_length_8abf5_9 ?_
  refine R_top (shr0 i hi).1 ?_
  exact R_iret hC hT dJ0_length_8abf5_10 rfl ⟨rfl, rfl⟩
theorem k_check3 (a n : Nat) (ha : a < n) (hn : n < 2 ^ 31) (v : Value) (hv : v = .null ∨ v = .ref FMT) (w : aW) : Mt mJ3_checkIndex_8e157 0 0 0 [.int (nI a), .int (nI n), v] w (QI (nI a) w) := by
  refine Mt.of MI_J3_checkIndex_8e157 (by rcases hv with rfl | rfl <;> exact Nat.le_of_ble_eq_true rfl) (fun X hC hR hT => ?_)
  rcases hv with rfl | rfl
  · refine R_iload_n (i := 0) hC dJ3_checkIndex_8e157_0 rfl rfl ?_
    refine R_if_lt hC 9 dJ3_checkIndex_8e157_1 (by decide) (fun h => absurd h (nI_pos (by omega))) (fun _ => ?_)
    refine R_iload_n (i := 0) hC dJ3_checkIndex_8e157_4 rfl rfl (R_iload_n (i := 1) hC dJ3_checkIndex_8e157_5 rfl rfl ?_)
    refine R_icmp_lt hC 16 dJ3_checkIndex_8e157_6 (by decide) (fun _ => ?_) (fun h => absurd (nI_lt ha hn) h)
    refine R_iload_n (i := 0) hC dJ3_checkIndex_8e157_16 rfl rfl ?_
    exact R_iret hC hT dJ3_checkIndex_8e157_17 rfl ⟨rfl, rfl⟩
  · refine R_iload_n (i := 0) hC dJ3_checkIndex_8e157_0 rfl rfl ?_
    refine R_if_lt hC 9 dJ3_checkIndex_8e157_1 (by decide) (fun h => absurd h (nI_pos (by omega))) (fun _ => ?_)
    refine R_iload_n (i := 0) hC dJ3_checkIndex_8e157_4 rfl rfl (R_iload_n (i := 1) hC dJ3_checkIndex_8e157_5 rfl rfl ?_)
    refine R_icmp_lt hC 16 dJ3_checkIndex_8e157_6 (by decide) (fun _ => ?_) (fun h => absurd (nI_lt ha hn) h)
    refine R_iload_n (i := 0) hC dJ3_checkIndex_8e157_16 rfl rfl ?_
    exact R_iret hC hT dJ3_checkIndex_8e157_17 rfl ⟨rfl, rfl⟩
theorem k_check0 (a n : Nat) (ha : a < n) (hn : n < 2 ^ 31) (w : aW) : Mt mJ0_checkIndex_df160 1 0 0 [.int (nI a), .int (nI n)] w (QV w) := by
  refine Mt.of MI_J0_checkIndex_df160 (Nat.le_of_ble_eq_true rfl) (fun X hC hR hT => ?_)
  refine R_iload_n (i := 0) hC dJ0_checkIndex_df160_0 rfl rfl (R_iload_n (i := 1) hC dJ0_checkIndex_df160_1 rfl rfl ?_)
  refine R_gsq hC rfl dJ0_checkIndex_df160_2 (fun v hv => ?_)
  refine R_S3i hC hR dJ0_checkIndex_df160_5 MS_J3_checkIndex_8e157 ml_J0_1059 (k_check3 a n ha hn v hv w) (by decide) ⟨by decide, by decide⟩ (Nat.le_of_ble_eq_true rfl) ?_
  refine R_pop hC dJ0_checkIndex_df160_8 rfl ?_
  exact R_vret hC hT dJ0_checkIndex_df160_9 rfl ⟨rfl, rfl⟩
theorem kby_ok : ∀ i, i < 7 → ∀ j, j < (kby i).length → ((((kby i).getD j 0) &&& 255).toUInt32 % 65536).toInt32 = (kby i).getD j 0 ∧ narrow .char (.int ((kby i).getD j 0)) = .int ((kby i).getD j 0) ∧ ((kby i).getD j 0) &&& 255 = (kby i).getD j 0 := by decide +kernel
theorem k_charAt1 (i : Nat) (hi : i < 7) (j : Nat) (hj : j < (kby i).length) (w : aW) : Mt mJ1_charAt_3b067 2 0 0 [.ref (9 + i), .int (nI j)] w (QI ((kby i).getD j 0) w) := by
  refine Mt.of MI_J1_charAt_3b067 (Nat.le_of_ble_eq_true rfl) (fun X hC hR hT => ?_)
  have hl := (shr0 i hi).2
  obtain ⟨e1, e2, e3⟩ := kby_ok i hi j hj
  refine R_iload_n (i := 1) hC dJ1_charAt_3b067_0 rfl rfl (R_aload_n (i := 0) hC dJ1_charAt_3b067_1 rfl rfl ?_)
  refine R_slen hC hi dJ1_charAt_3b067_2 ?_
  refine R_S2v hC hR dJ1_charAt_3b067_3 MS_J0_checkIndex_df160 ml_J1_9 (k_check0 j _ hj (by omega) w) (by decide) ⟨by decide, by decide⟩ (Nat.le_of_ble_eq_true rfl) ?_
  refine R_aload_n (i := 0) hC dJ1_charAt_3b067_6 rfl rfl (R_iload_n (i := 1) hC dJ1_charAt_3b067_7 rfl rfl ?_)
  refine R_sbal hC hi j rfl hj (by omega) dJ1_charAt_3b067_8 ?_
  refine R_sipush (v := 255) hC dJ1_charAt_3b067_9 (by decide) (R_iand hC dJ1_charAt_3b067_12 (R_i2c hC dJ1_charAt_3b067_13 ?_))
  refine R_top e1 ?_
  exact R_zret hC hT dJ1_charAt_3b067_14 rfl e2 ⟨rfl, rfl⟩
theorem k_charAt (i : Nat) (hi : i < 7) (j : Nat) (hj : j < (kby i).length) (w : aW) : Mt mJ0_charAt_5068e 3 0 0 [.ref (2 + i), .int (nI j)] w (QI ((kby i).getD j 0) w) := by
  refine Mt.of MI_J0_charAt_5068e (Nat.le_of_ble_eq_true rfl) (fun X hC hR hT => ?_)
  refine R_aload_n (i := 0) hC dJ0_charAt_5068e_0 rfl rfl ?_
  refine R_K0 hC hR hi dJ0_charAt_5068e_1 MV_J0_isLatin1_aae02 rfl ml_J0_492 (k_isLatin1 i hi w) (by decide) ⟨by decide, by decide⟩ (Nat.le_of_ble_eq_true rfl) ?_
  refine R_if_eq hC 16 dJ0_charAt_5068e_4 (by decide) (fun h => absurd h (by decide)) (fun _ => ?_)
  refine R_aload_n (i := 0) hC dJ0_charAt_5068e_7 rfl rfl ?_
  refine R_sval hC hi rfl dJ0_charAt_5068e_8 ?_
  refine R_iload_n (i := 1) hC dJ0_charAt_5068e_11 rfl rfl ?_
  refine R_S2i hC hR dJ0_charAt_5068e_12 MS_J1_charAt_3b067 ml_J0_495 (k_charAt1 i hi j hj w) (by decide) ⟨by decide, by decide⟩ (Nat.le_of_ble_eq_true rfl) ?_
  exact R_zret hC hT dJ0_charAt_5068e_15 rfl (kby_ok i hi j hj).2.1 ⟨rfl, rfl⟩
theorem dX11_spotOf_0 : decode cX11_spotOf 0 = .ok (.iconst 0, 1) := by decide +kernel
theorem dX11_spotOf_1 : decode cX11_spotOf 1 = .ok (.istore_n 2, 1) := by decide +kernel
theorem dX11_spotOf_2 : decode cX11_spotOf 2 = .ok (.iload_n 2, 1) := by decide +kernel
theorem dX11_spotOf_3 : decode cX11_spotOf 3 = .ok (.aload_n 0, 1) := by decide +kernel
theorem dX11_spotOf_4 : decode cX11_spotOf 4 = .ok (.invokevirtual 108, 3) := by decide +kernel
theorem dX11_spotOf_7 : decode cX11_spotOf 7 = .ok (.if_icmp .ge 20, 3) := by decide +kernel
theorem dX11_spotOf_10 : decode cX11_spotOf 10 = .ok (.aload_n 0, 1) := by decide +kernel
theorem dX11_spotOf_11 : decode cX11_spotOf 11 = .ok (.iload_n 2, 1) := by decide +kernel
theorem dX11_spotOf_12 : decode cX11_spotOf 12 = .ok (.invokevirtual 112, 3) := by decide +kernel
theorem dX11_spotOf_15 : decode cX11_spotOf 15 = .ok (.iload_n 1, 1) := by decide +kernel
theorem dX11_spotOf_16 : decode cX11_spotOf 16 = .ok (.if_icmp .ne 5, 3) := by decide +kernel
theorem dX11_spotOf_19 : decode cX11_spotOf 19 = .ok (.iload_n 2, 1) := by decide +kernel
theorem dX11_spotOf_20 : decode cX11_spotOf 20 = .ok (.ireturn, 1) := by decide +kernel
theorem dX11_spotOf_21 : decode cX11_spotOf 21 = .ok (.iinc 2 1, 3) := by decide +kernel
theorem dX11_spotOf_24 : decode cX11_spotOf 24 = .ok (.goto (-22), 3) := by decide +kernel
theorem dX11_spotOf_27 : decode cX11_spotOf 27 = .ok (.iconst (-1), 1) := by decide +kernel
theorem dX11_spotOf_28 : decode cX11_spotOf 28 = .ok (.ireturn, 1) := by decide +kernel
/-- where a sign stands in a constant -/
def sptH (i : Nat) (c : Int32) (k : Nat) : Option Nat := if (kby i).getD k 0 = c then some k else none
def spt (i : Nat) (c : Int32) : Option Nat := fs (sptH i c) 0 (kby i).length
theorem s_spotOf (i : Nat) (hi : i < 7) (c : Int32) (w : aW) : Mt mX11_spotOf 4 0 0 [.ref (2 + i), .int c] w (QI (o2i (spt i c)) w) := by
  refine Mt.of MI_X11_spotOf (Nat.le_of_ble_eq_true rfl) (fun X hC hR hT => ?_)
  have hl := (shr0 i hi).2
  have loop : ∀ k, k ≤ (kby i).length → spt i c = fs (sptH i c) k ((kby i).length - k) → Rw mX11_spotOf X 2 [some (.ref (2 + i)), some (.int c), some (.int (nI k))] [] w 0 0 := by
    refine up_loop (kby i).length ?_ ?_
    · intro e
      rw [fs_0 (Nat.le_refl _)] at e
      refine R_iload_n (i := 2) hC dX11_spotOf_2 rfl rfl (R_aload_n (i := 0) hC dX11_spotOf_3 rfl rfl ?_)
      refine R_K0 hC hR hi dX11_spotOf_4 MV_J0_length_8abf5 rfl ml_X11_108 (k_length i hi w) (by decide) ⟨by decide, by decide⟩ (Nat.le_of_ble_eq_true rfl) ?_
      refine R_icmp_ge hC 27 dX11_spotOf_7 (by decide) (fun _ => ?_) (fun h => absurd (Int32.le_refl _) h)
      refine R_iconst (v := (-1)) hC dX11_spotOf_27 (by decide) ?_
      exact R_iret hC hT dX11_spotOf_28 rfl ⟨by rw [e]; rfl, rfl⟩
    · intro k hk ih e
      refine R_iload_n (i := 2) hC dX11_spotOf_2 rfl rfl (R_aload_n (i := 0) hC dX11_spotOf_3 rfl rfl ?_)
      refine R_K0 hC hR hi dX11_spotOf_4 MV_J0_length_8abf5 rfl ml_X11_108 (k_length i hi w) (by decide) ⟨by decide, by decide⟩ (Nat.le_of_ble_eq_true rfl) ?_
      refine R_icmp_ge hC 27 dX11_spotOf_7 (by decide) (fun h => absurd h (nI_ge hk (by omega))) (fun _ => ?_)
      refine R_aload_n (i := 0) hC dX11_spotOf_10 rfl rfl (R_iload_n (i := 2) hC dX11_spotOf_11 rfl rfl ?_)
      refine R_K1 hC hR hi dX11_spotOf_12 MV_J0_charAt_5068e rfl ml_X11_112 (k_charAt i hi k hk w) (by decide) ⟨by decide, by decide⟩ (Nat.le_of_ble_eq_true rfl) ?_
      refine R_iload_n (i := 1) hC dX11_spotOf_15 rfl rfl ?_
      refine R_icmp_ne hC 21 dX11_spotOf_16 (by decide) (fun h => ?_) (fun h => ?_)
      · refine R_iinc hC dX11_spotOf_21 rfl (inc1 _) (by decide) rfl (R_goto hC 2 dX11_spotOf_24 (by decide) ?_)
        exact ih (by rw [e, fs_n hk (by unfold sptH; rw [if_neg h])])
      · refine R_iload_n (i := 2) hC dX11_spotOf_19 rfl rfl ?_
        exact R_iret hC hT dX11_spotOf_20 rfl ⟨by rw [e, fs_y hk (v := k) (by unfold sptH; rw [if_pos h])]; rfl, rfl⟩
  refine R_iconst (v := 0) hC dX11_spotOf_0 (by decide) (R_istore_n (i := 2) hC dX11_spotOf_1 rfl (by decide) rfl ?_)
  exact loop 0 (Nat.zero_le _) rfl
