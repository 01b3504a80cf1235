/-! ===== entry: what the class throws, what the law catches ===== -/
theorem dX10_entry_0 : decode cX10_entry 0 = .ok (.aload_n 0, 1) := by decide +kernel
theorem dX10_entry_1 : decode cX10_entry 1 = .ok (.getfield 19, 3) := by decide +kernel
theorem dX10_entry_4 : decode cX10_entry 4 = .ok (.iload_n 1, 1) := by decide +kernel
theorem dX10_entry_5 : decode cX10_entry 5 = .ok (.iload_n 2, 1) := by decide +kernel
theorem dX10_entry_6 : decode cX10_entry 6 = .ok (.invokevirtual 126, 3) := by decide +kernel
theorem dX10_entry_9 : decode cX10_entry 9 = .ok (.ifCond .ne 11, 3) := by decide +kernel
theorem dX10_entry_12 : decode cX10_entry 12 = .ok (.new 130, 3) := by decide +kernel
theorem dX10_entry_15 : decode cX10_entry 15 = .ok (.dup, 1) := by decide +kernel
theorem dX10_entry_16 : decode cX10_entry 16 = .ok (.invokespecial 132, 3) := by decide +kernel
theorem dX10_entry_19 : decode cX10_entry 19 = .ok (.athrow, 1) := by decide +kernel
theorem dX10_entry_20 : decode cX10_entry 20 = .ok (.aload_n 0, 1) := by decide +kernel
theorem dX10_entry_21 : decode cX10_entry 21 = .ok (.getfield 19, 3) := by decide +kernel
theorem dX10_entry_24 : decode cX10_entry 24 = .ok (.iload_n 1, 1) := by decide +kernel
theorem dX10_entry_25 : decode cX10_entry 25 = .ok (.iload_n 2, 1) := by decide +kernel
theorem dX10_entry_26 : decode cX10_entry 26 = .ok (.invokevirtual 133, 3) := by decide +kernel
theorem dX10_entry_29 : decode cX10_entry 29 = .ok (.ireturn, 1) := by decide +kernel
theorem dL_entry_0 : decode cL_entry 0 = .ok (.aload_n 3, 1) := by decide +kernel
theorem dL_entry_1 : decode cL_entry 1 = .ok (.iconst 0, 1) := by decide +kernel
theorem dL_entry_2 : decode cL_entry 2 = .ok (.aload_n 0, 1) := by decide +kernel
theorem dL_entry_3 : decode cL_entry 3 = .ok (.iload_n 1, 1) := by decide +kernel
theorem dL_entry_4 : decode cL_entry 4 = .ok (.iload_n 2, 1) := by decide +kernel
theorem dL_entry_5 : decode cL_entry 5 = .ok (.invokevirtual 7, 3) := by decide +kernel
theorem dL_entry_8 : decode cL_entry 8 = .ok (.i2l, 1) := by decide +kernel
theorem dL_entry_9 : decode cL_entry 9 = .ok (.lastore, 1) := by decide +kernel
theorem dL_entry_10 : decode cL_entry 10 = .ok (.goto 7, 3) := by decide +kernel
theorem dL_entry_13 : decode cL_entry 13 = .ok (.astore 4, 2) := by decide +kernel
theorem dL_entry_15 : decode cL_entry 15 = .ok (.iconst 1, 1) := by decide +kernel
theorem dL_entry_16 : decode cL_entry 16 = .ok (.ireturn, 1) := by decide +kernel
theorem dL_entry_17 : decode cL_entry 17 = .ok (.iconst 0, 1) := by decide +kernel
theorem dL_entry_18 : decode cL_entry 18 = .ok (.ireturn, 1) := by decide +kernel
theorem arrV_eq {cI : ClassId} {N : Nat} {f g : Nat → Value} (h : ∀ q, q < N → f q = g q) : arrV cI N f = arrV cI N g := by
  unfold arrV
  congr 2
  funext j
  exact h j.val j.isLt
section LRULES
variable {m : mi} {X : aX} {pc : Nat} {ls : List (Option Value)} {st : List Value} {w : aW} {cl sl : Nat}
theorem R_laload (hC : Cx m X) {a n : Nat} {f : Nat → Int64} {i : Int32} (hd : decode m.2.1 pc = .ok (.laload, 1)) (hw : w.2 a = some (.inl (2, n, .inr (.inl f)))) (hi : vp_in i n)
    (kk : Rw m X (pc + 1) ls (.long (f i.toNatClampNeg) :: st) w cl sl) : Rw m X pc ls (.int i :: .ref a :: st) w cl sl := by
  obtain ⟨p, l, e, R, s, mm, args, below, meth, c, Z, V⟩ := X
  obtain ⟨hV, hx, hb, hml, hr, hlk, hown, hts, hK, hnm⟩ := hC
  intro H locs la hH hL hl
  have hP : va_P V.1 vwCl [(V.2.2.1 a, .inl (V.2.1 2, n, .inr (.inl f)))] H := by
    intro k q hq
    have hq2 := List.mem_of_getElem? hq
    rw [List.mem_singleton] at hq2
    subst hq2
    exact (hH.2.2.2 a _ hw).2
  exact va_lald hx hb hK.1 hP 0 2 rfl rfl hi hd (kk H locs la hH hL hl)
theorem R_lastore (hC : Cx m X) {a n : Nat} {f g : Nat → Int64} {i : Int32} {x : Int64} (hd : decode m.2.1 pc = .ok (.lastore, 1)) (ha : 16 ≤ a) (hw : w.2 a = some (.inl (2, n, .inr (.inl f)))) (hi : vp_in i n) (hg : ∀ q, q < n → g q = if q = i.toNatClampNeg then x else f q)
    (kk : Rw m X (pc + 1) ls st (w.1, va_up w.2 a (some (.inl (2, n, .inr (.inl g))))) cl sl) : Rw m X pc ls (.long x :: .int i :: .ref a :: st) w cl sl := by
  obtain ⟨p, l, e, R, s, mm, args, below, meth, c, Z, V⟩ := X
  obtain ⟨hV, hx, hb, hml, hr, hlk, hown, hts, hK, hnm⟩ := hC
  intro H locs la hH hL hl
  have hc : H[V.2.2.1 a]? = some (arrV (V.2.1 2) n (fun j => .long (f j))) := (hH.2.2.2 a _ hw).2
  refine W.last hx hb hc (arrK hK (t := 2) rfl n _) (fun q => by cases q) (by rw [arrV_size]; exact hi) rfl rfl hd fun H1 e z oq => ?_
  refine kk H1 _ la (HW_set hV hH ha hw ?_ z oq) (fr_app hL (rho_fr hV ha (hH.lt hw))) hl
  show H1[V.2.2.1 a]? = some (vp_cell (V.2.1 2) (n, .inr (.inl g)))
  rw [e, arrV_store, vp_cell_l]
  congr 1
  refine arrV_eq (fun q hq => ?_)
  rw [hg q hq]
  by_cases hq2 : q = i.toNatClampNeg
  · simp [updV, hq2]
  · simp [updV, hq2]
end LRULES
theorem wd_putO {σ : sg} {x : aW} {i n : Nat} {fl : List (Nat × Nat)} {v : Int64} (h : LY i (5, n, fl)) : ((wd σ x).1, va_up (wd σ x).2 i (some (.inl (2, n, .inr (.inl (fun _ => v)))))) = wd (sL σ i v) x := by
  refine wd_ext h ?_ (fun j e hj => ?_)
  · show _ = Sum.inl (2, n, Sum.inr (Sum.inl _))
    simp [sL]
  · have e1 : (if j = i then v else σ.2.1 j) = σ.2.1 j := if_neg hj
    unfold cellF
    split <;> first | rfl | (show Sum.inr (_, fv _ (if j = i then v else σ.2.1 j) 0 _) = _; rw [e1]; rfl) | (show Sum.inl (_, _, Sum.inr (Sum.inl (fun _ => (if j = i then v else σ.2.1 j)))) = _; rw [e1])
theorem R_gO {m : mi} {X : aX} {pc : Nat} {ls : List (Option Value)} {st : List Value} {cl sl : Nat} {σ : sg} {x : aW} (hC : Cx m X) (hd : decode m.2.1 pc = .ok (.laload, 1)) (kk : Rw m X (pc + 1) ls (.long (σ.2.1 201) :: st) (wd σ x) cl sl) : Rw m X pc ls (.int 0 :: .ref 201 :: st) (wd σ x) cl sl :=
  R_laload hC hd (wd_at L_out) (vp_in_j (x := 0) (n := 1) (j := 0) rfl (by decide) (by decide)).1 kk
theorem R_sO {m : mi} {X : aX} {pc : Nat} {ls : List (Option Value)} {st : List Value} {cl sl : Nat} {σ : sg} {x : aW} {v : Int64} (hC : Cx m X) (hd : decode m.2.1 pc = .ok (.lastore, 1)) (kk : Rw m X (pc + 1) ls st (wd (sL σ 201 v) x) cl sl) : Rw m X pc ls (.long v :: .int 0 :: .ref 201 :: st) (wd σ x) cl sl := by
  refine R_lastore (g := fun _ => v) hC hd (by decide) (wd_at L_out) (vp_in_j (x := 0) (n := 1) (j := 0) rfl (by decide) (by decide)).1 (fun q hq => ?_) ?_
  · have : q = 0 := by omega
    subst this
    exact (if_pos rfl).symm
  · rw [wd_putO L_out]
    exact kk
theorem HW_more {V : aV} {w : aW} {H H1 : Heap} {k : Nat} (hV : VOK V) (hH : HW V w H) (hb : w.1 + k < BIG) (hz : H1.size = H.size + k) (o : ∀ q : Nat, q < H.size → H1[q]? = H[q]?) : HW V (w.1 + k, w.2) H1 := by
  obtain ⟨h1, h2, h3, h4⟩ := hH
  have hsz : V.2.2.2.size ≤ H.size := by rw [h1, rho_ge hV h2.1 h2.2]; omega
  refine ⟨?_, ⟨by show 16 ≤ w.1 + k; omega, hb⟩, fun q hq => ?_, fun i ci hi => ?_⟩
  · rw [hz, h1, rho_ge hV h2.1 h2.2, rho_ge hV (by omega) hb]; omega
  · rw [o q (by omega)]; exact h3 q hq
  · obtain ⟨g1, g2⟩ := h4 i ci hi
    exact ⟨Nat.lt_of_lt_of_le g1 (Nat.le_add_right _ _), g2.kept (o _ (by rw [h1]; exact rho_lt hV h2.1 h2.2 g1))⟩
/-! the words of the throw -/
abbrev NSE : String := "java/util/NoSuchElementException"
abbrev nseUp : List String := ["java/lang/RuntimeException", "java/lang/Exception"]
def is_dc : Cond → Bool
  | .declares _ => true
  | .castable _ _ => true
  | _ => false
theorem is_dc_n {w : Cond} (h : is_dc w = true) : is_nest w = true ∧ w.onTables = true := by
  unfold is_dc at h
  split at h
  · exact ⟨rfl, rfl⟩
  · exact ⟨rfl, rfl⟩
  · cases h
theorem at0_g : (vx_at0 RX10 132 NSE nseUp).filter goodWord = ([20, 1111, 1120, 1122, 1125, 1127, 1112, 1113, 31, 32, 1114, 1119, 1123, 1139, 1101, 1140, 1103, 1141, 1105, 1115, 1117, 1107, 1129, 1130, 1131, 1132, 1132, 1133, 1134, 1135, 1135, 1136, 1137, 1112, 1128, 1090, 1098, 1099, 1100, 1102, 1104, 1106, 1110, 1109, 1108] : List Nat).filterMap (fun i => tables_1[i]?) := by decide +kernel
theorem at0_b : (vx_at0 RX10 132 NSE nseUp).filter (fun w => !goodWord w) = ([1092, 1094, 1096, 1091] : List Nat).filterMap (fun i => tables_1[i]?) := by decide +kernel
theorem at0_n : (vx_at0 RX10 132 NSE nseUp).all (fun w => goodWord w || is_dc w) = true := by decide +kernel
theorem at0_o : (Cond.classLink RX10 130 NSE :: Cond.initialized NSE :: vx_at0 RX10 132 NSE nseUp).all vx_ot = true := by decide +kernel
theorem at0_ok {args : Array Value} {s : State} (hts : ∀ w ∈ lw_gl, w.before args s = true) (hn : ∀ w ∈ lw_nl, va_Nw w s) : ∀ w ∈ vx_at0 RX10 132 NSE nseUp, w.before args s = true := by
  intro w hw
  have h0 := List.all_eq_true.mp at0_n w hw
  cases hg : goodWord w with
  | false =>
    have h1 : w ∈ (vx_at0 RX10 132 NSE nseUp).filter (fun w => !goodWord w) := List.mem_filter.mpr ⟨hw, by rw [hg]; rfl⟩
    rw [at0_b] at h1
    obtain ⟨i, -, hi⟩ := List.mem_filterMap.mp h1
    have h2 : is_dc w = true := by
      rw [hg] at h0
      simpa using h0
    obtain ⟨h3, h4⟩ := is_dc_n h2
    exact va_Nw.use h4 (hn w (List.mem_filter.mpr ⟨List.mem_append_right _ (List.mem_of_getElem? hi), h3⟩))
  | true =>
    have h1 : w ∈ (vx_at0 RX10 132 NSE nseUp).filter goodWord := List.mem_filter.mpr ⟨hw, hg⟩
    rw [at0_g] at h1
    obtain ⟨i, -, hi⟩ := List.mem_filterMap.mp h1
    exact hts w (List.mem_filter.mpr ⟨List.mem_append_right _ (List.mem_of_getElem? hi), hg⟩)
theorem lyS.zq {C n d : String} {V : aV} {s : State} {args : Array Value} {w : aW} (h : lyS C n d V s) (hH : HW V w s.heap) (hini : (Cond.initialized C).before args s = true) : vx_Zq C n d (fr V) s s.heap := by
  obtain ⟨c, k, i, f, a, cell, v, hc, hf, hst, ha, hcell, hiss, hcls, hsl, hty, hv, hvr⟩ := h
  have hlt : a < V.2.2.2.size := (Array.getElem?_eq_some_iff.mp hcell).1
  have hcell2 : s.heap[a]? = some cell := by rw [hH.2.2.1 a hlt]; exact hcell
  have hA : ¬ fr V a := by
    unfold fr
    omega
  have hl : (Cond.laysStatic C n d).before args s = true := by
    show (Cond.laysStatic C n d).holds args s none s [] = true
    exact Cond.laysStatic_of hc hf hst ha hcell2 hiss hcls hsl hty
  have he : (Term.static C n d).eval args s none [] s = some v := by
    simp [Term.eval, State.fieldNamed?, hf, hst, ha, hcell2, hiss, hv]
  have hz : va_Z C n d v (fun _ => False) s s.heap := va_Zof hl hini he (fun _ _ q => q)
  have hz2 : va_Z C n d v (fr V) s s.heap := by
    obtain ⟨cf, kf, fi, f2, a2, cell2, g1, g2, g3, g4, g5, g6, g7, -⟩ := hz
    have e9 : (c, k, i, f) = (cf, kf, fi, f2) := Option.some.inj (hf.symm.trans g1)
    cases e9
    have e8 : a = a2 := Option.some.inj (ha.symm.trans g4)
    subst e8
    exact ⟨c, k, i, f, a, cell2, g1, g2, g3, g4, g5, g6, g7, hA⟩
  refine ⟨?_, c, k, i, f, a, cell, hc, hf, hst, ha, hcell2, hiss, hcls, hsl, hty, hA⟩
  rcases hvr with rfl | ⟨r, rfl⟩
  · exact Or.inl hz2
  · exact Or.inr ⟨r, hz2⟩
/-- what the class's entry gives inside the table -/
theorem e_in {σ : sg} {x : aW} {T : tb} (h : CT σ i_table T) {r c : Int32} (hin : inR T.1 r ∧ inR T.2.1 c) : Mt mX10_entry 1 0 0 [.ref i_U, .int r, .int c] (wd σ x) (QI (atZ T r c) (wd σ x)) := by
  refine Mt.of MI_X10_entry (Nat.le_of_ble_eq_true rfl) (fun X hC hR hT => ?_)
  refine R_aload_n (i := 0) hC dX10_entry_0 rfl rfl (R_gR hC dX10_entry_1 fl_X10_19 L_U rfl (R_iload_n (i := 1) hC dX10_entry_4 rfl rfl (R_iload_n (i := 2) hC dX10_entry_5 rfl rfl ?_)))
  refine R_V2i hC hR dX10_entry_6 MV_X7_has ml_X10_126 L_table rfl (c_has TL_table h r c) (by decide) ⟨by decide, by decide⟩ (Nat.le_of_ble_eq_true rfl) ?_
  refine R_if_ne hC 20 dX10_entry_9 (by decide) (fun _ => ?_) (fun h9 => absurd hin (b2i_0 h9))
  refine R_aload_n (i := 0) hC dX10_entry_20 rfl rfl (R_gR hC dX10_entry_21 fl_X10_19 L_U rfl (R_iload_n (i := 1) hC dX10_entry_24 rfl rfl (R_iload_n (i := 2) hC dX10_entry_25 rfl rfl ?_)))
  refine R_V2i hC hR dX10_entry_26 MV_X7_at ml_X10_133 L_table rfl (c_at TL_table h r c) (by decide) ⟨by decide, by decide⟩ (Nat.le_of_ble_eq_true rfl) ?_
  exact R_iret hC hT dX10_entry_29 rfl ⟨rfl, rfl⟩
/-- the world behind a throw: nothing but new cells -/
def xcV (V : aV) (w : aW) : String → State → State → Prop := fun E _ t => E = NSE ∧ ∃ H : Heap, HW V w H ∧ H.size ≤ t.heap.size ∧ ∀ q : Nat, q < H.size → t.heap[q]? = H[q]?
def qNo : Array Value → State → Outcome → State → Prop := fun _ _ _ _ => False
theorem e_out {σ : sg} {x : aW} {T : tb} (h : CT σ i_table T) {r c : Int32} (hout : ¬ (inR T.1 r ∧ inR T.2.1 c)) (l : Launch) (V : aV) (hV : VOK V) (hl : l.stackTraces = false) :
    vx_Met l yX10_entry (wsOf mX10_entry) (rmD 6 1 6) (aPc V [.ref i_U, .int r, .int c] (wd σ x)) qNo (xcV V (wd σ x)) 1 6 (fr V) := by
  refine vx_ofW (cc := cX10_entry) (maxL := 3) (ret := some .int) MI_X10_entry.1 rfl ?_
  intro p e s mm args below meth cc s₁ B hml htb hv
  obtain ⟨rfl, hH0, hK⟩ := hv
  have hts0 := atoms_spec (ws := wsOf mX10_entry) B.pre
  have hts : ∀ w ∈ lw_gl, w.before _ s = true := fun w hw => hts0 w (List.mem_cons_of_mem _ hw)
  have hown : s.vm.findClass yX10_entry.cls = some mm.cls := findClass_of_methodNamed B.named
  have hent := lv_entry ([Value.ref i_U, .int r, .int c].map (rl V.2.2.1)) (n := 3) (by rw [ent_len]; exact Nat.le_of_ble_eq_true rfl)
  have go : ∀ X : aX, X = (p, l, e, (headSpec (wsOf mX10_entry) (rmD 6 1 6)).room, s, mm, ([Value.ref i_U, .int r, .int c].map (rl V.2.2.1)).toArray, below, meth, cc, vx_MQ below qNo (xcV V (wd σ x)) ([Value.ref i_U, .int r, .int c].map (rl V.2.2.1)).toArray s 1 6 (fr V), V) → Rw mX10_entry X 0 (ent [.ref i_U, .int r, .int c] 3) [] (wd σ x) 0 0 := by
    intro X hX
    have hC : Cx mX10_entry X := by
      subst hX
      exact ⟨hV, B.exec, B.bytes, hml, B.returns, B.notSynchronized, hown, hts, hK, (name_of_methodNamed B.named B.method).1⟩
    have hR : Rd X 6 1 6 := by
      subst hX
      exact ⟨Nat.le_refl _, Nat.le_refl _, Nat.le_refl _, Nat.le_refl _⟩
    refine R_aload_n (i := 0) hC dX10_entry_0 rfl rfl (R_gR hC dX10_entry_1 fl_X10_19 L_U rfl (R_iload_n (i := 1) hC dX10_entry_4 rfl rfl (R_iload_n (i := 2) hC dX10_entry_5 rfl rfl ?_)))
    refine R_V2i hC hR dX10_entry_6 MV_X7_has ml_X10_126 L_table rfl (c_has TL_table h r c) (by decide) ⟨by decide, by decide⟩ (Nat.le_of_ble_eq_true rfl) ?_
    refine R_if_ne hC 20 dX10_entry_9 (by decide) (fun h9 => absurd (b2i_ne h9) hout) (fun _ => ?_)
    subst hX
    intro H locs la hH hL hl2
    have hini : (Cond.initialized Bundle.tN).before (([Value.ref i_U, .int r, .int c].map (rl V.2.2.1)).toArray) s = true := hts _ (gmt tc_1 20 rfl (by decide +kernel))
    have hsz : H.size = s.heap.size := by rw [hH.1, hH0.1]
    exact vx_throw0 (A := fr V) (own := RX10) (cls := NSE) (names := nseUp) (ik := 130) (ic := 132) B.exec B.bytes hl hown (by decide +kernel) (by decide +kernel) (hts _ (gmt tc_5 129 rfl (by decide +kernel))) (hts _ (gmt tc_1 23 rfl (by decide +kernel))) (at0_ok hts hK.2.1) (fun w hw => List.all_eq_true.mp at0_o w hw)
      (lyS.zq hK.2.2.2.2.2.2.2.1 hH0 hini) (lyS.zq hK.2.2.2.2.2.2.2.2 hH0 hini)
      ⟨by omega, fun q hq hA => by
        have hq2 : q < V.2.2.2.size := by
          unfold fr at hA
          omega
        rw [hH.2.2.1 q hq2, hH0.2.2.1 q hq2], hL⟩ (hl2.1.trans hml.symm) dX10_entry_12 dX10_entry_15 dX10_entry_16 dX10_entry_19 (fun x hx => (htb x hx).elim)
      (Nat.le_of_ble_eq_true rfl) (Nat.le_of_ble_eq_true rfl) (Nat.le_of_ble_eq_true rfl) (Nat.le_of_ble_eq_true rfl) B.notSynchronized (fun t _ g1 g2 => ⟨rfl, H, hH, g1, g2⟩) hL (by decide) (by decide)
  rw [lg_entry_eq]
  refine go _ rfl s.heap [] _ hH0 (fun q hq => by cases hq) ?_
  unfold ent
  rw [lvl_ent]
  exact hent
