/-! ===== the law's own entry, and its case 4 ===== -/
abbrev mLE : mi := (yL_entry, cL_entry, 5, some .int)
abbrev hhLE : List (Nat × Nat × Nat × Nat) := [(0, 10, 13, 13)]
def wsLE : List Cond := .codeWith yL_entry cL_entry 5 (some .int) hhLE :: lw_gl
/-- no stack traces, the handler's row, the heap at the start -/
def EX (X : aX) (w : aW) : Prop := match X with
  | (_, l, _, _, s, _, _, _, _, c, _, V) => l.stackTraces = false ∧ c.exceptionTable.toList = tableOf hhLE ∧ HW V w s.heap
def lX (X : aX) : Prop := match X with
  | (_, l, _, _, _, _, _, _, _, _, _, _) => l.stackTraces = false
def MtL (d mc ms : Nat) (as : List Value) (w : aW) (Q : Option Value → aW → Prop) : Prop := ∀ (l : Launch) (V : aV), VOK V → l.stackTraces = false → Met l yL_entry wsLE (rmD d mc ms) (aPc V as w) (aQc V Q) mc ms (fr V)
theorem MtL.of {d mc ms : Nat} {as : List Value} {w : aW} {Q : Option Value → aW → Prop} (hlen : (entL as).length ≤ 5)
    (h : ∀ X : aX, Cx mLE X → Rd X d mc ms → Rt X mc ms Q → EX X w → Rw mLE X 0 (ent as 5) [] w 0 0) : MtL d mc ms as w Q := by
  intro l V hV hl
  refine va_MetW (cc := cL_entry) (maxL := 5) (ret := some .int) (hh := hhLE) (by decide +kernel) rfl ?_
  intro p e s mm args below meth c s₁ B hml hv
  obtain ⟨rfl, hH, hK⟩ := hv
  have hts := atoms_spec (ws := wsLE) B.pre
  have hown : s.vm.findClass yL_entry.cls = some mm.cls := findClass_of_methodNamed B.named
  have hent := lv_entry (as.map (rl V.2.2.1)) (n := 5) (by rw [ent_len]; exact hlen)
  have htab : c.exceptionTable.toList = tableOf hhLE := vx_table (x := yL_entry) B (hts _ List.mem_cons_self)
  have hk := h (p, l, e, (headSpec wsLE (rmD d mc ms)).room, s, mm, (as.map (rl V.2.2.1)).toArray, below, meth, c, MQ below (aQc V Q) (as.map (rl V.2.2.1)).toArray s mc ms (fr V), V) ⟨hV, B.exec, B.bytes, hml, B.returns, B.notSynchronized, hown, (fun w hw => hts w (List.mem_cons_of_mem _ hw)), hK, (name_of_methodNamed B.named B.method).1⟩ ⟨Nat.le_refl _, Nat.le_refl _, Nat.le_refl _, Nat.le_refl _⟩ rfl ⟨hl, htab, hH⟩
  rw [lg_entry_eq]
  refine hk s.heap [] _ hH (fun q hq => by cases hq) ?_
  unfold ent
  rw [lvl_ent]
  exact hent
theorem eL_in {σ : sg} {x : aW} {T : tb} (h : CT σ i_table T) {r c : Int32} (hin : inR T.1 r ∧ inR T.2.1 c) : MtL 8 1 6 [.ref i_U, .int r, .int c, .ref 201] (wd σ x) (QI 0 (wd (sL σ 201 (atZ T r c).toInt64) x)) := by
  refine MtL.of (Nat.le_of_ble_eq_true rfl) (fun X hC hR hT _ => ?_)
  refine R_aload_n (i := 3) hC dL_entry_0 rfl rfl (R_iconst (v := 0) hC dL_entry_1 (by decide) (R_aload_n (i := 0) hC dL_entry_2 rfl rfl (R_iload_n (i := 1) hC dL_entry_3 rfl rfl (R_iload_n (i := 2) hC dL_entry_4 rfl rfl ?_))))
  refine R_V2i hC hR dL_entry_5 MV_X10_entry ml_L_7 L_U rfl (e_in h hin) (by decide) ⟨by decide, by decide⟩ (Nat.le_of_ble_eq_true rfl) ?_
  refine R_i2l hC dL_entry_8 (R_sO hC dL_entry_9 (R_goto hC 17 dL_entry_10 (by decide) (R_iconst (v := 0) hC dL_entry_17 (by decide) ?_)))
  exact R_widen (by decide) (by decide) (R_iret hC hT dL_entry_18 rfl ⟨rfl, rfl⟩)
theorem eL_out {σ : sg} {x : aW} {T : tb} (h : CT σ i_table T) {r c : Int32} (hout : ¬ (inR T.1 r ∧ inR T.2.1 c)) (hx : x.1 < 900000) : MtL 8 1 6 [.ref i_U, .int r, .int c, .ref 201] (wd σ x) (fun q w => q = some (.int 1) ∧ ∃ x2 : aW, x2.1 ≤ x.1 + 1 ∧ w = wd σ x2) := by
  refine MtL.of (Nat.le_of_ble_eq_true rfl) (fun X hC hR hT hE => ?_)
  refine R_aload_n (i := 3) hC dL_entry_0 rfl rfl (R_iconst (v := 0) hC dL_entry_1 (by decide) (R_aload_n (i := 0) hC dL_entry_2 rfl rfl (R_iload_n (i := 1) hC dL_entry_3 rfl rfl (R_iload_n (i := 2) hC dL_entry_4 rfl rfl ?_))))
  have last : ∀ k, k ≤ 1 → Rw mLE X 15 [] [] (wd σ (x.1 + k, x.2)) 1 6 := fun k hk =>
    R_iconst (v := 1) hC dL_entry_15 (by decide) (R_iret hC hT dL_entry_16 rfl ⟨rfl, (x.1 + k, x.2), Nat.add_le_add_left hk _, rfl⟩)
  have hC0 := hC
  obtain ⟨p, l, e, R, s, mm, args, below, meth, cd, Z, V⟩ := X
  obtain ⟨hV, hx1, hb, hml, hr, hlk, hown, hts, hK, hnm⟩ := hC
  obtain ⟨r1, r2, r3, r4⟩ := hR
  obtain ⟨hl, htab, hH0⟩ := hE
  intro H locs la hH hL hl2
  have hcb : Cond.code yX10_entry cX10_entry 3 (some .int) ∈ wsOf mX10_entry := List.mem_cons_self
  have hrec : ∃ cellB : Cell, H[V.2.2.1 i_U]? = some cellB ∧ cellB.vm.isStatics = false ∧ s.vm.findClass RX10 = some cellB.cls := by
    have hw := wd_at (σ := σ) (x := x) L_U
    have hP : va_P V.1 vwCl [(V.2.2.1 i_U, cE V (cellF σ i_U (2, 10, [(2, 17), (2, 19), (2, 21), (2, 23), (2, 25), (2, 107), (0, 0), (2, 108), (0, 0), (2, 109), (0, 0), (2, 111), (2, 112), (2, 114), (2, 119), (2, 124), (2, 131), (2, 136), (2, 142)])))] H := by
      intro k q hq
      have hq2 := List.mem_of_getElem? hq
      rw [List.mem_singleton] at hq2
      subst hq2
      exact (hH.2.2.2 i_U _ hw).2
    exact va_recv hK.1 hP (ci := 10) (q0 := 0) rfl rfl
  have hpre : PreV s H RX10 (V.2.2.1 i_U) (aPc V [.ref i_U, .int r, .int c] (wd σ x)) [.int r, .int c] := ⟨aPc_blind, hrec, fun U hU hW => ⟨rfl, by rw [hU]; exact hH, hK.moved hW⟩⟩
  have hsig : ∀ sig, parseMethodDescriptor yX10_entry.desc = some sig → 2 = sig.parameters.length := fun sig h => by
    have h2 := MV_X10_entry.2.2.2
    rw [h] at h2
    exact (Option.some.inj h2).symm
  have hrun := vx_runV (C := RX10) (bytes := cX10_entry) (maxL := 3) (ret := some .int) (n := 2) (index := 7) (l := l) (e := e) (R := R) (below := below) (meth := meth) (locs := locs) (cells := 0) (slots := 0) (As := [.int r, .int c]) (rest := [.int 0, .ref (V.2.2.1 201)]) (g := F0 mm 5 la [.int c, .int r, .ref (V.2.2.1 i_U), .int 0, .ref (V.2.2.1 201)])
    ⟨hx1, hb, hml, hown, hts⟩ (e_out h hout l V hV hl) ⟨⟨rfl, rfl, by show 6 + 1 ≤ _; omega, by show 8 + (3 + 11) + (60 * 6 + 60) ≤ _; omega, pay_in hts (wsOf_good MI_X10_entry), hcb, gl_ts hts MI_X10_entry.2.1, gl_ts hts MI_X10_entry.2.2.1, MI_X10_entry.2.2.2.1, hsig, gl_ts hts (gmt tc_5 125 rfl (by decide +kernel))⟩, gl_ts hts MV_X10_entry.2.1, gl_ts hts MV_X10_entry.2.2.1⟩ hpre rfl rfl hl2.1 rfl (lv_room (Nat.le_of_ble_eq_true rfl)) dL_entry_5 ⟨by omega, by omega⟩
  intro T1 hT1 X0
  rcases hrun T1 hT1 X0 with ⟨v, st₀, t, T', L, h0, X', hL2, e1, e2, hq, stp⟩ | ⟨q, st₀, t, T', L, E, ce, h0, X', hL2, e1, e2, ⟨hEq, H2, g1, g2, g3⟩, hce, hcv, hcl, stp⟩
  · exact hq.elim
  · subst hEq
    have hz : T'.heap.size ≤ s.heap.size + (0 + 1) := X'.heapSize
    have hz0 : s.heap.size = H2.size := by rw [hH0.1, g1.1]
    obtain ⟨k, hk⟩ : ∃ k, T'.heap.size = H2.size + k := ⟨T'.heap.size - H2.size, by rw [e1] at hz ⊢; omega⟩
    have hk1 : k ≤ 1 := by omega
    have hW2 : HW V (wd σ (x.1 + k, x.2)) T'.heap := HW_more (w := wd σ x) hV g1 (Nat.lt_of_le_of_lt (show x.1 + k ≤ 900000 by omega) (by decide)) hk (fun q hq => by rw [e1]; exact g3 q hq)
    obtain ⟨t2, a1, b1⟩ := vx_catch (pc := 5) (ls := la) (rest := [.int 0, .ref (V.2.2.1 201)]) (Q := Z) (E := NSE) (name := NSE) hown [] ⟨0, 10, 13, 13⟩ [] (htab.trans rfl) (fun z hz => by cases hz) (by decide) (by decide) (gl_ts hts (gmt tc_5 124 rfl (by decide +kernel))) (va_Nw.use rfl (hK.2.1 _ (nmt tc_5 131 rfl (by decide +kernel)))) (by rw [e1]; exact hce) hcv hcl
      (lv_astore (nL := 5) hx1 hb dL_entry_13 hl2 (by decide) rfl (fun la2 h2 => last k hk1 T'.heap (locs ++ L) la2 hW2 (fun z hz => (List.mem_append.mp hz).elim (hL z) (hL2 z)) ⟨h2.1, h2.2.1, fun z hz => by cases hz⟩)) T' rfl X'
    exact ⟨t2, stp.trans a1, b1⟩
/-- the call of the law's own entry -/
theorem R_callLE {X : aX} {pc d dd mc ms mcX msX cl sl : Nat} {ls : List (Option Value)} {st As : List Value} {w : aW} {Q : Option Value → aW → Prop} (hC : Cx mLaw X) (hR : Rd X dd mcX msX) (hX : lX X) (hd : decode code pc = .ok (.invokestatic 38, 3)) (hM : MtL d mc ms As w Q)
    (hn : As.length = 4) (hdd : d + 1 ≤ dd) (hroom : cl + mc ≤ mcX ∧ sl + ms ≤ msX) (hcat : (st.map fun v => v.category).sum ≤ 8)
    (kk : ∀ (r : Option Value) (w' : aW), Q r w' → Rw mLaw X (pc + 3) ls (r.toList ++ st) w' (cl + mc) (sl + ms)) : Rw mLaw X pc ls (As.reverse ++ st) w cl sl := by
  obtain ⟨p, l, e, R, s, mm, args, below, meth, c, Z, V⟩ := X
  obtain ⟨hV, hx, hb, hml, hr, hlk, hown, hts, hK, hnm⟩ := hC
  obtain ⟨r1, r2, r3, r4⟩ := hR
  intro H locs la hH hL hl2
  have hl : l.stackTraces = false := hX
  have hmem : Cond.codeWith yL_entry cL_entry 5 (some .int) hhLE ∈ lw_gl := gmt tc_5 123 rfl (by decide +kernel)
  have hgood : GoodIn lw_gl wsLE := by
    intro w hw
    rcases List.mem_cons.mp hw with rfl | h
    · exact ⟨hmem, good_of_word (List.mem_filter.mp hmem).2⟩
    · exact ⟨h, good_of_word (List.mem_filter.mp h).2⟩
  have hpre : PreS s H (aPc V As w) (As.map (rl V.2.2.1)) := ⟨aPc_blind, fun U hU hW => ⟨rfl, by rw [hU]; exact hH, hK.moved hW⟩⟩
  have hsig : ∀ sig, parseMethodDescriptor yL_entry.desc = some sig → 4 = sig.parameters.length := fun sig h => by
    have h2 : (parseMethodDescriptor yL_entry.desc).map (fun d => d.parameters.length) = some 4 := by decide +kernel
    rw [h] at h2
    exact (Option.some.inj h2).symm
  have hst : (As.reverse ++ st).map (rl V.2.2.1) = (As.map (rl V.2.2.1)).reverse ++ st.map (rl V.2.2.1) := by
    rw [List.map_append, List.map_reverse]
  refine run_go (a := (As.map (rl V.2.2.1)).toArray) (Q := Q) hL ?_ (fun r w' hq H1 locs1 g1 g2 => kk r w' hq H1 locs1 la g1 g2 hl2)
  exact vx_runSW (bytes := cL_entry) (maxL := 5) (ret := some .int) (hh := hhLE) (n := 4) (own := x.cls) ⟨hx, hb, hml, hown, hts⟩ (hM l V hV hl) ⟨⟨rfl, rfl, by show d + 1 ≤ _; omega, by show 8 + (5 + 11) + (60 * d + 60) ≤ _; omega, pay_in hts hgood, List.mem_cons_self⟩, gl_ts hts hmem, gl_ts hts (gmt tc_1 0 rfl (by decide +kernel)), ⟨by decide +kernel, by decide +kernel⟩, hsig, gl_ts hts (gmt tc_5 121 rfl (by decide +kernel)), gl_ts hts (gmt tc_5 122 rfl (by decide +kernel))⟩ hpre rfl (by rw [List.length_map]; exact hn) hl2.1 hst (lv_room (by rw [cat_map]; exact hcat)) hd ⟨by omega, by omega⟩
theorem s_entry2 (σ : sg) (x : aW) (r c : Int32) (hR0 : 0 ≤ (σ.2.2 i_m_now 36).toInt ∧ (σ.2.2 i_m_now 36).toInt ≤ 6 ∧ 0 ≤ (σ.2.2 i_m_now 37).toInt ∧ (σ.2.2 i_m_now 37).toInt ≤ 6) : Mt mX11_entry 1 0 0 [.ref i_M, .int r, .int c] (wd σ x) (fun q w => (∃ i j : Nat, r = nI i ∧ c = nI j ∧ i < 2 ^ 31 ∧ j < 2 ^ 31 ∧ inT (σ.2.2 i_m_now) r c ∧ q = some (.int (σ.2.2 i_m_now (6 * i + j))) ∧ w = wd (sG σ i_M 0 0) x) ∨ (¬ inT (σ.2.2 i_m_now) r c ∧ q = some (.int 0) ∧ w = wd (sG σ i_M 0 1) x)) := by
  refine Mt.of MI_X11_entry (Nat.le_of_ble_eq_true rfl) (fun X hC hR hT => ?_)
  refine R_aload_n (i := 0) hC dX11_entry_0 rfl rfl (R_aload_n (i := 0) hC dX11_entry_1 rfl rfl (R_aload_n (i := 0) hC dX11_entry_2 rfl rfl (R_gR hC dX11_entry_3 fl_X11_13 L_M rfl (R_iload_n (i := 1) hC dX11_entry_6 rfl rfl (R_iload_n (i := 2) hC dX11_entry_7 rfl rfl ?_)))))
  refine R_V3i hC hR dX11_entry_8 MV_X11_isCell ml_X11_158 L_M rfl (s_isCell _ _ _ L_m_now _ _) (by decide) ⟨by decide, by decide⟩ (Nat.le_of_ble_eq_true rfl) ?_
  refine R_if_eq hC 18 dX11_entry_11 (by decide) (fun h11 => ?_) (fun h11 => ?_)
  · have hn := b2i_0 h11
    refine R_iconst (v := 1) hC dX11_entry_18 (by decide) (R_pI hC dX11_entry_19 fl_X11_83 L_M rfl (R_aload_n (i := 0) hC dX11_entry_22 rfl rfl (R_gI hC dX11_entry_23 fl_X11_83 L_M rfl ?_)))
    refine R_if_ne hC 43 dX11_entry_26 (by decide) (fun _ => ?_) (fun h => absurd h (by rw [sG_eq] <;> decide))
    refine R_iconst (v := 0) hC dX11_entry_43 (by decide) ?_
    exact R_iret hC hT dX11_entry_44 rfl (by first | exact Or.inl ⟨i, j, rfl, rfl, hi2, hj2, hin, rfl, rfl⟩ | exact Or.inr ⟨hn, rfl, rfl⟩)
  · have hin := b2i_ne h11
    obtain ⟨h1, h2, h3, h4⟩ := id hin
    obtain ⟨i, rfl, hi, hi2⟩ := i32_nI h1
    obtain ⟨j, rfl, hj, hj2⟩ := i32_nI h3
    refine R_iconst (v := 0) hC dX11_entry_14 (by decide) (R_goto hC 19 dX11_entry_15 (by decide) (R_pI hC dX11_entry_19 fl_X11_83 L_M rfl (R_aload_n (i := 0) hC dX11_entry_22 rfl rfl (R_gI hC dX11_entry_23 fl_X11_83 L_M rfl ?_))))
    refine R_if_ne hC 43 dX11_entry_26 (by decide) (fun h => absurd (by rw [sG_eq] <;> decide) h) (fun _ => ?_)
    refine R_aload_n (i := 0) hC dX11_entry_29 rfl rfl (R_gR hC dX11_entry_30 fl_X11_13 L_M rfl (R_bipush (v := 6) hC dX11_entry_33 (by decide) (R_iload_n (i := 1) hC dX11_entry_35 rfl rfl (R_imul hC dX11_entry_36 (R_iload_n (i := 2) hC dX11_entry_37 rfl rfl (R_iadd hC dX11_entry_38 (R_aI hC dX11_entry_39 L_m_now (6 * i + j) (n6 i j) (by omega) (by decide) ?_)))))))
    refine R_goto hC 44 dX11_entry_40 (by decide) ?_
    exact R_iret hC hT dX11_entry_44 rfl (by first | exact Or.inl ⟨i, j, rfl, rfl, hi2, hj2, hin, rfl, rfl⟩ | exact Or.inr ⟨hn, rfl, rfl⟩)
theorem lg_cmp_rf (x : Int64) : lg_cmp x x = 0 := by
  unfold lg_cmp
  rw [if_neg (by simp [Int64.lt_irrefl]), if_pos rfl]
theorem in_iff {g : Nat → Int32} {T : tb} (h : TB g T) (r c : Int32) : inT g r c ↔ (inR T.1 r ∧ inR T.2.1 c) := by
  unfold inT inR
  rw [h.1, h.2.1, nI_toInt (by have := h.2.2.1; omega), nI_toInt (by have := h.2.2.2.1; omega)]
  exact ⟨fun ⟨a, b, c, d⟩ => ⟨⟨a, b⟩, c, d⟩, fun ⟨⟨a, b⟩, c, d⟩ => ⟨a, b, c, d⟩⟩
theorem lw_c4 {X : aX} {L : Nat} {xs : Nat → Int32} (hC : Cx mLaw X) (hR : Rd X 30 601024 7293034) (hS : SX X L xs) (hL2 : L ≤ 3072) (hX : lX X) : LE X L xs := by
  intro σ xw α i cl sl l5 l6 hc hm ok hi hcl hsl hxw kk
  have hT0 : TB (σ.2.2 i_m_now) (tT α) := hm.2.1.TB ok.2.2.1
  have hR0 : 0 ≤ (σ.2.2 i_m_now 36).toInt ∧ (σ.2.2 i_m_now 36).toInt ≤ 6 ∧ 0 ≤ (σ.2.2 i_m_now 37).toInt ∧ (σ.2.2 i_m_now 37).toInt ≤ 6 := by
    obtain ⟨g1, g2, g3, g4, -⟩ := hT0
    rw [g1, g2, nI_toInt (by omega), nI_toInt (by omega)]
    omega
  refine R_aload_n (i := 1) hC dL_law_368 rfl rfl (R_aload_n (i := 0) hC dL_law_369 rfl rfl (R_iload hC dL_law_370 rfl (R_iconst (v := 1) hC dL_law_372 (by decide) (R_iadd hC dL_law_373 (R_scr hC hS dL_law_374 (i + 1) (nIa i 1) (by omega) (R_aload_n (i := 0) hC dL_law_375 rfl rfl (R_iload hC dL_law_376 rfl ?_)))))))
  refine R_iconst (v := 2) hC dL_law_378 (by decide) (R_iadd hC dL_law_379 (R_scr hC hS dL_law_380 (i + 2) (nIa i 2) (by omega) (R_aload_n (i := 3) hC dL_law_381 rfl rfl ?_)))
  have args : ∀ (τ : sg) (x2 : aW) (m5 m6 : Option Value) (st : List Value) (c2 s2 : Nat), Rw mLaw X 400 [some (.ref BIG), some (.ref 16), some (.ref 176), some (.ref 201), some (.int (nI i)), m5, m6] (.int (xs (i + 2)) :: .int (xs (i + 1)) :: .ref 176 :: st) (wd τ x2) c2 s2 → Rw mLaw X 387 [some (.ref BIG), some (.ref 16), some (.ref 176), some (.ref 201), some (.int (nI i)), m5, m6] st (wd τ x2) c2 s2 := by
    intro τ x2 m5 m6 st c2 s2 k
    refine R_aload_n (i := 2) hC dL_law_387 rfl rfl (R_aload_n (i := 0) hC dL_law_388 rfl rfl (R_iload hC dL_law_389 rfl (R_iconst (v := 1) hC dL_law_391 (by decide) (R_iadd hC dL_law_392 (R_scr hC hS dL_law_393 (i + 1) (nIa i 1) (by omega) (R_aload_n (i := 0) hC dL_law_394 rfl rfl (R_iload hC dL_law_395 rfl ?_)))))))
    exact R_iconst (v := 2) hC dL_law_397 (by decide) (R_iadd hC dL_law_398 (R_scr hC hS dL_law_399 (i + 2) (nIa i 2) (by omega) k))
  by_cases hin : inR (tT α).1 (xs (i + 1)) ∧ inR (tT α).2.1 (xs (i + 2))
  · refine R_callLE (As := [.ref i_U, .int (xs (i + 1)), .int (xs (i + 2)), .ref 201]) (st := []) hC hR hX dL_law_382 (eL_in hc.2.1 hin) rfl (by decide) ⟨by omega, by omega⟩ (Nat.le_of_ble_eq_true rfl) (fun q w1 hq => ?_)
    obtain ⟨rfl, rfl⟩ := hq
    refine R_istore hC dL_law_385 (by decide) rfl (args _ _ _ _ _ _ _ ?_)
    refine R_V2g hC hR dL_law_400 MV_X11_entry ml_L_43 L_M rfl (s_entry2 (sL σ 201 (atZ (tT α) (xs (i + 1)) (xs (i + 2))).toInt64) xw (xs (i + 1)) (xs (i + 2)) hR0) (by decide) ⟨by omega, by omega⟩ (Nat.le_of_ble_eq_true rfl) (fun q w1 hq => ?_)
    rcases hq with ⟨a, b, ea, eb, ba, bb, hi2, rfl, rfl⟩ | ⟨hno, -, -⟩
    · have hv : σ.2.2 i_m_now (6 * a + b) = atZ (tT α) (xs (i + 1)) (xs (i + 2)) := by
        obtain ⟨h1, h2⟩ := hin
        obtain ⟨a2, ea2, ha2, ha3⟩ := inR_i h1
        obtain ⟨b2, eb2, hb2, hb3⟩ := inR_i h2
        have g3 := hT0.2.2.1
        have g4 := hT0.2.2.2.1
        rw [atZ_y ⟨h1, h2⟩, ea2, eb2, nI_clamp (by omega), nI_clamp (by omega)]
        have ia : a = a2 := nI_inj ba ha3 (ea.symm.trans ea2)
        have ib : b = b2 := nI_inj bb hb3 (eb.symm.trans eb2)
        subst ia
        subst ib
        exact (hT0.2.2.2.2 a b ha2 hb2).1
      refine R_istore hC dL_law_403 (by decide) rfl (R_aload_n (i := 2) hC dL_law_405 rfl rfl ?_)
      refine R_V0i hC hR dL_law_406 MV_X11_thrown ml_L_44 L_M rfl (s_thrown _ _) (by decide) ⟨by omega, by omega⟩ (Nat.le_of_ble_eq_true rfl) ?_
      refine R_iload hC dL_law_409 rfl ?_
      refine R_icmp_eq hC 416 dL_law_411 (by decide) (fun _ => ?_) (fun h => absurd (sG_eq _ _ _ _) h)
      refine R_iload hC dL_law_416 rfl (R_if_ne hC 433 dL_law_418 (by decide) (fun h => absurd rfl h) (fun _ => ?_))
      refine R_aload_n (i := 3) hC dL_law_421 rfl rfl (R_iconst (v := 0) hC dL_law_422 (by decide) (R_gO hC dL_law_423 (R_iload hC dL_law_424 rfl (R_i2l hC dL_law_426 (R_lcmp hC dL_law_427 ?_)))))
      refine R_if_eq hC 433 dL_law_428 (by decide) (fun _ => ?_) (fun h => absurd ?_ h)
      · exact R_goto hC 1488 dL_law_433 (by decide) (kk _ α _ _ _ _ _ (hc.ceq ok ((CEq.rf σ).l (by decide) |>.g (by decide))) (M_thr hm.l 0) ok (Nat.le_succ _) (Nat.le_refl _) (Nat.le_refl _))
      · show lg_cmp (if (201 : Nat) = 201 then (atZ (tT α) (xs (i + 1)) (xs (i + 2))).toInt64 else σ.2.1 201) (σ.2.2 i_m_now (6 * a + b)).toInt64 = 0
        rw [if_pos rfl, hv]
        exact lg_cmp_rf _
    · exact absurd ((in_iff hT0 _ _).mpr hin) hno
  · refine R_callLE (As := [.ref i_U, .int (xs (i + 1)), .int (xs (i + 2)), .ref 201]) (st := []) hC hR hX dL_law_382 (eL_out hc.2.1 hin hxw) rfl (by decide) ⟨by omega, by omega⟩ (Nat.le_of_ble_eq_true rfl) (fun q w1 hq => ?_)
    obtain ⟨rfl, x2, hx2, rfl⟩ := hq
    refine R_istore hC dL_law_385 (by decide) rfl (args _ _ _ _ _ _ _ ?_)
    refine R_V2g hC hR dL_law_400 MV_X11_entry ml_L_43 L_M rfl (s_entry2 σ x2 (xs (i + 1)) (xs (i + 2)) hR0) (by decide) ⟨by omega, by omega⟩ (Nat.le_of_ble_eq_true rfl) (fun q w1 hq => ?_)
    rcases hq with ⟨a, b, ea, eb, ba, bb, hi2, rfl, rfl⟩ | ⟨hno, rfl, rfl⟩
    · exact absurd ((in_iff hT0 _ _).mp hi2) hin
    · refine R_istore hC dL_law_403 (by decide) rfl (R_aload_n (i := 2) hC dL_law_405 rfl rfl ?_)
      refine R_V0i hC hR dL_law_406 MV_X11_thrown ml_L_44 L_M rfl (s_thrown _ _) (by decide) ⟨by omega, by omega⟩ (Nat.le_of_ble_eq_true rfl) ?_
      refine R_iload hC dL_law_409 rfl ?_
      refine R_icmp_eq hC 416 dL_law_411 (by decide) (fun _ => ?_) (fun h => absurd (sG_eq _ _ _ _) h)
      refine R_iload hC dL_law_416 rfl (R_if_ne hC 433 dL_law_418 (by decide) (fun _ => ?_) (fun h => absurd h (by decide)))
      exact R_goto hC 1488 dL_law_433 (by decide) (kk _ α _ _ _ _ _ (hc.ceq ok ((CEq.rf σ).g (by decide))) (M_thr hm 1) ok hx2 (Nat.le_refl _) (Nat.le_refl _))
