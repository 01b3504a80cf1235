/-! ===== the law: its links, its script, its calls ===== -/
abbrev mLaw : mi := (x, code, 7, ret)
theorem nl_L_8 : Cond.classLink "UnimodularTablesLaw" 8 RX10 ∈ lw_gl := gmt tc_1 25 rfl (by decide +kernel)
theorem nl_L_16 : Cond.classLink "UnimodularTablesLaw" 16 RX11 ∈ lw_gl := gmt tc_5 190 rfl (by decide +kernel)
/-- the script: its number, its ints -/
def SX (X : aX) (L : Nat) (xs : Nat → Int32) : Prop := match X with
  | (_, _, _, _, s, _, _, _, _, _, _, V) => va_X (V.2.2.1 BIG) L xs s V.2.2.2 ∧ V.2.2.1 BIG < V.2.2.2.size
section SCR
variable {m : mi} {X : aX} {pc : Nat} {ls : List (Option Value)} {st : List Value} {w : aW} {cl sl : Nat}
theorem R_scr (hC : Cx m X) {L : Nat} {xs : Nat → Int32} {q : Int32} (hS : SX X L xs) (hd : decode m.2.1 pc = .ok (.iaload, 1)) (j : Nat) (hq : q = nI j) (hj : j < L ∧ L < 2 ^ 31) (kk : Rw m X (pc + 1) ls (.int (xs j) :: st) w cl sl) : Rw m X pc ls (.int q :: .ref BIG :: st) w cl sl := by
  obtain ⟨p, l, e, R, s, mm, args, below, meth, c, Z, V⟩ := X
  obtain ⟨hV, hx, hb, hml, hr, hlk, hown, hts, hK, hnm⟩ := hC
  obtain ⟨⟨scr, h1, h2, h3, h4, h5⟩, h6⟩ := hS
  intro H locs la hH hL hl
  obtain ⟨g1, g2⟩ := vp_in_j hq hj.1 hj.2
  exact W.iald (v := .int (xs j)) hx hb (by rw [hH.2.2.1 _ h6]; exact h1) h2 h3 (by rw [h4]; exact g1) (by rw [g2]; exact h5 j hj.1) rfl rfl hd (kk H locs la hH hL hl)
theorem R_sln (hC : Cx m X) {L : Nat} {xs : Nat → Int32} (hS : SX X L xs) (hd : decode m.2.1 pc = .ok (.arraylength, 1)) (kk : Rw m X (pc + 1) ls (.int (nI L) :: st) w cl sl) : Rw m X pc ls (.ref BIG :: st) w cl sl := by
  obtain ⟨p, l, e, R, s, mm, args, below, meth, c, Z, V⟩ := X
  obtain ⟨hV, hx, hb, hml, hr, hlk, hown, hts, hK, hnm⟩ := hC
  obtain ⟨⟨scr, h1, h2, h3, h4, h5⟩, h6⟩ := hS
  intro H locs la hH hL hl
  exact W.alen (n := Int32.ofNat L) hx hb (by rw [hH.2.2.1 _ h6]; exact h1) h2 (by rw [h4] <;> rfl) rfl rfl hd (kk H locs la hH hL hl)
end SCR
theorem lw_c0 {X : aX} {L : Nat} {xs : Nat → Int32} (hC : Cx mLaw X) (hR : Rd X 30 601024 7293034) (hS : SX X L xs) (hL2 : L ≤ 3072) {σ : sg} {xw : aW} {α : aS} {i cl sl : Nat} {l5 l6 : Option Value} (hc : CInv σ α) (hm : MInv σ α) (ok : aOK α) (hi : i + 6 ≤ L) (hcl : cl ≤ 601024) (hsl : sl ≤ 7293034) (kk : ∀ τ β, CInv τ β → MInv τ β → aOK β → Rw mLaw X 1488 [some (.ref BIG), some (.ref 16), some (.ref 176), some (.ref 201), some (.int (nI i)), l5, l6] [] (wd τ xw) cl sl) : Rw mLaw X 220 [some (.ref BIG), some (.ref 16), some (.ref 176), some (.ref 201), some (.int (nI i)), l5, l6] [] (wd σ xw) cl sl := by
  refine R_aload_n (i := 1) hC dL_law_220 rfl rfl (R_aload_n (i := 0) hC dL_law_221 rfl rfl (R_iload hC dL_law_222 rfl (R_iconst (v := 1) hC dL_law_224 (by decide) (R_iadd hC dL_law_225 (R_scr hC hS dL_law_226 (i + 1) (nIa i 1) (by omega) (R_aload_n (i := 0) hC dL_law_227 rfl rfl (R_iload hC dL_law_228 rfl ?_)))))))
  refine R_iconst (v := 2) hC dL_law_230 (by decide) (R_iadd hC dL_law_231 (R_scr hC hS dL_law_232 (i + 2) (nIa i 2) (by omega) (R_aload_n (i := 0) hC dL_law_233 rfl rfl (R_iload hC dL_law_234 rfl (R_iconst (v := 3) hC dL_law_236 (by decide) (R_iadd hC dL_law_237 (R_scr hC hS dL_law_238 (i + 3) (nIa i 3) (by omega) ?_)))))))
  refine R_aload_n (i := 0) hC dL_law_239 rfl rfl (R_iload hC dL_law_240 rfl (R_iconst (v := 4) hC dL_law_242 (by decide) (R_iadd hC dL_law_243 (R_scr hC hS dL_law_244 (i + 4) (nIa i 4) (by omega) (R_aload_n (i := 0) hC dL_law_245 rfl rfl (R_iload hC dL_law_246 rfl (R_iconst (v := 5) hC dL_law_248 (by decide) ?_)))))))
  refine R_iadd hC dL_law_249 (R_scr hC hS dL_law_250 (i + 5) (nIa i 5) (by omega) ?_)
  refine R_V5g hC hR dL_law_251 MV_X10_feed ml_L_19 L_U rfl (co_feed hc ok (xs (i + 1)) (xs (i + 2)) (xs (i + 3)) (xs (i + 4)) (xs (i + 5))) (by first | decide | omega) ⟨by omega, by omega⟩ (Nat.le_of_ble_eq_true rfl) (fun r w1 hq => ?_)
  obtain ⟨rfl, τ, rfl, ci, me⟩ := hq
  refine R_aload_n (i := 2) hC dL_law_254 rfl rfl (R_aload_n (i := 0) hC dL_law_255 rfl rfl (R_iload hC dL_law_256 rfl (R_iconst (v := 1) hC dL_law_258 (by decide) (R_iadd hC dL_law_259 (R_scr hC hS dL_law_260 (i + 1) (nIa i 1) (by omega) (R_aload_n (i := 0) hC dL_law_261 rfl rfl (R_iload hC dL_law_262 rfl ?_)))))))
  refine R_iconst (v := 2) hC dL_law_264 (by decide) (R_iadd hC dL_law_265 (R_scr hC hS dL_law_266 (i + 2) (nIa i 2) (by omega) (R_aload_n (i := 0) hC dL_law_267 rfl rfl (R_iload hC dL_law_268 rfl (R_iconst (v := 3) hC dL_law_270 (by decide) (R_iadd hC dL_law_271 (R_scr hC hS dL_law_272 (i + 3) (nIa i 3) (by omega) ?_)))))))
  refine R_aload_n (i := 0) hC dL_law_273 rfl rfl (R_iload hC dL_law_274 rfl (R_iconst (v := 4) hC dL_law_276 (by decide) (R_iadd hC dL_law_277 (R_scr hC hS dL_law_278 (i + 4) (nIa i 4) (by omega) (R_aload_n (i := 0) hC dL_law_279 rfl rfl (R_iload hC dL_law_280 rfl (R_iconst (v := 5) hC dL_law_282 (by decide) ?_)))))))
  refine R_iadd hC dL_law_283 (R_scr hC hS dL_law_284 (i + 5) (nIa i 5) (by omega) ?_)
  refine R_V5g hC hR dL_law_285 MV_X11_feed ml_L_23 L_M rfl (mo_feed (hm.meq me) ok (xs (i + 1)) (xs (i + 2)) (xs (i + 3)) (xs (i + 4)) (xs (i + 5))) (by first | decide | omega) ⟨by omega, by omega⟩ (Nat.le_of_ble_eq_true rfl) (fun r w1 hq => ?_)
  obtain ⟨rfl, υ, rfl, mi2, ce⟩ := hq
  refine R_icmp_eq hC 1488 dL_law_288 (by decide) (fun _ => ?_) (fun h => absurd rfl h)
  exact kk υ _ (ci.ceq (ok_feed ok (xs (i + 1)) (xs (i + 2)) (xs (i + 3)) (xs (i + 4)) (xs (i + 5))) ce) mi2 (ok_feed ok (xs (i + 1)) (xs (i + 2)) (xs (i + 3)) (xs (i + 4)) (xs (i + 5)))
theorem lw_c1 {X : aX} {L : Nat} {xs : Nat → Int32} (hC : Cx mLaw X) (hR : Rd X 30 601024 7293034) (hS : SX X L xs) (hL2 : L ≤ 3072) {σ : sg} {xw : aW} {α : aS} {i cl sl : Nat} {l5 l6 : Option Value} (hc : CInv σ α) (hm : MInv σ α) (ok : aOK α) (hi : i + 6 ≤ L) (hcl : cl ≤ 601024) (hsl : sl ≤ 7293034) (kk : ∀ τ β, CInv τ β → MInv τ β → aOK β → Rw mLaw X 1488 [some (.ref BIG), some (.ref 16), some (.ref 176), some (.ref 201), some (.int (nI i)), l5, l6] [] (wd τ xw) cl sl) : Rw mLaw X 293 [some (.ref BIG), some (.ref 16), some (.ref 176), some (.ref 201), some (.int (nI i)), l5, l6] [] (wd σ xw) cl sl := by
  refine R_aload_n (i := 1) hC dL_law_293 rfl rfl (R_aload_n (i := 0) hC dL_law_294 rfl rfl (R_iload hC dL_law_295 rfl (R_iconst (v := 1) hC dL_law_297 (by decide) (R_iadd hC dL_law_298 (R_scr hC hS dL_law_299 (i + 1) (nIa i 1) (by omega) ?_)))))
  refine R_V1g hC hR dL_law_300 MV_X10_end ml_L_24 L_U rfl (co_end hc ok (xs (i + 1))) (by first | decide | omega) ⟨by omega, by omega⟩ (Nat.le_of_ble_eq_true rfl) (fun r w1 hq => ?_)
  obtain ⟨rfl, τ, rfl, ci, me⟩ := hq
  refine R_aload_n (i := 2) hC dL_law_303 rfl rfl (R_aload_n (i := 0) hC dL_law_304 rfl rfl (R_iload hC dL_law_305 rfl (R_iconst (v := 1) hC dL_law_307 (by decide) (R_iadd hC dL_law_308 (R_scr hC hS dL_law_309 (i + 1) (nIa i 1) (by omega) ?_)))))
  refine R_V1g hC hR dL_law_310 MV_X11_end ml_L_28 L_M rfl (mo_end (hm.meq me) ok (xs (i + 1))) (by first | decide | omega) ⟨by omega, by omega⟩ (Nat.le_of_ble_eq_true rfl) (fun r w1 hq => ?_)
  obtain ⟨rfl, υ, rfl, mi2, ce⟩ := hq
  refine R_icmp_eq hC 1488 dL_law_313 (by decide) (fun _ => ?_) (fun h => absurd rfl h)
  exact kk υ _ (ci.ceq (ok_end ok (xs (i + 1))) ce) mi2 (ok_end ok (xs (i + 1)))
theorem lw_c2 {X : aX} {L : Nat} {xs : Nat → Int32} (hC : Cx mLaw X) (hR : Rd X 30 601024 7293034) (hS : SX X L xs) (hL2 : L ≤ 3072) {σ : sg} {xw : aW} {α : aS} {i cl sl : Nat} {l5 l6 : Option Value} (hc : CInv σ α) (hm : MInv σ α) (ok : aOK α) (hi : i + 6 ≤ L) (hcl : cl ≤ 601024) (hsl : sl ≤ 7293034) (kk : ∀ τ β, CInv τ β → MInv τ β → aOK β → Rw mLaw X 1488 [some (.ref BIG), some (.ref 16), some (.ref 176), some (.ref 201), some (.int (nI i)), l5, l6] [] (wd τ xw) cl sl) : Rw mLaw X 318 [some (.ref BIG), some (.ref 16), some (.ref 176), some (.ref 201), some (.int (nI i)), l5, l6] [] (wd σ xw) cl sl := by
  refine R_aload_n (i := 1) hC dL_law_318 rfl rfl (R_aload_n (i := 0) hC dL_law_319 rfl rfl (R_iload hC dL_law_320 rfl (R_iconst (v := 1) hC dL_law_322 (by decide) (R_iadd hC dL_law_323 (R_scr hC hS dL_law_324 (i + 1) (nIa i 1) (by omega) ?_)))))
  refine R_V1g hC hR dL_law_325 MV_X10_fault ml_L_29 L_U rfl (co_fault hc ok (xs (i + 1))) (by first | decide | omega) ⟨by omega, by omega⟩ (Nat.le_of_ble_eq_true rfl) (fun r w1 hq => ?_)
  obtain ⟨rfl, τ, rfl, ci, me⟩ := hq
  refine R_aload_n (i := 2) hC dL_law_328 rfl rfl (R_aload_n (i := 0) hC dL_law_329 rfl rfl (R_iload hC dL_law_330 rfl (R_iconst (v := 1) hC dL_law_332 (by decide) (R_iadd hC dL_law_333 (R_scr hC hS dL_law_334 (i + 1) (nIa i 1) (by omega) ?_)))))
  refine R_V1g hC hR dL_law_335 MV_X11_fault ml_L_33 L_M rfl (mo_fault (hm.meq me) ok (xs (i + 1))) (by first | decide | omega) ⟨by omega, by omega⟩ (Nat.le_of_ble_eq_true rfl) (fun r w1 hq => ?_)
  obtain ⟨rfl, υ, rfl, mi2, ce⟩ := hq
  refine R_icmp_eq hC 1488 dL_law_338 (by decide) (fun _ => ?_) (fun h => absurd rfl h)
  exact kk υ _ (ci.ceq ok ce) mi2 ok
theorem lw_c3 {X : aX} {L : Nat} {xs : Nat → Int32} (hC : Cx mLaw X) (hR : Rd X 30 601024 7293034) (hS : SX X L xs) (hL2 : L ≤ 3072) {σ : sg} {xw : aW} {α : aS} {i cl sl : Nat} {l5 l6 : Option Value} (hc : CInv σ α) (hm : MInv σ α) (ok : aOK α) (hi : i + 6 ≤ L) (hcl : cl ≤ 601024) (hsl : sl ≤ 7293034) (kk : ∀ τ β, CInv τ β → MInv τ β → aOK β → Rw mLaw X 1488 [some (.ref BIG), some (.ref 16), some (.ref 176), some (.ref 201), some (.int (nI i)), l5, l6] [] (wd τ xw) cl sl) : Rw mLaw X 343 [some (.ref BIG), some (.ref 16), some (.ref 176), some (.ref 201), some (.int (nI i)), l5, l6] [] (wd σ xw) cl sl := by
  refine R_aload_n (i := 1) hC dL_law_343 rfl rfl (R_aload_n (i := 0) hC dL_law_344 rfl rfl (R_iload hC dL_law_345 rfl (R_iconst (v := 1) hC dL_law_347 (by decide) (R_iadd hC dL_law_348 (R_scr hC hS dL_law_349 (i + 1) (nIa i 1) (by omega) ?_)))))
  refine R_V1g hC hR dL_law_350 MV_X10_text ml_L_34 L_U rfl (co_text hc ok (xs (i + 1))) (by first | decide | omega) ⟨by omega, by omega⟩ (Nat.le_of_ble_eq_true rfl) (fun r w1 hq => ?_)
  obtain ⟨rfl, τ, rfl, ci, me⟩ := hq
  refine R_aload_n (i := 2) hC dL_law_353 rfl rfl (R_aload_n (i := 0) hC dL_law_354 rfl rfl (R_iload hC dL_law_355 rfl (R_iconst (v := 1) hC dL_law_357 (by decide) (R_iadd hC dL_law_358 (R_scr hC hS dL_law_359 (i + 1) (nIa i 1) (by omega) ?_)))))
  refine R_V1g hC hR dL_law_360 MV_X11_text ml_L_37 L_M rfl (mo_text (hm.meq me) ok (xs (i + 1))) (by first | decide | omega) ⟨by omega, by omega⟩ (Nat.le_of_ble_eq_true rfl) (fun r w1 hq => ?_)
  obtain ⟨⟨rfl, υ, rfl, mi2, ce⟩, ok2⟩ := hq
  refine R_icmp_eq hC 1488 dL_law_363 (by decide) (fun _ => ?_) (fun h => absurd rfl h)
  exact kk υ _ (ci.ceq ok2 ce) mi2 ok2
theorem lw_c5 {X : aX} {L : Nat} {xs : Nat → Int32} (hC : Cx mLaw X) (hR : Rd X 30 601024 7293034) (hS : SX X L xs) (hL2 : L ≤ 3072) {σ : sg} {xw : aW} {α : aS} {i cl sl : Nat} {l5 l6 : Option Value} (hc : CInv σ α) (hm : MInv σ α) (ok : aOK α) (hi : i + 6 ≤ L) (hcl : cl ≤ 601024) (hsl : sl ≤ 7293034) (kk : ∀ τ β, CInv τ β → MInv τ β → aOK β → Rw mLaw X 1488 [some (.ref BIG), some (.ref 16), some (.ref 176), some (.ref 201), some (.int (nI i)), l5, l6] [] (wd τ xw) cl sl) : Rw mLaw X 436 [some (.ref BIG), some (.ref 16), some (.ref 176), some (.ref 201), some (.int (nI i)), l5, l6] [] (wd σ xw) cl sl := by
  refine R_aload_n (i := 1) hC dL_law_436 rfl rfl (R_aload_n (i := 0) hC dL_law_437 rfl rfl (R_iload hC dL_law_438 rfl (R_iconst (v := 1) hC dL_law_440 (by decide) (R_iadd hC dL_law_441 (R_scr hC hS dL_law_442 (i + 1) (nIa i 1) (by omega) (R_aload_n (i := 0) hC dL_law_443 rfl rfl (R_iload hC dL_law_444 rfl ?_)))))))
  refine R_iconst (v := 2) hC dL_law_446 (by decide) (R_iadd hC dL_law_447 (R_scr hC hS dL_law_448 (i + 2) (nIa i 2) (by omega) (R_aload_n (i := 0) hC dL_law_449 rfl rfl (R_iload hC dL_law_450 rfl (R_iconst (v := 3) hC dL_law_452 (by decide) (R_iadd hC dL_law_453 (R_scr hC hS dL_law_454 (i + 3) (nIa i 3) (by omega) ?_)))))))
  refine R_V3g hC hR dL_law_455 MV_X10_change ml_L_48 L_U rfl (co_change hc ok (xs (i + 1)) (xs (i + 2)) (xs (i + 3))) (by first | decide | omega) ⟨by omega, by omega⟩ (Nat.le_of_ble_eq_true rfl) (fun r w1 hq => ?_)
  obtain ⟨rfl, τ, rfl, ci, me⟩ := hq
  refine R_aload_n (i := 2) hC dL_law_458 rfl rfl (R_aload_n (i := 0) hC dL_law_459 rfl rfl (R_iload hC dL_law_460 rfl (R_iconst (v := 1) hC dL_law_462 (by decide) (R_iadd hC dL_law_463 (R_scr hC hS dL_law_464 (i + 1) (nIa i 1) (by omega) (R_aload_n (i := 0) hC dL_law_465 rfl rfl (R_iload hC dL_law_466 rfl ?_)))))))
  refine R_iconst (v := 2) hC dL_law_468 (by decide) (R_iadd hC dL_law_469 (R_scr hC hS dL_law_470 (i + 2) (nIa i 2) (by omega) (R_aload_n (i := 0) hC dL_law_471 rfl rfl (R_iload hC dL_law_472 rfl (R_iconst (v := 3) hC dL_law_474 (by decide) (R_iadd hC dL_law_475 (R_scr hC hS dL_law_476 (i + 3) (nIa i 3) (by omega) ?_)))))))
  refine R_V3g hC hR dL_law_477 MV_X11_change ml_L_52 L_M rfl (mo_change (hm.meq me) ok (xs (i + 1)) (xs (i + 2)) (xs (i + 3))) (by first | decide | omega) ⟨by omega, by omega⟩ (Nat.le_of_ble_eq_true rfl) (fun r w1 hq => ?_)
  obtain ⟨rfl, υ, rfl, mi2, ce⟩ := hq
  refine R_icmp_eq hC 1488 dL_law_480 (by decide) (fun _ => ?_) (fun h => absurd rfl h)
  exact kk υ _ (ci.ceq (ok_change ok (xs (i + 1)) (xs (i + 2)) (xs (i + 3))) ce) mi2 (ok_change ok (xs (i + 1)) (xs (i + 2)) (xs (i + 3)))
theorem lw_c6 {X : aX} {L : Nat} {xs : Nat → Int32} (hC : Cx mLaw X) (hR : Rd X 30 601024 7293034) (hS : SX X L xs) (hL2 : L ≤ 3072) {σ : sg} {xw : aW} {α : aS} {i cl sl : Nat} {l5 l6 : Option Value} (hc : CInv σ α) (hm : MInv σ α) (ok : aOK α) (hi : i + 6 ≤ L) (hcl : cl ≤ 601024) (hsl : sl ≤ 7293034) (kk : ∀ τ β, CInv τ β → MInv τ β → aOK β → Rw mLaw X 1488 [some (.ref BIG), some (.ref 16), some (.ref 176), some (.ref 201), some (.int (nI i)), l5, l6] [] (wd τ xw) cl sl) : Rw mLaw X 485 [some (.ref BIG), some (.ref 16), some (.ref 176), some (.ref 201), some (.int (nI i)), l5, l6] [] (wd σ xw) cl sl := by
  refine R_aload_n (i := 1) hC dL_law_485 rfl rfl (R_aload_n (i := 0) hC dL_law_486 rfl rfl (R_iload hC dL_law_487 rfl (R_iconst (v := 1) hC dL_law_489 (by decide) (R_iadd hC dL_law_490 (R_scr hC hS dL_law_491 (i + 1) (nIa i 1) (by omega) (R_aload_n (i := 0) hC dL_law_492 rfl rfl (R_iload hC dL_law_493 rfl ?_)))))))
  refine R_iconst (v := 2) hC dL_law_495 (by decide) (R_iadd hC dL_law_496 (R_scr hC hS dL_law_497 (i + 2) (nIa i 2) (by omega) (R_aload_n (i := 0) hC dL_law_498 rfl rfl (R_iload hC dL_law_499 rfl (R_iconst (v := 3) hC dL_law_501 (by decide) (R_iadd hC dL_law_502 (R_scr hC hS dL_law_503 (i + 3) (nIa i 3) (by omega) ?_)))))))
  refine R_V3g hC hR dL_law_504 MV_X10_deal ml_L_53 L_U rfl (co_deal hc ok (xs (i + 1)) (xs (i + 2)) (xs (i + 3))) (by first | decide | omega) ⟨by omega, by omega⟩ (Nat.le_of_ble_eq_true rfl) (fun r w1 hq => ?_)
  obtain ⟨rfl, τ, rfl, ci, me⟩ := hq
  refine R_aload_n (i := 2) hC dL_law_507 rfl rfl (R_aload_n (i := 0) hC dL_law_508 rfl rfl (R_iload hC dL_law_509 rfl (R_iconst (v := 1) hC dL_law_511 (by decide) (R_iadd hC dL_law_512 (R_scr hC hS dL_law_513 (i + 1) (nIa i 1) (by omega) (R_aload_n (i := 0) hC dL_law_514 rfl rfl (R_iload hC dL_law_515 rfl ?_)))))))
  refine R_iconst (v := 2) hC dL_law_517 (by decide) (R_iadd hC dL_law_518 (R_scr hC hS dL_law_519 (i + 2) (nIa i 2) (by omega) (R_aload_n (i := 0) hC dL_law_520 rfl rfl (R_iload hC dL_law_521 rfl (R_iconst (v := 3) hC dL_law_523 (by decide) (R_iadd hC dL_law_524 (R_scr hC hS dL_law_525 (i + 3) (nIa i 3) (by omega) ?_)))))))
  refine R_V3g hC hR dL_law_526 MV_X11_deal ml_L_56 L_M rfl (mo_deal (hm.meq me) ok (xs (i + 1)) (xs (i + 2)) (xs (i + 3))) (by first | decide | omega) ⟨by omega, by omega⟩ (Nat.le_of_ble_eq_true rfl) (fun r w1 hq => ?_)
  obtain ⟨rfl, υ, rfl, mi2, ce⟩ := hq
  refine R_icmp_eq hC 1488 dL_law_529 (by decide) (fun _ => ?_) (fun h => absurd rfl h)
  exact kk υ _ (ci.ceq (ok_deal ok (xs (i + 1)) (xs (i + 2)) (xs (i + 3))) ce) mi2 (ok_deal ok (xs (i + 1)) (xs (i + 2)) (xs (i + 3)))
theorem lw_c7 {X : aX} {L : Nat} {xs : Nat → Int32} (hC : Cx mLaw X) (hR : Rd X 30 601024 7293034) (hS : SX X L xs) (hL2 : L ≤ 3072) {σ : sg} {xw : aW} {α : aS} {i cl sl : Nat} {l5 l6 : Option Value} (hc : CInv σ α) (hm : MInv σ α) (ok : aOK α) (hi : i + 6 ≤ L) (hcl : cl ≤ 601024) (hsl : sl ≤ 7293034) (kk : ∀ τ β, CInv τ β → MInv τ β → aOK β → Rw mLaw X 1488 [some (.ref BIG), some (.ref 16), some (.ref 176), some (.ref 201), some (.int (nI i)), l5, l6] [] (wd τ xw) cl sl) : Rw mLaw X 534 [some (.ref BIG), some (.ref 16), some (.ref 176), some (.ref 201), some (.int (nI i)), l5, l6] [] (wd σ xw) cl sl := by
  refine R_aload_n (i := 1) hC dL_law_534 rfl rfl ?_
  refine R_V0g hC hR dL_law_535 MV_X10_keep ml_L_57 L_U rfl (co_keep hc ok) (by first | decide | omega) ⟨by omega, by omega⟩ (Nat.le_of_ble_eq_true rfl) (fun r w1 hq => ?_)
  obtain ⟨rfl, τ, rfl, ci, me⟩ := hq
  refine R_aload_n (i := 2) hC dL_law_538 rfl rfl ?_
  refine R_V0g hC hR dL_law_539 MV_X11_keep ml_L_60 L_M rfl (mo_keep (hm.meq me) ok) (by first | decide | omega) ⟨by omega, by omega⟩ (Nat.le_of_ble_eq_true rfl) (fun r w1 hq => ?_)
  obtain ⟨rfl, υ, rfl, mi2, ce⟩ := hq
  refine R_icmp_eq hC 1488 dL_law_542 (by decide) (fun _ => ?_) (fun h => absurd rfl h)
  exact kk υ _ (ci.ceq (ok_keep ok ) ce) mi2 (ok_keep ok )
theorem lw_c8 {X : aX} {L : Nat} {xs : Nat → Int32} (hC : Cx mLaw X) (hR : Rd X 30 601024 7293034) (hS : SX X L xs) (hL2 : L ≤ 3072) {σ : sg} {xw : aW} {α : aS} {i cl sl : Nat} {l5 l6 : Option Value} (hc : CInv σ α) (hm : MInv σ α) (ok : aOK α) (hi : i + 6 ≤ L) (hcl : cl ≤ 601024) (hsl : sl ≤ 7293034) (kk : ∀ τ β, CInv τ β → MInv τ β → aOK β → Rw mLaw X 1488 [some (.ref BIG), some (.ref 16), some (.ref 176), some (.ref 201), some (.int (nI i)), l5, l6] [] (wd τ xw) cl sl) : Rw mLaw X 547 [some (.ref BIG), some (.ref 16), some (.ref 176), some (.ref 201), some (.int (nI i)), l5, l6] [] (wd σ xw) cl sl := by
  refine R_aload_n (i := 1) hC dL_law_547 rfl rfl (R_aload_n (i := 0) hC dL_law_548 rfl rfl (R_iload hC dL_law_549 rfl (R_iconst (v := 1) hC dL_law_551 (by decide) (R_iadd hC dL_law_552 (R_scr hC hS dL_law_553 (i + 1) (nIa i 1) (by omega) (R_aload_n (i := 0) hC dL_law_554 rfl rfl (R_iload hC dL_law_555 rfl ?_)))))))
  refine R_iconst (v := 2) hC dL_law_557 (by decide) (R_iadd hC dL_law_558 (R_scr hC hS dL_law_559 (i + 2) (nIa i 2) (by omega) (R_aload_n (i := 0) hC dL_law_560 rfl rfl (R_iload hC dL_law_561 rfl (R_iconst (v := 3) hC dL_law_563 (by decide) (R_iadd hC dL_law_564 (R_scr hC hS dL_law_565 (i + 3) (nIa i 3) (by omega) ?_)))))))
  refine R_V3g hC hR dL_law_566 MV_X10_kept ml_L_61 L_U rfl (co_kept hc ok (xs (i + 1)) (xs (i + 2)) (xs (i + 3))) (by first | decide | omega) ⟨by omega, by omega⟩ (Nat.le_of_ble_eq_true rfl) (fun r w1 hq => ?_)
  obtain ⟨rfl, τ, rfl, ci, me⟩ := hq
  refine R_aload_n (i := 2) hC dL_law_569 rfl rfl (R_aload_n (i := 0) hC dL_law_570 rfl rfl (R_iload hC dL_law_571 rfl (R_iconst (v := 1) hC dL_law_573 (by decide) (R_iadd hC dL_law_574 (R_scr hC hS dL_law_575 (i + 1) (nIa i 1) (by omega) (R_aload_n (i := 0) hC dL_law_576 rfl rfl (R_iload hC dL_law_577 rfl ?_)))))))
  refine R_iconst (v := 2) hC dL_law_579 (by decide) (R_iadd hC dL_law_580 (R_scr hC hS dL_law_581 (i + 2) (nIa i 2) (by omega) (R_aload_n (i := 0) hC dL_law_582 rfl rfl (R_iload hC dL_law_583 rfl (R_iconst (v := 3) hC dL_law_585 (by decide) (R_iadd hC dL_law_586 (R_scr hC hS dL_law_587 (i + 3) (nIa i 3) (by omega) ?_)))))))
  refine R_V3g hC hR dL_law_588 MV_X11_kept ml_L_64 L_M rfl (mo_kept (hm.meq me) ok (xs (i + 1)) (xs (i + 2)) (xs (i + 3))) (by first | decide | omega) ⟨by omega, by omega⟩ (Nat.le_of_ble_eq_true rfl) (fun r w1 hq => ?_)
  obtain ⟨rfl, υ, rfl, mi2, ce⟩ := hq
  refine R_icmp_eq hC 1488 dL_law_591 (by decide) (fun _ => ?_) (fun h => absurd rfl h)
  exact kk υ _ (ci.ceq ok ce) mi2 ok
theorem lw_c9 {X : aX} {L : Nat} {xs : Nat → Int32} (hC : Cx mLaw X) (hR : Rd X 30 601024 7293034) (hS : SX X L xs) (hL2 : L ≤ 3072) {σ : sg} {xw : aW} {α : aS} {i cl sl : Nat} {l5 l6 : Option Value} (hc : CInv σ α) (hm : MInv σ α) (ok : aOK α) (hi : i + 6 ≤ L) (hcl : cl ≤ 601024) (hsl : sl ≤ 7293034) (kk : ∀ τ β, CInv τ β → MInv τ β → aOK β → Rw mLaw X 1488 [some (.ref BIG), some (.ref 16), some (.ref 176), some (.ref 201), some (.int (nI i)), l5, l6] [] (wd τ xw) cl sl) : Rw mLaw X 596 [some (.ref BIG), some (.ref 16), some (.ref 176), some (.ref 201), some (.int (nI i)), l5, l6] [] (wd σ xw) cl sl := by
  refine R_aload_n (i := 1) hC dL_law_596 rfl rfl (R_aload_n (i := 0) hC dL_law_597 rfl rfl (R_iload hC dL_law_598 rfl (R_iconst (v := 1) hC dL_law_600 (by decide) (R_iadd hC dL_law_601 (R_scr hC hS dL_law_602 (i + 1) (nIa i 1) (by omega) (R_aload_n (i := 0) hC dL_law_603 rfl rfl (R_iload hC dL_law_604 rfl ?_)))))))
  refine R_iconst (v := 2) hC dL_law_606 (by decide) (R_iadd hC dL_law_607 (R_scr hC hS dL_law_608 (i + 2) (nIa i 2) (by omega) (R_aload_n (i := 0) hC dL_law_609 rfl rfl (R_iload hC dL_law_610 rfl (R_iconst (v := 3) hC dL_law_612 (by decide) (R_iadd hC dL_law_613 (R_scr hC hS dL_law_614 (i + 3) (nIa i 3) (by omega) ?_)))))))
  refine R_V3g hC hR dL_law_615 MV_X10_join ml_L_65 L_U rfl (co_join hc ok (xs (i + 1)) (xs (i + 2)) (xs (i + 3))) (by first | decide | omega) ⟨by omega, by omega⟩ (Nat.le_of_ble_eq_true rfl) (fun r w1 hq => ?_)
  obtain ⟨rfl, τ, rfl, ci, me⟩ := hq
  refine R_aload_n (i := 2) hC dL_law_618 rfl rfl (R_aload_n (i := 0) hC dL_law_619 rfl rfl (R_iload hC dL_law_620 rfl (R_iconst (v := 1) hC dL_law_622 (by decide) (R_iadd hC dL_law_623 (R_scr hC hS dL_law_624 (i + 1) (nIa i 1) (by omega) (R_aload_n (i := 0) hC dL_law_625 rfl rfl (R_iload hC dL_law_626 rfl ?_)))))))
  refine R_iconst (v := 2) hC dL_law_628 (by decide) (R_iadd hC dL_law_629 (R_scr hC hS dL_law_630 (i + 2) (nIa i 2) (by omega) (R_aload_n (i := 0) hC dL_law_631 rfl rfl (R_iload hC dL_law_632 rfl (R_iconst (v := 3) hC dL_law_634 (by decide) (R_iadd hC dL_law_635 (R_scr hC hS dL_law_636 (i + 3) (nIa i 3) (by omega) ?_)))))))
  refine R_V3g hC hR dL_law_637 MV_X11_join ml_L_68 L_M rfl (mo_join (hm.meq me) ok (xs (i + 1)) (xs (i + 2)) (xs (i + 3))) (by first | decide | omega) ⟨by omega, by omega⟩ (Nat.le_of_ble_eq_true rfl) (fun r w1 hq => ?_)
  obtain ⟨rfl, υ, rfl, mi2, ce⟩ := hq
  refine R_icmp_eq hC 1488 dL_law_640 (by decide) (fun _ => ?_) (fun h => absurd rfl h)
  exact kk υ _ (ci.ceq (ok_join ok (xs (i + 1)) (xs (i + 2)) (xs (i + 3))) ce) mi2 (ok_join ok (xs (i + 1)) (xs (i + 2)) (xs (i + 3)))
theorem lw_c10 {X : aX} {L : Nat} {xs : Nat → Int32} (hC : Cx mLaw X) (hR : Rd X 30 601024 7293034) (hS : SX X L xs) (hL2 : L ≤ 3072) {σ : sg} {xw : aW} {α : aS} {i cl sl : Nat} {l5 l6 : Option Value} (hc : CInv σ α) (hm : MInv σ α) (ok : aOK α) (hi : i + 6 ≤ L) (hcl : cl ≤ 601024) (hsl : sl ≤ 7293034) (kk : ∀ τ β, CInv τ β → MInv τ β → aOK β → Rw mLaw X 1488 [some (.ref BIG), some (.ref 16), some (.ref 176), some (.ref 201), some (.int (nI i)), l5, l6] [] (wd τ xw) cl sl) : Rw mLaw X 645 [some (.ref BIG), some (.ref 16), some (.ref 176), some (.ref 201), some (.int (nI i)), l5, l6] [] (wd σ xw) cl sl := by
  refine R_aload_n (i := 1) hC dL_law_645 rfl rfl ?_
  refine R_V0g hC hR dL_law_646 MV_X10_undo ml_L_69 L_U rfl (co_undo hc ok) (by first | decide | omega) ⟨by omega, by omega⟩ (Nat.le_of_ble_eq_true rfl) (fun r w1 hq => ?_)
  obtain ⟨rfl, τ, rfl, ci, me⟩ := hq
  refine R_aload_n (i := 2) hC dL_law_649 rfl rfl ?_
  refine R_V0g hC hR dL_law_650 MV_X11_undo ml_L_72 L_M rfl (mo_undo (hm.meq me) ok) (by first | decide | omega) ⟨by omega, by omega⟩ (Nat.le_of_ble_eq_true rfl) (fun r w1 hq => ?_)
  obtain ⟨rfl, υ, rfl, mi2, ce⟩ := hq
  refine R_icmp_eq hC 1488 dL_law_653 (by decide) (fun _ => ?_) (fun h => absurd rfl h)
  exact kk υ _ (ci.ceq (ok_undo ok ) ce) mi2 (ok_undo ok )
theorem lw_c11 {X : aX} {L : Nat} {xs : Nat → Int32} (hC : Cx mLaw X) (hR : Rd X 30 601024 7293034) (hS : SX X L xs) (hL2 : L ≤ 3072) {σ : sg} {xw : aW} {α : aS} {i cl sl : Nat} {l5 l6 : Option Value} (hc : CInv σ α) (hm : MInv σ α) (ok : aOK α) (hi : i + 6 ≤ L) (hcl : cl ≤ 601024) (hsl : sl ≤ 7293034) (kk : ∀ τ β, CInv τ β → MInv τ β → aOK β → Rw mLaw X 1488 [some (.ref BIG), some (.ref 16), some (.ref 176), some (.ref 201), some (.int (nI i)), l5, l6] [] (wd τ xw) cl sl) : Rw mLaw X 658 [some (.ref BIG), some (.ref 16), some (.ref 176), some (.ref 201), some (.int (nI i)), l5, l6] [] (wd σ xw) cl sl := by
  refine R_aload_n (i := 1) hC dL_law_658 rfl rfl (R_aload_n (i := 0) hC dL_law_659 rfl rfl (R_iload hC dL_law_660 rfl (R_iconst (v := 1) hC dL_law_662 (by decide) (R_iadd hC dL_law_663 (R_scr hC hS dL_law_664 (i + 1) (nIa i 1) (by omega) (R_aload_n (i := 0) hC dL_law_665 rfl rfl (R_iload hC dL_law_666 rfl ?_)))))))
  refine R_iconst (v := 2) hC dL_law_668 (by decide) (R_iadd hC dL_law_669 (R_scr hC hS dL_law_670 (i + 2) (nIa i 2) (by omega) ?_))
  refine R_V2g hC hR dL_law_671 MV_X10_det ml_L_73 L_U rfl (co_det hc ok (xs (i + 1)) (xs (i + 2))) (by first | decide | omega) ⟨by omega, by omega⟩ (Nat.le_of_ble_eq_true rfl) (fun r w1 hq => ?_)
  obtain ⟨rfl, τ, rfl, ci, me⟩ := hq
  refine R_aload_n (i := 2) hC dL_law_674 rfl rfl (R_aload_n (i := 0) hC dL_law_675 rfl rfl (R_iload hC dL_law_676 rfl (R_iconst (v := 1) hC dL_law_678 (by decide) (R_iadd hC dL_law_679 (R_scr hC hS dL_law_680 (i + 1) (nIa i 1) (by omega) (R_aload_n (i := 0) hC dL_law_681 rfl rfl (R_iload hC dL_law_682 rfl ?_)))))))
  refine R_iconst (v := 2) hC dL_law_684 (by decide) (R_iadd hC dL_law_685 (R_scr hC hS dL_law_686 (i + 2) (nIa i 2) (by omega) ?_))
  refine R_V2g hC hR dL_law_687 MV_X11_det ml_L_76 L_M rfl (mo_det (hm.meq me) ok (xs (i + 1)) (xs (i + 2))) (by first | decide | omega) ⟨by omega, by omega⟩ (Nat.le_of_ble_eq_true rfl) (fun r w1 hq => ?_)
  obtain ⟨rfl, υ, rfl, mi2, ce⟩ := hq
  refine R_icmp_eq hC 1488 dL_law_690 (by decide) (fun _ => ?_) (fun h => absurd rfl h)
  exact kk υ _ (ci.ceq ok ce) mi2 ok
theorem lw_c12 {X : aX} {L : Nat} {xs : Nat → Int32} (hC : Cx mLaw X) (hR : Rd X 30 601024 7293034) (hS : SX X L xs) (hL2 : L ≤ 3072) {σ : sg} {xw : aW} {α : aS} {i cl sl : Nat} {l5 l6 : Option Value} (hc : CInv σ α) (hm : MInv σ α) (ok : aOK α) (hi : i + 6 ≤ L) (hcl : cl ≤ 601024) (hsl : sl ≤ 7293034) (kk : ∀ τ β, CInv τ β → MInv τ β → aOK β → Rw mLaw X 1488 [some (.ref BIG), some (.ref 16), some (.ref 176), some (.ref 201), some (.int (nI i)), l5, l6] [] (wd τ xw) cl sl) : Rw mLaw X 695 [some (.ref BIG), some (.ref 16), some (.ref 176), some (.ref 201), some (.int (nI i)), l5, l6] [] (wd σ xw) cl sl := by
  refine R_aload_n (i := 1) hC dL_law_695 rfl rfl (R_aload_n (i := 0) hC dL_law_696 rfl rfl (R_iload hC dL_law_697 rfl (R_iconst (v := 1) hC dL_law_699 (by decide) (R_iadd hC dL_law_700 (R_scr hC hS dL_law_701 (i + 1) (nIa i 1) (by omega) (R_aload_n (i := 0) hC dL_law_702 rfl rfl (R_iload hC dL_law_703 rfl ?_)))))))
  refine R_iconst (v := 2) hC dL_law_705 (by decide) (R_iadd hC dL_law_706 (R_scr hC hS dL_law_707 (i + 2) (nIa i 2) (by omega) ?_))
  refine R_V2g hC hR dL_law_708 MV_X10_squares ml_L_77 L_U rfl (co_squares hc ok (xs (i + 1)) (xs (i + 2))) (by first | decide | omega) ⟨by omega, by omega⟩ (Nat.le_of_ble_eq_true rfl) (fun r w1 hq => ?_)
  obtain ⟨rfl, τ, rfl, ci, me⟩ := hq
  refine R_aload_n (i := 2) hC dL_law_711 rfl rfl (R_aload_n (i := 0) hC dL_law_712 rfl rfl (R_iload hC dL_law_713 rfl (R_iconst (v := 1) hC dL_law_715 (by decide) (R_iadd hC dL_law_716 (R_scr hC hS dL_law_717 (i + 1) (nIa i 1) (by omega) (R_aload_n (i := 0) hC dL_law_718 rfl rfl (R_iload hC dL_law_719 rfl ?_)))))))
  refine R_iconst (v := 2) hC dL_law_721 (by decide) (R_iadd hC dL_law_722 (R_scr hC hS dL_law_723 (i + 2) (nIa i 2) (by omega) ?_))
  refine R_V2g hC hR dL_law_724 MV_X11_squares ml_L_80 L_M rfl (mo_squares (hm.meq me) ok (xs (i + 1)) (xs (i + 2))) (by first | decide | omega) ⟨by omega, by omega⟩ (Nat.le_of_ble_eq_true rfl) (fun r w1 hq => ?_)
  obtain ⟨rfl, υ, rfl, mi2, ce⟩ := hq
  refine R_icmp_eq hC 1488 dL_law_727 (by decide) (fun _ => ?_) (fun h => absurd rfl h)
  exact kk υ _ (ci.ceq ok ce) mi2 ok
theorem lw_c13 {X : aX} {L : Nat} {xs : Nat → Int32} (hC : Cx mLaw X) (hR : Rd X 30 601024 7293034) (hS : SX X L xs) (hL2 : L ≤ 3072) {σ : sg} {xw : aW} {α : aS} {i cl sl : Nat} {l5 l6 : Option Value} (hc : CInv σ α) (hm : MInv σ α) (ok : aOK α) (hi : i + 6 ≤ L) (hcl : cl ≤ 601024) (hsl : sl ≤ 7293034) (kk : ∀ τ β, CInv τ β → MInv τ β → aOK β → Rw mLaw X 1488 [some (.ref BIG), some (.ref 16), some (.ref 176), some (.ref 201), some (.int (nI i)), l5, l6] [] (wd τ xw) cl sl) : Rw mLaw X 732 [some (.ref BIG), some (.ref 16), some (.ref 176), some (.ref 201), some (.int (nI i)), l5, l6] [] (wd σ xw) cl sl := by
  refine R_aload_n (i := 1) hC dL_law_732 rfl rfl ?_
  refine R_V0g hC hR dL_law_733 MV_X10_total ml_L_81 L_U rfl (co_total hc ok) (by first | decide | omega) ⟨by omega, by omega⟩ (Nat.le_of_ble_eq_true rfl) (fun r w1 hq => ?_)
  obtain ⟨rfl, τ, rfl, ci, me⟩ := hq
  refine R_aload_n (i := 2) hC dL_law_736 rfl rfl ?_
  refine R_V0g hC hR dL_law_737 MV_X11_total ml_L_84 L_M rfl (mo_total (hm.meq me) ok) (by first | decide | omega) ⟨by omega, by omega⟩ (Nat.le_of_ble_eq_true rfl) (fun r w1 hq => ?_)
  obtain ⟨rfl, υ, rfl, mi2, ce⟩ := hq
  refine R_icmp_eq hC 1488 dL_law_740 (by decide) (fun _ => ?_) (fun h => absurd rfl h)
  exact kk υ _ (ci.ceq ok ce) mi2 ok
theorem lw_c14 {X : aX} {L : Nat} {xs : Nat → Int32} (hC : Cx mLaw X) (hR : Rd X 30 601024 7293034) (hS : SX X L xs) (hL2 : L ≤ 3072) {σ : sg} {xw : aW} {α : aS} {i cl sl : Nat} {l5 l6 : Option Value} (hc : CInv σ α) (hm : MInv σ α) (ok : aOK α) (hi : i + 6 ≤ L) (hcl : cl ≤ 601024) (hsl : sl ≤ 7293034) (kk : ∀ τ β, CInv τ β → MInv τ β → aOK β → Rw mLaw X 1488 [some (.ref BIG), some (.ref 16), some (.ref 176), some (.ref 201), some (.int (nI i)), l5, l6] [] (wd τ xw) cl sl) : Rw mLaw X 745 [some (.ref BIG), some (.ref 16), some (.ref 176), some (.ref 201), some (.int (nI i)), l5, l6] [] (wd σ xw) cl sl := by
  refine R_aload_n (i := 1) hC dL_law_745 rfl rfl (R_aload_n (i := 0) hC dL_law_746 rfl rfl (R_iload hC dL_law_747 rfl (R_iconst (v := 1) hC dL_law_749 (by decide) (R_iadd hC dL_law_750 (R_scr hC hS dL_law_751 (i + 1) (nIa i 1) (by omega) ?_)))))
  refine R_V1g hC hR dL_law_752 MV_X10_witness ml_L_85 L_U rfl (co_witness hc ok (xs (i + 1))) (by first | decide | omega) ⟨by omega, by omega⟩ (Nat.le_of_ble_eq_true rfl) (fun r w1 hq => ?_)
  obtain ⟨rfl, τ, rfl, ci, me⟩ := hq
  refine R_aload_n (i := 2) hC dL_law_755 rfl rfl (R_aload_n (i := 0) hC dL_law_756 rfl rfl (R_iload hC dL_law_757 rfl (R_iconst (v := 1) hC dL_law_759 (by decide) (R_iadd hC dL_law_760 (R_scr hC hS dL_law_761 (i + 1) (nIa i 1) (by omega) ?_)))))
  refine R_V1g hC hR dL_law_762 MV_X11_witness ml_L_88 L_M rfl (mo_witness (hm.meq me) ok (xs (i + 1))) (by first | decide | omega) ⟨by omega, by omega⟩ (Nat.le_of_ble_eq_true rfl) (fun r w1 hq => ?_)
  obtain ⟨rfl, υ, rfl, mi2, ce⟩ := hq
  refine R_icmp_eq hC 1488 dL_law_765 (by decide) (fun _ => ?_) (fun h => absurd rfl h)
  exact kk υ _ (ci.ceq ok ce) mi2 ok
theorem lw_c15 {X : aX} {L : Nat} {xs : Nat → Int32} (hC : Cx mLaw X) (hR : Rd X 30 601024 7293034) (hS : SX X L xs) (hL2 : L ≤ 3072) {σ : sg} {xw : aW} {α : aS} {i cl sl : Nat} {l5 l6 : Option Value} (hc : CInv σ α) (hm : MInv σ α) (ok : aOK α) (hi : i + 6 ≤ L) (hcl : cl ≤ 601024) (hsl : sl ≤ 7293034) (kk : ∀ τ β, CInv τ β → MInv τ β → aOK β → Rw mLaw X 1488 [some (.ref BIG), some (.ref 16), some (.ref 176), some (.ref 201), some (.int (nI i)), l5, l6] [] (wd τ xw) cl sl) : Rw mLaw X 770 [some (.ref BIG), some (.ref 16), some (.ref 176), some (.ref 201), some (.int (nI i)), l5, l6] [] (wd σ xw) cl sl := by
  refine R_aload_n (i := 1) hC dL_law_770 rfl rfl (R_aload_n (i := 0) hC dL_law_771 rfl rfl (R_iload hC dL_law_772 rfl (R_iconst (v := 1) hC dL_law_774 (by decide) (R_iadd hC dL_law_775 (R_scr hC hS dL_law_776 (i + 1) (nIa i 1) (by omega) ?_)))))
  refine R_V1g hC hR dL_law_777 MV_X10_halves ml_L_89 L_U rfl (co_halves hc ok (xs (i + 1))) (by first | decide | omega) ⟨by omega, by omega⟩ (Nat.le_of_ble_eq_true rfl) (fun r w1 hq => ?_)
  obtain ⟨rfl, τ, rfl, ci, me⟩ := hq
  refine R_aload_n (i := 2) hC dL_law_780 rfl rfl (R_aload_n (i := 0) hC dL_law_781 rfl rfl (R_iload hC dL_law_782 rfl (R_iconst (v := 1) hC dL_law_784 (by decide) (R_iadd hC dL_law_785 (R_scr hC hS dL_law_786 (i + 1) (nIa i 1) (by omega) ?_)))))
  refine R_V1g hC hR dL_law_787 MV_X11_halves ml_L_92 L_M rfl (mo_halves (hm.meq me) ok (xs (i + 1))) (by first | decide | omega) ⟨by omega, by omega⟩ (Nat.le_of_ble_eq_true rfl) (fun r w1 hq => ?_)
  obtain ⟨rfl, υ, rfl, mi2, ce⟩ := hq
  refine R_icmp_eq hC 1488 dL_law_790 (by decide) (fun _ => ?_) (fun h => absurd rfl h)
  exact kk υ _ (ci.ceq ok ce) mi2 ok
theorem lw_c16 {X : aX} {L : Nat} {xs : Nat → Int32} (hC : Cx mLaw X) (hR : Rd X 30 601024 7293034) (hS : SX X L xs) (hL2 : L ≤ 3072) {σ : sg} {xw : aW} {α : aS} {i cl sl : Nat} {l5 l6 : Option Value} (hc : CInv σ α) (hm : MInv σ α) (ok : aOK α) (hi : i + 6 ≤ L) (hcl : cl ≤ 601024) (hsl : sl ≤ 7293034) (kk : ∀ τ β, CInv τ β → MInv τ β → aOK β → Rw mLaw X 1488 [some (.ref BIG), some (.ref 16), some (.ref 176), some (.ref 201), some (.int (nI i)), l5, l6] [] (wd τ xw) cl sl) : Rw mLaw X 795 [some (.ref BIG), some (.ref 16), some (.ref 176), some (.ref 201), some (.int (nI i)), l5, l6] [] (wd σ xw) cl sl := by
  refine R_aload_n (i := 1) hC dL_law_795 rfl rfl ?_
  refine R_V0g hC hR dL_law_796 MV_X10_unhalved ml_L_93 L_U rfl (co_unhalved hc ok) (by first | decide | omega) ⟨by omega, by omega⟩ (Nat.le_of_ble_eq_true rfl) (fun r w1 hq => ?_)
  obtain ⟨rfl, τ, rfl, ci, me⟩ := hq
  refine R_aload_n (i := 2) hC dL_law_799 rfl rfl ?_
  refine R_V0g hC hR dL_law_800 MV_X11_unhalved ml_L_96 L_M rfl (mo_unhalved (hm.meq me) ok) (by first | decide | omega) ⟨by omega, by omega⟩ (Nat.le_of_ble_eq_true rfl) (fun r w1 hq => ?_)
  obtain ⟨rfl, υ, rfl, mi2, ce⟩ := hq
  refine R_icmp_eq hC 1488 dL_law_803 (by decide) (fun _ => ?_) (fun h => absurd rfl h)
  exact kk υ _ (ci.ceq ok ce) mi2 ok
theorem lw_c17 {X : aX} {L : Nat} {xs : Nat → Int32} (hC : Cx mLaw X) (hR : Rd X 30 601024 7293034) (hS : SX X L xs) (hL2 : L ≤ 3072) {σ : sg} {xw : aW} {α : aS} {i cl sl : Nat} {l5 l6 : Option Value} (hc : CInv σ α) (hm : MInv σ α) (ok : aOK α) (hi : i + 6 ≤ L) (hcl : cl ≤ 601024) (hsl : sl ≤ 7293034) (kk : ∀ τ β, CInv τ β → MInv τ β → aOK β → Rw mLaw X 1488 [some (.ref BIG), some (.ref 16), some (.ref 176), some (.ref 201), some (.int (nI i)), l5, l6] [] (wd τ xw) cl sl) : Rw mLaw X 808 [some (.ref BIG), some (.ref 16), some (.ref 176), some (.ref 201), some (.int (nI i)), l5, l6] [] (wd σ xw) cl sl := by
  refine R_aload_n (i := 1) hC dL_law_808 rfl rfl (R_aload_n (i := 0) hC dL_law_809 rfl rfl (R_iload hC dL_law_810 rfl (R_iconst (v := 1) hC dL_law_812 (by decide) (R_iadd hC dL_law_813 (R_scr hC hS dL_law_814 (i + 1) (nIa i 1) (by omega) ?_)))))
  refine R_V1g hC hR dL_law_815 MV_X10_network ml_L_97 L_U rfl (co_network hc ok (xs (i + 1))) (by first | decide | omega) ⟨by omega, by omega⟩ (Nat.le_of_ble_eq_true rfl) (fun r w1 hq => ?_)
  obtain ⟨rfl, τ, rfl, ci, me⟩ := hq
  refine R_aload_n (i := 2) hC dL_law_818 rfl rfl (R_aload_n (i := 0) hC dL_law_819 rfl rfl (R_iload hC dL_law_820 rfl (R_iconst (v := 1) hC dL_law_822 (by decide) (R_iadd hC dL_law_823 (R_scr hC hS dL_law_824 (i + 1) (nIa i 1) (by omega) ?_)))))
  refine R_V1g hC hR dL_law_825 MV_X11_network ml_L_100 L_M rfl (mo_network (hm.meq me) ok (xs (i + 1))) (by first | decide | omega) ⟨by omega, by omega⟩ (Nat.le_of_ble_eq_true rfl) (fun r w1 hq => ?_)
  obtain ⟨rfl, υ, rfl, mi2, ce⟩ := hq
  refine R_icmp_eq hC 1488 dL_law_828 (by decide) (fun _ => ?_) (fun h => absurd rfl h)
  exact kk υ _ (ci.ceq ok ce) mi2 ok
theorem lw_c18 {X : aX} {L : Nat} {xs : Nat → Int32} (hC : Cx mLaw X) (hR : Rd X 30 601024 7293034) (hS : SX X L xs) (hL2 : L ≤ 3072) {σ : sg} {xw : aW} {α : aS} {i cl sl : Nat} {l5 l6 : Option Value} (hc : CInv σ α) (hm : MInv σ α) (ok : aOK α) (hi : i + 6 ≤ L) (hcl : cl ≤ 601024) (hsl : sl ≤ 7293034) (kk : ∀ τ β, CInv τ β → MInv τ β → aOK β → Rw mLaw X 1488 [some (.ref BIG), some (.ref 16), some (.ref 176), some (.ref 201), some (.int (nI i)), l5, l6] [] (wd τ xw) cl sl) : Rw mLaw X 833 [some (.ref BIG), some (.ref 16), some (.ref 176), some (.ref 201), some (.int (nI i)), l5, l6] [] (wd σ xw) cl sl := by
  refine R_aload_n (i := 1) hC dL_law_833 rfl rfl (R_aload_n (i := 0) hC dL_law_834 rfl rfl (R_iload hC dL_law_835 rfl (R_iconst (v := 1) hC dL_law_837 (by decide) (R_iadd hC dL_law_838 (R_scr hC hS dL_law_839 (i + 1) (nIa i 1) (by omega) (R_aload_n (i := 0) hC dL_law_840 rfl rfl (R_iload hC dL_law_841 rfl ?_)))))))
  refine R_iconst (v := 2) hC dL_law_843 (by decide) (R_iadd hC dL_law_844 (R_scr hC hS dL_law_845 (i + 2) (nIa i 2) (by omega) (R_aload_n (i := 0) hC dL_law_846 rfl rfl (R_iload hC dL_law_847 rfl (R_iconst (v := 3) hC dL_law_849 (by decide) (R_iadd hC dL_law_850 (R_scr hC hS dL_law_851 (i + 3) (nIa i 3) (by omega) ?_)))))))
  refine R_V3g hC hR dL_law_852 MV_X10_arc ml_L_101 L_U rfl (co_arc hc ok (xs (i + 1)) (xs (i + 2)) (xs (i + 3))) (by first | decide | omega) ⟨by omega, by omega⟩ (Nat.le_of_ble_eq_true rfl) (fun r w1 hq => ?_)
  obtain ⟨rfl, τ, rfl, ci, me⟩ := hq
  refine R_aload_n (i := 2) hC dL_law_855 rfl rfl (R_aload_n (i := 0) hC dL_law_856 rfl rfl (R_iload hC dL_law_857 rfl (R_iconst (v := 1) hC dL_law_859 (by decide) (R_iadd hC dL_law_860 (R_scr hC hS dL_law_861 (i + 1) (nIa i 1) (by omega) (R_aload_n (i := 0) hC dL_law_862 rfl rfl (R_iload hC dL_law_863 rfl ?_)))))))
  refine R_iconst (v := 2) hC dL_law_865 (by decide) (R_iadd hC dL_law_866 (R_scr hC hS dL_law_867 (i + 2) (nIa i 2) (by omega) (R_aload_n (i := 0) hC dL_law_868 rfl rfl (R_iload hC dL_law_869 rfl (R_iconst (v := 3) hC dL_law_871 (by decide) (R_iadd hC dL_law_872 (R_scr hC hS dL_law_873 (i + 3) (nIa i 3) (by omega) ?_)))))))
  refine R_V3g hC hR dL_law_874 MV_X11_arc ml_L_104 L_M rfl (mo_arc (hm.meq me) ok (xs (i + 1)) (xs (i + 2)) (xs (i + 3))) (by first | decide | omega) ⟨by omega, by omega⟩ (Nat.le_of_ble_eq_true rfl) (fun r w1 hq => ?_)
  obtain ⟨rfl, υ, rfl, mi2, ce⟩ := hq
  refine R_icmp_eq hC 1488 dL_law_877 (by decide) (fun _ => ?_) (fun h => absurd rfl h)
  exact kk υ _ (ci.ceq ok ce) mi2 ok
theorem lw_c19 {X : aX} {L : Nat} {xs : Nat → Int32} (hC : Cx mLaw X) (hR : Rd X 30 601024 7293034) (hS : SX X L xs) (hL2 : L ≤ 3072) {σ : sg} {xw : aW} {α : aS} {i cl sl : Nat} {l5 l6 : Option Value} (hc : CInv σ α) (hm : MInv σ α) (ok : aOK α) (hi : i + 6 ≤ L) (hcl : cl ≤ 601024) (hsl : sl ≤ 7293034) (kk : ∀ τ β, CInv τ β → MInv τ β → aOK β → Rw mLaw X 1488 [some (.ref BIG), some (.ref 16), some (.ref 176), some (.ref 201), some (.int (nI i)), l5, l6] [] (wd τ xw) cl sl) : Rw mLaw X 882 [some (.ref BIG), some (.ref 16), some (.ref 176), some (.ref 201), some (.int (nI i)), l5, l6] [] (wd σ xw) cl sl := by
  refine R_aload_n (i := 1) hC dL_law_882 rfl rfl (R_aload_n (i := 0) hC dL_law_883 rfl rfl (R_iload hC dL_law_884 rfl (R_iconst (v := 1) hC dL_law_886 (by decide) (R_iadd hC dL_law_887 (R_scr hC hS dL_law_888 (i + 1) (nIa i 1) (by omega) (R_aload_n (i := 0) hC dL_law_889 rfl rfl (R_iload hC dL_law_890 rfl ?_)))))))
  refine R_iconst (v := 2) hC dL_law_892 (by decide) (R_iadd hC dL_law_893 (R_scr hC hS dL_law_894 (i + 2) (nIa i 2) (by omega) (R_aload_n (i := 0) hC dL_law_895 rfl rfl (R_iload hC dL_law_896 rfl (R_iconst (v := 3) hC dL_law_898 (by decide) (R_iadd hC dL_law_899 (R_scr hC hS dL_law_900 (i + 3) (nIa i 3) (by omega) ?_)))))))
  refine R_V3g hC hR dL_law_901 MV_X10_way ml_L_105 L_U rfl (co_way hc ok (xs (i + 1)) (xs (i + 2)) (xs (i + 3))) (by first | decide | omega) ⟨by omega, by omega⟩ (Nat.le_of_ble_eq_true rfl) (fun r w1 hq => ?_)
  obtain ⟨rfl, τ, rfl, ci, me⟩ := hq
  refine R_aload_n (i := 2) hC dL_law_904 rfl rfl (R_aload_n (i := 0) hC dL_law_905 rfl rfl (R_iload hC dL_law_906 rfl (R_iconst (v := 1) hC dL_law_908 (by decide) (R_iadd hC dL_law_909 (R_scr hC hS dL_law_910 (i + 1) (nIa i 1) (by omega) (R_aload_n (i := 0) hC dL_law_911 rfl rfl (R_iload hC dL_law_912 rfl ?_)))))))
  refine R_iconst (v := 2) hC dL_law_914 (by decide) (R_iadd hC dL_law_915 (R_scr hC hS dL_law_916 (i + 2) (nIa i 2) (by omega) (R_aload_n (i := 0) hC dL_law_917 rfl rfl (R_iload hC dL_law_918 rfl (R_iconst (v := 3) hC dL_law_920 (by decide) (R_iadd hC dL_law_921 (R_scr hC hS dL_law_922 (i + 3) (nIa i 3) (by omega) ?_)))))))
  refine R_V3g hC hR dL_law_923 MV_X11_way ml_L_108 L_M rfl (mo_way (hm.meq me) ok (xs (i + 1)) (xs (i + 2)) (xs (i + 3))) (by first | decide | omega) ⟨by omega, by omega⟩ (Nat.le_of_ble_eq_true rfl) (fun r w1 hq => ?_)
  obtain ⟨rfl, υ, rfl, mi2, ce⟩ := hq
  refine R_icmp_eq hC 1488 dL_law_926 (by decide) (fun _ => ?_) (fun h => absurd rfl h)
  exact kk υ _ (ci.ceq ok ce) mi2 ok
theorem lw_c20 {X : aX} {L : Nat} {xs : Nat → Int32} (hC : Cx mLaw X) (hR : Rd X 30 601024 7293034) (hS : SX X L xs) (hL2 : L ≤ 3072) {σ : sg} {xw : aW} {α : aS} {i cl sl : Nat} {l5 l6 : Option Value} (hc : CInv σ α) (hm : MInv σ α) (ok : aOK α) (hi : i + 6 ≤ L) (hcl : cl ≤ 601024) (hsl : sl ≤ 7293034) (kk : ∀ τ β, CInv τ β → MInv τ β → aOK β → Rw mLaw X 1488 [some (.ref BIG), some (.ref 16), some (.ref 176), some (.ref 201), some (.int (nI i)), l5, l6] [] (wd τ xw) cl sl) : Rw mLaw X 931 [some (.ref BIG), some (.ref 16), some (.ref 176), some (.ref 201), some (.int (nI i)), l5, l6] [] (wd σ xw) cl sl := by
  refine R_aload_n (i := 1) hC dL_law_931 rfl rfl (R_aload_n (i := 0) hC dL_law_932 rfl rfl (R_iload hC dL_law_933 rfl (R_iconst (v := 1) hC dL_law_935 (by decide) (R_iadd hC dL_law_936 (R_scr hC hS dL_law_937 (i + 1) (nIa i 1) (by omega) (R_aload_n (i := 0) hC dL_law_938 rfl rfl (R_iload hC dL_law_939 rfl ?_)))))))
  refine R_iconst (v := 2) hC dL_law_941 (by decide) (R_iadd hC dL_law_942 (R_scr hC hS dL_law_943 (i + 2) (nIa i 2) (by omega) ?_))
  refine R_V2g hC hR dL_law_944 MV_X10_signed ml_L_109 L_U rfl (co_signed hc ok (xs (i + 1)) (xs (i + 2))) (by first | decide | omega) ⟨by omega, by omega⟩ (Nat.le_of_ble_eq_true rfl) (fun r w1 hq => ?_)
  obtain ⟨rfl, τ, rfl, ci, me⟩ := hq
  refine R_aload_n (i := 2) hC dL_law_947 rfl rfl (R_aload_n (i := 0) hC dL_law_948 rfl rfl (R_iload hC dL_law_949 rfl (R_iconst (v := 1) hC dL_law_951 (by decide) (R_iadd hC dL_law_952 (R_scr hC hS dL_law_953 (i + 1) (nIa i 1) (by omega) (R_aload_n (i := 0) hC dL_law_954 rfl rfl (R_iload hC dL_law_955 rfl ?_)))))))
  refine R_iconst (v := 2) hC dL_law_957 (by decide) (R_iadd hC dL_law_958 (R_scr hC hS dL_law_959 (i + 2) (nIa i 2) (by omega) ?_))
  refine R_V2g hC hR dL_law_960 MV_X11_signed ml_L_112 L_M rfl (mo_signed (hm.meq me) ok (xs (i + 1)) (xs (i + 2))) (by first | decide | omega) ⟨by omega, by omega⟩ (Nat.le_of_ble_eq_true rfl) (fun r w1 hq => ?_)
  obtain ⟨rfl, υ, rfl, mi2, ce⟩ := hq
  refine R_icmp_eq hC 1488 dL_law_963 (by decide) (fun _ => ?_) (fun h => absurd rfl h)
  exact kk υ _ (ci.ceq ok ce) mi2 ok
theorem lw_c21 {X : aX} {L : Nat} {xs : Nat → Int32} (hC : Cx mLaw X) (hR : Rd X 30 601024 7293034) (hS : SX X L xs) (hL2 : L ≤ 3072) {σ : sg} {xw : aW} {α : aS} {i cl sl : Nat} {l5 l6 : Option Value} (hc : CInv σ α) (hm : MInv σ α) (ok : aOK α) (hi : i + 6 ≤ L) (hcl : cl ≤ 601024) (hsl : sl ≤ 7293034) (kk : ∀ τ β, CInv τ β → MInv τ β → aOK β → Rw mLaw X 1488 [some (.ref BIG), some (.ref 16), some (.ref 176), some (.ref 201), some (.int (nI i)), l5, l6] [] (wd τ xw) cl sl) : Rw mLaw X 968 [some (.ref BIG), some (.ref 16), some (.ref 176), some (.ref 201), some (.int (nI i)), l5, l6] [] (wd σ xw) cl sl := by
  refine R_aload_n (i := 1) hC dL_law_968 rfl rfl ?_
  refine R_V0g hC hR dL_law_969 MV_X10_regular ml_L_113 L_U rfl (co_regular hc ok) (by first | decide | omega) ⟨by omega, by omega⟩ (Nat.le_of_ble_eq_true rfl) (fun r w1 hq => ?_)
  obtain ⟨rfl, τ, rfl, ci, me⟩ := hq
  refine R_aload_n (i := 2) hC dL_law_972 rfl rfl ?_
  refine R_V0g hC hR dL_law_973 MV_X11_regular ml_L_116 L_M rfl (mo_regular (hm.meq me) ok) (by first | decide | omega) ⟨by omega, by omega⟩ (Nat.le_of_ble_eq_true rfl) (fun r w1 hq => ?_)
  obtain ⟨rfl, υ, rfl, mi2, ce⟩ := hq
  refine R_icmp_eq hC 1488 dL_law_976 (by decide) (fun _ => ?_) (fun h => absurd rfl h)
  exact kk υ _ (ci.ceq ok ce) mi2 ok
theorem lw_c22 {X : aX} {L : Nat} {xs : Nat → Int32} (hC : Cx mLaw X) (hR : Rd X 30 601024 7293034) (hS : SX X L xs) (hL2 : L ≤ 3072) {σ : sg} {xw : aW} {α : aS} {i cl sl : Nat} {l5 l6 : Option Value} (hc : CInv σ α) (hm : MInv σ α) (ok : aOK α) (hi : i + 6 ≤ L) (hcl : cl ≤ 601024) (hsl : sl ≤ 7293034) (kk : ∀ τ β, CInv τ β → MInv τ β → aOK β → Rw mLaw X 1488 [some (.ref BIG), some (.ref 16), some (.ref 176), some (.ref 201), some (.int (nI i)), l5, l6] [] (wd τ xw) cl sl) : Rw mLaw X 981 [some (.ref BIG), some (.ref 16), some (.ref 176), some (.ref 201), some (.int (nI i)), l5, l6] [] (wd σ xw) cl sl := by
  refine R_aload_n (i := 1) hC dL_law_981 rfl rfl (R_aload_n (i := 0) hC dL_law_982 rfl rfl (R_iload hC dL_law_983 rfl (R_iconst (v := 1) hC dL_law_985 (by decide) (R_iadd hC dL_law_986 (R_scr hC hS dL_law_987 (i + 1) (nIa i 1) (by omega) ?_)))))
  refine R_V1g hC hR dL_law_988 MV_X10_scaled ml_L_117 L_U rfl (co_scaled hc ok (xs (i + 1))) (by first | decide | omega) ⟨by omega, by omega⟩ (Nat.le_of_ble_eq_true rfl) (fun r w1 hq => ?_)
  obtain ⟨rfl, τ, rfl, ci, me⟩ := hq
  refine R_aload_n (i := 2) hC dL_law_991 rfl rfl (R_aload_n (i := 0) hC dL_law_992 rfl rfl (R_iload hC dL_law_993 rfl (R_iconst (v := 1) hC dL_law_995 (by decide) (R_iadd hC dL_law_996 (R_scr hC hS dL_law_997 (i + 1) (nIa i 1) (by omega) ?_)))))
  refine R_V1g hC hR dL_law_998 MV_X11_scaled ml_L_120 L_M rfl (mo_scaled (hm.meq me) ok (xs (i + 1))) (by first | decide | omega) ⟨by omega, by omega⟩ (Nat.le_of_ble_eq_true rfl) (fun r w1 hq => ?_)
  obtain ⟨rfl, υ, rfl, mi2, ce⟩ := hq
  refine R_icmp_eq hC 1488 dL_law_1001 (by decide) (fun _ => ?_) (fun h => absurd rfl h)
  exact kk υ _ (ci.ceq ok ce) mi2 ok
theorem lw_c23 {X : aX} {L : Nat} {xs : Nat → Int32} (hC : Cx mLaw X) (hR : Rd X 30 601024 7293034) (hS : SX X L xs) (hL2 : L ≤ 3072) {σ : sg} {xw : aW} {α : aS} {i cl sl : Nat} {l5 l6 : Option Value} (hc : CInv σ α) (hm : MInv σ α) (ok : aOK α) (hi : i + 6 ≤ L) (hcl : cl ≤ 601024) (hsl : sl ≤ 7293034) (kk : ∀ τ β, CInv τ β → MInv τ β → aOK β → Rw mLaw X 1488 [some (.ref BIG), some (.ref 16), some (.ref 176), some (.ref 201), some (.int (nI i)), l5, l6] [] (wd τ xw) cl sl) : Rw mLaw X 1006 [some (.ref BIG), some (.ref 16), some (.ref 176), some (.ref 201), some (.int (nI i)), l5, l6] [] (wd σ xw) cl sl := by
  refine R_aload_n (i := 1) hC dL_law_1006 rfl rfl ?_
  refine R_V0g hC hR dL_law_1007 MV_X10_special ml_L_121 L_U rfl (co_special hc ok) (by first | decide | omega) ⟨by omega, by omega⟩ (Nat.le_of_ble_eq_true rfl) (fun r w1 hq => ?_)
  obtain ⟨rfl, τ, rfl, ci, me⟩ := hq
  refine R_aload_n (i := 2) hC dL_law_1010 rfl rfl ?_
  refine R_V0g hC hR dL_law_1011 MV_X11_special ml_L_124 L_M rfl (mo_special (hm.meq me) ok) (by first | decide | omega) ⟨by omega, by omega⟩ (Nat.le_of_ble_eq_true rfl) (fun r w1 hq => ?_)
  obtain ⟨rfl, υ, rfl, mi2, ce⟩ := hq
  refine R_icmp_eq hC 1488 dL_law_1014 (by decide) (fun _ => ?_) (fun h => absurd rfl h)
  exact kk υ _ (ci.ceq ok ce) mi2 ok
theorem lw_c24 {X : aX} {L : Nat} {xs : Nat → Int32} (hC : Cx mLaw X) (hR : Rd X 30 601024 7293034) (hS : SX X L xs) (hL2 : L ≤ 3072) {σ : sg} {xw : aW} {α : aS} {i cl sl : Nat} {l5 l6 : Option Value} (hc : CInv σ α) (hm : MInv σ α) (ok : aOK α) (hi : i + 6 ≤ L) (hcl : cl ≤ 601024) (hsl : sl ≤ 7293034) (kk : ∀ τ β, CInv τ β → MInv τ β → aOK β → Rw mLaw X 1488 [some (.ref BIG), some (.ref 16), some (.ref 176), some (.ref 201), some (.int (nI i)), l5, l6] [] (wd τ xw) cl sl) : Rw mLaw X 1019 [some (.ref BIG), some (.ref 16), some (.ref 176), some (.ref 201), some (.int (nI i)), l5, l6] [] (wd σ xw) cl sl := by
  refine R_aload_n (i := 1) hC dL_law_1019 rfl rfl (R_aload_n (i := 0) hC dL_law_1020 rfl rfl (R_iload hC dL_law_1021 rfl (R_iconst (v := 1) hC dL_law_1023 (by decide) (R_iadd hC dL_law_1024 (R_scr hC hS dL_law_1025 (i + 1) (nIa i 1) (by omega) (R_aload_n (i := 0) hC dL_law_1026 rfl rfl (R_iload hC dL_law_1027 rfl ?_)))))))
  refine R_iconst (v := 2) hC dL_law_1029 (by decide) (R_iadd hC dL_law_1030 (R_scr hC hS dL_law_1031 (i + 2) (nIa i 2) (by omega) ?_))
  refine R_V2g hC hR dL_law_1032 MV_X10_block ml_L_125 L_U rfl (co_block hc ok (xs (i + 1)) (xs (i + 2))) (by first | decide | omega) ⟨by omega, by omega⟩ (Nat.le_of_ble_eq_true rfl) (fun r w1 hq => ?_)
  obtain ⟨rfl, τ, rfl, ci, me⟩ := hq
  refine R_aload_n (i := 2) hC dL_law_1035 rfl rfl (R_aload_n (i := 0) hC dL_law_1036 rfl rfl (R_iload hC dL_law_1037 rfl (R_iconst (v := 1) hC dL_law_1039 (by decide) (R_iadd hC dL_law_1040 (R_scr hC hS dL_law_1041 (i + 1) (nIa i 1) (by omega) (R_aload_n (i := 0) hC dL_law_1042 rfl rfl (R_iload hC dL_law_1043 rfl ?_)))))))
  refine R_iconst (v := 2) hC dL_law_1045 (by decide) (R_iadd hC dL_law_1046 (R_scr hC hS dL_law_1047 (i + 2) (nIa i 2) (by omega) ?_))
  refine R_V2g hC hR dL_law_1048 MV_X11_block ml_L_128 L_M rfl (mo_block (hm.meq me) ok (xs (i + 1)) (xs (i + 2))) (by first | decide | omega) ⟨by omega, by omega⟩ (Nat.le_of_ble_eq_true rfl) (fun r w1 hq => ?_)
  obtain ⟨rfl, υ, rfl, mi2, ce⟩ := hq
  refine R_icmp_eq hC 1488 dL_law_1051 (by decide) (fun _ => ?_) (fun h => absurd rfl h)
  exact kk υ _ (ci.ceq ok ce) mi2 ok
theorem lw_c25 {X : aX} {L : Nat} {xs : Nat → Int32} (hC : Cx mLaw X) (hR : Rd X 30 601024 7293034) (hS : SX X L xs) (hL2 : L ≤ 3072) {σ : sg} {xw : aW} {α : aS} {i cl sl : Nat} {l5 l6 : Option Value} (hc : CInv σ α) (hm : MInv σ α) (ok : aOK α) (hi : i + 6 ≤ L) (hcl : cl ≤ 601024) (hsl : sl ≤ 7293034) (kk : ∀ τ β, CInv τ β → MInv τ β → aOK β → Rw mLaw X 1488 [some (.ref BIG), some (.ref 16), some (.ref 176), some (.ref 201), some (.int (nI i)), l5, l6] [] (wd τ xw) cl sl) : Rw mLaw X 1056 [some (.ref BIG), some (.ref 16), some (.ref 176), some (.ref 201), some (.int (nI i)), l5, l6] [] (wd σ xw) cl sl := by
  refine R_aload_n (i := 1) hC dL_law_1056 rfl rfl (R_aload_n (i := 0) hC dL_law_1057 rfl rfl (R_iload hC dL_law_1058 rfl (R_iconst (v := 1) hC dL_law_1060 (by decide) (R_iadd hC dL_law_1061 (R_scr hC hS dL_law_1062 (i + 1) (nIa i 1) (by omega) ?_)))))
  refine R_V1g hC hR dL_law_1063 MV_X10_rank ml_L_129 L_U rfl (co_rank hc ok (xs (i + 1))) (by first | decide | omega) ⟨by omega, by omega⟩ (Nat.le_of_ble_eq_true rfl) (fun r w1 hq => ?_)
  obtain ⟨rfl, τ, rfl, ci, me⟩ := hq
  refine R_aload_n (i := 2) hC dL_law_1066 rfl rfl (R_aload_n (i := 0) hC dL_law_1067 rfl rfl (R_iload hC dL_law_1068 rfl (R_iconst (v := 1) hC dL_law_1070 (by decide) (R_iadd hC dL_law_1071 (R_scr hC hS dL_law_1072 (i + 1) (nIa i 1) (by omega) ?_)))))
  refine R_V1g hC hR dL_law_1073 MV_X11_rank ml_L_132 L_M rfl (mo_rank (hm.meq me) ok (xs (i + 1))) (by first | decide | omega) ⟨by omega, by omega⟩ (Nat.le_of_ble_eq_true rfl) (fun r w1 hq => ?_)
  obtain ⟨rfl, υ, rfl, mi2, ce⟩ := hq
  refine R_icmp_eq hC 1488 dL_law_1076 (by decide) (fun _ => ?_) (fun h => absurd rfl h)
  exact kk υ _ (ci.ceq ok ce) mi2 ok
theorem lw_c26 {X : aX} {L : Nat} {xs : Nat → Int32} (hC : Cx mLaw X) (hR : Rd X 30 601024 7293034) (hS : SX X L xs) (hL2 : L ≤ 3072) {σ : sg} {xw : aW} {α : aS} {i cl sl : Nat} {l5 l6 : Option Value} (hc : CInv σ α) (hm : MInv σ α) (ok : aOK α) (hi : i + 6 ≤ L) (hcl : cl ≤ 601024) (hsl : sl ≤ 7293034) (kk : ∀ τ β, CInv τ β → MInv τ β → aOK β → Rw mLaw X 1488 [some (.ref BIG), some (.ref 16), some (.ref 176), some (.ref 201), some (.int (nI i)), l5, l6] [] (wd τ xw) cl sl) : Rw mLaw X 1081 [some (.ref BIG), some (.ref 16), some (.ref 176), some (.ref 201), some (.int (nI i)), l5, l6] [] (wd σ xw) cl sl := by
  refine R_aload_n (i := 1) hC dL_law_1081 rfl rfl ?_
  refine R_V0g hC hR dL_law_1082 MV_X10_bases ml_L_133 L_U rfl (co_bases hc ok) (by first | decide | omega) ⟨by omega, by omega⟩ (Nat.le_of_ble_eq_true rfl) (fun r w1 hq => ?_)
  obtain ⟨rfl, τ, rfl, ci, me⟩ := hq
  refine R_aload_n (i := 2) hC dL_law_1085 rfl rfl ?_
  refine R_V0g hC hR dL_law_1086 MV_X11_bases ml_L_136 L_M rfl (mo_bases (hm.meq me) ok) (by first | decide | omega) ⟨by omega, by omega⟩ (Nat.le_of_ble_eq_true rfl) (fun r w1 hq => ?_)
  obtain ⟨rfl, υ, rfl, mi2, ce⟩ := hq
  refine R_icmp_eq hC 1488 dL_law_1089 (by decide) (fun _ => ?_) (fun h => absurd rfl h)
  exact kk υ _ (ci.ceq ok ce) mi2 ok
theorem lw_c27 {X : aX} {L : Nat} {xs : Nat → Int32} (hC : Cx mLaw X) (hR : Rd X 30 601024 7293034) (hS : SX X L xs) (hL2 : L ≤ 3072) {σ : sg} {xw : aW} {α : aS} {i cl sl : Nat} {l5 l6 : Option Value} (hc : CInv σ α) (hm : MInv σ α) (ok : aOK α) (hi : i + 6 ≤ L) (hcl : cl ≤ 601024) (hsl : sl ≤ 7293034) (kk : ∀ τ β, CInv τ β → MInv τ β → aOK β → Rw mLaw X 1488 [some (.ref BIG), some (.ref 16), some (.ref 176), some (.ref 201), some (.int (nI i)), l5, l6] [] (wd τ xw) cl sl) : Rw mLaw X 1094 [some (.ref BIG), some (.ref 16), some (.ref 176), some (.ref 201), some (.int (nI i)), l5, l6] [] (wd σ xw) cl sl := by
  refine R_aload_n (i := 1) hC dL_law_1094 rfl rfl ?_
  refine R_V0g hC hR dL_law_1095 MV_X10_mends ml_L_137 L_U rfl (co_mends hc ok) (by first | decide | omega) ⟨by omega, by omega⟩ (Nat.le_of_ble_eq_true rfl) (fun r w1 hq => ?_)
  obtain ⟨rfl, τ, rfl, ci, me⟩ := hq
  refine R_aload_n (i := 2) hC dL_law_1098 rfl rfl ?_
  refine R_V0g hC hR dL_law_1099 MV_X11_mends ml_L_140 L_M rfl (mo_mends (hm.meq me) ok) (by first | decide | omega) ⟨by omega, by omega⟩ (Nat.le_of_ble_eq_true rfl) (fun r w1 hq => ?_)
  obtain ⟨rfl, υ, rfl, mi2, ce⟩ := hq
  refine R_icmp_eq hC 1488 dL_law_1102 (by decide) (fun _ => ?_) (fun h => absurd rfl h)
  exact kk υ _ (ci.ceq ok ce) mi2 ok
theorem lw_c28 {X : aX} {L : Nat} {xs : Nat → Int32} (hC : Cx mLaw X) (hR : Rd X 30 601024 7293034) (hS : SX X L xs) (hL2 : L ≤ 3072) {σ : sg} {xw : aW} {α : aS} {i cl sl : Nat} {l5 l6 : Option Value} (hc : CInv σ α) (hm : MInv σ α) (ok : aOK α) (hi : i + 6 ≤ L) (hcl : cl ≤ 601024) (hsl : sl ≤ 7293034) (kk : ∀ τ β, CInv τ β → MInv τ β → aOK β → Rw mLaw X 1488 [some (.ref BIG), some (.ref 16), some (.ref 176), some (.ref 201), some (.int (nI i)), l5, l6] [] (wd τ xw) cl sl) : Rw mLaw X 1107 [some (.ref BIG), some (.ref 16), some (.ref 176), some (.ref 201), some (.int (nI i)), l5, l6] [] (wd σ xw) cl sl := by
  refine R_aload_n (i := 1) hC dL_law_1107 rfl rfl ?_
  refine R_V0g hC hR dL_law_1108 MV_X10_fragile ml_L_141 L_U rfl (co_fragile hc ok) (by first | decide | omega) ⟨by omega, by omega⟩ (Nat.le_of_ble_eq_true rfl) (fun r w1 hq => ?_)
  obtain ⟨rfl, τ, rfl, ci, me⟩ := hq
  refine R_aload_n (i := 2) hC dL_law_1111 rfl rfl ?_
  refine R_V0g hC hR dL_law_1112 MV_X11_fragile ml_L_144 L_M rfl (mo_fragile (hm.meq me) ok) (by first | decide | omega) ⟨by omega, by omega⟩ (Nat.le_of_ble_eq_true rfl) (fun r w1 hq => ?_)
  obtain ⟨rfl, υ, rfl, mi2, ce⟩ := hq
  refine R_icmp_eq hC 1488 dL_law_1115 (by decide) (fun _ => ?_) (fun h => absurd rfl h)
  exact kk υ _ (ci.ceq ok ce) mi2 ok
theorem lw_c29 {X : aX} {L : Nat} {xs : Nat → Int32} (hC : Cx mLaw X) (hR : Rd X 30 601024 7293034) (hS : SX X L xs) (hL2 : L ≤ 3072) {σ : sg} {xw : aW} {α : aS} {i cl sl : Nat} {l5 l6 : Option Value} (hc : CInv σ α) (hm : MInv σ α) (ok : aOK α) (hi : i + 6 ≤ L) (hcl : cl ≤ 601024) (hsl : sl ≤ 7293034) (kk : ∀ τ β, CInv τ β → MInv τ β → aOK β → Rw mLaw X 1488 [some (.ref BIG), some (.ref 16), some (.ref 176), some (.ref 201), some (.int (nI i)), l5, l6] [] (wd τ xw) cl sl) : Rw mLaw X 1120 [some (.ref BIG), some (.ref 16), some (.ref 176), some (.ref 201), some (.int (nI i)), l5, l6] [] (wd σ xw) cl sl := by
  refine R_aload_n (i := 1) hC dL_law_1120 rfl rfl (R_aload_n (i := 0) hC dL_law_1121 rfl rfl (R_iload hC dL_law_1122 rfl (R_iconst (v := 1) hC dL_law_1124 (by decide) (R_iadd hC dL_law_1125 (R_scr hC hS dL_law_1126 (i + 1) (nIa i 1) (by omega) (R_aload_n (i := 0) hC dL_law_1127 rfl rfl (R_iload hC dL_law_1128 rfl ?_)))))))
  refine R_iconst (v := 2) hC dL_law_1130 (by decide) (R_iadd hC dL_law_1131 (R_scr hC hS dL_law_1132 (i + 2) (nIa i 2) (by omega) ?_))
  refine R_V2g hC hR dL_law_1133 MV_X10_fills ml_L_145 L_U rfl (co_fills hc ok (xs (i + 1)) (xs (i + 2))) (by first | decide | omega) ⟨by omega, by omega⟩ (Nat.le_of_ble_eq_true rfl) (fun r w1 hq => ?_)
  obtain ⟨rfl, τ, rfl, ci, me⟩ := hq
  refine R_aload_n (i := 2) hC dL_law_1136 rfl rfl (R_aload_n (i := 0) hC dL_law_1137 rfl rfl (R_iload hC dL_law_1138 rfl (R_iconst (v := 1) hC dL_law_1140 (by decide) (R_iadd hC dL_law_1141 (R_scr hC hS dL_law_1142 (i + 1) (nIa i 1) (by omega) (R_aload_n (i := 0) hC dL_law_1143 rfl rfl (R_iload hC dL_law_1144 rfl ?_)))))))
  refine R_iconst (v := 2) hC dL_law_1146 (by decide) (R_iadd hC dL_law_1147 (R_scr hC hS dL_law_1148 (i + 2) (nIa i 2) (by omega) ?_))
  refine R_V2g hC hR dL_law_1149 MV_X11_fills ml_L_148 L_M rfl (mo_fills (hm.meq me) ok (xs (i + 1)) (xs (i + 2))) (by first | decide | omega) ⟨by omega, by omega⟩ (Nat.le_of_ble_eq_true rfl) (fun r w1 hq => ?_)
  obtain ⟨rfl, υ, rfl, mi2, ce⟩ := hq
  refine R_icmp_eq hC 1488 dL_law_1152 (by decide) (fun _ => ?_) (fun h => absurd rfl h)
  exact kk υ _ (ci.ceq ok ce) mi2 ok
theorem lw_c30 {X : aX} {L : Nat} {xs : Nat → Int32} (hC : Cx mLaw X) (hR : Rd X 30 601024 7293034) (hS : SX X L xs) (hL2 : L ≤ 3072) {σ : sg} {xw : aW} {α : aS} {i cl sl : Nat} {l5 l6 : Option Value} (hc : CInv σ α) (hm : MInv σ α) (ok : aOK α) (hi : i + 6 ≤ L) (hcl : cl ≤ 601024) (hsl : sl ≤ 7293034) (kk : ∀ τ β, CInv τ β → MInv τ β → aOK β → Rw mLaw X 1488 [some (.ref BIG), some (.ref 16), some (.ref 176), some (.ref 201), some (.int (nI i)), l5, l6] [] (wd τ xw) cl sl) : Rw mLaw X 1157 [some (.ref BIG), some (.ref 16), some (.ref 176), some (.ref 201), some (.int (nI i)), l5, l6] [] (wd σ xw) cl sl := by
  refine R_aload_n (i := 1) hC dL_law_1157 rfl rfl (R_aload_n (i := 0) hC dL_law_1158 rfl rfl (R_iload hC dL_law_1159 rfl (R_iconst (v := 1) hC dL_law_1161 (by decide) (R_iadd hC dL_law_1162 (R_scr hC hS dL_law_1163 (i + 1) (nIa i 1) (by omega) ?_)))))
  refine R_V1g hC hR dL_law_1164 MV_X10_pack ml_L_149 L_U rfl (co_pack hc ok (xs (i + 1))) (by first | decide | omega) ⟨by omega, by omega⟩ (Nat.le_of_ble_eq_true rfl) (fun r w1 hq => ?_)
  obtain ⟨rfl, τ, rfl, ci, me⟩ := hq
  refine R_aload_n (i := 2) hC dL_law_1167 rfl rfl (R_aload_n (i := 0) hC dL_law_1168 rfl rfl (R_iload hC dL_law_1169 rfl (R_iconst (v := 1) hC dL_law_1171 (by decide) (R_iadd hC dL_law_1172 (R_scr hC hS dL_law_1173 (i + 1) (nIa i 1) (by omega) ?_)))))
  refine R_V1g hC hR dL_law_1174 MV_X11_pack ml_L_152 L_M rfl (mo_pack (hm.meq me) ok (xs (i + 1))) (by first | decide | omega) ⟨by omega, by omega⟩ (Nat.le_of_ble_eq_true rfl) (fun r w1 hq => ?_)
  obtain ⟨rfl, υ, rfl, mi2, ce⟩ := hq
  refine R_icmp_eq hC 1488 dL_law_1177 (by decide) (fun _ => ?_) (fun h => absurd rfl h)
  exact kk υ _ (ci.ceq ok ce) mi2 ok
theorem lw_c31 {X : aX} {L : Nat} {xs : Nat → Int32} (hC : Cx mLaw X) (hR : Rd X 30 601024 7293034) (hS : SX X L xs) (hL2 : L ≤ 3072) {σ : sg} {xw : aW} {α : aS} {i cl sl : Nat} {l5 l6 : Option Value} (hc : CInv σ α) (hm : MInv σ α) (ok : aOK α) (hi : i + 6 ≤ L) (hcl : cl ≤ 601024) (hsl : sl ≤ 7293034) (kk : ∀ τ β, CInv τ β → MInv τ β → aOK β → Rw mLaw X 1488 [some (.ref BIG), some (.ref 16), some (.ref 176), some (.ref 201), some (.int (nI i)), l5, l6] [] (wd τ xw) cl sl) : Rw mLaw X 1182 [some (.ref BIG), some (.ref 16), some (.ref 176), some (.ref 201), some (.int (nI i)), l5, l6] [] (wd σ xw) cl sl := by
  refine R_aload_n (i := 1) hC dL_law_1182 rfl rfl (R_aload_n (i := 0) hC dL_law_1183 rfl rfl (R_iload hC dL_law_1184 rfl (R_iconst (v := 1) hC dL_law_1186 (by decide) (R_iadd hC dL_law_1187 (R_scr hC hS dL_law_1188 (i + 1) (nIa i 1) (by omega) (R_aload_n (i := 0) hC dL_law_1189 rfl rfl (R_iload hC dL_law_1190 rfl ?_)))))))
  refine R_iconst (v := 2) hC dL_law_1192 (by decide) (R_iadd hC dL_law_1193 (R_scr hC hS dL_law_1194 (i + 2) (nIa i 2) (by omega) ?_))
  refine R_V2g hC hR dL_law_1195 MV_X10_adjoint ml_L_153 L_U rfl (co_adjoint hc ok (xs (i + 1)) (xs (i + 2))) (by first | decide | omega) ⟨by omega, by omega⟩ (Nat.le_of_ble_eq_true rfl) (fun r w1 hq => ?_)
  obtain ⟨rfl, τ, rfl, ci, me⟩ := hq
  refine R_aload_n (i := 2) hC dL_law_1198 rfl rfl (R_aload_n (i := 0) hC dL_law_1199 rfl rfl (R_iload hC dL_law_1200 rfl (R_iconst (v := 1) hC dL_law_1202 (by decide) (R_iadd hC dL_law_1203 (R_scr hC hS dL_law_1204 (i + 1) (nIa i 1) (by omega) (R_aload_n (i := 0) hC dL_law_1205 rfl rfl (R_iload hC dL_law_1206 rfl ?_)))))))
  refine R_iconst (v := 2) hC dL_law_1208 (by decide) (R_iadd hC dL_law_1209 (R_scr hC hS dL_law_1210 (i + 2) (nIa i 2) (by omega) ?_))
  refine R_V2g hC hR dL_law_1211 MV_X11_adjoint ml_L_156 L_M rfl (mo_adjoint (hm.meq me) ok (xs (i + 1)) (xs (i + 2))) (by first | decide | omega) ⟨by omega, by omega⟩ (Nat.le_of_ble_eq_true rfl) (fun r w1 hq => ?_)
  obtain ⟨rfl, υ, rfl, mi2, ce⟩ := hq
  refine R_icmp_eq hC 1488 dL_law_1214 (by decide) (fun _ => ?_) (fun h => absurd rfl h)
  exact kk υ _ (ci.ceq ok ce) mi2 ok
theorem lw_c32 {X : aX} {L : Nat} {xs : Nat → Int32} (hC : Cx mLaw X) (hR : Rd X 30 601024 7293034) (hS : SX X L xs) (hL2 : L ≤ 3072) {σ : sg} {xw : aW} {α : aS} {i cl sl : Nat} {l5 l6 : Option Value} (hc : CInv σ α) (hm : MInv σ α) (ok : aOK α) (hi : i + 6 ≤ L) (hcl : cl ≤ 601024) (hsl : sl ≤ 7293034) (kk : ∀ τ β, CInv τ β → MInv τ β → aOK β → Rw mLaw X 1488 [some (.ref BIG), some (.ref 16), some (.ref 176), some (.ref 201), some (.int (nI i)), l5, l6] [] (wd τ xw) cl sl) : Rw mLaw X 1219 [some (.ref BIG), some (.ref 16), some (.ref 176), some (.ref 201), some (.int (nI i)), l5, l6] [] (wd σ xw) cl sl := by
  refine R_aload_n (i := 1) hC dL_law_1219 rfl rfl ?_
  refine R_V0g hC hR dL_law_1220 MV_X10_cycle ml_L_157 L_U rfl (co_cycle hc ok) (by first | decide | omega) ⟨by omega, by omega⟩ (Nat.le_of_ble_eq_true rfl) (fun r w1 hq => ?_)
  obtain ⟨rfl, τ, rfl, ci, me⟩ := hq
  refine R_aload_n (i := 2) hC dL_law_1223 rfl rfl ?_
  refine R_V0g hC hR dL_law_1224 MV_X11_cycle ml_L_160 L_M rfl (mo_cycle (hm.meq me) ok) (by first | decide | omega) ⟨by omega, by omega⟩ (Nat.le_of_ble_eq_true rfl) (fun r w1 hq => ?_)
  obtain ⟨rfl, υ, rfl, mi2, ce⟩ := hq
  refine R_icmp_eq hC 1488 dL_law_1227 (by decide) (fun _ => ?_) (fun h => absurd rfl h)
  exact kk υ _ (ci.ceq ok ce) mi2 ok
theorem lw_c33 {X : aX} {L : Nat} {xs : Nat → Int32} (hC : Cx mLaw X) (hR : Rd X 30 601024 7293034) (hS : SX X L xs) (hL2 : L ≤ 3072) {σ : sg} {xw : aW} {α : aS} {i cl sl : Nat} {l5 l6 : Option Value} (hc : CInv σ α) (hm : MInv σ α) (ok : aOK α) (hi : i + 6 ≤ L) (hcl : cl ≤ 601024) (hsl : sl ≤ 7293034) (kk : ∀ τ β, CInv τ β → MInv τ β → aOK β → Rw mLaw X 1488 [some (.ref BIG), some (.ref 16), some (.ref 176), some (.ref 201), some (.int (nI i)), l5, l6] [] (wd τ xw) cl sl) : Rw mLaw X 1232 [some (.ref BIG), some (.ref 16), some (.ref 176), some (.ref 201), some (.int (nI i)), l5, l6] [] (wd σ xw) cl sl := by
  refine R_aload_n (i := 1) hC dL_law_1232 rfl rfl (R_aload_n (i := 0) hC dL_law_1233 rfl rfl (R_iload hC dL_law_1234 rfl (R_iconst (v := 1) hC dL_law_1236 (by decide) (R_iadd hC dL_law_1237 (R_scr hC hS dL_law_1238 (i + 1) (nIa i 1) (by omega) (R_aload_n (i := 0) hC dL_law_1239 rfl rfl (R_iload hC dL_law_1240 rfl ?_)))))))
  refine R_iconst (v := 2) hC dL_law_1242 (by decide) (R_iadd hC dL_law_1243 (R_scr hC hS dL_law_1244 (i + 2) (nIa i 2) (by omega) (R_aload_n (i := 0) hC dL_law_1245 rfl rfl (R_iload hC dL_law_1246 rfl (R_iconst (v := 3) hC dL_law_1248 (by decide) (R_iadd hC dL_law_1249 (R_scr hC hS dL_law_1250 (i + 3) (nIa i 3) (by omega) ?_)))))))
  refine R_V3g hC hR dL_law_1251 MV_X10_step ml_L_161 L_U rfl (co_step hc ok (xs (i + 1)) (xs (i + 2)) (xs (i + 3))) (by first | decide | omega) ⟨by omega, by omega⟩ (Nat.le_of_ble_eq_true rfl) (fun r w1 hq => ?_)
  obtain ⟨rfl, τ, rfl, ci, me⟩ := hq
  refine R_aload_n (i := 2) hC dL_law_1254 rfl rfl (R_aload_n (i := 0) hC dL_law_1255 rfl rfl (R_iload hC dL_law_1256 rfl (R_iconst (v := 1) hC dL_law_1258 (by decide) (R_iadd hC dL_law_1259 (R_scr hC hS dL_law_1260 (i + 1) (nIa i 1) (by omega) (R_aload_n (i := 0) hC dL_law_1261 rfl rfl (R_iload hC dL_law_1262 rfl ?_)))))))
  refine R_iconst (v := 2) hC dL_law_1264 (by decide) (R_iadd hC dL_law_1265 (R_scr hC hS dL_law_1266 (i + 2) (nIa i 2) (by omega) (R_aload_n (i := 0) hC dL_law_1267 rfl rfl (R_iload hC dL_law_1268 rfl (R_iconst (v := 3) hC dL_law_1270 (by decide) (R_iadd hC dL_law_1271 (R_scr hC hS dL_law_1272 (i + 3) (nIa i 3) (by omega) ?_)))))))
  refine R_V3g hC hR dL_law_1273 MV_X11_step ml_L_164 L_M rfl (mo_step (hm.meq me) ok (xs (i + 1)) (xs (i + 2)) (xs (i + 3))) (by first | decide | omega) ⟨by omega, by omega⟩ (Nat.le_of_ble_eq_true rfl) (fun r w1 hq => ?_)
  obtain ⟨rfl, υ, rfl, mi2, ce⟩ := hq
  refine R_icmp_eq hC 1488 dL_law_1276 (by decide) (fun _ => ?_) (fun h => absurd rfl h)
  exact kk υ _ (ci.ceq ok ce) mi2 ok
theorem lw_c34 {X : aX} {L : Nat} {xs : Nat → Int32} (hC : Cx mLaw X) (hR : Rd X 30 601024 7293034) (hS : SX X L xs) (hL2 : L ≤ 3072) {σ : sg} {xw : aW} {α : aS} {i cl sl : Nat} {l5 l6 : Option Value} (hc : CInv σ α) (hm : MInv σ α) (ok : aOK α) (hi : i + 6 ≤ L) (hcl : cl ≤ 601024) (hsl : sl ≤ 7293034) (kk : ∀ τ β, CInv τ β → MInv τ β → aOK β → Rw mLaw X 1488 [some (.ref BIG), some (.ref 16), some (.ref 176), some (.ref 201), some (.int (nI i)), l5, l6] [] (wd τ xw) cl sl) : Rw mLaw X 1281 [some (.ref BIG), some (.ref 16), some (.ref 176), some (.ref 201), some (.int (nI i)), l5, l6] [] (wd σ xw) cl sl := by
  refine R_aload_n (i := 1) hC dL_law_1281 rfl rfl (R_aload_n (i := 0) hC dL_law_1282 rfl rfl (R_iload hC dL_law_1283 rfl (R_iconst (v := 1) hC dL_law_1285 (by decide) (R_iadd hC dL_law_1286 (R_scr hC hS dL_law_1287 (i + 1) (nIa i 1) (by omega) (R_aload_n (i := 0) hC dL_law_1288 rfl rfl (R_iload hC dL_law_1289 rfl ?_)))))))
  refine R_iconst (v := 2) hC dL_law_1291 (by decide) (R_iadd hC dL_law_1292 (R_scr hC hS dL_law_1293 (i + 2) (nIa i 2) (by omega) ?_))
  refine R_V2g hC hR dL_law_1294 MV_X10_run ml_L_165 L_U rfl (co_run hc ok (xs (i + 1)) (xs (i + 2))) (by first | decide | omega) ⟨by omega, by omega⟩ (Nat.le_of_ble_eq_true rfl) (fun r w1 hq => ?_)
  obtain ⟨rfl, τ, rfl, ci, me⟩ := hq
  refine R_aload_n (i := 2) hC dL_law_1297 rfl rfl (R_aload_n (i := 0) hC dL_law_1298 rfl rfl (R_iload hC dL_law_1299 rfl (R_iconst (v := 1) hC dL_law_1301 (by decide) (R_iadd hC dL_law_1302 (R_scr hC hS dL_law_1303 (i + 1) (nIa i 1) (by omega) (R_aload_n (i := 0) hC dL_law_1304 rfl rfl (R_iload hC dL_law_1305 rfl ?_)))))))
  refine R_iconst (v := 2) hC dL_law_1307 (by decide) (R_iadd hC dL_law_1308 (R_scr hC hS dL_law_1309 (i + 2) (nIa i 2) (by omega) ?_))
  refine R_V2g hC hR dL_law_1310 MV_X11_run ml_L_168 L_M rfl (mo_run (hm.meq me) ok (xs (i + 1)) (xs (i + 2))) (by first | decide | omega) ⟨by omega, by omega⟩ (Nat.le_of_ble_eq_true rfl) (fun r w1 hq => ?_)
  obtain ⟨rfl, υ, rfl, mi2, ce⟩ := hq
  refine R_icmp_eq hC 1488 dL_law_1313 (by decide) (fun _ => ?_) (fun h => absurd rfl h)
  exact kk υ _ (ci.ceq ok ce) mi2 ok
theorem lw_c35 {X : aX} {L : Nat} {xs : Nat → Int32} (hC : Cx mLaw X) (hR : Rd X 30 601024 7293034) (hS : SX X L xs) (hL2 : L ≤ 3072) {σ : sg} {xw : aW} {α : aS} {i cl sl : Nat} {l5 l6 : Option Value} (hc : CInv σ α) (hm : MInv σ α) (ok : aOK α) (hi : i + 6 ≤ L) (hcl : cl ≤ 601024) (hsl : sl ≤ 7293034) (kk : ∀ τ β, CInv τ β → MInv τ β → aOK β → Rw mLaw X 1488 [some (.ref BIG), some (.ref 16), some (.ref 176), some (.ref 201), some (.int (nI i)), l5, l6] [] (wd τ xw) cl sl) : Rw mLaw X 1318 [some (.ref BIG), some (.ref 16), some (.ref 176), some (.ref 201), some (.int (nI i)), l5, l6] [] (wd σ xw) cl sl := by
  refine R_aload_n (i := 1) hC dL_law_1318 rfl rfl (R_aload_n (i := 0) hC dL_law_1319 rfl rfl (R_iload hC dL_law_1320 rfl (R_iconst (v := 1) hC dL_law_1322 (by decide) (R_iadd hC dL_law_1323 (R_scr hC hS dL_law_1324 (i + 1) (nIa i 1) (by omega) ?_)))))
  refine R_V1g hC hR dL_law_1325 MV_X10_perform ml_L_169 L_U rfl (co_perform hc ok (xs (i + 1))) (by first | decide | omega) ⟨by omega, by omega⟩ (Nat.le_of_ble_eq_true rfl) (fun r w1 hq => ?_)
  obtain ⟨rfl, τ, rfl, ci, me⟩ := hq
  refine R_aload_n (i := 2) hC dL_law_1328 rfl rfl (R_aload_n (i := 0) hC dL_law_1329 rfl rfl (R_iload hC dL_law_1330 rfl (R_iconst (v := 1) hC dL_law_1332 (by decide) (R_iadd hC dL_law_1333 (R_scr hC hS dL_law_1334 (i + 1) (nIa i 1) (by omega) ?_)))))
  refine R_V1g hC hR dL_law_1335 MV_X11_perform ml_L_172 L_M rfl (mo_perform (hm.meq me) ok (xs (i + 1))) (by first | decide | omega) ⟨by omega, by omega⟩ (Nat.le_of_ble_eq_true rfl) (fun r w1 hq => ?_)
  obtain ⟨rfl, υ, rfl, mi2, ce⟩ := hq
  refine R_icmp_eq hC 1488 dL_law_1338 (by decide) (fun _ => ?_) (fun h => absurd rfl h)
  exact kk υ _ (ci.ceq (ok_perform ok (xs (i + 1))) ce) mi2 (ok_perform ok (xs (i + 1)))
theorem lw_c36 {X : aX} {L : Nat} {xs : Nat → Int32} (hC : Cx mLaw X) (hR : Rd X 30 601024 7293034) (hS : SX X L xs) (hL2 : L ≤ 3072) {σ : sg} {xw : aW} {α : aS} {i cl sl : Nat} {l5 l6 : Option Value} (hc : CInv σ α) (hm : MInv σ α) (ok : aOK α) (hi : i + 6 ≤ L) (hcl : cl ≤ 601024) (hsl : sl ≤ 7293034) (kk : ∀ τ β, CInv τ β → MInv τ β → aOK β → Rw mLaw X 1488 [some (.ref BIG), some (.ref 16), some (.ref 176), some (.ref 201), some (.int (nI i)), l5, l6] [] (wd τ xw) cl sl) : Rw mLaw X 1343 [some (.ref BIG), some (.ref 16), some (.ref 176), some (.ref 201), some (.int (nI i)), l5, l6] [] (wd σ xw) cl sl := by
  refine R_aload_n (i := 1) hC dL_law_1343 rfl rfl (R_aload_n (i := 0) hC dL_law_1344 rfl rfl (R_iload hC dL_law_1345 rfl (R_iconst (v := 1) hC dL_law_1347 (by decide) (R_iadd hC dL_law_1348 (R_scr hC hS dL_law_1349 (i + 1) (nIa i 1) (by omega) (R_aload_n (i := 0) hC dL_law_1350 rfl rfl (R_iload hC dL_law_1351 rfl ?_)))))))
  refine R_iconst (v := 2) hC dL_law_1353 (by decide) (R_iadd hC dL_law_1354 (R_scr hC hS dL_law_1355 (i + 2) (nIa i 2) (by omega) (R_i2l hC dL_law_1356 (R_bipush (v := 32) hC dL_law_1357 (by decide) (R_lshl hC dL_law_1359 (R_aload_n (i := 0) hC dL_law_1360 rfl rfl (R_iload hC dL_law_1361 rfl ?_)))))))
  refine R_iconst (v := 3) hC dL_law_1363 (by decide) (R_iadd hC dL_law_1364 (R_scr hC hS dL_law_1365 (i + 3) (nIa i 3) (by omega) (R_i2l hC dL_law_1366 (R_ldc2 hC dL_law_1367 kc_L_173 (R_land hC dL_law_1370 (R_lor hC dL_law_1371 ?_))))))
  refine R_V2g hC hR dL_law_1372 MV_X10_draws ml_L_175 L_U rfl (co_draws hc ok (xs (i + 1)) _) (by first | decide | omega) ⟨by omega, by omega⟩ (Nat.le_of_ble_eq_true rfl) (fun r w1 hq => ?_)
  obtain ⟨rfl, τ, rfl, ci, me⟩ := hq
  refine R_aload_n (i := 2) hC dL_law_1375 rfl rfl (R_aload_n (i := 0) hC dL_law_1376 rfl rfl (R_iload hC dL_law_1377 rfl (R_iconst (v := 1) hC dL_law_1379 (by decide) (R_iadd hC dL_law_1380 (R_scr hC hS dL_law_1381 (i + 1) (nIa i 1) (by omega) (R_aload_n (i := 0) hC dL_law_1382 rfl rfl (R_iload hC dL_law_1383 rfl ?_)))))))
  refine R_iconst (v := 2) hC dL_law_1385 (by decide) (R_iadd hC dL_law_1386 (R_scr hC hS dL_law_1387 (i + 2) (nIa i 2) (by omega) (R_i2l hC dL_law_1388 (R_bipush (v := 32) hC dL_law_1389 (by decide) (R_lshl hC dL_law_1391 (R_aload_n (i := 0) hC dL_law_1392 rfl rfl (R_iload hC dL_law_1393 rfl ?_)))))))
  refine R_iconst (v := 3) hC dL_law_1395 (by decide) (R_iadd hC dL_law_1396 (R_scr hC hS dL_law_1397 (i + 3) (nIa i 3) (by omega) (R_i2l hC dL_law_1398 (R_ldc2 hC dL_law_1399 kc_L_173 (R_land hC dL_law_1402 (R_lor hC dL_law_1403 ?_))))))
  refine R_V2g hC hR dL_law_1404 MV_X11_draws ml_L_179 L_M rfl (mo_draws (hm.meq me) ok (xs (i + 1)) _) (by first | decide | omega) ⟨by omega, by omega⟩ (Nat.le_of_ble_eq_true rfl) (fun r w1 hq => ?_)
  obtain ⟨rfl, υ, rfl, mi2, ce⟩ := hq
  refine R_icmp_eq hC 1488 dL_law_1407 (by decide) (fun _ => ?_) (fun h => absurd rfl h)
  exact kk υ _ (ci.ceq (ok_draws ok _ _) ce) mi2 (ok_draws ok _ _)
theorem lw_c37 {X : aX} {L : Nat} {xs : Nat → Int32} (hC : Cx mLaw X) (hR : Rd X 30 601024 7293034) (hS : SX X L xs) (hL2 : L ≤ 3072) {σ : sg} {xw : aW} {α : aS} {i cl sl : Nat} {l5 l6 : Option Value} (hc : CInv σ α) (hm : MInv σ α) (ok : aOK α) (hi : i + 6 ≤ L) (hcl : cl ≤ 601024) (hsl : sl ≤ 7293034) (kk : ∀ τ β, CInv τ β → MInv τ β → aOK β → Rw mLaw X 1488 [some (.ref BIG), some (.ref 16), some (.ref 176), some (.ref 201), some (.int (nI i)), l5, l6] [] (wd τ xw) cl sl) : Rw mLaw X 1412 [some (.ref BIG), some (.ref 16), some (.ref 176), some (.ref 201), some (.int (nI i)), l5, l6] [] (wd σ xw) cl sl := by
  refine R_aload_n (i := 1) hC dL_law_1412 rfl rfl (R_aload_n (i := 0) hC dL_law_1413 rfl rfl (R_iload hC dL_law_1414 rfl (R_iconst (v := 1) hC dL_law_1416 (by decide) (R_iadd hC dL_law_1417 (R_scr hC hS dL_law_1418 (i + 1) (nIa i 1) (by omega) ?_)))))
  refine R_V1g hC hR dL_law_1419 MV_X10_status ml_L_180 L_U rfl (co_status hc (xs (i + 1))) (by first | decide | omega) ⟨by omega, by omega⟩ (Nat.le_of_ble_eq_true rfl) (fun r w1 hq => ?_)
  obtain ⟨rfl, τ, rfl, ci, me⟩ := hq
  refine R_aload_n (i := 2) hC dL_law_1422 rfl rfl (R_aload_n (i := 0) hC dL_law_1423 rfl rfl (R_iload hC dL_law_1424 rfl (R_iconst (v := 1) hC dL_law_1426 (by decide) (R_iadd hC dL_law_1427 (R_scr hC hS dL_law_1428 (i + 1) (nIa i 1) (by omega) ?_)))))
  refine R_V1g hC hR dL_law_1429 MV_X11_status ml_L_183 L_M rfl (mo_status (hm.meq me) (xs (i + 1))) (by first | decide | omega) ⟨by omega, by omega⟩ (Nat.le_of_ble_eq_true rfl) (fun r w1 hq => ?_)
  obtain ⟨rfl, υ, rfl, mi2, ce⟩ := hq
  refine R_icmp_eq hC 1488 dL_law_1432 (by decide) (fun _ => ?_) (fun h => absurd rfl h)
  exact kk υ _ (ci.ceq ok ce) mi2 ok
theorem lw_c38 {X : aX} {L : Nat} {xs : Nat → Int32} (hC : Cx mLaw X) (hR : Rd X 30 601024 7293034) (hS : SX X L xs) (hL2 : L ≤ 3072) {σ : sg} {xw : aW} {α : aS} {i cl sl : Nat} {l5 l6 : Option Value} (hc : CInv σ α) (hm : MInv σ α) (ok : aOK α) (hi : i + 6 ≤ L) (hcl : cl ≤ 601024) (hsl : sl ≤ 7293034) (kk : ∀ τ β, CInv τ β → MInv τ β → aOK β → Rw mLaw X 1488 [some (.ref BIG), some (.ref 16), some (.ref 176), some (.ref 201), some (.int (nI i)), l5, l6] [] (wd τ xw) cl sl) : Rw mLaw X 1437 [some (.ref BIG), some (.ref 16), some (.ref 176), some (.ref 201), some (.int (nI i)), l5, l6] [] (wd σ xw) cl sl := by
  refine R_aload_n (i := 1) hC dL_law_1437 rfl rfl ?_
  refine R_V0g hC hR dL_law_1438 MV_X10_image ml_L_184 L_U rfl (co_image hc ok) (by first | decide | omega) ⟨by omega, by omega⟩ (Nat.le_of_ble_eq_true rfl) (fun r w1 hq => ?_)
  obtain ⟨rfl, τ, rfl, ci, me⟩ := hq
  refine R_aload_n (i := 2) hC dL_law_1441 rfl rfl ?_
  refine R_V0g hC hR dL_law_1442 MV_X11_image ml_L_187 L_M rfl (mo_image (hm.meq me) ok) (by first | decide | omega) ⟨by omega, by omega⟩ (Nat.le_of_ble_eq_true rfl) (fun r w1 hq => ?_)
  obtain ⟨rfl, υ, rfl, mi2, ce⟩ := hq
  refine R_icmp_eq hC 1488 dL_law_1445 (by decide) (fun _ => ?_) (fun h => absurd rfl h)
  exact kk υ _ (ci.ceq (ok_image ok ) ce) mi2 (ok_image ok )
theorem lw_c39 {X : aX} {L : Nat} {xs : Nat → Int32} (hC : Cx mLaw X) (hR : Rd X 30 601024 7293034) (hS : SX X L xs) (hL2 : L ≤ 3072) {σ : sg} {xw : aW} {α : aS} {i cl sl : Nat} {l5 l6 : Option Value} (hc : CInv σ α) (hm : MInv σ α) (ok : aOK α) (hi : i + 6 ≤ L) (hcl : cl ≤ 601024) (hsl : sl ≤ 7293034) (kk : ∀ τ β, CInv τ β → MInv τ β → aOK β → Rw mLaw X 1488 [some (.ref BIG), some (.ref 16), some (.ref 176), some (.ref 201), some (.int (nI i)), l5, l6] [] (wd τ xw) cl sl) : Rw mLaw X 1450 [some (.ref BIG), some (.ref 16), some (.ref 176), some (.ref 201), some (.int (nI i)), l5, l6] [] (wd σ xw) cl sl := by
  refine R_aload_n (i := 1) hC dL_law_1450 rfl rfl ?_
  refine R_V0g hC hR dL_law_1451 MV_X10_back ml_L_188 L_U rfl (co_back hc ok) (by first | decide | omega) ⟨by omega, by omega⟩ (Nat.le_of_ble_eq_true rfl) (fun r w1 hq => ?_)
  obtain ⟨rfl, τ, rfl, ci, me⟩ := hq
  refine R_aload_n (i := 2) hC dL_law_1454 rfl rfl ?_
  refine R_V0g hC hR dL_law_1455 MV_X11_back ml_L_191 L_M rfl (mo_back (hm.meq me) ok) (by first | decide | omega) ⟨by omega, by omega⟩ (Nat.le_of_ble_eq_true rfl) (fun r w1 hq => ?_)
  obtain ⟨rfl, υ, rfl, mi2, ce⟩ := hq
  refine R_icmp_eq hC 1488 dL_law_1458 (by decide) (fun _ => ?_) (fun h => absurd rfl h)
  exact kk υ _ (ci.ceq (ok_back ok ) ce) mi2 (ok_back ok )
theorem lw_c40 {X : aX} {L : Nat} {xs : Nat → Int32} (hC : Cx mLaw X) (hR : Rd X 30 601024 7293034) (hS : SX X L xs) (hL2 : L ≤ 3072) {σ : sg} {xw : aW} {α : aS} {i cl sl : Nat} {l5 l6 : Option Value} (hc : CInv σ α) (hm : MInv σ α) (ok : aOK α) (hi : i + 6 ≤ L) (hcl : cl ≤ 601024) (hsl : sl ≤ 7293034) (kk : ∀ τ β, CInv τ β → MInv τ β → aOK β → Rw mLaw X 1488 [some (.ref BIG), some (.ref 16), some (.ref 176), some (.ref 201), some (.int (nI i)), l5, l6] [] (wd τ xw) cl sl) : Rw mLaw X 1463 [some (.ref BIG), some (.ref 16), some (.ref 176), some (.ref 201), some (.int (nI i)), l5, l6] [] (wd σ xw) cl sl := by
  refine R_aload_n (i := 1) hC dL_law_1463 rfl rfl (R_aload_n (i := 0) hC dL_law_1464 rfl rfl (R_iload hC dL_law_1465 rfl (R_iconst (v := 1) hC dL_law_1467 (by decide) (R_iadd hC dL_law_1468 (R_scr hC hS dL_law_1469 (i + 1) (nIa i 1) (by omega) ?_)))))
  refine R_V1g hC hR dL_law_1470 MV_X10_count ml_L_192 L_U rfl (co_count hc ok (xs (i + 1))) (by first | decide | omega) ⟨by omega, by omega⟩ (Nat.le_of_ble_eq_true rfl) (fun r w1 hq => ?_)
  obtain ⟨rfl, τ, rfl, ci, me⟩ := hq
  refine R_aload_n (i := 2) hC dL_law_1473 rfl rfl (R_aload_n (i := 0) hC dL_law_1474 rfl rfl (R_iload hC dL_law_1475 rfl (R_iconst (v := 1) hC dL_law_1477 (by decide) (R_iadd hC dL_law_1478 (R_scr hC hS dL_law_1479 (i + 1) (nIa i 1) (by omega) ?_)))))
  refine R_V1g hC hR dL_law_1480 MV_X11_count ml_L_195 L_M rfl (mo_count (hm.meq me) ok (xs (i + 1))) (by first | decide | omega) ⟨by omega, by omega⟩ (Nat.le_of_ble_eq_true rfl) (fun r w1 hq => ?_)
  obtain ⟨rfl, υ, rfl, mi2, ce⟩ := hq
  refine R_icmp_eq hC 1488 dL_law_1483 (by decide) (fun _ => ?_) (fun h => absurd rfl h)
  exact kk υ _ (ci.ceq ok ce) mi2 ok
