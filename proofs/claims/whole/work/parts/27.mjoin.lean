/-- two tables joined (k = 0) or linked (k = 1) -/
def jnF (A B : tb) (k i j : Nat) : Int32 := if i < A.1 then (if j < A.2.1 - k then A.2.2 i j else if k = 1 then A.2.2 i (A.2.1 - 1) * B.2.2 0 (j - (A.2.1 - 1)) else 0) else if A.2.1 - k ≤ j then B.2.2 (i - A.1 + k) (j - (A.2.1 - k)) else 0
def jnT (A B : tb) (k : Nat) : tb := (A.1 + B.1 - k, A.2.1 + B.2.1 - k, jnF A B k)
def canJ (A B : tb) (k : Nat) : Prop := ¬ (k = 1 ∧ (A.2.1 < 2 ∨ B.1 < 2)) ∧ A.1 + B.1 - k ≤ 6 ∧ A.2.1 + B.2.1 - k ≤ 6
noncomputable def opJoin (α : aS) (a b k : Int32) : Int32 × aS := by classical exact
  (if ¬ (inR (tK α).1 a ∧ inR (tK α).1 b) then (-1, withZ α 0) else if ¬ (0 ≤ k.toInt ∧ k.toInt ≤ 1) then (-1, withZ α 1) else if ¬ canJ ((tK α).2 a.toNatClampNeg) ((tK α).2 b.toNatClampNeg) k.toNatClampNeg then (-1, withZ α 3) else
    (nI (jnT ((tK α).2 a.toNatClampNeg) ((tK α).2 b.toNatClampNeg) k.toNatClampNeg).1, pushT α (jnT ((tK α).2 a.toNatClampNeg) ((tK α).2 b.toNatClampNeg) k.toNatClampNeg)))
theorem nI_sub {a b : Nat} (h : b ≤ a) : nI a - nI b = nI (a - b) := by
  have := nI_add (a - b) b
  rw [Nat.sub_add_cancel h] at this
  rw [← this, Int32.add_sub_cancel]
theorem sml_mul {a b : Int32} (h : sml a) (k : sml b) : sml (a * b) := by
  rcases h with rfl | rfl | rfl <;> rcases k with rfl | rfl | rfl <;> first | exact Or.inl (by decide) | exact Or.inr (Or.inl (by decide)) | exact Or.inr (Or.inr (by decide))
theorem tbOK_jn {A B : tb} {k : Nat} (oA : tbOK A) (oB : tbOK B) (a1 : 1 ≤ A.1) (b1 : 1 ≤ B.1) (hk : k ≤ 1) (h : canJ A B k) : tbOK (jnT A B k) := by
  obtain ⟨c1, c2, c3⟩ := h
  obtain ⟨x1, x2, x3, x4⟩ := oA
  obtain ⟨y1, y2, y3, y4⟩ := oB
  refine ⟨c2, c3, ?_, fun i j hi hj => ?_⟩
  · show A.1 + B.1 - k = 0 ↔ A.2.1 + B.2.1 - k = 0
    omega
  · have hi : i < A.1 + B.1 - k := hi
    have hj : j < A.2.1 + B.2.1 - k := hj
    show sml (jnF A B k i j)
    unfold jnF
    by_cases e1 : i < A.1
    · rw [if_pos e1]
      by_cases e2 : j < A.2.1 - k
      · rw [if_pos e2]; exact x4 i j e1 (by omega)
      · rw [if_neg e2]
        split
        · exact sml_mul (x4 i _ e1 (by omega)) (y4 0 _ (by omega) (by omega))
        · exact Or.inr (Or.inl rfl)
    · rw [if_neg e1]
      split
      · exact y4 _ _ (by omega) (by omega)
      · exact Or.inr (Or.inl rfl)
theorem mo_join {σ : sg} {x : aW} {α : aS} (h : MInv σ α) (ok : aOK α) (a b k : Int32) : Mt mX11_join 1 0 0 [.ref i_M, .int a, .int b, .int k] (wd σ x) (MPost σ x (opJoin α a b k).1 (opJoin α a b k).2) := by
  refine Mt.of MI_X11_join (Nat.le_of_ble_eq_true rfl) (fun X hC hR hT => ?_)
  have h1 := M_thr h 0
  have c1 := M_ceq σ
  have b1 := ok.2.2.2.1.1
  have eK : ((sG σ i_M 0 0).1 i_M 12).toInt = (tK α).1 := by rw [sG_nk (by decide), h.2.2.1.1, nI_toInt (by omega)]
  have refu : ∀ j, j < 4 → opJoin α a b k = (-1, withZ α j) → MPost σ x (opJoin α a b k).1 (opJoin α a b k).2 (some (.int (-1))) (wd (sA (sG σ i_M 0 0) i_m_status (upd ((sG σ i_M 0 0).2.2 i_m_status) j ((sG σ i_M 0 0).2.2 i_m_status j + 1))) x) := by
    intro j hj e
    rw [e]; exact MPost.i (h1.stat hj) (c1.a (by decide))
  -- the work
  have body : ∀ p q kk : Nat, a = nI p → b = nI q → k = nI kk → p < (tK α).1 → q < (tK α).1 → kk ≤ 1 → canJ ((tK α).2 p) ((tK α).2 q) kk → opJoin α a b k = (nI (jnT ((tK α).2 p) ((tK α).2 q) kk).1, pushT α (jnT ((tK α).2 p) ((tK α).2 q) kk)) →
      ∀ u8 u9 u10, Rw mX11_join X 146 [some (.ref i_M), some (.int a), some (.int b), some (.int k), some (.int (nI ((tK α).2 p).1)), some (.int (nI ((tK α).2 p).2.1)), some (.int (nI ((tK α).2 q).1)), some (.int (nI ((tK α).2 q).2.1)), u8, u9, u10] [] (wd (sG σ i_M 0 0) x) 0 0 := by
    intro p q kk ea eb ek hp hq hk hcan eo u8 u9 u10
    subst ea
    subst eb
    subst ek
    obtain ⟨⟨oA1, oA2, oA3, oA4⟩, oA5⟩ := ok.2.2.2.1.2 p hp
    obtain ⟨⟨oB1, oB2, oB3, oB4⟩, oB5⟩ := ok.2.2.2.1.2 q hq
    have hA := h.2.2.1.2 p hp
    have hB := h.2.2.1.2 q hq
    obtain ⟨cj1, cj2, cj3⟩ := id hcan
    generalize hAe : (tK α).2 p = A at *
    generalize hBe : (tK α).2 q = B at *
    refine R_aload_n (i := 0) hC dX11_join_146 rfl rfl ?_
    refine R_V0g hC hR dX11_join_147 MV_X11_remember ml_X11_167 L_M rfl (s_remember h1 ok) (by decide) ⟨by decide, by decide⟩ (Nat.le_of_ble_eq_true rfl) (fun r w1 hq => ?_)
    obtain ⟨rfl, pp, gu, rfl, hm⟩ := hq
    generalize hω : sA (sG (sG σ i_M 0 0) i_M 15 pp) i_m_undoRow gu = ω at hm ⊢
    have cω : CEq σ ω := by rw [← hω]; exact (c1.g (Nat.le_refl _)).a (by decide)
    have kA : ∀ r c, r < A.1 → c < A.2.1 → ω.2.2 i_m_kept (38 * p + (6 * r + c)) = A.2.2 r c := fun r c hr hc => by rw [← hω]; exact hA.2.2 r c hr hc
    have kB : ∀ r c, r < B.1 → c < B.2.1 → ω.2.2 i_m_kept (38 * q + (6 * r + c)) = B.2.2 r c := fun r c hr hc => by rw [← hω]; exact hB.2.2 r c hr hc
    refine R_iconst (v := 0) hC dX11_join_150 (by decide) (R_istore hC dX11_join_151 (by decide) rfl ?_)
    skip
    have e0 : ∀ (g : Nat → Int32) (j : Nat), (sA ω i_m_now g).2.2 i_m_kept j = ω.2.2 i_m_kept j := fun g j => by rw [sA_ne (by decide)]
    -- the end
    have fin : ∀ g : Nat → Int32, (∀ i j, i < A.1 + B.1 - kk → j < A.2.1 + B.2.1 - kk → g (6 * i + j) = jnF A B kk i j) → ∀ u8 u9 u10, Rw mX11_join X 357 [some (.ref i_M), some (.int (nI p)), some (.int (nI q)), some (.int (nI kk)), some (.int (nI A.1)), some (.int (nI A.2.1)), some (.int (nI B.1)), some (.int (nI B.2.1)), u8, u9, u10] [] (wd (sA ω i_m_now g) x) 0 0 := by
      intro g hg u8 u9 u10
      refine R_aload_n (i := 0) hC dX11_join_357 rfl rfl (R_gR hC dX11_join_358 fl_X11_13 L_M rfl (R_bipush (v := 36) hC dX11_join_361 (by decide) (R_iload hC dX11_join_363 rfl (R_iload hC dX11_join_365 rfl (R_iadd hC dX11_join_367 (R_iload_n (i := 3) hC dX11_join_368 rfl rfl (R_isub hC dX11_join_369 ?_)))))))
      refine R_top (y := nI (A.1 + B.1 - kk)) (by rw [nI_add, nI_sub (by omega)]) ?_
      refine R_sI hC dX11_join_370 L_m_now 36 rfl (by decide) (by decide) ?_
      refine R_wd (by rw [sA_eq, sA_sA]) ?_
      refine R_aload_n (i := 0) hC dX11_join_371 rfl rfl (R_gR hC dX11_join_372 fl_X11_13 L_M rfl (R_bipush (v := 37) hC dX11_join_375 (by decide) (R_iload hC dX11_join_377 rfl (R_iload hC dX11_join_379 rfl (R_iadd hC dX11_join_381 (R_iload_n (i := 3) hC dX11_join_382 rfl rfl (R_isub hC dX11_join_383 ?_)))))))
      refine R_top (y := nI (A.2.1 + B.2.1 - kk)) (by rw [nI_add, nI_sub (by omega)]) ?_
      refine R_sI hC dX11_join_384 L_m_now 37 rfl (by decide) (by decide) ?_
      refine R_wd (by rw [sA_eq, sA_sA]) ?_
      refine R_aload_n (i := 0) hC dX11_join_385 rfl rfl (R_gR hC dX11_join_386 fl_X11_13 L_M rfl (R_bipush (v := 36) hC dX11_join_389 (by decide) (R_aI hC dX11_join_391 L_m_now 36 rfl (by decide) (by decide) ?_)))
      refine R_top (y := nI (A.1 + B.1 - kk)) (by rw [sA_eq]; rfl) ?_
      exact R_iret hC hT dX11_join_392 rfl (by
      rw [eo]
      refine MPost.i (hm.now (T := jnT A B kk) ⟨?_, ?_, fun i j hi hj => ?_⟩) (cω.a (by decide))
      · rfl
      · rfl
      · have hi : i < A.1 + B.1 - kk := hi
        have hj : j < A.2.1 + B.2.1 - kk := hj
        rw [upd, if_neg (by omega), upd, if_neg (by omega)]
        exact hg i j hi hj)
    -- the rows of the second
    have phC : ∀ n, n ≤ B.1 → kk ≤ n → ∀ g : Nat → Int32, (∀ i j, i < A.1 + n - kk → j < A.2.1 + B.2.1 - kk → g (6 * i + j) = jnF A B kk i j) → (∀ i j, A.1 + n - kk ≤ i → i < 6 → j < 6 → g (6 * i + j) = 0) → ∀ u9 u10, Rw mX11_join X 292 [some (.ref i_M), some (.int (nI p)), some (.int (nI q)), some (.int (nI kk)), some (.int (nI A.1)), some (.int (nI A.2.1)), some (.int (nI B.1)), some (.int (nI B.2.1)), some (.int (nI n)), u9, u10] [] (wd (sA ω i_m_now g) x) 0 0 := by
      refine up_loop B.1 ?_ ?_
      · intro kn g hg h0 u9 u10
        refine R_iload hC dX11_join_292 rfl (R_iload hC dX11_join_294 rfl ?_)
        refine R_icmp_ge hC 357 dX11_join_296 (by decide) (fun _ => ?_) (fun h => absurd (Int32.le_refl _) h)
        exact fin g hg _ _ _
      · intro n hn ih kn g hg h0 u9 u10
        have row : ∀ m, m ≤ B.2.1 → ∀ g : Nat → Int32, (∀ i j, i < A.1 + n - kk → j < A.2.1 + B.2.1 - kk → g (6 * i + j) = jnF A B kk i j) → (∀ i j, A.1 + n - kk < i → i < 6 → j < 6 → g (6 * i + j) = 0) → (∀ j, j < 6 → g (6 * (A.1 + n - kk) + j) = if j < A.2.1 - kk + m then jnF A B kk (A.1 + n - kk) j else 0) → Rw mX11_join X 314 [some (.ref i_M), some (.int (nI p)), some (.int (nI q)), some (.int (nI kk)), some (.int (nI A.1)), some (.int (nI A.2.1)), some (.int (nI B.1)), some (.int (nI B.2.1)), some (.int (nI n)), some (.int (nI (6 * (A.1 + n - kk)))), some (.int (nI m))] [] (wd (sA ω i_m_now g) x) 0 0 := by
          refine up_loop B.2.1 ?_ ?_
          · intro g hg h0 hr
            refine R_iload hC dX11_join_314 rfl (R_iload hC dX11_join_316 rfl ?_)
            refine R_icmp_ge hC 351 dX11_join_318 (by decide) (fun _ => ?_) (fun h => absurd (Int32.le_refl _) h)
            refine R_iinc hC dX11_join_351 rfl (inc1 _) (by decide) rfl (R_goto hC 292 dX11_join_354 (by decide) ?_)
            exact ih (by omega) g (fun i j hi hj => by rcases (by omega : i < A.1 + n - kk ∨ i = A.1 + n - kk) with z | rfl; exact hg i j z hj; rw [hr j (by omega), if_pos (by omega)]) (fun i j z1 z2 z3 => h0 i j (by omega) z2 z3) _ _
          · intro m hmm ihm g hg h0 hr
            have ev : jnF A B kk (A.1 + n - kk) (A.2.1 - kk + m) = B.2.2 n m := by
              unfold jnF
              rw [if_neg (by omega), if_pos (by omega), show A.1 + n - kk - A.1 + kk = n by omega, show A.2.1 - kk + m - (A.2.1 - kk) = m by omega]
            refine R_iload hC dX11_join_314 rfl (R_iload hC dX11_join_316 rfl ?_)
            refine R_icmp_ge hC 351 dX11_join_318 (by decide) (fun h => absurd h (nI_ge hmm (by omega))) (fun _ => ?_)
            refine R_aload_n (i := 0) hC dX11_join_321 rfl rfl (R_gR hC dX11_join_322 fl_X11_13 L_M rfl (R_iload hC dX11_join_325 rfl (R_iload hC dX11_join_327 rfl (R_iadd hC dX11_join_329 (R_iload_n (i := 3) hC dX11_join_330 rfl rfl (R_isub hC dX11_join_331 (R_iload hC dX11_join_332 rfl ?_)))))))
            refine R_iadd hC dX11_join_334 (R_aload_n (i := 0) hC dX11_join_335 rfl rfl (R_iload_n (i := 2) hC dX11_join_336 rfl rfl (R_iload hC dX11_join_337 rfl (R_iload hC dX11_join_339 rfl ?_))))
            refine R_V3i hC hR dX11_join_341 MV_X11_keptAt ml_X11_196 L_M rfl (s_keptAt _ x q n m (by omega) (by omega)) (by decide) ⟨by decide, by decide⟩ (Nat.le_of_ble_eq_true rfl) ?_
            refine R_top (y := B.2.2 n m) (by rw [e0]; exact kB n m hn hmm) ?_
            refine R_sI hC dX11_join_344 L_m_now (6 * (A.1 + n - kk) + (A.2.1 - kk + m)) (by rw [nI_add, nI_sub (by omega), nI_add]; congr 1; omega) (by omega) (by decide) ?_
            refine R_wd (by rw [sA_eq, sA_sA]) ?_
            refine R_iinc hC dX11_join_345 rfl (inc1 _) (by decide) rfl (R_goto hC 314 dX11_join_348 (by decide) ?_)
            exact ihm _ (fun i j hi hj => by rw [upd, if_neg (by omega)]; exact hg i j hi hj) (fun i j z1 z2 z3 => by rw [upd, if_neg (by omega)]; exact h0 i j z1 z2 z3) (fun j hj => by
            by_cases e : j = A.2.1 - kk + m
            · rw [upd, if_pos (by omega), if_pos (by omega), e, ev]
            · rw [upd, if_neg (by omega), hr j hj]
              by_cases e2 : j < A.2.1 - kk + m
              · rw [if_pos e2, if_pos (by omega)]
              · rw [if_neg e2, if_neg (by omega)])
        refine R_iload hC dX11_join_292 rfl (R_iload hC dX11_join_294 rfl ?_)
        refine R_icmp_ge hC 357 dX11_join_296 (by decide) (fun h => absurd h (nI_ge hn (by omega))) (fun _ => ?_)
        refine R_bipush (v := 6) hC dX11_join_299 (by decide) (R_iload hC dX11_join_301 rfl (R_iload hC dX11_join_303 rfl (R_iadd hC dX11_join_305 (R_iload_n (i := 3) hC dX11_join_306 rfl rfl (R_isub hC dX11_join_307 (R_imul hC dX11_join_308 ?_))))))
        refine R_top (y := nI (6 * (A.1 + n - kk))) (by rw [nI_add, nI_sub (by omega), show (6 : Int32) = nI 6 from rfl, pk_mul]) ?_
        refine R_istore hC dX11_join_309 (by decide) rfl (R_iconst (v := 0) hC dX11_join_311 (by decide) (R_istore hC dX11_join_312 (by decide) rfl ?_))
        exact row 0 (Nat.zero_le _) g hg (fun i j z1 z2 z3 => h0 i j (by omega) z2 z3) (fun j hj => by
        rw [h0 _ j (Nat.le_refl _) (by omega) hj]
        by_cases e : j < A.2.1 - kk + 0
        · rw [if_pos e]; unfold jnF; rw [if_neg (by omega), if_neg (by omega)]
        · rw [if_neg e])
    -- the rows of the first
    have phB : ∀ n, n ≤ A.1 → ∀ g : Nat → Int32, (∀ i j, i < n → j < A.2.1 + B.2.1 - kk → g (6 * i + j) = jnF A B kk i j) → (∀ i j, n ≤ i → i < 6 → j < 6 → g (6 * i + j) = 0) → ∀ u9 u10, Rw mX11_join X 177 [some (.ref i_M), some (.int (nI p)), some (.int (nI q)), some (.int (nI kk)), some (.int (nI A.1)), some (.int (nI A.2.1)), some (.int (nI B.1)), some (.int (nI B.2.1)), some (.int (nI n)), u9, u10] [] (wd (sA ω i_m_now g) x) 0 0 := by
      refine up_loop A.1 ?_ ?_
      · intro g hg h0 u9 u10
        refine R_iload hC dX11_join_177 rfl (R_iload hC dX11_join_179 rfl ?_)
        refine R_icmp_ge hC 289 dX11_join_181 (by decide) (fun _ => ?_) (fun h => absurd (Int32.le_refl _) h)
        refine R_iload_n (i := 3) hC dX11_join_289 rfl rfl (R_istore hC dX11_join_290 (by decide) rfl ?_)
        exact phC kk (by omega) (Nat.le_refl _) g (fun i j hi hj => hg i j (by omega) hj) (fun i j z1 z2 z3 => h0 i j (by omega) z2 z3) _ _
      · intro n hn ih g hg h0 u9 u10
        have nx : ∀ g : Nat → Int32, (∀ i j, i < n → j < A.2.1 + B.2.1 - kk → g (6 * i + j) = jnF A B kk i j) → (∀ i j, n < i → i < 6 → j < 6 → g (6 * i + j) = 0) → (∀ j, j < A.2.1 + B.2.1 - kk → g (6 * n + j) = jnF A B kk n j) → ∀ u9 u10, Rw mX11_join X 283 [some (.ref i_M), some (.int (nI p)), some (.int (nI q)), some (.int (nI kk)), some (.int (nI A.1)), some (.int (nI A.2.1)), some (.int (nI B.1)), some (.int (nI B.2.1)), some (.int (nI n)), u9, u10] [] (wd (sA ω i_m_now g) x) 0 0 := by
          intro g hg h0 hr u9 u10
          refine R_iinc hC dX11_join_283 rfl (inc1 _) (by decide) rfl (R_goto hC 177 dX11_join_286 (by decide) ?_)
          exact ih g (fun i j hi hj => by rcases (by omega : i < n ∨ i = n) with z | rfl; exact hg i j z hj; exact hr j hj) (fun i j z1 z2 z3 => h0 i j (by omega) z2 z3) _ _
        have row2 : kk = 1 → ∀ m, m ≤ B.2.1 → ∀ g : Nat → Int32, (∀ i j, i < n → j < A.2.1 + B.2.1 - kk → g (6 * i + j) = jnF A B kk i j) → (∀ i j, n < i → i < 6 → j < 6 → g (6 * i + j) = 0) → (∀ j, j < A.2.1 - kk + m → g (6 * n + j) = jnF A B kk n j) → ∀ u10, Rw mX11_join X 227 [some (.ref i_M), some (.int (nI p)), some (.int (nI q)), some (.int (nI kk)), some (.int (nI A.1)), some (.int (nI A.2.1)), some (.int (nI B.1)), some (.int (nI B.2.1)), some (.int (nI n)), some (.int (nI m)), u10] [] (wd (sA ω i_m_now g) x) 0 0 := by
          intro k1
          have kc : nI kk = 1 := by rw [k1]; rfl
          refine up_loop B.2.1 ?_ ?_
          · intro g hg h0 hr u10
            refine R_iload hC dX11_join_227 rfl (R_iload hC dX11_join_229 rfl ?_)
            refine R_icmp_ge hC 283 dX11_join_231 (by decide) (fun _ => ?_) (fun h => absurd (Int32.le_refl _) h)
            exact nx g hg h0 (fun j hj => hr j (by omega)) _ _
          · intro m hmm ihm g hg h0 hr u10
            have ev : jnF A B kk n (A.2.1 - kk + m) = A.2.2 n (A.2.1 - 1) * B.2.2 0 m := by
              unfold jnF
              rw [if_pos hn, if_neg (by omega), if_pos k1, show A.2.1 - kk + m - (A.2.1 - 1) = m by omega]
            refine R_iload hC dX11_join_227 rfl (R_iload hC dX11_join_229 rfl ?_)
            refine R_icmp_ge hC 283 dX11_join_231 (by decide) (fun h => absurd h (nI_ge hmm (by omega))) (fun _ => ?_)
            refine R_iload_n (i := 3) hC dX11_join_234 rfl rfl (R_iconst (v := 1) hC dX11_join_235 (by decide) ?_)
            refine R_icmp_ne hC 283 dX11_join_236 (by decide) (fun h => absurd kc h) (fun _ => ?_)
            refine R_aload_n (i := 0) hC dX11_join_239 rfl rfl (R_gR hC dX11_join_240 fl_X11_13 L_M rfl (R_bipush (v := 6) hC dX11_join_243 (by decide) (R_iload hC dX11_join_245 rfl (R_imul hC dX11_join_247 (R_iload hC dX11_join_248 rfl (R_iadd hC dX11_join_250 (R_iconst (v := 1) hC dX11_join_251 (by decide) ?_)))))))
            refine R_isub hC dX11_join_252 (R_iload hC dX11_join_253 rfl (R_iadd hC dX11_join_255 (R_aload_n (i := 0) hC dX11_join_256 rfl rfl (R_iload_n (i := 1) hC dX11_join_257 rfl rfl (R_iload hC dX11_join_258 rfl (R_iload hC dX11_join_260 rfl (R_iconst (v := 1) hC dX11_join_262 (by decide) ?_)))))))
            refine R_isub hC dX11_join_263 ?_
            refine R_top (y := nI (A.2.1 - 1)) (nI_dec (by omega)) ?_
            refine R_V3i hC hR dX11_join_264 MV_X11_keptAt ml_X11_196 L_M rfl (s_keptAt _ x p n (A.2.1 - 1) (by omega) (by omega)) (by decide) ⟨by decide, by decide⟩ (Nat.le_of_ble_eq_true rfl) ?_
            refine R_top (y := A.2.2 n (A.2.1 - 1)) (by rw [e0]; exact kA n _ hn (by omega)) ?_
            refine R_aload_n (i := 0) hC dX11_join_267 rfl rfl (R_iload_n (i := 2) hC dX11_join_268 rfl rfl (R_iconst (v := 0) hC dX11_join_269 (by decide) (R_iload hC dX11_join_270 rfl ?_)))
            refine R_V3i hC hR dX11_join_272 MV_X11_keptAt ml_X11_196 L_M rfl (s_keptAt _ x q 0 m (by omega) (by omega)) (by decide) ⟨by decide, by decide⟩ (Nat.le_of_ble_eq_true rfl) ?_
            refine R_top (y := B.2.2 0 m) (by rw [e0]; exact kB 0 m (by omega) hmm) ?_
            refine R_imul hC dX11_join_275 (R_sI hC dX11_join_276 L_m_now (6 * n + (A.2.1 - kk + m)) (by rw [n6, nI_dec (by omega), nI_add]; congr 1; omega) (by omega) (by decide) ?_)
            refine R_wd (by rw [sA_eq, sA_sA]) ?_
            refine R_iinc hC dX11_join_277 rfl (inc1 _) (by decide) rfl (R_goto hC 227 dX11_join_280 (by decide) ?_)
            exact ihm _ (fun i j hi hj => by rw [upd, if_neg (by omega)]; exact hg i j hi hj) (fun i j z1 z2 z3 => by rw [upd, if_neg (by omega)]; exact h0 i j z1 z2 z3) (fun j hj => by
            by_cases e : j = A.2.1 - kk + m
            · rw [upd, if_pos (by omega), e, ev]
            · rw [upd, if_neg (by omega)]; exact hr j (by omega)) _
        have row1 : ∀ m, m ≤ A.2.1 - kk → ∀ g : Nat → Int32, (∀ i j, i < n → j < A.2.1 + B.2.1 - kk → g (6 * i + j) = jnF A B kk i j) → (∀ i j, n < i → i < 6 → j < 6 → g (6 * i + j) = 0) → (∀ j, j < 6 → g (6 * n + j) = if j < m then jnF A B kk n j else 0) → ∀ u10, Rw mX11_join X 187 [some (.ref i_M), some (.int (nI p)), some (.int (nI q)), some (.int (nI kk)), some (.int (nI A.1)), some (.int (nI A.2.1)), some (.int (nI B.1)), some (.int (nI B.2.1)), some (.int (nI n)), some (.int (nI m)), u10] [] (wd (sA ω i_m_now g) x) 0 0 := by
          refine up_loop (A.2.1 - kk) ?_ ?_
          · intro g hg h0 hr u10
            by_cases k1 : kk = 1
            · refine R_iload hC dX11_join_187 rfl (R_iload hC dX11_join_189 rfl (R_iload_n (i := 3) hC dX11_join_191 rfl rfl (R_isub hC dX11_join_192 ?_)))
              refine R_top (y := nI (A.2.1 - kk)) (by rw [nI_sub (by omega)]) ?_
              refine R_icmp_ge hC 224 dX11_join_193 (by decide) (fun _ => ?_) (fun h => absurd (Int32.le_refl _) h)
              refine R_iconst (v := 0) hC dX11_join_224 (by decide) (R_istore hC dX11_join_225 (by decide) rfl ?_)
              exact row2 k1 0 (Nat.zero_le _) g hg h0 (fun j hj => by rw [hr j (by omega), if_pos (by omega)]) _
            · have kc : ¬ nI kk = 1 := by rw [show kk = 0 by omega]; decide
              refine R_iload hC dX11_join_187 rfl (R_iload hC dX11_join_189 rfl (R_iload_n (i := 3) hC dX11_join_191 rfl rfl (R_isub hC dX11_join_192 ?_)))
              refine R_top (y := nI (A.2.1 - kk)) (by rw [nI_sub (by omega)]) ?_
              refine R_icmp_ge hC 224 dX11_join_193 (by decide) (fun _ => ?_) (fun h => absurd (Int32.le_refl _) h)
              refine R_iconst (v := 0) hC dX11_join_224 (by decide) (R_istore hC dX11_join_225 (by decide) rfl (R_iload hC dX11_join_227 rfl (R_iload hC dX11_join_229 rfl ?_)))
              refine R_icmp_ge hC 283 dX11_join_231 (by decide) (fun h231 => ?_) (fun h231 => ?_)
              · exact nx g hg h0 (fun j hj => by
                rw [hr j (by omega)]
                by_cases e : j < A.2.1 - kk
                · rw [if_pos e]
                · rw [if_neg e]; unfold jnF; rw [if_pos hn, if_neg e, if_neg k1]) _ _
              · refine R_iload_n (i := 3) hC dX11_join_234 rfl rfl (R_iconst (v := 1) hC dX11_join_235 (by decide) ?_)
                refine R_icmp_ne hC 283 dX11_join_236 (by decide) (fun _ => ?_) (fun h => absurd h kc)
                exact nx g hg h0 (fun j hj => by
                rw [hr j (by omega)]
                by_cases e : j < A.2.1 - kk
                · rw [if_pos e]
                · rw [if_neg e]; unfold jnF; rw [if_pos hn, if_neg e, if_neg k1]) _ _
          · intro m hmm ihm g hg h0 hr u10
            have ev : jnF A B kk n m = A.2.2 n m := by unfold jnF; rw [if_pos hn, if_pos hmm]
            refine R_iload hC dX11_join_187 rfl (R_iload hC dX11_join_189 rfl (R_iload_n (i := 3) hC dX11_join_191 rfl rfl (R_isub hC dX11_join_192 ?_)))
            refine R_top (y := nI (A.2.1 - kk)) (by rw [nI_sub (by omega)]) ?_
            refine R_icmp_ge hC 224 dX11_join_193 (by decide) (fun h => absurd h (nI_ge hmm (by omega))) (fun _ => ?_)
            refine R_aload_n (i := 0) hC dX11_join_196 rfl rfl (R_gR hC dX11_join_197 fl_X11_13 L_M rfl (R_bipush (v := 6) hC dX11_join_200 (by decide) (R_iload hC dX11_join_202 rfl (R_imul hC dX11_join_204 (R_iload hC dX11_join_205 rfl (R_iadd hC dX11_join_207 (R_aload_n (i := 0) hC dX11_join_208 rfl rfl ?_)))))))
            refine R_iload_n (i := 1) hC dX11_join_209 rfl rfl (R_iload hC dX11_join_210 rfl (R_iload hC dX11_join_212 rfl ?_))
            refine R_V3i hC hR dX11_join_214 MV_X11_keptAt ml_X11_196 L_M rfl (s_keptAt _ x p n m (by omega) (by omega)) (by decide) ⟨by decide, by decide⟩ (Nat.le_of_ble_eq_true rfl) ?_
            refine R_top (y := A.2.2 n m) (by rw [e0]; exact kA n m hn (by omega)) ?_
            refine R_sI hC dX11_join_217 L_m_now (6 * n + m) (n6 n m) (by omega) (by decide) ?_
            refine R_wd (by rw [sA_eq, sA_sA]) ?_
            refine R_iinc hC dX11_join_218 rfl (inc1 _) (by decide) rfl (R_goto hC 187 dX11_join_221 (by decide) ?_)
            exact ihm _ (fun i j hi hj => by rw [upd, if_neg (by omega)]; exact hg i j hi hj) (fun i j z1 z2 z3 => by rw [upd, if_neg (by omega)]; exact h0 i j z1 z2 z3) (fun j hj => by
            by_cases e : j = m
            · rw [upd, if_pos (by omega), if_pos (by omega), e, ev]
            · rw [upd, if_neg (by omega), hr j hj]
              by_cases e2 : j < m
              · rw [if_pos e2, if_pos (by omega)]
              · rw [if_neg e2, if_neg (by omega)]) _
        refine R_iload hC dX11_join_177 rfl (R_iload hC dX11_join_179 rfl ?_)
        refine R_icmp_ge hC 289 dX11_join_181 (by decide) (fun h => absurd h (nI_ge hn (by omega))) (fun _ => ?_)
        refine R_iconst (v := 0) hC dX11_join_184 (by decide) (R_istore hC dX11_join_185 (by decide) rfl ?_)
        exact row1 0 (Nat.zero_le _) g hg (fun i j z1 z2 z3 => h0 i j (by omega) z2 z3) (fun j hj => by rw [h0 n j (Nat.le_refl _) (by omega) hj, if_neg (by omega)]) _
    have phA : ∀ n, n ≤ 36 → ∀ g : Nat → Int32, (∀ i, i < n → g i = 0) → ∀ u9 u10, Rw mX11_join X 153 [some (.ref i_M), some (.int (nI p)), some (.int (nI q)), some (.int (nI kk)), some (.int (nI A.1)), some (.int (nI A.2.1)), some (.int (nI B.1)), some (.int (nI B.2.1)), some (.int (nI n)), u9, u10] [] (wd (sA ω i_m_now g) x) 0 0 := by
      refine up_loop 36 ?_ ?_
      · intro g h0 u9 u10
        refine R_iload hC dX11_join_153 rfl (R_bipush (v := 36) hC dX11_join_155 (by decide) ?_)
        refine R_icmp_ge hC 174 dX11_join_157 (by decide) (fun _ => ?_) (fun h => absurd (by decide) h)
        refine R_iconst (v := 0) hC dX11_join_174 (by decide) (R_istore hC dX11_join_175 (by decide) rfl ?_)
        exact phB 0 (Nat.zero_le _) g (fun i j z => absurd z (Nat.not_lt_zero _)) (fun i j _ z2 z3 => h0 _ (by omega)) _ _
      · intro n hn ih g h0 u9 u10
        refine R_iload hC dX11_join_153 rfl (R_bipush (v := 36) hC dX11_join_155 (by decide) ?_)
        refine R_icmp_ge hC 174 dX11_join_157 (by decide) (fun h => absurd h (nI_ge (b := 36) hn (by decide))) (fun _ => ?_)
        refine R_aload_n (i := 0) hC dX11_join_160 rfl rfl (R_gR hC dX11_join_161 fl_X11_13 L_M rfl (R_iload hC dX11_join_164 rfl (R_iconst (v := 0) hC dX11_join_166 (by decide) (R_sI hC dX11_join_167 L_m_now _ rfl (by omega) (by decide) ?_))))
        refine R_wd (by rw [sA_eq, sA_sA]) ?_
        refine R_iinc hC dX11_join_168 rfl (inc1 _) (by decide) rfl (R_goto hC 153 dX11_join_171 (by decide) ?_)
        exact ih _ (fun i hi => by by_cases e : i = n; rw [upd, if_pos e]; rw [upd, if_neg e]; exact h0 i (by omega)) _ _
    refine R_wd (sA_self ω i_m_now).symm ?_
    exact phA 0 (Nat.zero_le _) _ (fun i z => absurd z (Nat.not_lt_zero _)) _ _
  refine R_aload_n (i := 0) hC dX11_join_0 rfl rfl (R_iconst (v := 0) hC dX11_join_1 (by decide) (R_pI hC dX11_join_2 fl_X11_83 L_M rfl (R_aload_n (i := 0) hC dX11_join_5 rfl rfl (R_iload_n (i := 1) hC dX11_join_6 rfl rfl ?_))))
  refine R_V1i hC hR dX11_join_7 MV_X11_isKept ml_X11_192 L_M rfl (s_isKept _ _ _) (by decide) ⟨by decide, by decide⟩ (Nat.le_of_ble_eq_true rfl) ?_
  rw [eK]
  refine R_if_eq hC 21 dX11_join_10 (by decide) (fun h10 => ?_) (fun h10 => ?_)
  · refine R_aload_n (i := 0) hC dX11_join_21 rfl rfl (R_iconst (v := 0) hC dX11_join_22 (by decide) ?_)
    refine R_V1i hC hR dX11_join_23 MV_X11_refused ml_X11_164 L_M rfl (s_refused (sG σ i_M 0 0) x 0 (by decide)) (by decide) ⟨by decide, by decide⟩ (Nat.le_of_ble_eq_true rfl) ?_
    exact R_iret hC hT dX11_join_26 rfl (refu 0 (by decide) (by
    unfold opJoin
    first
    | (rw [if_pos (fun z => b2i_0 h10 z.1)]; done)
    | (rw [if_pos (fun z => b2i_0 h18 z.2)]; done)))
  · refine R_aload_n (i := 0) hC dX11_join_13 rfl rfl (R_iload_n (i := 2) hC dX11_join_14 rfl rfl ?_)
    refine R_V1i hC hR dX11_join_15 MV_X11_isKept ml_X11_192 L_M rfl (s_isKept _ _ _) (by decide) ⟨by decide, by decide⟩ (Nat.le_of_ble_eq_true rfl) ?_
    rw [eK]
    refine R_if_ne hC 27 dX11_join_18 (by decide) (fun h18 => ?_) (fun h18 => ?_)
    · have i1 : inR (tK α).1 a := b2i_ne h10
      have i2 : inR (tK α).1 b := b2i_ne h18
      refine R_iload_n (i := 3) hC dX11_join_27 rfl rfl (R_i2l hC dX11_join_28 (R_lconst (v := 0) hC dX11_join_29 (by decide) (R_lconst (v := 1) hC dX11_join_30 (by decide) ?_)))
      refine R_S3i hC hR dX11_join_31 MS_X11_isIn ml_X11_140 (s_isInZ k 0 1 0 1 (by decide) (by decide) _) (by decide) ⟨by decide, by decide⟩ (Nat.le_of_ble_eq_true rfl) ?_
      refine R_if_ne hC 43 dX11_join_34 (by decide) (fun h34 => ?_) (fun h34 => ?_)
      · obtain ⟨p, ea, hp, hp2⟩ := inR_i i1
        obtain ⟨q, eb, hq, hq2⟩ := inR_i i2
        have i3 := ite1 h34
        obtain ⟨kk, ek, hkk, hk2⟩ := i32_nI i3.1
        have kk1 : kk ≤ 1 := by omega
        have hA := h.2.2.1.2 p hp
        have hB := h.2.2.1.2 q hq
        obtain ⟨⟨oA1, oA2, oA3, oA4⟩, oA5⟩ := ok.2.2.2.1.2 p hp
        obtain ⟨⟨oB1, oB2, oB3, oB4⟩, oB5⟩ := ok.2.2.2.1.2 q hq
        have eo3 : ¬ canJ ((tK α).2 p) ((tK α).2 q) kk → opJoin α a b k = (-1, withZ α 3) := fun z => by unfold opJoin; rw [if_neg (fun z => z ⟨i1, i2⟩), if_neg (fun z => z i3), ea, eb, ek, nI_clamp hp2, nI_clamp hq2, nI_clamp hk2, if_pos z]
        have eo4 : canJ ((tK α).2 p) ((tK α).2 q) kk → opJoin α a b k = (nI (jnT ((tK α).2 p) ((tK α).2 q) kk).1, pushT α (jnT ((tK α).2 p) ((tK α).2 q) kk)) := fun z => by unfold opJoin; rw [if_neg (fun z => z ⟨i1, i2⟩), if_neg (fun z => z i3), ea, eb, ek, nI_clamp hp2, nI_clamp hq2, nI_clamp hk2, if_neg (fun y => y z)]
        have ck : (k = 1) ↔ kk = 1 := by rw [ek]; exact nI_eq (b := 1) (by omega) (by decide)
        have cm1 : (nI ((tK α).2 p).2.1 < 2) ↔ ((tK α).2 p).2.1 < 2 := nI_ltI (b := 2) (by omega) (by decide)
        have cm2 : (nI ((tK α).2 q).1 < 2) ↔ ((tK α).2 q).1 < 2 := nI_ltI (b := 2) (by omega) (by decide)
        refine R_aload_n (i := 0) hC dX11_join_43 rfl rfl (R_gR hC dX11_join_44 fl_X11_23 L_M rfl (R_bipush (v := 38) hC dX11_join_47 (by decide) (R_iload_n (i := 1) hC dX11_join_49 rfl rfl (R_imul hC dX11_join_50 (R_bipush (v := 36) hC dX11_join_51 (by decide) (R_iadd hC dX11_join_53 (R_aI hC dX11_join_54 L_m_kept (38 * p + 36) (by rw [ea]; exact n38 p 36) (by omega) (by decide) ?_)))))))
        refine R_top (y := nI ((tK α).2 p).1) (hA.1) ?_
        refine R_istore hC dX11_join_55 (by decide) rfl (R_aload_n (i := 0) hC dX11_join_57 rfl rfl (R_gR hC dX11_join_58 fl_X11_23 L_M rfl (R_bipush (v := 38) hC dX11_join_61 (by decide) (R_iload_n (i := 1) hC dX11_join_63 rfl rfl (R_imul hC dX11_join_64 (R_bipush (v := 37) hC dX11_join_65 (by decide) (R_iadd hC dX11_join_67 ?_)))))))
        refine R_aI hC dX11_join_68 L_m_kept (38 * p + 37) (by rw [ea]; exact n38 p 37) (by omega) (by decide) ?_
        refine R_top (y := nI ((tK α).2 p).2.1) (hA.2.1) ?_
        refine R_istore hC dX11_join_69 (by decide) rfl (R_aload_n (i := 0) hC dX11_join_71 rfl rfl (R_gR hC dX11_join_72 fl_X11_23 L_M rfl (R_bipush (v := 38) hC dX11_join_75 (by decide) (R_iload_n (i := 2) hC dX11_join_77 rfl rfl (R_imul hC dX11_join_78 (R_bipush (v := 36) hC dX11_join_79 (by decide) (R_iadd hC dX11_join_81 ?_)))))))
        refine R_aI hC dX11_join_82 L_m_kept (38 * q + 36) (by rw [eb]; exact n38 q 36) (by omega) (by decide) ?_
        refine R_top (y := nI ((tK α).2 q).1) (hB.1) ?_
        refine R_istore hC dX11_join_83 (by decide) rfl (R_aload_n (i := 0) hC dX11_join_85 rfl rfl (R_gR hC dX11_join_86 fl_X11_23 L_M rfl (R_bipush (v := 38) hC dX11_join_89 (by decide) (R_iload_n (i := 2) hC dX11_join_91 rfl rfl (R_imul hC dX11_join_92 (R_bipush (v := 37) hC dX11_join_93 (by decide) (R_iadd hC dX11_join_95 ?_)))))))
        refine R_aI hC dX11_join_96 L_m_kept (38 * q + 37) (by rw [eb]; exact n38 q 37) (by omega) (by decide) ?_
        refine R_top (y := nI ((tK α).2 q).2.1) (hB.2.1) ?_
        refine R_istore hC dX11_join_97 (by decide) rfl (R_iload_n (i := 3) hC dX11_join_99 rfl rfl (R_iconst (v := 1) hC dX11_join_100 (by decide) ?_))
        refine R_icmp_ne hC 116 dX11_join_101 (by decide) (fun h101 => ?_) (fun h101 => ?_)
        · refine R_iload hC dX11_join_116 rfl (R_iload hC dX11_join_118 rfl (R_iadd hC dX11_join_120 (R_iload_n (i := 3) hC dX11_join_121 rfl rfl (R_isub hC dX11_join_122 ?_))))
          refine R_top (y := nI (((tK α).2 p).1 + ((tK α).2 q).1 - kk)) (by rw [ek, nI_add, nI_sub (by omega)]) ?_
          refine R_bipush (v := 6) hC dX11_join_123 (by decide) ?_
          have cm3 : ((6 : Int32) < nI (((tK α).2 p).1 + ((tK α).2 q).1 - kk)) ↔ 6 < ((tK α).2 p).1 + ((tK α).2 q).1 - kk := nI_ltI (a := 6) (by decide) (by omega)
          refine R_icmp_gt hC 140 dX11_join_125 (by decide) (fun h125 => ?_) (fun h125 => ?_)
          · refine R_aload_n (i := 0) hC dX11_join_140 rfl rfl (R_iconst (v := 3) hC dX11_join_141 (by decide) ?_)
            refine R_V1i hC hR dX11_join_142 MV_X11_refused ml_X11_164 L_M rfl (s_refused (sG σ i_M 0 0) x 3 (by decide)) (by decide) ⟨by decide, by decide⟩ (Nat.le_of_ble_eq_true rfl) ?_
            exact R_iret hC hT dX11_join_145 rfl (refu 3 (by decide) (eo3 (fun z => by
            obtain ⟨z1, z2, z3⟩ := z
            first
            | (have h138 := fun y => h137 (cm4.mpr y); exact h138 z3)
            | (have h126 := cm3.mp h125; omega)
            | (have h114 := cm2.mp h113; exact z1 ⟨ck.mp h101, Or.inr h114⟩)
            | (have h108 := cm1.mp h107; exact z1 ⟨ck.mp h101, Or.inl h108⟩))))
          · refine R_iload hC dX11_join_128 rfl (R_iload hC dX11_join_130 rfl (R_iadd hC dX11_join_132 (R_iload_n (i := 3) hC dX11_join_133 rfl rfl (R_isub hC dX11_join_134 ?_))))
            refine R_top (y := nI (((tK α).2 p).2.1 + ((tK α).2 q).2.1 - kk)) (by rw [ek, nI_add, nI_sub (by omega)]) ?_
            refine R_bipush (v := 6) hC dX11_join_135 (by decide) ?_
            have cm4 : (nI (((tK α).2 p).2.1 + ((tK α).2 q).2.1 - kk) ≤ (6 : Int32)) ↔ ((tK α).2 p).2.1 + ((tK α).2 q).2.1 - kk ≤ 6 := nI_leI (b := 6) (by omega) (by decide)
            refine R_icmp_le hC 146 dX11_join_137 (by decide) (fun h137 => ?_) (fun h137 => ?_)
            · (have hcj : canJ ((tK α).2 p) ((tK α).2 q) kk := ⟨by first | exact (fun z => z.2.elim (fun y => h107 (cm1.mpr y)) (fun y => h113 (cm2.mpr y))) | exact (fun z => h101 (ck.mpr z.1)), by have := mt cm3.mpr h125; omega, cm4.mp h137⟩; exact body p q kk ea eb ek hp hq kk1 hcj (eo4 hcj) _ _ _)
            · refine R_aload_n (i := 0) hC dX11_join_140 rfl rfl (R_iconst (v := 3) hC dX11_join_141 (by decide) ?_)
              refine R_V1i hC hR dX11_join_142 MV_X11_refused ml_X11_164 L_M rfl (s_refused (sG σ i_M 0 0) x 3 (by decide)) (by decide) ⟨by decide, by decide⟩ (Nat.le_of_ble_eq_true rfl) ?_
              exact R_iret hC hT dX11_join_145 rfl (refu 3 (by decide) (eo3 (fun z => by
              obtain ⟨z1, z2, z3⟩ := z
              first
              | (have h138 := fun y => h137 (cm4.mpr y); exact h138 z3)
              | (have h126 := cm3.mp h125; omega)
              | (have h114 := cm2.mp h113; exact z1 ⟨ck.mp h101, Or.inr h114⟩)
              | (have h108 := cm1.mp h107; exact z1 ⟨ck.mp h101, Or.inl h108⟩))))
        · refine R_iload hC dX11_join_104 rfl (R_iconst (v := 2) hC dX11_join_106 (by decide) ?_)
          refine R_icmp_lt hC 140 dX11_join_107 (by decide) (fun h107 => ?_) (fun h107 => ?_)
          · refine R_aload_n (i := 0) hC dX11_join_140 rfl rfl (R_iconst (v := 3) hC dX11_join_141 (by decide) ?_)
            refine R_V1i hC hR dX11_join_142 MV_X11_refused ml_X11_164 L_M rfl (s_refused (sG σ i_M 0 0) x 3 (by decide)) (by decide) ⟨by decide, by decide⟩ (Nat.le_of_ble_eq_true rfl) ?_
            exact R_iret hC hT dX11_join_145 rfl (refu 3 (by decide) (eo3 (fun z => by
            obtain ⟨z1, z2, z3⟩ := z
            first
            | (have h138 := fun y => h137 (cm4.mpr y); exact h138 z3)
            | (have h126 := cm3.mp h125; omega)
            | (have h114 := cm2.mp h113; exact z1 ⟨ck.mp h101, Or.inr h114⟩)
            | (have h108 := cm1.mp h107; exact z1 ⟨ck.mp h101, Or.inl h108⟩))))
          · refine R_iload hC dX11_join_110 rfl (R_iconst (v := 2) hC dX11_join_112 (by decide) ?_)
            refine R_icmp_lt hC 140 dX11_join_113 (by decide) (fun h113 => ?_) (fun h113 => ?_)
            · refine R_aload_n (i := 0) hC dX11_join_140 rfl rfl (R_iconst (v := 3) hC dX11_join_141 (by decide) ?_)
              refine R_V1i hC hR dX11_join_142 MV_X11_refused ml_X11_164 L_M rfl (s_refused (sG σ i_M 0 0) x 3 (by decide)) (by decide) ⟨by decide, by decide⟩ (Nat.le_of_ble_eq_true rfl) ?_
              exact R_iret hC hT dX11_join_145 rfl (refu 3 (by decide) (eo3 (fun z => by
              obtain ⟨z1, z2, z3⟩ := z
              first
              | (have h138 := fun y => h137 (cm4.mpr y); exact h138 z3)
              | (have h126 := cm3.mp h125; omega)
              | (have h114 := cm2.mp h113; exact z1 ⟨ck.mp h101, Or.inr h114⟩)
              | (have h108 := cm1.mp h107; exact z1 ⟨ck.mp h101, Or.inl h108⟩))))
            · refine R_iload hC dX11_join_116 rfl (R_iload hC dX11_join_118 rfl (R_iadd hC dX11_join_120 (R_iload_n (i := 3) hC dX11_join_121 rfl rfl (R_isub hC dX11_join_122 ?_))))
              refine R_top (y := nI (((tK α).2 p).1 + ((tK α).2 q).1 - kk)) (by rw [ek, nI_add, nI_sub (by omega)]) ?_
              refine R_bipush (v := 6) hC dX11_join_123 (by decide) ?_
              have cm3 : ((6 : Int32) < nI (((tK α).2 p).1 + ((tK α).2 q).1 - kk)) ↔ 6 < ((tK α).2 p).1 + ((tK α).2 q).1 - kk := nI_ltI (a := 6) (by decide) (by omega)
              refine R_icmp_gt hC 140 dX11_join_125 (by decide) (fun h125 => ?_) (fun h125 => ?_)
              · refine R_aload_n (i := 0) hC dX11_join_140 rfl rfl (R_iconst (v := 3) hC dX11_join_141 (by decide) ?_)
                refine R_V1i hC hR dX11_join_142 MV_X11_refused ml_X11_164 L_M rfl (s_refused (sG σ i_M 0 0) x 3 (by decide)) (by decide) ⟨by decide, by decide⟩ (Nat.le_of_ble_eq_true rfl) ?_
                exact R_iret hC hT dX11_join_145 rfl (refu 3 (by decide) (eo3 (fun z => by
                obtain ⟨z1, z2, z3⟩ := z
                first
                | (have h138 := fun y => h137 (cm4.mpr y); exact h138 z3)
                | (have h126 := cm3.mp h125; omega)
                | (have h114 := cm2.mp h113; exact z1 ⟨ck.mp h101, Or.inr h114⟩)
                | (have h108 := cm1.mp h107; exact z1 ⟨ck.mp h101, Or.inl h108⟩))))
              · refine R_iload hC dX11_join_128 rfl (R_iload hC dX11_join_130 rfl (R_iadd hC dX11_join_132 (R_iload_n (i := 3) hC dX11_join_133 rfl rfl (R_isub hC dX11_join_134 ?_))))
                refine R_top (y := nI (((tK α).2 p).2.1 + ((tK α).2 q).2.1 - kk)) (by rw [ek, nI_add, nI_sub (by omega)]) ?_
                refine R_bipush (v := 6) hC dX11_join_135 (by decide) ?_
                have cm4 : (nI (((tK α).2 p).2.1 + ((tK α).2 q).2.1 - kk) ≤ (6 : Int32)) ↔ ((tK α).2 p).2.1 + ((tK α).2 q).2.1 - kk ≤ 6 := nI_leI (b := 6) (by omega) (by decide)
                refine R_icmp_le hC 146 dX11_join_137 (by decide) (fun h137 => ?_) (fun h137 => ?_)
                · (have hcj : canJ ((tK α).2 p) ((tK α).2 q) kk := ⟨by first | exact (fun z => z.2.elim (fun y => h107 (cm1.mpr y)) (fun y => h113 (cm2.mpr y))) | exact (fun z => h101 (ck.mpr z.1)), by have := mt cm3.mpr h125; omega, cm4.mp h137⟩; exact body p q kk ea eb ek hp hq kk1 hcj (eo4 hcj) _ _ _)
                · refine R_aload_n (i := 0) hC dX11_join_140 rfl rfl (R_iconst (v := 3) hC dX11_join_141 (by decide) ?_)
                  refine R_V1i hC hR dX11_join_142 MV_X11_refused ml_X11_164 L_M rfl (s_refused (sG σ i_M 0 0) x 3 (by decide)) (by decide) ⟨by decide, by decide⟩ (Nat.le_of_ble_eq_true rfl) ?_
                  exact R_iret hC hT dX11_join_145 rfl (refu 3 (by decide) (eo3 (fun z => by
                  obtain ⟨z1, z2, z3⟩ := z
                  first
                  | (have h138 := fun y => h137 (cm4.mpr y); exact h138 z3)
                  | (have h126 := cm3.mp h125; omega)
                  | (have h114 := cm2.mp h113; exact z1 ⟨ck.mp h101, Or.inr h114⟩)
                  | (have h108 := cm1.mp h107; exact z1 ⟨ck.mp h101, Or.inl h108⟩))))
      · refine R_aload_n (i := 0) hC dX11_join_37 rfl rfl (R_iconst (v := 1) hC dX11_join_38 (by decide) ?_)
        refine R_V1i hC hR dX11_join_39 MV_X11_refused ml_X11_164 L_M rfl (s_refused (sG σ i_M 0 0) x 1 (by decide)) (by decide) ⟨by decide, by decide⟩ (Nat.le_of_ble_eq_true rfl) ?_
        exact R_iret hC hT dX11_join_42 rfl (refu 1 (by decide) (by unfold opJoin; rw [if_neg (fun z => z ⟨i1, i2⟩), if_pos (ite0 h34)]))
    · refine R_aload_n (i := 0) hC dX11_join_21 rfl rfl (R_iconst (v := 0) hC dX11_join_22 (by decide) ?_)
      refine R_V1i hC hR dX11_join_23 MV_X11_refused ml_X11_164 L_M rfl (s_refused (sG σ i_M 0 0) x 0 (by decide)) (by decide) ⟨by decide, by decide⟩ (Nat.le_of_ble_eq_true rfl) ?_
      exact R_iret hC hT dX11_join_26 rfl (refu 0 (by decide) (by
      unfold opJoin
      first
      | (rw [if_pos (fun z => b2i_0 h10 z.1)]; done)
      | (rw [if_pos (fun z => b2i_0 h18 z.2)]; done)))
