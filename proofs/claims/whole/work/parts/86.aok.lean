/-! ===== what is well formed stays so ===== -/
theorem aOK_Z {α : aS} (ok : aOK α) (j : Nat) : aOK (withZ α j) := ok
theorem push1_ok {t : tap} (h : ∀ i, i < t.1 → 1 ≤ t.2 i ∧ t.2 i ≤ 255) {b : Nat} (hb : b < 256) : ∀ i, i < (push1 t b).1 → 1 ≤ (push1 t b).2 i ∧ (push1 t b).2 i ≤ 255 := by
  unfold push1
  by_cases z : b = 0
  · rw [if_pos z]; exact h
  · rw [if_neg z]
    intro i hi
    have hi : i < t.1 + 1 := hi
    show 1 ≤ (if i = t.1 then b else t.2 i) ∧ (if i = t.1 then b else t.2 i) ≤ 255
    split
    · omega
    · exact h i (by omega)
theorem pd_ok {t : tap} (h : ∀ i, i < t.1 → 1 ≤ t.2 i ∧ t.2 i ≤ 255) (v : Int32) : ∀ j, ∀ i, i < (pd t v j).1 → 1 ≤ (pd t v j).2 i ∧ (pd t v j).2 i ≤ 255
  | 0 => h
  | j + 1 => by rw [pd]; exact push1_ok (pd_ok h v j) (bN_e v (3 - j)).2
theorem ok_feed {α : aS} (ok : aOK α) (a b c d e : Int32) : aOK (opFeed α a b c d e).2 := by
  unfold opFeed
  split
  · exact ok
  · rename_i hn
    obtain ⟨o1, o2, o3⟩ := ok
    refine ⟨?_, pd_ok (pd_ok (pd_ok (pd_ok (pd_ok o2 a 4) b 4) c 4) d 4) e 4, o3⟩
    show (pd (pd (pd (pd (pd (tp α) a 4) b 4) c 4) d 4) e 4).1 ≤ 240
    rw [pd_1, pd_1, pd_1, pd_1, pd_1]; omega
theorem ok_end {α : aS} (ok : aOK α) (n : Int32) : aOK (opEnd α n).2 := by
  unfold opEnd
  split
  · rename_i hn
    obtain ⟨o1, o2, o3⟩ := ok
    obtain ⟨k, rfl, h1, h2⟩ := i32_nI hn.1
    have kl : k ≤ (tp α).1 := by omega
    refine ⟨?_, fun i hi => ?_, o3⟩
    · show (nI k).toNatClampNeg ≤ 240
      rw [nI_clamp h2]; omega
    · have hi : i < (nI k).toNatClampNeg := hi
      rw [nI_clamp h2] at hi
      exact o2 i (by omega)
  · exact ok
theorem ok_change {α : aS} (ok : aOK α) (r c v : Int32) : aOK (opChange α r c v).2 := by
  unfold opChange
  split
  · exact aOK_Z ok 0
  · split
    · exact aOK_Z ok 1
    · rename_i h
      have h := Classical.not_not.mp h
      split
      · exact aOK_Z ok 2
      · exact aOK_push ok (tbOK_tset ok.2.2.1 _ _ h.2.2)
theorem ok_deal {α : aS} (ok : aOK α) (kd a b : Int32) : aOK (opDeal α kd a b).2 := by
  unfold opDeal
  generalize (if 0 ≤ kd.toInt ∧ kd.toInt ≤ 7 then kd.toNatClampNeg else 8) = k
  simp only
  split
  · rename_i h
    exact aOK_push ok (tbOK_doA ok.2.2.1 h)
  · exact aOK_Z ok _
theorem ok_keep {α : aS} (ok : aOK α) : aOK (opKeep α).2 := by
  unfold opKeep
  split
  · exact ok
  · rename_i h
    obtain ⟨o1, o2, o3, o4, o5, o6, o7⟩ := ok
    refine ⟨o1, o2, o3, ⟨by show (tK α).1 + 1 ≤ 4; omega, fun k hk => ?_⟩, o5, o6, fun z => ?_⟩
    · have hk : k < (tK α).1 + 1 := hk
      show tbOK (if k = (tK α).1 then tT α else (tK α).2 k) ∧ 1 ≤ (if k = (tK α).1 then tT α else (tK α).2 k).1
      split
      · exact ⟨o3, by omega⟩
      · exact o4.2 k (by omega)
    · obtain ⟨i1, i2, i3⟩ := o7 z
      exact ⟨i1, i2, by show (tI α).2.2 ≤ (tK α).1 + 1; omega⟩
theorem ok_join {α : aS} (ok : aOK α) (a b k : Int32) : aOK (opJoin α a b k).2 := by
  unfold opJoin
  split
  · exact aOK_Z ok 0
  · rename_i h1
    have h1 := Classical.not_not.mp h1
    split
    · exact aOK_Z ok 1
    · rename_i h2
      have h2 := Classical.not_not.mp h2
      split
      · exact aOK_Z ok 3
      · rename_i h3
        have h3 := Classical.not_not.mp h3
        obtain ⟨i, rfl, i1, i2⟩ := inR_i h1.1
        obtain ⟨j, rfl, j1, j2⟩ := inR_i h1.2
        obtain ⟨q, q2, rfl, qc⟩ := side01 h2
        rw [nI_clamp i2, nI_clamp j2, qc] at h3 ⊢
        have a1 := ok.2.2.2.1.2 i i1
        have b1 := ok.2.2.2.1.2 j j1
        exact aOK_push ok (tbOK_jn a1.1 b1.1 a1.2 b1.2 (by omega) h3)
theorem ok_undo {α : aS} (ok : aOK α) : aOK (opUndo α).2 := by
  unfold opUndo
  split
  · exact ok
  · rename_i h
    obtain ⟨o1, o2, o3, o4, o5, o6, o7⟩ := ok
    exact ⟨o1, o2, o6.2 _ (by omega), o4, o5, ⟨by show (tP α).1 - 1 ≤ 40; omega, fun k hk => o6.2 k (by have hk : k < (tP α).1 - 1 := hk; omega)⟩, o7⟩
theorem ok_image {α : aS} (ok : aOK α) : aOK (opImage α).2 := by
  unfold opImage
  split
  · exact ok
  · rename_i h
    obtain ⟨o1, o2, o3, o4, o5, o6, o7⟩ := ok
    exact ⟨o1, o2, o3, o4, o5, o6, fun _ => ⟨o3, by show 1 ≤ (tT α).1; omega, Nat.le_refl _⟩⟩
theorem ok_back {α : aS} (ok : aOK α) : aOK (opBack α).2 := by
  unfold opBack
  split
  · exact ok
  · rename_i h
    obtain ⟨o1, o2, o3, o4, o5, o6, o7⟩ := ok
    have ht : (tI α).1 = true := by simpa using h
    obtain ⟨i1, i2, i3⟩ := o7 ht
    exact ⟨o1, o2, i1, ⟨by show (tI α).2.2 ≤ 4; omega, fun k hk => o4.2 k (by have hk : k < (tI α).2.2 := hk; omega)⟩, o5, ⟨Nat.zero_le _, fun k hk => absurd hk (Nat.not_lt_zero _)⟩, fun _ => ⟨i1, i2, Nat.le_refl _⟩⟩
theorem ok_perf {s : scr} (hs : ∀ i, i < s.1 → stepOK (s.2 i)) : ∀ f i α, aOK α → aOK (perfA s f i α).2
  | 0, _, _, ok => ok
  | f + 1, i, α, ok => by
    by_cases h : i < s.1 ∧ stepCan (tT α) (s.2 i)
    · rw [perfA_y h]
      exact ok_perf hs f (i + 1) _ (aOK_push ok (tbOK_step ok.2.2.1 (hs i h.1) h.2))
    · rw [perfA_n h]; exact ok
theorem ok_perform {α : aS} (ok : aOK α) (k : Int32) : aOK (opPerform α k).2 := by
  unfold opPerform
  split
  · rename_i h
    obtain ⟨j, rfl, j1, j2⟩ := inR_i h.2
    rw [nI_clamp j2]
    exact ok_perf (ok.2.2.2.2.1.2 j j1).2.2 _ _ _ ok
  · exact ok
theorem ok_drw : ∀ n (x : Int64) (α : aS), aOK α → ¬ (tT α).1 = 0 → aOK (drwN n x α).2
  | 0, _, _, ok, _ => ok
  | n + 1, x, α, ok, h0 => by
    have aok := drAct_ok (w := wOf x) (a := aOf x (tT α)) (b := bOf x (tT α)) (v := vOf x) ok h0 (vOf_sml x) (dr_lt _ (by decide)) (aOf_lt ok h0 x) (bOf_lt ok h0 x)
    rw [drwN]
    exact ok_drw n (x4 x) _ aok.1 aok.2
theorem ok_draws {α : aS} (ok : aOK α) (n : Int32) (seed : Int64) : aOK (opDraws α n seed).2 := by
  unfold opDraws
  split
  · rename_i h; exact ok_drw _ _ _ ok h.1
  · exact ok
