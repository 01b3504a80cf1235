def QI (v : Int32) (w0 : aW) : Option Value → aW → Prop := fun r w => r = some (.int v) ∧ w = w0
def QV (w0 : aW) : Option Value → aW → Prop := fun r w => r = none ∧ w = w0
def QR (a : Nat) (w0 : aW) : Option Value → aW → Prop := fun r w => r = some (.ref a) ∧ w = w0
theorem vp_in_j {x : Int32} {j n : Nat} (hx : x = nI j) (hj : j < n) (hn : n < 2 ^ 31) : vp_in x n ∧ x.toNatClampNeg = j := by
  subst hx
  exact ⟨vp_in_nI hj hn, nI_clamp (by omega)⟩
section SRULES
variable {m : mi} {X : aX} {pc : Nat} {ls : List (Option Value)} {st : List Value} {σ : sg} {x : aW} {cl sl : Nat}
theorem R_gI (hC : Cx m X) {i idx ci k z : Nat} {fin : Bool} {ty : FieldType} {fl : List (Nat × Nat)} (hd : decode m.2.1 pc = .ok (.getfield idx, 3)) (hf : FL m.1.cls idx ci k fin ty) (hL : LY i (2, ci, fl)) (hk : fl[k]? = some (0, z))
    (kk : Rw m X (pc + 3) ls (.int (σ.1 i k) :: st) (wd σ x) cl sl) : Rw m X pc ls (.ref i :: st) (wd σ x) cl sl :=
  R_get hC hd hf (wd_at hL) (by rw [fv_get_i fl 0 k z hk, Nat.zero_add]) kk
theorem R_gL (hC : Cx m X) {i idx ci k z : Nat} {fin : Bool} {ty : FieldType} {fl : List (Nat × Nat)} (hd : decode m.2.1 pc = .ok (.getfield idx, 3)) (hf : FL m.1.cls idx ci k fin ty) (hL : LY i (2, ci, fl)) (hk : fl[k]? = some (1, z))
    (kk : Rw m X (pc + 3) ls (.long (σ.2.1 i) :: st) (wd σ x) cl sl) : Rw m X pc ls (.ref i :: st) (wd σ x) cl sl :=
  R_get hC hd hf (wd_at hL) (fv_get_l fl 0 k z hk) kk
theorem R_gR (hC : Cx m X) {i idx ci k z : Nat} {fin : Bool} {ty : FieldType} {fl : List (Nat × Nat)} (hd : decode m.2.1 pc = .ok (.getfield idx, 3)) (hf : FL m.1.cls idx ci k fin ty) (hL : LY i (2, ci, fl)) (hk : fl[k]? = some (2, z))
    (kk : Rw m X (pc + 3) ls (.ref z :: st) (wd σ x) cl sl) : Rw m X pc ls (.ref i :: st) (wd σ x) cl sl :=
  R_get hC hd hf (wd_at hL) (fv_get_r fl 0 k z hk) kk
theorem R_pI (hC : Cx m X) {i idx ci k z : Nat} {fl : List (Nat × Nat)} {v : Int32} (hd : decode m.2.1 pc = .ok (.putfield idx, 3)) (hf : FL m.1.cls idx ci k false .int) (hL : LY i (2, ci, fl)) (hk : fl[k]? = some (0, z))
    (kk : Rw m X (pc + 3) ls st (wd (sG σ i k v) x) cl sl) : Rw m X pc ls (.int v :: .ref i :: st) (wd σ x) cl sl := by
  refine R_put hC hd hf hL.1 (wd_at hL) (by rw [fv_len]; exact (List.getElem?_eq_some_iff.mp hk).1) (fun _ => ⟨rfl, rfl⟩) ?_
  rw [wd_putI hL hk]
  exact kk
theorem R_pZ (hC : Cx m X) {i idx ci k z : Nat} {fl : List (Nat × Nat)} {v : Int32} (hd : decode m.2.1 pc = .ok (.putfield idx, 3)) (hf : FL m.1.cls idx ci k false .boolean) (hL : LY i (2, ci, fl)) (hk : fl[k]? = some (0, z)) (hv : v = 0 ∨ v = 1)
    (kk : Rw m X (pc + 3) ls st (wd (sG σ i k v) x) cl sl) : Rw m X pc ls (.int v :: .ref i :: st) (wd σ x) cl sl := by
  refine R_put hC hd hf hL.1 (wd_at hL) (by rw [fv_len]; exact (List.getElem?_eq_some_iff.mp hk).1) (fun _ => by
    rcases hv with rfl | rfl
    · exact (show narrow .boolean (.int 0) = .int 0 ∧ fits .boolean (.int 0) = true from ⟨by decide, by decide⟩)
    · exact (show narrow .boolean (.int 1) = .int 1 ∧ fits .boolean (.int 1) = true from ⟨by decide, by decide⟩)) ?_
  rw [wd_putI hL hk]
  exact kk
theorem R_pL (hC : Cx m X) {i idx ci k z : Nat} {fl : List (Nat × Nat)} {v : Int64} (hd : decode m.2.1 pc = .ok (.putfield idx, 3)) (hf : FL m.1.cls idx ci k false .long) (hL : LY i (2, ci, fl)) (hk : fl[k]? = some (1, z)) (hu : ∀ k2 z2, fl[k2]? = some (1, z2) → k2 = k)
    (kk : Rw m X (pc + 3) ls st (wd (sL σ i v) x) cl sl) : Rw m X pc ls (.long v :: .ref i :: st) (wd σ x) cl sl := by
  refine R_put hC hd hf hL.1 (wd_at hL) (by rw [fv_len]; exact (List.getElem?_eq_some_iff.mp hk).1) (fun _ => ⟨rfl, rfl⟩) ?_
  rw [wd_putL hL hk hu]
  exact kk
theorem R_aI (hC : Cx m X) {i n : Nat} {fl : List (Nat × Nat)} {q : Int32} (hd : decode m.2.1 pc = .ok (.iaload, 1)) (hL : LY i (0, n, fl)) (j : Nat) (hx : q = nI j) (hj : j < n) (hn : n < 2 ^ 31)
    (kk : Rw m X (pc + 1) ls (.int (σ.2.2 i j) :: st) (wd σ x) cl sl) : Rw m X pc ls (.int q :: .ref i :: st) (wd σ x) cl sl := by
  obtain ⟨h1, h2⟩ := vp_in_j hx hj hn
  refine R_iaload hC hd (wd_at hL) h1 ?_
  rw [h2]
  exact kk
theorem R_aB (hC : Cx m X) {i n : Nat} {fl : List (Nat × Nat)} {q : Int32} (hd : decode m.2.1 pc = .ok (.baload, 1)) (hL : LY i (1, n, fl)) (j : Nat) (hx : q = nI j) (hj : j < n) (hn : n < 2 ^ 31)
    (kk : Rw m X (pc + 1) ls (.int (σ.2.2 i j) :: st) (wd σ x) cl sl) : Rw m X pc ls (.int q :: .ref i :: st) (wd σ x) cl sl := by
  obtain ⟨h1, h2⟩ := vp_in_j hx hj hn
  refine R_baload hC hd (wd_at hL) h1 ?_
  rw [h2]
  exact kk
theorem R_sI (hC : Cx m X) {i n : Nat} {fl : List (Nat × Nat)} {q v : Int32} (hd : decode m.2.1 pc = .ok (.iastore, 1)) (hL : LY i (0, n, fl)) (j : Nat) (hx : q = nI j) (hj : j < n) (hn : n < 2 ^ 31)
    (kk : Rw m X (pc + 1) ls st (wd (sA σ i (upd (σ.2.2 i) j v)) x) cl sl) : Rw m X pc ls (.int v :: .int q :: .ref i :: st) (wd σ x) cl sl := by
  obtain ⟨h1, h2⟩ := vp_in_j hx hj hn
  refine R_iastore hC hd hL.1 (wd_at hL) h1 ?_
  rw [h2, wd_putA hL]
  exact kk
theorem R_sB (hC : Cx m X) {i n : Nat} {fl : List (Nat × Nat)} {q v : Int32} (hd : decode m.2.1 pc = .ok (.bastore, 1)) (hL : LY i (1, n, fl)) (j : Nat) (hx : q = nI j) (hj : j < n) (hn : n < 2 ^ 31)
    (kk : Rw m X (pc + 1) ls st (wd (sA σ i (upd (σ.2.2 i) j (vp_nar .byte v))) x) cl sl) : Rw m X pc ls (.int v :: .int q :: .ref i :: st) (wd σ x) cl sl := by
  obtain ⟨h1, h2⟩ := vp_in_j hx hj hn
  refine R_bastore hC hd hL.1 (wd_at hL) h1 ?_
  rw [h2, wd_putB hL]
  exact kk
theorem R_aR (hC : Cx m X) {i n t b z : Nat} {fl : List (Nat × Nat)} {q : Int32} (hd : decode m.2.1 pc = .ok (.aaload, 1)) (hL : LY i (t, n, fl)) (ht : t = 3 ∨ t = 4) (j : Nat) (hx : q = nI j) (hj : j < n) (hn : n < 2 ^ 31) (hb : fl[j]? = some (z, b))
    (kk : Rw m X (pc + 1) ls (.ref b :: st) (wd σ x) cl sl) : Rw m X pc ls (.int q :: .ref i :: st) (wd σ x) cl sl := by
  obtain ⟨h1, h2⟩ := vp_in_j hx hj hn
  have hw : (wd σ x).2 i = some (.inl (t, n, .inr (.inr (.inr (.inr (fun j => (fl[j]?).map Prod.snd)))))) := by
    rw [wd_at hL]
    rcases ht with rfl | rfl <;> rfl
  exact R_aaload hC hd hw ht h1 (by rw [h2, hb]; rfl) kk
end SRULES
section CALLN
variable {m : mi} {X : aX} {pc : Nat} {ls : List (Option Value)} {st : List Value} {σ : sg} {x : aW} {w : aW} {cl sl : Nat}

theorem R_S0g (hC : Cx m X) {j : mi} {idx d dd mcX msX : Nat} {Q : Option Value → aW → Prop} (hR : Rd X dd mcX msX) (hd : decode m.2.1 pc = .ok (.invokestatic idx, 3)) (hj : MS j 0) (hl : ML m.1.cls idx j) (hM : Mt j d 0 0 [] w Q) (hdd : d + 1 ≤ dd) (hroom : cl ≤ mcX ∧ sl ≤ msX) (hcat : (st.map fun v => v.category).sum ≤ 8)
    (kk : ∀ (r : Option Value) (w1 : aW), Q r w1 → Rw m X (pc + 3) ls (r.toList ++ st) w1 cl sl) : Rw m X pc ls (st) w cl sl :=
  R_callS (As := []) hC hR hd hj hl hM rfl hdd hroom hcat kk
theorem R_S0i (hC : Cx m X) {j : mi} {idx d dd mcX msX : Nat} {v : Int32} {w1 : aW} (hR : Rd X dd mcX msX) (hd : decode m.2.1 pc = .ok (.invokestatic idx, 3)) (hj : MS j 0) (hl : ML m.1.cls idx j) (hM : Mt j d 0 0 [] w (QI v w1)) (hdd : d + 1 ≤ dd) (hroom : cl ≤ mcX ∧ sl ≤ msX) (hcat : (st.map fun v => v.category).sum ≤ 8)
    (kk : Rw m X (pc + 3) ls (.int v :: st) w1 cl sl) : Rw m X pc ls (st) w cl sl :=
  R_callS (As := []) hC hR hd hj hl hM rfl hdd hroom hcat (fun r w2 hq => by obtain ⟨rfl, rfl⟩ := hq; exact kk)
theorem R_S0v (hC : Cx m X) {j : mi} {idx d dd mcX msX : Nat} {w1 : aW} (hR : Rd X dd mcX msX) (hd : decode m.2.1 pc = .ok (.invokestatic idx, 3)) (hj : MS j 0) (hl : ML m.1.cls idx j) (hM : Mt j d 0 0 [] w (QV w1)) (hdd : d + 1 ≤ dd) (hroom : cl ≤ mcX ∧ sl ≤ msX) (hcat : (st.map fun v => v.category).sum ≤ 8)
    (kk : Rw m X (pc + 3) ls st w1 cl sl) : Rw m X pc ls (st) w cl sl :=
  R_callS (As := []) hC hR hd hj hl hM rfl hdd hroom hcat (fun r w2 hq => by obtain ⟨rfl, rfl⟩ := hq; exact kk)
theorem R_S0r (hC : Cx m X) {j : mi} {idx d dd mcX msX : Nat} {b : Nat} {w1 : aW} (hR : Rd X dd mcX msX) (hd : decode m.2.1 pc = .ok (.invokestatic idx, 3)) (hj : MS j 0) (hl : ML m.1.cls idx j) (hM : Mt j d 0 0 [] w (QR b w1)) (hdd : d + 1 ≤ dd) (hroom : cl ≤ mcX ∧ sl ≤ msX) (hcat : (st.map fun v => v.category).sum ≤ 8)
    (kk : Rw m X (pc + 3) ls (.ref b :: st) w1 cl sl) : Rw m X pc ls (st) w cl sl :=
  R_callS (As := []) hC hR hd hj hl hM rfl hdd hroom hcat (fun r w2 hq => by obtain ⟨rfl, rfl⟩ := hq; exact kk)
theorem R_V0g (hC : Cx m X) {j : mi} {idx d dd mcX msX : Nat} {i ci N : Nat} {T : u_T} {fl : List (Nat × Nat)} {Q : Option Value → aW → Prop} (hR : Rd X dd mcX msX) (hd : decode m.2.1 pc = .ok (.invokevirtual idx, 3)) (hj : MV j 0) (hl : ML m.1.cls idx j) (hL : LY i (2, ci, fl)) (hcl : vwCl[ci]? = some (j.1.cls, T, N)) (hM : Mt j d 0 0 (.ref i :: []) (wd σ x) Q) (hdd : d + 1 ≤ dd) (hroom : cl ≤ mcX ∧ sl ≤ msX) (hcat : (st.map fun v => v.category).sum ≤ 8)
    (kk : ∀ (r : Option Value) (w1 : aW), Q r w1 → Rw m X (pc + 3) ls (r.toList ++ st) w1 cl sl) : Rw m X pc ls (.ref i :: st) (wd σ x) cl sl :=
  R_callV (As := []) hC hR hd hj hl (wd_at hL) hcl hM rfl hdd hroom hcat kk
theorem R_V0i (hC : Cx m X) {j : mi} {idx d dd mcX msX : Nat} {i ci N : Nat} {T : u_T} {fl : List (Nat × Nat)} {v : Int32} {w1 : aW} (hR : Rd X dd mcX msX) (hd : decode m.2.1 pc = .ok (.invokevirtual idx, 3)) (hj : MV j 0) (hl : ML m.1.cls idx j) (hL : LY i (2, ci, fl)) (hcl : vwCl[ci]? = some (j.1.cls, T, N)) (hM : Mt j d 0 0 (.ref i :: []) (wd σ x) (QI v w1)) (hdd : d + 1 ≤ dd) (hroom : cl ≤ mcX ∧ sl ≤ msX) (hcat : (st.map fun v => v.category).sum ≤ 8)
    (kk : Rw m X (pc + 3) ls (.int v :: st) w1 cl sl) : Rw m X pc ls (.ref i :: st) (wd σ x) cl sl :=
  R_callV (As := []) hC hR hd hj hl (wd_at hL) hcl hM rfl hdd hroom hcat (fun r w2 hq => by obtain ⟨rfl, rfl⟩ := hq; exact kk)
theorem R_V0v (hC : Cx m X) {j : mi} {idx d dd mcX msX : Nat} {i ci N : Nat} {T : u_T} {fl : List (Nat × Nat)} {w1 : aW} (hR : Rd X dd mcX msX) (hd : decode m.2.1 pc = .ok (.invokevirtual idx, 3)) (hj : MV j 0) (hl : ML m.1.cls idx j) (hL : LY i (2, ci, fl)) (hcl : vwCl[ci]? = some (j.1.cls, T, N)) (hM : Mt j d 0 0 (.ref i :: []) (wd σ x) (QV w1)) (hdd : d + 1 ≤ dd) (hroom : cl ≤ mcX ∧ sl ≤ msX) (hcat : (st.map fun v => v.category).sum ≤ 8)
    (kk : Rw m X (pc + 3) ls st w1 cl sl) : Rw m X pc ls (.ref i :: st) (wd σ x) cl sl :=
  R_callV (As := []) hC hR hd hj hl (wd_at hL) hcl hM rfl hdd hroom hcat (fun r w2 hq => by obtain ⟨rfl, rfl⟩ := hq; exact kk)
theorem R_V0r (hC : Cx m X) {j : mi} {idx d dd mcX msX : Nat} {i ci N : Nat} {T : u_T} {fl : List (Nat × Nat)} {b : Nat} {w1 : aW} (hR : Rd X dd mcX msX) (hd : decode m.2.1 pc = .ok (.invokevirtual idx, 3)) (hj : MV j 0) (hl : ML m.1.cls idx j) (hL : LY i (2, ci, fl)) (hcl : vwCl[ci]? = some (j.1.cls, T, N)) (hM : Mt j d 0 0 (.ref i :: []) (wd σ x) (QR b w1)) (hdd : d + 1 ≤ dd) (hroom : cl ≤ mcX ∧ sl ≤ msX) (hcat : (st.map fun v => v.category).sum ≤ 8)
    (kk : Rw m X (pc + 3) ls (.ref b :: st) w1 cl sl) : Rw m X pc ls (.ref i :: st) (wd σ x) cl sl :=
  R_callV (As := []) hC hR hd hj hl (wd_at hL) hcl hM rfl hdd hroom hcat (fun r w2 hq => by obtain ⟨rfl, rfl⟩ := hq; exact kk)
theorem R_S1g (hC : Cx m X) {j : mi} {idx d dd mcX msX : Nat} {a1 : Value} {Q : Option Value → aW → Prop} (hR : Rd X dd mcX msX) (hd : decode m.2.1 pc = .ok (.invokestatic idx, 3)) (hj : MS j 1) (hl : ML m.1.cls idx j) (hM : Mt j d 0 0 [a1] w Q) (hdd : d + 1 ≤ dd) (hroom : cl ≤ mcX ∧ sl ≤ msX) (hcat : (st.map fun v => v.category).sum ≤ 8)
    (kk : ∀ (r : Option Value) (w1 : aW), Q r w1 → Rw m X (pc + 3) ls (r.toList ++ st) w1 cl sl) : Rw m X pc ls (a1 :: st) w cl sl :=
  R_callS (As := [a1]) hC hR hd hj hl hM rfl hdd hroom hcat kk
theorem R_S1i (hC : Cx m X) {j : mi} {idx d dd mcX msX : Nat} {a1 : Value} {v : Int32} {w1 : aW} (hR : Rd X dd mcX msX) (hd : decode m.2.1 pc = .ok (.invokestatic idx, 3)) (hj : MS j 1) (hl : ML m.1.cls idx j) (hM : Mt j d 0 0 [a1] w (QI v w1)) (hdd : d + 1 ≤ dd) (hroom : cl ≤ mcX ∧ sl ≤ msX) (hcat : (st.map fun v => v.category).sum ≤ 8)
    (kk : Rw m X (pc + 3) ls (.int v :: st) w1 cl sl) : Rw m X pc ls (a1 :: st) w cl sl :=
  R_callS (As := [a1]) hC hR hd hj hl hM rfl hdd hroom hcat (fun r w2 hq => by obtain ⟨rfl, rfl⟩ := hq; exact kk)
theorem R_S1v (hC : Cx m X) {j : mi} {idx d dd mcX msX : Nat} {a1 : Value} {w1 : aW} (hR : Rd X dd mcX msX) (hd : decode m.2.1 pc = .ok (.invokestatic idx, 3)) (hj : MS j 1) (hl : ML m.1.cls idx j) (hM : Mt j d 0 0 [a1] w (QV w1)) (hdd : d + 1 ≤ dd) (hroom : cl ≤ mcX ∧ sl ≤ msX) (hcat : (st.map fun v => v.category).sum ≤ 8)
    (kk : Rw m X (pc + 3) ls st w1 cl sl) : Rw m X pc ls (a1 :: st) w cl sl :=
  R_callS (As := [a1]) hC hR hd hj hl hM rfl hdd hroom hcat (fun r w2 hq => by obtain ⟨rfl, rfl⟩ := hq; exact kk)
theorem R_S1r (hC : Cx m X) {j : mi} {idx d dd mcX msX : Nat} {a1 : Value} {b : Nat} {w1 : aW} (hR : Rd X dd mcX msX) (hd : decode m.2.1 pc = .ok (.invokestatic idx, 3)) (hj : MS j 1) (hl : ML m.1.cls idx j) (hM : Mt j d 0 0 [a1] w (QR b w1)) (hdd : d + 1 ≤ dd) (hroom : cl ≤ mcX ∧ sl ≤ msX) (hcat : (st.map fun v => v.category).sum ≤ 8)
    (kk : Rw m X (pc + 3) ls (.ref b :: st) w1 cl sl) : Rw m X pc ls (a1 :: st) w cl sl :=
  R_callS (As := [a1]) hC hR hd hj hl hM rfl hdd hroom hcat (fun r w2 hq => by obtain ⟨rfl, rfl⟩ := hq; exact kk)
theorem R_V1g (hC : Cx m X) {j : mi} {idx d dd mcX msX : Nat} {i ci N : Nat} {T : u_T} {fl : List (Nat × Nat)} {a1 : Value} {Q : Option Value → aW → Prop} (hR : Rd X dd mcX msX) (hd : decode m.2.1 pc = .ok (.invokevirtual idx, 3)) (hj : MV j 1) (hl : ML m.1.cls idx j) (hL : LY i (2, ci, fl)) (hcl : vwCl[ci]? = some (j.1.cls, T, N)) (hM : Mt j d 0 0 (.ref i :: [a1]) (wd σ x) Q) (hdd : d + 1 ≤ dd) (hroom : cl ≤ mcX ∧ sl ≤ msX) (hcat : (st.map fun v => v.category).sum ≤ 8)
    (kk : ∀ (r : Option Value) (w1 : aW), Q r w1 → Rw m X (pc + 3) ls (r.toList ++ st) w1 cl sl) : Rw m X pc ls (a1 :: .ref i :: st) (wd σ x) cl sl :=
  R_callV (As := [a1]) hC hR hd hj hl (wd_at hL) hcl hM rfl hdd hroom hcat kk
theorem R_V1i (hC : Cx m X) {j : mi} {idx d dd mcX msX : Nat} {i ci N : Nat} {T : u_T} {fl : List (Nat × Nat)} {a1 : Value} {v : Int32} {w1 : aW} (hR : Rd X dd mcX msX) (hd : decode m.2.1 pc = .ok (.invokevirtual idx, 3)) (hj : MV j 1) (hl : ML m.1.cls idx j) (hL : LY i (2, ci, fl)) (hcl : vwCl[ci]? = some (j.1.cls, T, N)) (hM : Mt j d 0 0 (.ref i :: [a1]) (wd σ x) (QI v w1)) (hdd : d + 1 ≤ dd) (hroom : cl ≤ mcX ∧ sl ≤ msX) (hcat : (st.map fun v => v.category).sum ≤ 8)
    (kk : Rw m X (pc + 3) ls (.int v :: st) w1 cl sl) : Rw m X pc ls (a1 :: .ref i :: st) (wd σ x) cl sl :=
  R_callV (As := [a1]) hC hR hd hj hl (wd_at hL) hcl hM rfl hdd hroom hcat (fun r w2 hq => by obtain ⟨rfl, rfl⟩ := hq; exact kk)
theorem R_V1v (hC : Cx m X) {j : mi} {idx d dd mcX msX : Nat} {i ci N : Nat} {T : u_T} {fl : List (Nat × Nat)} {a1 : Value} {w1 : aW} (hR : Rd X dd mcX msX) (hd : decode m.2.1 pc = .ok (.invokevirtual idx, 3)) (hj : MV j 1) (hl : ML m.1.cls idx j) (hL : LY i (2, ci, fl)) (hcl : vwCl[ci]? = some (j.1.cls, T, N)) (hM : Mt j d 0 0 (.ref i :: [a1]) (wd σ x) (QV w1)) (hdd : d + 1 ≤ dd) (hroom : cl ≤ mcX ∧ sl ≤ msX) (hcat : (st.map fun v => v.category).sum ≤ 8)
    (kk : Rw m X (pc + 3) ls st w1 cl sl) : Rw m X pc ls (a1 :: .ref i :: st) (wd σ x) cl sl :=
  R_callV (As := [a1]) hC hR hd hj hl (wd_at hL) hcl hM rfl hdd hroom hcat (fun r w2 hq => by obtain ⟨rfl, rfl⟩ := hq; exact kk)
theorem R_V1r (hC : Cx m X) {j : mi} {idx d dd mcX msX : Nat} {i ci N : Nat} {T : u_T} {fl : List (Nat × Nat)} {a1 : Value} {b : Nat} {w1 : aW} (hR : Rd X dd mcX msX) (hd : decode m.2.1 pc = .ok (.invokevirtual idx, 3)) (hj : MV j 1) (hl : ML m.1.cls idx j) (hL : LY i (2, ci, fl)) (hcl : vwCl[ci]? = some (j.1.cls, T, N)) (hM : Mt j d 0 0 (.ref i :: [a1]) (wd σ x) (QR b w1)) (hdd : d + 1 ≤ dd) (hroom : cl ≤ mcX ∧ sl ≤ msX) (hcat : (st.map fun v => v.category).sum ≤ 8)
    (kk : Rw m X (pc + 3) ls (.ref b :: st) w1 cl sl) : Rw m X pc ls (a1 :: .ref i :: st) (wd σ x) cl sl :=
  R_callV (As := [a1]) hC hR hd hj hl (wd_at hL) hcl hM rfl hdd hroom hcat (fun r w2 hq => by obtain ⟨rfl, rfl⟩ := hq; exact kk)
theorem R_S2g (hC : Cx m X) {j : mi} {idx d dd mcX msX : Nat} {a1 a2 : Value} {Q : Option Value → aW → Prop} (hR : Rd X dd mcX msX) (hd : decode m.2.1 pc = .ok (.invokestatic idx, 3)) (hj : MS j 2) (hl : ML m.1.cls idx j) (hM : Mt j d 0 0 [a1, a2] w Q) (hdd : d + 1 ≤ dd) (hroom : cl ≤ mcX ∧ sl ≤ msX) (hcat : (st.map fun v => v.category).sum ≤ 8)
    (kk : ∀ (r : Option Value) (w1 : aW), Q r w1 → Rw m X (pc + 3) ls (r.toList ++ st) w1 cl sl) : Rw m X pc ls (a2 :: a1 :: st) w cl sl :=
  R_callS (As := [a1, a2]) hC hR hd hj hl hM rfl hdd hroom hcat kk
theorem R_S2i (hC : Cx m X) {j : mi} {idx d dd mcX msX : Nat} {a1 a2 : Value} {v : Int32} {w1 : aW} (hR : Rd X dd mcX msX) (hd : decode m.2.1 pc = .ok (.invokestatic idx, 3)) (hj : MS j 2) (hl : ML m.1.cls idx j) (hM : Mt j d 0 0 [a1, a2] w (QI v w1)) (hdd : d + 1 ≤ dd) (hroom : cl ≤ mcX ∧ sl ≤ msX) (hcat : (st.map fun v => v.category).sum ≤ 8)
    (kk : Rw m X (pc + 3) ls (.int v :: st) w1 cl sl) : Rw m X pc ls (a2 :: a1 :: st) w cl sl :=
  R_callS (As := [a1, a2]) hC hR hd hj hl hM rfl hdd hroom hcat (fun r w2 hq => by obtain ⟨rfl, rfl⟩ := hq; exact kk)
theorem R_S2v (hC : Cx m X) {j : mi} {idx d dd mcX msX : Nat} {a1 a2 : Value} {w1 : aW} (hR : Rd X dd mcX msX) (hd : decode m.2.1 pc = .ok (.invokestatic idx, 3)) (hj : MS j 2) (hl : ML m.1.cls idx j) (hM : Mt j d 0 0 [a1, a2] w (QV w1)) (hdd : d + 1 ≤ dd) (hroom : cl ≤ mcX ∧ sl ≤ msX) (hcat : (st.map fun v => v.category).sum ≤ 8)
    (kk : Rw m X (pc + 3) ls st w1 cl sl) : Rw m X pc ls (a2 :: a1 :: st) w cl sl :=
  R_callS (As := [a1, a2]) hC hR hd hj hl hM rfl hdd hroom hcat (fun r w2 hq => by obtain ⟨rfl, rfl⟩ := hq; exact kk)
theorem R_S2r (hC : Cx m X) {j : mi} {idx d dd mcX msX : Nat} {a1 a2 : Value} {b : Nat} {w1 : aW} (hR : Rd X dd mcX msX) (hd : decode m.2.1 pc = .ok (.invokestatic idx, 3)) (hj : MS j 2) (hl : ML m.1.cls idx j) (hM : Mt j d 0 0 [a1, a2] w (QR b w1)) (hdd : d + 1 ≤ dd) (hroom : cl ≤ mcX ∧ sl ≤ msX) (hcat : (st.map fun v => v.category).sum ≤ 8)
    (kk : Rw m X (pc + 3) ls (.ref b :: st) w1 cl sl) : Rw m X pc ls (a2 :: a1 :: st) w cl sl :=
  R_callS (As := [a1, a2]) hC hR hd hj hl hM rfl hdd hroom hcat (fun r w2 hq => by obtain ⟨rfl, rfl⟩ := hq; exact kk)
theorem R_V2g (hC : Cx m X) {j : mi} {idx d dd mcX msX : Nat} {i ci N : Nat} {T : u_T} {fl : List (Nat × Nat)} {a1 a2 : Value} {Q : Option Value → aW → Prop} (hR : Rd X dd mcX msX) (hd : decode m.2.1 pc = .ok (.invokevirtual idx, 3)) (hj : MV j 2) (hl : ML m.1.cls idx j) (hL : LY i (2, ci, fl)) (hcl : vwCl[ci]? = some (j.1.cls, T, N)) (hM : Mt j d 0 0 (.ref i :: [a1, a2]) (wd σ x) Q) (hdd : d + 1 ≤ dd) (hroom : cl ≤ mcX ∧ sl ≤ msX) (hcat : (st.map fun v => v.category).sum ≤ 8)
    (kk : ∀ (r : Option Value) (w1 : aW), Q r w1 → Rw m X (pc + 3) ls (r.toList ++ st) w1 cl sl) : Rw m X pc ls (a2 :: a1 :: .ref i :: st) (wd σ x) cl sl :=
  R_callV (As := [a1, a2]) hC hR hd hj hl (wd_at hL) hcl hM rfl hdd hroom hcat kk
theorem R_V2i (hC : Cx m X) {j : mi} {idx d dd mcX msX : Nat} {i ci N : Nat} {T : u_T} {fl : List (Nat × Nat)} {a1 a2 : Value} {v : Int32} {w1 : aW} (hR : Rd X dd mcX msX) (hd : decode m.2.1 pc = .ok (.invokevirtual idx, 3)) (hj : MV j 2) (hl : ML m.1.cls idx j) (hL : LY i (2, ci, fl)) (hcl : vwCl[ci]? = some (j.1.cls, T, N)) (hM : Mt j d 0 0 (.ref i :: [a1, a2]) (wd σ x) (QI v w1)) (hdd : d + 1 ≤ dd) (hroom : cl ≤ mcX ∧ sl ≤ msX) (hcat : (st.map fun v => v.category).sum ≤ 8)
    (kk : Rw m X (pc + 3) ls (.int v :: st) w1 cl sl) : Rw m X pc ls (a2 :: a1 :: .ref i :: st) (wd σ x) cl sl :=
  R_callV (As := [a1, a2]) hC hR hd hj hl (wd_at hL) hcl hM rfl hdd hroom hcat (fun r w2 hq => by obtain ⟨rfl, rfl⟩ := hq; exact kk)
theorem R_V2v (hC : Cx m X) {j : mi} {idx d dd mcX msX : Nat} {i ci N : Nat} {T : u_T} {fl : List (Nat × Nat)} {a1 a2 : Value} {w1 : aW} (hR : Rd X dd mcX msX) (hd : decode m.2.1 pc = .ok (.invokevirtual idx, 3)) (hj : MV j 2) (hl : ML m.1.cls idx j) (hL : LY i (2, ci, fl)) (hcl : vwCl[ci]? = some (j.1.cls, T, N)) (hM : Mt j d 0 0 (.ref i :: [a1, a2]) (wd σ x) (QV w1)) (hdd : d + 1 ≤ dd) (hroom : cl ≤ mcX ∧ sl ≤ msX) (hcat : (st.map fun v => v.category).sum ≤ 8)
    (kk : Rw m X (pc + 3) ls st w1 cl sl) : Rw m X pc ls (a2 :: a1 :: .ref i :: st) (wd σ x) cl sl :=
  R_callV (As := [a1, a2]) hC hR hd hj hl (wd_at hL) hcl hM rfl hdd hroom hcat (fun r w2 hq => by obtain ⟨rfl, rfl⟩ := hq; exact kk)
theorem R_V2r (hC : Cx m X) {j : mi} {idx d dd mcX msX : Nat} {i ci N : Nat} {T : u_T} {fl : List (Nat × Nat)} {a1 a2 : Value} {b : Nat} {w1 : aW} (hR : Rd X dd mcX msX) (hd : decode m.2.1 pc = .ok (.invokevirtual idx, 3)) (hj : MV j 2) (hl : ML m.1.cls idx j) (hL : LY i (2, ci, fl)) (hcl : vwCl[ci]? = some (j.1.cls, T, N)) (hM : Mt j d 0 0 (.ref i :: [a1, a2]) (wd σ x) (QR b w1)) (hdd : d + 1 ≤ dd) (hroom : cl ≤ mcX ∧ sl ≤ msX) (hcat : (st.map fun v => v.category).sum ≤ 8)
    (kk : Rw m X (pc + 3) ls (.ref b :: st) w1 cl sl) : Rw m X pc ls (a2 :: a1 :: .ref i :: st) (wd σ x) cl sl :=
  R_callV (As := [a1, a2]) hC hR hd hj hl (wd_at hL) hcl hM rfl hdd hroom hcat (fun r w2 hq => by obtain ⟨rfl, rfl⟩ := hq; exact kk)
theorem R_S3g (hC : Cx m X) {j : mi} {idx d dd mcX msX : Nat} {a1 a2 a3 : Value} {Q : Option Value → aW → Prop} (hR : Rd X dd mcX msX) (hd : decode m.2.1 pc = .ok (.invokestatic idx, 3)) (hj : MS j 3) (hl : ML m.1.cls idx j) (hM : Mt j d 0 0 [a1, a2, a3] w Q) (hdd : d + 1 ≤ dd) (hroom : cl ≤ mcX ∧ sl ≤ msX) (hcat : (st.map fun v => v.category).sum ≤ 8)
    (kk : ∀ (r : Option Value) (w1 : aW), Q r w1 → Rw m X (pc + 3) ls (r.toList ++ st) w1 cl sl) : Rw m X pc ls (a3 :: a2 :: a1 :: st) w cl sl :=
  R_callS (As := [a1, a2, a3]) hC hR hd hj hl hM rfl hdd hroom hcat kk
theorem R_S3i (hC : Cx m X) {j : mi} {idx d dd mcX msX : Nat} {a1 a2 a3 : Value} {v : Int32} {w1 : aW} (hR : Rd X dd mcX msX) (hd : decode m.2.1 pc = .ok (.invokestatic idx, 3)) (hj : MS j 3) (hl : ML m.1.cls idx j) (hM : Mt j d 0 0 [a1, a2, a3] w (QI v w1)) (hdd : d + 1 ≤ dd) (hroom : cl ≤ mcX ∧ sl ≤ msX) (hcat : (st.map fun v => v.category).sum ≤ 8)
    (kk : Rw m X (pc + 3) ls (.int v :: st) w1 cl sl) : Rw m X pc ls (a3 :: a2 :: a1 :: st) w cl sl :=
  R_callS (As := [a1, a2, a3]) hC hR hd hj hl hM rfl hdd hroom hcat (fun r w2 hq => by obtain ⟨rfl, rfl⟩ := hq; exact kk)
theorem R_S3v (hC : Cx m X) {j : mi} {idx d dd mcX msX : Nat} {a1 a2 a3 : Value} {w1 : aW} (hR : Rd X dd mcX msX) (hd : decode m.2.1 pc = .ok (.invokestatic idx, 3)) (hj : MS j 3) (hl : ML m.1.cls idx j) (hM : Mt j d 0 0 [a1, a2, a3] w (QV w1)) (hdd : d + 1 ≤ dd) (hroom : cl ≤ mcX ∧ sl ≤ msX) (hcat : (st.map fun v => v.category).sum ≤ 8)
    (kk : Rw m X (pc + 3) ls st w1 cl sl) : Rw m X pc ls (a3 :: a2 :: a1 :: st) w cl sl :=
  R_callS (As := [a1, a2, a3]) hC hR hd hj hl hM rfl hdd hroom hcat (fun r w2 hq => by obtain ⟨rfl, rfl⟩ := hq; exact kk)
theorem R_S3r (hC : Cx m X) {j : mi} {idx d dd mcX msX : Nat} {a1 a2 a3 : Value} {b : Nat} {w1 : aW} (hR : Rd X dd mcX msX) (hd : decode m.2.1 pc = .ok (.invokestatic idx, 3)) (hj : MS j 3) (hl : ML m.1.cls idx j) (hM : Mt j d 0 0 [a1, a2, a3] w (QR b w1)) (hdd : d + 1 ≤ dd) (hroom : cl ≤ mcX ∧ sl ≤ msX) (hcat : (st.map fun v => v.category).sum ≤ 8)
    (kk : Rw m X (pc + 3) ls (.ref b :: st) w1 cl sl) : Rw m X pc ls (a3 :: a2 :: a1 :: st) w cl sl :=
  R_callS (As := [a1, a2, a3]) hC hR hd hj hl hM rfl hdd hroom hcat (fun r w2 hq => by obtain ⟨rfl, rfl⟩ := hq; exact kk)
theorem R_V3g (hC : Cx m X) {j : mi} {idx d dd mcX msX : Nat} {i ci N : Nat} {T : u_T} {fl : List (Nat × Nat)} {a1 a2 a3 : Value} {Q : Option Value → aW → Prop} (hR : Rd X dd mcX msX) (hd : decode m.2.1 pc = .ok (.invokevirtual idx, 3)) (hj : MV j 3) (hl : ML m.1.cls idx j) (hL : LY i (2, ci, fl)) (hcl : vwCl[ci]? = some (j.1.cls, T, N)) (hM : Mt j d 0 0 (.ref i :: [a1, a2, a3]) (wd σ x) Q) (hdd : d + 1 ≤ dd) (hroom : cl ≤ mcX ∧ sl ≤ msX) (hcat : (st.map fun v => v.category).sum ≤ 8)
    (kk : ∀ (r : Option Value) (w1 : aW), Q r w1 → Rw m X (pc + 3) ls (r.toList ++ st) w1 cl sl) : Rw m X pc ls (a3 :: a2 :: a1 :: .ref i :: st) (wd σ x) cl sl :=
  R_callV (As := [a1, a2, a3]) hC hR hd hj hl (wd_at hL) hcl hM rfl hdd hroom hcat kk
theorem R_V3i (hC : Cx m X) {j : mi} {idx d dd mcX msX : Nat} {i ci N : Nat} {T : u_T} {fl : List (Nat × Nat)} {a1 a2 a3 : Value} {v : Int32} {w1 : aW} (hR : Rd X dd mcX msX) (hd : decode m.2.1 pc = .ok (.invokevirtual idx, 3)) (hj : MV j 3) (hl : ML m.1.cls idx j) (hL : LY i (2, ci, fl)) (hcl : vwCl[ci]? = some (j.1.cls, T, N)) (hM : Mt j d 0 0 (.ref i :: [a1, a2, a3]) (wd σ x) (QI v w1)) (hdd : d + 1 ≤ dd) (hroom : cl ≤ mcX ∧ sl ≤ msX) (hcat : (st.map fun v => v.category).sum ≤ 8)
    (kk : Rw m X (pc + 3) ls (.int v :: st) w1 cl sl) : Rw m X pc ls (a3 :: a2 :: a1 :: .ref i :: st) (wd σ x) cl sl :=
  R_callV (As := [a1, a2, a3]) hC hR hd hj hl (wd_at hL) hcl hM rfl hdd hroom hcat (fun r w2 hq => by obtain ⟨rfl, rfl⟩ := hq; exact kk)
theorem R_V3v (hC : Cx m X) {j : mi} {idx d dd mcX msX : Nat} {i ci N : Nat} {T : u_T} {fl : List (Nat × Nat)} {a1 a2 a3 : Value} {w1 : aW} (hR : Rd X dd mcX msX) (hd : decode m.2.1 pc = .ok (.invokevirtual idx, 3)) (hj : MV j 3) (hl : ML m.1.cls idx j) (hL : LY i (2, ci, fl)) (hcl : vwCl[ci]? = some (j.1.cls, T, N)) (hM : Mt j d 0 0 (.ref i :: [a1, a2, a3]) (wd σ x) (QV w1)) (hdd : d + 1 ≤ dd) (hroom : cl ≤ mcX ∧ sl ≤ msX) (hcat : (st.map fun v => v.category).sum ≤ 8)
    (kk : Rw m X (pc + 3) ls st w1 cl sl) : Rw m X pc ls (a3 :: a2 :: a1 :: .ref i :: st) (wd σ x) cl sl :=
  R_callV (As := [a1, a2, a3]) hC hR hd hj hl (wd_at hL) hcl hM rfl hdd hroom hcat (fun r w2 hq => by obtain ⟨rfl, rfl⟩ := hq; exact kk)
theorem R_V3r (hC : Cx m X) {j : mi} {idx d dd mcX msX : Nat} {i ci N : Nat} {T : u_T} {fl : List (Nat × Nat)} {a1 a2 a3 : Value} {b : Nat} {w1 : aW} (hR : Rd X dd mcX msX) (hd : decode m.2.1 pc = .ok (.invokevirtual idx, 3)) (hj : MV j 3) (hl : ML m.1.cls idx j) (hL : LY i (2, ci, fl)) (hcl : vwCl[ci]? = some (j.1.cls, T, N)) (hM : Mt j d 0 0 (.ref i :: [a1, a2, a3]) (wd σ x) (QR b w1)) (hdd : d + 1 ≤ dd) (hroom : cl ≤ mcX ∧ sl ≤ msX) (hcat : (st.map fun v => v.category).sum ≤ 8)
    (kk : Rw m X (pc + 3) ls (.ref b :: st) w1 cl sl) : Rw m X pc ls (a3 :: a2 :: a1 :: .ref i :: st) (wd σ x) cl sl :=
  R_callV (As := [a1, a2, a3]) hC hR hd hj hl (wd_at hL) hcl hM rfl hdd hroom hcat (fun r w2 hq => by obtain ⟨rfl, rfl⟩ := hq; exact kk)
theorem R_S4g (hC : Cx m X) {j : mi} {idx d dd mcX msX : Nat} {a1 a2 a3 a4 : Value} {Q : Option Value → aW → Prop} (hR : Rd X dd mcX msX) (hd : decode m.2.1 pc = .ok (.invokestatic idx, 3)) (hj : MS j 4) (hl : ML m.1.cls idx j) (hM : Mt j d 0 0 [a1, a2, a3, a4] w Q) (hdd : d + 1 ≤ dd) (hroom : cl ≤ mcX ∧ sl ≤ msX) (hcat : (st.map fun v => v.category).sum ≤ 8)
    (kk : ∀ (r : Option Value) (w1 : aW), Q r w1 → Rw m X (pc + 3) ls (r.toList ++ st) w1 cl sl) : Rw m X pc ls (a4 :: a3 :: a2 :: a1 :: st) w cl sl :=
  R_callS (As := [a1, a2, a3, a4]) hC hR hd hj hl hM rfl hdd hroom hcat kk
theorem R_S4i (hC : Cx m X) {j : mi} {idx d dd mcX msX : Nat} {a1 a2 a3 a4 : Value} {v : Int32} {w1 : aW} (hR : Rd X dd mcX msX) (hd : decode m.2.1 pc = .ok (.invokestatic idx, 3)) (hj : MS j 4) (hl : ML m.1.cls idx j) (hM : Mt j d 0 0 [a1, a2, a3, a4] w (QI v w1)) (hdd : d + 1 ≤ dd) (hroom : cl ≤ mcX ∧ sl ≤ msX) (hcat : (st.map fun v => v.category).sum ≤ 8)
    (kk : Rw m X (pc + 3) ls (.int v :: st) w1 cl sl) : Rw m X pc ls (a4 :: a3 :: a2 :: a1 :: st) w cl sl :=
  R_callS (As := [a1, a2, a3, a4]) hC hR hd hj hl hM rfl hdd hroom hcat (fun r w2 hq => by obtain ⟨rfl, rfl⟩ := hq; exact kk)
theorem R_S4v (hC : Cx m X) {j : mi} {idx d dd mcX msX : Nat} {a1 a2 a3 a4 : Value} {w1 : aW} (hR : Rd X dd mcX msX) (hd : decode m.2.1 pc = .ok (.invokestatic idx, 3)) (hj : MS j 4) (hl : ML m.1.cls idx j) (hM : Mt j d 0 0 [a1, a2, a3, a4] w (QV w1)) (hdd : d + 1 ≤ dd) (hroom : cl ≤ mcX ∧ sl ≤ msX) (hcat : (st.map fun v => v.category).sum ≤ 8)
    (kk : Rw m X (pc + 3) ls st w1 cl sl) : Rw m X pc ls (a4 :: a3 :: a2 :: a1 :: st) w cl sl :=
  R_callS (As := [a1, a2, a3, a4]) hC hR hd hj hl hM rfl hdd hroom hcat (fun r w2 hq => by obtain ⟨rfl, rfl⟩ := hq; exact kk)
theorem R_S4r (hC : Cx m X) {j : mi} {idx d dd mcX msX : Nat} {a1 a2 a3 a4 : Value} {b : Nat} {w1 : aW} (hR : Rd X dd mcX msX) (hd : decode m.2.1 pc = .ok (.invokestatic idx, 3)) (hj : MS j 4) (hl : ML m.1.cls idx j) (hM : Mt j d 0 0 [a1, a2, a3, a4] w (QR b w1)) (hdd : d + 1 ≤ dd) (hroom : cl ≤ mcX ∧ sl ≤ msX) (hcat : (st.map fun v => v.category).sum ≤ 8)
    (kk : Rw m X (pc + 3) ls (.ref b :: st) w1 cl sl) : Rw m X pc ls (a4 :: a3 :: a2 :: a1 :: st) w cl sl :=
  R_callS (As := [a1, a2, a3, a4]) hC hR hd hj hl hM rfl hdd hroom hcat (fun r w2 hq => by obtain ⟨rfl, rfl⟩ := hq; exact kk)
theorem R_V4g (hC : Cx m X) {j : mi} {idx d dd mcX msX : Nat} {i ci N : Nat} {T : u_T} {fl : List (Nat × Nat)} {a1 a2 a3 a4 : Value} {Q : Option Value → aW → Prop} (hR : Rd X dd mcX msX) (hd : decode m.2.1 pc = .ok (.invokevirtual idx, 3)) (hj : MV j 4) (hl : ML m.1.cls idx j) (hL : LY i (2, ci, fl)) (hcl : vwCl[ci]? = some (j.1.cls, T, N)) (hM : Mt j d 0 0 (.ref i :: [a1, a2, a3, a4]) (wd σ x) Q) (hdd : d + 1 ≤ dd) (hroom : cl ≤ mcX ∧ sl ≤ msX) (hcat : (st.map fun v => v.category).sum ≤ 8)
    (kk : ∀ (r : Option Value) (w1 : aW), Q r w1 → Rw m X (pc + 3) ls (r.toList ++ st) w1 cl sl) : Rw m X pc ls (a4 :: a3 :: a2 :: a1 :: .ref i :: st) (wd σ x) cl sl :=
  R_callV (As := [a1, a2, a3, a4]) hC hR hd hj hl (wd_at hL) hcl hM rfl hdd hroom hcat kk
theorem R_V4i (hC : Cx m X) {j : mi} {idx d dd mcX msX : Nat} {i ci N : Nat} {T : u_T} {fl : List (Nat × Nat)} {a1 a2 a3 a4 : Value} {v : Int32} {w1 : aW} (hR : Rd X dd mcX msX) (hd : decode m.2.1 pc = .ok (.invokevirtual idx, 3)) (hj : MV j 4) (hl : ML m.1.cls idx j) (hL : LY i (2, ci, fl)) (hcl : vwCl[ci]? = some (j.1.cls, T, N)) (hM : Mt j d 0 0 (.ref i :: [a1, a2, a3, a4]) (wd σ x) (QI v w1)) (hdd : d + 1 ≤ dd) (hroom : cl ≤ mcX ∧ sl ≤ msX) (hcat : (st.map fun v => v.category).sum ≤ 8)
    (kk : Rw m X (pc + 3) ls (.int v :: st) w1 cl sl) : Rw m X pc ls (a4 :: a3 :: a2 :: a1 :: .ref i :: st) (wd σ x) cl sl :=
  R_callV (As := [a1, a2, a3, a4]) hC hR hd hj hl (wd_at hL) hcl hM rfl hdd hroom hcat (fun r w2 hq => by obtain ⟨rfl, rfl⟩ := hq; exact kk)
theorem R_V4v (hC : Cx m X) {j : mi} {idx d dd mcX msX : Nat} {i ci N : Nat} {T : u_T} {fl : List (Nat × Nat)} {a1 a2 a3 a4 : Value} {w1 : aW} (hR : Rd X dd mcX msX) (hd : decode m.2.1 pc = .ok (.invokevirtual idx, 3)) (hj : MV j 4) (hl : ML m.1.cls idx j) (hL : LY i (2, ci, fl)) (hcl : vwCl[ci]? = some (j.1.cls, T, N)) (hM : Mt j d 0 0 (.ref i :: [a1, a2, a3, a4]) (wd σ x) (QV w1)) (hdd : d + 1 ≤ dd) (hroom : cl ≤ mcX ∧ sl ≤ msX) (hcat : (st.map fun v => v.category).sum ≤ 8)
    (kk : Rw m X (pc + 3) ls st w1 cl sl) : Rw m X pc ls (a4 :: a3 :: a2 :: a1 :: .ref i :: st) (wd σ x) cl sl :=
  R_callV (As := [a1, a2, a3, a4]) hC hR hd hj hl (wd_at hL) hcl hM rfl hdd hroom hcat (fun r w2 hq => by obtain ⟨rfl, rfl⟩ := hq; exact kk)
theorem R_V4r (hC : Cx m X) {j : mi} {idx d dd mcX msX : Nat} {i ci N : Nat} {T : u_T} {fl : List (Nat × Nat)} {a1 a2 a3 a4 : Value} {b : Nat} {w1 : aW} (hR : Rd X dd mcX msX) (hd : decode m.2.1 pc = .ok (.invokevirtual idx, 3)) (hj : MV j 4) (hl : ML m.1.cls idx j) (hL : LY i (2, ci, fl)) (hcl : vwCl[ci]? = some (j.1.cls, T, N)) (hM : Mt j d 0 0 (.ref i :: [a1, a2, a3, a4]) (wd σ x) (QR b w1)) (hdd : d + 1 ≤ dd) (hroom : cl ≤ mcX ∧ sl ≤ msX) (hcat : (st.map fun v => v.category).sum ≤ 8)
    (kk : Rw m X (pc + 3) ls (.ref b :: st) w1 cl sl) : Rw m X pc ls (a4 :: a3 :: a2 :: a1 :: .ref i :: st) (wd σ x) cl sl :=
  R_callV (As := [a1, a2, a3, a4]) hC hR hd hj hl (wd_at hL) hcl hM rfl hdd hroom hcat (fun r w2 hq => by obtain ⟨rfl, rfl⟩ := hq; exact kk)
theorem R_S5g (hC : Cx m X) {j : mi} {idx d dd mcX msX : Nat} {a1 a2 a3 a4 a5 : Value} {Q : Option Value → aW → Prop} (hR : Rd X dd mcX msX) (hd : decode m.2.1 pc = .ok (.invokestatic idx, 3)) (hj : MS j 5) (hl : ML m.1.cls idx j) (hM : Mt j d 0 0 [a1, a2, a3, a4, a5] w Q) (hdd : d + 1 ≤ dd) (hroom : cl ≤ mcX ∧ sl ≤ msX) (hcat : (st.map fun v => v.category).sum ≤ 8)
    (kk : ∀ (r : Option Value) (w1 : aW), Q r w1 → Rw m X (pc + 3) ls (r.toList ++ st) w1 cl sl) : Rw m X pc ls (a5 :: a4 :: a3 :: a2 :: a1 :: st) w cl sl :=
  R_callS (As := [a1, a2, a3, a4, a5]) hC hR hd hj hl hM rfl hdd hroom hcat kk
theorem R_S5i (hC : Cx m X) {j : mi} {idx d dd mcX msX : Nat} {a1 a2 a3 a4 a5 : Value} {v : Int32} {w1 : aW} (hR : Rd X dd mcX msX) (hd : decode m.2.1 pc = .ok (.invokestatic idx, 3)) (hj : MS j 5) (hl : ML m.1.cls idx j) (hM : Mt j d 0 0 [a1, a2, a3, a4, a5] w (QI v w1)) (hdd : d + 1 ≤ dd) (hroom : cl ≤ mcX ∧ sl ≤ msX) (hcat : (st.map fun v => v.category).sum ≤ 8)
    (kk : Rw m X (pc + 3) ls (.int v :: st) w1 cl sl) : Rw m X pc ls (a5 :: a4 :: a3 :: a2 :: a1 :: st) w cl sl :=
  R_callS (As := [a1, a2, a3, a4, a5]) hC hR hd hj hl hM rfl hdd hroom hcat (fun r w2 hq => by obtain ⟨rfl, rfl⟩ := hq; exact kk)
theorem R_S5v (hC : Cx m X) {j : mi} {idx d dd mcX msX : Nat} {a1 a2 a3 a4 a5 : Value} {w1 : aW} (hR : Rd X dd mcX msX) (hd : decode m.2.1 pc = .ok (.invokestatic idx, 3)) (hj : MS j 5) (hl : ML m.1.cls idx j) (hM : Mt j d 0 0 [a1, a2, a3, a4, a5] w (QV w1)) (hdd : d + 1 ≤ dd) (hroom : cl ≤ mcX ∧ sl ≤ msX) (hcat : (st.map fun v => v.category).sum ≤ 8)
    (kk : Rw m X (pc + 3) ls st w1 cl sl) : Rw m X pc ls (a5 :: a4 :: a3 :: a2 :: a1 :: st) w cl sl :=
  R_callS (As := [a1, a2, a3, a4, a5]) hC hR hd hj hl hM rfl hdd hroom hcat (fun r w2 hq => by obtain ⟨rfl, rfl⟩ := hq; exact kk)
theorem R_S5r (hC : Cx m X) {j : mi} {idx d dd mcX msX : Nat} {a1 a2 a3 a4 a5 : Value} {b : Nat} {w1 : aW} (hR : Rd X dd mcX msX) (hd : decode m.2.1 pc = .ok (.invokestatic idx, 3)) (hj : MS j 5) (hl : ML m.1.cls idx j) (hM : Mt j d 0 0 [a1, a2, a3, a4, a5] w (QR b w1)) (hdd : d + 1 ≤ dd) (hroom : cl ≤ mcX ∧ sl ≤ msX) (hcat : (st.map fun v => v.category).sum ≤ 8)
    (kk : Rw m X (pc + 3) ls (.ref b :: st) w1 cl sl) : Rw m X pc ls (a5 :: a4 :: a3 :: a2 :: a1 :: st) w cl sl :=
  R_callS (As := [a1, a2, a3, a4, a5]) hC hR hd hj hl hM rfl hdd hroom hcat (fun r w2 hq => by obtain ⟨rfl, rfl⟩ := hq; exact kk)
theorem R_V5g (hC : Cx m X) {j : mi} {idx d dd mcX msX : Nat} {i ci N : Nat} {T : u_T} {fl : List (Nat × Nat)} {a1 a2 a3 a4 a5 : Value} {Q : Option Value → aW → Prop} (hR : Rd X dd mcX msX) (hd : decode m.2.1 pc = .ok (.invokevirtual idx, 3)) (hj : MV j 5) (hl : ML m.1.cls idx j) (hL : LY i (2, ci, fl)) (hcl : vwCl[ci]? = some (j.1.cls, T, N)) (hM : Mt j d 0 0 (.ref i :: [a1, a2, a3, a4, a5]) (wd σ x) Q) (hdd : d + 1 ≤ dd) (hroom : cl ≤ mcX ∧ sl ≤ msX) (hcat : (st.map fun v => v.category).sum ≤ 8)
    (kk : ∀ (r : Option Value) (w1 : aW), Q r w1 → Rw m X (pc + 3) ls (r.toList ++ st) w1 cl sl) : Rw m X pc ls (a5 :: a4 :: a3 :: a2 :: a1 :: .ref i :: st) (wd σ x) cl sl :=
  R_callV (As := [a1, a2, a3, a4, a5]) hC hR hd hj hl (wd_at hL) hcl hM rfl hdd hroom hcat kk
theorem R_V5i (hC : Cx m X) {j : mi} {idx d dd mcX msX : Nat} {i ci N : Nat} {T : u_T} {fl : List (Nat × Nat)} {a1 a2 a3 a4 a5 : Value} {v : Int32} {w1 : aW} (hR : Rd X dd mcX msX) (hd : decode m.2.1 pc = .ok (.invokevirtual idx, 3)) (hj : MV j 5) (hl : ML m.1.cls idx j) (hL : LY i (2, ci, fl)) (hcl : vwCl[ci]? = some (j.1.cls, T, N)) (hM : Mt j d 0 0 (.ref i :: [a1, a2, a3, a4, a5]) (wd σ x) (QI v w1)) (hdd : d + 1 ≤ dd) (hroom : cl ≤ mcX ∧ sl ≤ msX) (hcat : (st.map fun v => v.category).sum ≤ 8)
    (kk : Rw m X (pc + 3) ls (.int v :: st) w1 cl sl) : Rw m X pc ls (a5 :: a4 :: a3 :: a2 :: a1 :: .ref i :: st) (wd σ x) cl sl :=
  R_callV (As := [a1, a2, a3, a4, a5]) hC hR hd hj hl (wd_at hL) hcl hM rfl hdd hroom hcat (fun r w2 hq => by obtain ⟨rfl, rfl⟩ := hq; exact kk)
theorem R_V5v (hC : Cx m X) {j : mi} {idx d dd mcX msX : Nat} {i ci N : Nat} {T : u_T} {fl : List (Nat × Nat)} {a1 a2 a3 a4 a5 : Value} {w1 : aW} (hR : Rd X dd mcX msX) (hd : decode m.2.1 pc = .ok (.invokevirtual idx, 3)) (hj : MV j 5) (hl : ML m.1.cls idx j) (hL : LY i (2, ci, fl)) (hcl : vwCl[ci]? = some (j.1.cls, T, N)) (hM : Mt j d 0 0 (.ref i :: [a1, a2, a3, a4, a5]) (wd σ x) (QV w1)) (hdd : d + 1 ≤ dd) (hroom : cl ≤ mcX ∧ sl ≤ msX) (hcat : (st.map fun v => v.category).sum ≤ 8)
    (kk : Rw m X (pc + 3) ls st w1 cl sl) : Rw m X pc ls (a5 :: a4 :: a3 :: a2 :: a1 :: .ref i :: st) (wd σ x) cl sl :=
  R_callV (As := [a1, a2, a3, a4, a5]) hC hR hd hj hl (wd_at hL) hcl hM rfl hdd hroom hcat (fun r w2 hq => by obtain ⟨rfl, rfl⟩ := hq; exact kk)
theorem R_V5r (hC : Cx m X) {j : mi} {idx d dd mcX msX : Nat} {i ci N : Nat} {T : u_T} {fl : List (Nat × Nat)} {a1 a2 a3 a4 a5 : Value} {b : Nat} {w1 : aW} (hR : Rd X dd mcX msX) (hd : decode m.2.1 pc = .ok (.invokevirtual idx, 3)) (hj : MV j 5) (hl : ML m.1.cls idx j) (hL : LY i (2, ci, fl)) (hcl : vwCl[ci]? = some (j.1.cls, T, N)) (hM : Mt j d 0 0 (.ref i :: [a1, a2, a3, a4, a5]) (wd σ x) (QR b w1)) (hdd : d + 1 ≤ dd) (hroom : cl ≤ mcX ∧ sl ≤ msX) (hcat : (st.map fun v => v.category).sum ≤ 8)
    (kk : Rw m X (pc + 3) ls (.ref b :: st) w1 cl sl) : Rw m X pc ls (a5 :: a4 :: a3 :: a2 :: a1 :: .ref i :: st) (wd σ x) cl sl :=
  R_callV (As := [a1, a2, a3, a4, a5]) hC hR hd hj hl (wd_at hL) hcl hM rfl hdd hroom hcat (fun r w2 hq => by obtain ⟨rfl, rfl⟩ := hq; exact kk)
theorem R_S6g (hC : Cx m X) {j : mi} {idx d dd mcX msX : Nat} {a1 a2 a3 a4 a5 a6 : Value} {Q : Option Value → aW → Prop} (hR : Rd X dd mcX msX) (hd : decode m.2.1 pc = .ok (.invokestatic idx, 3)) (hj : MS j 6) (hl : ML m.1.cls idx j) (hM : Mt j d 0 0 [a1, a2, a3, a4, a5, a6] w Q) (hdd : d + 1 ≤ dd) (hroom : cl ≤ mcX ∧ sl ≤ msX) (hcat : (st.map fun v => v.category).sum ≤ 8)
    (kk : ∀ (r : Option Value) (w1 : aW), Q r w1 → Rw m X (pc + 3) ls (r.toList ++ st) w1 cl sl) : Rw m X pc ls (a6 :: a5 :: a4 :: a3 :: a2 :: a1 :: st) w cl sl :=
  R_callS (As := [a1, a2, a3, a4, a5, a6]) hC hR hd hj hl hM rfl hdd hroom hcat kk
theorem R_S6i (hC : Cx m X) {j : mi} {idx d dd mcX msX : Nat} {a1 a2 a3 a4 a5 a6 : Value} {v : Int32} {w1 : aW} (hR : Rd X dd mcX msX) (hd : decode m.2.1 pc = .ok (.invokestatic idx, 3)) (hj : MS j 6) (hl : ML m.1.cls idx j) (hM : Mt j d 0 0 [a1, a2, a3, a4, a5, a6] w (QI v w1)) (hdd : d + 1 ≤ dd) (hroom : cl ≤ mcX ∧ sl ≤ msX) (hcat : (st.map fun v => v.category).sum ≤ 8)
    (kk : Rw m X (pc + 3) ls (.int v :: st) w1 cl sl) : Rw m X pc ls (a6 :: a5 :: a4 :: a3 :: a2 :: a1 :: st) w cl sl :=
  R_callS (As := [a1, a2, a3, a4, a5, a6]) hC hR hd hj hl hM rfl hdd hroom hcat (fun r w2 hq => by obtain ⟨rfl, rfl⟩ := hq; exact kk)
theorem R_S6v (hC : Cx m X) {j : mi} {idx d dd mcX msX : Nat} {a1 a2 a3 a4 a5 a6 : Value} {w1 : aW} (hR : Rd X dd mcX msX) (hd : decode m.2.1 pc = .ok (.invokestatic idx, 3)) (hj : MS j 6) (hl : ML m.1.cls idx j) (hM : Mt j d 0 0 [a1, a2, a3, a4, a5, a6] w (QV w1)) (hdd : d + 1 ≤ dd) (hroom : cl ≤ mcX ∧ sl ≤ msX) (hcat : (st.map fun v => v.category).sum ≤ 8)
    (kk : Rw m X (pc + 3) ls st w1 cl sl) : Rw m X pc ls (a6 :: a5 :: a4 :: a3 :: a2 :: a1 :: st) w cl sl :=
  R_callS (As := [a1, a2, a3, a4, a5, a6]) hC hR hd hj hl hM rfl hdd hroom hcat (fun r w2 hq => by obtain ⟨rfl, rfl⟩ := hq; exact kk)
theorem R_S6r (hC : Cx m X) {j : mi} {idx d dd mcX msX : Nat} {a1 a2 a3 a4 a5 a6 : Value} {b : Nat} {w1 : aW} (hR : Rd X dd mcX msX) (hd : decode m.2.1 pc = .ok (.invokestatic idx, 3)) (hj : MS j 6) (hl : ML m.1.cls idx j) (hM : Mt j d 0 0 [a1, a2, a3, a4, a5, a6] w (QR b w1)) (hdd : d + 1 ≤ dd) (hroom : cl ≤ mcX ∧ sl ≤ msX) (hcat : (st.map fun v => v.category).sum ≤ 8)
    (kk : Rw m X (pc + 3) ls (.ref b :: st) w1 cl sl) : Rw m X pc ls (a6 :: a5 :: a4 :: a3 :: a2 :: a1 :: st) w cl sl :=
  R_callS (As := [a1, a2, a3, a4, a5, a6]) hC hR hd hj hl hM rfl hdd hroom hcat (fun r w2 hq => by obtain ⟨rfl, rfl⟩ := hq; exact kk)
theorem R_V6g (hC : Cx m X) {j : mi} {idx d dd mcX msX : Nat} {i ci N : Nat} {T : u_T} {fl : List (Nat × Nat)} {a1 a2 a3 a4 a5 a6 : Value} {Q : Option Value → aW → Prop} (hR : Rd X dd mcX msX) (hd : decode m.2.1 pc = .ok (.invokevirtual idx, 3)) (hj : MV j 6) (hl : ML m.1.cls idx j) (hL : LY i (2, ci, fl)) (hcl : vwCl[ci]? = some (j.1.cls, T, N)) (hM : Mt j d 0 0 (.ref i :: [a1, a2, a3, a4, a5, a6]) (wd σ x) Q) (hdd : d + 1 ≤ dd) (hroom : cl ≤ mcX ∧ sl ≤ msX) (hcat : (st.map fun v => v.category).sum ≤ 8)
    (kk : ∀ (r : Option Value) (w1 : aW), Q r w1 → Rw m X (pc + 3) ls (r.toList ++ st) w1 cl sl) : Rw m X pc ls (a6 :: a5 :: a4 :: a3 :: a2 :: a1 :: .ref i :: st) (wd σ x) cl sl :=
  R_callV (As := [a1, a2, a3, a4, a5, a6]) hC hR hd hj hl (wd_at hL) hcl hM rfl hdd hroom hcat kk
theorem R_V6i (hC : Cx m X) {j : mi} {idx d dd mcX msX : Nat} {i ci N : Nat} {T : u_T} {fl : List (Nat × Nat)} {a1 a2 a3 a4 a5 a6 : Value} {v : Int32} {w1 : aW} (hR : Rd X dd mcX msX) (hd : decode m.2.1 pc = .ok (.invokevirtual idx, 3)) (hj : MV j 6) (hl : ML m.1.cls idx j) (hL : LY i (2, ci, fl)) (hcl : vwCl[ci]? = some (j.1.cls, T, N)) (hM : Mt j d 0 0 (.ref i :: [a1, a2, a3, a4, a5, a6]) (wd σ x) (QI v w1)) (hdd : d + 1 ≤ dd) (hroom : cl ≤ mcX ∧ sl ≤ msX) (hcat : (st.map fun v => v.category).sum ≤ 8)
    (kk : Rw m X (pc + 3) ls (.int v :: st) w1 cl sl) : Rw m X pc ls (a6 :: a5 :: a4 :: a3 :: a2 :: a1 :: .ref i :: st) (wd σ x) cl sl :=
  R_callV (As := [a1, a2, a3, a4, a5, a6]) hC hR hd hj hl (wd_at hL) hcl hM rfl hdd hroom hcat (fun r w2 hq => by obtain ⟨rfl, rfl⟩ := hq; exact kk)
theorem R_V6v (hC : Cx m X) {j : mi} {idx d dd mcX msX : Nat} {i ci N : Nat} {T : u_T} {fl : List (Nat × Nat)} {a1 a2 a3 a4 a5 a6 : Value} {w1 : aW} (hR : Rd X dd mcX msX) (hd : decode m.2.1 pc = .ok (.invokevirtual idx, 3)) (hj : MV j 6) (hl : ML m.1.cls idx j) (hL : LY i (2, ci, fl)) (hcl : vwCl[ci]? = some (j.1.cls, T, N)) (hM : Mt j d 0 0 (.ref i :: [a1, a2, a3, a4, a5, a6]) (wd σ x) (QV w1)) (hdd : d + 1 ≤ dd) (hroom : cl ≤ mcX ∧ sl ≤ msX) (hcat : (st.map fun v => v.category).sum ≤ 8)
    (kk : Rw m X (pc + 3) ls st w1 cl sl) : Rw m X pc ls (a6 :: a5 :: a4 :: a3 :: a2 :: a1 :: .ref i :: st) (wd σ x) cl sl :=
  R_callV (As := [a1, a2, a3, a4, a5, a6]) hC hR hd hj hl (wd_at hL) hcl hM rfl hdd hroom hcat (fun r w2 hq => by obtain ⟨rfl, rfl⟩ := hq; exact kk)
theorem R_V6r (hC : Cx m X) {j : mi} {idx d dd mcX msX : Nat} {i ci N : Nat} {T : u_T} {fl : List (Nat × Nat)} {a1 a2 a3 a4 a5 a6 : Value} {b : Nat} {w1 : aW} (hR : Rd X dd mcX msX) (hd : decode m.2.1 pc = .ok (.invokevirtual idx, 3)) (hj : MV j 6) (hl : ML m.1.cls idx j) (hL : LY i (2, ci, fl)) (hcl : vwCl[ci]? = some (j.1.cls, T, N)) (hM : Mt j d 0 0 (.ref i :: [a1, a2, a3, a4, a5, a6]) (wd σ x) (QR b w1)) (hdd : d + 1 ≤ dd) (hroom : cl ≤ mcX ∧ sl ≤ msX) (hcat : (st.map fun v => v.category).sum ≤ 8)
    (kk : Rw m X (pc + 3) ls (.ref b :: st) w1 cl sl) : Rw m X pc ls (a6 :: a5 :: a4 :: a3 :: a2 :: a1 :: .ref i :: st) (wd σ x) cl sl :=
  R_callV (As := [a1, a2, a3, a4, a5, a6]) hC hR hd hj hl (wd_at hL) hcl hM rfl hdd hroom hcat (fun r w2 hq => by obtain ⟨rfl, rfl⟩ := hq; exact kk)
end CALLN
theorem up_loop {P : Nat → Prop} (n : Nat) (hn : P n) (hs : ∀ i, i < n → P (i + 1) → P i) : ∀ i, i ≤ n → P i := by
  intro i hi
  obtain ⟨k, rfl⟩ : ∃ k, n = i + k := ⟨n - i, by omega⟩
  clear hi
  induction k generalizing i with
  | zero => exact hn
  | succ k ih => exact hs i (by omega) (ih (i + 1) (by rw [show i + 1 + k = i + (k + 1) by omega]; exact hn) (fun j hj hp => hs j (by omega) hp))
theorem inc1 (i : Nat) : nI i + Int32.ofInt 1 = nI (i + 1) := (nI_succ i).symm

