/-! ===== counting, reaching ===== -/
noncomputable def cnO (p : Nat → Prop) : Nat → Nat
  | 0 => 0
  | n + 1 => by classical exact (cnO p n + (if p n then 1 else 0))
theorem cnO_y {p : Nat → Prop} {n : Nat} (h : p n) : cnO p (n + 1) = cnO p n + 1 := by rw [cnO, if_pos h]
theorem cnO_n {p : Nat → Prop} {n : Nat} (h : ¬ p n) : cnO p (n + 1) = cnO p n := by rw [cnO, if_neg h]; rfl
theorem cnO_ext {p q : Nat → Prop} : ∀ n, (∀ k, k < n → (p k ↔ q k)) → cnO p n = cnO q n
  | 0, _ => rfl
  | n + 1, h => by
    have ih := cnO_ext n (fun k hk => h k (by omega))
    by_cases e : p n
    · rw [cnO_y e, cnO_y ((h n (by omega)).mp e), ih]
    · rw [cnO_n e, cnO_n (fun z => e ((h n (by omega)).mpr z)), ih]
theorem cnO_le {p : Nat → Prop} : ∀ n, cnO p n ≤ n
  | 0 => Nat.le_refl _
  | n + 1 => by
    have ih := cnO_le (p := p) n
    by_cases e : p n
    · rw [cnO_y e]; omega
    · rw [cnO_n e]; omega
theorem cnO_sub {p q : Nat → Prop} : ∀ n, (∀ k, k < n → p k → q k) → cnO p n ≤ cnO q n
  | 0, _ => Nat.le_refl _
  | n + 1, h => by
    have ih := cnO_sub n (fun k hk => h k (by omega))
    by_cases e : p n
    · rw [cnO_y e, cnO_y (h n (by omega) e)]; omega
    · rw [cnO_n e]
      by_cases e2 : q n
      · rw [cnO_y e2]; omega
      · rw [cnO_n e2]; exact ih
theorem cnO_lt {p q : Nat → Prop} {b : Nat} (hp : ¬ p b) (hq : q b) : ∀ n, b < n → (∀ k, k < n → p k → q k) → cnO p n + 1 ≤ cnO q n
  | 0, h, _ => absurd h (Nat.not_lt_zero _)
  | n + 1, hb, h => by
    by_cases e : b = n
    · subst e
      rw [cnO_n hp, cnO_y hq]
      have := cnO_sub b (fun k hk => h k (by omega))
      omega
    · have ih := cnO_lt hp hq n (by omega) (fun k hk => h k (by omega))
      by_cases e1 : p n
      · rw [cnO_y e1, cnO_y (h n (by omega) e1)]; omega
      · rw [cnO_n e1]
        by_cases e2 : q n
        · rw [cnO_y e2]; omega
        · rw [cnO_n e2]; exact ih
theorem cnO_0 {p : Nat → Prop} : ∀ n, cnO p n = 0 → ∀ k, k < n → ¬ p k
  | 0, _, k, hk => absurd hk (Nat.not_lt_zero _)
  | n + 1, h, k, hk => by
    by_cases e : p n
    · rw [cnO_y e] at h; omega
    · rw [cnO_n e] at h
      rcases (by omega : k < n ∨ k = n) with z | rfl
      · exact cnO_0 n h k z
      · exact e
theorem cnO_z {p : Nat → Prop} : ∀ n, (∀ k, k < n → ¬ p k) → cnO p n = 0
  | 0, _ => rfl
  | n + 1, h => by rw [cnO_n (h n (by omega))]; exact cnO_z n (fun k hk => h k (by omega))
/-- one less -/
theorem cnO_one {p q : Nat → Prop} {b : Nat} (hp : p b) (hq : ¬ q b) : ∀ n, b < n → (∀ k, k ≠ b → (p k ↔ q k)) → cnO p n = cnO q n + 1
  | 0, h, _ => absurd h (Nat.not_lt_zero _)
  | n + 1, hb, h => by
    by_cases e : b = n
    · subst e
      rw [cnO_y hp, cnO_n hq, cnO_ext b (fun k hk => h k (by omega))]
    · have ih := cnO_one hp hq n (by omega) h
      by_cases e1 : p n
      · rw [cnO_y e1, cnO_y ((h n (Ne.symm e)).mp e1)]; omega
      · rw [cnO_n e1, cnO_n (fun z => e1 ((h n (Ne.symm e)).mpr z)), ih]
theorem rch_tr {T : tb} {a b : Nat} {n : Nat} (h : rch T a n b) : ∀ m c, rch T b m c → rch T a (n + m) c
  | 0, c, k => by have k : c = b := k; rw [k]; exact h
  | m + 1, c, k => by
    rcases k with k | ⟨d, d1, d2, d3⟩
    · exact Or.inl (rch_tr h m c k)
    · exact Or.inr ⟨d, d1, rch_tr h m d d2, d3⟩
theorem rch_sy {T : tb} {a : Nat} (ha : a < 12) : ∀ n b, b < 12 → rch T a n b → rch T b n a
  | 0, b, _, h => by have h : b = a := h; exact h.symm
  | n + 1, b, hb, h => by
    rcases h with h | ⟨d, d1, d2, d3⟩
    · exact Or.inl (rch_sy ha n b hb h)
    · have h1 : rch T b 1 d := Or.inr ⟨b, hb, rfl, adj_sym d3⟩
      have h2 := rch_tr h1 n a (rch_sy ha n d d1 d2)
      rwa [Nat.add_comm] at h2
def rel (T : tb) (a b : Nat) : Prop := ∃ n, rch T a n b
theorem rel.tr {T : tb} {a b c : Nat} (h : rel T a b) (k : rel T b c) : rel T a c := ⟨_, rch_tr h.choose_spec _ _ k.choose_spec⟩
theorem rel.sy {T : tb} {a b : Nat} (ha : a < 12) (hb : b < 12) (h : rel T a b) : rel T b a := ⟨_, rch_sy ha _ b hb h.choose_spec⟩
theorem rel.rf (T : tb) (a : Nat) : rel T a a := ⟨0, rfl⟩
theorem rel.e {T : tb} {a b : Nat} (ha : a < 12) (h : adj T a b) : rel T a b := ⟨1, Or.inr ⟨a, ha, rfl, h⟩⟩
theorem rch_sub {T U : tb} (h : ∀ a b, adj T a b → adj U a b) {g : Nat} : ∀ n b, rch T g n b → rch U g n b
  | 0, _, k => k
  | n + 1, b, k => k.elim (fun k => Or.inl (rch_sub h n b k)) (fun ⟨d, d1, d2, d3⟩ => Or.inr ⟨d, d1, rch_sub h n d d2, h _ _ d3⟩)
theorem rel.sub {T U : tb} (h : ∀ a b, adj T a b → adj U a b) {a b : Nat} (k : rel T a b) : rel U a b := ⟨_, rch_sub h _ _ k.choose_spec⟩
theorem adj_lt {T : tb} {a b : Nat} (h6 : T.1 ≤ 6) (h7 : T.2.1 ≤ 6) (h : adj T a b) : b < 12 := by
  rcases h with ⟨h1, h2, h3⟩ | ⟨h1, h2, h3⟩
  · have := h3.2.1; omega
  · omega
/-- what can be reached at all is reached by 12 -/
theorem rch_12 {T : tb} (h6 : T.1 ≤ 6) (h7 : T.2.1 ≤ 6) {g : Nat} (hg : g < 12) {n b : Nat} (h : rch T g n b) : rch T g 12 b := by
  have st : ∀ n, (∃ m, m ≤ n ∧ ∀ b, rch T g (m + 1) b → rch T g m b) ∨ n + 1 ≤ cnO (rch T g n) 12 := by
    intro n
    induction n with
    | zero =>
      right
      have := cnO_lt (p := fun _ => False) (q := rch T g 0) (b := g) (fun z => z) rfl 12 hg (fun _ _ z => z.elim)
      omega
    | succ n ih =>
      rcases ih with ⟨m, h1, h2⟩ | ih
      · exact Or.inl ⟨m, by omega, h2⟩
      · by_cases e : ∀ b, rch T g (n + 1) b → rch T g n b
        · exact Or.inl ⟨n, by omega, e⟩
        · right
          obtain ⟨b, hb⟩ := Classical.not_forall.mp e
          have hb1 : rch T g (n + 1) b := Classical.byContradiction fun z => hb (fun y => absurd y z)
          have hb2 : ¬ rch T g n b := fun z => hb (fun _ => z)
          have hb3 : b < 12 := by
            rcases hb1 with z | ⟨d, d1, d2, d3⟩
            · exact absurd z hb2
            · exact adj_lt h6 h7 d3
          have := cnO_lt (p := rch T g n) (q := rch T g (n + 1)) hb2 hb1 12 hb3 (fun _ _ z => Or.inl z)
          omega
  rcases st 12 with ⟨m, h1, h2⟩ | h1
  · have h3 : ∀ k b, rch T g k b → rch T g m b := by
      intro k
      induction k with
      | zero => intro b z; exact rch_mono z m (Nat.zero_le _)
      | succ k ih =>
        intro b z
        rcases z with z | ⟨d, d1, d2, d3⟩
        · exact ih b z
        · exact h2 b (Or.inr ⟨d, d1, ih d d2, d3⟩)
    exact rch_mono (h3 n b h) 12 h1
  · have := cnO_le (p := rch T g 12) 12; omega
theorem ds_ex {T : tb} {g b : Nat} : ∀ n, rch T g n b → ∃ k, k ≤ n ∧ ds T g b k
  | 0, h => ⟨0, Nat.le_refl _, h, fun m hm => absurd hm (Nat.not_lt_zero _)⟩
  | n + 1, h => by
    by_cases e : rch T g n b
    · obtain ⟨k, h1, h2⟩ := ds_ex n e; exact ⟨k, by omega, h2⟩
    · exact ⟨n + 1, Nat.le_refl _, h, fun m hm z => e (rch_mono z n (by omega))⟩
theorem ds_u {T : tb} {g b n m : Nat} (h : ds T g b n) (k : ds T g b m) : n = m := by
  rcases Nat.lt_trichotomy n m with z | z | z
  · exact absurd h.1 (k.2 n z)
  · exact z
  · exact absurd k.1 (h.2 m z)
theorem rel_ds {T : tb} (h6 : T.1 ≤ 6) (h7 : T.2.1 ≤ 6) {g b : Nat} (hg : g < 12) (h : rel T g b) : ∃ k, k ≤ 12 ∧ ds T g b k := ds_ex 12 (rch_12 h6 h7 hg h.choose_spec)
theorem ds_pred {T : tb} {g a n : Nat} (h : ds T g a (n + 1)) : ∃ b, b < 12 ∧ adj T a b ∧ ds T g b n := by
  rcases h.1 with z | ⟨b, b1, b2, b3⟩
  · exact absurd z (h.2 n (by omega))
  · exact ⟨b, b1, adj_sym b3, b2, fun m hm y => h.2 (m + 1) (by omega) (Or.inr ⟨b, b1, y, b3⟩)⟩
/-! ===== the signs ===== -/
abbrev f1S : Type := (Nat → Nat) × (Nat → Nat → Int32)
def setS (S : Nat → Nat → Int32) (r c : Nat) (v : Int32) : Nat → Nat → Int32 := fun i j => if i = r ∧ j = c then v else S i j
/-- an entry met: its row and its column come together, if they are apart yet -/
def f1 (T : tb) (r c : Nat) (v : f1S) : f1S := if T.2.2 r c = 0 ∨ v.1 r = v.1 (6 + c) then v else (fun k => if v.1 k = v.1 (6 + c) then v.1 r else v.1 k, setS v.2 r c 1)
def f1R (T : tb) (n : Nat) : f1S := fo (fun r v => fo (f1 T r) 0 T.2.1 v) 0 n (id, fun _ _ => 0)
def f1C (T : tb) (n m : Nat) : f1S := fo (f1 T n) 0 m (f1R T n)
theorem f1R_s (T : tb) (n : Nat) : f1R T (n + 1) = f1C T n T.2.1 := fo_s _ (Nat.zero_le n) _
theorem f1C_s (T : tb) (n m : Nat) : f1C T n (m + 1) = f1 T n m (f1C T n m) := fo_s _ (Nat.zero_le m) _
theorem f1C_0 (T : tb) (n : Nat) : f1C T n 0 = f1R T n := rfl
abbrev tS2 (T : tb) (S : Nat → Nat → Int32) : tb := (T.1, T.2.1, S)
/-- what holds when the cells ahead of (n, m) have been met -/
def J1 (T : tb) (n m : Nat) (v : f1S) : Prop :=
  (∀ k, k < 12 → v.1 k < 12) ∧ (∀ r c, r < T.1 → c < T.2.1 → (r < n ∨ (r = n ∧ c < m)) → ¬ T.2.2 r c = 0 → v.1 r = v.1 (6 + c)) ∧
  (∀ a b, a < 12 → b < 12 → v.1 a = v.1 b → rel (tS2 T v.2) a b) ∧ (∀ r c, v.2 r c = 0 ∨ v.2 r c = 1) ∧ (∀ r c, ¬ v.2 r c = 0 → r < T.1 ∧ c < T.2.1 ∧ (r < n ∨ (r = n ∧ c < m)) ∧ ¬ T.2.2 r c = 0)
theorem J1_step {T : tb} {n m : Nat} {v : f1S} (h6 : T.1 ≤ 6) (h7 : T.2.1 ≤ 6) (hn : n < T.1) (hm : m < T.2.1) (h : J1 T n m v) : J1 T n (m + 1) (f1 T n m v) := by
  obtain ⟨i0, i1, i2, i3, i4⟩ := h
  unfold f1
  by_cases e : T.2.2 n m = 0 ∨ v.1 n = v.1 (6 + m)
  · rw [if_pos e]
    refine ⟨i0, fun r c hr hc z y => ?_, i2, i3, fun r c z => ?_⟩
    · by_cases q : r = n ∧ c = m
      · obtain ⟨rfl, rfl⟩ := q
        exact e.resolve_left y
      · exact i1 r c hr hc (by omega) y
    · obtain ⟨a, b, c, d⟩ := i4 r c z
      exact ⟨a, b, by omega, d⟩
  · rw [if_neg e]
    have e1 : ¬ T.2.2 n m = 0 := fun z => e (Or.inl z)
    have sub : ∀ a b, adj (tS2 T v.2) a b → adj (tS2 T (setS v.2 n m 1)) a b := by
      have t : ∀ r c, tld (tS2 T v.2) r c → tld (tS2 T (setS v.2 n m 1)) r c := fun r c z => ⟨z.1, z.2.1, by
        show ¬ (if r = n ∧ c = m then (1 : Int32) else v.2 r c) = 0
        split
        · decide
        · exact z.2.2⟩
      rintro a b (⟨z1, z2, z3⟩ | ⟨z1, z2, z3⟩)
      · exact Or.inl ⟨z1, z2, t _ _ z3⟩
      · exact Or.inr ⟨z1, z2, t _ _ z3⟩
    have ed : rel (tS2 T (setS v.2 n m 1)) (6 + m) n := rel.e (by omega) (Or.inr ⟨by omega, by omega, by omega, by rw [show 6 + m - 6 = m by omega]; exact hm, by
      show ¬ (if n = n ∧ 6 + m - 6 = m then (1 : Int32) else v.2 n (6 + m - 6)) = 0
      rw [if_pos ⟨rfl, by omega⟩]; decide⟩)
    have up : ∀ a b, a < 12 → b < 12 → v.1 a = v.1 b → rel (tS2 T (setS v.2 n m 1)) a b := fun a b ha hb z => (i2 a b ha hb z).sub sub
    refine ⟨fun k hk => ?_, fun r c hr hc z y => ?_, fun a b ha hb z => ?_, fun r c => ?_, fun r c z => ?_⟩
    · show (if v.1 k = v.1 (6 + m) then v.1 n else v.1 k) < 12
      split
      · exact i0 n (by omega)
      · exact i0 k hk
    · show (if v.1 r = v.1 (6 + m) then v.1 n else v.1 r) = (if v.1 (6 + c) = v.1 (6 + m) then v.1 n else v.1 (6 + c))
      by_cases q : r = n ∧ c = m
      · obtain ⟨rfl, rfl⟩ := q
        rw [if_pos rfl]
        split <;> rfl
      · rw [i1 r c hr hc (by omega) y]
    · have z : (if v.1 a = v.1 (6 + m) then v.1 n else v.1 a) = (if v.1 b = v.1 (6 + m) then v.1 n else v.1 b) := z
      by_cases qa : v.1 a = v.1 (6 + m)
      · by_cases qb : v.1 b = v.1 (6 + m)
        · exact up a b ha hb (qa.trans qb.symm)
        · rw [if_pos qa, if_neg qb] at z
          exact ((up a (6 + m) ha (by omega) qa).tr ed).tr (up n b (by omega) hb z)
      · by_cases qb : v.1 b = v.1 (6 + m)
        · rw [if_neg qa, if_pos qb] at z
          exact ((up a n ha (by omega) z).tr (ed.sy (by omega) (by omega))).tr (up (6 + m) b (by omega) hb qb.symm)
        · rw [if_neg qa, if_neg qb] at z
          exact up a b ha hb z
    · show (if r = n ∧ c = m then (1 : Int32) else v.2 r c) = 0 ∨ (if r = n ∧ c = m then (1 : Int32) else v.2 r c) = 1
      split
      · exact Or.inr rfl
      · exact i3 r c
    · have z : ¬ (if r = n ∧ c = m then (1 : Int32) else v.2 r c) = 0 := z
      by_cases q : r = n ∧ c = m
      · obtain ⟨rfl, rfl⟩ := q
        exact ⟨hn, hm, by omega, e1⟩
      · rw [if_neg q] at z
        obtain ⟨a, b, c, d⟩ := i4 r c z
        exact ⟨a, b, by omega, d⟩
theorem J1_C {T : tb} (h6 : T.1 ≤ 6) (h7 : T.2.1 ≤ 6) {n : Nat} (hn : n < T.1) (h : J1 T n 0 (f1R T n)) : ∀ m, m ≤ T.2.1 → J1 T n m (f1C T n m)
  | 0, _ => h
  | m + 1, hm => by rw [f1C_s]; exact J1_step h6 h7 hn (by omega) (J1_C h6 h7 hn h m (by omega))
theorem J1_R {T : tb} (h6 : T.1 ≤ 6) (h7 : T.2.1 ≤ 6) : ∀ n, n ≤ T.1 → J1 T n 0 (f1R T n)
  | 0, _ => ⟨fun k hk => hk, fun r c _ _ z => by omega, fun a b _ _ z => by have z : a = b := z; rw [z]; exact rel.rf _ _, fun r c => Or.inl rfl, fun r c z => absurd rfl z⟩
  | n + 1, hn => by
    rw [f1R_s]
    obtain ⟨i0, i1, i2, i3, i4⟩ := J1_C h6 h7 (by omega) (J1_R h6 h7 n (by omega)) T.2.1 (Nat.le_refl _)
    exact ⟨i0, fun r c hr hc z y => i1 r c hr hc (by omega) y, i2, i3, fun r c z => by obtain ⟨a, b, c, d⟩ := i4 r c z; exact ⟨a, b, by omega, d⟩⟩
/-- an entry not yet told -/
def opq (T : tb) (S : Nat → Nat → Int32) (r c : Nat) : Prop := r < T.1 ∧ c < T.2.1 ∧ ¬ T.2.2 r c = 0 ∧ S r c = 0
/-- the entry to be told next: its row, its column, how far -/
def bstC (T : tb) (S : Nat → Nat → Int32) (p : Nat × Nat × Nat) : Prop := opq T S p.1 p.2.1 ∧ p.2.2 ≤ 12 ∧ ds (tS2 T S) (6 + p.2.1) p.1 p.2.2 ∧ ∀ r c k, opq T S r c → k ≤ 12 → ds (tS2 T S) (6 + c) r k → p.2.2 < k ∨ (p.2.2 = k ∧ 6 * p.1 + p.2.1 ≤ 6 * r + c)
theorem bstC_u {T : tb} {S : Nat → Nat → Int32} {p q : Nat × Nat × Nat} (h7 : T.2.1 ≤ 6) (h : bstC T S p) (k : bstC T S q) : p = q := by
  have h1 := h.2.2.2 _ _ _ k.1 k.2.1 k.2.2.1
  have h2 := k.2.2.2 _ _ _ h.1 h.2.1 h.2.2.1
  have h3 := h.1.2.1
  have h4 := k.1.2.1
  exact Prod.ext (by omega) (Prod.ext (by omega) (by omega))
noncomputable def lstH (T : tb) (g a n b : Nat) : Option Nat := by classical exact (if (adj T a b ∧ ds T g b n) then some b else none)
/-- the signs added up on the way of n entries from a to g -/
noncomputable def wk (T : tb) (g : Nat) : Nat → Nat → Int32
  | 0, _ => 0
  | n + 1, a => match fs (lstH T g a n) 0 12 with
    | some b => eSg T.2.2 a b + wk T g n b
    | none => 0
def vS (s : Int32) : Int32 := if (s + 1) - (s + 1) / 4 * 4 = 0 then 1 else -1
theorem vS_v (s : Int32) : vS s = 1 ∨ vS s = -1 := by unfold vS; split; exact Or.inl rfl; exact Or.inr rfl
noncomputable def sg2 (T : tb) : Nat → (Nat → Nat → Int32) → (Nat → Nat → Int32)
  | 0, S => S
  | f + 1, S => by classical exact (if h : ∃ p, bstC T S p then sg2 T f (setS S (Classical.choose h).1 (Classical.choose h).2.1 (vS (wk (tS2 T S) (6 + (Classical.choose h).2.1) (Classical.choose h).2.2 (Classical.choose h).1))) else S)
theorem sg2_y {T : tb} {S : Nat → Nat → Int32} {f : Nat} {r c k : Nat} (h7 : T.2.1 ≤ 6) (h : bstC T S (r, c, k)) : sg2 T (f + 1) S = sg2 T f (setS S r c (vS (wk (tS2 T S) (6 + c) k r))) := by
  rw [sg2, dif_pos ⟨_, h⟩, bstC_u h7 (Classical.choose_spec ⟨_, h⟩) h]
theorem sg2_n {T : tb} {S : Nat → Nat → Int32} (h : ∀ p, ¬ bstC T S p) : ∀ f, sg2 T f S = S
  | 0 => rfl
  | f + 1 => by rw [sg2, dif_neg (fun ⟨p, q⟩ => h p q)]
noncomputable def sgnA (T : tb) : tb := (T.1, T.2.1, sg2 T 36 (f1R T T.1).2)
