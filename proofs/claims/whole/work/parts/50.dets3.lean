/-! ===== determinants by any row, by any column, transposed ===== -/
def sgn (n : Nat) (v : Int32) : Int32 := if n % 2 = 0 then v else -v
theorem sgn_sgn (a b : Nat) (v : Int32) : sgn a (sgn b v) = sgn (a + b) v := by
  unfold sgn
  rcases (by omega : (a % 2 = 0 ∧ b % 2 = 0 ∧ (a + b) % 2 = 0) ∨ (a % 2 = 0 ∧ ¬ b % 2 = 0 ∧ ¬ (a + b) % 2 = 0) ∨ (¬ a % 2 = 0 ∧ b % 2 = 0 ∧ ¬ (a + b) % 2 = 0) ∨ (¬ a % 2 = 0 ∧ ¬ b % 2 = 0 ∧ (a + b) % 2 = 0)) with ⟨h1, h2, h3⟩ | ⟨h1, h2, h3⟩ | ⟨h1, h2, h3⟩ | ⟨h1, h2, h3⟩ <;> simp [h1, h2, h3]
theorem sgn_mod {a b : Nat} (h : a % 2 = b % 2) (v : Int32) : sgn a v = sgn b v := by unfold sgn; rw [h]
theorem sgn_mul (n : Nat) (x v : Int32) : x * sgn n v = sgn n (x * v) := by
  unfold sgn; split
  · rfl
  · rw [Int32.mul_neg]
theorem sgn_0 (n : Nat) : sgn n 0 = 0 := by unfold sgn; split <;> simp
theorem sgn_add (n : Nat) (u v : Int32) : sgn n (u + v) = sgn n u + sgn n v := by
  unfold sgn; split
  · rfl
  · rw [Int32.neg_add, Int32.sub_eq_add_neg]
theorem sgn_sm (n : Nat) (g : Nat → Int32) : ∀ k, sgn n (sm g k) = sm (fun i => sgn n (g i)) k
  | 0 => sgn_0 n
  | k + 1 => by rw [sm, sm, sgn_add, sgn_sm n g k]
theorem mul_sm (x : Int32) (g : Nat → Int32) : ∀ k, x * sm g k = sm (fun i => x * g i) k
  | 0 => by show x * 0 = 0; rw [Int32.mul_zero]
  | k + 1 => by rw [sm, sm, Int32.mul_add, mul_sm x g k]
theorem sm_add (g h : Nat → Int32) : ∀ k, sm (fun i => g i + h i) k = sm g k + sm h k
  | 0 => by show (0 : Int32) = 0 + 0; rfl
  | k + 1 => by rw [sm, sm, sm, sm_add g h k]; ac_rfl
theorem sm_z : ∀ k, sm (fun _ => 0) k = 0
  | 0 => rfl
  | k + 1 => by rw [sm, sm_z k]; rfl
theorem sm_swap (G : Nat → Nat → Int32) (m : Nat) : ∀ n, sm (fun i => sm (fun j => G i j) m) n = sm (fun j => sm (fun i => G i j) n) m
  | 0 => (sm_z m).symm
  | n + 1 => by
    rw [sm, sm_swap G m n, ← sm_add]
    rfl
theorem sm_split (g : Nat → Int32) {c : Nat} : ∀ n, c < n → sm g n = g c + sm (fun i => if i = c then 0 else g i) n
  | 0, h => absurd h (Nat.not_lt_zero _)
  | n + 1, h => by
    rw [sm, sm]
    by_cases e : c = n
    · subst e
      rw [if_pos rfl, sm_ext (h := g) c (fun i hi => if_neg (by omega)), Int32.add_zero, Int32.add_comm]
    · rw [if_neg (Ne.symm e), sm_split g (c := c) n (by omega), Int32.add_assoc]
theorem clr_clr : ∀ R, R < 64 → ∀ a, a < 6 → ∀ b, b < 6 → clr (clr R a) b = clr (clr R b) a := by decide +kernel
theorem pcn_clr : ∀ C, C < 64 → ∀ c, c < 6 → ∀ d, d < 6 → C.testBit c = true → pcn (clr C c) d + (if c < d then 1 else 0) = pcn C d := by decide +kernel
theorem pc_top0 : ∀ R, R < 64 → ∀ k, k < 6 → R.testBit k = true → ((∃ j, j < 6 ∧ k < j ∧ R.testBit j = true) ∨ pcn R k + 1 = pc6 R) := by decide +kernel
theorem pc_top (R : Nat) (hR : R < 64) (k : Nat) (hk : k < 6) (hb : R.testBit k = true) (h : ∀ j, j < 6 → k < j → ¬ R.testBit j = true) : pcn R k + 1 = pc6 R :=
  (pc_top0 R hR k hk hb).resolve_left (fun ⟨j, h1, h2, h3⟩ => h j h1 h2 h3)
theorem top_ex : ∀ R, R < 64 → R ≠ 0 → ∃ k, k < 6 ∧ R.testBit k = true ∧ ∀ j, j < 6 → k < j → ¬ R.testBit j = true := by decide +kernel
theorem pc_pos : ∀ R, R < 64 → ∀ r, r < 6 → R.testBit r = true → 0 < pc6 R := by decide +kernel
/-- a term of the expansion by row r and column c -/
def tmE (f : Nat → Nat → Int32) (R C r c : Nat) : Int32 := if C.testBit c then sgn (pcn R r + pcn C c) (f r c * dD f (clr R r) (clr C c)) else 0
theorem dD_top2 (f : Nat → Nat → Int32) {R C k : Nat} (hR : R < 64) (hC : C < 64) (hpc : pc6 R = pc6 C) (hk : k < 6) (hb : R.testBit k = true) (ha : ∀ j, j < 6 → k < j → ¬ R.testBit j = true) : dD f R C = sm (tmE f R C k) 6 := by
  rw [dD_top f hR hk hb ha]
  refine sm_ext 6 (fun c hc => ?_)
  have q := pc_top R hR k hk hb ha
  unfold tmD tmE sgn
  rw [← hpc, show pc6 R - 1 = pcn R k by omega]
theorem dD_row (f : Nat → Nat → Int32) : ∀ n R C r, pc6 R = n → R < 64 → C < 64 → pc6 R = pc6 C → r < 6 → R.testBit r = true → dD f R C = sm (tmE f R C r) 6 := by
  intro n
  induction n with
  | zero => intro R C r h0 hR hC hpc hr hb; have := pc_pos R hR r hr hb; omega
  | succ n ih =>
    intro R C r h0 hR hC hpc hr hb
    obtain ⟨k, hk, hkb, hka⟩ := top_ex R hR (fun z => by subst z; simp at hb)
    by_cases e : r = k
    · subst e; exact dD_top2 f hR hC hpc hk hkb hka
    · have hrk : r < k := by
        rcases Nat.lt_or_ge k r with z | z
        · exact absurd hb (hka r hr z)
        · omega
      have hR2 := clr_sub R hR k hk
      have hR3 := clr_sub R hR r hr
      have b1 : (clr R k).testBit r = true := by rw [clr_o R hR k hk r hr, hb]; simp; omega
      have b2 : (clr R r).testBit k = true := by rw [clr_o R hR r hr k hk, hkb]; simp; omega
      have p1 := clr_pc R hR k hk hkb
      have p2 := clr_pc R hR r hr hb
      have s1 := pcn_clr R hR k hk r hr hkb
      have s2 := pcn_clr R hR r hr k hk hb
      rw [if_neg (by omega)] at s1
      rw [if_pos hrk] at s2
      -- both sides as double sums
      have L : dD f R C = sm (fun c => sm (fun d => if C.testBit c = true ∧ C.testBit d = true ∧ c ≠ d then sgn (pcn R k + pcn C c + (pcn (clr R k) r + pcn (clr C c) d)) (f k c * (f r d * dD f (clr (clr R k) r) (clr (clr C c) d))) else 0) 6) 6 := by
        rw [dD_top2 f hR hC hpc hk hkb hka]
        refine sm_ext 6 (fun c hc => ?_)
        unfold tmE
        by_cases hcb : C.testBit c = true
        · have p3 := clr_pc C hC c hc hcb
          rw [if_pos hcb, ih (clr R k) (clr C c) r (by omega) hR2 (clr_sub C hC c hc) (by omega) hr b1, mul_sm, sgn_sm]
          refine sm_ext 6 (fun d hd => ?_)
          unfold tmE
          rw [clr_o C hC c hc d hd]
          by_cases hdb : C.testBit d = true
          · by_cases ecd : c = d
            · subst ecd; simp [hcb, sgn_0]
            · have z : (C.testBit d && !d == c) = true := by simp [hdb]; omega
              rw [if_pos z, if_pos ⟨hcb, hdb, ecd⟩, sgn_mul, sgn_sgn]
          · have z : ¬ (C.testBit d && !d == c) = true := by simp [hdb]
            rw [if_neg z, if_neg (fun y => hdb y.2.1), Int32.mul_zero, sgn_0]
        · rw [if_neg hcb, sm_ext (h := fun _ => 0) 6 (fun d hd => if_neg (fun y => hcb y.1)), sm_z]
      have Rr : sm (tmE f R C r) 6 = sm (fun d => sm (fun c => if C.testBit c = true ∧ C.testBit d = true ∧ c ≠ d then sgn (pcn R r + pcn C d + (pcn (clr R r) k + pcn (clr C d) c)) (f r d * (f k c * dD f (clr (clr R r) k) (clr (clr C d) c))) else 0) 6) 6 := by
        refine sm_ext 6 (fun d hd => ?_)
        unfold tmE
        by_cases hdb : C.testBit d = true
        · have p3 := clr_pc C hC d hd hdb
          rw [if_pos hdb, ih (clr R r) (clr C d) k (by omega) hR3 (clr_sub C hC d hd) (by omega) hk b2, mul_sm, sgn_sm]
          refine sm_ext 6 (fun c hc => ?_)
          unfold tmE
          rw [clr_o C hC d hd c hc]
          by_cases hcb : C.testBit c = true
          · by_cases ecd : c = d
            · subst ecd; simp [hcb, sgn_0]
            · have z : (C.testBit c && !c == d) = true := by simp [hcb]; omega
              rw [if_pos z, if_pos ⟨hcb, hdb, ecd⟩, sgn_mul, sgn_sgn]
          · have z : ¬ (C.testBit c && !c == d) = true := by simp [hcb]
            rw [if_neg z, if_neg (fun y => hcb y.1), Int32.mul_zero, sgn_0]
        · rw [if_neg hdb, sm_ext (h := fun _ => 0) 6 (fun c hc => if_neg (fun y => hdb y.2.1)), sm_z]
      rw [L, Rr, sm_swap]
      refine sm_ext 6 (fun d hd => sm_ext 6 (fun c hc => ?_))
      by_cases q : C.testBit c = true ∧ C.testBit d = true ∧ c ≠ d
      · rw [if_pos q, if_pos q, clr_clr R hR k hk r hr, clr_clr C hC c hc d hd]
        have t1 := pcn_clr C hC c hc d hd q.1
        have t2 := pcn_clr C hC d hd c hc q.2.1
        have ne := q.2.2
        rw [show f k c * (f r d * dD f (clr (clr R r) k) (clr (clr C d) c)) = f r d * (f k c * dD f (clr (clr R r) k) (clr (clr C d) c)) by ac_rfl]
        refine sgn_mod ?_ _
        by_cases lt : c < d
        · rw [if_pos lt] at t1; rw [if_neg (by omega)] at t2; omega
        · rw [if_neg lt] at t1; rw [if_pos (by omega)] at t2; omega
      · rw [if_neg q, if_neg q]
theorem dD_row' (f : Nat → Nat → Int32) {R C r : Nat} (hR : R < 64) (hC : C < 64) (hpc : pc6 R = pc6 C) (hr : r < 6) (hb : R.testBit r = true) : dD f R C = sm (tmE f R C r) 6 := dD_row f _ R C r rfl hR hC hpc hr hb
def tmC (f : Nat → Nat → Int32) (R C c r : Nat) : Int32 := if R.testBit r then sgn (pcn R r + pcn C c) (f r c * dD f (clr R r) (clr C c)) else 0
theorem dD_col (f : Nat → Nat → Int32) : ∀ n R C c, pc6 R = n → R < 64 → C < 64 → pc6 R = pc6 C → c < 6 → C.testBit c = true → dD f R C = sm (tmC f R C c) 6 := by
  intro n
  induction n with
  | zero => intro R C c h0 hR hC hpc hc hb; have := pc_pos C hC c hc hb; omega
  | succ n ih =>
    intro R C c h0 hR hC hpc hc hb
    obtain ⟨k, hk, hkb, hka⟩ := top_ex R hR (fun z => by subst z; simp [pc6, pcn] at h0)
    have hR2 := clr_sub R hR k hk
    have hC2 := clr_sub C hC c hc
    have p1 := clr_pc R hR k hk hkb
    have p2 := clr_pc C hC c hc hb
    have L : sm (fun d => if d = c then 0 else tmE f R C k d) 6 = sm (fun d => sm (fun r => if (R.testBit r = true ∧ r ≠ k) ∧ C.testBit d = true ∧ d ≠ c then sgn (pcn R k + pcn C d + (pcn (clr R k) r + pcn (clr C d) c)) (f k d * (f r c * dD f (clr (clr R k) r) (clr (clr C d) c))) else 0) 6) 6 := by
      refine sm_ext 6 (fun d hd => ?_)
      by_cases e : d = c
      · rw [if_pos e, sm_ext (h := fun _ => 0) 6 (fun r hr => if_neg (fun y => y.2.2 e)), sm_z]
      · rw [if_neg e]
        unfold tmE
        by_cases hdb : C.testBit d = true
        · have p3 := clr_pc C hC d hd hdb
          have b1 : (clr C d).testBit c = true := by rw [clr_o C hC d hd c hc, hb]; simp; omega
          rw [if_pos hdb, ih (clr R k) (clr C d) c (by omega) hR2 (clr_sub C hC d hd) (by omega) hc b1, mul_sm, sgn_sm]
          refine sm_ext 6 (fun r hr => ?_)
          unfold tmC
          rw [clr_o R hR k hk r hr]
          by_cases hrb : R.testBit r = true
          · by_cases erk : r = k
            · subst erk; simp [hrb, sgn_0]
            · have z : (R.testBit r && !r == k) = true := by simp [hrb]; omega
              rw [if_pos z, if_pos ⟨⟨hrb, erk⟩, hdb, e⟩, sgn_mul, sgn_sgn]
          · have z : ¬ (R.testBit r && !r == k) = true := by simp [hrb]
            rw [if_neg z, if_neg (fun y => hrb y.1.1), Int32.mul_zero, sgn_0]
        · rw [if_neg hdb, sm_ext (h := fun _ => 0) 6 (fun r hr => if_neg (fun y => hdb y.2.1)), sm_z]
    have Rr : sm (fun r => if r = k then 0 else tmC f R C c r) 6 = sm (fun r => sm (fun d => if (R.testBit r = true ∧ r ≠ k) ∧ C.testBit d = true ∧ d ≠ c then sgn (pcn R r + pcn C c + (pcn (clr R r) k + pcn (clr C c) d)) (f r c * (f k d * dD f (clr (clr R r) k) (clr (clr C c) d))) else 0) 6) 6 := by
      refine sm_ext 6 (fun r hr => ?_)
      by_cases e : r = k
      · rw [if_pos e, sm_ext (h := fun _ => 0) 6 (fun d hd => if_neg (fun y => y.1.2 e)), sm_z]
      · rw [if_neg e]
        unfold tmC
        by_cases hrb : R.testBit r = true
        · have p3 := clr_pc R hR r hr hrb
          have b1 : (clr R r).testBit k = true := by rw [clr_o R hR r hr k hk, hkb]; simp; omega
          rw [if_pos hrb, dD_row' f (clr_sub R hR r hr) hC2 (by omega) hk b1, mul_sm, sgn_sm]
          refine sm_ext 6 (fun d hd => ?_)
          unfold tmE
          rw [clr_o C hC c hc d hd]
          by_cases hdb : C.testBit d = true
          · by_cases erk : d = c
            · subst erk; simp [hdb, sgn_0]
            · have z : (C.testBit d && !d == c) = true := by simp [hdb]; omega
              rw [if_pos z, if_pos ⟨⟨hrb, e⟩, hdb, erk⟩, sgn_mul, sgn_sgn]
          · have z : ¬ (C.testBit d && !d == c) = true := by simp [hdb]
            rw [if_neg z, if_neg (fun y => hdb y.2.1), Int32.mul_zero, sgn_0]
        · rw [if_neg hrb, sm_ext (h := fun _ => 0) 6 (fun d hd => if_neg (fun y => hrb y.1.1)), sm_z]
    have e1 : tmE f R C k c = tmC f R C c k := by unfold tmE tmC; rw [if_pos hb, if_pos hkb]
    have e2 : sm (fun d => if d = c then 0 else tmE f R C k d) 6 = sm (fun r => if r = k then 0 else tmC f R C c r) 6 := by
      rw [L, Rr, sm_swap]
      refine sm_ext 6 (fun r hr => sm_ext 6 (fun d hd => ?_))
      by_cases q : (R.testBit r = true ∧ r ≠ k) ∧ C.testBit d = true ∧ d ≠ c
      · rw [if_pos q, if_pos q, clr_clr R hR k hk r hr, clr_clr C hC d hd c hc]
        have t1 := pcn_clr C hC d hd c hc q.2.1
        have t2 := pcn_clr C hC c hc d hd hb
        have t3 := pcn_clr R hR k hk r hr hkb
        have t4 := pcn_clr R hR r hr k hk q.1.1
        have hrk : r < k := by
          rcases Nat.lt_or_ge k r with z | z
          · exact absurd q.1.1 (hka r hr z)
          · have := q.1.2; omega
        have ne := q.2.2
        rw [if_neg (by omega)] at t3
        rw [if_pos hrk] at t4
        rw [show f k d * (f r c * dD f (clr (clr R r) k) (clr (clr C c) d)) = f r c * (f k d * dD f (clr (clr R r) k) (clr (clr C c) d)) by ac_rfl]
        refine sgn_mod ?_ _
        by_cases lt : d < c
        · rw [if_pos lt] at t1; rw [if_neg (by omega)] at t2; omega
        · rw [if_neg lt] at t1; rw [if_pos (by omega)] at t2; omega
      · rw [if_neg q, if_neg q]
    rw [dD_top2 f hR hC hpc hk hkb hka, sm_split (tmE f R C k) 6 hc, sm_split (tmC f R C c) 6 hk, e1, e2]
theorem dD_tr (f : Nat → Nat → Int32) : ∀ n R C, pc6 R = n → R < 64 → C < 64 → pc6 R = pc6 C → dD (fun i j => f j i) C R = dD f R C := by
  intro n
  induction n with
  | zero =>
    intro R C h0 hR hC hpc
    have e1 := pc6_0 R hR h0
    have e2 := pc6_0 C hC (by omega)
    subst e1; subst e2
    rw [dD_0, dD_0]
  | succ n ih =>
    intro R C h0 hR hC hpc
    obtain ⟨c, hc, hcb, hca⟩ := top_ex C hC (fun z => by subst z; have : pc6 0 = 0 := (by decide); omega)
    rw [dD_top2 _ hC hR hpc.symm hc hcb hca, dD_col f (n + 1) R C c h0 hR hC hpc hc hcb]
    refine sm_ext 6 (fun r hr => ?_)
    unfold tmE tmC
    by_cases hrb : R.testBit r = true
    · have p1 := clr_pc R hR r hr hrb
      have p2 := clr_pc C hC c hc hcb
      rw [if_pos hrb, if_pos hrb, ih (clr R r) (clr C c) (by omega) (clr_sub R hR r hr) (clr_sub C hC c hc) (by omega), Nat.add_comm]
    · rw [if_neg hrb, if_neg hrb]
theorem tot_tr (T : tb) (h6 : T.1 ≤ 6) (h7 : T.2.1 ≤ 6) : tot (trT T) ↔ tot T := by
  have p1 := pw6 h6
  have p2 := pw6 h7
  have key : ∀ R C, R < 2 ^ T.1 → C < 2 ^ T.2.1 → pc6 R = pc6 C → dD (trT T).2.2 C R = dD T.2.2 R C := fun R C hR hC hpc => dD_tr T.2.2 _ R C rfl (by omega) (by omega) hpc
  constructor
  · intro h R C ⟨a1, a2, a3, a4, a5⟩
    rw [← key R C a2 a4 a5]
    exact h C R ⟨a3, a4, a1, a2, a5.symm⟩
  · intro h C R ⟨a1, a2, a3, a4, a5⟩
    rw [key R C a4 a2 a5.symm]
    exact h R C ⟨a3, a4, a1, a2, a5.symm⟩
theorem dT_cg {f g : Nat → Nat → Int32} : ∀ n, n ≤ 6 → ∀ R C, R < 64 → C < 64 → (∀ i j, i < 6 → j < 6 → R.testBit i = true → C.testBit j = true → f i j = g i j) → dT f n R C = dT g n R C := by
  intro n
  induction n with
  | zero => intro _ R C _ _ _; rfl
  | succ n ih =>
    intro hn R C hR hC h
    rw [dT, dT]
    by_cases hb : R.testBit n = true
    · rw [if_pos hb, if_pos hb]
      refine sm_ext 6 (fun c hc => ?_)
      unfold tmD
      by_cases hcb : C.testBit c = true
      · have e : f n c * dT f n (clr R n) (clr C c) = g n c * dT g n (clr R n) (clr C c) := by
         rw [h n c (by omega) hc hb hcb, ih (by omega) (clr R n) (clr C c) (clr_sub R hR n (by omega)) (clr_sub C hC c hc) (fun i j hi hj h1 h2 => h i j hi hj (by
          rw [clr_o R hR n (by omega) i hi] at h1; simp at h1; exact h1.1) (by
          rw [clr_o C hC c hc j hj] at h2; simp at h2; exact h2.1))]
        rw [if_pos hcb, if_pos hcb]
        show (if (pc6 C - 1 + pcn C c) % 2 = 0 then f n c * dT f n (clr R n) (clr C c) else -(f n c * dT f n (clr R n) (clr C c))) = _
        rw [e]
      · rw [if_neg hcb, if_neg hcb]
    · rw [if_neg hb, if_neg hb]; exact ih (by omega) R C hR hC h
theorem dD_cg {f g : Nat → Nat → Int32} {R C : Nat} (hR : R < 64) (hC : C < 64) (h : ∀ i j, i < 6 → j < 6 → R.testBit i = true → C.testBit j = true → f i j = g i j) : dD f R C = dD g R C := dT_cg 6 (Nat.le_refl _) R C hR hC h
/-- one entry set: what the determinant becomes -/
theorem dD_set (f : Nat → Nat → Int32) {R C r c : Nat} (v : Int32) (hR : R < 64) (hC : C < 64) (hpc : pc6 R = pc6 C) (hr : r < 6) (hc : c < 6) : dD (fun i j => if i = r ∧ j = c then v else f i j) R C = if R.testBit r = true ∧ C.testBit c = true then dD f R C + (v - f r c) * sgn (pcn R r + pcn C c) (dD f (clr R r) (clr C c)) else dD f R C := by
  by_cases hb : R.testBit r = true
  · have key : ∀ d, d < 6 → dD (fun i j => if i = r ∧ j = c then v else f i j) (clr R r) (clr C d) = dD f (clr R r) (clr C d) := fun d hd => dD_cg (clr_sub R hR r hr) (clr_sub C hC d hd) (fun i j hi hj h1 h2 => by
      rw [clr_o R hR r hr i hi] at h1
      simp at h1
      exact if_neg (fun y => h1.2 y.1))
    by_cases hcb : C.testBit c = true
    · rw [if_pos ⟨hb, hcb⟩, dD_row' _ hR hC hpc hr hb, dD_row' f hR hC hpc hr hb, sm_split _ 6 hc, sm_split (tmE f R C r) 6 hc]
      have e1 : sm (fun i => if i = c then 0 else tmE (fun i j => if i = r ∧ j = c then v else f i j) R C r i) 6 = sm (fun i => if i = c then 0 else tmE f R C r i) 6 := sm_ext 6 (fun d hd => by
        by_cases e : d = c
        · rw [if_pos e, if_pos e]
        · rw [if_neg e, if_neg e]
          unfold tmE
          rw [key d hd]
          simp only [e, and_false, if_false])
      rw [e1]
      have e2 : tmE (fun i j => if i = r ∧ j = c then v else f i j) R C r c = sgn (pcn R r + pcn C c) (v * dD f (clr R r) (clr C c)) := by
        unfold tmE
        rw [if_pos hcb, key c hc]
        simp only [and_self, if_true]
      have e3 : tmE f R C r c = sgn (pcn R r + pcn C c) (f r c * dD f (clr R r) (clr C c)) := by unfold tmE; rw [if_pos hcb]
      rw [e2, e3, Int32.sub_mul, sgn_mul, sgn_mul]
      generalize sm (fun i => if i = c then 0 else tmE f R C r i) 6 = S
      generalize sgn (pcn R r + pcn C c) (v * dD f (clr R r) (clr C c)) = A
      generalize sgn (pcn R r + pcn C c) (f r c * dD f (clr R r) (clr C c)) = B
      rw [Int32.sub_eq_add_neg, show B + S + (A + -B) = A + S + (B + -B) by ac_rfl, ← Int32.sub_eq_add_neg, Int32.sub_self, Int32.add_zero]
    · rw [if_neg (fun y => hcb y.2)]
      exact dD_cg hR hC (fun i j hi hj h1 h2 => if_neg (fun y => hcb (by rw [← y.2]; exact h2)))
  · rw [if_neg (fun y => hb y.1)]
    exact dD_cg hR hC (fun i j hi hj h1 h2 => if_neg (fun y => hb (by rw [← y.1]; exact h1)))
