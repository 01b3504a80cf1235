/-! ===== trees: the search that leaves half out; ways in a forest ===== -/
def sw (a b x : Nat) : Nat := if x = a then b else if x = b then a else x
theorem sw_sw (a b x : Nat) : sw a b (sw a b x) = x := by
  unfold sw
  by_cases h1 : x = a
  · by_cases h2 : b = a
    · simp [h1, h2]
    · simp [h1, h2]
  · by_cases h2 : x = b
    · simp [h1, h2]
    · simp [h1, h2]
theorem sw_inj {a b x y : Nat} : sw a b x = sw a b y ↔ x = y := ⟨fun h => by rw [← sw_sw a b x, h, sw_sw], fun h => by rw [h]⟩
theorem sw_o {a b x : Nat} (h1 : x ≠ a) (h2 : x ≠ b) : sw a b x = x := by unfold sw; rw [if_neg h1, if_neg h2]
/-- the same tree but for two nodes' numbers -/
def isoT (a b n : Nat) (t u : tre) : Prop := ∀ r, r < n → u.1 r = sw a b (t.1 r) ∧ u.2 r = sw a b (t.2 r)
theorem isoT.lv {T : tb} {a b n c r : Nat} {t u : tre} (h : isoT a b n t u) (hr : r < n) : lvA T u c r = sw a b (lvA T t c r) ∧ rcA T u c r = sw a b (rcA T t c r) := by
  unfold lvA rcA
  rw [(h r hr).1, (h r hr).2]
  constructor <;> split <;> rfl
theorem isoT.beg {T : tb} {a b n c r : Nat} {t u : tre} (h : isoT a b n t u) (z : beg T u n c r) : beg T t n c r := by
  refine ⟨z.1, fun q hq y => z.2 q hq ?_⟩
  rw [(h.lv (T := T) (c := c) hq.1).2, (h.lv (T := T) (c := c) z.1.1).1, y]
theorem isoT.ways {T : tb} {a b n : Nat} {t u : tre} (h : isoT a b n t u) (z : WaysP T t n) : WaysP T u n := fun c hc => by
  refine ⟨fun r q hr hq hne => ?_, fun r q hr hq => (z c hc).2 r q (h.beg hr) (h.beg hq)⟩
  have y := (z c hc).1 r q hr hq hne
  rw [(h.lv (T := T) (c := c) hr.1).1, (h.lv (T := T) (c := c) hq.1).1, (h.lv (T := T) (c := c) hr.1).2, (h.lv (T := T) (c := c) hq.1).2]
  exact ⟨fun w => y.1 (sw_inj.mp w), fun w => y.2 (sw_inj.mp w)⟩
theorem isoT.ends {a b n : Nat} {t u : tre} (node : Nat) : ∀ m, m ≤ n → isoT a b n t u → endM u (sw a b node) m = endM t node m
  | 0, _, _ => rfl
  | m + 1, hm, h => by
    rw [endM, endM, isoT.ends node m (by omega) h, (h m (by omega)).1, (h m (by omega)).2]
    simp only [sw_inj]
theorem isoT.ext {a b row : Nat} {t u : tre} (h : isoT a b row t u) (ha : a ≤ row) (hb : b ≤ row) (node set way : Nat) : isoT a b (row + 1) (extT t row node set way) (extT u row (sw a b node) set way) := by
  have fr : sw a b (row + 1) = row + 1 := sw_o (by omega) (by omega)
  intro r hr
  unfold extT bnd
  simp only
  rcases (by omega : r < row ∨ r = row) with z | rfl
  · rw [if_pos z, if_pos z, if_pos z, if_pos z, (h r z).1, (h r z).2]
    simp only [sw_inj]
    constructor
    · split
      · rw [fr]
      · rfl
    · split
      · rw [fr]
      · rfl
  · simp only [Nat.lt_irrefl, if_false, if_true]
    constructor
    · split
      · rfl
      · rw [fr]
    · split
      · rw [fr]
      · rfl
theorem fs_nn {A : Type} {h : Nat → Option A} {a n : Nat} : fs h a n = none ↔ ∀ i, a ≤ i → i < a + n → h i = none := by
  constructor
  · exact fs_none n a
  · intro z
    cases q : fs h a n with
    | none => rfl
    | some v =>
      obtain ⟨i, h1, h2, h3⟩ := fs_in _ _ q
      rw [z i h1 h2] at h3; cases h3
theorem cnd_nn {A : Type} {p : Prop} {x : Option A} : cnd p x none = none ↔ (p → x = none) := by
  by_cases q : p
  · rw [cnd_t q]; exact ⟨fun z _ => z, fun z => z q⟩
  · rw [cnd_f q]; exact ⟨fun _ y => absurd y q, fun _ => rfl⟩
theorem grw_nn {T : tb} {k row : Nat} {t : tre} : grw T (k + 1) row t = none ↔ ∀ node, node ≤ row → ∀ set, set ≤ endM t node row → set &&& endM t node row = set → ∀ way, way < 2 → WaysP T (extT t row node set way) (row + 1) → grw T k (row + 1) (extT t row node set way) = none := by
  rw [grw, fs_nn]
  constructor
  · intro z node hn set hs hb way hw hp
    have y := fs_nn.mp (z node (Nat.zero_le _) (by omega)) set (Nat.zero_le _) (by omega)
    rw [cnd_t hb] at y
    have w := fs_nn.mp y way (Nat.zero_le _) (by omega)
    rwa [cnd_t hp] at w
  · intro z node _ hn
    rw [fs_nn]
    intro set _ hs
    rw [cnd_nn]
    intro hb
    rw [fs_nn]
    intro way _ hw
    rw [cnd_nn]
    exact z node (by omega) set (by omega) hb way (by omega)
theorem iso_grw {T : tb} {a b : Nat} : ∀ k row t u, a ≤ row → b ≤ row → isoT a b row t u → grw T k row u = none → grw T k row t = none
  | 0, row, t, u, _, _, _, h => by rw [grw] at h; cases h
  | k + 1, row, t, u, ha, hb, hi, h => by
    rw [grw_nn] at h ⊢
    intro node hn set hs hsub way hw hp
    have ee := isoT.ends node row (Nat.le_refl _) hi
    have hn2 : sw a b node ≤ row := by unfold sw; split; exact hb; split; exact ha; exact hn
    have ex := hi.ext ha hb node set way
    exact iso_grw k (row + 1) _ _ (by omega) (by omega) ex (h (sw a b node) hn2 set (by rw [ee]; exact hs) (by rw [ee]; exact hsub) way hw (ex.ways hp))
/-- a set and the node's other arcs change places -/
theorem mir {t : tre} {row node set way : Nat} (h : nodOK t row) (hn : node ≤ row) (hs : set &&& endM t node row = set) (hw : way < 2) : isoT node (row + 1) (row + 1) (extT t row node set way) (extT t row node (endM t node row ^^^ set) (1 - way)) := by
  have sb : ∀ r, set.testBit r = true → (endM t node row).testBit r = true := fun r z => by
    have : (set &&& endM t node row).testBit r = true := by rw [hs]; exact z
    rw [Nat.testBit_and, Bool.and_eq_true] at this; exact this.2
  have xb : ∀ r, (endM t node row ^^^ set).testBit r = true ↔ (r < row ∧ (t.1 r = node ∨ t.2 r = node)) ∧ ¬ set.testBit r = true := fun r => by
    rw [Nat.testBit_xor, ← endM_bit]
    cases h1 : (endM t node row).testBit r <;> cases h2 : set.testBit r <;> simp
    have := sb r h2; rw [h1] at this; cases this
  have s1 : sw node (row + 1) node = row + 1 := by unfold sw; rw [if_pos rfl]
  have s2 : sw node (row + 1) (row + 1) = node := by unfold sw; rw [if_neg (by omega), if_pos rfl]
  intro r hr
  unfold extT bnd
  simp only
  rcases (by omega : r < row ∨ r = row) with z | rfl
  · obtain ⟨n1, n2, n3⟩ := h r z
    rw [if_pos z, if_pos z, if_pos z, if_pos z]
    have o1 : t.1 r ≠ node → sw node (row + 1) (t.1 r) = t.1 r := fun q => sw_o q (by omega)
    have o2 : t.2 r ≠ node → sw node (row + 1) (t.2 r) = t.2 r := fun q => sw_o q (by omega)
    by_cases q1 : t.1 r = node
    · have q2 : t.2 r ≠ node := by omega
      by_cases q3 : set.testBit r = true
      · have q4 : ¬ (endM t node row ^^^ set).testBit r = true := fun y => ((xb r).mp y).2 q3
        refine ⟨?_, ?_⟩ <;> simp [q1, q3, q4, s2, o2 q2]
      · have q4 : (endM t node row ^^^ set).testBit r = true := (xb r).mpr ⟨⟨z, Or.inl q1⟩, q3⟩
        refine ⟨?_, ?_⟩ <;> simp [q1, q3, q4, s1, o2 q2]
    · by_cases q2 : t.2 r = node
      · by_cases q3 : set.testBit r = true
        · have q4 : ¬ (endM t node row ^^^ set).testBit r = true := fun y => ((xb r).mp y).2 q3
          refine ⟨?_, ?_⟩ <;> simp [q1, q2, q3, q4, s2, o1 q1]
        · have q4 : (endM t node row ^^^ set).testBit r = true := (xb r).mpr ⟨⟨z, Or.inr q2⟩, q3⟩
          refine ⟨?_, ?_⟩ <;> simp [q1, q2, q3, q4, s1, o1 q1]
      · have q3 : ¬ set.testBit r = true := fun y => by
          have := (endM_bit t node r row).mp (sb r y)
          exact this.2.elim q1 q2
        have q4 : ¬ (endM t node row ^^^ set).testBit r = true := fun y => ((xb r).mp y).1.2.elim q1 q2
        refine ⟨?_, ?_⟩ <;> simp [q1, q3, q4, o1 q1, o2 q2]
  · simp only [Nat.lt_irrefl, if_false, if_true]
    rcases (by omega : way = 0 ∨ way = 1) with rfl | rfl
    · simp [s1, s2]
    · simp [s1, s2]
/-- the search of the class -/
noncomputable def grwC (T : tb) : Nat → Nat → tre → Option tre
  | 0, _, t => some t
  | k + 1, row, t => fs (fun node => fs (fun set => cnd (set &&& endM t node row = set ∧ set ≤ endM t node row ^^^ set) (fs (fun way => cnd (WaysP T (extT t row node set way) (row + 1)) (grwC T k (row + 1) (extT t row node set way)) none) 0 (if endM t node row = 0 then 1 else 2)) none) 0 (endM t node row + 1)) 0 (row + 1)
theorem fs_ext {A : Type} {h k : Nat → Option A} : ∀ n a, (∀ i, a ≤ i → i < a + n → h i = k i) → fs h a n = fs k a n := fun n a e => by
  cases q : fs k a n with
  | none => rw [fs_nn] at q ⊢; intro i h1 h2; rw [e i h1 h2]; exact q i h1 h2
  | some v =>
    obtain ⟨i, h1, h2, h3, h4⟩ := fs_1 _ _ q
    exact fs_2 n a h1 h2 (by rw [e i h1 h2]; exact h3) (fun j j1 j2 => by rw [e j j1 (by omega)]; exact h4 j j1 j2)
theorem fs_prune {A : Type} {h k : Nat → Option A} {n a : Nat} (e : ∀ i, a ≤ i → i < a + n → k i = h i ∨ (k i = none ∧ (¬ h i = none → ∃ j, a ≤ j ∧ j < i ∧ ¬ h j = none))) : fs k a n = fs h a n := by
  cases q : fs h a n with
  | none =>
    rw [fs_nn] at q ⊢
    intro i h1 h2
    rcases e i h1 h2 with z | z
    · rw [z]; exact q i h1 h2
    · exact z.1
  | some v =>
    obtain ⟨i, h1, h2, h3, h4⟩ := fs_1 _ _ q
    refine fs_2 n a h1 h2 ?_ (fun j j1 j2 => ?_)
    · rcases e i h1 h2 with z | ⟨_, z⟩
      · rw [z]; exact h3
      · obtain ⟨j, j1, j2, j3⟩ := z (by rw [h3]; simp)
        exact absurd (h4 j j1 j2) j3
    · rcases e j j1 (by omega) with z | z
      · rw [z]; exact h4 j j1 j2
      · exact z.1
theorem ext_ok {t : tre} {row node set way : Nat} (h : nodOK t row) (hn : node ≤ row) (hs : set &&& endM t node row = set) : nodOK (extT t row node set way) (row + 1) := nodOK_ext h hn (fun r z => by
  have : (set &&& endM t node row).testBit r = true := by rw [hs]; exact z
  rw [Nat.testBit_and, Bool.and_eq_true] at this
  exact (endM_bit t node r row).mp this.2)
theorem grwC_eq {T : tb} : ∀ k row t, nodOK t row → grwC T k row t = grw T k row t
  | 0, row, t, _ => rfl
  | k + 1, row, t, hok => by
    rw [grwC, grw]
    refine fs_ext _ _ (fun node _ hn => ?_)
    have hn : node ≤ row := by omega
    generalize he : endM t node row = e
    refine fs_prune (fun set _ hset => ?_)
    by_cases hs : set &&& e = set
    · have hs' : set &&& endM t node row = set := by rw [he]; exact hs
      have ih : ∀ way, grwC T k (row + 1) (extT t row node set way) = grw T k (row + 1) (extT t row node set way) := fun way => grwC_eq k (row + 1) _ (ext_ok hok hn hs')
      simp only [ih]
      have hx : (e ^^^ set) &&& e = e ^^^ set := by
        apply Nat.eq_of_testBit_eq
        intro i
        have q : set.testBit i = (set.testBit i && e.testBit i) := by rw [← Nat.testBit_and, hs]
        rw [Nat.testBit_and, Nat.testBit_xor]
        cases h1 : e.testBit i <;> cases h2 : set.testBit i <;> simp [h1, h2] at q ⊢
      have mirror : ∀ way, way < 2 → WaysP T (extT t row node set way) (row + 1) → ¬ grw T k (row + 1) (extT t row node set way) = none → WaysP T (extT t row node (e ^^^ set) (1 - way)) (row + 1) ∧ ¬ grw T k (row + 1) (extT t row node (e ^^^ set) (1 - way)) = none := fun way hw hp hg => by
        have m := mir hok hn hs' hw
        rw [he] at m
        exact ⟨m.ways hp, fun z => hg (iso_grw k (row + 1) _ _ (by omega) (Nat.le_refl _) m z)⟩
      by_cases hle : set ≤ e ^^^ set
      · left
        rw [cnd_t ⟨hs, hle⟩, cnd_t hs]
        by_cases e0 : e = 0
        · rw [if_pos e0]
          have s0 : set = 0 := by rw [e0, Nat.and_zero] at hs; exact hs.symm
          subst s0
          rw [e0] at mirror
          have m1 := mirror 1 (by decide)
          -- the other way is no better
          cases q : fs (fun way => cnd (WaysP T (extT t row node 0 way) (row + 1)) (grw T k (row + 1) (extT t row node 0 way)) none) 0 1 with
          | some v =>
            obtain ⟨i, h1, h2, h3, h4⟩ := fs_1 _ _ q
            exact (fs_2 2 0 h1 (by omega) h3 h4).symm
          | none =>
            refine (fs_nn.mpr (fun i _ hi => ?_)).symm
            have z0 := fs_nn.mp q 0 (Nat.zero_le _) (by decide)
            rcases (by omega : i = 0 ∨ i = 1) with rfl | rfl
            · exact z0
            · rw [cnd_nn]
              intro hp
              refine Classical.byContradiction fun hg => ?_
              have := m1 hp hg
              rw [cnd_nn] at z0
              exact this.2 (z0 this.1)
        · rw [if_neg e0]
      · right
        rw [cnd_f (fun z => hle z.2)]
        refine ⟨rfl, fun hne => ⟨e ^^^ set, Nat.zero_le _, by omega, ?_⟩⟩
        rw [cnd_t hs, fs_nn] at hne
        rw [cnd_t hx, fs_nn]
        intro z
        refine hne (fun way w1 w2 => ?_)
        rw [cnd_nn]
        intro hp
        refine Classical.byContradiction fun hg => ?_
        have m := mirror way (by omega) hp hg
        have y := z (1 - way) (Nat.zero_le _) (by omega)
        rw [cnd_nn] at y
        exact m.2 (y m.1)
    · left
      rw [cnd_f (fun z => hs z.1), cnd_f hs]
