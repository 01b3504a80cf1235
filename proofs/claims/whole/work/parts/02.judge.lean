/-! ===== the judgement: a method's frame over a world of numbered cells ===== -/
abbrev aE : Type := (Nat × vp_A) ⊕ (Nat × List Value)
abbrev aW : Type := Nat × (Nat → Option aE)
/-- classes, array classes, the places of the numbered cells, the heap at the law's start -/
abbrev aV : Type := va_G × (Nat → ClassId) × (Nat → Nat) × Heap
def rl (r : Nat → Nat) (v : Value) : Value := match v with
  | .ref a => .ref (r a)
  | u => u
def rA (r : Nat → Nat) (a : vp_A) : vp_A := (a.1, match a.2 with
  | .inl f => .inl f
  | .inr (.inl f) => .inr (.inl f)
  | .inr (.inr (.inl f)) => .inr (.inr (.inl f))
  | .inr (.inr (.inr (.inl f))) => .inr (.inr (.inr (.inl f)))
  | .inr (.inr (.inr (.inr f))) => .inr (.inr (.inr (.inr (fun j => (f j).map r)))))
def cE (V : aV) (c : aE) : va_E := match c with
  | .inl a => .inl (V.2.1 a.1, rA V.2.2.1 a.2)
  | .inr o => .inr (o.1, o.2.map (rl V.2.2.1))
def tys (V : aV) : List (ClassId × FieldType) := [(V.2.1 0, .int), (V.2.1 1, .byte), (V.2.1 2, .long), (V.2.1 3, .object RX7), (V.2.1 4, .object RX4)]
/-- a number that no cell has: the law's script goes by it -/
abbrev BIG : Nat := 1099511627776
/-- .. and one more: the formatter's place -/
abbrev FMT : Nat := 1099511627777
def HW (V : aV) (w : aW) (H : Heap) : Prop := H.size = V.2.2.1 w.1 ∧ (16 ≤ w.1 ∧ w.1 < BIG) ∧ (∀ q, q < V.2.2.2.size → H[q]? = V.2.2.2[q]?) ∧ ∀ i c, w.2 i = some c → i < w.1 ∧ va_at V.1 vwCl (V.2.2.1 i, cE V c) H
def VOK (V : aV) : Prop := (∀ n, n < BIG - 16 → V.2.2.1 (16 + n) = V.2.2.2.size + n) ∧ ∀ i, i < 16 → V.2.2.1 i < V.2.2.2.size
/-- the String constants: whose, where, the text, its bytes -/
def kst : List (String × Nat × String × List Int32) := [
  (RX4, 51, "rcxypte", [114, 99, 120, 121, 112, 116, 101]),
  (RX10, 240, "+-00-/-+-00/0-+-0/00-+-/-00-+", [43, 45, 48, 48, 45, 47, 45, 43, 45, 48, 48, 47, 48, 45, 43, 45, 48, 47, 48, 48, 45, 43, 45, 47, 45, 48, 48, 45, 43]),
  (RX10, 246, "+++++/+++00/+0++0/+00++/++00+", [43, 43, 43, 43, 43, 47, 43, 43, 43, 48, 48, 47, 43, 48, 43, 43, 48, 47, 43, 48, 48, 43, 43, 47, 43, 43, 48, 48, 43]),
  (RX11, 116, "-0+", [45, 48, 43]),
  (RX11, 131, "rcxypte", [114, 99, 120, 121, 112, 116, 101]),
  (RX11, 300, "+-00--+-000-+-000-+--00-+", [43, 45, 48, 48, 45, 45, 43, 45, 48, 48, 48, 45, 43, 45, 48, 48, 48, 45, 43, 45, 45, 48, 48, 45, 43]),
  (RX11, 302, "++++++++00+0++0+00++++00+", [43, 43, 43, 43, 43, 43, 43, 43, 48, 48, 43, 48, 43, 43, 48, 43, 48, 48, 43, 43, 43, 43, 48, 48, 43])]
def fr (V : aV) : Nat → Prop := fun q => V.2.2.2.size ≤ q
/-- a static of Throwable that is there from the start -/
def lyS (C n d : String) (V : aV) (s : State) : Prop := ∃ (c : ClassId) (k : Class) (i : Nat) (f : Field) (a : Nat) (cell : Cell) (v : Value), s.vm.findClass C = some c ∧ s.fieldFound? C n d = some (c, k, i, f) ∧ f.isStatic = true ∧ k.statics = some a ∧ V.2.2.2[a]? = some cell ∧ cell.vm.isStatics = true ∧ cell.cls = c ∧ f.slot < cell.slots.size ∧ k.staticTypes[f.slot]? = some f.type ∧ cell.slots[f.slot]? = some v ∧ (v = .null ∨ ∃ r, v = .ref r)
theorem lyS.moved {C n d : String} {V : aV} {u U : State} (hvm : u.vm.Alike U.vm) (h : lyS C n d V u) : lyS C n d V U := by
  obtain ⟨c, k, i, f, a, cell, v, hc, hi, hst, ha, h5⟩ := h
  obtain ⟨k', hi', he⟩ := State.fieldFound?_setVm hvm hi
  exact ⟨c, k', i, f, a, cell, v, by rw [hvm.findClass]; exact hc, hi', hst, by rw [he]; exact ha, h5.1, h5.2.1, h5.2.2.1, h5.2.2.2.1, by rw [he]; exact h5.2.2.2.2.1, h5.2.2.2.2.2⟩
def KY (V : aV) (s : State) : Prop := (∀ i, i < 7 → ∀ k, kst[i]? = some k → vk_R k.1 k.2.1 k.2.2.1 (V.2.2.1 (2 + i)) s ∧ vk_S 1 [k.2.2.2.length] [k.2.2.2] (fun _ => V.2.2.1 (2 + i)) (fun _ => V.2.2.1 (9 + i)) (fr V) s V.2.2.2) ∧
  va_Z RX4 "SIGNS" "[I" (.ref (V.2.2.1 1)) (fr V) s V.2.2.2 ∧ va_T .int (V.2.2.1 1) 7 (fun j => .int (([2, 2, 3, 3, 3, 1, 4] : List Int32).getD j 0)) (fr V) s V.2.2.2 ∧ va_Z "java/lang/String" "COMPACT_STRINGS" "Z" (.int 1) (fr V) s V.2.2.2 ∧ (va_Z "jdk/internal/util/Preconditions" "SIOOBE_FORMATTER" "Ljava/util/function/BiFunction;" .null (fr V) s V.2.2.2 ∨ va_Z "jdk/internal/util/Preconditions" "SIOOBE_FORMATTER" "Ljava/util/function/BiFunction;" (.ref (V.2.2.1 FMT)) (fr V) s V.2.2.2) ∧ lyS "java/lang/Throwable" "UNASSIGNED_STACK" "[Ljava/lang/StackTraceElement;" V s ∧ lyS "java/lang/Throwable" "SUPPRESSED_SENTINEL" "Ljava/util/List;" V s
def KX (V : aV) (s : State) : Prop := va_K V.1 vwCl (tys V) s ∧ (∀ w ∈ lw_nl, va_Nw w s) ∧ KY V s
theorem is_nest_warm {w : Cond} (hw : is_nest w = true) {s U : State} (hW : s.WarmedH U.vm) (h : va_Nw w s) : va_Nw w U := by
  unfold is_nest at hw
  split at hw
  · exact h.warmF hW
  · exact h.warmM hW
  · exact va_AO.moved hW.alike h
  · exact h.warmD hW
  · exact h.warmC hW
  · cases hw
theorem is_nest_same {w : Cond} (hw : is_nest w = true) {s U : State} (hW : s.vm = U.vm) (h : va_Nw w s) : va_Nw w U := by
  unfold is_nest at hw
  split at hw
  · exact va_Nw.same rfl hW h
  · exact va_Nw.same rfl hW h
  · exact va_AO.moved (by rw [hW]; exact Vm.Alike.refl _) h
  · exact va_Nw.same rfl hW h
  · exact va_Nw.same rfl hW h
  · cases hw
theorem va_Zq.mv {C n d : String} {A : Nat → Prop} {u U : State} {H : Heap} (hvm : u.vm.Alike U.vm) (h : va_Zq C n d A u H) : va_Zq C n d A U H := h.elim (fun h => Or.inl (va_Z.moved hvm h)) (fun ⟨t, h⟩ => Or.inr ⟨t, va_Z.moved hvm h⟩)
theorem KY.moved {V : aV} {s U : State} (hW : s.WarmedH U.vm) (h : KY V s) : KY V U := by
  obtain ⟨h1, h2, h3, h4, h5, h6, h7⟩ := h
  refine ⟨fun i hi k hk => ?_, va_Z.moved hW.alike h2, va_T.moved hW.alike h3, va_Z.moved hW.alike h4, h5.imp (va_Z.moved hW.alike) (va_Z.moved hW.alike), h6.moved hW.alike, h7.moved hW.alike⟩
  obtain ⟨a, b⟩ := h1 i hi k hk
  exact ⟨a.warm hW, b.moved hW.alike⟩
theorem KY.same {V : aV} {s U : State} (hW : s.vm = U.vm) (h : KY V s) : KY V U := by
  have al : s.vm.Alike U.vm := by rw [hW]; exact Vm.Alike.refl _
  obtain ⟨h1, h2, h3, h4, h5, h6, h7⟩ := h
  refine ⟨fun i hi k hk => ?_, va_Z.moved al h2, va_T.moved al h3, va_Z.moved al h4, h5.imp (va_Z.moved al) (va_Z.moved al), h6.moved al, h7.moved al⟩
  obtain ⟨a, b⟩ := h1 i hi k hk
  exact ⟨a.same hW.symm, b.moved al⟩
theorem KX.moved {V : aV} {s U : State} (hW : s.WarmedH U.vm) (h : KX V s) : KX V U := ⟨va_K.moved hW.alike h.1, fun w hw => is_nest_warm (List.mem_filter.mp hw).2 hW (h.2.1 w hw), h.2.2.moved hW⟩
theorem KX.same {V : aV} {s U : State} (hW : s.vm = U.vm) (h : KX V s) : KX V U := ⟨va_K.moved (by rw [hW]; exact Vm.Alike.refl _) h.1, fun w hw => is_nest_same (List.mem_filter.mp hw).2 hW (h.2.1 w hw), h.2.2.same hW⟩
def aPc (V : aV) (as : List Value) (w : aW) : Array Value → State → Prop := fun v U => v = (as.map (rl V.2.2.1)).toArray ∧ HW V w U.heap ∧ KX V U
def aQc (V : aV) (Q : Option Value → aW → Prop) : Array Value → State → Outcome → State → Prop := fun _ _ o t => ∃ (r : Option Value) (w : aW), o = .returned (r.map (rl V.2.2.1)) ∧ Q r w ∧ HW V w t.heap
def wsOf (m : mi) : List Cond := .code m.1 m.2.1 m.2.2.1 m.2.2.2 :: lw_gl
def rmD (d mc ms : Nat) : Room := { frames := d, cells := mc, slots := ms, locals := 60 * d + 60 }
/-- a method's contract: depth, cells and slots that it makes; arguments, world; what holds behind it -/
def Mt (m : mi) (d mc ms : Nat) (as : List Value) (w : aW) (Q : Option Value → aW → Prop) : Prop := ∀ (l : Launch) (V : aV), VOK V → Met l m.1 (wsOf m) (rmD d mc ms) (aPc V as w) (aQc V Q) mc ms (fr V)
/-- all that stays while a method runs -/
abbrev aX : Type := Program × Launch × Env × Room × State × MethodId × Array Value × List Frame × Method × Code × (State → Prop) × aV
def lvl (r : Nat → Nat) : Nat → List (Option Value) → List (Nat × Value)
  | _, [] => []
  | i, none :: t => lvl r (i + 1) t
  | i, some v :: t => (i, rl r v) :: lvl r (i + 1) t
def Cx (m : mi) (X : aX) : Prop := match X with
  | (p, _, _, _, s, mm, args, _, meth, c, _, V) => VOK V ∧ p.tables.exec = Jvm.exec ∧ c.code = m.2.1 ∧ c.maxLocals = m.2.2.1 ∧ meth.sig.returnType = m.2.2.2 ∧ meth.locks = false ∧ s.vm.findClass m.1.cls = some mm.cls ∧ (∀ w ∈ lw_gl, w.before args s = true) ∧ KX V s ∧ meth.name = m.1.name
def Rd (X : aX) (d mc ms : Nat) : Prop := match X with
  | (_, _, _, R, _, _, _, _, _, _, _, _) => d ≤ R.frames ∧ 60 * d + 60 ≤ R.locals ∧ mc ≤ R.cells ∧ ms ≤ R.slots
def Rt (X : aX) (mc ms : Nat) (Q : Option Value → aW → Prop) : Prop := match X with
  | (_, _, _, _, s, _, args, below, _, _, Z, V) => Z = MQ below (aQc V Q) args s mc ms (fr V)
/-- from pc, with these locals, this stack, this world, so many cells and slots made: the method comes to its end -/
def Rw (m : mi) (X : aX) (pc : Nat) (ls : List (Option Value)) (st : List Value) (w : aW) (cells slots : Nat) : Prop := match X with
  | (p, l, e, R, s, mm, args, below, meth, c, Z, V) => ∀ (H : Heap) (locs : List Loc) (la : Array Slot), HW V w H → (∀ q ∈ locs, fr V q.base) → lv_has la m.2.2.1 (lvl V.2.2.1 0 ls) → W p l e R s mm args below meth c H locs cells slots Z (F0 mm pc la (st.map (rl V.2.2.1)))
theorem lvl_mem {r : Nat → Nat} : ∀ (ls : List (Option Value)) (i j : Nat) (v : Value), (j, v) ∈ lvl r i ls ↔ ∃ (k : Nat) (u : Value), j = i + k ∧ ls[k]? = some (some u) ∧ v = rl r u
  | [], i, j, v => by simp [lvl]
  | none :: t, i, j, v => by
    rw [lvl, lvl_mem t (i + 1) j v]
    constructor
    · rintro ⟨k, u, rfl, h, e⟩
      exact ⟨k + 1, u, by omega, by simpa using h, e⟩
    · rintro ⟨k, u, rfl, h, e⟩
      cases k with
      | zero => simp at h
      | succ k => exact ⟨k, u, by omega, by simpa using h, e⟩
  | some x :: t, i, j, v => by
    rw [lvl, List.mem_cons, lvl_mem t (i + 1) j v]
    constructor
    · rintro (h | ⟨k, u, rfl, h, e⟩)
      · obtain ⟨rfl, rfl⟩ := Prod.mk.inj h
        exact ⟨0, x, by omega, rfl, rfl⟩
      · exact ⟨k + 1, u, by omega, by simpa using h, e⟩
    · rintro ⟨k, u, rfl, h, e⟩
      cases k with
      | zero =>
        have hx : x = u := by simpa using h
        subst hx
        exact Or.inl (by rw [e]; rfl)
      | succ k => exact Or.inr ⟨k, u, by omega, by simpa using h, e⟩
theorem lvl_get {r : Nat → Nat} {la : Array Slot} {n i : Nat} {ls : List (Option Value)} {u : Value} (h : lv_has la n (lvl r 0 ls)) (hu : ls[i]? = some (some u)) : la[i]? = some (.val (rl r u)) :=
  h.2.2 (i, rl r u) ((lvl_mem ls 0 i _).mpr ⟨i, u, by omega, hu, rfl⟩)
theorem rl_cat (r : Nat → Nat) (v : Value) : (rl r v).category = v.category := by cases v <;> rfl
/-- no wide value lies just ahead of place i -/
def noL (ls : List (Option Value)) (i : Nat) : Bool := match i with
  | 0 => true
  | j + 1 => match ls[j]? with
    | some (some u) => u.category == 1
    | _ => true
theorem lvl_set {r : Nat → Nat} {la : Array Slot} {n i : Nat} {ls : List (Option Value)} {u : Value} (hn : noL ls i = true) (h : lv_has la n ((i, rl r u) :: (lvl r 0 ls).filter (fun q => !(q.1 == i) && !(q.1 + 1 == i && q.2.category == 2)))) : lv_has la n (lvl r 0 (ls.set i (some u))) := by
  refine ⟨h.1, h.2.1, fun q hq => h.2.2 q ?_⟩
  obtain ⟨j, v⟩ := q
  obtain ⟨k, x, e1, e2, e3⟩ := (lvl_mem _ 0 j v).mp hq
  have e1 : k = j := by omega
  subst e1
  by_cases hk : k = i
  · subst hk
    have hx : x = u := by
      rw [List.getElem?_set] at e2
      split at e2
      · split at e2
        · simpa using e2.symm
        · simp at e2
      · rename_i hne; exact absurd rfl hne
    rw [e3, hx]
    exact List.mem_cons_self
  · rw [List.getElem?_set_ne (Ne.symm hk)] at e2
    refine List.mem_cons_of_mem _ (List.mem_filter.mpr ⟨(lvl_mem _ 0 k v).mpr ⟨k, x, by omega, e2, e3⟩, ?_⟩)
    have h1 : (k == i) = false := by simpa using hk
    simp only [h1, Bool.not_false, Bool.true_and]
    by_cases h2 : k + 1 = i
    · subst h2
      have h3 : (x.category == 1) = true := by
        have := hn
        simp only [noL, e2] at this
        exact this
      rw [e3, rl_cat]
      have h4 : x.category = 1 := by simpa using h3
      rw [h4]
      simp
    · have : (k + 1 == i) = false := by simpa using h2
      simp [this]
