section RULES
variable {m : mi} {X : aX} {pc : Nat} {ls : List (Option Value)} {st : List Value} {w : aW} {cl sl : Nat}
theorem R_iconst (hC : Cx m X) {n : Int} {v : Int32} (hd : decode m.2.1 pc = .ok (.iconst n, 1)) (hv : Int32.ofInt n = v)
    (k : Rw m X (pc + 1) ls (.int v :: st) w cl sl) : Rw m X pc ls (st) w cl sl := by
  obtain ⟨p, l, e, R, s, mm, args, below, meth, c, Z, V⟩ := X
  obtain ⟨hV, hx, hb, hml, hr, hlk, hown, hts, hK, hnm⟩ := hC
  intro H locs la hH hL hl
  exact lv_iconst hx hb hd hv (k H locs la hH hL hl)
theorem R_bipush (hC : Cx m X) {n : Int} {v : Int32} (hd : decode m.2.1 pc = .ok (.bipush n, 2)) (hv : (Int8.ofInt n).toInt32 = v)
    (k : Rw m X (pc + 2) ls (.int v :: st) w cl sl) : Rw m X pc ls (st) w cl sl := by
  obtain ⟨p, l, e, R, s, mm, args, below, meth, c, Z, V⟩ := X
  obtain ⟨hV, hx, hb, hml, hr, hlk, hown, hts, hK, hnm⟩ := hC
  intro H locs la hH hL hl
  exact lv_bipush hx hb hd hv (k H locs la hH hL hl)
theorem R_sipush (hC : Cx m X) {n : Int} {v : Int32} (hd : decode m.2.1 pc = .ok (.sipush n, 3)) (hv : (Int16.ofInt n).toInt32 = v)
    (k : Rw m X (pc + 3) ls (.int v :: st) w cl sl) : Rw m X pc ls (st) w cl sl := by
  obtain ⟨p, l, e, R, s, mm, args, below, meth, c, Z, V⟩ := X
  obtain ⟨hV, hx, hb, hml, hr, hlk, hown, hts, hK, hnm⟩ := hC
  intro H locs la hH hL hl
  exact lv_sipush hx hb hd hv (k H locs la hH hL hl)
theorem R_lconst (hC : Cx m X) {n : Fin 2} {v : Int64} (hd : decode m.2.1 pc = .ok (.lconst n, 1)) (hv : Int64.ofNat (n : Nat) = v)
    (k : Rw m X (pc + 1) ls (.long v :: st) w cl sl) : Rw m X pc ls (st) w cl sl := by
  obtain ⟨p, l, e, R, s, mm, args, below, meth, c, Z, V⟩ := X
  obtain ⟨hV, hx, hb, hml, hr, hlk, hown, hts, hK, hnm⟩ := hC
  intro H locs la hH hL hl
  exact lv_lconst hx hb hd hv (k H locs la hH hL hl)
theorem R_iload_n (hC : Cx m X) {j : Fin 4} {i : Nat} {x : Int32} (hd : decode m.2.1 pc = .ok (.iload_n j, 1)) (hi : (j : Nat) = i) (hu : ls[i]? = some (some (.int x)))
    (k : Rw m X (pc + 1) ls (.int x :: st) w cl sl) : Rw m X pc ls (st) w cl sl := by
  obtain ⟨p, l, e, R, s, mm, args, below, meth, c, Z, V⟩ := X
  obtain ⟨hV, hx, hb, hml, hr, hlk, hown, hts, hK, hnm⟩ := hC
  intro H locs la hH hL hl
  exact lv_iload_n hx hb hd hi (lvl_get hl hu) (k H locs la hH hL hl)
theorem R_iload (hC : Cx m X) {i : Nat} {x : Int32} (hd : decode m.2.1 pc = .ok (.iload i, 2)) (hu : ls[i]? = some (some (.int x)))
    (k : Rw m X (pc + 2) ls (.int x :: st) w cl sl) : Rw m X pc ls (st) w cl sl := by
  obtain ⟨p, l, e, R, s, mm, args, below, meth, c, Z, V⟩ := X
  obtain ⟨hV, hx, hb, hml, hr, hlk, hown, hts, hK, hnm⟩ := hC
  intro H locs la hH hL hl
  exact lv_iload hx hb hd (lvl_get hl hu) (k H locs la hH hL hl)
theorem R_lload_n (hC : Cx m X) {j : Fin 4} {i : Nat} {x : Int64} (hd : decode m.2.1 pc = .ok (.lload_n j, 1)) (hi : (j : Nat) = i) (hu : ls[i]? = some (some (.long x)))
    (k : Rw m X (pc + 1) ls (.long x :: st) w cl sl) : Rw m X pc ls (st) w cl sl := by
  obtain ⟨p, l, e, R, s, mm, args, below, meth, c, Z, V⟩ := X
  obtain ⟨hV, hx, hb, hml, hr, hlk, hown, hts, hK, hnm⟩ := hC
  intro H locs la hH hL hl
  exact lv_lload_n hx hb hd hi (lvl_get hl hu) (k H locs la hH hL hl)
theorem R_lload (hC : Cx m X) {i : Nat} {x : Int64} (hd : decode m.2.1 pc = .ok (.lload i, 2)) (hu : ls[i]? = some (some (.long x)))
    (k : Rw m X (pc + 2) ls (.long x :: st) w cl sl) : Rw m X pc ls (st) w cl sl := by
  obtain ⟨p, l, e, R, s, mm, args, below, meth, c, Z, V⟩ := X
  obtain ⟨hV, hx, hb, hml, hr, hlk, hown, hts, hK, hnm⟩ := hC
  intro H locs la hH hL hl
  exact lv_lload hx hb hd (lvl_get hl hu) (k H locs la hH hL hl)
theorem R_aload_n (hC : Cx m X) {j : Fin 4} {i : Nat} {x : Nat} (hd : decode m.2.1 pc = .ok (.aload_n j, 1)) (hi : (j : Nat) = i) (hu : ls[i]? = some (some (.ref x)))
    (k : Rw m X (pc + 1) ls (.ref x :: st) w cl sl) : Rw m X pc ls (st) w cl sl := by
  obtain ⟨p, l, e, R, s, mm, args, below, meth, c, Z, V⟩ := X
  obtain ⟨hV, hx, hb, hml, hr, hlk, hown, hts, hK, hnm⟩ := hC
  intro H locs la hH hL hl
  exact lv_aload_n hx hb hd hi (lvl_get hl hu) (k H locs la hH hL hl)
theorem R_aload (hC : Cx m X) {i : Nat} {x : Nat} (hd : decode m.2.1 pc = .ok (.aload i, 2)) (hu : ls[i]? = some (some (.ref x)))
    (k : Rw m X (pc + 2) ls (.ref x :: st) w cl sl) : Rw m X pc ls (st) w cl sl := by
  obtain ⟨p, l, e, R, s, mm, args, below, meth, c, Z, V⟩ := X
  obtain ⟨hV, hx, hb, hml, hr, hlk, hown, hts, hK, hnm⟩ := hC
  intro H locs la hH hL hl
  exact lv_aload hx hb hd (lvl_get hl hu) (k H locs la hH hL hl)
theorem R_istore_n (hC : Cx m X) {j : Fin 4} {i : Nat} {x : Int32} (hd : decode m.2.1 pc = .ok (.istore_n j, 1)) (hi : (j : Nat) = i) (hn : i < m.2.2.1) (hq : noL ls i = true)
    (k : Rw m X (pc + 1) (ls.set i (some (.int x))) (st) w cl sl) : Rw m X pc ls (.int x :: st) w cl sl := by
  obtain ⟨p, l, e, R, s, mm, args, below, meth, c, Z, V⟩ := X
  obtain ⟨hV, hx, hb, hml, hr, hlk, hown, hts, hK, hnm⟩ := hC
  intro H locs la hH hL hl
  exact lv_istore_n hx hb hd hi hl hn rfl (fun la2 h2 => k H locs la2 hH hL (lvl_set hq h2))
theorem R_istore (hC : Cx m X) {i : Nat} {x : Int32} (hd : decode m.2.1 pc = .ok (.istore i, 2)) (hn : i < m.2.2.1) (hq : noL ls i = true)
    (k : Rw m X (pc + 2) (ls.set i (some (.int x))) (st) w cl sl) : Rw m X pc ls (.int x :: st) w cl sl := by
  obtain ⟨p, l, e, R, s, mm, args, below, meth, c, Z, V⟩ := X
  obtain ⟨hV, hx, hb, hml, hr, hlk, hown, hts, hK, hnm⟩ := hC
  intro H locs la hH hL hl
  exact lv_istore hx hb hd hl hn rfl (fun la2 h2 => k H locs la2 hH hL (lvl_set hq h2))
theorem R_astore_n (hC : Cx m X) {j : Fin 4} {i : Nat} {x : Nat} (hd : decode m.2.1 pc = .ok (.astore_n j, 1)) (hi : (j : Nat) = i) (hn : i < m.2.2.1) (hq : noL ls i = true)
    (k : Rw m X (pc + 1) (ls.set i (some (.ref x))) (st) w cl sl) : Rw m X pc ls (.ref x :: st) w cl sl := by
  obtain ⟨p, l, e, R, s, mm, args, below, meth, c, Z, V⟩ := X
  obtain ⟨hV, hx, hb, hml, hr, hlk, hown, hts, hK, hnm⟩ := hC
  intro H locs la hH hL hl
  exact lv_astore_n hx hb hd hi hl hn rfl (fun la2 h2 => k H locs la2 hH hL (lvl_set hq h2))
theorem R_astore (hC : Cx m X) {i : Nat} {x : Nat} (hd : decode m.2.1 pc = .ok (.astore i, 2)) (hn : i < m.2.2.1) (hq : noL ls i = true)
    (k : Rw m X (pc + 2) (ls.set i (some (.ref x))) (st) w cl sl) : Rw m X pc ls (.ref x :: st) w cl sl := by
  obtain ⟨p, l, e, R, s, mm, args, below, meth, c, Z, V⟩ := X
  obtain ⟨hV, hx, hb, hml, hr, hlk, hown, hts, hK, hnm⟩ := hC
  intro H locs la hH hL hl
  exact lv_astore hx hb hd hl hn rfl (fun la2 h2 => k H locs la2 hH hL (lvl_set hq h2))
theorem R_iinc (hC : Cx m X) {i : Nat} {n : Int} {x v : Int32} (hd : decode m.2.1 pc = .ok (.iinc i n, 3)) (hu : ls[i]? = some (some (.int x))) (hv : x + Int32.ofInt n = v) (hn : i < m.2.2.1) (hq : noL ls i = true)
    (k : Rw m X (pc + 3) (ls.set i (some (.int v))) (st) w cl sl) : Rw m X pc ls (st) w cl sl := by
  obtain ⟨p, l, e, R, s, mm, args, below, meth, c, Z, V⟩ := X
  obtain ⟨hV, hx, hb, hml, hr, hlk, hown, hts, hK, hnm⟩ := hC
  intro H locs la hH hL hl
  obtain ⟨k0, hk0⟩ := List.getElem?_of_mem ((lvl_mem ls 0 i (.int x)).mpr ⟨i, .int x, by omega, hu, rfl⟩)
  exact lv_iinc hx hb hd hl hk0 hv hn rfl (fun la2 h2 => k H locs la2 hH hL (lvl_set (u := .int v) hq h2))
theorem R_iadd (hC : Cx m X) {x y : Int32} (hd : decode m.2.1 pc = .ok (.iadd, 1))
    (k : Rw m X (pc + 1) ls (.int (x + y) :: st) w cl sl) : Rw m X pc ls (.int y :: .int x :: st) w cl sl := by
  obtain ⟨p, l, e, R, s, mm, args, below, meth, c, Z, V⟩ := X
  obtain ⟨hV, hx, hb, hml, hr, hlk, hown, hts, hK, hnm⟩ := hC
  intro H locs la hH hL hl
  exact lv_iadd hx hb hd (k H locs la hH hL hl)
theorem R_isub (hC : Cx m X) {x y : Int32} (hd : decode m.2.1 pc = .ok (.isub, 1))
    (k : Rw m X (pc + 1) ls (.int (x - y) :: st) w cl sl) : Rw m X pc ls (.int y :: .int x :: st) w cl sl := by
  obtain ⟨p, l, e, R, s, mm, args, below, meth, c, Z, V⟩ := X
  obtain ⟨hV, hx, hb, hml, hr, hlk, hown, hts, hK, hnm⟩ := hC
  intro H locs la hH hL hl
  exact lv_isub hx hb hd (k H locs la hH hL hl)
theorem R_imul (hC : Cx m X) {x y : Int32} (hd : decode m.2.1 pc = .ok (.imul, 1))
    (k : Rw m X (pc + 1) ls (.int (x * y) :: st) w cl sl) : Rw m X pc ls (.int y :: .int x :: st) w cl sl := by
  obtain ⟨p, l, e, R, s, mm, args, below, meth, c, Z, V⟩ := X
  obtain ⟨hV, hx, hb, hml, hr, hlk, hown, hts, hK, hnm⟩ := hC
  intro H locs la hH hL hl
  exact lv_imul hx hb hd (k H locs la hH hL hl)
theorem R_iand (hC : Cx m X) {x y : Int32} (hd : decode m.2.1 pc = .ok (.iand, 1))
    (k : Rw m X (pc + 1) ls (.int (x &&& y) :: st) w cl sl) : Rw m X pc ls (.int y :: .int x :: st) w cl sl := by
  obtain ⟨p, l, e, R, s, mm, args, below, meth, c, Z, V⟩ := X
  obtain ⟨hV, hx, hb, hml, hr, hlk, hown, hts, hK, hnm⟩ := hC
  intro H locs la hH hL hl
  exact lv_iand hx hb hd (k H locs la hH hL hl)
theorem R_ior (hC : Cx m X) {x y : Int32} (hd : decode m.2.1 pc = .ok (.ior, 1))
    (k : Rw m X (pc + 1) ls (.int (x ||| y) :: st) w cl sl) : Rw m X pc ls (.int y :: .int x :: st) w cl sl := by
  obtain ⟨p, l, e, R, s, mm, args, below, meth, c, Z, V⟩ := X
  obtain ⟨hV, hx, hb, hml, hr, hlk, hown, hts, hK, hnm⟩ := hC
  intro H locs la hH hL hl
  exact lv_ior hx hb hd (k H locs la hH hL hl)
theorem R_ixor (hC : Cx m X) {x y : Int32} (hd : decode m.2.1 pc = .ok (.ixor, 1))
    (k : Rw m X (pc + 1) ls (.int (x ^^^ y) :: st) w cl sl) : Rw m X pc ls (.int y :: .int x :: st) w cl sl := by
  obtain ⟨p, l, e, R, s, mm, args, below, meth, c, Z, V⟩ := X
  obtain ⟨hV, hx, hb, hml, hr, hlk, hown, hts, hK, hnm⟩ := hC
  intro H locs la hH hL hl
  exact lv_ixor hx hb hd (k H locs la hH hL hl)
theorem R_ishl (hC : Cx m X) {x y : Int32} (hd : decode m.2.1 pc = .ok (.ishl, 1))
    (k : Rw m X (pc + 1) ls (.int (x <<< (y &&& 31)) :: st) w cl sl) : Rw m X pc ls (.int y :: .int x :: st) w cl sl := by
  obtain ⟨p, l, e, R, s, mm, args, below, meth, c, Z, V⟩ := X
  obtain ⟨hV, hx, hb, hml, hr, hlk, hown, hts, hK, hnm⟩ := hC
  intro H locs la hH hL hl
  exact lv_ishl hx hb hd (k H locs la hH hL hl)
theorem R_ishr (hC : Cx m X) {x y : Int32} (hd : decode m.2.1 pc = .ok (.ishr, 1))
    (k : Rw m X (pc + 1) ls (.int (x >>> (y &&& 31)) :: st) w cl sl) : Rw m X pc ls (.int y :: .int x :: st) w cl sl := by
  obtain ⟨p, l, e, R, s, mm, args, below, meth, c, Z, V⟩ := X
  obtain ⟨hV, hx, hb, hml, hr, hlk, hown, hts, hK, hnm⟩ := hC
  intro H locs la hH hL hl
  exact lv_ishr hx hb hd (k H locs la hH hL hl)
theorem R_idiv (hC : Cx m X) {x y : Int32} (hd : decode m.2.1 pc = .ok (.idiv, 1)) (hne : ¬ y = 0)
    (k : Rw m X (pc + 1) ls (.int (x / y) :: st) w cl sl) : Rw m X pc ls (.int y :: .int x :: st) w cl sl := by
  obtain ⟨p, l, e, R, s, mm, args, below, meth, c, Z, V⟩ := X
  obtain ⟨hV, hx, hb, hml, hr, hlk, hown, hts, hK, hnm⟩ := hC
  intro H locs la hH hL hl
  exact lv_idiv hx hb hd hne (k H locs la hH hL hl)
theorem R_irem (hC : Cx m X) {x y : Int32} (hd : decode m.2.1 pc = .ok (.irem, 1)) (hne : ¬ y = 0)
    (k : Rw m X (pc + 1) ls (.int (x - x / y * y) :: st) w cl sl) : Rw m X pc ls (.int y :: .int x :: st) w cl sl := by
  obtain ⟨p, l, e, R, s, mm, args, below, meth, c, Z, V⟩ := X
  obtain ⟨hV, hx, hb, hml, hr, hlk, hown, hts, hK, hnm⟩ := hC
  intro H locs la hH hL hl
  exact lv_irem hx hb hd hne (k H locs la hH hL hl)
theorem R_ineg (hC : Cx m X) {x : Int32} (hd : decode m.2.1 pc = .ok (.ineg, 1))
    (k : Rw m X (pc + 1) ls (.int (-x) :: st) w cl sl) : Rw m X pc ls (.int x :: st) w cl sl := by
  obtain ⟨p, l, e, R, s, mm, args, below, meth, c, Z, V⟩ := X
  obtain ⟨hV, hx, hb, hml, hr, hlk, hown, hts, hK, hnm⟩ := hC
  intro H locs la hH hL hl
  exact lv_ineg hx hb hd (k H locs la hH hL hl)
theorem R_iushr (hC : Cx m X) {x y : Int32} (hd : decode m.2.1 pc = .ok (.iushr, 1))
    (k : Rw m X (pc + 1) ls (.int ((x.toUInt32 >>> (y.toUInt32 &&& Int32.toUInt32 31)).toInt32) :: st) w cl sl) : Rw m X pc ls (.int y :: .int x :: st) w cl sl := by
  obtain ⟨p, l, e, R, s, mm, args, below, meth, c, Z, V⟩ := X
  obtain ⟨hV, hx, hb, hml, hr, hlk, hown, hts, hK, hnm⟩ := hC
  intro H locs la hH hL hl
  exact lv_iushr hx hb hd rfl (k H locs la hH hL hl)
theorem R_ladd (hC : Cx m X) {x y : Int64} (hd : decode m.2.1 pc = .ok (.ladd, 1))
    (k : Rw m X (pc + 1) ls (.long (x + y) :: st) w cl sl) : Rw m X pc ls (.long y :: .long x :: st) w cl sl := by
  obtain ⟨p, l, e, R, s, mm, args, below, meth, c, Z, V⟩ := X
  obtain ⟨hV, hx, hb, hml, hr, hlk, hown, hts, hK, hnm⟩ := hC
  intro H locs la hH hL hl
  exact lv_ladd hx hb hd (k H locs la hH hL hl)
theorem R_lmul (hC : Cx m X) {x y : Int64} (hd : decode m.2.1 pc = .ok (.lmul, 1))
    (k : Rw m X (pc + 1) ls (.long (x * y) :: st) w cl sl) : Rw m X pc ls (.long y :: .long x :: st) w cl sl := by
  obtain ⟨p, l, e, R, s, mm, args, below, meth, c, Z, V⟩ := X
  obtain ⟨hV, hx, hb, hml, hr, hlk, hown, hts, hK, hnm⟩ := hC
  intro H locs la hH hL hl
  exact lv_lmul hx hb hd (k H locs la hH hL hl)
theorem R_land (hC : Cx m X) {x y : Int64} (hd : decode m.2.1 pc = .ok (.land, 1))
    (k : Rw m X (pc + 1) ls (.long (x &&& y) :: st) w cl sl) : Rw m X pc ls (.long y :: .long x :: st) w cl sl := by
  obtain ⟨p, l, e, R, s, mm, args, below, meth, c, Z, V⟩ := X
  obtain ⟨hV, hx, hb, hml, hr, hlk, hown, hts, hK, hnm⟩ := hC
  intro H locs la hH hL hl
  exact lv_land hx hb hd (k H locs la hH hL hl)
theorem R_lor (hC : Cx m X) {x y : Int64} (hd : decode m.2.1 pc = .ok (.lor, 1))
    (k : Rw m X (pc + 1) ls (.long (x ||| y) :: st) w cl sl) : Rw m X pc ls (.long y :: .long x :: st) w cl sl := by
  obtain ⟨p, l, e, R, s, mm, args, below, meth, c, Z, V⟩ := X
  obtain ⟨hV, hx, hb, hml, hr, hlk, hown, hts, hK, hnm⟩ := hC
  intro H locs la hH hL hl
  exact lv_lor hx hb hd (k H locs la hH hL hl)
theorem R_lrem (hC : Cx m X) {x y : Int64} (hd : decode m.2.1 pc = .ok (.lrem, 1)) (hne : ¬ y = 0)
    (k : Rw m X (pc + 1) ls (.long (x - x / y * y) :: st) w cl sl) : Rw m X pc ls (.long y :: .long x :: st) w cl sl := by
  obtain ⟨p, l, e, R, s, mm, args, below, meth, c, Z, V⟩ := X
  obtain ⟨hV, hx, hb, hml, hr, hlk, hown, hts, hK, hnm⟩ := hC
  intro H locs la hH hL hl
  exact lv_lrem hx hb hd hne (k H locs la hH hL hl)
theorem R_lushr (hC : Cx m X) {x : Int64} {y : Int32} (hd : decode m.2.1 pc = .ok (.lushr, 1))
    (k : Rw m X (pc + 1) ls (.long ((x.toUInt64 >>> (y.toInt64.toUInt64 &&& Int64.toUInt64 63)).toInt64) :: st) w cl sl) : Rw m X pc ls (.int y :: .long x :: st) w cl sl := by
  obtain ⟨p, l, e, R, s, mm, args, below, meth, c, Z, V⟩ := X
  obtain ⟨hV, hx, hb, hml, hr, hlk, hown, hts, hK, hnm⟩ := hC
  intro H locs la hH hL hl
  exact lv_lushr hx hb hd rfl (k H locs la hH hL hl)
theorem R_lshl (hC : Cx m X) {x : Int64} {y : Int32} (hd : decode m.2.1 pc = .ok (.lshl, 1))
    (k : Rw m X (pc + 1) ls (.long (x <<< (y.toInt64 &&& 63)) :: st) w cl sl) : Rw m X pc ls (.int y :: .long x :: st) w cl sl := by
  obtain ⟨p, l, e, R, s, mm, args, below, meth, c, Z, V⟩ := X
  obtain ⟨hV, hx, hb, hml, hr, hlk, hown, hts, hK, hnm⟩ := hC
  intro H locs la hH hL hl
  exact lv_lshl hx hb hd rfl (k H locs la hH hL hl)
theorem R_i2l (hC : Cx m X) {x : Int32} (hd : decode m.2.1 pc = .ok (.i2l, 1))
    (k : Rw m X (pc + 1) ls (.long x.toInt64 :: st) w cl sl) : Rw m X pc ls (.int x :: st) w cl sl := by
  obtain ⟨p, l, e, R, s, mm, args, below, meth, c, Z, V⟩ := X
  obtain ⟨hV, hx, hb, hml, hr, hlk, hown, hts, hK, hnm⟩ := hC
  intro H locs la hH hL hl
  exact lv_i2l hx hb hd rfl (k H locs la hH hL hl)
theorem R_l2i (hC : Cx m X) {x : Int64} (hd : decode m.2.1 pc = .ok (.l2i, 1))
    (k : Rw m X (pc + 1) ls (.int x.toInt32 :: st) w cl sl) : Rw m X pc ls (.long x :: st) w cl sl := by
  obtain ⟨p, l, e, R, s, mm, args, below, meth, c, Z, V⟩ := X
  obtain ⟨hV, hx, hb, hml, hr, hlk, hown, hts, hK, hnm⟩ := hC
  intro H locs la hH hL hl
  exact lv_l2i hx hb hd rfl (k H locs la hH hL hl)
theorem R_i2b (hC : Cx m X) {x : Int32} (hd : decode m.2.1 pc = .ok (.i2b, 1))
    (k : Rw m X (pc + 1) ls (.int x.toInt8.toInt32 :: st) w cl sl) : Rw m X pc ls (.int x :: st) w cl sl := by
  obtain ⟨p, l, e, R, s, mm, args, below, meth, c, Z, V⟩ := X
  obtain ⟨hV, hx, hb, hml, hr, hlk, hown, hts, hK, hnm⟩ := hC
  intro H locs la hH hL hl
  exact lv_i2b hx hb hd rfl (k H locs la hH hL hl)
theorem R_i2c (hC : Cx m X) {x : Int32} (hd : decode m.2.1 pc = .ok (.i2c, 1))
    (k : Rw m X (pc + 1) ls (.int (x.toUInt32 % 65536).toInt32 :: st) w cl sl) : Rw m X pc ls (.int x :: st) w cl sl := by
  obtain ⟨p, l, e, R, s, mm, args, below, meth, c, Z, V⟩ := X
  obtain ⟨hV, hx, hb, hml, hr, hlk, hown, hts, hK, hnm⟩ := hC
  intro H locs la hH hL hl
  exact lv_i2c hx hb hd rfl (k H locs la hH hL hl)
theorem R_dup (hC : Cx m X) {v : Value} (hd : decode m.2.1 pc = .ok (.dup, 1)) (hc : v.category = 1)
    (k : Rw m X (pc + 1) ls (v :: v :: st) w cl sl) : Rw m X pc ls (v :: st) w cl sl := by
  obtain ⟨p, l, e, R, s, mm, args, below, meth, c, Z, V⟩ := X
  obtain ⟨hV, hx, hb, hml, hr, hlk, hown, hts, hK, hnm⟩ := hC
  intro H locs la hH hL hl
  exact lv_dup hx hb hd (by rw [rl_cat]; exact hc) (k H locs la hH hL hl)
theorem R_dup2 (hC : Cx m X) {v u : Value} (hd : decode m.2.1 pc = .ok (.dup2, 1)) (hc : v.category = 1) (hc2 : u.category = 1)
    (k : Rw m X (pc + 1) ls (v :: u :: v :: u :: st) w cl sl) : Rw m X pc ls (v :: u :: st) w cl sl := by
  obtain ⟨p, l, e, R, s, mm, args, below, meth, c, Z, V⟩ := X
  obtain ⟨hV, hx, hb, hml, hr, hlk, hown, hts, hK, hnm⟩ := hC
  intro H locs la hH hL hl
  exact lv_dup2_11 hx hb hd (by rw [rl_cat]; exact hc) (by rw [rl_cat]; exact hc2) (k H locs la hH hL hl)
theorem R_pop (hC : Cx m X) {v : Value} (hd : decode m.2.1 pc = .ok (.pop, 1)) (hc : v.category = 1)
    (k : Rw m X (pc + 1) ls (st) w cl sl) : Rw m X pc ls (v :: st) w cl sl := by
  obtain ⟨p, l, e, R, s, mm, args, below, meth, c, Z, V⟩ := X
  obtain ⟨hV, hx, hb, hml, hr, hlk, hown, hts, hK, hnm⟩ := hC
  intro H locs la hH hL hl
  exact lv_pop hx hb hd (by rw [rl_cat]; exact hc) (k H locs la hH hL hl)
theorem R_goto (hC : Cx m X) {off : Int} (tgt : Nat) (hd : decode m.2.1 pc = .ok (.goto off, 3)) (ht : (pc : Int) + off = (tgt : Int))
    (k : Rw m X tgt ls st w cl sl) : Rw m X pc ls st w cl sl := by
  obtain ⟨p, l, e, R, s, mm, args, below, meth, c, Z, V⟩ := X
  obtain ⟨hV, hx, hb, hml, hr, hlk, hown, hts, hK, hnm⟩ := hC
  intro H locs la hH hL hl
  exact lv_goto hx hb hd ht (k H locs la hH hL hl)
theorem R_if_eq (hC : Cx m X) {x : Int32} {off : Int} (tgt : Nat) (hd : decode m.2.1 pc = .ok (.ifCond .eq off, 3)) (ht : (pc : Int) + off = (tgt : Int))
    (kt : x = 0 → Rw m X tgt ls st w cl sl) (kf : ¬ x = 0 → Rw m X (pc + 3) ls st w cl sl) : Rw m X pc ls (.int x :: st) w cl sl := by
  obtain ⟨p, l, e, R, s, mm, args, below, meth, c, Z, V⟩ := X
  obtain ⟨hV, hx, hb, hml, hr, hlk, hown, hts, hK, hnm⟩ := hC
  intro H locs la hH hL hl
  exact lv_if_eq hx hb hd ht (fun q => kt q H locs la hH hL hl) (fun q => kf q H locs la hH hL hl)
theorem R_icmp_eq (hC : Cx m X) {x y : Int32} {off : Int} (tgt : Nat) (hd : decode m.2.1 pc = .ok (.if_icmp .eq off, 3)) (ht : (pc : Int) + off = (tgt : Int))
    (kt : x = y → Rw m X tgt ls st w cl sl) (kf : ¬ x = y → Rw m X (pc + 3) ls st w cl sl) : Rw m X pc ls (.int y :: .int x :: st) w cl sl := by
  obtain ⟨p, l, e, R, s, mm, args, below, meth, c, Z, V⟩ := X
  obtain ⟨hV, hx, hb, hml, hr, hlk, hown, hts, hK, hnm⟩ := hC
  intro H locs la hH hL hl
  exact lv_icmp_eq hx hb hd ht (fun q => kt q H locs la hH hL hl) (fun q => kf q H locs la hH hL hl)
theorem R_if_ne (hC : Cx m X) {x : Int32} {off : Int} (tgt : Nat) (hd : decode m.2.1 pc = .ok (.ifCond .ne off, 3)) (ht : (pc : Int) + off = (tgt : Int))
    (kt : ¬ x = 0 → Rw m X tgt ls st w cl sl) (kf : x = 0 → Rw m X (pc + 3) ls st w cl sl) : Rw m X pc ls (.int x :: st) w cl sl := by
  obtain ⟨p, l, e, R, s, mm, args, below, meth, c, Z, V⟩ := X
  obtain ⟨hV, hx, hb, hml, hr, hlk, hown, hts, hK, hnm⟩ := hC
  intro H locs la hH hL hl
  exact lv_if_ne hx hb hd ht (fun q => kt q H locs la hH hL hl) (fun q => kf q H locs la hH hL hl)
theorem R_icmp_ne (hC : Cx m X) {x y : Int32} {off : Int} (tgt : Nat) (hd : decode m.2.1 pc = .ok (.if_icmp .ne off, 3)) (ht : (pc : Int) + off = (tgt : Int))
    (kt : ¬ x = y → Rw m X tgt ls st w cl sl) (kf : x = y → Rw m X (pc + 3) ls st w cl sl) : Rw m X pc ls (.int y :: .int x :: st) w cl sl := by
  obtain ⟨p, l, e, R, s, mm, args, below, meth, c, Z, V⟩ := X
  obtain ⟨hV, hx, hb, hml, hr, hlk, hown, hts, hK, hnm⟩ := hC
  intro H locs la hH hL hl
  exact lv_icmp_ne hx hb hd ht (fun q => kt q H locs la hH hL hl) (fun q => kf q H locs la hH hL hl)
theorem R_if_lt (hC : Cx m X) {x : Int32} {off : Int} (tgt : Nat) (hd : decode m.2.1 pc = .ok (.ifCond .lt off, 3)) (ht : (pc : Int) + off = (tgt : Int))
    (kt : x < 0 → Rw m X tgt ls st w cl sl) (kf : ¬ x < 0 → Rw m X (pc + 3) ls st w cl sl) : Rw m X pc ls (.int x :: st) w cl sl := by
  obtain ⟨p, l, e, R, s, mm, args, below, meth, c, Z, V⟩ := X
  obtain ⟨hV, hx, hb, hml, hr, hlk, hown, hts, hK, hnm⟩ := hC
  intro H locs la hH hL hl
  exact lv_if_lt hx hb hd ht (fun q => kt q H locs la hH hL hl) (fun q => kf q H locs la hH hL hl)
theorem R_icmp_lt (hC : Cx m X) {x y : Int32} {off : Int} (tgt : Nat) (hd : decode m.2.1 pc = .ok (.if_icmp .lt off, 3)) (ht : (pc : Int) + off = (tgt : Int))
    (kt : x < y → Rw m X tgt ls st w cl sl) (kf : ¬ x < y → Rw m X (pc + 3) ls st w cl sl) : Rw m X pc ls (.int y :: .int x :: st) w cl sl := by
  obtain ⟨p, l, e, R, s, mm, args, below, meth, c, Z, V⟩ := X
  obtain ⟨hV, hx, hb, hml, hr, hlk, hown, hts, hK, hnm⟩ := hC
  intro H locs la hH hL hl
  exact lv_icmp_lt hx hb hd ht (fun q => kt q H locs la hH hL hl) (fun q => kf q H locs la hH hL hl)
theorem R_if_ge (hC : Cx m X) {x : Int32} {off : Int} (tgt : Nat) (hd : decode m.2.1 pc = .ok (.ifCond .ge off, 3)) (ht : (pc : Int) + off = (tgt : Int))
    (kt : 0 ≤ x → Rw m X tgt ls st w cl sl) (kf : ¬ 0 ≤ x → Rw m X (pc + 3) ls st w cl sl) : Rw m X pc ls (.int x :: st) w cl sl := by
  obtain ⟨p, l, e, R, s, mm, args, below, meth, c, Z, V⟩ := X
  obtain ⟨hV, hx, hb, hml, hr, hlk, hown, hts, hK, hnm⟩ := hC
  intro H locs la hH hL hl
  exact lv_if_ge hx hb hd ht (fun q => kt q H locs la hH hL hl) (fun q => kf q H locs la hH hL hl)
theorem R_icmp_ge (hC : Cx m X) {x y : Int32} {off : Int} (tgt : Nat) (hd : decode m.2.1 pc = .ok (.if_icmp .ge off, 3)) (ht : (pc : Int) + off = (tgt : Int))
    (kt : y ≤ x → Rw m X tgt ls st w cl sl) (kf : ¬ y ≤ x → Rw m X (pc + 3) ls st w cl sl) : Rw m X pc ls (.int y :: .int x :: st) w cl sl := by
  obtain ⟨p, l, e, R, s, mm, args, below, meth, c, Z, V⟩ := X
  obtain ⟨hV, hx, hb, hml, hr, hlk, hown, hts, hK, hnm⟩ := hC
  intro H locs la hH hL hl
  exact lv_icmp_ge hx hb hd ht (fun q => kt q H locs la hH hL hl) (fun q => kf q H locs la hH hL hl)
theorem R_if_gt (hC : Cx m X) {x : Int32} {off : Int} (tgt : Nat) (hd : decode m.2.1 pc = .ok (.ifCond .gt off, 3)) (ht : (pc : Int) + off = (tgt : Int))
    (kt : 0 < x → Rw m X tgt ls st w cl sl) (kf : ¬ 0 < x → Rw m X (pc + 3) ls st w cl sl) : Rw m X pc ls (.int x :: st) w cl sl := by
  obtain ⟨p, l, e, R, s, mm, args, below, meth, c, Z, V⟩ := X
  obtain ⟨hV, hx, hb, hml, hr, hlk, hown, hts, hK, hnm⟩ := hC
  intro H locs la hH hL hl
  exact lv_if_gt hx hb hd ht (fun q => kt q H locs la hH hL hl) (fun q => kf q H locs la hH hL hl)
theorem R_icmp_gt (hC : Cx m X) {x y : Int32} {off : Int} (tgt : Nat) (hd : decode m.2.1 pc = .ok (.if_icmp .gt off, 3)) (ht : (pc : Int) + off = (tgt : Int))
    (kt : y < x → Rw m X tgt ls st w cl sl) (kf : ¬ y < x → Rw m X (pc + 3) ls st w cl sl) : Rw m X pc ls (.int y :: .int x :: st) w cl sl := by
  obtain ⟨p, l, e, R, s, mm, args, below, meth, c, Z, V⟩ := X
  obtain ⟨hV, hx, hb, hml, hr, hlk, hown, hts, hK, hnm⟩ := hC
  intro H locs la hH hL hl
  exact lv_icmp_gt hx hb hd ht (fun q => kt q H locs la hH hL hl) (fun q => kf q H locs la hH hL hl)
theorem R_if_le (hC : Cx m X) {x : Int32} {off : Int} (tgt : Nat) (hd : decode m.2.1 pc = .ok (.ifCond .le off, 3)) (ht : (pc : Int) + off = (tgt : Int))
    (kt : x ≤ 0 → Rw m X tgt ls st w cl sl) (kf : ¬ x ≤ 0 → Rw m X (pc + 3) ls st w cl sl) : Rw m X pc ls (.int x :: st) w cl sl := by
  obtain ⟨p, l, e, R, s, mm, args, below, meth, c, Z, V⟩ := X
  obtain ⟨hV, hx, hb, hml, hr, hlk, hown, hts, hK, hnm⟩ := hC
  intro H locs la hH hL hl
  exact lv_if_le hx hb hd ht (fun q => kt q H locs la hH hL hl) (fun q => kf q H locs la hH hL hl)
theorem R_icmp_le (hC : Cx m X) {x y : Int32} {off : Int} (tgt : Nat) (hd : decode m.2.1 pc = .ok (.if_icmp .le off, 3)) (ht : (pc : Int) + off = (tgt : Int))
    (kt : x ≤ y → Rw m X tgt ls st w cl sl) (kf : ¬ x ≤ y → Rw m X (pc + 3) ls st w cl sl) : Rw m X pc ls (.int y :: .int x :: st) w cl sl := by
  obtain ⟨p, l, e, R, s, mm, args, below, meth, c, Z, V⟩ := X
  obtain ⟨hV, hx, hb, hml, hr, hlk, hown, hts, hK, hnm⟩ := hC
  intro H locs la hH hL hl
  exact lv_icmp_le hx hb hd ht (fun q => kt q H locs la hH hL hl) (fun q => kf q H locs la hH hL hl)
theorem R_tableOut (hC : Cx m X) {dflt lo hi : Int} {offs : Array Int} {len : Nat} {x : Int32} (tgt : Nat) (hd : decode m.2.1 pc = .ok (.tableswitch dflt lo hi offs, len)) (h : x.toInt < lo ∨ hi < x.toInt) (ht : (pc : Int) + dflt = (tgt : Int))
    (k : Rw m X tgt ls st w cl sl) : Rw m X pc ls (.int x :: st) w cl sl := by
  obtain ⟨p, l, e, R, s, mm, args, below, meth, c, Z, V⟩ := X
  obtain ⟨hV, hx, hb, hml, hr, hlk, hown, hts, hK, hnm⟩ := hC
  intro H locs la hH hL hl
  exact lv_tableOut hx hb hd h ht (k H locs la hH hL hl)
theorem R_tableIn (hC : Cx m X) {dflt lo hi : Int} {offs : Array Int} {len : Nat} {x : Int32} {off : Int} (tgt : Nat) (hd : decode m.2.1 pc = .ok (.tableswitch dflt lo hi offs, len)) (h1 : ¬ x.toInt < lo) (h2 : ¬ hi < x.toInt) (ho : offs[(x.toInt - lo).toNat]? = some off) (ht : (pc : Int) + off = (tgt : Int))
    (k : Rw m X tgt ls st w cl sl) : Rw m X pc ls (.int x :: st) w cl sl := by
  obtain ⟨p, l, e, R, s, mm, args, below, meth, c, Z, V⟩ := X
  obtain ⟨hV, hx, hb, hml, hr, hlk, hown, hts, hK, hnm⟩ := hC
  intro H locs la hH hL hl
  exact lv_tableIn hx hb hd h1 h2 ho ht (k H locs la hH hL hl)
theorem R_lookup (hC : Cx m X) {dflt : Int} {ps : Array (Int × Int)} {len : Nat} {x : Int32} {off : Int} (tgt : Nat) (hd : decode m.2.1 pc = .ok (.lookupswitch dflt ps, len)) (hp : (ps.toList.zip (ps.toList.drop 1)).all (fun (a, next) => a.1 < next.1) = true) (ho : Op.lookupswitch.offset ps.toList dflt x.toInt = off) (ht : (pc : Int) + off = (tgt : Int))
    (k : Rw m X tgt ls st w cl sl) : Rw m X pc ls (.int x :: st) w cl sl := by
  obtain ⟨p, l, e, R, s, mm, args, below, meth, c, Z, V⟩ := X
  obtain ⟨hV, hx, hb, hml, hr, hlk, hown, hts, hK, hnm⟩ := hC
  intro H locs la hH hL hl
  exact lv_lookup hx hb hd hp ho ht (k H locs la hH hL hl)
theorem R_ldc (hC : Cx m X) {idx : Nat} {v : Int32} (hd : decode m.2.1 pc = .ok (.ldc idx, 2)) (hk : Cond.constant m.1.cls idx v ∈ lw_gl)
    (k : Rw m X (pc + 2) ls (.int v :: st) w cl sl) : Rw m X pc ls (st) w cl sl := by
  obtain ⟨p, l, e, R, s, mm, args, below, meth, c, Z, V⟩ := X
  obtain ⟨hV, hx, hb, hml, hr, hlk, hown, hts, hK, hnm⟩ := hC
  intro H locs la hH hL hl
  exact lv_ldc hx hb hown (hts _ hk) hd (k H locs la hH hL hl)
theorem R_ldcw (hC : Cx m X) {idx : Nat} {v : Int32} (hd : decode m.2.1 pc = .ok (.ldc_w idx, 3)) (hk : Cond.constant m.1.cls idx v ∈ lw_gl)
    (k : Rw m X (pc + 3) ls (.int v :: st) w cl sl) : Rw m X pc ls (st) w cl sl := by
  obtain ⟨p, l, e, R, s, mm, args, below, meth, c, Z, V⟩ := X
  obtain ⟨hV, hx, hb, hml, hr, hlk, hown, hts, hK, hnm⟩ := hC
  intro H locs la hH hL hl
  exact lv_ldcw hx hb hown (hts _ hk) hd (k H locs la hH hL hl)
theorem R_ldc2 (hC : Cx m X) {idx : Nat} {v : Int64} (hd : decode m.2.1 pc = .ok (.ldc2_w idx, 3)) (hk : Cond.constantLong m.1.cls idx v ∈ lw_gl)
    (k : Rw m X (pc + 3) ls (.long v :: st) w cl sl) : Rw m X pc ls (st) w cl sl := by
  obtain ⟨p, l, e, R, s, mm, args, below, meth, c, Z, V⟩ := X
  obtain ⟨hV, hx, hb, hml, hr, hlk, hown, hts, hK, hnm⟩ := hC
  intro H locs la hH hL hl
  exact lv_ldc2 hx hb hown (hts _ hk) hd (k H locs la hH hL hl)
theorem R_lcmp (hC : Cx m X) {x y : Int64} (hd : decode m.2.1 pc = .ok (.lcmp, 1))
    (k : Rw m X (pc + 1) ls (.int (lg_cmp x y) :: st) w cl sl) : Rw m X pc ls (.long y :: .long x :: st) w cl sl := by
  obtain ⟨p, l, e, R, s, mm, args, below, meth, c, Z, V⟩ := X
  obtain ⟨hV, hx, hb, hml, hr, hlk, hown, hts, hK, hnm⟩ := hC
  intro H locs la hH hL hl
  exact W.lcmp hx hb hd (k H locs la hH hL hl)
end RULES
