/-! ===== the world behind the constructors: what each numbered cell is ===== -/
/-- 0 int row, 1 byte row, 5 long row (length); 2 an object (its class's number; its fields: 0 an int, 1 a long, 2 a reference); 3, 4 a row of references -/
abbrev ld : Type := Nat × Nat × List (Nat × Nat)
/-- what changes: the objects' ints, their longs, the rows of ints -/
abbrev sg : Type := (Nat → Nat → Int32) × (Nat → Int64) × (Nat → Nat → Int32)
def fv (g : Nat → Int32) (x : Int64) : Nat → List (Nat × Nat) → List Value
  | _, [] => []
  | k, (0, _) :: t => .int (g k) :: fv g x (k + 1) t
  | k, (1, _) :: t => .long x :: fv g x (k + 1) t
  | k, (_ + 2, a) :: t => .ref a :: fv g x (k + 1) t
def cellF (σ : sg) (i : Nat) (d : ld) : aE := match d with
  | (0, n, _) => .inl (0, n, .inl (σ.2.2 i))
  | (1, n, _) => .inl (1, n, .inl (σ.2.2 i))
  | (2, c, fl) => .inr (c, fv (σ.1 i) (σ.2.1 i) 0 fl)
  | (5, n, _) => .inl (2, n, .inr (.inl (fun _ => σ.2.1 i)))
  | (t, n, fl) => .inl (t, n, .inr (.inr (.inr (.inr (fun j => (fl[j]?).map Prod.snd)))))

def LAY : List ld := [
  (2, 10, [(2, 17), (2, 19), (2, 21), (2, 23), (2, 25), (2, 107), (0, 0), (2, 108), (0, 0), (2, 109), (0, 0), (2, 111), (2, 112), (2, 114), (2, 119), (2, 124), (2, 131), (2, 136), (2, 142)]),
  (2, 8, [(2, 18), (0, 0)]),
  (0, 240, []),
  (2, 7, [(0, 0), (0, 0), (2, 20)]),
  (0, 36, []),
  (2, 7, [(0, 0), (0, 0), (2, 22)]),
  (0, 36, []),
  (2, 7, [(0, 0), (0, 0), (2, 24)]),
  (0, 36, []),
  (2, 2, [(2, 26), (0, 0), (0, 0)]),
  (3, 40, [(2, 27), (2, 29), (2, 31), (2, 33), (2, 35), (2, 37), (2, 39), (2, 41), (2, 43), (2, 45), (2, 47), (2, 49), (2, 51), (2, 53), (2, 55), (2, 57), (2, 59), (2, 61), (2, 63), (2, 65), (2, 67), (2, 69), (2, 71), (2, 73), (2, 75), (2, 77), (2, 79), (2, 81), (2, 83), (2, 85), (2, 87), (2, 89), (2, 91), (2, 93), (2, 95), (2, 97), (2, 99), (2, 101), (2, 103), (2, 105)]),
  (2, 7, [(0, 0), (0, 0), (2, 28)]),
  (0, 36, []),
  (2, 7, [(0, 0), (0, 0), (2, 30)]),
  (0, 36, []),
  (2, 7, [(0, 0), (0, 0), (2, 32)]),
  (0, 36, []),
  (2, 7, [(0, 0), (0, 0), (2, 34)]),
  (0, 36, []),
  (2, 7, [(0, 0), (0, 0), (2, 36)]),
  (0, 36, []),
  (2, 7, [(0, 0), (0, 0), (2, 38)]),
  (0, 36, []),
  (2, 7, [(0, 0), (0, 0), (2, 40)]),
  (0, 36, []),
  (2, 7, [(0, 0), (0, 0), (2, 42)]),
  (0, 36, []),
  (2, 7, [(0, 0), (0, 0), (2, 44)]),
  (0, 36, []),
  (2, 7, [(0, 0), (0, 0), (2, 46)]),
  (0, 36, []),
  (2, 7, [(0, 0), (0, 0), (2, 48)]),
  (0, 36, []),
  (2, 7, [(0, 0), (0, 0), (2, 50)]),
  (0, 36, []),
  (2, 7, [(0, 0), (0, 0), (2, 52)]),
  (0, 36, []),
  (2, 7, [(0, 0), (0, 0), (2, 54)]),
  (0, 36, []),
  (2, 7, [(0, 0), (0, 0), (2, 56)]),
  (0, 36, []),
  (2, 7, [(0, 0), (0, 0), (2, 58)]),
  (0, 36, []),
  (2, 7, [(0, 0), (0, 0), (2, 60)]),
  (0, 36, []),
  (2, 7, [(0, 0), (0, 0), (2, 62)]),
  (0, 36, []),
  (2, 7, [(0, 0), (0, 0), (2, 64)]),
  (0, 36, []),
  (2, 7, [(0, 0), (0, 0), (2, 66)]),
  (0, 36, []),
  (2, 7, [(0, 0), (0, 0), (2, 68)]),
  (0, 36, []),
  (2, 7, [(0, 0), (0, 0), (2, 70)]),
  (0, 36, []),
  (2, 7, [(0, 0), (0, 0), (2, 72)]),
  (0, 36, []),
  (2, 7, [(0, 0), (0, 0), (2, 74)]),
  (0, 36, []),
  (2, 7, [(0, 0), (0, 0), (2, 76)]),
  (0, 36, []),
  (2, 7, [(0, 0), (0, 0), (2, 78)]),
  (0, 36, []),
  (2, 7, [(0, 0), (0, 0), (2, 80)]),
  (0, 36, []),
  (2, 7, [(0, 0), (0, 0), (2, 82)]),
  (0, 36, []),
  (2, 7, [(0, 0), (0, 0), (2, 84)]),
  (0, 36, []),
  (2, 7, [(0, 0), (0, 0), (2, 86)]),
  (0, 36, []),
  (2, 7, [(0, 0), (0, 0), (2, 88)]),
  (0, 36, []),
  (2, 7, [(0, 0), (0, 0), (2, 90)]),
  (0, 36, []),
  (2, 7, [(0, 0), (0, 0), (2, 92)]),
  (0, 36, []),
  (2, 7, [(0, 0), (0, 0), (2, 94)]),
  (0, 36, []),
  (2, 7, [(0, 0), (0, 0), (2, 96)]),
  (0, 36, []),
  (2, 7, [(0, 0), (0, 0), (2, 98)]),
  (0, 36, []),
  (2, 7, [(0, 0), (0, 0), (2, 100)]),
  (0, 36, []),
  (2, 7, [(0, 0), (0, 0), (2, 102)]),
  (0, 36, []),
  (2, 7, [(0, 0), (0, 0), (2, 104)]),
  (0, 36, []),
  (2, 7, [(0, 0), (0, 0), (2, 106)]),
  (0, 36, []),
  (3, 4, [(2, 143), (2, 145), (2, 147), (2, 149)]),
  (4, 5, [(2, 151), (2, 156), (2, 161), (2, 166), (2, 171)]),
  (2, 7, [(0, 0), (0, 0), (2, 110)]),
  (0, 36, []),
  (0, 4, []),
  (2, 1, [(2, 113), (0, 0), (0, 0), (0, 0), (0, 0), (0, 0)]),
  (0, 4096, []),
  (2, 9, [(2, 115), (2, 117), (2, 118), (0, 0), (0, 0)]),
  (2, 7, [(0, 0), (0, 0), (2, 116)]),
  (0, 36, []),
  (0, 6, []),
  (0, 6, []),
  (2, 9, [(2, 120), (2, 122), (2, 123), (0, 0), (0, 0)]),
  (2, 7, [(0, 0), (0, 0), (2, 121)]),
  (0, 36, []),
  (0, 6, []),
  (0, 6, []),
  (2, 6, [(2, 125), (2, 127), (2, 128), (2, 129), (2, 130), (0, 0), (0, 0), (0, 0)]),
  (2, 7, [(0, 0), (0, 0), (2, 126)]),
  (0, 36, []),
  (0, 6, []),
  (0, 6, []),
  (0, 6, []),
  (0, 6, []),
  (2, 5, [(0, 0), (0, 0), (2, 132), (2, 133), (0, 0), (2, 134), (2, 135)]),
  (0, 6, []),
  (0, 6, []),
  (0, 12, []),
  (0, 12, []),
  (2, 3, [(2, 137), (2, 139), (2, 141)]),
  (2, 7, [(0, 0), (0, 0), (2, 138)]),
  (0, 36, []),
  (2, 7, [(0, 0), (0, 0), (2, 140)]),
  (0, 36, []),
  (0, 5, []),
  (2, 0, [(1, 0)]),
  (2, 7, [(0, 0), (0, 0), (2, 144)]),
  (0, 36, []),
  (2, 7, [(0, 0), (0, 0), (2, 146)]),
  (0, 36, []),
  (2, 7, [(0, 0), (0, 0), (2, 148)]),
  (0, 36, []),
  (2, 7, [(0, 0), (0, 0), (2, 150)]),
  (0, 36, []),
  (2, 4, [(0, 0), (2, 152), (2, 153), (2, 154), (2, 155)]),
  (0, 12, []),
  (0, 12, []),
  (0, 12, []),
  (0, 12, []),
  (2, 4, [(0, 0), (2, 157), (2, 158), (2, 159), (2, 160)]),
  (0, 12, []),
  (0, 12, []),
  (0, 12, []),
  (0, 12, []),
  (2, 4, [(0, 0), (2, 162), (2, 163), (2, 164), (2, 165)]),
  (0, 12, []),
  (0, 12, []),
  (0, 12, []),
  (0, 12, []),
  (2, 4, [(0, 0), (2, 167), (2, 168), (2, 169), (2, 170)]),
  (0, 12, []),
  (0, 12, []),
  (0, 12, []),
  (0, 12, []),
  (2, 4, [(0, 0), (2, 172), (2, 173), (2, 174), (2, 175)]),
  (0, 12, []),
  (0, 12, []),
  (0, 12, []),
  (0, 12, []),
  (2, 11, [(0, 0), (2, 177), (0, 0), (0, 0), (0, 0), (2, 178), (2, 179), (2, 180), (2, 181), (2, 182), (2, 183), (2, 184), (0, 0), (0, 0), (2, 185), (0, 0), (2, 186), (2, 187), (2, 188), (2, 189), (2, 190), (0, 0), (2, 191), (2, 192), (2, 193), (2, 194), (2, 195), (2, 196), (2, 197), (2, 198), (2, 199), (1, 0), (2, 200), (0, 0), (0, 0)]),
  (1, 240, []),
  (0, 38, []),
  (0, 38, []),
  (0, 38, []),
  (0, 152, []),
  (0, 240, []),
  (0, 5, []),
  (0, 4, []),
  (0, 1520, []),
  (0, 4096, []),
  (0, 12, []),
  (0, 12, []),
  (0, 38, []),
  (0, 6, []),
  (0, 12, []),
  (0, 12, []),
  (0, 38, []),
  (0, 12, []),
  (0, 38, []),
  (0, 38, []),
  (0, 6, []),
  (0, 6, []),
  (0, 38, []),
  (0, 38, []),
  (5, 1, [])]
abbrev LEND : Nat := 202
abbrev i_U : Nat := 16
abbrev i_tape : Nat := 17
abbrev i_tape_b : Nat := 18
abbrev i_table : Nat := 19
abbrev i_table_c : Nat := 20
abbrev i_before : Nat := 21
abbrev i_before_c : Nat := 22
abbrev i_draft : Nat := 23
abbrev i_draft_c : Nat := 24
abbrev i_past : Nat := 25
abbrev i_past_a : Nat := 26
abbrev i_past0 : Nat := 27
abbrev i_past0_c : Nat := 28
abbrev i_past1 : Nat := 29
abbrev i_past1_c : Nat := 30
abbrev i_past2 : Nat := 31
abbrev i_past2_c : Nat := 32
abbrev i_past3 : Nat := 33
abbrev i_past3_c : Nat := 34
abbrev i_past4 : Nat := 35
abbrev i_past4_c : Nat := 36
abbrev i_past5 : Nat := 37
abbrev i_past5_c : Nat := 38
abbrev i_past6 : Nat := 39
abbrev i_past6_c : Nat := 40
abbrev i_past7 : Nat := 41
abbrev i_past7_c : Nat := 42
abbrev i_past8 : Nat := 43
abbrev i_past8_c : Nat := 44
abbrev i_past9 : Nat := 45
abbrev i_past9_c : Nat := 46
abbrev i_past10 : Nat := 47
abbrev i_past10_c : Nat := 48
abbrev i_past11 : Nat := 49
abbrev i_past11_c : Nat := 50
abbrev i_past12 : Nat := 51
abbrev i_past12_c : Nat := 52
abbrev i_past13 : Nat := 53
abbrev i_past13_c : Nat := 54
abbrev i_past14 : Nat := 55
abbrev i_past14_c : Nat := 56
abbrev i_past15 : Nat := 57
abbrev i_past15_c : Nat := 58
abbrev i_past16 : Nat := 59
abbrev i_past16_c : Nat := 60
abbrev i_past17 : Nat := 61
abbrev i_past17_c : Nat := 62
abbrev i_past18 : Nat := 63
abbrev i_past18_c : Nat := 64
abbrev i_past19 : Nat := 65
abbrev i_past19_c : Nat := 66
abbrev i_past20 : Nat := 67
abbrev i_past20_c : Nat := 68
abbrev i_past21 : Nat := 69
abbrev i_past21_c : Nat := 70
abbrev i_past22 : Nat := 71
abbrev i_past22_c : Nat := 72
abbrev i_past23 : Nat := 73
abbrev i_past23_c : Nat := 74
abbrev i_past24 : Nat := 75
abbrev i_past24_c : Nat := 76
abbrev i_past25 : Nat := 77
abbrev i_past25_c : Nat := 78
abbrev i_past26 : Nat := 79
abbrev i_past26_c : Nat := 80
abbrev i_past27 : Nat := 81
abbrev i_past27_c : Nat := 82
abbrev i_past28 : Nat := 83
abbrev i_past28_c : Nat := 84
abbrev i_past29 : Nat := 85
abbrev i_past29_c : Nat := 86
abbrev i_past30 : Nat := 87
abbrev i_past30_c : Nat := 88
abbrev i_past31 : Nat := 89
abbrev i_past31_c : Nat := 90
abbrev i_past32 : Nat := 91
abbrev i_past32_c : Nat := 92
abbrev i_past33 : Nat := 93
abbrev i_past33_c : Nat := 94
abbrev i_past34 : Nat := 95
abbrev i_past34_c : Nat := 96
abbrev i_past35 : Nat := 97
abbrev i_past35_c : Nat := 98
abbrev i_past36 : Nat := 99
abbrev i_past36_c : Nat := 100
abbrev i_past37 : Nat := 101
abbrev i_past37_c : Nat := 102
abbrev i_past38 : Nat := 103
abbrev i_past38_c : Nat := 104
abbrev i_past39 : Nat := 105
abbrev i_past39_c : Nat := 106
abbrev i_kept_a : Nat := 107
abbrev i_scr_a : Nat := 108
abbrev i_pictured : Nat := 109
abbrev i_pictured_c : Nat := 110
abbrev i_refu : Nat := 111
abbrev i_minors : Nat := 112
abbrev i_cdets : Nat := 113
abbrev i_tree : Nat := 114
abbrev i_tree_plan : Nat := 115
abbrev i_tree_plan_c : Nat := 116
abbrev i_tree_t : Nat := 117
abbrev i_tree_h : Nat := 118
abbrev i_cotree : Nat := 119
abbrev i_cotree_plan : Nat := 120
abbrev i_cotree_plan_c : Nat := 121
abbrev i_cotree_t : Nat := 122
abbrev i_cotree_h : Nat := 123
abbrev i_signing : Nat := 124
abbrev i_signs : Nat := 125
abbrev i_signs_c : Nat := 126
abbrev i_rowParts : Nat := 127
abbrev i_columnParts : Nat := 128
abbrev i_rowsFar : Nat := 129
abbrev i_columnsFar : Nat := 130
abbrev i_shape : Nat := 131
abbrev i_across : Nat := 132
abbrev i_down : Nat := 133
abbrev i_partRows : Nat := 134
abbrev i_partColumns : Nat := 135
abbrev i_pattern : Nat := 136
abbrev i_special : Nat := 137
abbrev i_special_c : Nat := 138
abbrev i_moved : Nat := 139
abbrev i_moved_c : Nat := 140
abbrev i_order : Nat := 141
abbrev i_dice : Nat := 142
abbrev i_kept0 : Nat := 143
abbrev i_kept0_c : Nat := 144
abbrev i_kept1 : Nat := 145
abbrev i_kept1_c : Nat := 146
abbrev i_kept2 : Nat := 147
abbrev i_kept2_c : Nat := 148
abbrev i_kept3 : Nat := 149
abbrev i_kept3_c : Nat := 150
abbrev i_scr0 : Nat := 151
abbrev i_scr0_k : Nat := 152
abbrev i_scr0_f : Nat := 153
abbrev i_scr0_s : Nat := 154
abbrev i_scr0_v : Nat := 155
abbrev i_scr1 : Nat := 156
abbrev i_scr1_k : Nat := 157
abbrev i_scr1_f : Nat := 158
abbrev i_scr1_s : Nat := 159
abbrev i_scr1_v : Nat := 160
abbrev i_scr2 : Nat := 161
abbrev i_scr2_k : Nat := 162
abbrev i_scr2_f : Nat := 163
abbrev i_scr2_s : Nat := 164
abbrev i_scr2_v : Nat := 165
abbrev i_scr3 : Nat := 166
abbrev i_scr3_k : Nat := 167
abbrev i_scr3_f : Nat := 168
abbrev i_scr3_s : Nat := 169
abbrev i_scr3_v : Nat := 170
abbrev i_scr4 : Nat := 171
abbrev i_scr4_k : Nat := 172
abbrev i_scr4_f : Nat := 173
abbrev i_scr4_s : Nat := 174
abbrev i_scr4_v : Nat := 175
abbrev i_M : Nat := 176
abbrev i_m_tape : Nat := 177
abbrev i_m_now : Nat := 178
abbrev i_m_read : Nat := 179
abbrev i_m_trial : Nat := 180
abbrev i_m_kept : Nat := 181
abbrev i_m_plan : Nat := 182
abbrev i_m_planLong : Nat := 183
abbrev i_m_status : Nat := 184
abbrev i_m_undoRow : Nat := 185
abbrev i_m_dets : Nat := 186
abbrev i_m_from : Nat := 187
abbrev i_m_to : Nat := 188
abbrev i_m_treeRow : Nat := 189
abbrev i_m_walk : Nat := 190
abbrev i_m_part : Nat := 191
abbrev i_m_steps : Nat := 192
abbrev i_m_sign : Nat := 193
abbrev i_m_factor : Nat := 194
abbrev i_m_goal : Nat := 195
abbrev i_m_laid : Nat := 196
abbrev i_m_rowsLaid : Nat := 197
abbrev i_m_columnsLaid : Nat := 198
abbrev i_m_apart : Nat := 199
abbrev i_m_imageRow : Nat := 200
abbrev i_out : Nat := 201
def wdc (σ : sg) (i : Nat) : Option aE := if i < 16 then none else (LAY[i - 16]?).map (cellF σ i)
/-- the world: the cells of LAY, and what was made later -/
def wd (σ : sg) (x : aW) : aW := (x.1, fun i => if i < LEND then wdc σ i else x.2 i)
def LY (i : Nat) (d : ld) : Prop := 16 ≤ i ∧ i < LEND ∧ LAY[i - 16]? = some d
theorem wd_at {σ : sg} {x : aW} {i : Nat} {d : ld} (h : LY i d) : (wd σ x).2 i = some (cellF σ i d) := by
  obtain ⟨h1, h2, h3⟩ := h
  show (if i < LEND then wdc σ i else x.2 i) = _
  rw [if_pos h2]
  unfold wdc
  rw [if_neg (by omega), h3]
  rfl
def sG (σ : sg) (i k : Nat) (v : Int32) : sg := (fun a b => if a = i then (if b = k then v else σ.1 a b) else σ.1 a b, σ.2.1, σ.2.2)
def sL (σ : sg) (i : Nat) (v : Int64) : sg := (σ.1, fun a => if a = i then v else σ.2.1 a, σ.2.2)
def sA (σ : sg) (i : Nat) (f : Nat → Int32) : sg := (σ.1, σ.2.1, fun a => if a = i then f else σ.2.2 a)
theorem fv_get_i {g : Nat → Int32} {x : Int64} : ∀ (fl : List (Nat × Nat)) (j k z : Nat), fl[k]? = some (0, z) → (fv g x j fl)[k]? = some (.int (g (j + k)))
  | [], j, k, z, h => by simp at h
  | (0, a) :: t, j, 0, z, h => by simp [fv]
  | (0, a) :: t, j, k + 1, z, h => by
    simp only [fv, List.getElem?_cons_succ]
    rw [fv_get_i t (j + 1) k z (by simpa using h), show j + 1 + k = j + (k + 1) by omega]
  | (1, a) :: t, j, 0, z, h => by simp at h
  | (1, a) :: t, j, k + 1, z, h => by
    simp only [fv, List.getElem?_cons_succ]
    rw [fv_get_i t (j + 1) k z (by simpa using h), show j + 1 + k = j + (k + 1) by omega]
  | (_ + 2, a) :: t, j, 0, z, h => by simp at h
  | (_ + 2, a) :: t, j, k + 1, z, h => by
    simp only [fv, List.getElem?_cons_succ]
    rw [fv_get_i t (j + 1) k z (by simpa using h), show j + 1 + k = j + (k + 1) by omega]
theorem fv_get_l {g : Nat → Int32} {x : Int64} : ∀ (fl : List (Nat × Nat)) (j k z : Nat), fl[k]? = some (1, z) → (fv g x j fl)[k]? = some (.long x)
  | [], j, k, z, h => by simp at h
  | (0, a) :: t, j, 0, z, h => by simp at h
  | (0, a) :: t, j, k + 1, z, h => by
    simp only [fv, List.getElem?_cons_succ]
    exact fv_get_l t (j + 1) k z (by simpa using h)
  | (1, a) :: t, j, 0, z, h => by simp [fv]
  | (1, a) :: t, j, k + 1, z, h => by
    simp only [fv, List.getElem?_cons_succ]
    exact fv_get_l t (j + 1) k z (by simpa using h)
  | (_ + 2, a) :: t, j, 0, z, h => by simp at h
  | (_ + 2, a) :: t, j, k + 1, z, h => by
    simp only [fv, List.getElem?_cons_succ]
    exact fv_get_l t (j + 1) k z (by simpa using h)
theorem fv_get_r {g : Nat → Int32} {x : Int64} : ∀ (fl : List (Nat × Nat)) (j k z : Nat), fl[k]? = some (2, z) → (fv g x j fl)[k]? = some (.ref z)
  | [], j, k, z, h => by simp at h
  | (0, a) :: t, j, 0, z, h => by simp at h
  | (0, a) :: t, j, k + 1, z, h => by
    simp only [fv, List.getElem?_cons_succ]
    exact fv_get_r t (j + 1) k z (by simpa using h)
  | (1, a) :: t, j, 0, z, h => by simp at h
  | (1, a) :: t, j, k + 1, z, h => by
    simp only [fv, List.getElem?_cons_succ]
    exact fv_get_r t (j + 1) k z (by simpa using h)
  | (y + 2, a) :: t, j, 0, z, h => by simp [fv] at h ⊢; exact h.2
  | (_ + 2, a) :: t, j, k + 1, z, h => by
    simp only [fv, List.getElem?_cons_succ]
    exact fv_get_r t (j + 1) k z (by simpa using h)
theorem fv_len {g : Nat → Int32} {x : Int64} : ∀ (fl : List (Nat × Nat)) (j : Nat), (fv g x j fl).length = fl.length
  | [], j => rfl
  | (0, a) :: t, j => by simp [fv, fv_len t]
  | (1, a) :: t, j => by simp [fv, fv_len t]
  | (_ + 2, a) :: t, j => by simp [fv, fv_len t]
theorem fv_congr {g h : Nat → Int32} {x : Int64} : ∀ (fl : List (Nat × Nat)) (j : Nat), (∀ k, j ≤ k → g k = h k) → fv g x j fl = fv h x j fl
  | [], j, _ => rfl
  | (0, a) :: t, j, e => by rw [fv, fv, e j (Nat.le_refl _), fv_congr t (j + 1) (fun k hk => e k (by omega))]
  | (1, a) :: t, j, e => by rw [fv, fv, fv_congr t (j + 1) (fun k hk => e k (by omega))]
  | (_ + 2, a) :: t, j, e => by rw [fv, fv, fv_congr t (j + 1) (fun k hk => e k (by omega))]
theorem fv_set_i {g : Nat → Int32} {x : Int64} {v : Int32} : ∀ (fl : List (Nat × Nat)) (j k z : Nat), fl[k]? = some (0, z) → (fv g x j fl).set k (.int v) = fv (fun b => if b = j + k then v else g b) x j fl
  | [], j, k, z, h => by simp at h
  | (0, a) :: t, j, 0, z, h => by
    simp only [fv, List.set_cons_zero, Nat.add_zero, if_true]
    rw [fv_congr (g := g) (h := fun b => if b = j then v else g b) t (j + 1) (fun k hk => by rw [if_neg (by omega)])]
  | (0, a) :: t, j, k + 1, z, h => by
    simp only [fv, List.set_cons_succ]
    rw [fv_set_i t (j + 1) k z (by simpa using h), if_neg (by omega), show j + 1 + k = j + (k + 1) by omega]
  | (1, a) :: t, j, 0, z, h => by simp at h
  | (1, a) :: t, j, k + 1, z, h => by
    simp only [fv, List.set_cons_succ]
    rw [fv_set_i t (j + 1) k z (by simpa using h), show j + 1 + k = j + (k + 1) by omega]
  | (_ + 2, a) :: t, j, 0, z, h => by simp at h
  | (_ + 2, a) :: t, j, k + 1, z, h => by
    simp only [fv, List.set_cons_succ]
    rw [fv_set_i t (j + 1) k z (by simpa using h), show j + 1 + k = j + (k + 1) by omega]
theorem wd_ext {σ τ : sg} {x : aW} {i : Nat} {c : aE} {d : ld} (h : LY i d) (hc : c = cellF τ i d) (ho : ∀ j e, j ≠ i → cellF τ j e = cellF σ j e) : ((wd σ x).1, va_up (wd σ x).2 i (some c)) = wd τ x := by
  refine Prod.ext rfl (funext fun j => ?_)
  show va_up (wd σ x).2 i (some c) j = (wd τ x).2 j
  by_cases hj : j = i
  · subst hj
    rw [va_up_eq, wd_at h, hc]
  · simp only [va_up, if_neg hj]
    show (if j < LEND then wdc σ j else x.2 j) = (if j < LEND then wdc τ j else x.2 j)
    split
    · unfold wdc
      split
      · rfl
      · cases LAY[j - 16]? with
        | none => rfl
        | some e => simp [ho j e hj]
    · rfl
theorem wd_putI {σ : sg} {x : aW} {i k c z : Nat} {fl : List (Nat × Nat)} {v : Int32} (h : LY i (2, c, fl)) (hk : fl[k]? = some (0, z)) : ((wd σ x).1, va_up (wd σ x).2 i (some (.inr (c, (fv (σ.1 i) (σ.2.1 i) 0 fl).set k (.int v))))) = wd (sG σ i k v) x := by
  refine wd_ext h ?_ (fun j e hj => ?_)
  · show _ = Sum.inr (c, fv _ _ 0 fl)
    rw [fv_set_i fl 0 k z hk]
    congr 2
    refine fv_congr fl 0 (fun b _ => ?_)
    simp [sG]
  · have e1 : (fun b => if j = i then (if b = k then v else σ.1 j b) else σ.1 j b) = σ.1 j := by
      funext b; rw [if_neg hj]
    unfold cellF
    split <;> first | rfl | (show Sum.inr (_, fv (fun b => if j = i then (if b = k then v else σ.1 j b) else σ.1 j b) _ 0 _) = _; rw [e1]; rfl)
theorem fv_set_l {g : Nat → Int32} {x v : Int64} : ∀ (fl : List (Nat × Nat)) (j k z : Nat), fl[k]? = some (1, z) → (∀ k2 z2, fl[k2]? = some (1, z2) → k2 = k) → (fv g x j fl).set k (.long v) = fv g v j fl
  | [], j, k, z, h, u => by simp at h
  | (0, a) :: t, j, 0, z, h, u => by simp at h
  | (0, a) :: t, j, k + 1, z, h, u => by
    simp only [fv, List.set_cons_succ]
    rw [fv_set_l t (j + 1) k z (by simpa using h) (fun k2 z2 h2 => by have := u (k2 + 1) z2 (by simpa using h2); omega)]
  | (1, a) :: t, j, 0, z, h, u => by
    simp only [fv, List.set_cons_zero]
    congr 1
    have nt : ∀ (t : List (Nat × Nat)) (j : Nat), (∀ k z : Nat, t[k]? ≠ some ((1 : Nat), z)) → fv g x j t = fv g v j t := by
      intro t
      induction t with
      | nil => intro j _; rfl
      | cons q t ih =>
        intro j hn
        have ih2 := fun j => ih j (fun k z hk => hn (k + 1) z (by simpa using hk))
        obtain ⟨y, a⟩ := q
        match y with
        | 0 => simp only [fv]; rw [ih2]
        | 1 => exact absurd rfl (hn 0 a)
        | y + 2 => simp only [fv]; rw [ih2]
    exact nt t (j + 1) (fun k z hk => by have := u (k + 1) z (by simpa using hk); omega)
  | (1, a) :: t, j, k + 1, z, h, u => by have := u 0 a rfl; omega
  | (_ + 2, a) :: t, j, 0, z, h, u => by simp at h
  | (_ + 2, a) :: t, j, k + 1, z, h, u => by
    simp only [fv, List.set_cons_succ]
    rw [fv_set_l t (j + 1) k z (by simpa using h) (fun k2 z2 h2 => by have := u (k2 + 1) z2 (by simpa using h2); omega)]
theorem wd_putL {σ : sg} {x : aW} {i k c z : Nat} {fl : List (Nat × Nat)} {v : Int64} (h : LY i (2, c, fl)) (hk : fl[k]? = some (1, z)) (hu : ∀ k2 z2, fl[k2]? = some (1, z2) → k2 = k) : ((wd σ x).1, va_up (wd σ x).2 i (some (.inr (c, (fv (σ.1 i) (σ.2.1 i) 0 fl).set k (.long v))))) = wd (sL σ i v) x := by
  refine wd_ext h ?_ (fun j e hj => ?_)
  · show _ = Sum.inr (c, fv _ _ 0 fl)
    rw [fv_set_l fl 0 k z hk hu]
    simp [sL]
  · have e1 : (if j = i then v else σ.2.1 j) = σ.2.1 j := if_neg hj
    unfold cellF
    split <;> first | rfl | (show Sum.inr (_, fv _ (if j = i then v else σ.2.1 j) 0 _) = _; rw [e1]; rfl) | (show Sum.inl (_, _, Sum.inr (Sum.inl (fun _ => (if j = i then v else σ.2.1 j)))) = _; rw [e1])
theorem wd_putA {σ : sg} {x : aW} {i n : Nat} {fl : List (Nat × Nat)} {f : Nat → Int32} (h : LY i (0, n, fl)) : ((wd σ x).1, va_up (wd σ x).2 i (some (.inl (0, n, .inl f)))) = wd (sA σ i f) x := by
  refine wd_ext h ?_ (fun j e hj => ?_)
  · show _ = Sum.inl (0, n, Sum.inl _)
    simp [sA]
  · have e1 : (if j = i then f else σ.2.2 j) = σ.2.2 j := if_neg hj
    unfold cellF
    split <;> first | rfl | (show Sum.inl (_, _, Sum.inl (if j = i then f else σ.2.2 j)) = _; rw [e1])
theorem wd_putB {σ : sg} {x : aW} {i n : Nat} {fl : List (Nat × Nat)} {f : Nat → Int32} (h : LY i (1, n, fl)) : ((wd σ x).1, va_up (wd σ x).2 i (some (.inl (1, n, .inl f)))) = wd (sA σ i f) x := by
  refine wd_ext h ?_ (fun j e hj => ?_)
  · show _ = Sum.inl (1, n, Sum.inl _)
    simp [sA]
  · have e1 : (if j = i then f else σ.2.2 j) = σ.2.2 j := if_neg hj
    unfold cellF
    split <;> first | rfl | (show Sum.inl (_, _, Sum.inl (if j = i then f else σ.2.2 j)) = _; rw [e1])

theorem L_U : LY i_U (2, 10, [(2, 17), (2, 19), (2, 21), (2, 23), (2, 25), (2, 107), (0, 0), (2, 108), (0, 0), (2, 109), (0, 0), (2, 111), (2, 112), (2, 114), (2, 119), (2, 124), (2, 131), (2, 136), (2, 142)]) := ⟨by decide, by decide, rfl⟩
theorem L_tape : LY i_tape (2, 8, [(2, 18), (0, 0)]) := ⟨by decide, by decide, rfl⟩
theorem L_tape_b : LY i_tape_b (0, 240, []) := ⟨by decide, by decide, rfl⟩
theorem L_table : LY i_table (2, 7, [(0, 0), (0, 0), (2, 20)]) := ⟨by decide, by decide, rfl⟩
theorem L_table_c : LY i_table_c (0, 36, []) := ⟨by decide, by decide, rfl⟩
theorem L_before : LY i_before (2, 7, [(0, 0), (0, 0), (2, 22)]) := ⟨by decide, by decide, rfl⟩
theorem L_before_c : LY i_before_c (0, 36, []) := ⟨by decide, by decide, rfl⟩
theorem L_draft : LY i_draft (2, 7, [(0, 0), (0, 0), (2, 24)]) := ⟨by decide, by decide, rfl⟩
theorem L_draft_c : LY i_draft_c (0, 36, []) := ⟨by decide, by decide, rfl⟩
theorem L_past : LY i_past (2, 2, [(2, 26), (0, 0), (0, 0)]) := ⟨by decide, by decide, rfl⟩
theorem L_past_a : LY i_past_a (3, 40, [(2, 27), (2, 29), (2, 31), (2, 33), (2, 35), (2, 37), (2, 39), (2, 41), (2, 43), (2, 45), (2, 47), (2, 49), (2, 51), (2, 53), (2, 55), (2, 57), (2, 59), (2, 61), (2, 63), (2, 65), (2, 67), (2, 69), (2, 71), (2, 73), (2, 75), (2, 77), (2, 79), (2, 81), (2, 83), (2, 85), (2, 87), (2, 89), (2, 91), (2, 93), (2, 95), (2, 97), (2, 99), (2, 101), (2, 103), (2, 105)]) := ⟨by decide, by decide, rfl⟩
theorem L_past0 : LY i_past0 (2, 7, [(0, 0), (0, 0), (2, 28)]) := ⟨by decide, by decide, rfl⟩
theorem L_past0_c : LY i_past0_c (0, 36, []) := ⟨by decide, by decide, rfl⟩
theorem L_past1 : LY i_past1 (2, 7, [(0, 0), (0, 0), (2, 30)]) := ⟨by decide, by decide, rfl⟩
theorem L_past1_c : LY i_past1_c (0, 36, []) := ⟨by decide, by decide, rfl⟩
theorem L_past2 : LY i_past2 (2, 7, [(0, 0), (0, 0), (2, 32)]) := ⟨by decide, by decide, rfl⟩
theorem L_past2_c : LY i_past2_c (0, 36, []) := ⟨by decide, by decide, rfl⟩
theorem L_past3 : LY i_past3 (2, 7, [(0, 0), (0, 0), (2, 34)]) := ⟨by decide, by decide, rfl⟩
theorem L_past3_c : LY i_past3_c (0, 36, []) := ⟨by decide, by decide, rfl⟩
theorem L_past4 : LY i_past4 (2, 7, [(0, 0), (0, 0), (2, 36)]) := ⟨by decide, by decide, rfl⟩
theorem L_past4_c : LY i_past4_c (0, 36, []) := ⟨by decide, by decide, rfl⟩
theorem L_past5 : LY i_past5 (2, 7, [(0, 0), (0, 0), (2, 38)]) := ⟨by decide, by decide, rfl⟩
theorem L_past5_c : LY i_past5_c (0, 36, []) := ⟨by decide, by decide, rfl⟩
theorem L_past6 : LY i_past6 (2, 7, [(0, 0), (0, 0), (2, 40)]) := ⟨by decide, by decide, rfl⟩
theorem L_past6_c : LY i_past6_c (0, 36, []) := ⟨by decide, by decide, rfl⟩
theorem L_past7 : LY i_past7 (2, 7, [(0, 0), (0, 0), (2, 42)]) := ⟨by decide, by decide, rfl⟩
theorem L_past7_c : LY i_past7_c (0, 36, []) := ⟨by decide, by decide, rfl⟩
theorem L_past8 : LY i_past8 (2, 7, [(0, 0), (0, 0), (2, 44)]) := ⟨by decide, by decide, rfl⟩
theorem L_past8_c : LY i_past8_c (0, 36, []) := ⟨by decide, by decide, rfl⟩
theorem L_past9 : LY i_past9 (2, 7, [(0, 0), (0, 0), (2, 46)]) := ⟨by decide, by decide, rfl⟩
theorem L_past9_c : LY i_past9_c (0, 36, []) := ⟨by decide, by decide, rfl⟩
theorem L_past10 : LY i_past10 (2, 7, [(0, 0), (0, 0), (2, 48)]) := ⟨by decide, by decide, rfl⟩
theorem L_past10_c : LY i_past10_c (0, 36, []) := ⟨by decide, by decide, rfl⟩
theorem L_past11 : LY i_past11 (2, 7, [(0, 0), (0, 0), (2, 50)]) := ⟨by decide, by decide, rfl⟩
theorem L_past11_c : LY i_past11_c (0, 36, []) := ⟨by decide, by decide, rfl⟩
theorem L_past12 : LY i_past12 (2, 7, [(0, 0), (0, 0), (2, 52)]) := ⟨by decide, by decide, rfl⟩
theorem L_past12_c : LY i_past12_c (0, 36, []) := ⟨by decide, by decide, rfl⟩
theorem L_past13 : LY i_past13 (2, 7, [(0, 0), (0, 0), (2, 54)]) := ⟨by decide, by decide, rfl⟩
theorem L_past13_c : LY i_past13_c (0, 36, []) := ⟨by decide, by decide, rfl⟩
theorem L_past14 : LY i_past14 (2, 7, [(0, 0), (0, 0), (2, 56)]) := ⟨by decide, by decide, rfl⟩
theorem L_past14_c : LY i_past14_c (0, 36, []) := ⟨by decide, by decide, rfl⟩
theorem L_past15 : LY i_past15 (2, 7, [(0, 0), (0, 0), (2, 58)]) := ⟨by decide, by decide, rfl⟩
theorem L_past15_c : LY i_past15_c (0, 36, []) := ⟨by decide, by decide, rfl⟩
theorem L_past16 : LY i_past16 (2, 7, [(0, 0), (0, 0), (2, 60)]) := ⟨by decide, by decide, rfl⟩
theorem L_past16_c : LY i_past16_c (0, 36, []) := ⟨by decide, by decide, rfl⟩
theorem L_past17 : LY i_past17 (2, 7, [(0, 0), (0, 0), (2, 62)]) := ⟨by decide, by decide, rfl⟩
theorem L_past17_c : LY i_past17_c (0, 36, []) := ⟨by decide, by decide, rfl⟩
theorem L_past18 : LY i_past18 (2, 7, [(0, 0), (0, 0), (2, 64)]) := ⟨by decide, by decide, rfl⟩
theorem L_past18_c : LY i_past18_c (0, 36, []) := ⟨by decide, by decide, rfl⟩
theorem L_past19 : LY i_past19 (2, 7, [(0, 0), (0, 0), (2, 66)]) := ⟨by decide, by decide, rfl⟩
theorem L_past19_c : LY i_past19_c (0, 36, []) := ⟨by decide, by decide, rfl⟩
theorem L_past20 : LY i_past20 (2, 7, [(0, 0), (0, 0), (2, 68)]) := ⟨by decide, by decide, rfl⟩
theorem L_past20_c : LY i_past20_c (0, 36, []) := ⟨by decide, by decide, rfl⟩
theorem L_past21 : LY i_past21 (2, 7, [(0, 0), (0, 0), (2, 70)]) := ⟨by decide, by decide, rfl⟩
theorem L_past21_c : LY i_past21_c (0, 36, []) := ⟨by decide, by decide, rfl⟩
theorem L_past22 : LY i_past22 (2, 7, [(0, 0), (0, 0), (2, 72)]) := ⟨by decide, by decide, rfl⟩
theorem L_past22_c : LY i_past22_c (0, 36, []) := ⟨by decide, by decide, rfl⟩
theorem L_past23 : LY i_past23 (2, 7, [(0, 0), (0, 0), (2, 74)]) := ⟨by decide, by decide, rfl⟩
theorem L_past23_c : LY i_past23_c (0, 36, []) := ⟨by decide, by decide, rfl⟩
theorem L_past24 : LY i_past24 (2, 7, [(0, 0), (0, 0), (2, 76)]) := ⟨by decide, by decide, rfl⟩
theorem L_past24_c : LY i_past24_c (0, 36, []) := ⟨by decide, by decide, rfl⟩
theorem L_past25 : LY i_past25 (2, 7, [(0, 0), (0, 0), (2, 78)]) := ⟨by decide, by decide, rfl⟩
theorem L_past25_c : LY i_past25_c (0, 36, []) := ⟨by decide, by decide, rfl⟩
theorem L_past26 : LY i_past26 (2, 7, [(0, 0), (0, 0), (2, 80)]) := ⟨by decide, by decide, rfl⟩
theorem L_past26_c : LY i_past26_c (0, 36, []) := ⟨by decide, by decide, rfl⟩
theorem L_past27 : LY i_past27 (2, 7, [(0, 0), (0, 0), (2, 82)]) := ⟨by decide, by decide, rfl⟩
theorem L_past27_c : LY i_past27_c (0, 36, []) := ⟨by decide, by decide, rfl⟩
theorem L_past28 : LY i_past28 (2, 7, [(0, 0), (0, 0), (2, 84)]) := ⟨by decide, by decide, rfl⟩
theorem L_past28_c : LY i_past28_c (0, 36, []) := ⟨by decide, by decide, rfl⟩
theorem L_past29 : LY i_past29 (2, 7, [(0, 0), (0, 0), (2, 86)]) := ⟨by decide, by decide, rfl⟩
theorem L_past29_c : LY i_past29_c (0, 36, []) := ⟨by decide, by decide, rfl⟩
theorem L_past30 : LY i_past30 (2, 7, [(0, 0), (0, 0), (2, 88)]) := ⟨by decide, by decide, rfl⟩
theorem L_past30_c : LY i_past30_c (0, 36, []) := ⟨by decide, by decide, rfl⟩
theorem L_past31 : LY i_past31 (2, 7, [(0, 0), (0, 0), (2, 90)]) := ⟨by decide, by decide, rfl⟩
theorem L_past31_c : LY i_past31_c (0, 36, []) := ⟨by decide, by decide, rfl⟩
theorem L_past32 : LY i_past32 (2, 7, [(0, 0), (0, 0), (2, 92)]) := ⟨by decide, by decide, rfl⟩
theorem L_past32_c : LY i_past32_c (0, 36, []) := ⟨by decide, by decide, rfl⟩
theorem L_past33 : LY i_past33 (2, 7, [(0, 0), (0, 0), (2, 94)]) := ⟨by decide, by decide, rfl⟩
theorem L_past33_c : LY i_past33_c (0, 36, []) := ⟨by decide, by decide, rfl⟩
theorem L_past34 : LY i_past34 (2, 7, [(0, 0), (0, 0), (2, 96)]) := ⟨by decide, by decide, rfl⟩
theorem L_past34_c : LY i_past34_c (0, 36, []) := ⟨by decide, by decide, rfl⟩
theorem L_past35 : LY i_past35 (2, 7, [(0, 0), (0, 0), (2, 98)]) := ⟨by decide, by decide, rfl⟩
theorem L_past35_c : LY i_past35_c (0, 36, []) := ⟨by decide, by decide, rfl⟩
theorem L_past36 : LY i_past36 (2, 7, [(0, 0), (0, 0), (2, 100)]) := ⟨by decide, by decide, rfl⟩
theorem L_past36_c : LY i_past36_c (0, 36, []) := ⟨by decide, by decide, rfl⟩
theorem L_past37 : LY i_past37 (2, 7, [(0, 0), (0, 0), (2, 102)]) := ⟨by decide, by decide, rfl⟩
theorem L_past37_c : LY i_past37_c (0, 36, []) := ⟨by decide, by decide, rfl⟩
theorem L_past38 : LY i_past38 (2, 7, [(0, 0), (0, 0), (2, 104)]) := ⟨by decide, by decide, rfl⟩
theorem L_past38_c : LY i_past38_c (0, 36, []) := ⟨by decide, by decide, rfl⟩
theorem L_past39 : LY i_past39 (2, 7, [(0, 0), (0, 0), (2, 106)]) := ⟨by decide, by decide, rfl⟩
theorem L_past39_c : LY i_past39_c (0, 36, []) := ⟨by decide, by decide, rfl⟩
theorem L_kept_a : LY i_kept_a (3, 4, [(2, 143), (2, 145), (2, 147), (2, 149)]) := ⟨by decide, by decide, rfl⟩
theorem L_scr_a : LY i_scr_a (4, 5, [(2, 151), (2, 156), (2, 161), (2, 166), (2, 171)]) := ⟨by decide, by decide, rfl⟩
theorem L_pictured : LY i_pictured (2, 7, [(0, 0), (0, 0), (2, 110)]) := ⟨by decide, by decide, rfl⟩
theorem L_pictured_c : LY i_pictured_c (0, 36, []) := ⟨by decide, by decide, rfl⟩
theorem L_refu : LY i_refu (0, 4, []) := ⟨by decide, by decide, rfl⟩
theorem L_minors : LY i_minors (2, 1, [(2, 113), (0, 0), (0, 0), (0, 0), (0, 0), (0, 0)]) := ⟨by decide, by decide, rfl⟩
theorem L_cdets : LY i_cdets (0, 4096, []) := ⟨by decide, by decide, rfl⟩
theorem L_tree : LY i_tree (2, 9, [(2, 115), (2, 117), (2, 118), (0, 0), (0, 0)]) := ⟨by decide, by decide, rfl⟩
theorem L_tree_plan : LY i_tree_plan (2, 7, [(0, 0), (0, 0), (2, 116)]) := ⟨by decide, by decide, rfl⟩
theorem L_tree_plan_c : LY i_tree_plan_c (0, 36, []) := ⟨by decide, by decide, rfl⟩
theorem L_tree_t : LY i_tree_t (0, 6, []) := ⟨by decide, by decide, rfl⟩
theorem L_tree_h : LY i_tree_h (0, 6, []) := ⟨by decide, by decide, rfl⟩
theorem L_cotree : LY i_cotree (2, 9, [(2, 120), (2, 122), (2, 123), (0, 0), (0, 0)]) := ⟨by decide, by decide, rfl⟩
theorem L_cotree_plan : LY i_cotree_plan (2, 7, [(0, 0), (0, 0), (2, 121)]) := ⟨by decide, by decide, rfl⟩
theorem L_cotree_plan_c : LY i_cotree_plan_c (0, 36, []) := ⟨by decide, by decide, rfl⟩
theorem L_cotree_t : LY i_cotree_t (0, 6, []) := ⟨by decide, by decide, rfl⟩
theorem L_cotree_h : LY i_cotree_h (0, 6, []) := ⟨by decide, by decide, rfl⟩
theorem L_signing : LY i_signing (2, 6, [(2, 125), (2, 127), (2, 128), (2, 129), (2, 130), (0, 0), (0, 0), (0, 0)]) := ⟨by decide, by decide, rfl⟩
theorem L_signs : LY i_signs (2, 7, [(0, 0), (0, 0), (2, 126)]) := ⟨by decide, by decide, rfl⟩
theorem L_signs_c : LY i_signs_c (0, 36, []) := ⟨by decide, by decide, rfl⟩
theorem L_rowParts : LY i_rowParts (0, 6, []) := ⟨by decide, by decide, rfl⟩
theorem L_columnParts : LY i_columnParts (0, 6, []) := ⟨by decide, by decide, rfl⟩
theorem L_rowsFar : LY i_rowsFar (0, 6, []) := ⟨by decide, by decide, rfl⟩
theorem L_columnsFar : LY i_columnsFar (0, 6, []) := ⟨by decide, by decide, rfl⟩
theorem L_shape : LY i_shape (2, 5, [(0, 0), (0, 0), (2, 132), (2, 133), (0, 0), (2, 134), (2, 135)]) := ⟨by decide, by decide, rfl⟩
theorem L_across : LY i_across (0, 6, []) := ⟨by decide, by decide, rfl⟩
theorem L_down : LY i_down (0, 6, []) := ⟨by decide, by decide, rfl⟩
theorem L_partRows : LY i_partRows (0, 12, []) := ⟨by decide, by decide, rfl⟩
theorem L_partColumns : LY i_partColumns (0, 12, []) := ⟨by decide, by decide, rfl⟩
theorem L_pattern : LY i_pattern (2, 3, [(2, 137), (2, 139), (2, 141)]) := ⟨by decide, by decide, rfl⟩
theorem L_special : LY i_special (2, 7, [(0, 0), (0, 0), (2, 138)]) := ⟨by decide, by decide, rfl⟩
theorem L_special_c : LY i_special_c (0, 36, []) := ⟨by decide, by decide, rfl⟩
theorem L_moved : LY i_moved (2, 7, [(0, 0), (0, 0), (2, 140)]) := ⟨by decide, by decide, rfl⟩
theorem L_moved_c : LY i_moved_c (0, 36, []) := ⟨by decide, by decide, rfl⟩
theorem L_order : LY i_order (0, 5, []) := ⟨by decide, by decide, rfl⟩
theorem L_dice : LY i_dice (2, 0, [(1, 0)]) := ⟨by decide, by decide, rfl⟩
theorem L_kept0 : LY i_kept0 (2, 7, [(0, 0), (0, 0), (2, 144)]) := ⟨by decide, by decide, rfl⟩
theorem L_kept0_c : LY i_kept0_c (0, 36, []) := ⟨by decide, by decide, rfl⟩
theorem L_kept1 : LY i_kept1 (2, 7, [(0, 0), (0, 0), (2, 146)]) := ⟨by decide, by decide, rfl⟩
theorem L_kept1_c : LY i_kept1_c (0, 36, []) := ⟨by decide, by decide, rfl⟩
theorem L_kept2 : LY i_kept2 (2, 7, [(0, 0), (0, 0), (2, 148)]) := ⟨by decide, by decide, rfl⟩
theorem L_kept2_c : LY i_kept2_c (0, 36, []) := ⟨by decide, by decide, rfl⟩
theorem L_kept3 : LY i_kept3 (2, 7, [(0, 0), (0, 0), (2, 150)]) := ⟨by decide, by decide, rfl⟩
theorem L_kept3_c : LY i_kept3_c (0, 36, []) := ⟨by decide, by decide, rfl⟩
theorem L_scr0 : LY i_scr0 (2, 4, [(0, 0), (2, 152), (2, 153), (2, 154), (2, 155)]) := ⟨by decide, by decide, rfl⟩
theorem L_scr0_k : LY i_scr0_k (0, 12, []) := ⟨by decide, by decide, rfl⟩
theorem L_scr0_f : LY i_scr0_f (0, 12, []) := ⟨by decide, by decide, rfl⟩
theorem L_scr0_s : LY i_scr0_s (0, 12, []) := ⟨by decide, by decide, rfl⟩
theorem L_scr0_v : LY i_scr0_v (0, 12, []) := ⟨by decide, by decide, rfl⟩
theorem L_scr1 : LY i_scr1 (2, 4, [(0, 0), (2, 157), (2, 158), (2, 159), (2, 160)]) := ⟨by decide, by decide, rfl⟩
theorem L_scr1_k : LY i_scr1_k (0, 12, []) := ⟨by decide, by decide, rfl⟩
theorem L_scr1_f : LY i_scr1_f (0, 12, []) := ⟨by decide, by decide, rfl⟩
theorem L_scr1_s : LY i_scr1_s (0, 12, []) := ⟨by decide, by decide, rfl⟩
theorem L_scr1_v : LY i_scr1_v (0, 12, []) := ⟨by decide, by decide, rfl⟩
theorem L_scr2 : LY i_scr2 (2, 4, [(0, 0), (2, 162), (2, 163), (2, 164), (2, 165)]) := ⟨by decide, by decide, rfl⟩
theorem L_scr2_k : LY i_scr2_k (0, 12, []) := ⟨by decide, by decide, rfl⟩
theorem L_scr2_f : LY i_scr2_f (0, 12, []) := ⟨by decide, by decide, rfl⟩
theorem L_scr2_s : LY i_scr2_s (0, 12, []) := ⟨by decide, by decide, rfl⟩
theorem L_scr2_v : LY i_scr2_v (0, 12, []) := ⟨by decide, by decide, rfl⟩
theorem L_scr3 : LY i_scr3 (2, 4, [(0, 0), (2, 167), (2, 168), (2, 169), (2, 170)]) := ⟨by decide, by decide, rfl⟩
theorem L_scr3_k : LY i_scr3_k (0, 12, []) := ⟨by decide, by decide, rfl⟩
theorem L_scr3_f : LY i_scr3_f (0, 12, []) := ⟨by decide, by decide, rfl⟩
theorem L_scr3_s : LY i_scr3_s (0, 12, []) := ⟨by decide, by decide, rfl⟩
theorem L_scr3_v : LY i_scr3_v (0, 12, []) := ⟨by decide, by decide, rfl⟩
theorem L_scr4 : LY i_scr4 (2, 4, [(0, 0), (2, 172), (2, 173), (2, 174), (2, 175)]) := ⟨by decide, by decide, rfl⟩
theorem L_scr4_k : LY i_scr4_k (0, 12, []) := ⟨by decide, by decide, rfl⟩
theorem L_scr4_f : LY i_scr4_f (0, 12, []) := ⟨by decide, by decide, rfl⟩
theorem L_scr4_s : LY i_scr4_s (0, 12, []) := ⟨by decide, by decide, rfl⟩
theorem L_scr4_v : LY i_scr4_v (0, 12, []) := ⟨by decide, by decide, rfl⟩
theorem L_M : LY i_M (2, 11, [(0, 0), (2, 177), (0, 0), (0, 0), (0, 0), (2, 178), (2, 179), (2, 180), (2, 181), (2, 182), (2, 183), (2, 184), (0, 0), (0, 0), (2, 185), (0, 0), (2, 186), (2, 187), (2, 188), (2, 189), (2, 190), (0, 0), (2, 191), (2, 192), (2, 193), (2, 194), (2, 195), (2, 196), (2, 197), (2, 198), (2, 199), (1, 0), (2, 200), (0, 0), (0, 0)]) := ⟨by decide, by decide, rfl⟩
theorem L_m_tape : LY i_m_tape (1, 240, []) := ⟨by decide, by decide, rfl⟩
theorem L_m_now : LY i_m_now (0, 38, []) := ⟨by decide, by decide, rfl⟩
theorem L_m_read : LY i_m_read (0, 38, []) := ⟨by decide, by decide, rfl⟩
theorem L_m_trial : LY i_m_trial (0, 38, []) := ⟨by decide, by decide, rfl⟩
theorem L_m_kept : LY i_m_kept (0, 152, []) := ⟨by decide, by decide, rfl⟩
theorem L_m_plan : LY i_m_plan (0, 240, []) := ⟨by decide, by decide, rfl⟩
theorem L_m_planLong : LY i_m_planLong (0, 5, []) := ⟨by decide, by decide, rfl⟩
theorem L_m_status : LY i_m_status (0, 4, []) := ⟨by decide, by decide, rfl⟩
theorem L_m_undoRow : LY i_m_undoRow (0, 1520, []) := ⟨by decide, by decide, rfl⟩
theorem L_m_dets : LY i_m_dets (0, 4096, []) := ⟨by decide, by decide, rfl⟩
theorem L_m_from : LY i_m_from (0, 12, []) := ⟨by decide, by decide, rfl⟩
theorem L_m_to : LY i_m_to (0, 12, []) := ⟨by decide, by decide, rfl⟩
theorem L_m_treeRow : LY i_m_treeRow (0, 38, []) := ⟨by decide, by decide, rfl⟩
theorem L_m_walk : LY i_m_walk (0, 6, []) := ⟨by decide, by decide, rfl⟩
theorem L_m_part : LY i_m_part (0, 12, []) := ⟨by decide, by decide, rfl⟩
theorem L_m_steps : LY i_m_steps (0, 12, []) := ⟨by decide, by decide, rfl⟩
theorem L_m_sign : LY i_m_sign (0, 38, []) := ⟨by decide, by decide, rfl⟩
theorem L_m_factor : LY i_m_factor (0, 12, []) := ⟨by decide, by decide, rfl⟩
theorem L_m_goal : LY i_m_goal (0, 38, []) := ⟨by decide, by decide, rfl⟩
theorem L_m_laid : LY i_m_laid (0, 38, []) := ⟨by decide, by decide, rfl⟩
theorem L_m_rowsLaid : LY i_m_rowsLaid (0, 6, []) := ⟨by decide, by decide, rfl⟩
theorem L_m_columnsLaid : LY i_m_columnsLaid (0, 6, []) := ⟨by decide, by decide, rfl⟩
theorem L_m_apart : LY i_m_apart (0, 38, []) := ⟨by decide, by decide, rfl⟩
theorem L_m_imageRow : LY i_m_imageRow (0, 38, []) := ⟨by decide, by decide, rfl⟩
theorem L_out : LY i_out (5, 1, []) := ⟨by decide, by decide, rfl⟩
