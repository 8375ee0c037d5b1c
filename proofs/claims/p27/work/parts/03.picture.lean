/-! the cells of the system, by number: .inl (0 int, 1 byte; length), .inr (its class's number in vwCl; fields: 0 an int, 1 a long, k + 2 the cell k) -/
def zs_n : Nat := 90
def zs_sh : Nat → (Nat × Nat) ⊕ (Nat × List Nat) := fun a => match a with
  | 0 => .inr (9, [3, 17, 31, 0, 0, 45, 1, 1, 0, 0, 0, 65, 69, 72, 75, 77, 80, 81])
  | 1 => .inr (4, [0, 0, 0, 4, 5, 9, 11, 13, 15])
  | 2 => .inl (0, 5)
  | 3 => .inr (1, [0, 0, 0, 6, 7, 8])
  | 4 => .inl (0, 12)
  | 5 => .inl (0, 5)
  | 6 => .inl (0, 5)
  | 7 => .inr (2, [10, 0])
  | 8 => .inl (0, 200)
  | 9 => .inr (3, [0, 12, 0])
  | 10 => .inl (0, 24)
  | 11 => .inr (3, [0, 14, 0])
  | 12 => .inl (0, 24)
  | 13 => .inr (3, [0, 16, 0])
  | 14 => .inl (0, 24)
  | 15 => .inr (4, [0, 0, 0, 18, 19, 23, 25, 27, 29])
  | 16 => .inl (0, 5)
  | 17 => .inr (1, [0, 0, 0, 20, 21, 22])
  | 18 => .inl (0, 12)
  | 19 => .inl (0, 5)
  | 20 => .inl (0, 5)
  | 21 => .inr (2, [24, 0])
  | 22 => .inl (0, 200)
  | 23 => .inr (3, [0, 26, 0])
  | 24 => .inl (0, 24)
  | 25 => .inr (3, [0, 28, 0])
  | 26 => .inl (0, 24)
  | 27 => .inr (3, [0, 30, 0])
  | 28 => .inl (0, 24)
  | 29 => .inr (4, [0, 0, 0, 32, 33, 37, 39, 41, 43])
  | 30 => .inl (0, 5)
  | 31 => .inr (1, [0, 0, 0, 34, 35, 36])
  | 32 => .inl (0, 12)
  | 33 => .inl (0, 5)
  | 34 => .inl (0, 5)
  | 35 => .inr (2, [38, 0])
  | 36 => .inl (0, 200)
  | 37 => .inr (3, [0, 40, 0])
  | 38 => .inl (0, 24)
  | 39 => .inr (3, [0, 42, 0])
  | 40 => .inl (0, 24)
  | 41 => .inr (3, [0, 44, 0])
  | 42 => .inl (0, 24)
  | 43 => .inr (8, [46, 0, 47, 61, 62, 63, 64, 0])
  | 44 => .inl (0, 150)
  | 45 => .inr (4, [0, 0, 0, 48, 49, 53, 55, 57, 59])
  | 46 => .inl (0, 5)
  | 47 => .inr (1, [0, 0, 0, 50, 51, 52])
  | 48 => .inl (0, 12)
  | 49 => .inl (0, 5)
  | 50 => .inl (0, 5)
  | 51 => .inr (2, [54, 0])
  | 52 => .inl (0, 200)
  | 53 => .inr (3, [0, 56, 0])
  | 54 => .inl (0, 24)
  | 55 => .inr (3, [0, 58, 0])
  | 56 => .inl (0, 24)
  | 57 => .inr (3, [0, 60, 0])
  | 58 => .inl (0, 24)
  | 59 => .inl (0, 151)
  | 60 => .inl (0, 151)
  | 61 => .inl (0, 151)
  | 62 => .inl (0, 151)
  | 63 => .inr (1, [0, 0, 0, 66, 67, 68])
  | 64 => .inl (0, 12)
  | 65 => .inl (0, 5)
  | 66 => .inl (0, 5)
  | 67 => .inr (6, [70, 71, 0])
  | 68 => .inl (0, 120)
  | 69 => .inl (0, 12)
  | 70 => .inr (0, [73, 74, 0])
  | 71 => .inl (0, 372)
  | 72 => .inl (0, 144)
  | 73 => .inr (7, [76, 0])
  | 74 => .inl (0, 32)
  | 75 => .inr (5, [78, 79])
  | 76 => .inl (0, 10)
  | 77 => .inl (0, 10)
  | 78 => .inl (0, 8)
  | 79 => .inl (0, 8)
  | 80 => .inr (10, [83, 84, 85, 0, 86, 0, 0, 0, 0, 0, 0, 0, 1, 1, 87, 88, 89, 90, 91])
  | 81 => .inl (0, 700)
  | 82 => .inl (0, 198)
  | 83 => .inl (0, 2)
  | 84 => .inl (1, 150)
  | 85 => .inl (0, 3)
  | 86 => .inl (0, 120)
  | 87 => .inl (0, 10)
  | 88 => .inl (0, 16)
  | 89 => .inl (0, 16)
  | _ => .inl (2, 0)
def zs_lk : List (Nat × Value) → Nat → Option Value
  | [], _ => none
  | (j, v) :: r, i => if j = i then some v else zs_lk r i
def zs_nst : List (String × Nat × MethodName × String) := [(RX11, 9, yX6_init, "ZoeStrips"), (RX6, 21, yX3_init, "ZoeStrips"), (RX6, 28, yX4_init, "ZoeStrips"), (RX11, 24, yX10_init, "ZoeStrips"), (RX10, 17, yX6_init, "ZoeStrips"), (RX11, 35, yX3_init, "ZoeStrips"), (RX11, 42, yX8_init, "ZoeStrips"), (RX11, 49, yX0_init, "ZoeStrips"), (RX11, 56, yX9_init, "ZoeStrips"), (RX11, 63, yX7_init, "ZoeStrips"), (RX6, 54, yX11_fill, "ZoeStrips"), (RX3, 31, yX11_fill, "ZoeStrips"), (RX6, 81, yX11_put, "ZoeStrips"), (RX10, 38, yX11_put, "ZoeStrips"), (RX10, 66, yX11_cell, "ZoeStrips"), (RX10, 111, yX11_within, "ZoeStrips"), (RX6, 108, yX11_wrap, "ZoeStrips"), (RX6, 116, yX11_cell, "ZoeStrips"), (RX6, 67, yX11_copyRow, "ZoeStrips"), (RX3, 35, yX11_copyRow, "ZoeStrips"), (RX4, 31, yX11_copyRow, "ZoeStrips"), (RX5, 30, yX11_copyRow, "ZoeStrips"), (RX4, 35, yX11_cell, "ZoeStrips"), (RX4, 39, yX11_put, "ZoeStrips"), (RX3, 39, yX11_put, "ZoeStrips"), (RX3, 43, yX11_cell, "ZoeStrips"), (RX8, 34, yX11_cell, "ZoeStrips"), (RX8, 31, yX11_put, "ZoeStrips"), (RX5, 22, yX11_put, "ZoeStrips"), (RX0, 38, yX11_put, "ZoeStrips"), (RX5, 26, yX11_cell, "ZoeStrips"), (RX0, 47, yX11_cell, "ZoeStrips"), (RX0, 84, yX11_wrap, "ZoeStrips"), (RX9, 13, yX11_fill, "ZoeStrips"), (RX9, 23, yX11_cell, "ZoeStrips"), (RX9, 27, yX11_put, "ZoeStrips"), (RX7, 18, yX11_fill, "ZoeStrips"), (RX7, 22, yX11_put, "ZoeStrips"), (RX7, 26, yX11_copyRow, "ZoeStrips"), (RX7, 30, yX11_cell, "ZoeStrips")]
/-! THE PICTURE OF THE WHOLE SYSTEM: cells by number; what they hold: S.1 a j (an int: field j of the object a, or place j of the array a), S.2 a j (a long field); references never change -/
abbrev zs_S : Type := (Nat → Nat → Int32) × (Nat → Nat → Int64)
abbrev zs_E : Type := (Nat → ClassId) × (Nat → Nat → Nat) × (Nat → ClassId) × (Nat → Nat)
/-- a method: name, bytes, locals, what it returns, its room -/
abbrev zs_M : Type := MethodName × ByteArray × Nat × Option FieldType × Room
abbrev zs_O : Type := Option Value × zs_S
def zs_tbl : List Cond := lw_tbl.filter goodWord
theorem zs_in {w : Cond} (i : Nat) (h : lw_tbl[i]? = some w) (hg : goodWord w = true) : w ∈ zs_tbl := List.mem_filter.mpr ⟨List.mem_of_getElem? h, hg⟩
theorem zs_iq0 {w : Cond} (i : Nat) (h : (k2_sels lw_privs)[i]? = some w) (hg : goodWord w = true) : w ∈ zs_tbl := List.mem_filter.mpr ⟨List.mem_append_left _ (List.mem_of_getElem? h), hg⟩
theorem zs_iq1 {w : Cond} (i : Nat) (h : tables_1_1[i]? = some w) (hg : goodWord w = true) : w ∈ zs_tbl := List.mem_filter.mpr ⟨List.mem_append_right _ (List.mem_append_left _ (List.mem_of_getElem? h)), hg⟩
theorem zs_iq2 {w : Cond} (i : Nat) (h : tables_1_2[i]? = some w) (hg : goodWord w = true) : w ∈ zs_tbl := List.mem_filter.mpr ⟨List.mem_append_right _ (List.mem_append_right _ (List.mem_append_left _ (List.mem_of_getElem? h))), hg⟩
theorem zs_iq3 {w : Cond} (i : Nat) (h : tables_1_3[i]? = some w) (hg : goodWord w = true) : w ∈ zs_tbl := List.mem_filter.mpr ⟨List.mem_append_right _ (List.mem_append_right _ (List.mem_append_right _ (List.mem_append_left _ (List.mem_of_getElem? h)))), hg⟩
theorem zs_iq4 {w : Cond} (i : Nat) (h : tables_1_4[i]? = some w) (hg : goodWord w = true) : w ∈ zs_tbl := List.mem_filter.mpr ⟨List.mem_append_right _ (List.mem_append_right _ (List.mem_append_right _ (List.mem_append_right _ (List.mem_append_left _ (List.mem_of_getElem? h))))), hg⟩
theorem zs_iq5 {w : Cond} (i : Nat) (h : tables_1_5[i]? = some w) (hg : goodWord w = true) : w ∈ zs_tbl := List.mem_filter.mpr ⟨List.mem_append_right _ (List.mem_append_right _ (List.mem_append_right _ (List.mem_append_right _ (List.mem_append_right _ (List.mem_append_left _ (List.mem_of_getElem? h)))))), hg⟩
theorem zs_iq6 {w : Cond} (i : Nat) (h : tables_1_6[i]? = some w) (hg : goodWord w = true) : w ∈ zs_tbl := List.mem_filter.mpr ⟨List.mem_append_right _ (List.mem_append_right _ (List.mem_append_right _ (List.mem_append_right _ (List.mem_append_right _ (List.mem_append_right _ (List.mem_of_getElem? h)))))), hg⟩
theorem zs_good : GoodIn zs_tbl zs_tbl := fun w hw => ⟨hw, good_of_word (List.mem_filter.mp hw).2⟩
theorem zs_uw0 : ∀ w ∈ u_ws RX0 TX0 3, w ∈ zs_tbl := by
  show ∀ w ∈ [u_lay RX0 TX0 0, u_lay RX0 TX0 1, u_lay RX0 TX0 2], w ∈ zs_tbl
  exact List.forall_mem_cons.mpr ⟨zs_in 288 (by decide +kernel) rfl, List.forall_mem_cons.mpr ⟨zs_in 290 (by decide +kernel) rfl, List.forall_mem_cons.mpr ⟨zs_in 292 (by decide +kernel) rfl, fun w h => absurd h List.not_mem_nil⟩⟩⟩
theorem zs_uw1 : ∀ w ∈ u_ws RX3 TX3 6, w ∈ zs_tbl := by
  show ∀ w ∈ [u_lay RX3 TX3 0, u_lay RX3 TX3 1, u_lay RX3 TX3 2, u_lay RX3 TX3 3, u_lay RX3 TX3 4, u_lay RX3 TX3 5], w ∈ zs_tbl
  exact List.forall_mem_cons.mpr ⟨zs_in 132 (by decide +kernel) rfl, List.forall_mem_cons.mpr ⟨zs_in 134 (by decide +kernel) rfl, List.forall_mem_cons.mpr ⟨zs_in 136 (by decide +kernel) rfl, List.forall_mem_cons.mpr ⟨zs_in 138 (by decide +kernel) rfl, List.forall_mem_cons.mpr ⟨zs_in 140 (by decide +kernel) rfl, List.forall_mem_cons.mpr ⟨zs_in 142 (by decide +kernel) rfl, fun w h => absurd h List.not_mem_nil⟩⟩⟩⟩⟩⟩
theorem zs_uw2 : ∀ w ∈ u_ws RX4 TX4 2, w ∈ zs_tbl := by
  show ∀ w ∈ [u_lay RX4 TX4 0, u_lay RX4 TX4 1], w ∈ zs_tbl
  exact List.forall_mem_cons.mpr ⟨zs_in 155 (by decide +kernel) rfl, List.forall_mem_cons.mpr ⟨zs_in 157 (by decide +kernel) rfl, fun w h => absurd h List.not_mem_nil⟩⟩
theorem zs_uw3 : ∀ w ∈ u_ws RX5 TX5 3, w ∈ zs_tbl := by
  show ∀ w ∈ [u_lay RX5 TX5 0, u_lay RX5 TX5 1, u_lay RX5 TX5 2], w ∈ zs_tbl
  exact List.forall_mem_cons.mpr ⟨zs_in 171 (by decide +kernel) rfl, List.forall_mem_cons.mpr ⟨zs_in 173 (by decide +kernel) rfl, List.forall_mem_cons.mpr ⟨zs_in 175 (by decide +kernel) rfl, fun w h => absurd h List.not_mem_nil⟩⟩⟩
theorem zs_uw4 : ∀ w ∈ u_ws RX6 TX6 9, w ∈ zs_tbl := by
  show ∀ w ∈ [u_lay RX6 TX6 0, u_lay RX6 TX6 1, u_lay RX6 TX6 2, u_lay RX6 TX6 3, u_lay RX6 TX6 4, u_lay RX6 TX6 5, u_lay RX6 TX6 6, u_lay RX6 TX6 7, u_lay RX6 TX6 8], w ∈ zs_tbl
  exact List.forall_mem_cons.mpr ⟨zs_in 203 (by decide +kernel) rfl, List.forall_mem_cons.mpr ⟨zs_in 205 (by decide +kernel) rfl, List.forall_mem_cons.mpr ⟨zs_in 207 (by decide +kernel) rfl, List.forall_mem_cons.mpr ⟨zs_in 209 (by decide +kernel) rfl, List.forall_mem_cons.mpr ⟨zs_in 211 (by decide +kernel) rfl, List.forall_mem_cons.mpr ⟨zs_in 213 (by decide +kernel) rfl, List.forall_mem_cons.mpr ⟨zs_in 215 (by decide +kernel) rfl, List.forall_mem_cons.mpr ⟨zs_in 217 (by decide +kernel) rfl, List.forall_mem_cons.mpr ⟨zs_in 219 (by decide +kernel) rfl, fun w h => absurd h List.not_mem_nil⟩⟩⟩⟩⟩⟩⟩⟩⟩
theorem zs_uw5 : ∀ w ∈ u_ws RX7 TX7 2, w ∈ zs_tbl := by
  show ∀ w ∈ [u_lay RX7 TX7 0, u_lay RX7 TX7 1], w ∈ zs_tbl
  exact List.forall_mem_cons.mpr ⟨zs_in 317 (by decide +kernel) rfl, List.forall_mem_cons.mpr ⟨zs_in 319 (by decide +kernel) rfl, fun w h => absurd h List.not_mem_nil⟩⟩
theorem zs_uw6 : ∀ w ∈ u_ws RX8 TX8 3, w ∈ zs_tbl := by
  show ∀ w ∈ [u_lay RX8 TX8 0, u_lay RX8 TX8 1, u_lay RX8 TX8 2], w ∈ zs_tbl
  exact List.forall_mem_cons.mpr ⟨zs_in 270 (by decide +kernel) rfl, List.forall_mem_cons.mpr ⟨zs_in 272 (by decide +kernel) rfl, List.forall_mem_cons.mpr ⟨zs_in 274 (by decide +kernel) rfl, fun w h => absurd h List.not_mem_nil⟩⟩⟩
theorem zs_uw7 : ∀ w ∈ u_ws RX9 TX9 2, w ∈ zs_tbl := by
  show ∀ w ∈ [u_lay RX9 TX9 0, u_lay RX9 TX9 1], w ∈ zs_tbl
  exact List.forall_mem_cons.mpr ⟨zs_in 304 (by decide +kernel) rfl, List.forall_mem_cons.mpr ⟨zs_in 306 (by decide +kernel) rfl, fun w h => absurd h List.not_mem_nil⟩⟩
theorem zs_uw8 : ∀ w ∈ u_ws RX10 TX10 8, w ∈ zs_tbl := by
  show ∀ w ∈ [u_lay RX10 TX10 0, u_lay RX10 TX10 1, u_lay RX10 TX10 2, u_lay RX10 TX10 3, u_lay RX10 TX10 4, u_lay RX10 TX10 5, u_lay RX10 TX10 6, u_lay RX10 TX10 7], w ∈ zs_tbl
  exact List.forall_mem_cons.mpr ⟨zs_in 240 (by decide +kernel) rfl, List.forall_mem_cons.mpr ⟨zs_in 242 (by decide +kernel) rfl, List.forall_mem_cons.mpr ⟨zs_in 244 (by decide +kernel) rfl, List.forall_mem_cons.mpr ⟨zs_in 246 (by decide +kernel) rfl, List.forall_mem_cons.mpr ⟨zs_in 248 (by decide +kernel) rfl, List.forall_mem_cons.mpr ⟨zs_in 250 (by decide +kernel) rfl, List.forall_mem_cons.mpr ⟨zs_in 252 (by decide +kernel) rfl, List.forall_mem_cons.mpr ⟨zs_in 254 (by decide +kernel) rfl, fun w h => absurd h List.not_mem_nil⟩⟩⟩⟩⟩⟩⟩⟩
theorem zs_uw9 : ∀ w ∈ u_ws RX11 TX11 18, w ∈ zs_tbl := by
  show ∀ w ∈ [u_lay RX11 TX11 0, u_lay RX11 TX11 1, u_lay RX11 TX11 2, u_lay RX11 TX11 3, u_lay RX11 TX11 4, u_lay RX11 TX11 5, u_lay RX11 TX11 6, u_lay RX11 TX11 7, u_lay RX11 TX11 8, u_lay RX11 TX11 9, u_lay RX11 TX11 10, u_lay RX11 TX11 11, u_lay RX11 TX11 12, u_lay RX11 TX11 13, u_lay RX11 TX11 14, u_lay RX11 TX11 15, u_lay RX11 TX11 16, u_lay RX11 TX11 17], w ∈ zs_tbl
  exact List.forall_mem_cons.mpr ⟨zs_in 340 (by decide +kernel) rfl, List.forall_mem_cons.mpr ⟨zs_in 342 (by decide +kernel) rfl, List.forall_mem_cons.mpr ⟨zs_in 344 (by decide +kernel) rfl, List.forall_mem_cons.mpr ⟨zs_in 346 (by decide +kernel) rfl, List.forall_mem_cons.mpr ⟨zs_in 348 (by decide +kernel) rfl, List.forall_mem_cons.mpr ⟨zs_in 350 (by decide +kernel) rfl, List.forall_mem_cons.mpr ⟨zs_in 352 (by decide +kernel) rfl, List.forall_mem_cons.mpr ⟨zs_in 354 (by decide +kernel) rfl, List.forall_mem_cons.mpr ⟨zs_in 356 (by decide +kernel) rfl, List.forall_mem_cons.mpr ⟨zs_in 358 (by decide +kernel) rfl, List.forall_mem_cons.mpr ⟨zs_in 360 (by decide +kernel) rfl, List.forall_mem_cons.mpr ⟨zs_in 362 (by decide +kernel) rfl, List.forall_mem_cons.mpr ⟨zs_in 364 (by decide +kernel) rfl, List.forall_mem_cons.mpr ⟨zs_in 366 (by decide +kernel) rfl, List.forall_mem_cons.mpr ⟨zs_in 368 (by decide +kernel) rfl, List.forall_mem_cons.mpr ⟨zs_in 370 (by decide +kernel) rfl, List.forall_mem_cons.mpr ⟨zs_in 372 (by decide +kernel) rfl, List.forall_mem_cons.mpr ⟨zs_in 374 (by decide +kernel) rfl, fun w h => absurd h List.not_mem_nil⟩⟩⟩⟩⟩⟩⟩⟩⟩⟩⟩⟩⟩⟩⟩⟩⟩⟩
theorem zs_uw10 : ∀ w ∈ u_ws RX12 TX12 19, w ∈ zs_tbl := by
  show ∀ w ∈ [u_lay RX12 TX12 0, u_lay RX12 TX12 1, u_lay RX12 TX12 2, u_lay RX12 TX12 3, u_lay RX12 TX12 4, u_lay RX12 TX12 5, u_lay RX12 TX12 6, u_lay RX12 TX12 7, u_lay RX12 TX12 8, u_lay RX12 TX12 9, u_lay RX12 TX12 10, u_lay RX12 TX12 11, u_lay RX12 TX12 12, u_lay RX12 TX12 13, u_lay RX12 TX12 14, u_lay RX12 TX12 15, u_lay RX12 TX12 16, u_lay RX12 TX12 17, u_lay RX12 TX12 18], w ∈ zs_tbl
  exact List.forall_mem_cons.mpr ⟨zs_in 1045 (by decide +kernel) rfl, List.forall_mem_cons.mpr ⟨zs_in 1047 (by decide +kernel) rfl, List.forall_mem_cons.mpr ⟨zs_in 1049 (by decide +kernel) rfl, List.forall_mem_cons.mpr ⟨zs_in 1051 (by decide +kernel) rfl, List.forall_mem_cons.mpr ⟨zs_in 1053 (by decide +kernel) rfl, List.forall_mem_cons.mpr ⟨zs_in 1055 (by decide +kernel) rfl, List.forall_mem_cons.mpr ⟨zs_in 1057 (by decide +kernel) rfl, List.forall_mem_cons.mpr ⟨zs_in 1059 (by decide +kernel) rfl, List.forall_mem_cons.mpr ⟨zs_in 1061 (by decide +kernel) rfl, List.forall_mem_cons.mpr ⟨zs_in 1063 (by decide +kernel) rfl, List.forall_mem_cons.mpr ⟨zs_in 1065 (by decide +kernel) rfl, List.forall_mem_cons.mpr ⟨zs_in 1067 (by decide +kernel) rfl, List.forall_mem_cons.mpr ⟨zs_in 1069 (by decide +kernel) rfl, List.forall_mem_cons.mpr ⟨zs_in 1071 (by decide +kernel) rfl, List.forall_mem_cons.mpr ⟨zs_in 1073 (by decide +kernel) rfl, List.forall_mem_cons.mpr ⟨zs_in 1075 (by decide +kernel) rfl, List.forall_mem_cons.mpr ⟨zs_in 1077 (by decide +kernel) rfl, List.forall_mem_cons.mpr ⟨zs_in 1079 (by decide +kernel) rfl, List.forall_mem_cons.mpr ⟨zs_in 1081 (by decide +kernel) rfl, fun w h => absurd h List.not_mem_nil⟩⟩⟩⟩⟩⟩⟩⟩⟩⟩⟩⟩⟩⟩⟩⟩⟩⟩⟩
theorem zs_cls {ci : Nat} {C : String} {T : u_T} {N : Nat} (hc : vwCl[ci]? = some (C, T, N)) : (∀ w ∈ u_ws C T N, w ∈ zs_tbl) ∧ ∃ ty0 : Nat → FieldType, (∀ k, k < N → parseFieldDescriptor (T k).2.2.1 = some (ty0 k)) ∧ (∀ a, a < N → ∀ b, b < N → a ≠ b → (T a).2.1 ≠ (T b).2.1) := by
  match ci, hc with
  | 0, hc => cases hc; exact ⟨zs_uw0, tyX0, tyX0_ok, nmX0⟩
  | 1, hc => cases hc; exact ⟨zs_uw1, tyX3, tyX3_ok, nmX3⟩
  | 2, hc => cases hc; exact ⟨zs_uw2, tyX4, tyX4_ok, nmX4⟩
  | 3, hc => cases hc; exact ⟨zs_uw3, tyX5, tyX5_ok, nmX5⟩
  | 4, hc => cases hc; exact ⟨zs_uw4, tyX6, tyX6_ok, nmX6⟩
  | 5, hc => cases hc; exact ⟨zs_uw5, tyX7, tyX7_ok, nmX7⟩
  | 6, hc => cases hc; exact ⟨zs_uw6, tyX8, tyX8_ok, nmX8⟩
  | 7, hc => cases hc; exact ⟨zs_uw7, tyX9, tyX9_ok, nmX9⟩
  | 8, hc => cases hc; exact ⟨zs_uw8, tyX10, tyX10_ok, nmX10⟩
  | 9, hc => cases hc; exact ⟨zs_uw9, tyX11, tyX11_ok, nmX11⟩
  | 10, hc => cases hc; exact ⟨zs_uw10, tyX12, tyX12_ok, nmX12⟩
  | k + 11, hc => simp [vwCl] at hc
def zs_up (f : Nat → Nat → Int32) (a j : Nat) (v : Int32) : Nat → Nat → Int32 := fun b i => if b = a ∧ i = j then v else f b i
def zs_upL (f : Nat → Nat → Int64) (a j : Nat) (v : Int64) : Nat → Nat → Int64 := fun b i => if b = a ∧ i = j then v else f b i
def zs_v (E : zs_E) : Value → Value
  | .ref a => .ref (E.2.2.2 a)
  | .int x => .int x
  | .long x => .long x
  | .float x => .float x
  | .double x => .double x
  | .null => .null
  | .retAddr x => .retAddr x
def zs_fv (E : zs_E) (S : zs_S) (a j : Nat) : Nat → Value
  | 0 => .int (S.1 a j)
  | 1 => .long (S.2 a j)
  | k + 2 => .ref (E.2.2.2 k)
def zs_fl (E : zs_E) (S : zs_S) (a : Nat) : Nat → List Nat → List Value
  | _, [] => []
  | j, t :: r => zs_fv E S a j t :: zs_fl E S a (j + 1) r
def zs_c (E : zs_E) (S : zs_S) (a : Nat) : va_E := match zs_sh a with
  | .inl q => .inl (E.2.2.1 q.1, q.2, .inl (S.1 a))
  | .inr q => .inr (q.1, zs_fl E S a 0 q.2)
def zs_ws (E : zs_E) (S : zs_S) : va_W := (List.range zs_n).map fun a => (E.2.2.2 a, zs_c E S a)
abbrev zs_D (E : zs_E) : va_G := (E.1, E.2.1)
abbrev zs_ty (E : zs_E) : List (ClassId × FieldType) := [(E.2.2.1 0, .int), (E.2.2.1 1, .byte)]
def zs_inj (E : zs_E) : Prop := ∀ i j, i < zs_n → j < zs_n → E.2.2.2 i = E.2.2.2 j → i = j
def zs_A (E : zs_E) : Nat → Prop := fun q => ∃ k, k < zs_n ∧ q = E.2.2.2 k
def zs_N (U : State) : Prop := ∀ q ∈ zs_nst, va_Nw (.methodLinkNest q.1 q.2.1 q.2.2.1 q.2.2.2) U
def zs_Z (E : zs_E) (U : State) : Prop := va_K (zs_D E) vwCl (zs_ty E) U ∧ zs_N U ∧ zs_inj E
/-! the five texts of the class, by number: cell 90 + i the String, 95 + i its bytes; 100 the formatter -/
def zs_sl : List Nat := [4, 4, 3, 4, 4]
def zs_sb : List (List Int32) := [[100, 114, 117, 109], [100, 114, 97, 119], [101, 121, 101], [115, 116, 101, 112], [116, 117, 114, 110]]
def zs_sk : List Nat := [129, 135, 137, 139, 140]
def zs_sx : List String := ["drum", "draw", "eye", "step", "turn"]
def zs_T (ad : Nat → Nat) (A : Nat → Prop) (U : State) (H : Heap) : Prop := vk_S 5 zs_sl zs_sb (fun i => ad (90 + i)) (fun i => ad (95 + i)) A U H ∧ va_Z "java/lang/String" "COMPACT_STRINGS" "Z" (.int 1) A U H ∧ (va_Z "jdk/internal/util/Preconditions" "SIOOBE_FORMATTER" "Ljava/util/function/BiFunction;" .null A U H ∨ va_Z "jdk/internal/util/Preconditions" "SIOOBE_FORMATTER" "Ljava/util/function/BiFunction;" (.ref (ad 100)) A U H) ∧ ∀ i, i < 5 → vk_R RX10 (zs_sk.getD i 0) (zs_sx.getD i "") (ad (90 + i)) U
theorem zs_T.narrow {ad : Nat → Nat} {A B : Nat → Prop} {U : State} {H : Heap} (h : zs_T ad A U H) (hAB : ∀ q, B q → A q) : zs_T ad B U H := ⟨h.1.narrow hAB, h.2.1.narrow hAB, h.2.2.1.imp (fun z => z.narrow hAB) (fun z => z.narrow hAB), h.2.2.2⟩
theorem zs_T.kept {ad : Nat → Nat} {A : Nat → Prop} {U : State} {H H1 : Heap} (h : zs_T ad A U H) (hq : ∀ a : Nat, a < H.size → ¬ A a → H1[a]? = H[a]?) : zs_T ad A U H1 := ⟨h.1.kept hq, h.2.1.kept hq, h.2.2.1.imp (fun z => z.kept hq) (fun z => z.kept hq), h.2.2.2⟩
theorem zs_T.warm {ad : Nat → Nat} {A : Nat → Prop} {s U : State} {H : Heap} (hW : s.WarmedH U.vm) (h : zs_T ad A s H) : zs_T ad A U H := ⟨h.1.moved hW.alike, h.2.1.moved hW.alike, h.2.2.1.imp (fun z => z.moved hW.alike) (fun z => z.moved hW.alike), fun i hi => (h.2.2.2 i hi).warm hW⟩
theorem zs_T.same {ad : Nat → Nat} {A : Nat → Prop} {u U : State} {H : Heap} (hv : U.vm = u.vm) (h : zs_T ad A u H) : zs_T ad A U H := by
  have ha : u.vm.Alike U.vm := by rw [hv]; exact Vm.Alike.refl _
  exact ⟨h.1.moved ha, h.2.1.moved ha, h.2.2.1.imp (fun z => z.moved ha) (fun z => z.moved ha), fun i hi => (h.2.2.2 i hi).same hv⟩
theorem zs_Tw {ad : Nat → Nat} {A : Nat → Prop} {s U : State} {H : Heap} {locs : List Loc} (h : zs_T ad A s s.heap) (hW : s.WarmedH U.vm) (hU : U.heap = H) (hS : va_S A s.heap H locs) : zs_T ad A U U.heap := by rw [hU]; exact (h.kept hS.2.1).warm hW
def zs_h (E : zs_E) (S : zs_S) (U : State) : Prop := va_P (zs_D E) vwCl (zs_ws E S) U.heap ∧ zs_Z E U ∧ zs_T E.2.2.2 (zs_A E) U U.heap
def zs_Q (E : zs_E) (r : zs_O) : Array Value → State → Outcome → State → Prop := fun _ st oc t => oc = .returned (r.1.map (zs_v E)) ∧ va_P (zs_D E) vwCl (zs_ws E r.2) t.heap ∧ va_F (zs_A E) st t
abbrev zs_lr (E : zs_E) (lv : List (Nat × Value)) : List (Nat × Value) := lv.map fun q => (q.1, zs_v E q.2)
/-- what stands at a frame of the method M -/
def zs_B (M : zs_M) (p : Program) (s : State) (m : MethodId) (args : Array Value) (meth : Method) (c : Code) : Prop :=
  p.tables.exec = Jvm.exec ∧ c.code = M.2.1 ∧ meth.sig.returnType = M.2.2.2.1 ∧ c.maxLocals = M.2.2.1 ∧ s.vm.findClass M.1.cls = some m.cls ∧ (∀ w ∈ zs_tbl, w.before args s = true) ∧ meth.locks = false
/-- from pc, with these locals and this stack, in the picture S, the method M comes to its end: r.1 answered, r.2 the picture -/
def zs_G (M : zs_M) (pc : Nat) (lv : List (Nat × Value)) (st : List Value) (S : zs_S) (r : zs_O) : Prop :=
  ∀ (p : Program) (l : Launch) (e : Env) (s : State) (m : MethodId) (args : Array Value) (below : List Frame) (meth : Method) (c : Code) (E : zs_E) (H : Heap) (locs : List Loc) (ls : Array Slot),
    zs_B M p s m args meth c → zs_Z E s → zs_T E.2.2.2 (zs_A E) s s.heap → va_P (zs_D E) vwCl (zs_ws E S) H → va_S (zs_A E) s.heap H locs → lv_has ls M.2.2.1 (zs_lr E lv) →
    W p l e M.2.2.2.2 s m args below meth c H locs 0 0 (MQ below (zs_Q E r) args s 0 0 (zs_A E)) (F0 m pc ls (st.map (zs_v E)))
/-- the method M, called with args in the picture S, answers r.1 and leaves r.2 -/
def zs_X (M : zs_M) (args : List Value) (S : zs_S) (r : zs_O) : Prop :=
  ∀ (l : Launch) (E : zs_E), Met l M.1 (Cond.code M.1 M.2.1 M.2.2.1 M.2.2.2.1 :: zs_tbl) M.2.2.2.2 (va_Pc (args.map (zs_v E)) (zs_h E S)) (zs_Q E r) 0 0 (zs_A E)
theorem zs_cat (E : zs_E) (v : Value) : (zs_v E v).category = v.category := by cases v <;> rfl
theorem zs_ws_get {E : zs_E} {S : zs_S} {a : Nat} (ha : a < zs_n) : (zs_ws E S)[a]? = some (E.2.2.2 a, zs_c E S a) := by
  simp [zs_ws, ha]
theorem zs_ws_of {E : zs_E} {S : zs_S} {k : Nat} {q : Nat × va_E} (h : (zs_ws E S)[k]? = some q) : k < zs_n ∧ q = (E.2.2.2 k, zs_c E S k) := by
  by_cases hk : k < zs_n
  · rw [zs_ws_get hk] at h
    exact ⟨hk, (Option.some.inj h).symm⟩
  · simp [zs_ws, hk] at h
theorem zs_Dd {E : zs_E} {S : zs_S} (hI : zs_inj E) : va_D (zs_A E) (zs_ws E S) := by
  refine ⟨fun i j p q hp hq hpq => ?_, fun k q hk => ?_⟩
  · obtain ⟨h1, rfl⟩ := zs_ws_of hp
    obtain ⟨h2, rfl⟩ := zs_ws_of hq
    exact hI i j h1 h2 hpq
  · obtain ⟨h1, rfl⟩ := zs_ws_of hk
    exact ⟨k, h1, rfl⟩
theorem zs_ws_set {E : zs_E} {S S' : zs_S} {a : Nat} {x : va_E} (h1 : zs_c E S' a = x) (h2 : ∀ b, b ≠ a → zs_c E S' b = zs_c E S b) : (zs_ws E S).set a (E.2.2.2 a, x) = zs_ws E S' := by
  apply List.ext_getElem?
  intro k
  rw [List.getElem?_set]
  by_cases hk : k < zs_n
  · by_cases hka : a = k
    · subst hka
      simp [zs_ws, hk, h1]
    · rw [if_neg hka, zs_ws_get hk, zs_ws_get hk, h2 k (fun q => hka q.symm)]
  · by_cases hka : a = k
    · subst hka
      simp [zs_ws, hk]
    · rw [if_neg hka]
      simp [zs_ws, hk]
theorem zs_fl_get {E : zs_E} {S : zs_S} {a : Nat} : ∀ (fl : List Nat) (i j t : Nat), fl[j]? = some t → (zs_fl E S a i fl)[j]? = some (zs_fv E S a (i + j) t) := by
  intro fl
  induction fl with
  | nil => intro i j t h; simp at h
  | cons x r ih =>
    intro i j t h
    cases j with
    | zero =>
      simp at h
      subst h
      simp [zs_fl]
    | succ j =>
      simp at h
      have := ih (i + 1) j t h
      simp only [zs_fl, List.getElem?_cons_succ]
      rw [this]
      congr 2
      omega
theorem zs_fl_len {E : zs_E} {S : zs_S} {a : Nat} : ∀ (fl : List Nat) (i : Nat), (zs_fl E S a i fl).length = fl.length := by
  intro fl
  induction fl with
  | nil => intro i; rfl
  | cons x r ih => intro i; simp [zs_fl, ih]
theorem zs_fl_same {E : zs_E} {S S' : zs_S} {a : Nat} : ∀ (fl : List Nat) (i : Nat), (∀ j, i ≤ j → S'.1 a j = S.1 a j ∧ S'.2 a j = S.2 a j) → zs_fl E S' a i fl = zs_fl E S a i fl := by
  intro fl
  induction fl with
  | nil => intro i _; rfl
  | cons x r ih =>
    intro i h
    simp only [zs_fl]
    rw [ih (i + 1) (fun j hj => h j (by omega))]
    congr 1
    match x with
    | 0 => simp [zs_fv, (h i (Nat.le_refl i)).1]
    | 1 => simp [zs_fv, (h i (Nat.le_refl i)).2]
    | k + 2 => rfl
theorem zs_fl_set {E : zs_E} {S S' : zs_S} {a : Nat} {v : Value} : ∀ (fl : List Nat) (i j t : Nat), fl[j]? = some t → zs_fv E S' a (i + j) t = v → (∀ k, k ≠ i + j → S'.1 a k = S.1 a k ∧ S'.2 a k = S.2 a k) → zs_fl E S' a i fl = (zs_fl E S a i fl).set j v := by
  intro fl
  induction fl with
  | nil => intro i j t h; simp at h
  | cons x r ih =>
    intro i j t h hv ho
    cases j with
    | zero =>
      simp at h
      subst h
      simp only [zs_fl, List.set_cons_zero]
      rw [zs_fl_same r (i + 1) (fun k hk => ho k (by omega))]
      congr 1
    | succ j =>
      simp at h
      simp only [zs_fl, List.set_cons_succ]
      rw [ih (i + 1) j t h (by rw [show i + 1 + j = i + (j + 1) by omega]; exact hv) (fun k hk => ho k (by omega))]
      congr 1
      match x with
      | 0 => simp [zs_fv, (ho i (by omega)).1]
      | 1 => simp [zs_fv, (ho i (by omega)).2]
      | k + 2 => rfl
theorem zs_lk_at {E : zs_E} {ls : Array Slot} {n : Nat} {lv : List (Nat × Value)} (h : lv_has ls n (zs_lr E lv)) {i : Nat} {v : Value} (hk : zs_lk lv i = some v) : ls[i]? = some (.val (zs_v E v)) := by
  have : (i, v) ∈ lv := by
    clear h
    induction lv with
    | nil => simp [zs_lk] at hk
    | cons x r ih =>
      obtain ⟨j, w⟩ := x
      simp only [zs_lk] at hk
      split at hk
      next e => subst e; cases hk; exact List.mem_cons_self
      next => exact List.mem_cons_of_mem _ (ih hk)
  exact h.2.2 (i, zs_v E v) (List.mem_map.mpr ⟨(i, v), this, rfl⟩)
theorem zs_f1 (E : zs_E) (lv : List (Nat × Value)) (i : Nat) : (zs_lr E lv).filter (fun q => !(q.1 == i) && !(q.1 + 1 == i && q.2.category == 2)) = zs_lr E (lv.filter (fun q => !(q.1 == i) && !(q.1 + 1 == i && q.2.category == 2))) := by
  rw [zs_lr, zs_lr, List.filter_map]
  congr 1
  congr 1
  funext q
  simp [zs_cat]
theorem zs_f2 (E : zs_E) (lv : List (Nat × Value)) (i : Nat) : (zs_lr E lv).filter (fun q => !(q.1 == i) && (!(q.1 == i + 1) && !(q.1 + 1 == i && q.2.category == 2))) = zs_lr E (lv.filter (fun q => !(q.1 == i) && (!(q.1 == i + 1) && !(q.1 + 1 == i && q.2.category == 2)))) := by
  rw [zs_lr, zs_lr, List.filter_map]
  congr 1
  congr 1
  funext q
  simp [zs_cat]
theorem zs_la (E : zs_E) : ∀ (vs : List Value) (i : Nat), lv_args i (vs.map (zs_v E)) = zs_lr E (lv_args i vs) := by
  intro vs
  induction vs with
  | nil => intro i; rfl
  | cons v r ih =>
    intro i
    simp only [List.map_cons, lv_args, zs_cat, ih, zs_lr]
theorem zs_ln (E : zs_E) : ∀ (vs : List Value), (lg_sl (vs.map (zs_v E))).length = (lg_sl vs).length := by
  intro vs
  induction vs with
  | nil => rfl
  | cons v r ih =>
    simp only [lg_sl, List.map_cons, List.flatMap_cons, List.length_append, zs_cat] at ih ⊢
    rw [ih]
    split <;> rfl
theorem zs_Zw {E : zs_E} {s U : State} (h : zs_Z E s) (hW : s.WarmedH U.vm) : zs_Z E U := ⟨va_K.moved hW.alike h.1, fun q hq => va_Nw.warmM hW (h.2.1 q hq), h.2.2⟩
theorem zs_bl {E : zs_E} {S : zs_S} {av : List Value} : FrameBlind (va_Pc av (zs_h E S)) := by
  intro a U g mk q
  obtain ⟨q0, qP, ⟨qK, qN, qI⟩, qT⟩ := q
  exact ⟨q0, qP, ⟨va_K.moved (u := U) (U := U.calling g mk a) (Vm.Alike.refl U.vm) qK, fun w hw => va_Nw.same rfl rfl (qN w hw), qI⟩, qT.same (u := U) (U := U.calling g mk a) rfl⟩
set_option maxHeartbeats 1000000 in
/-- a method's contract out of its walk -/
theorem zs_X.of {M : zs_M} {args : List Value} {S : zs_S} {r : zs_O} (hy : plainName M.1.cls = true) (hlen : (lg_sl args).length ≤ M.2.2.1) (h : zs_G M 0 (lv_args 0 args) [] S r) : zs_X M args S r := by
  intro l E
  refine Met.ofW (cc := M.2.1) (maxL := M.2.2.1) (ret := M.2.2.2.1) hy rfl ?_
  intro p e s m args' below meth c s₁ B hml hv
  obtain ⟨rfl, hP, hZ, hT⟩ := hv
  have hts := atoms_spec (ws := Cond.code M.1 M.2.1 M.2.2.1 M.2.2.2.1 :: zs_tbl) B.pre
  have hl := lv_entry (args.map (zs_v E)) (n := M.2.2.1) (by rw [zs_ln]; exact hlen)
  rw [lg_entry_eq]
  rw [zs_la] at hl
  exact h p l e s m _ below meth c E s.heap [] _ ⟨B.exec, B.bytes, B.returns, hml, findClass_of_methodNamed B.named, fun w hw => hts w (List.mem_cons_of_mem _ hw), B.notSynchronized⟩ hZ hT hP va_S.rf hl
theorem zs_c_same {E : zs_E} {S S' : zs_S} {b : Nat} (h : ∀ i, S'.1 b i = S.1 b i ∧ S'.2 b i = S.2 b i) : zs_c E S' b = zs_c E S b := by
  have e1 : S'.1 b = S.1 b := funext fun i => (h i).1
  unfold zs_c
  split
  · rw [e1]
  · rw [zs_fl_same _ 0 (fun j _ => h j)]
