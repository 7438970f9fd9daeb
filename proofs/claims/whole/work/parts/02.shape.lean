/-! the table of shapes: (0, class) for an object, (sort, length) for an array: 1 int, 2 long, 3 byte, 4 boolean, 5 Model[], 6 Sentence[] -/
def xshT : List (Nat × Nat) := [(0, 11), (0, 9), (1, 940), (0, 5), (1, 5), (0, 8), (1, 40), (1, 40), (0, 4), (2, 4), (2, 5), (1, 10), (1, 10), (1, 10), (1, 30), (1, 42), (1, 42), (1, 42), (0, 4), (2, 4), (2, 5), (1, 10), (1, 10), (1, 10), (1, 30), (1, 42), (1, 42), (1, 42), (0, 8), (1, 40), (1, 40), (0, 0), (1, 40), (1, 200), (0, 2), (0, 3), (1, 5), (1, 5), (1, 5), (0, 7), (1, 80), (1, 80), (2, 3840), (2, 800), (2, 160), (2, 160), (4, 80), (1, 1764), (1, 42), (1, 42), (1, 42), (1, 42), (0, 10), (2, 640), (2, 640), (2, 640), (1, 25600), (0, 1), (1, 8), (1, 5), (1, 8), (1, 1215), (1, 25), (1, 6075), (1, 405), (1, 405), (0, 6), (1, 600), (1, 600), (1, 3020), (5, 8), (5, 2), (6, 2), (1, 42), (0, 4), (2, 4), (2, 5), (1, 10), (1, 10), (1, 10), (1, 30), (1, 42), (1, 42), (1, 42), (0, 4), (2, 4), (2, 5), (1, 10), (1, 10), (1, 10), (1, 30), (1, 42), (1, 42), (1, 42), (0, 4), (2, 4), (2, 5), (1, 10), (1, 10), (1, 10), (1, 30), (1, 42), (1, 42), (1, 42), (0, 4), (2, 4), (2, 5), (1, 10), (1, 10), (1, 10), (1, 30), (1, 42), (1, 42), (1, 42), (0, 4), (2, 4), (2, 5), (1, 10), (1, 10), (1, 10), (1, 30), (1, 42), (1, 42), (1, 42), (0, 4), (2, 4), (2, 5), (1, 10), (1, 10), (1, 10), (1, 30), (1, 42), (1, 42), (1, 42), (0, 4), (2, 4), (2, 5), (1, 10), (1, 10), (1, 10), (1, 30), (1, 42), (1, 42), (1, 42), (0, 4), (2, 4), (2, 5), (1, 10), (1, 10), (1, 10), (1, 30), (1, 42), (1, 42), (1, 42), (0, 4), (2, 4), (2, 5), (1, 10), (1, 10), (1, 10), (1, 30), (1, 42), (1, 42), (1, 42), (0, 8), (1, 40), (1, 40), (0, 4), (2, 4), (2, 5), (1, 10), (1, 10), (1, 10), (1, 30), (1, 42), (1, 42), (1, 42), (0, 8), (1, 40), (1, 40), (0, 12), (3, 940), (1, 232), (1, 54), (1, 135), (1, 246), (2, 18), (2, 16), (1, 42), (1, 42), (1, 42), (1, 10), (1, 5), (1, 5), (1, 5), (1, 80), (1, 80), (1, 1764), (1, 81), (1, 76800), (4, 3360), (1, 25600), (1, 25600), (1, 25600), (1, 25600), (4, 25600), (1, 5), (1, 752), (1, 94), (1, 94), (1, 1215), (1, 6075), (1, 25), (1, 405), (1, 405), (1, 5), (1, 8), (1, 8), (1, 36), (1, 9050), (1, 600), (1, 600), (1, 4), (1, 5), (3, 60), (1, 4), (1, 45), (4, 45), (1, 464), (2, 18), (4, 2)]
def xsh (q : Nat) : Nat × Nat := xshT.getD q (99, 0)
abbrev xN : Nat := 231
def xkdT : List (List Nat) := [[2, 2, 0, 0, 0, 0, 0, 0], [0, 0, 0, 2, 0, 2, 0, 2, 2, 2, 2, 2, 2, 2], [0], [0, 0, 0, 0, 2, 2, 2], [0, 0, 0, 0, 0, 2, 2, 2, 2, 2, 2, 2, 2, 2], [2, 2, 2, 0, 0], [2, 0, 2, 2, 0, 2, 0, 0, 0, 0, 0, 0], [0, 0, 0, 2, 2, 2, 2, 2, 2, 2, 2, 2, 2, 2, 2], [2, 2, 0, 0], [2, 0, 0, 0, 0, 0, 1], [0, 0, 0, 0, 2, 2, 2, 2, 0, 0, 2], [2, 2, 2, 2, 2, 2, 2, 2, 2, 2, 2, 2, 2, 2, 2, 2, 0, 0, 0], [2, 0, 0, 0, 0, 2, 2, 2, 2, 2, 2, 0, 0, 0, 0, 0, 0, 1, 0, 0, 2, 2, 2, 2, 0, 0, 0, 0, 0, 0, 0, 2, 2, 2, 2, 2, 2, 2, 2, 2, 0, 0, 2, 2, 2, 2, 2, 0, 0, 0, 0, 0, 0, 2, 2, 2, 2, 0, 2, 2, 2, 2, 2, 2, 2, 2, 0, 2, 2, 2, 2, 2, 0, 0, 2, 0, 2, 0, 0, 0, 2, 0, 2, 0, 0, 0, 0, 0, 2, 2, 2, 2]]
def xkd (ci : Nat) : List Nat := xkdT.getD ci []
def xC (ci : Nat) : String := match ci with
  | 0 => RX0
  | 1 => RX1
  | 2 => RX2
  | 3 => RX3
  | 4 => RX4
  | 5 => RX5
  | 6 => RX6
  | 7 => RX7
  | 8 => RX8
  | 9 => RX9
  | 10 => RX10
  | 11 => RX11
  | _ => RX12
def xT (ci : Nat) : u_T := match ci with
  | 0 => TX0
  | 1 => TX1
  | 2 => TX2
  | 3 => TX3
  | 4 => TX4
  | 5 => TX5
  | 6 => TX6
  | 7 => TX7
  | 8 => TX8
  | 9 => TX9
  | 10 => TX10
  | 11 => TX11
  | _ => TX12
def xty (ci : Nat) : Nat → FieldType := match ci with
  | 0 => tyX0
  | 1 => tyX1
  | 2 => tyX2
  | 3 => tyX3
  | 4 => tyX4
  | 5 => tyX5
  | 6 => tyX6
  | 7 => tyX7
  | 8 => tyX8
  | 9 => tyX9
  | 10 => tyX10
  | 11 => tyX11
  | _ => tyX12
def xNf (ci : Nat) : Nat := (xkd ci).length
def xlayT : List (List (Option Nat)) := [[some 1, some 3, some 8, some 18, some 28, some 31, some 34, some 35, some 39, some 52, some 57, some 66, some 70, some 71, some 72, some 73], [some 2], [], [some 1, some 4, some 5], [], [some 6, some 7], [], [], [none, none, none, none, none, some 9, some 10, some 11, some 12, some 13, some 14, some 15, some 16, some 17], [], [], [], [], [], [], [], [], [], [none, none, none, none, none, some 19, some 20, some 21, some 22, some 23, some 24, some 25, some 26, some 27], [], [], [], [], [], [], [], [], [], [some 29, some 30], [], [], [some 32, some 33], [], [], [], [none, none, none, none, some 36, some 37, some 38], [], [], [], [none, none, none, some 40, some 41, some 42, some 43, some 44, some 45, some 46, some 47, some 48, some 49, some 50, some 51], [], [], [], [], [], [], [], [], [], [], [], [], [none, none, none, none, some 53, some 54, some 55, some 56, none, none, some 39], [], [], [], [], [none, none, none, some 58, none, some 59, none, none, some 60, some 61, some 62, some 63, some 64, some 65], [], [], [], [], [], [], [], [], [some 67, none, some 57, some 68, none, some 69], [], [], [], [], [], [], [], [none, none, none, none, none, some 75, some 76, some 77, some 78, some 79, some 80, some 81, some 82, some 83], [], [], [], [], [], [], [], [], [], [none, none, none, none, none, some 85, some 86, some 87, some 88, some 89, some 90, some 91, some 92, some 93], [], [], [], [], [], [], [], [], [], [none, none, none, none, none, some 95, some 96, some 97, some 98, some 99, some 100, some 101, some 102, some 103], [], [], [], [], [], [], [], [], [], [none, none, none, none, none, some 105, some 106, some 107, some 108, some 109, some 110, some 111, some 112, some 113], [], [], [], [], [], [], [], [], [], [none, none, none, none, none, some 115, some 116, some 117, some 118, some 119, some 120, some 121, some 122, some 123], [], [], [], [], [], [], [], [], [], [none, none, none, none, none, some 125, some 126, some 127, some 128, some 129, some 130, some 131, some 132, some 133], [], [], [], [], [], [], [], [], [], [none, none, none, none, none, some 135, some 136, some 137, some 138, some 139, some 140, some 141, some 142, some 143], [], [], [], [], [], [], [], [], [], [none, none, none, none, none, some 145, some 146, some 147, some 148, some 149, some 150, some 151, some 152, some 153], [], [], [], [], [], [], [], [], [], [none, none, none, none, none, some 155, some 156, some 157, some 158, some 159, some 160, some 161, some 162, some 163], [], [], [], [], [], [], [], [], [], [some 165, some 166], [], [], [none, none, none, none, none, some 168, some 169, some 170, some 171, some 172, some 173, some 174, some 175, some 176], [], [], [], [], [], [], [], [], [], [some 178, some 179], [], [], [some 181, none, none, none, none, some 182, some 183, some 184, some 185, some 186, some 187, none, none, none, none, none, none, none, none, none, some 188, some 189, some 190, some 191, none, none, none, none, none, none, none, some 192, some 193, some 194, some 195, some 196, some 197, some 198, some 199, some 200, none, none, some 201, some 202, some 203, some 204, some 205, none, none, none, none, none, none, some 206, some 207, some 208, some 209, none, some 210, some 211, some 212, some 213, some 214, some 215, some 216, some 217, none, some 218, some 219, some 220, some 221, some 222, none, none, some 223, none, some 224, none, none, none, some 225, none, some 226, none, none, none, none, none, some 227, some 228, some 229, some 230], [], [], [], [], [], [], [], [], [], [], [], [], [], [], [], [], [], [], [], [], [], [], [], [], [], [], [], [], [], [], [], [], [], [], [], [], [], [], [], [], [], [], [], [], [], [], [], [], [], []]
def xlay (q k : Nat) : Option Nat := (xlayT.getD q []).getD k none
def xTS : List Cond := lw_tbl.filter goodWord
theorem xTS_in {w : Cond} (h : w ∈ tables_1) (hg : goodWord w = true) : w ∈ xTS := List.mem_filter.mpr ⟨List.mem_append_right _ h, hg⟩
theorem xTS_sel {w : Cond} (h : w ∈ k2_sels lw_privs) (hg : goodWord w = true) : w ∈ xTS := List.mem_filter.mpr ⟨List.mem_append_left _ h, hg⟩
theorem xTS_tbl {w : Cond} (h : w ∈ xTS) : w ∈ lw_tbl := (List.mem_filter.mp h).1
theorem xTS_good {w : Cond} (h : w ∈ xTS) : (w.onTables && w.keeps) = true ∨ ∃ ty, w = .arrayClass ty := good_of_word (List.mem_filter.mp h).2
set_option maxRecDepth 100000 in
theorem xin0 : ∀ w ∈ u_ws RX0 TX0 8, w ∈ xTS := by
  intro w h
  exact List.mem_filter.mpr ⟨(show ∀ w ∈ u_ws RX0 TX0 8, w ∈ lw_tbl by decide +kernel) w h, (show ∀ w ∈ u_ws RX0 TX0 8, goodWord w = true by decide +kernel) w h⟩
set_option maxRecDepth 100000 in
theorem xin1 : ∀ w ∈ u_ws RX1 TX1 14, w ∈ xTS := by
  intro w h
  exact List.mem_filter.mpr ⟨(show ∀ w ∈ u_ws RX1 TX1 14, w ∈ lw_tbl by decide +kernel) w h, (show ∀ w ∈ u_ws RX1 TX1 14, goodWord w = true by decide +kernel) w h⟩
set_option maxRecDepth 100000 in
theorem xin2 : ∀ w ∈ u_ws RX2 TX2 1, w ∈ xTS := by
  intro w h
  exact List.mem_filter.mpr ⟨(show ∀ w ∈ u_ws RX2 TX2 1, w ∈ lw_tbl by decide +kernel) w h, (show ∀ w ∈ u_ws RX2 TX2 1, goodWord w = true by decide +kernel) w h⟩
set_option maxRecDepth 100000 in
theorem xin3 : ∀ w ∈ u_ws RX3 TX3 7, w ∈ xTS := by
  intro w h
  exact List.mem_filter.mpr ⟨(show ∀ w ∈ u_ws RX3 TX3 7, w ∈ lw_tbl by decide +kernel) w h, (show ∀ w ∈ u_ws RX3 TX3 7, goodWord w = true by decide +kernel) w h⟩
set_option maxRecDepth 100000 in
theorem xin4 : ∀ w ∈ u_ws RX4 TX4 14, w ∈ xTS := by
  intro w h
  exact List.mem_filter.mpr ⟨(show ∀ w ∈ u_ws RX4 TX4 14, w ∈ lw_tbl by decide +kernel) w h, (show ∀ w ∈ u_ws RX4 TX4 14, goodWord w = true by decide +kernel) w h⟩
set_option maxRecDepth 100000 in
theorem xin5 : ∀ w ∈ u_ws RX5 TX5 5, w ∈ xTS := by
  intro w h
  exact List.mem_filter.mpr ⟨(show ∀ w ∈ u_ws RX5 TX5 5, w ∈ lw_tbl by decide +kernel) w h, (show ∀ w ∈ u_ws RX5 TX5 5, goodWord w = true by decide +kernel) w h⟩
set_option maxRecDepth 100000 in
theorem xin6 : ∀ w ∈ u_ws RX6 TX6 12, w ∈ xTS := by
  intro w h
  exact List.mem_filter.mpr ⟨(show ∀ w ∈ u_ws RX6 TX6 12, w ∈ lw_tbl by decide +kernel) w h, (show ∀ w ∈ u_ws RX6 TX6 12, goodWord w = true by decide +kernel) w h⟩
set_option maxRecDepth 100000 in
theorem xin7 : ∀ w ∈ u_ws RX7 TX7 15, w ∈ xTS := by
  intro w h
  exact List.mem_filter.mpr ⟨(show ∀ w ∈ u_ws RX7 TX7 15, w ∈ lw_tbl by decide +kernel) w h, (show ∀ w ∈ u_ws RX7 TX7 15, goodWord w = true by decide +kernel) w h⟩
set_option maxRecDepth 100000 in
theorem xin8 : ∀ w ∈ u_ws RX8 TX8 4, w ∈ xTS := by
  intro w h
  exact List.mem_filter.mpr ⟨(show ∀ w ∈ u_ws RX8 TX8 4, w ∈ lw_tbl by decide +kernel) w h, (show ∀ w ∈ u_ws RX8 TX8 4, goodWord w = true by decide +kernel) w h⟩
set_option maxRecDepth 100000 in
theorem xin9 : ∀ w ∈ u_ws RX9 TX9 7, w ∈ xTS := by
  intro w h
  exact List.mem_filter.mpr ⟨(show ∀ w ∈ u_ws RX9 TX9 7, w ∈ lw_tbl by decide +kernel) w h, (show ∀ w ∈ u_ws RX9 TX9 7, goodWord w = true by decide +kernel) w h⟩
set_option maxRecDepth 100000 in
theorem xin10 : ∀ w ∈ u_ws RX10 TX10 11, w ∈ xTS := by
  intro w h
  exact List.mem_filter.mpr ⟨(show ∀ w ∈ u_ws RX10 TX10 11, w ∈ lw_tbl by decide +kernel) w h, (show ∀ w ∈ u_ws RX10 TX10 11, goodWord w = true by decide +kernel) w h⟩
set_option maxRecDepth 100000 in
theorem xin11 : ∀ w ∈ u_ws RX11 TX11 19, w ∈ xTS := by
  intro w h
  exact List.mem_filter.mpr ⟨(show ∀ w ∈ u_ws RX11 TX11 19, w ∈ lw_tbl by decide +kernel) w h, (show ∀ w ∈ u_ws RX11 TX11 19, goodWord w = true by decide +kernel) w h⟩
set_option maxRecDepth 100000 in
theorem xin12 : ∀ w ∈ u_ws RX12 TX12 92, w ∈ xTS := by
  intro w h
  exact List.mem_filter.mpr ⟨(show ∀ w ∈ u_ws RX12 TX12 92, w ∈ lw_tbl by decide +kernel) w h, (show ∀ w ∈ u_ws RX12 TX12 92, goodWord w = true by decide +kernel) w h⟩
/-- what a class's table says, by its number -/
def xOK (ci : Nat) : Prop := vwCl[ci]? = some (xC ci, xT ci, xNf ci) ∧ (∀ w ∈ u_ws (xC ci) (xT ci) (xNf ci), w ∈ xTS) ∧ (∀ k, k < xNf ci → parseFieldDescriptor (xT ci k).2.2.1 = some (xty ci k)) ∧ (∀ a, a < xNf ci → ∀ b, b < xNf ci → a ≠ b → (xT ci a).2.1 ≠ (xT ci b).2.1)
theorem xok0 : xOK 0 := ⟨rfl, xin0, tyX0_ok, nmX0⟩
theorem xok1 : xOK 1 := ⟨rfl, xin1, tyX1_ok, nmX1⟩
theorem xok2 : xOK 2 := ⟨rfl, xin2, tyX2_ok, nmX2⟩
theorem xok3 : xOK 3 := ⟨rfl, xin3, tyX3_ok, nmX3⟩
theorem xok4 : xOK 4 := ⟨rfl, xin4, tyX4_ok, nmX4⟩
theorem xok5 : xOK 5 := ⟨rfl, xin5, tyX5_ok, nmX5⟩
theorem xok6 : xOK 6 := ⟨rfl, xin6, tyX6_ok, nmX6⟩
theorem xok7 : xOK 7 := ⟨rfl, xin7, tyX7_ok, nmX7⟩
theorem xok8 : xOK 8 := ⟨rfl, xin8, tyX8_ok, nmX8⟩
theorem xok9 : xOK 9 := ⟨rfl, xin9, tyX9_ok, nmX9⟩
theorem xok10 : xOK 10 := ⟨rfl, xin10, tyX10_ok, nmX10⟩
theorem xok11 : xOK 11 := ⟨rfl, xin11, tyX11_ok, nmX11⟩
theorem xok12 : xOK 12 := ⟨rfl, xin12, tyX12_ok, nmX12⟩
theorem sh_0 : xsh 0 = (0, 11) := rfl
theorem sh_1 : xsh 1 = (0, 9) := rfl
theorem sh_2 : xsh 2 = (1, 940) := rfl
theorem sh_3 : xsh 3 = (0, 5) := rfl
theorem sh_4 : xsh 4 = (1, 5) := rfl
theorem sh_5 : xsh 5 = (0, 8) := rfl
theorem sh_6 : xsh 6 = (1, 40) := rfl
theorem sh_7 : xsh 7 = (1, 40) := rfl
theorem sh_8 : xsh 8 = (0, 4) := rfl
theorem sh_9 : xsh 9 = (2, 4) := rfl
theorem sh_10 : xsh 10 = (2, 5) := rfl
theorem sh_11 : xsh 11 = (1, 10) := rfl
theorem sh_12 : xsh 12 = (1, 10) := rfl
theorem sh_13 : xsh 13 = (1, 10) := rfl
theorem sh_14 : xsh 14 = (1, 30) := rfl
theorem sh_15 : xsh 15 = (1, 42) := rfl
theorem sh_16 : xsh 16 = (1, 42) := rfl
theorem sh_17 : xsh 17 = (1, 42) := rfl
theorem sh_18 : xsh 18 = (0, 4) := rfl
theorem sh_19 : xsh 19 = (2, 4) := rfl
theorem sh_20 : xsh 20 = (2, 5) := rfl
theorem sh_21 : xsh 21 = (1, 10) := rfl
theorem sh_22 : xsh 22 = (1, 10) := rfl
theorem sh_23 : xsh 23 = (1, 10) := rfl
theorem sh_24 : xsh 24 = (1, 30) := rfl
theorem sh_25 : xsh 25 = (1, 42) := rfl
theorem sh_26 : xsh 26 = (1, 42) := rfl
theorem sh_27 : xsh 27 = (1, 42) := rfl
theorem sh_28 : xsh 28 = (0, 8) := rfl
theorem sh_29 : xsh 29 = (1, 40) := rfl
theorem sh_30 : xsh 30 = (1, 40) := rfl
theorem sh_31 : xsh 31 = (0, 0) := rfl
theorem sh_32 : xsh 32 = (1, 40) := rfl
theorem sh_33 : xsh 33 = (1, 200) := rfl
theorem sh_34 : xsh 34 = (0, 2) := rfl
theorem sh_35 : xsh 35 = (0, 3) := rfl
theorem sh_36 : xsh 36 = (1, 5) := rfl
theorem sh_37 : xsh 37 = (1, 5) := rfl
theorem sh_38 : xsh 38 = (1, 5) := rfl
theorem sh_39 : xsh 39 = (0, 7) := rfl
theorem sh_40 : xsh 40 = (1, 80) := rfl
theorem sh_41 : xsh 41 = (1, 80) := rfl
theorem sh_42 : xsh 42 = (2, 3840) := rfl
theorem sh_43 : xsh 43 = (2, 800) := rfl
theorem sh_44 : xsh 44 = (2, 160) := rfl
theorem sh_45 : xsh 45 = (2, 160) := rfl
theorem sh_46 : xsh 46 = (4, 80) := rfl
theorem sh_47 : xsh 47 = (1, 1764) := rfl
theorem sh_48 : xsh 48 = (1, 42) := rfl
theorem sh_49 : xsh 49 = (1, 42) := rfl
theorem sh_50 : xsh 50 = (1, 42) := rfl
theorem sh_51 : xsh 51 = (1, 42) := rfl
theorem sh_52 : xsh 52 = (0, 10) := rfl
theorem sh_53 : xsh 53 = (2, 640) := rfl
theorem sh_54 : xsh 54 = (2, 640) := rfl
theorem sh_55 : xsh 55 = (2, 640) := rfl
theorem sh_56 : xsh 56 = (1, 25600) := rfl
theorem sh_57 : xsh 57 = (0, 1) := rfl
theorem sh_58 : xsh 58 = (1, 8) := rfl
theorem sh_59 : xsh 59 = (1, 5) := rfl
theorem sh_60 : xsh 60 = (1, 8) := rfl
theorem sh_61 : xsh 61 = (1, 1215) := rfl
theorem sh_62 : xsh 62 = (1, 25) := rfl
theorem sh_63 : xsh 63 = (1, 6075) := rfl
theorem sh_64 : xsh 64 = (1, 405) := rfl
theorem sh_65 : xsh 65 = (1, 405) := rfl
theorem sh_66 : xsh 66 = (0, 6) := rfl
theorem sh_67 : xsh 67 = (1, 600) := rfl
theorem sh_68 : xsh 68 = (1, 600) := rfl
theorem sh_69 : xsh 69 = (1, 3020) := rfl
theorem sh_70 : xsh 70 = (5, 8) := rfl
theorem sh_71 : xsh 71 = (5, 2) := rfl
theorem sh_72 : xsh 72 = (6, 2) := rfl
theorem sh_73 : xsh 73 = (1, 42) := rfl
theorem sh_74 : xsh 74 = (0, 4) := rfl
theorem sh_75 : xsh 75 = (2, 4) := rfl
theorem sh_76 : xsh 76 = (2, 5) := rfl
theorem sh_77 : xsh 77 = (1, 10) := rfl
theorem sh_78 : xsh 78 = (1, 10) := rfl
theorem sh_79 : xsh 79 = (1, 10) := rfl
theorem sh_80 : xsh 80 = (1, 30) := rfl
theorem sh_81 : xsh 81 = (1, 42) := rfl
theorem sh_82 : xsh 82 = (1, 42) := rfl
theorem sh_83 : xsh 83 = (1, 42) := rfl
theorem sh_84 : xsh 84 = (0, 4) := rfl
theorem sh_85 : xsh 85 = (2, 4) := rfl
theorem sh_86 : xsh 86 = (2, 5) := rfl
theorem sh_87 : xsh 87 = (1, 10) := rfl
theorem sh_88 : xsh 88 = (1, 10) := rfl
theorem sh_89 : xsh 89 = (1, 10) := rfl
theorem sh_90 : xsh 90 = (1, 30) := rfl
theorem sh_91 : xsh 91 = (1, 42) := rfl
theorem sh_92 : xsh 92 = (1, 42) := rfl
theorem sh_93 : xsh 93 = (1, 42) := rfl
theorem sh_94 : xsh 94 = (0, 4) := rfl
theorem sh_95 : xsh 95 = (2, 4) := rfl
theorem sh_96 : xsh 96 = (2, 5) := rfl
theorem sh_97 : xsh 97 = (1, 10) := rfl
theorem sh_98 : xsh 98 = (1, 10) := rfl
theorem sh_99 : xsh 99 = (1, 10) := rfl
theorem sh_100 : xsh 100 = (1, 30) := rfl
theorem sh_101 : xsh 101 = (1, 42) := rfl
theorem sh_102 : xsh 102 = (1, 42) := rfl
theorem sh_103 : xsh 103 = (1, 42) := rfl
theorem sh_104 : xsh 104 = (0, 4) := rfl
theorem sh_105 : xsh 105 = (2, 4) := rfl
theorem sh_106 : xsh 106 = (2, 5) := rfl
theorem sh_107 : xsh 107 = (1, 10) := rfl
theorem sh_108 : xsh 108 = (1, 10) := rfl
theorem sh_109 : xsh 109 = (1, 10) := rfl
theorem sh_110 : xsh 110 = (1, 30) := rfl
theorem sh_111 : xsh 111 = (1, 42) := rfl
theorem sh_112 : xsh 112 = (1, 42) := rfl
theorem sh_113 : xsh 113 = (1, 42) := rfl
theorem sh_114 : xsh 114 = (0, 4) := rfl
theorem sh_115 : xsh 115 = (2, 4) := rfl
theorem sh_116 : xsh 116 = (2, 5) := rfl
theorem sh_117 : xsh 117 = (1, 10) := rfl
theorem sh_118 : xsh 118 = (1, 10) := rfl
theorem sh_119 : xsh 119 = (1, 10) := rfl
theorem sh_120 : xsh 120 = (1, 30) := rfl
theorem sh_121 : xsh 121 = (1, 42) := rfl
theorem sh_122 : xsh 122 = (1, 42) := rfl
theorem sh_123 : xsh 123 = (1, 42) := rfl
theorem sh_124 : xsh 124 = (0, 4) := rfl
theorem sh_125 : xsh 125 = (2, 4) := rfl
theorem sh_126 : xsh 126 = (2, 5) := rfl
theorem sh_127 : xsh 127 = (1, 10) := rfl
theorem sh_128 : xsh 128 = (1, 10) := rfl
theorem sh_129 : xsh 129 = (1, 10) := rfl
theorem sh_130 : xsh 130 = (1, 30) := rfl
theorem sh_131 : xsh 131 = (1, 42) := rfl
theorem sh_132 : xsh 132 = (1, 42) := rfl
theorem sh_133 : xsh 133 = (1, 42) := rfl
theorem sh_134 : xsh 134 = (0, 4) := rfl
theorem sh_135 : xsh 135 = (2, 4) := rfl
theorem sh_136 : xsh 136 = (2, 5) := rfl
theorem sh_137 : xsh 137 = (1, 10) := rfl
theorem sh_138 : xsh 138 = (1, 10) := rfl
theorem sh_139 : xsh 139 = (1, 10) := rfl
theorem sh_140 : xsh 140 = (1, 30) := rfl
theorem sh_141 : xsh 141 = (1, 42) := rfl
theorem sh_142 : xsh 142 = (1, 42) := rfl
theorem sh_143 : xsh 143 = (1, 42) := rfl
theorem sh_144 : xsh 144 = (0, 4) := rfl
theorem sh_145 : xsh 145 = (2, 4) := rfl
theorem sh_146 : xsh 146 = (2, 5) := rfl
theorem sh_147 : xsh 147 = (1, 10) := rfl
theorem sh_148 : xsh 148 = (1, 10) := rfl
theorem sh_149 : xsh 149 = (1, 10) := rfl
theorem sh_150 : xsh 150 = (1, 30) := rfl
theorem sh_151 : xsh 151 = (1, 42) := rfl
theorem sh_152 : xsh 152 = (1, 42) := rfl
theorem sh_153 : xsh 153 = (1, 42) := rfl
theorem sh_154 : xsh 154 = (0, 4) := rfl
theorem sh_155 : xsh 155 = (2, 4) := rfl
theorem sh_156 : xsh 156 = (2, 5) := rfl
theorem sh_157 : xsh 157 = (1, 10) := rfl
theorem sh_158 : xsh 158 = (1, 10) := rfl
theorem sh_159 : xsh 159 = (1, 10) := rfl
theorem sh_160 : xsh 160 = (1, 30) := rfl
theorem sh_161 : xsh 161 = (1, 42) := rfl
theorem sh_162 : xsh 162 = (1, 42) := rfl
theorem sh_163 : xsh 163 = (1, 42) := rfl
theorem sh_164 : xsh 164 = (0, 8) := rfl
theorem sh_165 : xsh 165 = (1, 40) := rfl
theorem sh_166 : xsh 166 = (1, 40) := rfl
theorem sh_167 : xsh 167 = (0, 4) := rfl
theorem sh_168 : xsh 168 = (2, 4) := rfl
theorem sh_169 : xsh 169 = (2, 5) := rfl
theorem sh_170 : xsh 170 = (1, 10) := rfl
theorem sh_171 : xsh 171 = (1, 10) := rfl
theorem sh_172 : xsh 172 = (1, 10) := rfl
theorem sh_173 : xsh 173 = (1, 30) := rfl
theorem sh_174 : xsh 174 = (1, 42) := rfl
theorem sh_175 : xsh 175 = (1, 42) := rfl
theorem sh_176 : xsh 176 = (1, 42) := rfl
theorem sh_177 : xsh 177 = (0, 8) := rfl
theorem sh_178 : xsh 178 = (1, 40) := rfl
theorem sh_179 : xsh 179 = (1, 40) := rfl
theorem sh_180 : xsh 180 = (0, 12) := rfl
theorem sh_181 : xsh 181 = (3, 940) := rfl
theorem sh_182 : xsh 182 = (1, 232) := rfl
theorem sh_183 : xsh 183 = (1, 54) := rfl
theorem sh_184 : xsh 184 = (1, 135) := rfl
theorem sh_185 : xsh 185 = (1, 246) := rfl
theorem sh_186 : xsh 186 = (2, 18) := rfl
theorem sh_187 : xsh 187 = (2, 16) := rfl
theorem sh_188 : xsh 188 = (1, 42) := rfl
theorem sh_189 : xsh 189 = (1, 42) := rfl
theorem sh_190 : xsh 190 = (1, 42) := rfl
theorem sh_191 : xsh 191 = (1, 10) := rfl
theorem sh_192 : xsh 192 = (1, 5) := rfl
theorem sh_193 : xsh 193 = (1, 5) := rfl
theorem sh_194 : xsh 194 = (1, 5) := rfl
theorem sh_195 : xsh 195 = (1, 80) := rfl
theorem sh_196 : xsh 196 = (1, 80) := rfl
theorem sh_197 : xsh 197 = (1, 1764) := rfl
theorem sh_198 : xsh 198 = (1, 81) := rfl
theorem sh_199 : xsh 199 = (1, 76800) := rfl
theorem sh_200 : xsh 200 = (4, 3360) := rfl
theorem sh_201 : xsh 201 = (1, 25600) := rfl
theorem sh_202 : xsh 202 = (1, 25600) := rfl
theorem sh_203 : xsh 203 = (1, 25600) := rfl
theorem sh_204 : xsh 204 = (1, 25600) := rfl
theorem sh_205 : xsh 205 = (4, 25600) := rfl
theorem sh_206 : xsh 206 = (1, 5) := rfl
theorem sh_207 : xsh 207 = (1, 752) := rfl
theorem sh_208 : xsh 208 = (1, 94) := rfl
theorem sh_209 : xsh 209 = (1, 94) := rfl
theorem sh_210 : xsh 210 = (1, 1215) := rfl
theorem sh_211 : xsh 211 = (1, 6075) := rfl
theorem sh_212 : xsh 212 = (1, 25) := rfl
theorem sh_213 : xsh 213 = (1, 405) := rfl
theorem sh_214 : xsh 214 = (1, 405) := rfl
theorem sh_215 : xsh 215 = (1, 5) := rfl
theorem sh_216 : xsh 216 = (1, 8) := rfl
theorem sh_217 : xsh 217 = (1, 8) := rfl
theorem sh_218 : xsh 218 = (1, 36) := rfl
theorem sh_219 : xsh 219 = (1, 9050) := rfl
theorem sh_220 : xsh 220 = (1, 600) := rfl
theorem sh_221 : xsh 221 = (1, 600) := rfl
theorem sh_222 : xsh 222 = (1, 4) := rfl
theorem sh_223 : xsh 223 = (1, 5) := rfl
theorem sh_224 : xsh 224 = (3, 60) := rfl
theorem sh_225 : xsh 225 = (1, 4) := rfl
theorem sh_226 : xsh 226 = (1, 45) := rfl
theorem sh_227 : xsh 227 = (4, 45) := rfl
theorem sh_228 : xsh 228 = (1, 464) := rfl
theorem sh_229 : xsh 229 = (2, 18) := rfl
theorem sh_230 : xsh 230 = (4, 2) := rfl
theorem ly_0_0 : xlay 0 0 = some 1 := rfl
theorem ly_0_1 : xlay 0 1 = some 3 := rfl
theorem ly_0_2 : xlay 0 2 = some 8 := rfl
theorem ly_0_3 : xlay 0 3 = some 18 := rfl
theorem ly_0_4 : xlay 0 4 = some 28 := rfl
theorem ly_0_5 : xlay 0 5 = some 31 := rfl
theorem ly_0_6 : xlay 0 6 = some 34 := rfl
theorem ly_0_7 : xlay 0 7 = some 35 := rfl
theorem ly_0_8 : xlay 0 8 = some 39 := rfl
theorem ly_0_9 : xlay 0 9 = some 52 := rfl
theorem ly_0_10 : xlay 0 10 = some 57 := rfl
theorem ly_0_11 : xlay 0 11 = some 66 := rfl
theorem ly_0_12 : xlay 0 12 = some 70 := rfl
theorem ly_0_13 : xlay 0 13 = some 71 := rfl
theorem ly_0_14 : xlay 0 14 = some 72 := rfl
theorem ly_0_15 : xlay 0 15 = some 73 := rfl
theorem ly_1_0 : xlay 1 0 = some 2 := rfl
theorem ly_3_0 : xlay 3 0 = some 1 := rfl
theorem ly_3_1 : xlay 3 1 = some 4 := rfl
theorem ly_3_2 : xlay 3 2 = some 5 := rfl
theorem ly_5_0 : xlay 5 0 = some 6 := rfl
theorem ly_5_1 : xlay 5 1 = some 7 := rfl
theorem ly_8_5 : xlay 8 5 = some 9 := rfl
theorem ly_8_6 : xlay 8 6 = some 10 := rfl
theorem ly_8_7 : xlay 8 7 = some 11 := rfl
theorem ly_8_8 : xlay 8 8 = some 12 := rfl
theorem ly_8_9 : xlay 8 9 = some 13 := rfl
theorem ly_8_10 : xlay 8 10 = some 14 := rfl
theorem ly_8_11 : xlay 8 11 = some 15 := rfl
theorem ly_8_12 : xlay 8 12 = some 16 := rfl
theorem ly_8_13 : xlay 8 13 = some 17 := rfl
theorem ly_18_5 : xlay 18 5 = some 19 := rfl
theorem ly_18_6 : xlay 18 6 = some 20 := rfl
theorem ly_18_7 : xlay 18 7 = some 21 := rfl
theorem ly_18_8 : xlay 18 8 = some 22 := rfl
theorem ly_18_9 : xlay 18 9 = some 23 := rfl
theorem ly_18_10 : xlay 18 10 = some 24 := rfl
theorem ly_18_11 : xlay 18 11 = some 25 := rfl
theorem ly_18_12 : xlay 18 12 = some 26 := rfl
theorem ly_18_13 : xlay 18 13 = some 27 := rfl
theorem ly_28_0 : xlay 28 0 = some 29 := rfl
theorem ly_28_1 : xlay 28 1 = some 30 := rfl
theorem ly_31_0 : xlay 31 0 = some 32 := rfl
theorem ly_31_1 : xlay 31 1 = some 33 := rfl
theorem ly_35_4 : xlay 35 4 = some 36 := rfl
theorem ly_35_5 : xlay 35 5 = some 37 := rfl
theorem ly_35_6 : xlay 35 6 = some 38 := rfl
theorem ly_39_3 : xlay 39 3 = some 40 := rfl
theorem ly_39_4 : xlay 39 4 = some 41 := rfl
theorem ly_39_5 : xlay 39 5 = some 42 := rfl
theorem ly_39_6 : xlay 39 6 = some 43 := rfl
theorem ly_39_7 : xlay 39 7 = some 44 := rfl
theorem ly_39_8 : xlay 39 8 = some 45 := rfl
theorem ly_39_9 : xlay 39 9 = some 46 := rfl
theorem ly_39_10 : xlay 39 10 = some 47 := rfl
theorem ly_39_11 : xlay 39 11 = some 48 := rfl
theorem ly_39_12 : xlay 39 12 = some 49 := rfl
theorem ly_39_13 : xlay 39 13 = some 50 := rfl
theorem ly_39_14 : xlay 39 14 = some 51 := rfl
theorem ly_52_4 : xlay 52 4 = some 53 := rfl
theorem ly_52_5 : xlay 52 5 = some 54 := rfl
theorem ly_52_6 : xlay 52 6 = some 55 := rfl
theorem ly_52_7 : xlay 52 7 = some 56 := rfl
theorem ly_52_10 : xlay 52 10 = some 39 := rfl
theorem ly_57_3 : xlay 57 3 = some 58 := rfl
theorem ly_57_5 : xlay 57 5 = some 59 := rfl
theorem ly_57_8 : xlay 57 8 = some 60 := rfl
theorem ly_57_9 : xlay 57 9 = some 61 := rfl
theorem ly_57_10 : xlay 57 10 = some 62 := rfl
theorem ly_57_11 : xlay 57 11 = some 63 := rfl
theorem ly_57_12 : xlay 57 12 = some 64 := rfl
theorem ly_57_13 : xlay 57 13 = some 65 := rfl
theorem ly_66_0 : xlay 66 0 = some 67 := rfl
theorem ly_66_2 : xlay 66 2 = some 57 := rfl
theorem ly_66_3 : xlay 66 3 = some 68 := rfl
theorem ly_66_5 : xlay 66 5 = some 69 := rfl
theorem ly_74_5 : xlay 74 5 = some 75 := rfl
theorem ly_74_6 : xlay 74 6 = some 76 := rfl
theorem ly_74_7 : xlay 74 7 = some 77 := rfl
theorem ly_74_8 : xlay 74 8 = some 78 := rfl
theorem ly_74_9 : xlay 74 9 = some 79 := rfl
theorem ly_74_10 : xlay 74 10 = some 80 := rfl
theorem ly_74_11 : xlay 74 11 = some 81 := rfl
theorem ly_74_12 : xlay 74 12 = some 82 := rfl
theorem ly_74_13 : xlay 74 13 = some 83 := rfl
theorem ly_84_5 : xlay 84 5 = some 85 := rfl
theorem ly_84_6 : xlay 84 6 = some 86 := rfl
theorem ly_84_7 : xlay 84 7 = some 87 := rfl
theorem ly_84_8 : xlay 84 8 = some 88 := rfl
theorem ly_84_9 : xlay 84 9 = some 89 := rfl
theorem ly_84_10 : xlay 84 10 = some 90 := rfl
theorem ly_84_11 : xlay 84 11 = some 91 := rfl
theorem ly_84_12 : xlay 84 12 = some 92 := rfl
theorem ly_84_13 : xlay 84 13 = some 93 := rfl
theorem ly_94_5 : xlay 94 5 = some 95 := rfl
theorem ly_94_6 : xlay 94 6 = some 96 := rfl
theorem ly_94_7 : xlay 94 7 = some 97 := rfl
theorem ly_94_8 : xlay 94 8 = some 98 := rfl
theorem ly_94_9 : xlay 94 9 = some 99 := rfl
theorem ly_94_10 : xlay 94 10 = some 100 := rfl
theorem ly_94_11 : xlay 94 11 = some 101 := rfl
theorem ly_94_12 : xlay 94 12 = some 102 := rfl
theorem ly_94_13 : xlay 94 13 = some 103 := rfl
theorem ly_104_5 : xlay 104 5 = some 105 := rfl
theorem ly_104_6 : xlay 104 6 = some 106 := rfl
theorem ly_104_7 : xlay 104 7 = some 107 := rfl
theorem ly_104_8 : xlay 104 8 = some 108 := rfl
theorem ly_104_9 : xlay 104 9 = some 109 := rfl
theorem ly_104_10 : xlay 104 10 = some 110 := rfl
theorem ly_104_11 : xlay 104 11 = some 111 := rfl
theorem ly_104_12 : xlay 104 12 = some 112 := rfl
theorem ly_104_13 : xlay 104 13 = some 113 := rfl
theorem ly_114_5 : xlay 114 5 = some 115 := rfl
theorem ly_114_6 : xlay 114 6 = some 116 := rfl
theorem ly_114_7 : xlay 114 7 = some 117 := rfl
theorem ly_114_8 : xlay 114 8 = some 118 := rfl
theorem ly_114_9 : xlay 114 9 = some 119 := rfl
theorem ly_114_10 : xlay 114 10 = some 120 := rfl
theorem ly_114_11 : xlay 114 11 = some 121 := rfl
theorem ly_114_12 : xlay 114 12 = some 122 := rfl
theorem ly_114_13 : xlay 114 13 = some 123 := rfl
theorem ly_124_5 : xlay 124 5 = some 125 := rfl
theorem ly_124_6 : xlay 124 6 = some 126 := rfl
theorem ly_124_7 : xlay 124 7 = some 127 := rfl
theorem ly_124_8 : xlay 124 8 = some 128 := rfl
theorem ly_124_9 : xlay 124 9 = some 129 := rfl
theorem ly_124_10 : xlay 124 10 = some 130 := rfl
theorem ly_124_11 : xlay 124 11 = some 131 := rfl
theorem ly_124_12 : xlay 124 12 = some 132 := rfl
theorem ly_124_13 : xlay 124 13 = some 133 := rfl
theorem ly_134_5 : xlay 134 5 = some 135 := rfl
theorem ly_134_6 : xlay 134 6 = some 136 := rfl
theorem ly_134_7 : xlay 134 7 = some 137 := rfl
theorem ly_134_8 : xlay 134 8 = some 138 := rfl
theorem ly_134_9 : xlay 134 9 = some 139 := rfl
theorem ly_134_10 : xlay 134 10 = some 140 := rfl
theorem ly_134_11 : xlay 134 11 = some 141 := rfl
theorem ly_134_12 : xlay 134 12 = some 142 := rfl
theorem ly_134_13 : xlay 134 13 = some 143 := rfl
theorem ly_144_5 : xlay 144 5 = some 145 := rfl
theorem ly_144_6 : xlay 144 6 = some 146 := rfl
theorem ly_144_7 : xlay 144 7 = some 147 := rfl
theorem ly_144_8 : xlay 144 8 = some 148 := rfl
theorem ly_144_9 : xlay 144 9 = some 149 := rfl
theorem ly_144_10 : xlay 144 10 = some 150 := rfl
theorem ly_144_11 : xlay 144 11 = some 151 := rfl
theorem ly_144_12 : xlay 144 12 = some 152 := rfl
theorem ly_144_13 : xlay 144 13 = some 153 := rfl
theorem ly_154_5 : xlay 154 5 = some 155 := rfl
theorem ly_154_6 : xlay 154 6 = some 156 := rfl
theorem ly_154_7 : xlay 154 7 = some 157 := rfl
theorem ly_154_8 : xlay 154 8 = some 158 := rfl
theorem ly_154_9 : xlay 154 9 = some 159 := rfl
theorem ly_154_10 : xlay 154 10 = some 160 := rfl
theorem ly_154_11 : xlay 154 11 = some 161 := rfl
theorem ly_154_12 : xlay 154 12 = some 162 := rfl
theorem ly_154_13 : xlay 154 13 = some 163 := rfl
theorem ly_164_0 : xlay 164 0 = some 165 := rfl
theorem ly_164_1 : xlay 164 1 = some 166 := rfl
theorem ly_167_5 : xlay 167 5 = some 168 := rfl
theorem ly_167_6 : xlay 167 6 = some 169 := rfl
theorem ly_167_7 : xlay 167 7 = some 170 := rfl
theorem ly_167_8 : xlay 167 8 = some 171 := rfl
theorem ly_167_9 : xlay 167 9 = some 172 := rfl
theorem ly_167_10 : xlay 167 10 = some 173 := rfl
theorem ly_167_11 : xlay 167 11 = some 174 := rfl
theorem ly_167_12 : xlay 167 12 = some 175 := rfl
theorem ly_167_13 : xlay 167 13 = some 176 := rfl
theorem ly_177_0 : xlay 177 0 = some 178 := rfl
theorem ly_177_1 : xlay 177 1 = some 179 := rfl
theorem ly_180_0 : xlay 180 0 = some 181 := rfl
theorem ly_180_5 : xlay 180 5 = some 182 := rfl
theorem ly_180_6 : xlay 180 6 = some 183 := rfl
theorem ly_180_7 : xlay 180 7 = some 184 := rfl
theorem ly_180_8 : xlay 180 8 = some 185 := rfl
theorem ly_180_9 : xlay 180 9 = some 186 := rfl
theorem ly_180_10 : xlay 180 10 = some 187 := rfl
theorem ly_180_20 : xlay 180 20 = some 188 := rfl
theorem ly_180_21 : xlay 180 21 = some 189 := rfl
theorem ly_180_22 : xlay 180 22 = some 190 := rfl
theorem ly_180_23 : xlay 180 23 = some 191 := rfl
theorem ly_180_31 : xlay 180 31 = some 192 := rfl
theorem ly_180_32 : xlay 180 32 = some 193 := rfl
theorem ly_180_33 : xlay 180 33 = some 194 := rfl
theorem ly_180_34 : xlay 180 34 = some 195 := rfl
theorem ly_180_35 : xlay 180 35 = some 196 := rfl
theorem ly_180_36 : xlay 180 36 = some 197 := rfl
theorem ly_180_37 : xlay 180 37 = some 198 := rfl
theorem ly_180_38 : xlay 180 38 = some 199 := rfl
theorem ly_180_39 : xlay 180 39 = some 200 := rfl
theorem ly_180_42 : xlay 180 42 = some 201 := rfl
theorem ly_180_43 : xlay 180 43 = some 202 := rfl
theorem ly_180_44 : xlay 180 44 = some 203 := rfl
theorem ly_180_45 : xlay 180 45 = some 204 := rfl
theorem ly_180_46 : xlay 180 46 = some 205 := rfl
theorem ly_180_53 : xlay 180 53 = some 206 := rfl
theorem ly_180_54 : xlay 180 54 = some 207 := rfl
theorem ly_180_55 : xlay 180 55 = some 208 := rfl
theorem ly_180_56 : xlay 180 56 = some 209 := rfl
theorem ly_180_58 : xlay 180 58 = some 210 := rfl
theorem ly_180_59 : xlay 180 59 = some 211 := rfl
theorem ly_180_60 : xlay 180 60 = some 212 := rfl
theorem ly_180_61 : xlay 180 61 = some 213 := rfl
theorem ly_180_62 : xlay 180 62 = some 214 := rfl
theorem ly_180_63 : xlay 180 63 = some 215 := rfl
theorem ly_180_64 : xlay 180 64 = some 216 := rfl
theorem ly_180_65 : xlay 180 65 = some 217 := rfl
theorem ly_180_67 : xlay 180 67 = some 218 := rfl
theorem ly_180_68 : xlay 180 68 = some 219 := rfl
theorem ly_180_69 : xlay 180 69 = some 220 := rfl
theorem ly_180_70 : xlay 180 70 = some 221 := rfl
theorem ly_180_71 : xlay 180 71 = some 222 := rfl
theorem ly_180_74 : xlay 180 74 = some 223 := rfl
theorem ly_180_76 : xlay 180 76 = some 224 := rfl
theorem ly_180_80 : xlay 180 80 = some 225 := rfl
theorem ly_180_82 : xlay 180 82 = some 226 := rfl
theorem ly_180_88 : xlay 180 88 = some 227 := rfl
theorem ly_180_89 : xlay 180 89 = some 228 := rfl
theorem ly_180_90 : xlay 180 90 = some 229 := rfl
theorem ly_180_91 : xlay 180 91 = some 230 := rfl
