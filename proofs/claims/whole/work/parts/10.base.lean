/-! THE WORLD: every cell from a base address on, as ints, longs and references by address and place -/
abbrev EnT : Type := Launch × va_G × (Nat → ClassId) × Nat × (Nat → Nat)
abbrev ST : Type := Nat × (Nat → Nat × Nat) × (Nat → Nat → Option Nat)
abbrev IT : Type := Nat → Nat → Int32
abbrev LT : Type := Nat → Nat → Int64
abbrev MI : Type := MethodName × ByteArray × Nat × Option FieldType
abbrev QT : Type := List Frame → Array Value → State → State → Prop
def eB (E : EnT) : Nat := E.2.2.2.1
def EA (E : EnT) : Nat → Prop := fun q => eB E ≤ q
def TT : List Cond := lw_tbl.filter goodWord
theorem memT {w : Cond} (i : Nat) (h : lw_tbl[i]? = some w) (hg : goodWord w = true) : w ∈ TT := List.mem_filter.mpr ⟨List.mem_of_getElem? h, hg⟩
theorem inT_of {ws : List Cond} (ps : List Nat) (h : ws = ps.filterMap (fun i => lw_tbl[i]?)) (hg : ws.all goodWord = true) : ∀ w ∈ ws, w ∈ TT := by
  intro w hw
  have h1 := List.all_eq_true.mp hg w hw
  rw [h] at hw
  obtain ⟨i, -, hi⟩ := List.mem_filterMap.mp hw
  exact memT i hi h1
def wsK (k : MI) : List Cond := .code k.1 k.2.1 k.2.2.1 k.2.2.2 :: TT
theorem goodTT : GoodIn TT TT := fun w hw => ⟨hw, good_of_word (List.mem_filter.mp hw).2⟩
theorem goodK {k : MI} (h : Cond.code k.1 k.2.1 k.2.2.1 k.2.2.2 ∈ TT) : GoodIn TT (wsK k) := fun w hw => (List.mem_cons.mp hw).elim (fun e => e ▸ goodTT _ h) (goodTT w)
def nfC : Nat → Nat | 0 => 9 | 1 => 3 | 2 => 4 | 3 => 2 | 4 => 6 | 5 => 14 | 6 => 1 | 7 => 6 | 8 => 8 | 9 => 7 | 10 => 12 | 11 => 18 | 12 => 62 | _ => 0
def RC : Nat → String | 0 => RX0 | 1 => RX1 | 2 => RX2 | 3 => RX3 | 4 => RX4 | 5 => RX5 | 6 => RX6 | 7 => RX7 | 8 => RX8 | 9 => RX9 | 10 => RX10 | 11 => RX11 | 12 => RX12 | _ => ""
def TC : Nat → u_T | 0 => TX0 | 1 => TX1 | 2 => TX2 | 3 => TX3 | 4 => TX4 | 5 => TX5 | 6 => TX6 | 7 => TX7 | 8 => TX8 | 9 => TX9 | 10 => TX10 | 11 => TX11 | 12 => TX12 | _ => TX0
def tyC : Nat → Nat → FieldType | 0 => tyX0 | 1 => tyX1 | 2 => tyX2 | 3 => tyX3 | 4 => tyX4 | 5 => tyX5 | 6 => tyX6 | 7 => tyX7 | 8 => tyX8 | 9 => tyX9 | 10 => tyX10 | 11 => tyX11 | 12 => tyX12 | _ => tyX0
theorem lt13 {P : Nat → Prop} (h : ∀ ci, ci ∈ [0, 1, 2, 3, 4, 5, 6, 7, 8, 9, 10, 11, 12] → P ci) : ∀ ci, ci < 13 → P ci := fun ci hc => h ci (by
  simp only [List.mem_cons, List.not_mem_nil, or_false]
  omega)
theorem all13 {P : Nat → Prop} (h0 : P 0) (h1 : P 1) (h2 : P 2) (h3 : P 3) (h4 : P 4) (h5 : P 5) (h6 : P 6) (h7 : P 7) (h8 : P 8) (h9 : P 9) (h10 : P 10) (h11 : P 11) (h12 : P 12) : ∀ ci, ci < 13 → P ci := by
  intro ci hc
  match ci, hc with
  | 0, _ => exact h0
  | 1, _ => exact h1
  | 2, _ => exact h2
  | 3, _ => exact h3
  | 4, _ => exact h4
  | 5, _ => exact h5
  | 6, _ => exact h6
  | 7, _ => exact h7
  | 8, _ => exact h8
  | 9, _ => exact h9
  | 10, _ => exact h10
  | 11, _ => exact h11
  | 12, _ => exact h12
theorem vwCl_at : ∀ ci, ci < 13 → vwCl[ci]? = some (RC ci, TC ci, nfC ci) := all13 rfl rfl rfl rfl rfl rfl rfl rfl rfl rfl rfl rfl rfl
theorem tyC_ok : ∀ ci, ci < 13 → ∀ k, k < nfC ci → parseFieldDescriptor (TC ci k).2.2.1 = some (tyC ci k) := all13 tyX0_ok tyX1_ok tyX2_ok tyX3_ok tyX4_ok tyX5_ok tyX6_ok tyX7_ok tyX8_ok tyX9_ok tyX10_ok tyX11_ok tyX12_ok
theorem nmC : ∀ ci, ci < 13 → ∀ a, a < nfC ci → ∀ b, b < nfC ci → a ≠ b → (TC ci a).2.1 ≠ (TC ci b).2.1 := all13 nmX0 nmX1 nmX2 nmX3 nmX4 nmX5 nmX6 nmX7 nmX8 nmX9 nmX10 nmX11 nmX12
set_option maxRecDepth 100000 in
theorem inCX0 : ∀ w ∈ u_ws RX0 TX0 9, w ∈ TT := inT_of [495, 497, 499, 501, 503, 505, 507, 509, 511] (by decide +kernel) (by decide +kernel)
set_option maxRecDepth 100000 in
theorem inCX1 : ∀ w ∈ u_ws RX1 TX1 3, w ∈ TT := inT_of [526, 528, 530] (by decide +kernel) (by decide +kernel)
set_option maxRecDepth 100000 in
theorem inCX2 : ∀ w ∈ u_ws RX2 TX2 4, w ∈ TT := inT_of [473, 475, 477, 479] (by decide +kernel) (by decide +kernel)
set_option maxRecDepth 100000 in
theorem inCX3 : ∀ w ∈ u_ws RX3 TX3 2, w ∈ TT := inT_of [448, 450] (by decide +kernel) (by decide +kernel)
set_option maxRecDepth 100000 in
theorem inCX4 : ∀ w ∈ u_ws RX4 TX4 6, w ∈ TT := inT_of [153, 155, 157, 159, 161, 163] (by decide +kernel) (by decide +kernel)
set_option maxRecDepth 100000 in
theorem inCX5 : ∀ w ∈ u_ws RX5 TX5 14, w ∈ TT := inT_of [230, 232, 234, 236, 238, 240, 242, 244, 246, 248, 250, 252, 254, 256] (by decide +kernel) (by decide +kernel)
set_option maxRecDepth 100000 in
theorem inCX6 : ∀ w ∈ u_ws RX6 TX6 1, w ∈ TT := inT_of [437] (by decide +kernel) (by decide +kernel)
set_option maxRecDepth 100000 in
theorem inCX7 : ∀ w ∈ u_ws RX7 TX7 6, w ∈ TT := inT_of [297, 299, 301, 303, 305, 307] (by decide +kernel) (by decide +kernel)
set_option maxRecDepth 100000 in
theorem inCX8 : ∀ w ∈ u_ws RX8 TX8 8, w ∈ TT := inT_of [186, 188, 190, 192, 194, 196, 198, 200] (by decide +kernel) (by decide +kernel)
set_option maxRecDepth 100000 in
theorem inCX9 : ∀ w ∈ u_ws RX9 TX9 7, w ∈ TT := inT_of [357, 359, 361, 363, 365, 367, 369] (by decide +kernel) (by decide +kernel)
set_option maxRecDepth 100000 in
theorem inCX10 : ∀ w ∈ u_ws RX10 TX10 12, w ∈ TT := inT_of [405, 407, 409, 411, 413, 415, 417, 419, 421, 423, 425, 427] (by decide +kernel) (by decide +kernel)
set_option maxRecDepth 100000 in
theorem inCX11 : ∀ w ∈ u_ws RX11 TX11 18, w ∈ TT := inT_of [551, 553, 555, 557, 559, 561, 563, 565, 567, 569, 571, 573, 575, 577, 579, 581, 583, 585] (by decide +kernel) (by decide +kernel)
set_option maxRecDepth 100000 in
theorem inCX12 : ∀ w ∈ u_ws RX12 TX12 62, w ∈ TT := inT_of [1330, 1332, 1334, 1336, 1338, 1340, 1342, 1344, 1346, 1348, 1350, 1352, 1354, 1356, 1358, 1360, 1362, 1364, 1366, 1368, 1370, 1372, 1374, 1376, 1378, 1380, 1382, 1384, 1386, 1388, 1390, 1392, 1394, 1396, 1398, 1400, 1402, 1404, 1406, 1408, 1410, 1412, 1414, 1416, 1418, 1420, 1422, 1424, 1426, 1428, 1430, 1432, 1434, 1436, 1438, 1440, 1442, 1444, 1446, 1448, 1450, 1452] (by decide +kernel) (by decide +kernel)
theorem inC : ∀ ci, ci < 13 → ∀ w ∈ u_ws (RC ci) (TC ci) (nfC ci), w ∈ TT := all13 inCX0 inCX1 inCX2 inCX3 inCX4 inCX5 inCX6 inCX7 inCX8 inCX9 inCX10 inCX11 inCX12
