/-! ===== FACTS OF THE CLASSES (by program: wip/gen/mk05.py) ===== -/
/-- the words that go down into every call -/
def qTB : List Cond := lw_tbl.filter goodWord
theorem qTB_of {j : Nat} {w : Cond} (h : lw_tbl[j]? = some w) (g : goodWord w = true) : w ∈ qTB := List.mem_filter.mpr ⟨List.mem_of_getElem? h, g⟩
theorem qTB_in {ws : List Cond} (ps : List Nat) (hp : ws = ps.filterMap (fun i => lw_tbl[i]?)) (h : ws.all goodWord = true) : ∀ w ∈ ws, w ∈ qTB := by
  intro w hw
  have h1 := List.all_eq_true.mp h w hw
  rw [hp] at hw
  obtain ⟨i, -, hi⟩ := List.mem_filterMap.mp hw
  exact qTB_of hi h1
set_option maxRecDepth 20000 in
theorem ql_0 : ∀ w ∈ u_ws RX0 TX0 2, w ∈ qTB := qTB_in [397, 399] (by decide +kernel) (by decide +kernel)
set_option maxRecDepth 20000 in
theorem ql_1 : ∀ w ∈ u_ws RX1 TX1 2, w ∈ qTB := qTB_in [299, 301] (by decide +kernel) (by decide +kernel)
set_option maxRecDepth 20000 in
theorem ql_2 : ∀ w ∈ u_ws RX2 TX2 11, w ∈ qTB := qTB_in [180, 182, 184, 186, 188, 190, 192, 194, 196, 198, 200] (by decide +kernel) (by decide +kernel)
set_option maxRecDepth 20000 in
theorem ql_3 : ∀ w ∈ u_ws RX3 TX3 6, w ∈ qTB := qTB_in [340, 342, 344, 346, 348, 350] (by decide +kernel) (by decide +kernel)
set_option maxRecDepth 20000 in
theorem ql_4 : ∀ w ∈ u_ws RX4 TX4 12, w ∈ qTB := qTB_in [246, 248, 250, 252, 254, 256, 258, 260, 262, 264, 266, 268] (by decide +kernel) (by decide +kernel)
set_option maxRecDepth 20000 in
theorem ql_5 : ∀ w ∈ u_ws RX5 TX5 3, w ∈ qTB := qTB_in [283, 285, 287] (by decide +kernel) (by decide +kernel)
set_option maxRecDepth 20000 in
theorem ql_6 : ∀ w ∈ u_ws RX6 TX6 8, w ∈ qTB := qTB_in [371, 373, 375, 377, 379, 381, 383, 385] (by decide +kernel) (by decide +kernel)
set_option maxRecDepth 20000 in
theorem ql_7 : ∀ w ∈ u_ws RX7 TX7 5, w ∈ qTB := qTB_in [217, 219, 221, 223, 225] (by decide +kernel) (by decide +kernel)
set_option maxRecDepth 20000 in
theorem ql_8 : ∀ w ∈ u_ws RX8 TX8 10, w ∈ qTB := qTB_in [608, 610, 612, 614, 616, 618, 620, 622, 624, 626] (by decide +kernel) (by decide +kernel)
set_option maxRecDepth 20000 in
theorem ql_9 : ∀ w ∈ u_ws RX9 TX9 5, w ∈ qTB := qTB_in [317, 319, 321, 323, 325] (by decide +kernel) (by decide +kernel)
set_option maxRecDepth 20000 in
theorem ql_10 : ∀ w ∈ u_ws RX10 TX10 13, w ∈ qTB := qTB_in [415, 417, 419, 421, 423, 425, 427, 429, 431, 433, 435, 437, 439] (by decide +kernel) (by decide +kernel)
set_option maxRecDepth 20000 in
theorem ql_11 : ∀ w ∈ u_ws RX11 TX11 63, w ∈ qTB := qTB_in [1418, 1420, 1422, 1424, 1426, 1428, 1430, 1432, 1434, 1436, 1438, 1440, 1442, 1444, 1446, 1448, 1450, 1452, 1454, 1456, 1458, 1460, 1462, 1464, 1466, 1468, 1470, 1472, 1474, 1476, 1478, 1480, 1482, 1484, 1486, 1488, 1490, 1492, 1494, 1496, 1498, 1500, 1502, 1504, 1506, 1508, 1510, 1512, 1514, 1516, 1518, 1520, 1522, 1524, 1526, 1528, 1530, 1532, 1534, 1536, 1538, 1540, 1542] (by decide +kernel) (by decide +kernel)
def qty (ci : Nat) : Nat → FieldType := match ci with
  | 0 => tyX0
  | 1 => tyX1
  | 2 => tyX2
  | 3 => tyX3
  | 4 => tyX4
  | 5 => tyX5
  | 6 => tyX6
  | 7 => tyX7
  | 8 => tyX8
  | 9 => tyX9
  | 10 => tyX10
  | _ => tyX11
theorem qdf_0 : ∀ j, j < 2 → defaultValue (tyX0 j) = qdef 0 j := by decide +kernel
theorem qdf_1 : ∀ j, j < 2 → defaultValue (tyX1 j) = qdef 1 j := by decide +kernel
theorem qdf_2 : ∀ j, j < 11 → defaultValue (tyX2 j) = qdef 2 j := by decide +kernel
theorem qdf_3 : ∀ j, j < 6 → defaultValue (tyX3 j) = qdef 3 j := by decide +kernel
theorem qdf_4 : ∀ j, j < 12 → defaultValue (tyX4 j) = qdef 4 j := by decide +kernel
theorem qdf_5 : ∀ j, j < 3 → defaultValue (tyX5 j) = qdef 5 j := by decide +kernel
theorem qdf_6 : ∀ j, j < 8 → defaultValue (tyX6 j) = qdef 6 j := by decide +kernel
theorem qdf_7 : ∀ j, j < 5 → defaultValue (tyX7 j) = qdef 7 j := by decide +kernel
theorem qdf_8 : ∀ j, j < 10 → defaultValue (tyX8 j) = qdef 8 j := by decide +kernel
theorem qdf_9 : ∀ j, j < 5 → defaultValue (tyX9 j) = qdef 9 j := by decide +kernel
theorem qdf_10 : ∀ j, j < 13 → defaultValue (tyX10 j) = qdef 10 j := by decide +kernel
theorem qdf_11 : ∀ j, j < 63 → defaultValue (tyX11 j) = qdef 11 j := by decide +kernel
def qCl (ci : Nat) (q : vw_C) : Prop := q.2.2 = qnF ci ∧ (∀ w ∈ u_ws q.1 q.2.1 q.2.2, w ∈ qTB) ∧ (∀ k, k < q.2.2 → parseFieldDescriptor (q.2.1 k).2.2.1 = some (qty ci k)) ∧ (∀ a, a < q.2.2 → ∀ b, b < q.2.2 → a ≠ b → (q.2.1 a).2.1 ≠ (q.2.1 b).2.1) ∧ (∀ j, j < q.2.2 → defaultValue (qty ci j) = qdef ci j)
theorem q_cls : ∀ (ci : Nat) (q : vw_C), vwCl[ci]? = some q → qCl ci q
  | 0, q, h => by cases h; exact ⟨rfl, ql_0, tyX0_ok, nmX0, qdf_0⟩
  | 1, q, h => by cases h; exact ⟨rfl, ql_1, tyX1_ok, nmX1, qdf_1⟩
  | 2, q, h => by cases h; exact ⟨rfl, ql_2, tyX2_ok, nmX2, qdf_2⟩
  | 3, q, h => by cases h; exact ⟨rfl, ql_3, tyX3_ok, nmX3, qdf_3⟩
  | 4, q, h => by cases h; exact ⟨rfl, ql_4, tyX4_ok, nmX4, qdf_4⟩
  | 5, q, h => by cases h; exact ⟨rfl, ql_5, tyX5_ok, nmX5, qdf_5⟩
  | 6, q, h => by cases h; exact ⟨rfl, ql_6, tyX6_ok, nmX6, qdf_6⟩
  | 7, q, h => by cases h; exact ⟨rfl, ql_7, tyX7_ok, nmX7, qdf_7⟩
  | 8, q, h => by cases h; exact ⟨rfl, ql_8, tyX8_ok, nmX8, qdf_8⟩
  | 9, q, h => by cases h; exact ⟨rfl, ql_9, tyX9_ok, nmX9, qdf_9⟩
  | 10, q, h => by cases h; exact ⟨rfl, ql_10, tyX10_ok, nmX10, qdf_10⟩
  | 11, q, h => by cases h; exact ⟨rfl, ql_11, tyX11_ok, nmX11, qdf_11⟩
  | n + 12, q, h => by simp [vwCl] at h
/-- links to private members of nest mates: they go along by themselves -/
def qNest : List Cond := [.methodLinkNest "BodyCorners" 21 ⟨"BodyCorners$Hull", "<init>", "()V"⟩ "BodyCorners", .methodLinkNest "BodyCorners" 28 ⟨"BodyCorners$Section", "<init>", "()V"⟩ "BodyCorners", .methodLinkNest "BodyCorners" 35 ⟨"BodyCorners$Matcher", "<init>", "()V"⟩ "BodyCorners", .methodLinkNest "BodyCorners" 42 ⟨"BodyCorners$Plan", "<init>", "()V"⟩ "BodyCorners", .methodLinkNest "BodyCorners" 49 ⟨"BodyCorners$FacetRow", "<init>", "()V"⟩ "BodyCorners", .methodLinkNest "BodyCorners" 56 ⟨"BodyCorners$Walker", "<init>", "()V"⟩ "BodyCorners", .methodLinkNest "BodyCorners" 63 ⟨"BodyCorners$Lattice", "<init>", "()V"⟩ "BodyCorners", .methodLinkNest "BodyCorners" 70 ⟨"BodyCorners$Script", "<init>", "()V"⟩ "BodyCorners", .methodLinkNest "BodyCorners" 77 ⟨"BodyCorners$Claims", "<init>", "()V"⟩ "BodyCorners", .methodLinkNest "BodyCorners$Hull" 98 ⟨"BodyCorners", "leastOf", "(I)I"⟩ "BodyCorners", .methodLinkNest "BodyCorners$Solid" 39 ⟨"BodyCorners", "leastOf", "(I)I"⟩ "BodyCorners", .methodLinkNest "BodyCorners$Section" 48 ⟨"BodyCorners", "leastOf", "(I)I"⟩ "BodyCorners", .methodLinkNest "BodyCorners$Matcher" 93 ⟨"BodyCorners", "leastOf", "(I)I"⟩ "BodyCorners", .methodLinkNest "BodyCorners$Solid" 59 ⟨"BodyCorners", "signOf", "(I)I"⟩ "BodyCorners", .methodLinkNest "BodyCorners$Plan" 44 ⟨"BodyCorners", "signOf", "(I)I"⟩ "BodyCorners", .methodLinkNest "BodyCorners$Walker" 28 ⟨"BodyCorners", "leastOf", "(I)I"⟩ "BodyCorners"]
def qNp : List Nat := [164, 207, 230, 273, 292, 306, 330, 355, 390, 488, 580, 680, 823, 906, 984, 1040]
set_option maxRecDepth 20000 in
theorem qNest_in : qNest = qNp.filterMap (fun i => lw_tbl[i]?) := by decide +kernel
theorem qNest_form : ∀ w ∈ qNest, ∃ a i x h, w = Cond.methodLinkNest a i x h := by
  intro w hw
  simp only [qNest, List.mem_cons, List.not_mem_nil, or_false] at hw
  rcases hw with rfl | rfl | rfl | rfl | rfl | rfl | rfl | rfl | rfl | rfl | rfl | rfl | rfl | rfl | rfl | rfl <;> exact ⟨_, _, _, _, rfl⟩
