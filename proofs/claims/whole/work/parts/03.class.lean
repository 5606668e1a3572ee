/-- words that hold on, whatever has been loaded meanwhile -/
def am_stb : Cond → Bool
  | .arrayClass _ => true
  | .fieldLinkNest _ _ _ _ _ _ => true
  | .methodLinkNest _ _ _ _ => true
  | .arrayOver (.object _) => true
  | w => w.onTables && w.keeps
theorem am_inw {C : String} {T : u_T} {N : Nat} (ps : List Nat) (h : (List.range N).all (fun k => decide (lw_tbl[ps.getD k 0]? = some (u_lay C T k))) = true) : ∀ w ∈ u_ws C T N, w ∈ lw_tbl := by
  intro w hw
  obtain ⟨k, hk, rfl⟩ := List.mem_map.mp hw
  have h1 := List.all_eq_true.mp h k hk
  exact List.mem_of_getElem? (of_decide_eq_true h1)
abbrev am_cl : List vw_C := [(RX0, TX0, 6), (RX1, TX1, 4), (RX3, TX3, 3), (RX4, TX4, 1), (RX5, TX5, 7), (RX6, TX6, 8), (RX7, TX7, 2), (RX8, TX8, 2), (RX9, TX9, 7), (RX10, TX10, 15), (RX11, TX11, 47)]
def am_ft (k : Nat) : Nat → FieldType := match k with
  | 0 => tyX0
  | 1 => tyX1
  | 2 => tyX3
  | 3 => tyX4
  | 4 => tyX5
  | 5 => tyX6
  | 6 => tyX7
  | 7 => tyX8
  | 8 => tyX9
  | 9 => tyX10
  | _ => tyX11
set_option maxRecDepth 20000 in
theorem am_in0 : ∀ w ∈ u_ws RX0 TX0 6, w ∈ lw_tbl := am_inw [207, 209, 211, 213, 215, 217] (by decide +kernel)
set_option maxRecDepth 20000 in
theorem am_in1 : ∀ w ∈ u_ws RX1 TX1 4, w ∈ lw_tbl := am_inw [180, 182, 184, 186] (by decide +kernel)
set_option maxRecDepth 20000 in
theorem am_in3 : ∀ w ∈ u_ws RX3 TX3 3, w ∈ lw_tbl := am_inw [229, 231, 233] (by decide +kernel)
set_option maxRecDepth 20000 in
theorem am_in4 : ∀ w ∈ u_ws RX4 TX4 1, w ∈ lw_tbl := am_inw [172] (by decide +kernel)
set_option maxRecDepth 20000 in
theorem am_in5 : ∀ w ∈ u_ws RX5 TX5 7, w ∈ lw_tbl := am_inw [266, 268, 270, 272, 274, 276, 278] (by decide +kernel)
set_option maxRecDepth 20000 in
theorem am_in6 : ∀ w ∈ u_ws RX6 TX6 8, w ∈ lw_tbl := am_inw [734, 736, 738, 740, 742, 744, 746, 748] (by decide +kernel)
set_option maxRecDepth 20000 in
theorem am_in7 : ∀ w ∈ u_ws RX7 TX7 2, w ∈ lw_tbl := am_inw [106, 108] (by decide +kernel)
set_option maxRecDepth 20000 in
theorem am_in8 : ∀ w ∈ u_ws RX8 TX8 2, w ∈ lw_tbl := am_inw [292, 294] (by decide +kernel)
set_option maxRecDepth 20000 in
theorem am_in9 : ∀ w ∈ u_ws RX9 TX9 7, w ∈ lw_tbl := am_inw [140, 142, 144, 146, 148, 150, 152] (by decide +kernel)
set_option maxRecDepth 20000 in
theorem am_in10 : ∀ w ∈ u_ws RX10 TX10 15, w ∈ lw_tbl := am_inw [315, 317, 319, 321, 323, 325, 327, 329, 331, 333, 335, 337, 339, 341, 343] (by decide +kernel)
set_option maxRecDepth 20000 in
theorem am_in11 : ∀ w ∈ u_ws RX11 TX11 47, w ∈ lw_tbl := am_inw [1021, 1023, 1025, 1027, 1029, 1031, 1033, 1035, 1037, 1039, 1041, 1043, 1045, 1047, 1049, 1051, 1053, 1055, 1057, 1059, 1061, 1063, 1065, 1067, 1069, 1071, 1073, 1075, 1077, 1079, 1081, 1083, 1085, 1087, 1089, 1091, 1093, 1095, 1097, 1099, 1101, 1103, 1105, 1107, 1109, 1111, 1113] (by decide +kernel)
/-- what the tables say of a class that has objects -/
def am_CK (k : Nat) (r : vw_C) : Prop := am_cl[k]? = some r ∧ (∀ w ∈ u_ws r.1 r.2.1 r.2.2, w ∈ lw_tbl) ∧ (∀ f, f < r.2.2 → parseFieldDescriptor (r.2.1 f).2.2.1 = some (am_ft k f)) ∧ (∀ a, a < r.2.2 → ∀ b, b < r.2.2 → a ≠ b → (r.2.1 a).2.1 ≠ (r.2.1 b).2.1)
theorem am_ck0 : am_CK 0 (RX0, TX0, 6) := ⟨rfl, am_in0, tyX0_ok, nmX0⟩
theorem am_ck1 : am_CK 1 (RX1, TX1, 4) := ⟨rfl, am_in1, tyX1_ok, nmX1⟩
theorem am_ck2 : am_CK 2 (RX3, TX3, 3) := ⟨rfl, am_in3, tyX3_ok, nmX3⟩
theorem am_ck3 : am_CK 3 (RX4, TX4, 1) := ⟨rfl, am_in4, tyX4_ok, nmX4⟩
theorem am_ck4 : am_CK 4 (RX5, TX5, 7) := ⟨rfl, am_in5, tyX5_ok, nmX5⟩
theorem am_ck5 : am_CK 5 (RX6, TX6, 8) := ⟨rfl, am_in6, tyX6_ok, nmX6⟩
theorem am_ck6 : am_CK 6 (RX7, TX7, 2) := ⟨rfl, am_in7, tyX7_ok, nmX7⟩
theorem am_ck7 : am_CK 7 (RX8, TX8, 2) := ⟨rfl, am_in8, tyX8_ok, nmX8⟩
theorem am_ck8 : am_CK 8 (RX9, TX9, 7) := ⟨rfl, am_in9, tyX9_ok, nmX9⟩
theorem am_ck9 : am_CK 9 (RX10, TX10, 15) := ⟨rfl, am_in10, tyX10_ok, nmX10⟩
theorem am_ck10 : am_CK 10 (RX11, TX11, 47) := ⟨rfl, am_in11, tyX11_ok, nmX11⟩
theorem am_ckof {k : Nat} {r : vw_C} (h : am_cl[k]? = some r) : am_CK k r := by
  match k, h with
  | 0, h => cases h; exact am_ck0
  | 1, h => cases h; exact am_ck1
  | 2, h => cases h; exact am_ck2
  | 3, h => cases h; exact am_ck3
  | 4, h => cases h; exact am_ck4
  | 5, h => cases h; exact am_ck5
  | 6, h => cases h; exact am_ck6
  | 7, h => cases h; exact am_ck7
  | 8, h => cases h; exact am_ck8
  | 9, h => cases h; exact am_ck9
  | 10, h => cases h; exact am_ck10
  | k + 11, h => simp [am_cl] at h
