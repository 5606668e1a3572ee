/-! the state behind the constructors -/
abbrev am_F0 (g : am_G) : am_M := am_first (am_M0 g)
set_option maxRecDepth 1000000 in
theorem first_z9 (g : am_G) : am_mu (am_F0 g) 9 = fun _ => 0 := rfl
set_option maxRecDepth 1000000 in
theorem first_z10 (g : am_G) : am_mu (am_F0 g) 10 = fun _ => 0 := rfl
set_option maxRecDepth 1000000 in
theorem first_z11 (g : am_G) : am_mu (am_F0 g) 11 = fun _ => 0 := rfl
set_option maxRecDepth 1000000 in
theorem first_z12 (g : am_G) : am_mu (am_F0 g) 12 = fun _ => 0 := rfl
set_option maxRecDepth 1000000 in
theorem first_z13 (g : am_G) : am_mu (am_F0 g) 13 = fun _ => 0 := rfl
set_option maxRecDepth 1000000 in
theorem first_z29 (g : am_G) : am_mu (am_F0 g) 29 = fun _ => 0 := rfl
set_option maxRecDepth 1000000 in
theorem first_z31 (g : am_G) : am_mu (am_F0 g) 31 = fun _ => 0 := rfl
set_option maxRecDepth 1000000 in
theorem first_z32 (g : am_G) : am_mu (am_F0 g) 32 = fun _ => 0 := rfl
set_option maxRecDepth 1000000 in
theorem first_z36 (g : am_G) : am_mu (am_F0 g) 36 = fun _ => 0 := rfl
set_option maxRecDepth 1000000 in
theorem first_z37 (g : am_G) : am_mu (am_F0 g) 37 = fun _ => 0 := rfl
set_option maxRecDepth 1000000 in
theorem first_z41 (g : am_G) : am_mu (am_F0 g) 41 = fun _ => 0 := rfl
set_option maxRecDepth 1000000 in
theorem first_z43 (g : am_G) : am_mu (am_F0 g) 43 = fun _ => 0 := rfl
set_option maxRecDepth 1000000 in
theorem first_z45 (g : am_G) : am_mu (am_F0 g) 45 = fun _ => 0 := rfl
set_option maxRecDepth 1000000 in
theorem first_z47 (g : am_G) : am_mu (am_F0 g) 47 = fun _ => 0 := rfl
set_option maxRecDepth 1000000 in
theorem first_z49 (g : am_G) : am_mu (am_F0 g) 49 = fun _ => 0 := rfl
set_option maxRecDepth 1000000 in
theorem first_z51 (g : am_G) : am_mu (am_F0 g) 51 = fun _ => 0 := rfl
set_option maxRecDepth 1000000 in
theorem first_z53 (g : am_G) : am_mu (am_F0 g) 53 = fun _ => 0 := rfl
set_option maxRecDepth 1000000 in
theorem first_z55 (g : am_G) : am_mu (am_F0 g) 55 = fun _ => 0 := rfl
set_option maxRecDepth 1000000 in
theorem first_z57 (g : am_G) : am_mu (am_F0 g) 57 = fun _ => 0 := rfl
set_option maxRecDepth 1000000 in
theorem first_z59 (g : am_G) : am_mu (am_F0 g) 59 = fun _ => 0 := rfl
set_option maxRecDepth 1000000 in
theorem first_z61 (g : am_G) : am_mu (am_F0 g) 61 = fun _ => 0 := rfl
set_option maxRecDepth 1000000 in
theorem first_z63 (g : am_G) : am_mu (am_F0 g) 63 = fun _ => 0 := rfl
set_option maxRecDepth 1000000 in
theorem first_z66 (g : am_G) : am_mu (am_F0 g) 66 = fun _ => 0 := rfl
set_option maxRecDepth 1000000 in
theorem first_z67 (g : am_G) : am_mu (am_F0 g) 67 = fun _ => 0 := rfl
set_option maxRecDepth 1000000 in
theorem first_z68 (g : am_G) : am_mu (am_F0 g) 68 = fun _ => 0 := rfl
set_option maxRecDepth 1000000 in
theorem first_z75 (g : am_G) : am_mu (am_F0 g) 75 = fun _ => 0 := rfl
set_option maxRecDepth 1000000 in
theorem first_z77 (g : am_G) : am_mu (am_F0 g) 77 = fun _ => 0 := rfl
set_option maxRecDepth 1000000 in
theorem first_sh (g : am_G) : ∀ i k n, am_lsh[i]? = some (some (k, n)) → am_sh (am_F0 g) i = (k, n) := by
  intro i k n h
  match i, h with
  | 0, h => cases h
  | 1, h => cases h
  | 2, h => cases h
  | 3, h => cases h; rfl
  | 4, h => cases h; rfl
  | 5, h => cases h; rfl
  | 6, h => cases h; rfl
  | 7, h => cases h; rfl
  | 8, h => cases h; rfl
  | 9, h => cases h; rfl
  | 10, h => cases h; rfl
  | 11, h => cases h; rfl
  | 12, h => cases h; rfl
  | 13, h => cases h; rfl
  | 14, h => cases h; rfl
  | 15, h => cases h; rfl
  | 16, h => cases h; rfl
  | 17, h => cases h; rfl
  | 18, h => cases h; rfl
  | 19, h => cases h; rfl
  | 20, h => cases h; rfl
  | 21, h => cases h; rfl
  | 22, h => cases h; rfl
  | 23, h => cases h; rfl
  | 24, h => cases h; rfl
  | 25, h => cases h; rfl
  | 26, h => cases h; rfl
  | 27, h => cases h; rfl
  | 28, h => cases h; rfl
  | 29, h => cases h; rfl
  | 30, h => cases h; rfl
  | 31, h => cases h; rfl
  | 32, h => cases h; rfl
  | 33, h => cases h; rfl
  | 34, h => cases h; rfl
  | 35, h => cases h; rfl
  | 36, h => cases h; rfl
  | 37, h => cases h; rfl
  | 38, h => cases h; rfl
  | 39, h => cases h; rfl
  | 40, h => cases h; rfl
  | 41, h => cases h; rfl
  | 42, h => cases h; rfl
  | 43, h => cases h; rfl
  | 44, h => cases h; rfl
  | 45, h => cases h; rfl
  | 46, h => cases h; rfl
  | 47, h => cases h; rfl
  | 48, h => cases h; rfl
  | 49, h => cases h; rfl
  | 50, h => cases h; rfl
  | 51, h => cases h; rfl
  | 52, h => cases h; rfl
  | 53, h => cases h; rfl
  | 54, h => cases h; rfl
  | 55, h => cases h; rfl
  | 56, h => cases h; rfl
  | 57, h => cases h; rfl
  | 58, h => cases h; rfl
  | 59, h => cases h; rfl
  | 60, h => cases h; rfl
  | 61, h => cases h; rfl
  | 62, h => cases h; rfl
  | 63, h => cases h; rfl
  | 64, h => cases h; rfl
  | 65, h => cases h; rfl
  | 66, h => cases h; rfl
  | 67, h => cases h; rfl
  | 68, h => cases h; rfl
  | 69, h => cases h; rfl
  | 70, h => cases h; rfl
  | 71, h => cases h; rfl
  | 72, h => cases h; rfl
  | 73, h => cases h; rfl
  | 74, h => cases h; rfl
  | 75, h => cases h; rfl
  | 76, h => cases h; rfl
  | 77, h => cases h; rfl
  | 78, h => cases h; rfl
  | 79, h => cases h; rfl
  | 80, h => cases h; rfl
  | 81, h => cases h; rfl
  | 82, h => cases h; rfl
  | 83, h => cases h; rfl
  | 84, h => cases h; rfl
  | 85, h => cases h; rfl
  | 86, h => cases h; rfl
  | 87, h => cases h; rfl
  | 88, h => cases h; rfl
  | 89, h => cases h; rfl
  | 90, h => cases h; rfl
  | i + 91, h => simp [am_lsh] at h
set_option maxRecDepth 1000000 in
theorem first_ro4 (g : am_G) : ∀ f r, (([5, 6, 7, 8, 14, 18, 20, 21, 26, 29, 0, 0, 0, 0, 0] : List Nat)).getD f 0 = r + 1 → am_ro (am_F0 g) 4 f = r + 1 := by
  intro f r h
  match f, h with
  | 0, h => cases h; rfl
  | 1, h => cases h; rfl
  | 2, h => cases h; rfl
  | 3, h => cases h; rfl
  | 4, h => cases h; rfl
  | 5, h => cases h; rfl
  | 6, h => cases h; rfl
  | 7, h => cases h; rfl
  | 8, h => cases h; rfl
  | 9, h => cases h; rfl
  | 10, h => cases h
  | 11, h => cases h
  | 12, h => cases h
  | 13, h => cases h
  | 14, h => cases h
  | f + 15, h => simp at h
set_option maxRecDepth 1000000 in
theorem first_ro7 (g : am_G) : ∀ f r, (([0, 0] : List Nat)).getD f 0 = r + 1 → am_ro (am_F0 g) 7 f = r + 1 := by
  intro f r h
  match f, h with
  | 0, h => cases h
  | 1, h => cases h
  | f + 2, h => simp at h
set_option maxRecDepth 1000000 in
theorem first_ro8 (g : am_G) : ∀ f r, (([9, 10, 11, 12, 13, 0, 0] : List Nat)).getD f 0 = r + 1 → am_ro (am_F0 g) 8 f = r + 1 := by
  intro f r h
  match f, h with
  | 0, h => cases h; rfl
  | 1, h => cases h; rfl
  | 2, h => cases h; rfl
  | 3, h => cases h; rfl
  | 4, h => cases h; rfl
  | 5, h => cases h
  | 6, h => cases h
  | f + 7, h => simp at h
set_option maxRecDepth 1000000 in
theorem first_ro14 (g : am_G) : ∀ f r, (([15, 17, 0, 0] : List Nat)).getD f 0 = r + 1 → am_ro (am_F0 g) 14 f = r + 1 := by
  intro f r h
  match f, h with
  | 0, h => cases h; rfl
  | 1, h => cases h; rfl
  | 2, h => cases h
  | 3, h => cases h
  | f + 4, h => simp at h
set_option maxRecDepth 1000000 in
theorem first_ro15 (g : am_G) : ∀ f r, (([16] : List Nat)).getD f 0 = r + 1 → am_ro (am_F0 g) 15 f = r + 1 := by
  intro f r h
  match f, h with
  | 0, h => cases h; rfl
  | f + 1, h => simp at h
set_option maxRecDepth 1000000 in
theorem first_ro18 (g : am_G) : ∀ f r, (([19] : List Nat)).getD f 0 = r + 1 → am_ro (am_F0 g) 18 f = r + 1 := by
  intro f r h
  match f, h with
  | 0, h => cases h; rfl
  | f + 1, h => simp at h
set_option maxRecDepth 1000000 in
theorem first_ro21 (g : am_G) : ∀ f r, (([22, 23, 24, 25, 0, 0] : List Nat)).getD f 0 = r + 1 → am_ro (am_F0 g) 21 f = r + 1 := by
  intro f r h
  match f, h with
  | 0, h => cases h; rfl
  | 1, h => cases h; rfl
  | 2, h => cases h; rfl
  | 3, h => cases h; rfl
  | 4, h => cases h
  | 5, h => cases h
  | f + 6, h => simp at h
set_option maxRecDepth 1000000 in
theorem first_ro26 (g : am_G) : ∀ f r, (([27, 28, 0] : List Nat)).getD f 0 = r + 1 → am_ro (am_F0 g) 26 f = r + 1 := by
  intro f r h
  match f, h with
  | 0, h => cases h; rfl
  | 1, h => cases h; rfl
  | 2, h => cases h
  | f + 3, h => simp at h
set_option maxRecDepth 1000000 in
theorem first_ro30 (g : am_G) : ∀ f r, (([0, 0, 0, 31, 32, 33, 34] : List Nat)).getD f 0 = r + 1 → am_ro (am_F0 g) 30 f = r + 1 := by
  intro f r h
  match f, h with
  | 0, h => cases h
  | 1, h => cases h
  | 2, h => cases h
  | 3, h => cases h; rfl
  | 4, h => cases h; rfl
  | 5, h => cases h; rfl
  | 6, h => cases h; rfl
  | f + 7, h => simp at h
set_option maxRecDepth 1000000 in
theorem first_ro35 (g : am_G) : ∀ f r, (([0, 0, 0, 36, 37, 38, 39] : List Nat)).getD f 0 = r + 1 → am_ro (am_F0 g) 35 f = r + 1 := by
  intro f r h
  match f, h with
  | 0, h => cases h
  | 1, h => cases h
  | 2, h => cases h
  | 3, h => cases h; rfl
  | 4, h => cases h; rfl
  | 5, h => cases h; rfl
  | 6, h => cases h; rfl
  | f + 7, h => simp at h
set_option maxRecDepth 1000000 in
theorem first_ro40 (g : am_G) : ∀ f r, (([41, 0] : List Nat)).getD f 0 = r + 1 → am_ro (am_F0 g) 40 f = r + 1 := by
  intro f r h
  match f, h with
  | 0, h => cases h; rfl
  | 1, h => cases h
  | f + 2, h => simp at h
set_option maxRecDepth 1000000 in
theorem first_ro42 (g : am_G) : ∀ f r, (([43, 0] : List Nat)).getD f 0 = r + 1 → am_ro (am_F0 g) 42 f = r + 1 := by
  intro f r h
  match f, h with
  | 0, h => cases h; rfl
  | 1, h => cases h
  | f + 2, h => simp at h
set_option maxRecDepth 1000000 in
theorem first_ro44 (g : am_G) : ∀ f r, (([45, 0] : List Nat)).getD f 0 = r + 1 → am_ro (am_F0 g) 44 f = r + 1 := by
  intro f r h
  match f, h with
  | 0, h => cases h; rfl
  | 1, h => cases h
  | f + 2, h => simp at h
set_option maxRecDepth 1000000 in
theorem first_ro46 (g : am_G) : ∀ f r, (([47, 0] : List Nat)).getD f 0 = r + 1 → am_ro (am_F0 g) 46 f = r + 1 := by
  intro f r h
  match f, h with
  | 0, h => cases h; rfl
  | 1, h => cases h
  | f + 2, h => simp at h
set_option maxRecDepth 1000000 in
theorem first_ro48 (g : am_G) : ∀ f r, (([49, 0] : List Nat)).getD f 0 = r + 1 → am_ro (am_F0 g) 48 f = r + 1 := by
  intro f r h
  match f, h with
  | 0, h => cases h; rfl
  | 1, h => cases h
  | f + 2, h => simp at h
set_option maxRecDepth 1000000 in
theorem first_ro50 (g : am_G) : ∀ f r, (([51, 0] : List Nat)).getD f 0 = r + 1 → am_ro (am_F0 g) 50 f = r + 1 := by
  intro f r h
  match f, h with
  | 0, h => cases h; rfl
  | 1, h => cases h
  | f + 2, h => simp at h
set_option maxRecDepth 1000000 in
theorem first_ro52 (g : am_G) : ∀ f r, (([53, 0] : List Nat)).getD f 0 = r + 1 → am_ro (am_F0 g) 52 f = r + 1 := by
  intro f r h
  match f, h with
  | 0, h => cases h; rfl
  | 1, h => cases h
  | f + 2, h => simp at h
set_option maxRecDepth 1000000 in
theorem first_ro54 (g : am_G) : ∀ f r, (([55, 0] : List Nat)).getD f 0 = r + 1 → am_ro (am_F0 g) 54 f = r + 1 := by
  intro f r h
  match f, h with
  | 0, h => cases h; rfl
  | 1, h => cases h
  | f + 2, h => simp at h
set_option maxRecDepth 1000000 in
theorem first_ro56 (g : am_G) : ∀ f r, (([57, 0] : List Nat)).getD f 0 = r + 1 → am_ro (am_F0 g) 56 f = r + 1 := by
  intro f r h
  match f, h with
  | 0, h => cases h; rfl
  | 1, h => cases h
  | f + 2, h => simp at h
set_option maxRecDepth 1000000 in
theorem first_ro58 (g : am_G) : ∀ f r, (([59, 0] : List Nat)).getD f 0 = r + 1 → am_ro (am_F0 g) 58 f = r + 1 := by
  intro f r h
  match f, h with
  | 0, h => cases h; rfl
  | 1, h => cases h
  | f + 2, h => simp at h
set_option maxRecDepth 1000000 in
theorem first_ro60 (g : am_G) : ∀ f r, (([0, 61, 0, 62, 63, 64, 65, 66, 0, 0, 67, 68, 0, 69, 70, 0, 0, 0, 0, 0, 0, 71, 72, 73, 74, 75, 0, 76, 77, 78, 79, 0, 0, 80, 81, 82, 83, 84, 85, 0, 0, 86, 87, 88, 89, 90, 0] : List Nat)).getD f 0 = r + 1 → am_ro (am_F0 g) 60 f = r + 1 := by
  intro f r h
  match f, h with
  | 0, h => cases h
  | 1, h => cases h; rfl
  | 2, h => cases h
  | 3, h => cases h; rfl
  | 4, h => cases h; rfl
  | 5, h => cases h; rfl
  | 6, h => cases h; rfl
  | 7, h => cases h; rfl
  | 8, h => cases h
  | 9, h => cases h
  | 10, h => cases h; rfl
  | 11, h => cases h; rfl
  | 12, h => cases h
  | 13, h => cases h; rfl
  | 14, h => cases h; rfl
  | 15, h => cases h
  | 16, h => cases h
  | 17, h => cases h
  | 18, h => cases h
  | 19, h => cases h
  | 20, h => cases h
  | 21, h => cases h; rfl
  | 22, h => cases h; rfl
  | 23, h => cases h; rfl
  | 24, h => cases h; rfl
  | 25, h => cases h; rfl
  | 26, h => cases h
  | 27, h => cases h; rfl
  | 28, h => cases h; rfl
  | 29, h => cases h; rfl
  | 30, h => cases h; rfl
  | 31, h => cases h
  | 32, h => cases h
  | 33, h => cases h; rfl
  | 34, h => cases h; rfl
  | 35, h => cases h; rfl
  | 36, h => cases h; rfl
  | 37, h => cases h; rfl
  | 38, h => cases h; rfl
  | 39, h => cases h
  | 40, h => cases h
  | 41, h => cases h; rfl
  | 42, h => cases h; rfl
  | 43, h => cases h; rfl
  | 44, h => cases h; rfl
  | 45, h => cases h; rfl
  | 46, h => cases h
  | f + 47, h => simp at h
set_option maxRecDepth 1000000 in
theorem first_ro (g : am_G) : ∀ i f r, (am_lro.getD i []).getD f 0 = r + 1 → am_ro (am_F0 g) i f = r + 1 := by
  intro i f r h
  match i, h with
  | 0, h => simp [am_lro] at h
  | 1, h => simp [am_lro] at h
  | 2, h => simp [am_lro] at h
  | 3, h => simp [am_lro] at h
  | 4, h => exact first_ro4 g f r h
  | 5, h => simp [am_lro] at h
  | 6, h => simp [am_lro] at h
  | 7, h => exact first_ro7 g f r h
  | 8, h => exact first_ro8 g f r h
  | 9, h => simp [am_lro] at h
  | 10, h => simp [am_lro] at h
  | 11, h => simp [am_lro] at h
  | 12, h => simp [am_lro] at h
  | 13, h => simp [am_lro] at h
  | 14, h => exact first_ro14 g f r h
  | 15, h => exact first_ro15 g f r h
  | 16, h => simp [am_lro] at h
  | 17, h => simp [am_lro] at h
  | 18, h => exact first_ro18 g f r h
  | 19, h => simp [am_lro] at h
  | 20, h => simp [am_lro] at h
  | 21, h => exact first_ro21 g f r h
  | 22, h => simp [am_lro] at h
  | 23, h => simp [am_lro] at h
  | 24, h => simp [am_lro] at h
  | 25, h => simp [am_lro] at h
  | 26, h => exact first_ro26 g f r h
  | 27, h => simp [am_lro] at h
  | 28, h => simp [am_lro] at h
  | 29, h => simp [am_lro] at h
  | 30, h => exact first_ro30 g f r h
  | 31, h => simp [am_lro] at h
  | 32, h => simp [am_lro] at h
  | 33, h => simp [am_lro] at h
  | 34, h => simp [am_lro] at h
  | 35, h => exact first_ro35 g f r h
  | 36, h => simp [am_lro] at h
  | 37, h => simp [am_lro] at h
  | 38, h => simp [am_lro] at h
  | 39, h => simp [am_lro] at h
  | 40, h => exact first_ro40 g f r h
  | 41, h => simp [am_lro] at h
  | 42, h => exact first_ro42 g f r h
  | 43, h => simp [am_lro] at h
  | 44, h => exact first_ro44 g f r h
  | 45, h => simp [am_lro] at h
  | 46, h => exact first_ro46 g f r h
  | 47, h => simp [am_lro] at h
  | 48, h => exact first_ro48 g f r h
  | 49, h => simp [am_lro] at h
  | 50, h => exact first_ro50 g f r h
  | 51, h => simp [am_lro] at h
  | 52, h => exact first_ro52 g f r h
  | 53, h => simp [am_lro] at h
  | 54, h => exact first_ro54 g f r h
  | 55, h => simp [am_lro] at h
  | 56, h => exact first_ro56 g f r h
  | 57, h => simp [am_lro] at h
  | 58, h => exact first_ro58 g f r h
  | 59, h => simp [am_lro] at h
  | 60, h => exact first_ro60 g f r h
  | 61, h => simp [am_lro] at h
  | 62, h => simp [am_lro] at h
  | 63, h => simp [am_lro] at h
  | 64, h => simp [am_lro] at h
  | 65, h => simp [am_lro] at h
  | 66, h => simp [am_lro] at h
  | 67, h => simp [am_lro] at h
  | 68, h => simp [am_lro] at h
  | 69, h => simp [am_lro] at h
  | 70, h => simp [am_lro] at h
  | 71, h => simp [am_lro] at h
  | 72, h => simp [am_lro] at h
  | 73, h => simp [am_lro] at h
  | 74, h => simp [am_lro] at h
  | 75, h => simp [am_lro] at h
  | 76, h => simp [am_lro] at h
  | 77, h => simp [am_lro] at h
  | 78, h => simp [am_lro] at h
  | 79, h => simp [am_lro] at h
  | 80, h => simp [am_lro] at h
  | 81, h => simp [am_lro] at h
  | 82, h => simp [am_lro] at h
  | 83, h => simp [am_lro] at h
  | 84, h => simp [am_lro] at h
  | 85, h => simp [am_lro] at h
  | 86, h => simp [am_lro] at h
  | 87, h => simp [am_lro] at h
  | 88, h => simp [am_lro] at h
  | 89, h => simp [am_lro] at h
  | 90, h => simp [am_lro] at h
  | i + 91, h => simp [am_lro] at h
set_option maxRecDepth 1000000 in
theorem first_lay (g : am_G) : am_LayD (am_F0 g) 30 35 := by
  refine ⟨⟨first_sh g, first_ro g, rfl, Or.inl rfl, fun j hj => ?_, fun j hj => ?_⟩, rfl, rfl⟩
  · rcases (show j = 0 ∨ j = 1 ∨ j = 2 ∨ j = 3 ∨ j = 4 ∨ j = 5 by omega) with rfl | rfl | rfl | rfl | rfl | rfl <;> rfl
  · rcases (show j = 0 ∨ j = 1 ∨ j = 2 ∨ j = 3 by omega) with rfl | rfl | rfl | rfl <;> rfl
theorem am_le0 {m : Nat} : am_le 0 m := ⟨0, Nat.zero_le m, rfl⟩
set_option maxRecDepth 1000000 in
theorem first_inv (g : am_G) : am_Inv 30 (am_mu (am_F0 g)) := by
  have hvs : i_vs (am_mu (am_F0 g)) (am_mu (am_F0 g) 75) := by
    rw [first_z75]
    exact ⟨fun k hk => ⟨am_le0, fun h => absurd h (show ¬ nI k < 0 from nI_pos (by omega)), am_le0, am_le0⟩, am_le0⟩
  refine ⟨⟨rfl, rfl, fun i hi => by rw [first_z29, first_z61], fun k => by rw [first_z66]; exact (by decide : ¬ (0 : Int32) = 1000)⟩, fun r hr => ?_, fun r hr => ?_, ?_, ⟨fun k hk => ?_, fun p hp => ?_, ?_, ?_, hvs⟩, ?_, fun k hk => Or.inl ?_, ⟨0, by omega, rfl, rfl, fun b hb => absurd hb (by omega)⟩⟩
  · rcases (show r = 0 ∨ r = 1 ∨ r = 2 ∨ r = 3 ∨ r = 4 ∨ r = 5 by omega) with rfl | rfl | rfl | rfl | rfl | rfl
    · exact ⟨rfl, Or.inl rfl, fun i hi => by show am_mu (am_F0 g) 41 i = am_mu (am_F0 g) 63 _; rw [first_z41, first_z63]⟩
    · exact ⟨rfl, Or.inl rfl, fun i hi => by show am_mu (am_F0 g) 43 i = am_mu (am_F0 g) 63 _; rw [first_z43, first_z63]⟩
    · exact ⟨rfl, Or.inl rfl, fun i hi => by show am_mu (am_F0 g) 45 i = am_mu (am_F0 g) 63 _; rw [first_z45, first_z63]⟩
    · exact ⟨rfl, Or.inl rfl, fun i hi => by show am_mu (am_F0 g) 47 i = am_mu (am_F0 g) 63 _; rw [first_z47, first_z63]⟩
    · exact ⟨rfl, Or.inl rfl, fun i hi => by show am_mu (am_F0 g) 49 i = am_mu (am_F0 g) 63 _; rw [first_z49, first_z63]⟩
    · exact ⟨rfl, Or.inl rfl, fun i hi => by show am_mu (am_F0 g) 51 i = am_mu (am_F0 g) 63 _; rw [first_z51, first_z63]⟩
  · rcases (show r = 0 ∨ r = 1 ∨ r = 2 ∨ r = 3 by omega) with rfl | rfl | rfl | rfl
    · exact ⟨rfl, Or.inl rfl, fun i hi => by show am_mu (am_F0 g) 53 i = am_mu (am_F0 g) 66 _; rw [first_z53, first_z66]⟩
    · exact ⟨rfl, Or.inl rfl, fun i hi => by show am_mu (am_F0 g) 55 i = am_mu (am_F0 g) 66 _; rw [first_z55, first_z66]⟩
    · exact ⟨rfl, Or.inl rfl, fun i hi => by show am_mu (am_F0 g) 57 i = am_mu (am_F0 g) 66 _; rw [first_z57, first_z66]⟩
    · exact ⟨rfl, Or.inl rfl, fun i hi => by show am_mu (am_F0 g) 59 i = am_mu (am_F0 g) 66 _; rw [first_z59, first_z66]⟩
  · have e9 : am_mu (am_F0 g) 60 9 = 0 := rfl
    have e12 : am_mu (am_F0 g) 60 12 = 0 := rfl
    refine ⟨rfl, ⟨rfl, by rw [e9]; exact am_le0⟩, ⟨rfl, by rw [e12]; exact am_le0⟩, fun k hk h => ?_, fun k hk h => ?_, fun p hp => ?_, by rw [first_z68], by rw [first_z32], by rw [first_z37]⟩
    · rw [e9] at h
      exact absurd h (nI_pos (by omega))
    · rw [e12] at h
      exact absurd h (nI_pos (by omega))
    · show am_mu (am_F0 g) 32 p = _ ∧ _
      rw [first_z32, first_z68]
      exact ⟨rfl, am_le0⟩
  · rw [first_z9, first_z10, first_z11, first_z75]; exact ⟨rfl, rfl, rfl⟩
  · rw [first_z12, first_z13, first_z75]; exact ⟨rfl, rfl⟩
  · rw [first_z75]; rfl
  · rw [first_z75]; rfl
  · exact ⟨0, 0, by omega, by omega, rfl, rfl, rfl, fun j hj => absurd hj (by omega)⟩
  · rw [first_z77]
    rcases (show k = 0 ∨ k = 1 ∨ k = 2 by omega) with rfl | rfl | rfl <;> exact ⟨rfl, rfl⟩
theorem am_of_self (M : am_M) : M = am_of M (am_mu M) := rfl
set_option maxRecDepth 1000000 in
theorem first_nx (g : am_G) : am_nx (am_F0 g) = 91 := rfl
set_option maxRecDepth 1000000 in
theorem first_sl (g : am_G) : am_sl (am_F0 g) = 43012 := rfl
set_option maxRecDepth 1000000 in
theorem first_pz (g : am_G) : am_ro (am_F0 g) 4 12 = 0 := rfl
theorem first_J (g : am_G) : am_J 0 (am_F0 g) := by
  have h1 := first_nx g
  have h2 := first_sl g
  have h3 := first_pz g
  have h4 := first_lay g
  have h5 := first_inv g
  have h6 := am_of_self (am_F0 g)
  generalize am_F0 g = M at h1 h2 h3 h4 h5 h6 ⊢
  refine ⟨M, 30, 35, am_mu M, h6, h4, by omega, h5, Or.inl h3, ?_, ?_⟩
  · rw [if_pos h3]; omega
  · rw [if_pos h3]; omega
