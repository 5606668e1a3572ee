/-! fewer locals are known; calls by what comes back -/
def am_msk : List Bool → am_L → am_L
  | [], _ => []
  | _, [] => []
  | b :: m, v :: l => (match b with | true => v | false => none) :: am_msk m l
theorem am_msk_get : ∀ (m : List Bool) (L : am_L) (i : Nat) (v : Value), am_get (am_msk m L) i = some v → am_get L i = some v
  | [], L, i, v, h => by simp [am_msk, am_get] at h
  | _ :: _, [], i, v, h => by simp [am_msk, am_get] at h
  | b :: m, w :: L, 0, v, h => by cases b with
    | true => exact h
    | false => cases h
  | b :: m, w :: L, i + 1, v, h => am_msk_get m L i v h
section AT
variable {l : Launch} {g : am_G} {d : am_Y} {pc : Nat} {LS : am_L} {st : List Value} {B : am_M} {u : am_U} {o : Option (Option Value × am_M)} {α : Type} {φ : α → Option Value × am_M} {fT fF : Option α}
theorem e_msk {M : am_M} {LS1 : am_L} (m : List Bool) (hL : am_msk m LS = LS1) (k : am_E l g d pc LS1 st M o) : am_E l g d pc LS st M o :=
  am_goS (fun p e R s m0 args below meth c hX H locs cells slots ls Q hl hR hS kk => kk ls (am_ll_sub hl (fun q hq => by
    obtain ⟨i, v, h1, h2⟩ := (am_lv_mem g LS1 0 q).mp hq
    exact (am_lv_mem g LS 0 q).mpr ⟨i, v, h1, am_msk_get m LS i v (by rw [hL]; exact h2)⟩))) k
/-- a switch's case, no step -/
theorem e_sw {M : am_M} {x c : Int32} (kt : x = c → am_E l g d pc LS (.int x :: st) M (am_r φ fT)) (kf : ¬ x = c → am_E l g d pc LS (.int x :: st) M (am_r φ fF)) : am_E l g d pc LS (.int x :: st) M (am_r φ (if x = c then fT else fF)) := by
  by_cases h : x = c
  · rw [if_pos h]; exact kt h
  · rw [if_neg h]; exact kf h
theorem q_callVI {y : am_Y} {idx n b k0 : Nat} {r : vw_C} {As S : List Value} {fc : Option (Int32 × am_U)} {kf : Int32 × am_U → Option α} (hS : S = As.reverse ++ .ref b :: st) (hdg : decode d.2.1 pc = .ok (.invokevirtual idx, 3)) (hlk : am_Ml d.1.cls idx y) (hf : am_fit y d) (hy : am_Yok y n) (hst : am_VM y) (hcl : am_cl[k0]? = some r) (hrc : r.1 = y.1.cls) (hk0 : k0 < 11) (hsb : (am_sh B b).1 = k0) (hn : As.length = n) (hml : (am_ents (.ref b :: As)).length ≤ y.2.2.1) (hcat : (st.map fun v => v.category).sum ≤ 8)
    (hE : am_E l g y 0 (am_ent y (.ref b :: As)) [] (am_of B u) (am_r (am_bI B) fc)) (k : ∀ q : Int32 × am_U, am_E l g d (pc + 3) LS (.int q.1 :: st) (am_of B q.2) (am_r φ (kf q))) : am_E l g d pc LS S (am_of B u) (am_r φ (fc.bind kf)) := e_callV hS hdg hlk hf hy hst hcl hrc hk0 hsb hn hml hcat hE (fun a => k a)
theorem q_callSI {y : am_Y} {idx n : Nat} {As S : List Value} {fc : Option (Int32 × am_U)} {kf : Int32 × am_U → Option α} (hS : S = As.reverse ++ st) (hdg : decode d.2.1 pc = .ok (.invokestatic idx, 3)) (hlk : am_Ml d.1.cls idx y) (hf : am_fit y d) (hy : am_Yok y n) (hst : am_SM y) (hn : As.length = n) (hml : (am_ents As).length ≤ y.2.2.1) (hcat : (st.map fun v => v.category).sum ≤ 8)
    (hE : am_E l g y 0 (am_ent y As) [] (am_of B u) (am_r (am_bI B) fc)) (k : ∀ q : Int32 × am_U, am_E l g d (pc + 3) LS (.int q.1 :: st) (am_of B q.2) (am_r φ (kf q))) : am_E l g d pc LS S (am_of B u) (am_r φ (fc.bind kf)) := e_callS hS hdg hlk hf hy hst hn hml hcat hE (fun a => k a)
theorem q_callVP {y : am_Y} {idx n b k0 : Nat} {r : vw_C} {As S : List Value} {fc : Option (Int32)} {kf : Int32 → Option α} (hS : S = As.reverse ++ .ref b :: st) (hdg : decode d.2.1 pc = .ok (.invokevirtual idx, 3)) (hlk : am_Ml d.1.cls idx y) (hf : am_fit y d) (hy : am_Yok y n) (hst : am_VM y) (hcl : am_cl[k0]? = some r) (hrc : r.1 = y.1.cls) (hk0 : k0 < 11) (hsb : (am_sh B b).1 = k0) (hn : As.length = n) (hml : (am_ents (.ref b :: As)).length ≤ y.2.2.1) (hcat : (st.map fun v => v.category).sum ≤ 8)
    (hE : am_E l g y 0 (am_ent y (.ref b :: As)) [] (am_of B u) (am_r (am_bP B u) fc)) (k : ∀ q : Int32, am_E l g d (pc + 3) LS (.int q :: st) (am_of B u) (am_r φ (kf q))) : am_E l g d pc LS S (am_of B u) (am_r φ (fc.bind kf)) := e_callV hS hdg hlk hf hy hst hcl hrc hk0 hsb hn hml hcat hE (fun a => k a)
theorem q_callSP {y : am_Y} {idx n : Nat} {As S : List Value} {fc : Option (Int32)} {kf : Int32 → Option α} (hS : S = As.reverse ++ st) (hdg : decode d.2.1 pc = .ok (.invokestatic idx, 3)) (hlk : am_Ml d.1.cls idx y) (hf : am_fit y d) (hy : am_Yok y n) (hst : am_SM y) (hn : As.length = n) (hml : (am_ents As).length ≤ y.2.2.1) (hcat : (st.map fun v => v.category).sum ≤ 8)
    (hE : am_E l g y 0 (am_ent y As) [] (am_of B u) (am_r (am_bP B u) fc)) (k : ∀ q : Int32, am_E l g d (pc + 3) LS (.int q :: st) (am_of B u) (am_r φ (kf q))) : am_E l g d pc LS S (am_of B u) (am_r φ (fc.bind kf)) := e_callS hS hdg hlk hf hy hst hn hml hcat hE (fun a => k a)
theorem q_callVV {y : am_Y} {idx n b k0 : Nat} {r : vw_C} {As S : List Value} {fc : Option (am_U)} {kf : am_U → Option α} (hS : S = As.reverse ++ .ref b :: st) (hdg : decode d.2.1 pc = .ok (.invokevirtual idx, 3)) (hlk : am_Ml d.1.cls idx y) (hf : am_fit y d) (hy : am_Yok y n) (hst : am_VM y) (hcl : am_cl[k0]? = some r) (hrc : r.1 = y.1.cls) (hk0 : k0 < 11) (hsb : (am_sh B b).1 = k0) (hn : As.length = n) (hml : (am_ents (.ref b :: As)).length ≤ y.2.2.1) (hcat : (st.map fun v => v.category).sum ≤ 8)
    (hE : am_E l g y 0 (am_ent y (.ref b :: As)) [] (am_of B u) (am_r (am_bV B) fc)) (k : ∀ q : am_U, am_E l g d (pc + 3) LS (st) (am_of B q) (am_r φ (kf q))) : am_E l g d pc LS S (am_of B u) (am_r φ (fc.bind kf)) := e_callV hS hdg hlk hf hy hst hcl hrc hk0 hsb hn hml hcat hE (fun a => k a)
theorem q_callSV {y : am_Y} {idx n : Nat} {As S : List Value} {fc : Option (am_U)} {kf : am_U → Option α} (hS : S = As.reverse ++ st) (hdg : decode d.2.1 pc = .ok (.invokestatic idx, 3)) (hlk : am_Ml d.1.cls idx y) (hf : am_fit y d) (hy : am_Yok y n) (hst : am_SM y) (hn : As.length = n) (hml : (am_ents As).length ≤ y.2.2.1) (hcat : (st.map fun v => v.category).sum ≤ 8)
    (hE : am_E l g y 0 (am_ent y As) [] (am_of B u) (am_r (am_bV B) fc)) (k : ∀ q : am_U, am_E l g d (pc + 3) LS (st) (am_of B q) (am_r φ (kf q))) : am_E l g d pc LS S (am_of B u) (am_r φ (fc.bind kf)) := e_callS hS hdg hlk hf hy hst hn hml hcat hE (fun a => k a)
theorem q_callVL {y : am_Y} {idx n b k0 : Nat} {r : vw_C} {As S : List Value} {fc : Option (Int64 × am_U)} {kf : Int64 × am_U → Option α} (hS : S = As.reverse ++ .ref b :: st) (hdg : decode d.2.1 pc = .ok (.invokevirtual idx, 3)) (hlk : am_Ml d.1.cls idx y) (hf : am_fit y d) (hy : am_Yok y n) (hst : am_VM y) (hcl : am_cl[k0]? = some r) (hrc : r.1 = y.1.cls) (hk0 : k0 < 11) (hsb : (am_sh B b).1 = k0) (hn : As.length = n) (hml : (am_ents (.ref b :: As)).length ≤ y.2.2.1) (hcat : (st.map fun v => v.category).sum ≤ 8)
    (hE : am_E l g y 0 (am_ent y (.ref b :: As)) [] (am_of B u) (am_r (am_bL B) fc)) (k : ∀ q : Int64 × am_U, am_E l g d (pc + 3) LS (.long q.1 :: st) (am_of B q.2) (am_r φ (kf q))) : am_E l g d pc LS S (am_of B u) (am_r φ (fc.bind kf)) := e_callV hS hdg hlk hf hy hst hcl hrc hk0 hsb hn hml hcat hE (fun a => k a)
theorem q_callSL {y : am_Y} {idx n : Nat} {As S : List Value} {fc : Option (Int64 × am_U)} {kf : Int64 × am_U → Option α} (hS : S = As.reverse ++ st) (hdg : decode d.2.1 pc = .ok (.invokestatic idx, 3)) (hlk : am_Ml d.1.cls idx y) (hf : am_fit y d) (hy : am_Yok y n) (hst : am_SM y) (hn : As.length = n) (hml : (am_ents As).length ≤ y.2.2.1) (hcat : (st.map fun v => v.category).sum ≤ 8)
    (hE : am_E l g y 0 (am_ent y As) [] (am_of B u) (am_r (am_bL B) fc)) (k : ∀ q : Int64 × am_U, am_E l g d (pc + 3) LS (.long q.1 :: st) (am_of B q.2) (am_r φ (kf q))) : am_E l g d pc LS S (am_of B u) (am_r φ (fc.bind kf)) := e_callS hS hdg hlk hf hy hst hn hml hcat hE (fun a => k a)
theorem q_callVN {y : am_Y} {idx n b k0 : Nat} {r : vw_C} {As S : List Value} {fc : Option (Int64)} {kf : Int64 → Option α} (hS : S = As.reverse ++ .ref b :: st) (hdg : decode d.2.1 pc = .ok (.invokevirtual idx, 3)) (hlk : am_Ml d.1.cls idx y) (hf : am_fit y d) (hy : am_Yok y n) (hst : am_VM y) (hcl : am_cl[k0]? = some r) (hrc : r.1 = y.1.cls) (hk0 : k0 < 11) (hsb : (am_sh B b).1 = k0) (hn : As.length = n) (hml : (am_ents (.ref b :: As)).length ≤ y.2.2.1) (hcat : (st.map fun v => v.category).sum ≤ 8)
    (hE : am_E l g y 0 (am_ent y (.ref b :: As)) [] (am_of B u) (am_r (am_bN B u) fc)) (k : ∀ q : Int64, am_E l g d (pc + 3) LS (.long q :: st) (am_of B u) (am_r φ (kf q))) : am_E l g d pc LS S (am_of B u) (am_r φ (fc.bind kf)) := e_callV hS hdg hlk hf hy hst hcl hrc hk0 hsb hn hml hcat hE (fun a => k a)
theorem q_callSN {y : am_Y} {idx n : Nat} {As S : List Value} {fc : Option (Int64)} {kf : Int64 → Option α} (hS : S = As.reverse ++ st) (hdg : decode d.2.1 pc = .ok (.invokestatic idx, 3)) (hlk : am_Ml d.1.cls idx y) (hf : am_fit y d) (hy : am_Yok y n) (hst : am_SM y) (hn : As.length = n) (hml : (am_ents As).length ≤ y.2.2.1) (hcat : (st.map fun v => v.category).sum ≤ 8)
    (hE : am_E l g y 0 (am_ent y As) [] (am_of B u) (am_r (am_bN B u) fc)) (k : ∀ q : Int64, am_E l g d (pc + 3) LS (.long q :: st) (am_of B u) (am_r φ (kf q))) : am_E l g d pc LS S (am_of B u) (am_r φ (fc.bind kf)) := e_callS hS hdg hlk hf hy hst hn hml hcat hE (fun a => k a)
end AT
/-! what stays -/
def am_lsh : List (Option (Nat × Nat)) := [none, none, none, some (16, 3), some (9, 15), some (14, 6), some (14, 4), some (6, 2), some (8, 7), some (12, 6), some (12, 6), some (12, 6), some (12, 5), some (12, 5), some (1, 4), some (3, 1), some (12, 1800), some (12, 60), some (3, 1), some (12, 90), some (12, 3), some (0, 6), some (12, 8), some (12, 8), some (12, 64), some (12, 121), some (2, 3), some (12, 64), some (12, 64), some (12, 6), some (4, 7), some (12, 8), some (12, 5), some (12, 6), some (12, 6), some (4, 7), some (12, 8), some (12, 5), some (12, 6), some (12, 6), some (7, 2), some (12, 60), some (7, 2), some (12, 60), some (7, 2), some (12, 60), some (7, 2), some (12, 60), some (7, 2), some (12, 60), some (7, 2), some (12, 60), some (7, 2), some (12, 60), some (7, 2), some (12, 60), some (7, 2), some (12, 60), some (7, 2), some (12, 60), some (10, 47), some (12, 6), some (12, 6), some (12, 360), some (12, 60), some (12, 4), some (11, 240), some (12, 8), some (12, 5), some (12, 6), some (12, 6), some (12, 8), some (12, 5), some (12, 6), some (12, 6), some (12, 30), some (12, 1860), some (13, 3), some (12, 90), some (12, 5), some (12, 6), some (12, 3), some (12, 9261), some (12, 9261), some (12, 9261), some (12, 9261), some (12, 8), some (12, 8), some (12, 121), some (12, 6), some (12, 6)]
def am_lro : List (List Nat) := [[], [], [], [], [5, 6, 7, 8, 14, 18, 20, 21, 26, 29, 0, 0, 0, 0, 0], [], [], [0, 0], [9, 10, 11, 12, 13, 0, 0], [], [], [], [], [], [15, 17, 0, 0], [16], [], [], [19], [], [], [22, 23, 24, 25, 0, 0], [], [], [], [], [27, 28, 0], [], [], [], [0, 0, 0, 31, 32, 33, 34], [], [], [], [], [0, 0, 0, 36, 37, 38, 39], [], [], [], [], [41, 0], [], [43, 0], [], [45, 0], [], [47, 0], [], [49, 0], [], [51, 0], [], [53, 0], [], [55, 0], [], [57, 0], [], [59, 0], [], [0, 61, 0, 62, 63, 64, 65, 66, 0, 0, 67, 68, 0, 69, 70, 0, 0, 0, 0, 0, 0, 71, 72, 73, 74, 75, 0, 76, 77, 78, 79, 0, 0, 80, 81, 82, 83, 84, 85, 0, 0, 86, 87, 88, 89, 90, 0], [], [], [], [], [], [], [], [], [], [], [], [], [], [], [], [], [], [], [], [], [], [], [], [], [], [], [], [], [], []]
/-- the cell of place j of ROWS (5), of TEXTS (6) -/
def am_rid (a j : Nat) : Nat := if a = 5 then 2 * j + 40 else 2 * j + 52
def am_rln (a : Nat) : Nat := if a = 5 then 6 else 4
def am_isRow (B : am_M) (t : Nat) : Prop := am_sh B t = (7, 2) ∧ am_ro B t 0 = t + 1 ∧ am_sh B (t + 1) = (12, 60)
def am_isRows (B : am_M) (a : Nat) : Prop := am_sh B a = (14, am_rln a) ∧ ∀ j : Int32, am_ix j (am_rln a) = true → am_av (am_ro B a j.toNatClampNeg) = .ref (am_rid a j.toNatClampNeg) ∧ am_isRow B (am_rid a j.toNatClampNeg)
def am_isMem (B : am_M) (t n : Nat) : Prop := am_sh B t = (3, 1) ∧ am_ro B t 0 = t + 1 ∧ am_sh B (t + 1) = (12, n)
def am_isPlan (B : am_M) (t : Nat) : Prop := am_sh B t = (4, 7) ∧ (am_ro B t 3 = t + 1 ∧ am_ro B t 4 = t + 2 ∧ am_ro B t 5 = t + 3 ∧ am_ro B t 6 = t + 4) ∧ am_sh B (t + 1) = (12, 8) ∧ am_sh B (t + 2) = (12, 5) ∧ am_sh B (t + 3) = (12, 6) ∧ am_sh B (t + 4) = (12, 6)
def am_isPour (B : am_M) (t : Nat) : Prop := am_sh B t = (5, 8) ∧ (am_ro B t 0 = t + 1 ∧ am_ro B t 1 = t + 2 ∧ am_ro B t 2 = t + 3 ∧ am_ro B t 3 = t + 4 ∧ am_ro B t 4 = t + 5) ∧ am_sh B (t + 1) = (12, 9261) ∧ am_sh B (t + 2) = (12, 9261) ∧ am_sh B (t + 3) = (12, 9261) ∧ am_sh B (t + 4) = (12, 3) ∧ am_sh B (t + 5) = (12, 3)
def am_Lay (B : am_M) (pl : Nat) : Prop := (∀ i k n, am_lsh[i]? = some (some (k, n)) → am_sh B i = (k, n)) ∧ (∀ i f r, (am_lro.getD i []).getD f 0 = r + 1 → am_ro B i f = r + 1) ∧ am_ro B 4 10 = pl ∧ (pl = 30 ∨ pl = 35) ∧ (∀ j, j < 6 → am_ro B 5 j = 2 * j + 40) ∧ (∀ j, j < 4 → am_ro B 6 j = 2 * j + 52)
section AL
variable {B : am_M} {pl : Nat}
theorem am_Ls (hL : am_Lay B pl) {i k n : Nat} (h : am_lsh[i]? = some (some (k, n))) : am_sh B i = (k, n) := hL.1 i k n h
theorem am_Lk (hL : am_Lay B pl) {i k n : Nat} (h : am_lsh[i]? = some (some (k, n))) : (am_sh B i).1 = k := by rw [hL.1 i k n h]
theorem am_Lr (hL : am_Lay B pl) {i f r : Nat} (h : (am_lro.getD i []).getD f 0 = r + 1) : am_av (am_ro B i f) = .ref (r + 1) := by rw [hL.2.1 i f r h]; rfl
theorem am_avs {x t : Nat} (h : x = t + 1) : am_av x = .ref (t + 1) := by rw [h]; rfl
theorem am_ixlt {j : Int32} {n : Nat} (h : am_ix j n = true) : j.toNatClampNeg < n := Nat.not_le.mp fun q => am_ix_in h (Or.inr q)
theorem am_row_at (hL : am_Lay B pl) : ∀ k, k < 10 → am_isRow B (2 * k + 40) := by
  intro k hk
  rcases (show k = 0 ∨ k = 1 ∨ k = 2 ∨ k = 3 ∨ k = 4 ∨ k = 5 ∨ k = 6 ∨ k = 7 ∨ k = 8 ∨ k = 9 by omega) with rfl | rfl | rfl | rfl | rfl | rfl | rfl | rfl | rfl | rfl <;> exact ⟨am_Ls hL rfl, hL.2.1 _ _ _ rfl, am_Ls hL rfl⟩
theorem am_rows5 (hL : am_Lay B pl) : am_isRows B 5 := by
  refine ⟨am_Ls hL rfl, fun j hj => ?_⟩
  have h := am_ixlt hj
  have h6 : j.toNatClampNeg < 6 := h
  exact ⟨am_avs (hL.2.2.2.2.1 _ h6), am_row_at hL _ (by omega)⟩
theorem am_rows6 (hL : am_Lay B pl) : am_isRows B 6 := by
  refine ⟨am_Ls hL rfl, fun j hj => ?_⟩
  have h := am_ixlt hj
  have h6 : j.toNatClampNeg < 4 := h
  refine ⟨am_avs (hL.2.2.2.2.2 _ h6), ?_⟩
  show am_isRow B (2 * j.toNatClampNeg + 52)
  rw [show 2 * j.toNatClampNeg + 52 = 2 * (j.toNatClampNeg + 6) + 40 by omega]
  exact am_row_at hL _ (by omega)
theorem am_mem15 (hL : am_Lay B pl) : am_isMem B 15 1800 := ⟨am_Ls hL rfl, hL.2.1 _ _ _ rfl, am_Ls hL rfl⟩
theorem am_mem18 (hL : am_Lay B pl) : am_isMem B 18 90 := ⟨am_Ls hL rfl, hL.2.1 _ _ _ rfl, am_Ls hL rfl⟩
theorem am_pln (hL : am_Lay B pl) : am_isPlan B pl := by
  rcases hL.2.2.2.1 with h | h <;> rw [h]
  · exact ⟨am_Ls hL rfl, ⟨hL.2.1 _ _ _ rfl, hL.2.1 _ _ _ rfl, hL.2.1 _ _ _ rfl, hL.2.1 _ _ _ rfl⟩, am_Ls hL rfl, am_Ls hL rfl, am_Ls hL rfl, am_Ls hL rfl⟩
  · exact ⟨am_Ls hL rfl, ⟨hL.2.1 _ _ _ rfl, hL.2.1 _ _ _ rfl, hL.2.1 _ _ _ rfl, hL.2.1 _ _ _ rfl⟩, am_Ls hL rfl, am_Ls hL rfl, am_Ls hL rfl, am_Ls hL rfl⟩
theorem am_Lpl (hL : am_Lay B pl) : am_av (am_ro B 4 10) = .ref pl := by
  rw [hL.2.2.1]
  rcases hL.2.2.2.1 with h | h <;> rw [h] <;> rfl
end AL
