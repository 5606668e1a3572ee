/-! references that change: the reader's text, plan and draft, the pourings -/
theorem am_wR_ro {B : am_M} {i f v a b : Nat} (h : ¬ (a = i ∧ b = f)) : am_ro (am_wR B i f v) a b = am_ro B a b := by
  show (am_rw (am_ro B) i (va_up (am_ro B i) f v) a) b = _
  by_cases ha : a = i
  · subst ha
    rw [am_rw_s]
    unfold va_up
    rw [if_neg (fun e => h ⟨rfl, e⟩)]
  · rw [am_rw_n ha]
def am_LayD (B : am_M) (pl dr : Nat) : Prop := am_Lay B pl ∧ am_ro B 4 11 = dr ∧ pl + dr = 65
theorem am_lro0 {i f r : Nat} (h : (am_lro.getD i []).getD f 0 = r + 1) : i ≠ 7 ∧ ¬ (i = 4 ∧ (f = 10 ∨ f = 11 ∨ f = 12)) ∧ i < 91 := by
  refine ⟨fun e => ?_, fun e => ?_, ?_⟩
  · subst e
    have : (am_lro.getD 7 []) = [0, 0] := rfl
    rw [this] at h
    rcases f with _ | _ | f <;> simp at h
  · obtain ⟨rfl, hf⟩ := e
    have h10 : (am_lro.getD 4 []).getD 10 0 = 0 := rfl
    have h11 : (am_lro.getD 4 []).getD 11 0 = 0 := rfl
    have h12 : (am_lro.getD 4 []).getD 12 0 = 0 := rfl
    rcases hf with rfl | rfl | rfl <;> omega
  · rcases Nat.lt_or_ge i 91 with q | q
    · exact q
    · have hz : am_lro.getD i [] = [] := by
        rw [List.getD_eq_getElem?_getD, List.getElem?_eq_none (show am_lro.length ≤ i from q)]
        rfl
      rw [hz] at h
      simp at h
section AR2
variable {B : am_M} {pl dr : Nat}
theorem am_LayW {i f v : Nat} (hL : am_Lay B pl) (h : (i = 7 ∧ f = 0) ∨ (i = 4 ∧ f = 11) ∨ (i = 4 ∧ f = 12)) : am_Lay (am_wR B i f v) pl := by
  obtain ⟨h1, h2, h3, h4, h5, h6⟩ := hL
  refine ⟨h1, fun a b r hr => ?_, ?_, h4, fun j hj => ?_, fun j hj => ?_⟩
  · obtain ⟨q1, q2, -⟩ := am_lro0 hr
    rw [am_wR_ro (by rintro ⟨rfl, rfl⟩; omega)]
    exact h2 a b r hr
  · rw [am_wR_ro (by omega)]; exact h3
  · rw [am_wR_ro (by omega)]; exact h5 j hj
  · rw [am_wR_ro (by omega)]; exact h6 j hj
theorem am_LayP (hL : am_Lay B pl) (hd : dr = 30 ∨ dr = 35) : am_Lay (am_wR B 4 10 dr) dr := by
  obtain ⟨h1, h2, h3, h4, h5, h6⟩ := hL
  refine ⟨h1, fun a b r hr => ?_, am_ro_s, hd, fun j hj => ?_, fun j hj => ?_⟩
  · obtain ⟨q1, q2, -⟩ := am_lro0 hr
    rw [am_wR_ro (by rintro ⟨rfl, rfl⟩; omega)]
    exact h2 a b r hr
  · rw [am_wR_ro (by omega)]; exact h5 j hj
  · rw [am_wR_ro (by omega)]; exact h6 j hj
theorem am_drR (hD : am_LayD B pl dr) : am_av (am_ro B 4 11) = .ref dr := by
  obtain ⟨hL, h1, h2⟩ := hD
  rw [h1]
  rcases hL.2.2.2.1 with h | h
  · rw [show dr = 35 by omega]; rfl
  · rw [show dr = 30 by omega]; rfl
theorem am_plnAt (hL : am_Lay B pl) {t : Nat} (ht : t = 30 ∨ t = 35) : am_isPlan B t := by
  rcases ht with h | h <;> rw [h]
  · exact ⟨am_Ls hL rfl, ⟨hL.2.1 _ _ _ rfl, hL.2.1 _ _ _ rfl, hL.2.1 _ _ _ rfl, hL.2.1 _ _ _ rfl⟩, am_Ls hL rfl, am_Ls hL rfl, am_Ls hL rfl, am_Ls hL rfl⟩
  · exact ⟨am_Ls hL rfl, ⟨hL.2.1 _ _ _ rfl, hL.2.1 _ _ _ rfl, hL.2.1 _ _ _ rfl, hL.2.1 _ _ _ rfl⟩, am_Ls hL rfl, am_Ls hL rfl, am_Ls hL rfl, am_Ls hL rfl⟩
theorem am_dr2 (hD : am_LayD B pl dr) : dr = 30 ∨ dr = 35 := by
  have := hD.1.2.2.2.1
  have := hD.2.2
  omega
theorem am_drP (hD : am_LayD B pl dr) : am_isPlan B dr := am_plnAt hD.1 (am_dr2 hD)
theorem am_rowT {t v : Nat} (hL : am_Lay B pl) (h : am_isRow B t) : am_isRow (am_wR B 7 0 v) t := by
  refine ⟨h.1, ?_, h.2.2⟩
  rw [am_wR_ro (by
    rintro ⟨rfl, -⟩
    have h1 := h.1
    rw [hL.1 7 6 2 rfl] at h1
    cases h1)]
  exact h.2.1
theorem am_txT {t : Nat} (h : am_av t = .ref t) : am_av (am_ro (am_wR B 7 0 t) 7 0) = .ref t := by rw [am_ro_s]; exact h
theorem am_avrid (a j : Nat) : am_av (am_rid a j) = .ref (am_rid a j) := by
  unfold am_rid
  split <;> rfl
end AR2
abbrev am_bQ (B : am_M) (z : Nat) : am_U → Option Value × am_M := fun u => (some (.ref z), am_of B u)
section AX
variable {l : Launch} {g : am_G} {d : am_Y} {pc : Nat} {LS : am_L} {st : List Value} {B B1 : am_M} {u : am_U} {o : Option (Option Value × am_M)} {α : Type} {φ : α → Option Value × am_M} {f0 : Option α}
theorem q_putR {idx k f i v : Nat} {ty : FieldType} (hdg : decode d.2.1 pc = .ok (.putfield idx, 3)) (hl : am_Fl d.1.cls idx k f ty) (hty : am_isR ty = true) (hnf : am_nf k f = true) (hk : k < 11) (hs : (am_sh B i).1 = k) (hv : am_av v = .ref v) (kk : am_E l g d (pc + 3) LS st (am_of (am_wR B i f v) u) o) : am_E l g d pc LS (.ref v :: .ref i :: st) (am_of B u) o := e_putR hdg hl hty hnf hk hs hv kk
theorem q_callVJ {y : am_Y} {idx n b k0 : Nat} {r : vw_C} {As S : List Value} {fc : Option (Int32 × am_U)} {kf : Int32 × am_U → Option α} (hS : S = As.reverse ++ .ref b :: st) (hdg : decode d.2.1 pc = .ok (.invokevirtual idx, 3)) (hlk : am_Ml d.1.cls idx y) (hf : am_fit y d) (hy : am_Yok y n) (hst : am_VM y) (hcl : am_cl[k0]? = some r) (hrc : r.1 = y.1.cls) (hk0 : k0 < 11) (hsb : (am_sh B b).1 = k0) (hn : As.length = n) (hml : (am_ents (.ref b :: As)).length ≤ y.2.2.1) (hcat : (st.map fun v => v.category).sum ≤ 8)
    (hE : am_E l g y 0 (am_ent y (.ref b :: As)) [] (am_of B u) (am_r (am_bI B1) fc)) (k : ∀ q : Int32 × am_U, am_E l g d (pc + 3) LS (.int q.1 :: st) (am_of B1 q.2) (am_r φ (kf q))) : am_E l g d pc LS S (am_of B u) (am_r φ (fc.bind kf)) := e_callV hS hdg hlk hf hy hst hcl hrc hk0 hsb hn hml hcat hE (fun a => k a)
theorem q_callVQ {y : am_Y} {idx n b k0 z : Nat} {r : vw_C} {As S : List Value} {fc : Option am_U} {kf : am_U → Option α} (hS : S = As.reverse ++ .ref b :: st) (hdg : decode d.2.1 pc = .ok (.invokevirtual idx, 3)) (hlk : am_Ml d.1.cls idx y) (hf : am_fit y d) (hy : am_Yok y n) (hst : am_VM y) (hcl : am_cl[k0]? = some r) (hrc : r.1 = y.1.cls) (hk0 : k0 < 11) (hsb : (am_sh B b).1 = k0) (hn : As.length = n) (hml : (am_ents (.ref b :: As)).length ≤ y.2.2.1) (hcat : (st.map fun v => v.category).sum ≤ 8)
    (hE : am_E l g y 0 (am_ent y (.ref b :: As)) [] (am_of B u) (am_r (am_bQ B1 z) fc)) (k : ∀ q : am_U, am_E l g d (pc + 3) LS (.ref z :: st) (am_of B1 q) (am_r φ (kf q))) : am_E l g d pc LS S (am_of B u) (am_r φ (fc.bind kf)) := e_callV hS hdg hlk hf hy hst hcl hrc hk0 hsb hn hml hcat hE (fun a => k a)
end AX
