/-! marks -/
def m_mP (K a2 : Int32) : Prop := K = a2 ∨ (a2 = 2 ∧ K = 4) ∨ (a2 = 3 ∧ K = 5)
def m_mv (K x o a2 : Int32) : Int32 := if a2 = 1 then (2 * x + 9) / 10 - (x + 9) / 10 else if a2 = 2 then (if m_lk K x o ≤ 0 then -9 else 0) else if a2 = 3 then x - x / m_co K else if a2 = 4 then x else x - x / 3 * 3
theorem is_yes {K a2 : Int32} (h : m_mP K a2) : f_X2_is K a2 = some 1 := by
  unfold f_X2_is am_jn
  rcases h with h | ⟨h1, h2⟩ | ⟨h1, h2⟩
  · rw [if_pos h]
  · subst h1; subst h2; decide
  · subst h1; subst h2; decide
theorem is_no {K a2 : Int32} (h : ¬ m_mP K a2) (h0 : ¬ a2 = 0) : f_X2_is K a2 = some 0 := by
  unfold m_mP at h
  unfold f_X2_is am_jn
  by_cases h1 : K = a2
  · exact absurd (Or.inl h1) h
  · rw [if_neg h1, if_neg h0]
    by_cases h4 : K = 4
    · have h2 : ¬ a2 = 2 := fun q => h (Or.inr (Or.inl ⟨q, h4⟩))
      simp [h4, h2]
    · by_cases h5 : K = 5
      · have h3 : ¬ a2 = 3 := fun q => h (Or.inr (Or.inr ⟨q, h5⟩))
        simp [h5, h3]
      · simp [h4, h5]
def m_kc (K x o a2 : Int32) (u : am_U) : Option (Int32 × am_U) :=
      (f_X2_is K a2).bind (fun q4 =>
      if ¬ q4 = 0 then (
        let x5 : Int32 := K
        if a2 = 1 then (
          (f_X2_leaked x5 x 1).bind (fun q6 =>
          (f_X2_leaked 0 x 1).bind (fun q7 =>
          some (q6 - q7, u))))
        else         if a2 = 2 then (
          am_jn (fun (j8s0 : Int32) =>
            (f_X2_leaked x5 x j8s0).bind (fun q9 =>
            if q9 ≤ 0 then (
              some (((-9) : Int32), u))
            else (
              some (0, u)))) (fun j8 =>
          if o = 0 then (
            j8 0)
          else (
            j8 1)))
        else         if a2 = 3 then (
          (f_X2_hours 0 x).bind (fun q10 =>
          (f_X2_hours x5 x).bind (fun q11 =>
          some (q10 - q11, u))))
        else         if a2 = 4 then (
          (f_X2_hours x5 x).bind (fun q12 =>
          some (q12, u)))
        else (
          (f_X2_hours x5 x).bind (fun q13 =>
          (f_X2_anHour x5).bind (fun q14 =>
          some (x - (q13 * q14), u)))))
      else (
        (f_X10_find 3 u).bind (fun q15 =>
        some (q15.1, q15.2))))
theorem hrs_eq (K x : Int32) : f_X2_hours K x = some (x / m_co K) := by
  unfold f_X2_hours
  rw [cco_eq]
  exact am_ck_t (mco_ne K)
theorem kc_no {K x o a2 : Int32} {u : am_U} (h : ¬ m_mP K a2) (h0 : ¬ a2 = 0) : m_kc K x o a2 u = some (-3, am_fnd u 3) := by
  unfold m_kc
  rw [is_no h h0]
  show (f_X10_find (nI 3) u).bind (fun q15 => some (q15.1, q15.2)) = _
  rw [find_eq (by omega)]; rfl
theorem kc_yes {K o : Int32} {m j : Nat} {u : am_U} (h : m_mP K (nI j)) (hm : m ≤ 20) (hj : 1 ≤ j ∧ j ≤ 5) (ho : o = 0 ∨ o = 1) : m_kc K (nI m) o (nI j) u = some (m_mv K (nI m) o (nI j), u) := by
  unfold m_kc
  rw [is_yes h]
  unfold m_mP at h
  have d1 : nI m / 1 = nI m := (pk_div (d := 1) (by omega) (by omega) (by omega)).trans (by rw [Nat.div_one])
  rcases (show j = 1 ∨ j = 2 ∨ j = 3 ∨ j = 4 ∨ j = 5 by omega) with rfl | rfl | rfl | rfl | rfl
  · have hK : K = 1 := by
      rcases h with h | ⟨h, -⟩ | ⟨h, -⟩
      · exact h
      · exact absurd h (by decide)
      · exact absurd h (by decide)
    subst hK
    show ((f_X2_leaked 1 (nI m) 1).bind fun q6 => (f_X2_leaked 0 (nI m) 1).bind fun q7 => some (q6 - q7, u)) = _
    rw [clk_eq, clk_eq]; rfl
  · show (if o = 0 then (f_X2_leaked K (nI m) 0).bind (fun q9 => if q9 ≤ 0 then some ((-9 : Int32), u) else some (0, u)) else (f_X2_leaked K (nI m) 1).bind (fun q9 => if q9 ≤ 0 then some ((-9 : Int32), u) else some (0, u))) = some (if m_lk K (nI m) o ≤ 0 then (-9 : Int32) else 0, u)
    rw [clk_eq, clk_eq]
    rcases ho with rfl | rfl
    · rw [if_pos rfl]
      show (if m_lk K (nI m) 0 ≤ 0 then some ((-9 : Int32), u) else some (0, u)) = _
      split <;> rfl
    · rw [if_neg (by decide)]
      show (if m_lk K (nI m) 1 ≤ 0 then some ((-9 : Int32), u) else some (0, u)) = _
      split <;> rfl
  · show ((f_X2_hours 0 (nI m)).bind fun q10 => (f_X2_hours K (nI m)).bind fun q11 => some (q10 - q11, u)) = some (nI m - nI m / m_co K, u)
    rw [hrs_eq, hrs_eq]
    show some (nI m / 1 - nI m / m_co K, u) = _
    rw [d1]
  · have hK : K = 4 := by
      rcases h with h | ⟨h, -⟩ | ⟨h, -⟩
      · exact h
      · exact absurd h (by decide)
      · exact absurd h (by decide)
    subst hK
    show ((f_X2_hours 4 (nI m)).bind fun q12 => some (q12, u)) = some (nI m, u)
    rw [hrs_eq]
    show some (nI m / 1, u) = _
    rw [d1]
  · have hK : K = 5 := by
      rcases h with h | ⟨h, -⟩ | ⟨h, -⟩
      · exact h
      · exact absurd h (by decide)
      · exact absurd h (by decide)
    subst hK
    show ((f_X2_hours 5 (nI m)).bind fun q13 => (f_X2_anHour 5).bind fun q14 => some (nI m - q13 * q14, u)) = some (nI m - nI m / 3 * 3, u)
    rw [hrs_eq, cco_eq]; rfl
