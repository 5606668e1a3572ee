/-! store -/
/-- the least with which so many days end well, each begun behind its night -/
def m_L (h : Nat) : Nat → Nat
  | 0 => h
  | j + 1 => h + (10 * m_L h j + 8) / 9
theorem mL_le {h : Nat} (hh : h ≤ 9) : ∀ j, j < 20 → m_L h j ≤ 1000 := by
  have h9 : ∀ j, m_L h j ≤ m_L 9 j := by
    intro j
    induction j with
    | zero => exact hh
    | succ j ih => rw [m_L, m_L]; omega
  have hb : ∀ j, j < 20 → m_L 9 j ≤ 1000 := by decide
  intro j hj
  exact Nat.le_trans (h9 j) (hb j hj)
theorem mL_ge (h : Nat) : ∀ j, h ≤ m_L h j := by
  intro j
  cases j with
  | zero => exact Nat.le_refl h
  | succ j => rw [m_L]; omega
/-- what is left behind so many nights and days -/
def m_lf (h : Nat) : Nat → Nat → Nat
  | 0, v => v
  | j + 1, v => m_lf h j (v - (v + 9) / 10 - h)
theorem cst1_lp {h d : Nat} (hh : h ≤ 9) (hd : d ≤ 20) (u : am_U) (K : Int32 → Option (Int32 × am_U)) : ∀ (f i : Nat), i + 1 ≤ d → d < i + f → f_X10_store_27 u (nI h) (nI d) K f (nI (m_L h i)) (nI (i + 1)) = K (nI (m_L h (d - 1))) := by
  intro f
  induction f with
  | zero => intro i h1 h2; omega
  | succ f ih =>
    intro i h1 h2
    rw [f_X10_store_27]
    rcases Nat.lt_or_ge (i + 1) d with q | q
    · have hL := mL_le hh i (by omega)
      rw [if_neg (nI_ge q (by omega))]
      unfold f_X2_leastAheadOfNight
      rw [obs, show (10 : Int32) * nI (m_L h i) = nI (10 * m_L h i) from nI_mul 10 _, show nI (10 * m_L h i) + 8 = nI (10 * m_L h i + 8) from nI_add _ 8, show nI (10 * m_L h i + 8) / 9 = nI ((10 * m_L h i + 8) / 9) from pk_div (d := 9) (by omega) (by omega) (by omega), nI_add, nI_1]
      exact ih (i + 1) (by omega) (by omega)
    · have : i = d - 1 := by omega
      rw [if_pos (nI_le (show d ≤ i + 1 by omega) (by omega)), this]
theorem cst2_lp {h d : Nat} (hh : h ≤ 9) (hd : d ≤ 20) (u : am_U) (c : Int32) (K : Int32 → Option (Int32 × am_U)) : ∀ (f i v : Nat), v ≤ 1000 → i + 1 ≤ d → d < i + f → (∀ j, d - 1 - i = j + 1 → (10 * m_L h j + 8) / 9 ≤ v) → f_X10_store_54 u (nI h) (nI d) c K f (nI v) (nI (i + 1)) = K (nI (m_lf h (d - 1 - i) v)) := by
  intro f
  induction f with
  | zero => intro i v hv h1 h2; omega
  | succ f ih =>
    intro i v hv h1 h2 hs
    rw [f_X10_store_54]
    rcases Nat.lt_or_ge (i + 1) d with q | q
    · have hj := hs (d - 1 - (i + 1)) (by omega)
      have hge := mL_ge h (d - 1 - (i + 1))
      rw [if_neg (nI_ge q (by omega)), clk_eq, obs]
      have hlk : m_lk 0 (nI v) 1 = nI ((v + 9) / 10) := by
        unfold m_lk
        rw [if_neg (by decide), if_neg (by decide), if_neg (by decide), ten_nI hv]
      rw [hlk, nI_sub (by omega), nI_sub (by omega), nI_1, ih (i + 1) _ (by omega) (by omega) (by omega) (fun j hj2 => ?_), show d - 1 - i = (d - 1 - (i + 1)) + 1 by omega, m_lf]
      rw [hj2] at hj
      rw [m_L] at hj
      omega
    · rw [if_pos (nI_le (show d ≤ i + 1 by omega) (by omega)), show d - 1 - i = 0 by omega]; rfl
/-- the reference's: enough, or below 0 -/
theorem mlo_lp {h d : Nat} (hh : h ≤ 9) (h0 : 0 < h) (hd : d ≤ 20) : ∀ (f i v : Nat), v ≤ 2000 → i + 1 ≤ d → d < i + f → ((∀ j, d - 1 - i = j + 1 → (10 * m_L h j + 8) / 9 ≤ v) → f_X11_leftOf_5 (nI h) (nI d) f (nI v) (nI (i + 1)) = some (nI (m_lf h (d - 1 - i) v))) ∧ (∀ j, d - 1 - i = j + 1 → v < (10 * m_L h j + 8) / 9 → ∃ y, f_X11_leftOf_5 (nI h) (nI d) f (nI v) (nI (i + 1)) = some y ∧ y < 0) := by
  intro f
  induction f with
  | zero => intro i v hv h1 h2; omega
  | succ f ih =>
    intro i v hv h1 h2
    rw [f_X11_leftOf_5]
    rcases Nat.lt_or_ge (i + 1) d with q | q
    · obtain ⟨j, hj⟩ : ∃ j, d - 1 - i = j + 1 := ⟨d - 1 - (i + 1), by omega⟩
      have hge := mL_ge h j
      rw [if_neg (nI_ge q (by omega)), if_neg (nI_pos (show v < 2 ^ 31 by omega))]
      dsimp only [am_jn]
      have ht : f_X11_tenth (nI v) = some (nI ((v + 9) / 10)) := by
        unfold f_X11_tenth
        rw [show nI v + 9 = nI (v + 9) from nI_add _ 9]
        exact congrArg some (pk_div (d := 10) (by omega) (by omega) (by omega))
      rw [if_neg (nI_nle (by omega) (by omega)), ht, obs, nI_sub (by omega), nI_1]
      by_cases c : h ≤ v - (v + 9) / 10
      · rw [nI_sub c]
        obtain ⟨I1, I2⟩ := ih (i + 1) (v - (v + 9) / 10 - h) (by omega) (by omega) (by omega)
        refine ⟨fun hs => ?_, fun j' hj' hlt => ?_⟩
        · have hs' := hs j hj
          rw [I1 (fun j2 hj2 => ?_), hj, m_lf, show d - 1 - (i + 1) = j by omega]
          have : j = j2 + 1 := by omega
          rw [this, m_L] at hs'
          omega
        · have : j' = j := by omega
          subst this
          cases j' with
          | zero => rw [m_L] at hlt; omega
          | succ j2 =>
            rw [m_L] at hlt
            exact I2 j2 (by omega) (by omega)
      · have hneg : nI (v - (v + 9) / 10) - nI h < 0 := pk_sneg (by omega) (by omega)
        refine ⟨fun hs => ?_, fun j' hj' hlt => ?_⟩
        · have := hs j hj; omega
        · refine ⟨nI (v - (v + 9) / 10) - nI h, ?_, hneg⟩
          cases f with
          | zero => omega
          | succ f =>
            rw [f_X11_leftOf_5]
            rcases Nat.lt_or_ge (i + 1 + 1) d with q2 | q2
            · rw [if_neg (nI_ge q2 (by omega)), if_pos hneg]
            · rw [if_pos (nI_le (show d ≤ i + 1 + 1 by omega) (by omega))]
    · rw [if_pos (nI_le (show d ≤ i + 1 by omega) (by omega)), show d - 1 - i = 0 by omega]
      exact ⟨fun _ => rfl, fun j hj => by omega⟩
theorem mlo_eq {h d : Nat} (hh : h ≤ 9) (h0 : 0 < h) (hd : d ≤ 20) (hd0 : 0 < d) {v : Nat} (hv : v ≤ 2000) (hhv : h ≤ v) : (m_L h (d - 1) ≤ v → f_X11_leftOf (nI v) (nI h) (nI d) = some (nI (m_lf h (d - 1) (v - h)))) ∧ (v < m_L h (d - 1) → ∃ y, f_X11_leftOf (nI v) (nI h) (nI d) = some y ∧ y < 0) := by
  have hE : f_X11_leftOf (nI v) (nI h) (nI d) = f_X11_leftOf_5 (nI h) (nI d) 19999 (nI (v - h)) (nI (0 + 1)) := by
    unfold f_X11_leftOf
    rw [f_X11_leftOf_5, if_neg (show ¬ nI d ≤ (0 : Int32) from nI_nle hd0 (by omega)), if_neg (nI_pos (show v < 2 ^ 31 by omega))]
    dsimp only [am_jn]
    rw [if_pos (show (0 : Int32) ≤ 0 by decide)]
    show f_X11_leftOf_5 (nI h) (nI d) 19999 (nI v - 0 - nI h) (0 + 1) = _
    rw [Int32.sub_zero, nI_sub hhv]; rfl
  obtain ⟨I1, I2⟩ := mlo_lp hh h0 hd 19999 0 (v - h) (by omega) (by omega) (by omega)
  rw [hE]
  refine ⟨fun hs => I1 (fun j hj => ?_), fun hlt => ?_⟩
  · rw [show d - 1 = j + 1 by omega, m_L] at hs; omega
  · cases hq : d - 1 with
    | zero => rw [hq, m_L] at hlt; omega
    | succ j =>
      rw [hq, m_L] at hlt
      exact I2 j (by omega) (by omega)
theorem mst_lp {h d : Nat} (hh : h ≤ 9) (h0 : 0 < h) (hd : d ≤ 20) (hd0 : 0 < d) (u : am_U) (K : Int32 → Option (Int32 × am_U)) : ∀ (f v : Nat), h ≤ v → v ≤ m_L h (d - 1) → m_L h (d - 1) < v + f → f_X11_store_24 u (nI h) (nI d) K f (nI v) = K (nI (m_L h (d - 1))) := by
  intro f
  induction f with
  | zero => intro v h1 h2 h3; omega
  | succ f ih =>
    intro v h1 h2 h3
    have hL := mL_le hh (d - 1) (by omega)
    obtain ⟨I1, I2⟩ := mlo_eq hh h0 hd hd0 (v := v) (by omega) h1
    rw [f_X11_store_24]
    rcases Nat.lt_or_ge v (m_L h (d - 1)) with q | q
    · obtain ⟨y, e, hy⟩ := I2 q
      rw [e, obs, if_neg (Int32.not_le.mpr hy), nI_1]
      exact ih (v + 1) (by omega) (by omega) (by omega)
    · have hlf : ∀ j w, w ≤ 2000 → m_lf h j w ≤ 2000 := by
        intro j
        induction j with
        | zero => intro w hw; exact hw
        | succ j ih2 => intro w hw; rw [m_lf]; exact ih2 _ (by omega)
      have hb := hlf (d - 1) (v - h) (by omega)
      rw [I1 q, obs, if_pos (nI_pos' (by omega)), show v = m_L h (d - 1) by omega]
theorem cst1_eq {h d : Nat} (hh : h ≤ 9) (hd : d ≤ 20) (hd0 : 0 < d) (u : am_U) (K : Int32 → Option (Int32 × am_U)) : f_X10_store_27 u (nI h) (nI d) K 20000 (nI h) 1 = K (nI (m_L h (d - 1))) := cst1_lp hh hd u K 20000 0 hd0 (by omega)
theorem cst2_eq {h d : Nat} (hh : h ≤ 9) (hd : d ≤ 20) (hd0 : 0 < d) (u : am_U) (c : Int32) (K : Int32 → Option (Int32 × am_U)) {v : Nat} (hv : v ≤ 1000) (hs : ∀ j, d - 1 = j + 1 → (10 * m_L h j + 8) / 9 ≤ v) : f_X10_store_54 u (nI h) (nI d) c K 20000 (nI v) 1 = K (nI (m_lf h (d - 1) v)) := cst2_lp hh hd u c K 20000 0 v hv hd0 (by omega) hs
theorem two_store (a1 a2 : Int32) : am_two (fun _ u => f_X10_store a1 a2 u) (fun _ u => f_X11_store a1 a2 u) := by
  intro pl hp u hI
  show ∃ v u1 u2, f_X10_store a1 a2 u = _ ∧ f_X11_store a1 a2 u1 = _ ∧ _
  rcases wi_cs a1 1 9 (by omega) (by omega) with w | ⟨h, h0, hh, ha, w⟩
  · refine ⟨-1, u, u, ?_, ?_, hI, fun _ _ => rfl⟩
    · unfold f_X10_store; rw [show f_X10_isWithin a1 1 9 = some 0 from w]; rfl
    · unfold f_X11_store; rw [in_eq, show f_X10_isWithin a1 1 9 = some 0 from w]; rfl
  rcases wi_cs a2 1 20 (by omega) (by omega) with w2 | ⟨d, hd0, hd, hb, w2⟩
  · refine ⟨-1, u, u, ?_, ?_, hI, fun _ _ => rfl⟩
    · unfold f_X10_store; rw [show f_X10_isWithin a1 1 9 = some 1 from w, show f_X10_isWithin a2 1 20 = some 0 from w2]
      simp only [obs, i10, i11, iT, iN]
    · unfold f_X11_store; rw [in_eq, in_eq, show f_X10_isWithin a1 1 9 = some 1 from w, show f_X10_isWithin a2 1 20 = some 0 from w2]
      simp only [obs, i10, i11, iT, iN]
  have hL := mL_le hh (d - 1) (by omega)
  have hge := mL_ge h (d - 1)
  obtain ⟨z, hz⟩ : ∃ z, nI (m_lf h (d - 1) (m_L h (d - 1) - h)) = z := ⟨_, rfl⟩
  refine ⟨nI (m_L h (d - 1)), am_w u 4 13 z, am_w (am_w u 4 13 z) 60 2 z, ?_, ?_, inv_tell hp hI z⟩
  · unfold f_X10_store
    rw [show f_X10_isWithin a1 1 9 = some 1 from w, show f_X10_isWithin a2 1 20 = some 1 from w2]
    simp only [obs, i10, i11, iT, iN, tell_c]
    rw [ha, hb, cst1_eq hh hd hd0, nI_sub hge, cst2_eq hh hd hd0 u _ _ (by omega) (fun j hj => ?_), hz]
    rw [hj, m_L]; omega
  · unfold f_X11_store
    rw [in_eq, in_eq, show f_X10_isWithin a1 1 9 = some 1 from w, show f_X10_isWithin a2 1 20 = some 1 from w2]
    simp only [obs, i10, i11, iT, iN]
    rw [ha, hb, mst_lp hh h0 hd hd0 _ _ 20000 h (Nat.le_refl h) hge (by omega), (mlo_eq hh h0 hd hd0 (v := m_L h (d - 1)) (by omega) hge).1 (Nat.le_refl _), hz]
    rfl
theorem ok_store {l : Launch} {g : am_G} (a1 a2 : Int32) : am_ok l g d_X10_store d_X11_store [.int a1, .int a2] am_isI := ok_II (fun B pl hL u => s_X10_store hL a1 a2 u) (fun B pl hL u => s_X11_store hL a1 a2 u) (two_store a1 a2)
