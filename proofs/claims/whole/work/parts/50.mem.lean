/-! scenes that are kept -/
def am_cy (u : am_U) (c o s p i n : Nat) : am_U := fun a b => if a = c ∧ o + i ≤ b ∧ b < o + n then u s (p + (b - o)) else u a b
theorem am_cy_n {u : am_U} {c o s p i n a b : Nat} (h : ¬ (a = c ∧ o + i ≤ b ∧ b < o + n)) : am_cy u c o s p i n a b = u a b := if_neg h
theorem am_cy_c {u : am_U} {c o s p i n a : Nat} (h : a ≠ c) : am_cy u c o s p i n a = u a := funext fun b => am_cy_n (by omega)
theorem am_cy_s {u : am_U} {c o s p i n j : Nat} (h : i ≤ j ∧ j < n) : am_cy u c o s p i n c (o + j) = u s (p + j) := by
  unfold am_cy
  rw [if_pos ⟨rfl, by omega, by omega⟩, show o + j - o = j by omega]
theorem am_cy_e (u : am_U) (c o s p n : Nat) : am_cy u c o s p n n = u := funext fun a => funext fun b => am_cy_n (by omega)
theorem am_cy_w {u : am_U} {c o s p i n : Nat} (hc : s ≠ c) (h : i < n) : am_cy (am_w u c (o + i) (u s (p + i))) c o s p (i + 1) n = am_cy u c o s p i n := funext fun a => funext fun b => by
  unfold am_cy
  by_cases h1 : a = c ∧ o + (i + 1) ≤ b ∧ b < o + n
  · rw [if_pos h1, if_pos (by omega), am_w_n (by omega)]
  · rw [if_neg h1]
    by_cases h2 : a = c ∧ b = o + i
    · rw [if_pos (by omega), h2.1, h2.2, am_w_s, show o + i - o = i by omega]
    · rw [if_neg (by omega), am_w_n h2]
theorem nI_30 (r i : Nat) : (30 : Int32) * nI r + nI i = nI (30 * r + i) := by
  show nI 30 * nI r + nI i = _
  rw [nI_mul, nI_add]
theorem keep_lp {k : Nat} (hk : k < 3) (K : am_U → Option (Int32 × am_U)) : ∀ (f i : Nat) (u : am_U), i ≤ 30 → 30 < i + f → f_X11_keep_23 (nI k) K f (nI i) u = K (am_cy u 78 (30 * k) 75 0 i 30) := by
  intro f
  induction f with
  | zero => intro i u h1 h2; omega
  | succ f ih =>
    intro i u h1 h2
    rw [f_X11_keep_23]
    rcases Nat.lt_or_ge i 30 with q | q
    · rw [if_neg (show ¬ (30 : Int32) ≤ nI i from nI_ge (b := 30) q (by decide)), nI_30, am_ck_t (am_ix_nI q (by omega)), am_ck_t (am_ix_nI (show 30 * k + i < 90 by omega) (by omega)), nI_clamp (by omega), nI_clamp (by omega), nI_1]
      show f_X11_keep_23 (nI k) K f (nI (i + 1)) (am_w u 78 (30 * k + i) (u 75 i)) = _
      rw [ih (i + 1) _ (by omega) (by omega), ← am_cy_w (by omega) q, Nat.zero_add]
    · have : i = 30 := by omega
      subst this
      rw [if_pos (show (30 : Int32) ≤ nI 30 from nI_le (Nat.le_refl _) (by omega)), am_cy_e]
theorem on_lp {k : Nat} (hk : k < 3) (K : am_U → Option (Int32 × am_U)) : ∀ (f i : Nat) (u : am_U), i ≤ 30 → 30 < i + f → f_X11_on_28 (nI k) K f (nI i) u = K (am_cy u 75 0 78 (30 * k) i 30) := by
  intro f
  induction f with
  | zero => intro i u h1 h2; omega
  | succ f ih =>
    intro i u h1 h2
    rw [f_X11_on_28]
    rcases Nat.lt_or_ge i 30 with q | q
    · rw [if_neg (show ¬ (30 : Int32) ≤ nI i from nI_ge (b := 30) q (by decide)), nI_30, am_ck_t (am_ix_nI (show 30 * k + i < 90 by omega) (by omega)), am_ck_t (am_ix_nI q (by omega)), nI_clamp (by omega), nI_clamp (by omega), nI_1]
      show f_X11_on_28 (nI k) K f (nI (i + 1)) (am_w u 75 i (u 78 (30 * k + i))) = _
      rw [ih (i + 1) _ (by omega) (by omega), ← am_cy_w (by omega) q, Nat.zero_add]
    · have : i = 30 := by omega
      subst this
      rw [if_pos (show (30 : Int32) ≤ nI 30 from nI_le (Nat.le_refl _) (by omega)), am_cy_e]
theorem undo_lp {s : Nat} (hs : s < 60) (K : am_U → Option (Int32 × am_U)) : ∀ (f i : Nat) (u : am_U), i ≤ 30 → 30 < i + f → f_X11_undo_30 (nI (31 * s)) K f (nI i) u = K (am_cy u 75 0 76 (31 * s) i 30) := by
  intro f
  induction f with
  | zero => intro i u h1 h2; omega
  | succ f ih =>
    intro i u h1 h2
    rw [f_X11_undo_30]
    rcases Nat.lt_or_ge i 30 with q | q
    · rw [if_neg (show ¬ (30 : Int32) ≤ nI i from nI_ge (b := 30) q (by decide)), nI_add, am_ck_t (am_ix_nI (show 31 * s + i < 1860 by omega) (by omega)), am_ck_t (am_ix_nI q (by omega)), nI_clamp (by omega), nI_clamp (by omega), nI_1]
      show f_X11_undo_30 (nI (31 * s)) K f (nI (i + 1)) (am_w u 75 i (u 76 (31 * s + i))) = _
      rw [ih (i + 1) _ (by omega) (by omega), ← am_cy_w (by omega) q, Nat.zero_add]
    · have : i = 30 := by omega
      subst this
      rw [if_pos (show (30 : Int32) ≤ nI 30 from nI_le (Nat.le_refl _) (by omega)), am_cy_e]
/-- the scene that is, in a row -/
def m_sc (u : am_U) (i : Nat) : Int32 := if i < 6 then u 9 i else if i < 12 then u 10 (i - 6) else if i < 18 then u 11 (i - 12) else if i < 23 then u 12 (i - 18) else if i < 28 then u 13 (i - 23) else if i = 28 then u 8 5 else u 8 6
theorem scn_eq {u : am_U} (h : i_scene u) : ∀ i, i < 30 → m_sc u i = u 75 i := by
  intro i hi
  obtain ⟨h1, h2, h3, h4, -⟩ := h
  unfold m_sc
  split
  · exact (h1 i (by omega)).1
  · split
    · rw [(h1 (i - 6) (by omega)).2.1, show 6 + (i - 6) = i by omega]
    · split
      · rw [(h1 (i - 12) (by omega)).2.2, show 12 + (i - 12) = i by omega]
      · split
        · rw [(h2 (i - 18) (by omega)).1, show 18 + (i - 18) = i by omega]
        · split
          · rw [(h2 (i - 23) (by omega)).2, show 23 + (i - 23) = i by omega]
          · split
            · next q => rw [h3, q]
            · rw [h4, show i = 29 by omega]
def am_sv (u : am_U) (c o : Nat) (S : Nat → Int32) : am_U := fun a b => if a = c ∧ o ≤ b ∧ b < o + 30 then S (b - o) else u a b
theorem cp_ok {a b n n0 n1 : Nat} (h1 : a + n ≤ n0) (h2 : b + n ≤ n1) (h3 : n0 < 2 ^ 31) (h4 : n1 < 2 ^ 31) : am_cp (nI a) (nI b) (nI n) n0 n1 = true := by
  unfold am_cp
  rw [nI_clamp (by omega), nI_clamp (by omega), nI_clamp (by omega)]
  simp only [Bool.and_eq_true, decide_eq_true_eq, Nat.ble_eq]
  exact ⟨nI_pos' (by omega), nI_pos' (by omega), nI_pos' (by omega), h1, h2⟩
theorem rw_cpy (u : am_U) (c : Nat) (f : Nat → Int32) (sp dp n a b : Nat) : am_rw u c (va_cpy f (u c) sp dp n) a b = if a = c ∧ dp ≤ b ∧ b < dp + n then f (sp + (b - dp)) else u a b := by
  unfold am_rw va_cpy
  by_cases h : a = c
  · rw [if_pos h]
    by_cases h2 : dp ≤ b ∧ b < dp + n
    · rw [if_pos h2, if_pos ⟨h, h2⟩]
    · rw [if_neg h2, if_neg (fun q => h2 q.2), h]
  · rw [if_neg h, if_neg (fun q => h q.1)]
theorem rw_cpy_c {u : am_U} {c a : Nat} {r : Nat → Int32} (h : a ≠ c) : am_rw u c r a = u a := am_rw_n h
theorem save_eq {t N s : Nat} (ht : 13 < t) (hs : 30 * s + 30 ≤ N) (hN : N < 2 ^ 30) (u : am_U) : f_X4_save t N (nI s) u = some (am_sv u (t + 1) (30 * s) (m_sc u)) := by
  have e0 : nI s * 30 = nI (30 * s) := by
    show nI s * nI 30 = _
    rw [nI_mul, Nat.mul_comm]
  have hsl : f_X4_isSlot t N (nI (30 * s)) u = some 1 := by
    unfold f_X4_isSlot
    rw [if_neg (nI_pos (by omega)), show nI (30 * s) + 30 = nI (30 * s + 30) from nI_add _ 30, if_neg (nI_nlt (by omega) (by omega))]
  unfold f_X4_save
  rw [e0, hsl]
  have k6 : (6 : Int32).toNatClampNeg = 6 := rfl
  have k5 : (5 : Int32).toNatClampNeg = 5 := rfl
  have k0 : (0 : Int32).toNatClampNeg = 0 := rfl
  have c0 : (nI (30 * s) + 0).toNatClampNeg = 30 * s := by rw [show nI (30 * s) + 0 = nI (30 * s + 0) from nI_add _ 0, nI_clamp (by omega)]; rfl
  have c6 : (nI (30 * s) + 6).toNatClampNeg = 30 * s + 6 := by rw [show nI (30 * s) + 6 = nI (30 * s + 6) from nI_add _ 6, nI_clamp (by omega)]
  have c12 : (nI (30 * s) + 12).toNatClampNeg = 30 * s + 12 := by rw [show nI (30 * s) + 12 = nI (30 * s + 12) from nI_add _ 12, nI_clamp (by omega)]
  have c18 : (nI (30 * s) + 18).toNatClampNeg = 30 * s + 18 := by rw [show nI (30 * s) + 18 = nI (30 * s + 18) from nI_add _ 18, nI_clamp (by omega)]
  have c23 : (nI (30 * s) + 23).toNatClampNeg = 30 * s + 23 := by rw [show nI (30 * s) + 23 = nI (30 * s + 23) from nI_add _ 23, nI_clamp (by omega)]
  have c28 : (nI (30 * s) + 28).toNatClampNeg = 30 * s + 28 := by rw [show nI (30 * s) + 28 = nI (30 * s + 28) from nI_add _ 28, nI_clamp (by omega)]
  have c29 : (nI (30 * s) + 29).toNatClampNeg = 30 * s + 29 := by rw [show nI (30 * s) + 29 = nI (30 * s + 29) from nI_add _ 29, nI_clamp (by omega)]
  have g0 : am_cp 0 (nI (30 * s) + 0) 6 6 N = true := by rw [show nI (30 * s) + 0 = nI (30 * s + 0) from nI_add _ 0]; exact cp_ok (a := 0) (n := 6) (by omega) (by omega) (by omega) (by omega)
  have g6 : am_cp 0 (nI (30 * s) + 6) 6 6 N = true := by rw [show nI (30 * s) + 6 = nI (30 * s + 6) from nI_add _ 6]; exact cp_ok (a := 0) (n := 6) (by omega) (by omega) (by omega) (by omega)
  have g12 : am_cp 0 (nI (30 * s) + 12) 6 6 N = true := by rw [show nI (30 * s) + 12 = nI (30 * s + 12) from nI_add _ 12]; exact cp_ok (a := 0) (n := 6) (by omega) (by omega) (by omega) (by omega)
  have g18 : am_cp 0 (nI (30 * s) + 18) 5 5 N = true := by rw [show nI (30 * s) + 18 = nI (30 * s + 18) from nI_add _ 18]; exact cp_ok (a := 0) (n := 5) (by omega) (by omega) (by omega) (by omega)
  have g23 : am_cp 0 (nI (30 * s) + 23) 5 5 N = true := by rw [show nI (30 * s) + 23 = nI (30 * s + 23) from nI_add _ 23]; exact cp_ok (a := 0) (n := 5) (by omega) (by omega) (by omega) (by omega)
  have g28 : am_ix (nI (30 * s) + 28) N = true := by rw [show nI (30 * s) + 28 = nI (30 * s + 28) from nI_add _ 28]; exact am_ix_nI (by omega) (by omega)
  have g29 : am_ix (nI (30 * s) + 29) N = true := by rw [show nI (30 * s) + 29 = nI (30 * s + 29) from nI_add _ 29]; exact am_ix_nI (by omega) (by omega)
  rw [g0, g6, g12, g18, g23, g28, g29, c0, c6, c12, c18, c23, c28, c29, k0, k5, k6]
  show some _ = some _
  congr 1
  funext a b
  unfold am_sv m_sc
  simp only [am_w_ap, rw_cpy]
  by_cases ha : a = t + 1
  · subst ha
    by_cases hb : 30 * s ≤ b ∧ b < 30 * s + 30
    · obtain ⟨j, rfl⟩ : ∃ j, b = 30 * s + j := ⟨b - 30 * s, by omega⟩
      have hj : j < 30 := by omega
      refine Eq.trans ?_ (Eq.symm (if_pos ⟨rfl, hb⟩))
      rw [show 30 * s + j - 30 * s = j by omega]
      have n8 : ¬ (8 = t + 1) := by omega
      have n9 : ¬ (9 = t + 1) := by omega
      have n10 : ¬ (10 = t + 1) := by omega
      have n11 : ¬ (11 = t + 1) := by omega
      have n12 : ¬ (12 = t + 1) := by omega
      have n13 : ¬ (13 = t + 1) := by omega
      simp only [n8, n10, n11, n12, n13, false_and, if_false, true_and]
      by_cases q29 : j = 29
      · subst q29; simp
      · rw [if_neg (by omega)]
        by_cases q28 : j = 28
        · subst q28; simp
        · rw [if_neg (by omega)]
          by_cases q23 : 23 ≤ j
          · rw [if_pos (by omega), if_neg (by omega), if_neg (by omega), if_neg (by omega), if_neg (by omega), if_pos (by omega), show 0 + (30 * s + j - (30 * s + 23)) = j - 23 by omega]
          · rw [if_neg (by omega)]
            by_cases q18 : 18 ≤ j
            · rw [if_pos (by omega), if_neg (by omega), if_neg (by omega), if_neg (by omega), if_pos (by omega), show 0 + (30 * s + j - (30 * s + 18)) = j - 18 by omega]
            · rw [if_neg (by omega)]
              by_cases q12 : 12 ≤ j
              · rw [if_pos (by omega), if_neg (by omega), if_neg (by omega), if_pos (by omega), show 0 + (30 * s + j - (30 * s + 12)) = j - 12 by omega]
              · rw [if_neg (by omega)]
                by_cases q6 : 6 ≤ j
                · rw [if_pos (by omega), if_neg (by omega), if_pos (by omega), show 0 + (30 * s + j - (30 * s + 6)) = j - 6 by omega]
                · rw [if_neg (by omega), if_pos (by omega), if_pos (by omega), Nat.zero_add]
    · rw [if_neg (by omega), if_neg (by omega), if_neg (by omega), if_neg (by omega), if_neg (by omega), if_neg (by omega), if_neg (by omega), if_neg (by omega)]
  · rw [if_neg (by omega), if_neg (by omega), if_neg (by omega), if_neg (by omega), if_neg (by omega), if_neg (by omega), if_neg (by omega), if_neg (by omega)]
