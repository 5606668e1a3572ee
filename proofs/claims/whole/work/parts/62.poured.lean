/-! what is poured -/
def m_po (r : Nat) : Nat → Nat
  | 0 => 0
  | v + 1 => if (v + 1) - (v + 1 + 9) / 10 ≤ r then v + 1 else m_po r v
def m_tk (m r : Nat) : Nat := if (10 * r + 9) / 9 < m then (10 * r + 9) / 9 else m
theorem po_tk : ∀ m, m < 21 → ∀ r, r < 21 → m_po r m = m_tk m r := by decide +kernel
theorem ten_nI {v : Nat} (hv : v ≤ 1000) : (nI v + 9) / 10 = nI ((v + 9) / 10) := by
  rw [show nI v + 9 = nI (v + 9) from nI_add _ 9]
  exact pk_div (d := 10) (by omega) (by omega) (by omega)
theorem po_lp {r : Nat} (hr : r ≤ 20) : ∀ (f v : Nat), v ≤ 20 → v < f → f_X11_pouredOf_2 (nI r) f (nI v) = some (nI (m_po r v)) := by
  intro f
  induction f with
  | zero => intro v _ h; omega
  | succ f ih =>
    intro v hv h
    rw [f_X11_pouredOf_2]
    cases v with
    | zero => rw [if_pos (show nI 0 ≤ (0 : Int32) by decide)]; rfl
    | succ v =>
      rw [if_neg (nI_nle (by omega) (by omega))]
      unfold f_X11_tenth
      show (if nI (v + 1) - (nI (v + 1) + 9) / 10 ≤ nI r then some (nI (v + 1)) else f_X11_pouredOf_2 (nI r) f (nI (v + 1) + -1)) = _
      rw [ten_nI (by omega), nI_sub (by omega), m_po]
      by_cases q : v + 1 - (v + 1 + 9) / 10 ≤ r
      · rw [if_pos q, if_pos (nI_le q (by omega))]
      · rw [if_neg q, if_neg (nI_ge (by omega) (by omega)), ← Int32.sub_eq_add_neg, nI_pred]
        exact ih v (by omega) (by omega)
theorem poured_eq {m r : Nat} (hm : m ≤ 20) (hr : r ≤ 20) : f_X11_pouredOf (nI m) (nI r) = some (nI (m_tk m r)) := by
  unfold f_X11_pouredOf
  rw [← po_tk m (by omega) r (by omega)]
  exact po_lp hr 20000 m hm (by omega)
theorem taken_eq {m r : Nat} (hm : m ≤ 20) (hr : r ≤ 20) : f_X2_taken (nI m) (nI r) = some (nI (m_tk m r)) := by
  unfold f_X2_taken f_J9_min_7cf53 m_tk
  rw [show (10 : Int32) * nI r = nI (10 * r) from nI_mul 10 r, show nI (10 * r) + 9 = nI (10 * r + 9) from nI_add _ 9, show nI (10 * r + 9) / 9 = nI ((10 * r + 9) / 9) from pk_div (d := 9) (by omega) (by omega) (by omega)]
  by_cases q : (10 * r + 9) / 9 < m
  · rw [if_pos q, if_pos (nI_lt q (by omega))]; rfl
  · rw [if_neg q, if_neg (nI_nlt (by omega) (by omega))]; rfl
theorem over_eq {t : Nat} (ht : t ≤ 1000) : f_X2_comesOver (nI t) = some (nI (t - (t + 9) / 10)) := by
  unfold f_X2_comesOver f_X2_tenthsUp
  show some (nI t - (nI t + 9) / 10) = _
  rw [ten_nI ht, nI_sub (by omega)]
