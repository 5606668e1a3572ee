/-! the way there -/
def m_wy (Q : pQ) : Nat → Nat → (Nat → Int32) → (Nat → Int32)
  | 0, _, R => R
  | d + 1, i, R => m_wy Q d (Q.2.2.1 i / 36) (fun b => if b = d then nI (Q.2.2.1 i % 36) else R b)
theorem wy_c {Q : pQ} : ∀ (d i : Nat) (R T : Nat → Int32), (∀ b, b < 60 → R b = T b) → ∀ b, b < 60 → m_wy Q d i R b = m_wy Q d i T b := by
  intro d
  induction d with
  | zero => intro i R T h b hb; exact h b hb
  | succ d ih =>
    intro i R T h b hb
    rw [m_wy, m_wy]
    exact ih _ _ _ (fun c hc => by
      show (if c = d then _ else R c) = (if c = d then _ else T c)
      rw [h c hc]) b hb
theorem cwy_lp {pz m T : Nat} {Z : Nat → Nat} {Q : pQ} (hpz : 91 ≤ pz) (hT : T + 1 < 91) (hw : p_wf m Z Q) : ∀ (d f i : Nat) (u : am_U), (∀ j, j < Q.1 → u (pz + 2) j = nI (Q.2.2.1 j)) → i < Q.1 → Q.2.2.2 i = d → d ≤ 60 → d < f → ∃ w, f_X6_writeWay_14 pz T f (nI d - 1) (nI i) u = some w ∧ (∀ b, w (T + 1) b = m_wy Q d i (u (T + 1)) b) ∧ ∀ a b, a ≠ T + 1 → w a b = u a b := by
  have hn := wf_n hw
  intro d
  induction d with
  | zero =>
    intro f i u h hi hd _ hf
    have : i = 0 := by
      rcases Nat.eq_zero_or_pos i with z | z
      · exact z
      · have := ((hw.1 i hi).2.2.2.2 z).2
        omega
    subst this
    obtain ⟨f, rfl⟩ : ∃ x, f = x + 1 := ⟨f - 1, by omega⟩
    rw [f_X6_writeWay_14, if_pos (show nI 0 ≤ (0 : Int32) by decide)]
    exact ⟨u, rfl, fun _ => rfl, fun _ _ _ => rfl⟩
  | succ d ih =>
    intro f i u h hi hd hd60 hf
    obtain ⟨f, rfl⟩ : ∃ x, f = x + 1 := ⟨f - 1, by omega⟩
    have hi0 : 0 < i := by
      rcases Nat.eq_zero_or_pos i with z | z
      · rw [z, hw.2.2.1] at hd; omega
      · exact z
    obtain ⟨g1, g2, g3, g4, g5⟩ := hw.1 i hi
    obtain ⟨g6, g7⟩ := g5 hi0
    obtain ⟨w, w1, w2, w3⟩ := ih f (Q.2.2.1 i / 36) (am_w u (T + 1) d (nI (Q.2.2.1 i % 36))) (fun j hj => by rw [am_w_n (by omega)]; exact h j hj) (by omega) (by omega) (by omega) (by omega)
    refine ⟨w, ?_, fun b => ?_, fun a b z => by rw [w3 a b z, am_w_n (by omega)]⟩
    · rw [f_X6_writeWay_14, if_neg (nI_nle hi0 (by omega)), nI_pred, if_neg (nI_pos (show d < 2 ^ 31 by omega)), am_ck_t (am_ix_nI (show i < 9261 by omega) (by omega)), am_ck_t (am_ix_nI (show d < 60 by omega) (by omega)), nI_clamp (show i < 2 ^ 31 by omega), nI_clamp (show d < 2 ^ 31 by omega), h i hi, show nI (Q.2.2.1 i) - nI (Q.2.2.1 i) / 36 * 36 = nI (Q.2.2.1 i % 36) from pk_rem (d := 36) (by omega) (by omega) (by omega), ← Int32.sub_eq_add_neg]
      show f_X6_writeWay_14 pz T f (nI d - 1) (am_w u (T + 1) d (nI (Q.2.2.1 i % 36)) (pz + 2) i / 36) (am_w u (T + 1) d (nI (Q.2.2.1 i % 36))) = _
      rw [am_w_n (by omega), h i hi, show nI (Q.2.2.1 i) / 36 = nI (Q.2.2.1 i / 36) from pk_div (d := 36) (by omega) (by omega) (by omega)]
      exact w1
    · rw [w2 b, m_wy]
      congr 1
      funext c
      rw [am_w_ap]
      by_cases z : c = d
      · rw [if_pos ⟨rfl, z⟩, if_pos z]
      · rw [if_neg (by omega), if_neg z]
theorem mwy_lp {m r : Nat} {J Z : Nat → Nat} {Q : pQ} (hr : r < 6) (v6 : Int32) (hw : p_wf m Z Q) : ∀ (d f i : Nat) (u : am_U), (∀ j, 0 < j → j < Q.1 → u 84 (Q.2.1 j) = nI (Q.2.1 (Q.2.2.1 j / 36)) ∧ u 85 (Q.2.1 j) = nI (Q.2.2.1 j % 36)) → i < Q.1 → Q.2.2.2 i = d → d ≤ 60 → d < f → ∃ w, f_X11_way_117 (nI r) v6 f (nI (Q.2.1 i)) (nI d - 1) u = some (v6, w) ∧ (∀ b, b < 60 → w 63 (60 * r + b) = m_wy Q d i (fun b => u 63 (60 * r + b)) b) ∧ ∀ a b, ¬ (a = 63 ∧ 60 * r ≤ b ∧ b < 60 * r + 60) → w a b = u a b := by
  have hn := wf_n hw
  intro d
  induction d with
  | zero =>
    intro f i u h hi hd _ hf
    obtain ⟨f, rfl⟩ : ∃ x, f = x + 1 := ⟨f - 1, by omega⟩
    rw [f_X11_way_117, if_pos (by decide)]
    exact ⟨u, rfl, fun _ _ => rfl, fun _ _ _ => rfl⟩
  | succ d ih =>
    intro f i u h hi hd hd60 hf
    obtain ⟨f, rfl⟩ : ∃ x, f = x + 1 := ⟨f - 1, by omega⟩
    have hi0 : 0 < i := by
      rcases Nat.eq_zero_or_pos i with z | z
      · rw [z, hw.2.2.1] at hd; omega
      · exact z
    obtain ⟨g1, g2, g3, g4, g5⟩ := hw.1 i hi
    obtain ⟨g6, g7⟩ := g5 hi0
    obtain ⟨k1, k2⟩ := h i hi0 hi
    obtain ⟨w, w1, w2, w3⟩ := ih f (Q.2.2.1 i / 36) (am_w u 63 (60 * r + d) (nI (Q.2.2.1 i % 36))) (fun j hj0 hj => by rw [am_w_n (by omega), am_w_n (by omega)]; exact h j hj0 hj) (by omega) (by omega) (by omega) (by omega)
    refine ⟨w, ?_, fun b hb => ?_, fun a b z => by rw [w3 a b z, am_w_n (by omega)]⟩
    · rw [f_X11_way_117, nI_pred, if_neg (nI_pos (show d < 2 ^ 31 by omega)), am_ck_t (am_ix_nI g1 (by omega)), nI_60, am_ck_t (am_ix_nI (show 60 * r + d < 360 by omega) (by omega)), nI_clamp (show Q.2.1 i < 2 ^ 31 by omega), nI_clamp (show 60 * r + d < 2 ^ 31 by omega), k2, ← Int32.sub_eq_add_neg]
      show f_X11_way_117 (nI r) v6 f (am_w u 63 (60 * r + d) (nI (Q.2.2.1 i % 36)) 84 (Q.2.1 i)) (nI d - 1) (am_w u 63 (60 * r + d) (nI (Q.2.2.1 i % 36))) = _
      rw [am_w_n (by omega), k1]
      exact w1
    · rw [w2 b hb, m_wy]
      refine congrFun (congrArg (m_wy Q d (Q.2.2.1 i / 36)) (funext fun c => ?_)) b
      rw [am_w_ap]
      by_cases z : c = d
      · rw [if_pos ⟨rfl, by omega⟩, if_pos z]
      · rw [if_neg (by omega), if_neg z]
theorem w85_lp {r : Nat} (hr : r < 6) (v5 v6 : Int32) (K : am_U → Option (Int32 × am_U)) : ∀ (f i : Nat) (u : am_U), i ≤ 60 → 60 < i + f → f_X11_way_85 (nI r) v5 v6 K f (nI i) u = K (am_fl u 63 (60 * r + i) (60 * r + 60) 0) := by
  intro f
  induction f with
  | zero => intro i u h1 h2; omega
  | succ f ih =>
    intro i u h1 h2
    rw [f_X11_way_85]
    rcases Nat.lt_or_ge i 60 with q | q
    · rw [if_neg (show ¬ (60 : Int32) ≤ nI i from nI_ge (b := 60) q (by omega)), nI_60, am_ck_t (am_ix_nI (show 60 * r + i < 360 by omega) (by omega)), nI_clamp (by omega), nI_1]
      show f_X11_way_85 (nI r) v5 v6 K f (nI (i + 1)) (am_w u 63 (60 * r + i) 0) = _
      rw [ih (i + 1) _ (by omega) (by omega), show 60 * r + (i + 1) = 60 * r + i + 1 by omega, am_fl_w (by omega)]
    · have : i = 60 := by omega
      subst this
      rw [if_pos (show (60 : Int32) ≤ nI 60 by decide), am_fl_e]
