/-! the reference's remembering -/
def am_s31 (u : am_U) (i : Nat) : am_U := fun a b => if a = 76 ∧ i ≤ b ∧ b < 1829 then u 76 (b + 31) else u a b
theorem am_s31_w {u : am_U} {i : Nat} (h : i < 1829) : am_s31 (am_w u 76 i (u 76 (i + 31))) (i + 1) = am_s31 u i := funext fun a => funext fun b => by
  unfold am_s31
  by_cases h1 : a = 76 ∧ i + 1 ≤ b ∧ b < 1829
  · rw [if_pos h1, if_pos (by omega), am_w_n (by omega)]
  · rw [if_neg h1]
    by_cases h2 : a = 76 ∧ b = i
    · rw [if_pos (by omega), h2.1, h2.2, am_w_s]
    · rw [if_neg (by omega), am_w_n h2]
theorem s31_lp (c : Int32) (K : am_U → Option am_U) : ∀ (f i : Nat) (u : am_U), i ≤ 1829 → 1829 < i + f → f_X11_remembers_14 c 31 K f (nI i) u = K (am_s31 u i) := by
  intro f
  induction f with
  | zero => intro i u h1 h2; omega
  | succ f ih =>
    intro i u h1 h2
    rw [f_X11_remembers_14]
    have e : (31 : Int32) * 59 = nI 1829 := by decide
    rw [e]
    rcases Nat.lt_or_ge i 1829 with q | q
    · rw [if_neg (nI_ge q (by omega)), show nI i + 31 = nI (i + 31) from nI_add _ 31, am_ck_t (am_ix_nI (show i + 31 < 1860 by omega) (by omega)), am_ck_t (am_ix_nI (show i < 1860 by omega) (by omega)), nI_clamp (by omega), nI_clamp (by omega), nI_1]
      show f_X11_remembers_14 c 31 K f (nI (i + 1)) (am_w u 76 i (u 76 (i + 31))) = _
      rw [ih (i + 1) _ (by omega) (by omega), am_s31_w q]
    · have : i = 1829 := by omega
      subst this
      rw [if_pos (nI_le (Nat.le_refl _) (by omega)), show am_s31 u 1829 = u from funext fun a => funext fun b => if_neg (by omega)]
theorem r54_lp (c : Int32) {s : Nat} (hs : s < 60) (K : am_U → Option am_U) : ∀ (f i : Nat) (u : am_U), u 60 26 = nI s → i ≤ 30 → 30 < i + f → f_X11_remembers_54 c 31 K f (nI i) u = K (am_cy u 76 (31 * s) 75 0 i 30) := by
  intro f
  induction f with
  | zero => intro i u h0 h1 h2; omega
  | succ f ih =>
    intro i u h0 h1 h2
    rw [f_X11_remembers_54]
    rcases Nat.lt_or_ge i 30 with q | q
    · rw [if_neg (show ¬ (30 : Int32) ≤ nI i from nI_ge (b := 30) q (by decide)), h0, show (31 : Int32) * nI s = nI (31 * s) from nI_mul 31 s, nI_add, am_ck_t (am_ix_nI q (by omega)), am_ck_t (am_ix_nI (show 31 * s + i < 1860 by omega) (by omega)), nI_clamp (by omega), nI_clamp (by omega), nI_1]
      show f_X11_remembers_54 c 31 K f (nI (i + 1)) (am_w u 76 (31 * s + i) (u 75 i)) = _
      rw [ih (i + 1) _ (by rw [am_w_n (by omega)]; exact h0) (by omega) (by omega), ← am_cy_w (by omega) q, Nat.zero_add]
    · have : i = 30 := by omega
      subst this
      rw [if_pos (show (30 : Int32) ≤ nI 30 from nI_le (Nat.le_refl _) (by omega)), am_cy_e]
def m_rm (u : am_U) (s : Nat) (c : Int32) : am_U := am_w (am_w (am_cy u 76 (31 * s) 75 0 0 30) 76 (31 * s + 30) c) 60 26 (nI (s + 1))
def m_rk (c : Int32) (v : am_U) : Option am_U := f_X11_remembers_54 c 31 (fun (c4u : am_U) =>
      am_ck (am_ix ((31 * (c4u 60 26)) + 30) 1860) (
      let u5 : am_U := am_w c4u 76 ((31 * (c4u 60 26)) + 30).toNatClampNeg c
      let u7 : am_U := am_w u5 60 26 ((u5 60 26) + 1)
      some u7)) 20000 0 v
theorem rk_eq {v : am_U} {s : Nat} (c : Int32) (hs : s < 60) (e : v 60 26 = nI s) : m_rk c v = some (m_rm v s c) := by
  unfold m_rk
  have h := r54_lp c hs (fun (c4u : am_U) =>
      am_ck (am_ix ((31 * (c4u 60 26)) + 30) 1860) (
      let u5 : am_U := am_w c4u 76 ((31 * (c4u 60 26)) + 30).toNatClampNeg c
      let u7 : am_U := am_w u5 60 26 ((u5 60 26) + 1)
      some u7)) 20000 0 v e (by omega) (by omega)
  refine Eq.trans h ?_
  have e1 : am_cy v 76 (31 * s) 75 0 0 30 60 26 = nI s := by rw [am_cy_n (by omega)]; exact e
  show am_ck (am_ix (31 * (am_cy v 76 (31 * s) 75 0 0 30 60 26) + 30) 1860) (some (am_w (am_w (am_cy v 76 (31 * s) 75 0 0 30) 76 (31 * (am_cy v 76 (31 * s) 75 0 0 30 60 26) + 30).toNatClampNeg c) 60 26 (am_w (am_cy v 76 (31 * s) 75 0 0 30) 76 (31 * (am_cy v 76 (31 * s) 75 0 0 30 60 26) + 30).toNatClampNeg c 60 26 + 1))) = _
  rw [e1, show (31 : Int32) * nI s = nI (31 * s) from nI_mul 31 s, show nI (31 * s) + 30 = nI (31 * s + 30) from nI_add _ 30, am_ck_t (am_ix_nI (by omega) (by omega)), nI_clamp (by omega), am_w_n (by omega), e1, nI_1]
  rfl
theorem remm_unf (c : Int32) (u : am_U) : f_X11_remembers c u = if ¬ u 60 26 = 60 then m_rk c u else f_X11_remembers_14 c 31 (fun c11u => m_rk c (am_w c11u 60 26 ((c11u 60 26) - 1))) 20000 0 u := by
  unfold f_X11_remembers m_rk
  rfl
theorem rm_o {v : am_U} {s a b : Nat} {c : Int32} (h1 : a ≠ 76) (h2 : ¬ (a = 60 ∧ b = 26)) : m_rm v s c a b = v a b := by
  unfold m_rm
  rw [am_w_n h2, am_w_n (by omega), am_cy_n (by omega)]
theorem rm_n {v : am_U} {s j i : Nat} {c : Int32} (h : j < s) (hi : i < 31) : m_rm v s c 76 (31 * j + i) = v 76 (31 * j + i) := by
  unfold m_rm
  rw [am_w_n (by omega), am_w_n (by omega), am_cy_n (by omega)]
theorem rm_s {v : am_U} {s i : Nat} {c : Int32} (hi : i < 31) : m_rm v s c 76 (31 * s + i) = if i < 30 then v 75 i else c := by
  unfold m_rm
  rw [am_w_n (by omega)]
  by_cases q : i < 30
  · rw [am_w_n (by omega), am_cy_s (by omega), if_pos q, Nat.zero_add]
  · rw [show i = 30 by omega, am_w_s, if_neg (by omega)]
theorem rem_m {u : am_U} {s : Nat} {L : Nat → Nat → Int32} (c : Int32) (hs : s ≤ 60) (h : d_M u s L) : ∃ w, f_X11_remembers c u = some w ∧ d_M w (d_s s) (d_p s L (fun i => if i < 30 then u 75 i else c)) ∧ ∀ a b, a ≠ 76 → ¬ (a = 60 ∧ b = 26) → w a b = u a b := by
  obtain ⟨h1, h2⟩ := h
  by_cases h60 : s = 60
  · subst h60
    obtain ⟨v, hv⟩ : ∃ v, am_w (am_s31 u 0) 60 26 (nI 59) = v := ⟨_, rfl⟩
    have e : v 60 26 = nI 59 := by rw [← hv, am_w_s]
    have eo : ∀ a b, a ≠ 76 → ¬ (a = 60 ∧ b = 26) → v a b = u a b := fun a b q1 q2 => by rw [← hv, am_w_n q2]; exact if_neg (by omega)
    have e6 : ∀ b, b < 1829 → v 76 b = u 76 (b + 31) := fun b hb => by rw [← hv, am_w_n (by omega)]; exact if_pos (by omega)
    refine ⟨m_rm v 59 c, ?_, ⟨?_, fun j hj i hi => ?_⟩, fun a b q1 q2 => by rw [rm_o q1 q2, eo a b q1 q2]⟩
    · rw [remm_unf, if_neg (fun q => q h1), show (0 : Int32) = nI 0 from rfl, s31_lp c _ 20000 0 u (by omega) (by omega)]
      show m_rk c (am_w (am_s31 u 0) 60 26 (u 60 26 - 1)) = _
      rw [h1, show nI 60 - 1 = nI 59 from rfl, hv]
      exact rk_eq c (by omega) e
    · unfold m_rm; rw [am_w_s]; rfl
    · have hj : j < 60 := hj
      unfold d_p
      simp only [if_true]
      by_cases q : j < 59
      · simp only [q, if_true]
        rw [rm_n q hi, e6 _ (by omega), show 31 * j + i + 31 = 31 * (j + 1) + i by omega]
        exact h2 (j + 1) (by omega) i hi
      · simp only [q, if_false]
        have hj59 : j = 59 := by omega
        subst hj59
        rw [rm_s hi, eo 75 i (by omega) (by omega)]
  · refine ⟨m_rm u s c, ?_, ⟨?_, fun j hj i hi => ?_⟩, fun a b q1 q2 => rm_o q1 q2⟩
    · rw [remm_unf, if_pos (show ¬ u 60 26 = 60 from fun q => by
        rw [h1] at q
        exact h60 ((nI_eq (b := 60) (by omega) (by omega)).mp q))]
      exact rk_eq c (by omega) h1
    · unfold m_rm d_s; rw [am_w_s, if_neg h60]
    · unfold d_s at hj
      rw [if_neg h60] at hj
      unfold d_p
      simp only [h60, if_false]
      by_cases q : j < s
      · simp only [q, if_true]
        rw [rm_n q hi]; exact h2 j q i hi
      · simp only [q, if_false]
        have hjs : j = s := by omega
        subst hjs
        rw [rm_s hi]
/-- both remember; then the scene changes, of both alike: what is to be shown of it -/
theorem deed_inv {pl : Nat} (hp : pl = 30 ∨ pl = 35) {u w : am_U} (hI : am_Inv pl u) {s : Nat} {L : Nat → Nat → Int32} {c : Int32} (hs : s ≤ 60) (hv : ∀ j, j < s → i_vs u (L j)) (hC : d_C w (d_s s) (d_p s L (fun i => if i < 30 then m_sc u i else c))) (hM : d_M w (d_s s) (d_p s L (fun i => if i < 30 then u 75 i else c)))
    (hS : i_scene w) (hm : i_msg w) (e : ∀ a b, ¬ c_scene a → ¬ c_msg a b → ¬ (a = 14) → ¬ (a = 16) → ¬ (a = 17) → ¬ (a = 76) → ¬ (a = 60 ∧ b = 26) → w a b = u a b) : am_Inv pl w := by
  have ev : ∀ a b, c_vs a b → w a b = u a b := fun a b q => by unfold c_vs at q; exact e a b (by unfold c_scene; omega) (by unfold c_msg; omega) (by omega) (by omega) (by omega) (by omega) (by omega)
  have hsc := scn_eq hI.2.2.2.2.1
  have hC2 : d_C w (d_s s) (d_p s L (fun i => if i < 30 then u 75 i else c)) := by
    have he : (fun i => if i < 30 then m_sc u i else c) = (fun i => if i < 30 then u 75 i else c) := funext fun i => by
      by_cases q : i < 30
      · rw [if_pos q, if_pos q, hsc i q]
      · rw [if_neg q, if_neg q]
    rw [he] at hC
    exact hC
  have hD : i_deeds w := by
    refine deeds_of (by unfold d_s; split <;> omega) hC2 hM (fun j hj => ?_)
    unfold d_s at hj
    unfold d_p
    have hx : i_vs u (fun i => if i < 30 then u 75 i else c) := fr_vs hI.2.2.2.2.1.2.2.2.2 (fun _ _ _ => rfl) (fun i hi => if_pos hi)
    by_cases h60 : s = 60
    · simp only [h60, if_true] at hj ⊢
      by_cases q : j < 59
      · simp only [q, if_true]; exact fr_vs (hv (j + 1) (by omega)) ev (fun _ _ => rfl)
      · simp only [q, if_false]; exact fr_vs hx ev (fun _ _ => rfl)
    · simp only [h60, if_false] at hj ⊢
      by_cases q : j < s
      · simp only [q, if_true]; exact fr_vs (hv j q) ev (fun _ _ => rfl)
      · simp only [q, if_false]; exact fr_vs hx ev (fun _ _ => rfl)
  obtain ⟨g1, g2, g3, g4, g5, g6, g7, g8⟩ := hI
  unfold c_scene c_msg at e
  refine ⟨hm, fr_rows g2 fun a b q => ?_, fr_txts g3 fun a b q => ?_, fr_plan hp g4 fun a b q => ?_, hS, hD, fr_kept g7 (fun a b q => ?_) ev, fr_burn g8 fun a b q => ?_⟩
  · unfold c_rows at q; exact e a b (by omega) (by omega) (by omega) (by omega) (by omega) (by omega) (by omega)
  · unfold c_txts at q; exact e a b (by omega) (by omega) (by omega) (by omega) (by omega) (by omega) (by omega)
  · unfold c_plan at q; exact e a b (by omega) (by omega) (by omega) (by omega) (by omega) (by omega) (by omega)
  · unfold c_kept at q; exact e a b (by omega) (by omega) (by omega) (by omega) (by omega) (by omega) (by omega)
  · unfold c_burn at q; exact e a b (by omega) (by omega) (by omega) (by omega) (by omega) (by omega) (by omega)
