/-! the reference's first state -/
theorem ls2_lp (K : am_U → Option am_U) : ∀ (f i : Nat) (u : am_U), i ≤ 9261 → 9261 < i + f → f_X11_layStates_2 K f (nI i) u = K (am_fl u 82 i 9261 (-9)) := by
  intro f
  induction f with
  | zero => intro i u h1 h2; omega
  | succ f ih =>
    intro i u h1 h2
    rw [f_X11_layStates_2]
    rcases Nat.lt_or_ge i 9261 with q | q
    · rw [if_neg (show ¬ (9261 : Int32) ≤ nI i from nI_ge (b := 9261) q (by omega)), am_ck_t (am_ix_nI q (by omega)), nI_clamp (by omega), nI_1]
      show f_X11_layStates_2 K f (nI (i + 1)) (am_w u 82 i (-9)) = _
      rw [ih (i + 1) _ (by omega) (by omega), am_fl_w q]
    · have : i = 9261 := by omega
      subst this
      rw [if_pos (show (9261 : Int32) ≤ nI 9261 by decide), am_fl_e]
theorem ls25_lp {m : Nat} {J L : Nat → Nat} (hm : m ≤ 3) (hJ : ∀ a, a < m → J a < 6) (K : am_U → Option am_U) : ∀ (f i : Nat) (u : am_U), u 60 32 = nI m → (∀ a, a < m → u 80 a = nI (J a) ∧ u 75 (J a) = nI (L (J a))) → i ≤ m → m < i + f → ∃ w, f_X11_layStates_25 K f (nI i) u = K w ∧ (∀ a, i ≤ a → a < m → w 81 a = nI (L (J a))) ∧ (∀ a, a < i → w 81 a = u 81 a) ∧ ∀ a b, a ≠ 81 → w a b = u a b := by
  intro f
  induction f with
  | zero => intro i u _ _ h1 h2; omega
  | succ f ih =>
    intro i u e h h1 h2
    rw [f_X11_layStates_25, e]
    rcases Nat.lt_or_ge i m with q | q
    · obtain ⟨k1, k2⟩ := h i q
      have hj := hJ i q
      obtain ⟨w, w1, w2, w3, w4⟩ := ih (i + 1) (am_w u 81 i (nI (L (J i)))) (by rw [am_w_n (by omega)]; exact e) (fun a ha => by rw [am_w_n (by omega), am_w_n (by omega)]; exact h a ha) (by omega) (by omega)
      refine ⟨w, ?_, fun a z1 z2 => ?_, fun a z => ?_, fun a b z => by rw [w4 a b z, am_w_n (by omega)]⟩
      · rw [if_neg (nI_ge q (by omega)), am_ck_t (am_ix_nI (show i < 6 by omega) (by omega)), nI_clamp (by omega), k1, show (0 : Int32) + nI (J i) = nI (J i) from (nI_add 0 _).trans (by rw [Nat.zero_add]), am_ck_t (am_ix_nI (show J i < 30 by omega) (by omega)), am_ck_t (am_ix_nI (show i < 3 by omega) (by omega)), nI_clamp (by omega), k2, nI_1]
        exact w1
      · by_cases z : a = i
        · rw [z, w3 i (by omega), am_w_s]
        · exact w2 a (by omega) z2
      · rw [w3 a (by omega), am_w_n (by omega)]
    · rw [if_pos (nI_le (show m ≤ i by omega) (by omega))]
      exact ⟨u, rfl, fun a z1 z2 => by omega, fun _ _ => rfl, fun _ _ _ => rfl⟩
theorem lay_m {n : Nat} {u : am_U} {L Zs : Nat → Nat} {H : List Nat} (hn : n ≤ 6) (hmem : ∀ a, a < H.length → H.getD a 0 < n) (hL : ∀ x, x < n → u 75 x = nI (L x) ∧ u 70 x = nI (Zs x)) (hLZ : ∀ x, x < n → L x ≤ Zs x ∧ Zs x ≤ 20) (hmL : ∀ j, j ∈ H → L j ≤ 20) (hH0 : 0 < H.length) (hH3 : H.length ≤ 3) (h32 : u 60 32 = nI H.length) (h80 : ∀ a, a < H.length → u 80 a = nI (H.getD a 0)) : ∃ w, f_X11_layStates u = some w ∧ rM H.length (fun a => H.getD a 0) (fun a => Zs (H.getD a 0)) (p_e (fun a => H.getD a 0) (fun a => Zs (H.getD a 0)) H.length 20000 0 (p_ct pQ0 (m_gs L H 0 0) (36 * 0 + 0) 0)) w ∧ mf u w := by
  obtain ⟨d1, d2⟩ := start_dg (L := L) hH3 hmL
  obtain ⟨S, hS⟩ : ∃ S, m_gs L H 0 0 = S := ⟨_, rfl⟩
  rw [hS] at d1 d2 ⊢
  have hJ : ∀ a, a < H.length → (fun a => H.getD a 0) a < 6 := fun a ha => by have := hmem a ha; show H.getD a 0 < 6; omega
  have hZ : ∀ a, a < H.length → (fun a => Zs (H.getD a 0)) a ≤ 20 := fun a ha => (hLZ _ (hmem a ha)).2
  have hwf := wf_0 (m := H.length) (Z := fun a => Zs (H.getD a 0)) d1 (fun a ha => by
    rw [d2 a ha]
    split
    · next q => exact (hLZ _ (hmem a q)).1
    · exact Nat.le_refl 0)
  obtain ⟨v, v1, v2, -, v4⟩ := ls25_lp (m := H.length) (J := fun a => H.getD a 0) (L := L) hH3 hJ (fun (c8u : am_U) => (f_X11_code c8u).bind (fun q9 => am_ck (am_ix (am_w c8u 83 0 q9 83 0) 9261) (f_X11_layStates_87 20000 0 (am_w (am_w (am_w c8u 83 0 q9) 82 (am_w c8u 83 0 q9 83 0).toNatClampNeg 0) 60 39 1)))) 20000 0 (am_fl u 82 0 9261 (-9)) (by rw [am_fl_n (by omega)]; exact h32) (fun a ha => by rw [am_fl_n (by omega), am_fl_n (by omega)]; exact ⟨h80 a ha, (hL _ (hmem a ha)).1⟩) (by omega) (by omega)
  have hcode : f_X11_code v = some (nI S) := code_eq hH3 hH0 d1 (by rw [v4 _ _ (by omega), am_fl_n (by omega)]; exact h32) (fun a ha => by rw [v2 a (by omega) ha, d2 a (by omega), if_pos ha]) (fun a z1 z2 => by rw [d2 a z2, if_neg (by omega)])
  obtain ⟨x, hx⟩ : ∃ x, am_w (am_w (am_w v 83 0 (nI S)) 82 S 0) 60 39 1 = x := ⟨_, rfl⟩
  have gx : ∀ a b, ¬ (a = 83 ∧ b = 0) → ¬ (a = 82 ∧ b = S) → ¬ (a = 60 ∧ b = 39) → x a b = v a b := fun a b z1 z2 z3 => by rw [← hx, am_w_n z3, am_w_n z2, am_w_n z1]
  have gv : ∀ a b, a ≠ 81 → a ≠ 82 → v a b = u a b := fun a b z1 z2 => by rw [v4 a b z1, am_fl_n (by omega)]
  have r0 : rM H.length (fun a => H.getD a 0) (fun a => Zs (H.getD a 0)) (p_ct pQ0 S (36 * 0 + 0) 0) x := by
    rw [ct_n (q0_no S)]
    refine ⟨?_, ?_, fun a ha => ?_, fun j hj => ?_, fun c hc hv => ?_⟩
    · rw [gx _ _ (by omega) (by omega) (by omega), gv _ _ (by omega) (by omega)]; exact h32
    · rw [← hx, am_w_s]; rfl
    · have hq := hmem a ha
      rw [gx _ _ (by omega) (by omega) (by omega), gv _ _ (by omega) (by omega), gx _ _ (by omega) (by omega) (by omega), gv _ _ (by omega) (by omega)]
      exact ⟨h80 a ha, (hL _ hq).2⟩
    · have hj : j < 1 := hj
      have : j = 0 := by omega
      subst this
      refine ⟨?_, ?_, fun h => absurd h (Nat.lt_irrefl 0)⟩
      · show x 83 0 = nI S
        rw [← hx, am_w_n (by omega), am_w_n (by omega), am_w_s]
      · show x 82 S = nI 0
        rw [← hx, am_w_n (by omega), am_w_s]; rfl
    · have hcS : c ≠ S := fun z => hv ⟨0, (by decide : 0 < 0 + 1), z.symm⟩
      rw [gx _ _ (by omega) (by omega) (by omega), v4 _ _ (by omega), am_fl_s (by omega)]
  obtain ⟨y, y1, y2, y3⟩ := m87_lp hH3 hJ hZ 20000 0 _ x r0 hwf (Nat.zero_le _) (by omega)
  refine ⟨y, ?_, y2, fun a b z1 z2 => ?_⟩
  · unfold f_X11_layStates
    refine (ls2_lp _ 20000 0 u (by omega) (by omega)).trans ?_
    refine Eq.trans v1 ?_
    rw [hcode, obs, am_w_s, am_ck_t (am_ix_nI d1 (by omega)), nI_clamp (by omega), hx]
    exact y1
  · rw [y3 a b z1 z2, gx a b (by omega) (by omega) (by omega), gv a b (by omega) (by omega)]
