/-! mirror -/
theorem mval_eq (a : Int32) : f_X11_isValley a = f_X10_isWithin a 1 4 := by unfold f_X11_isValley; rw [in_eq, ck01]
theorem cval_eq (a : Int32) : f_X10_isValley a = f_X10_isWithin a 1 4 := by
  unfold f_X10_isValley
  rw [cplace_eq]
  rcases wi_cs a 1 4 (by omega) (by omega) with w | ⟨r, h1, h2, rfl, w⟩
  · rw [show f_X10_isWithin a 1 4 = some 0 from w]
    rcases wi_cs a 0 4 (by omega) (by omega) with w0 | ⟨r, -, h2, rfl, w0⟩
    · rw [show f_X10_isWithin a 0 4 = some 0 from w0]; rfl
    · rw [show f_X10_isWithin (nI r) 0 4 = some 1 from w0]
      rcases (show r = 0 ∨ r = 1 ∨ r = 2 ∨ r = 3 ∨ r = 4 by omega) with rfl | rfl | rfl | rfl | rfl
      · rfl
      all_goals exact absurd w (by decide)
  · rw [show f_X10_isWithin (nI r) 1 4 = some 1 from w]
    rcases (show r = 1 ∨ r = 2 ∨ r = 3 ∨ r = 4 by omega) with rfl | rfl | rfl | rfl <;> rfl
def m_B (s : Nat) (R : Nat → Int32) (d : Nat) : Nat := if 0 < s ∧ R (d % s) = 1 then 1 else 0
def m_cn (s : Nat) (R : Nat → Int32) : Nat → Nat
  | 0 => 0
  | d + 1 => m_cn s R d + m_B s R d
theorem shi_eq {s d : Nat} {u : am_U} (e : u 60 9 = nI s) (hs : s ≤ 8) (hd : d < 2 ^ 31) : f_X11_shines (nI d) u = some (nI (m_B s (u 67) d)) := by
  unfold f_X11_shines m_B
  rw [e]
  cases s with
  | zero => rw [if_pos (show nI 0 ≤ (0 : Int32) by decide), if_neg (by omega)]; rfl
  | succ s =>
    have hlt : d % (s + 1) < s + 1 := Nat.mod_lt _ (by omega)
    rw [if_neg (nI_nle (by omega) (by omega)), pk_rem hd (by omega) (by omega), nI_clamp (by omega), am_ck_t (by rw [Bool.not_eq_true', beq_eq_false_iff_ne]; exact nI_ne0 (by omega) (by omega)), am_ck_t (am_ix_nI (by omega) (by omega))]
    by_cases q : u 67 (d % (s + 1)) = 1
    · rw [if_neg (fun z => z q), if_pos ⟨by omega, q⟩]; rfl
    · rw [if_pos q, if_neg (fun z => q z.2)]; rfl
theorem cn_le (s : Nat) (R : Nat → Int32) : ∀ d, m_cn s R d ≤ d := by
  intro d
  induction d with
  | zero => exact Nat.le_refl 0
  | succ d ih =>
    rw [m_cn]
    have : m_B s R d ≤ 1 := by unfold m_B; split <;> omega
    omega
theorem cn_mono (s : Nat) (R : Nat → Int32) : ∀ k d, m_cn s R d ≤ m_cn s R (d + k) := by
  intro k
  induction k with
  | zero => intro d; exact Nat.le_refl _
  | succ k ih => intro d; rw [show d + (k + 1) = (d + k) + 1 by omega, m_cn]; have := ih d; omega
theorem cn_many {s i0 : Nat} {R : Nat → Int32} (hi : i0 < s) (h : R i0 = 1) : ∀ q, q + 1 ≤ m_cn s R (i0 + s * q + 1) := by
  have hb : ∀ q, m_B s R (i0 + s * q) = 1 := fun q => by
    unfold m_B
    rw [if_pos ⟨by omega, by rw [Nat.add_mul_mod_self_left, Nat.mod_eq_of_lt hi]; exact h⟩]
  intro q
  induction q with
  | zero => rw [m_cn, hb]; omega
  | succ q ih =>
    have h1 := cn_mono s R (s - 1) (i0 + s * q + 1)
    rw [m_cn, hb]
    have h2 : i0 + s * (q + 1) = i0 + s * q + 1 + (s - 1) := by rw [Nat.mul_add, Nat.mul_one]; omega
    rw [h2]
    omega
theorem cn_first {s nd c : Nat} {R : Nat → Int32} (hc : 0 < c) : ∀ N, c ≤ m_cn s R N * nd → ∃ D, D ≤ N ∧ 0 < D ∧ c ≤ m_cn s R D * nd ∧ ∀ e, e < D → m_cn s R e * nd < c := by
  intro N
  induction N with
  | zero => intro h; rw [m_cn] at h; omega
  | succ N ih =>
    intro h
    rcases Nat.lt_or_ge (m_cn s R N * nd) c with q | q
    · refine ⟨N + 1, Nat.le_refl _, by omega, h, fun e he => ?_⟩
      have h1 := cn_mono s R (N - e) e
      rw [show e + (N - e) = N by omega] at h1
      exact Nat.lt_of_le_of_lt (Nat.mul_le_mul_right nd h1) q
    · obtain ⟨D, h1, h2, h3, h4⟩ := ih q
      exact ⟨D, by omega, h2, h3, h4⟩
theorem br_eq {pl s d : Nat} {u : am_U} (hP : i_plan pl u) (e : u 60 9 = nI s) (hs : s ≤ 8) (hd : d < 2 ^ 31) : f_X5_isBright pl (nI d) u = some (nI (m_B s (u 67) d)) := by
  rw [← (sun_eq hP hd rfl rfl).1, shi_eq e hs hd]
theorem B_01 (s : Nat) (R : Nat → Int32) (d : Nat) : m_B s R d = 0 ∨ m_B s R d = 1 := by
  unfold m_B; split
  · exact Or.inr rfl
  · exact Or.inl rfl
theorem cmi_st {pl s nd c d : Nat} {u : am_U} (hP : i_plan pl u) (e : u 60 9 = nI s) (hs : s ≤ 8) (hn : nd ≤ 9) (hc : c ≤ 999) (hd : d < 7992) (K : Int32 → Int32 → Option (Int32 × am_U)) (f : Nat) : f_X10_mirror_43 pl u (nI c) (nI nd) K (f + 1) (nI (m_cn s (u 67) d)) (nI d) = if m_cn s (u 67) (d + 1) * nd < c then f_X10_mirror_43 pl u (nI c) (nI nd) K f (nI (m_cn s (u 67) (d + 1))) (nI (d + 1)) else K (nI (m_cn s (u 67) (d + 1))) (nI d) := by
  have hcn := cn_le s (u 67) (d + 1)
  have hm : m_cn s (u 67) (d + 1) * nd ≤ 7992 * 9 := Nat.mul_le_mul (by omega) hn
  have hif : (nI (m_cn s (u 67) (d + 1)) * nI nd < nI c) = (m_cn s (u 67) (d + 1) * nd < c) := by
    rw [nI_mul]; exact propext (nI_ltI (by omega) (by omega))
  rw [f_X10_mirror_43, if_neg (show ¬ (7992 : Int32) ≤ nI d from nI_ge (b := 7992) hd (by omega)), br_eq hP e hs (by omega), obs]
  dsimp only [am_jn]
  rw [nI_1]
  have hcs : (if nI (m_B s (u 67) d) = 0 then nI (m_cn s (u 67) d) else nI (m_cn s (u 67) d) + 1) = nI (m_cn s (u 67) (d + 1)) := by
    rw [m_cn]
    rcases B_01 s (u 67) d with z | z
    · rw [z, if_pos (show nI 0 = 0 from rfl)]; rfl
    · rw [z, if_neg (show ¬ nI 1 = 0 by decide), nI_1]
  have hsplit : ∀ (J : Int32 → Option (Int32 × am_U)), (if nI (m_B s (u 67) d) = 0 then J (nI (m_cn s (u 67) d)) else J (nI (m_cn s (u 67) d) + 1)) = J (nI (m_cn s (u 67) (d + 1))) := fun J => by
    rw [← hcs]
    split <;> rfl
  refine (hsplit (fun j6v4 => if (j6v4 * nI nd) < nI c then f_X10_mirror_43 pl u (nI c) (nI nd) K f j6v4 (nI (d + 1)) else K j6v4 (nI d))).trans ?_
  by_cases q : m_cn s (u 67) (d + 1) * nd < c
  · rw [if_pos q, if_pos (by rw [hif]; exact q)]
  · rw [if_neg q, if_neg (by rw [hif]; exact q)]
theorem cmi_hit {pl s nd c D : Nat} {u : am_U} (hP : i_plan pl u) (e : u 60 9 = nI s) (hs : s ≤ 8) (hn : nd ≤ 9) (hc : c ≤ 999) (hD : D ≤ 7992) (h1 : c ≤ m_cn s (u 67) D * nd) (h2 : ∀ e, e < D → m_cn s (u 67) e * nd < c) (K : Int32 → Int32 → Option (Int32 × am_U)) : ∀ (f d : Nat), d < D → D < d + f → f_X10_mirror_43 pl u (nI c) (nI nd) K f (nI (m_cn s (u 67) d)) (nI d) = K (nI (m_cn s (u 67) D)) (nI (D - 1)) := by
  intro f
  induction f with
  | zero => intro d q1 q2; omega
  | succ f ih =>
    intro d q1 q2
    rw [cmi_st hP e hs hn hc (by omega)]
    rcases Nat.lt_or_ge (d + 1) D with q | q
    · rw [if_pos (h2 _ q)]
      exact ih (d + 1) q (by omega)
    · have : D = d + 1 := by omega
      subst this
      rw [if_neg (by omega), show d + 1 - 1 = d by omega]
theorem cmi_no {pl s nd c : Nat} {u : am_U} (hP : i_plan pl u) (e : u 60 9 = nI s) (hs : s ≤ 8) (hn : nd ≤ 9) (hc : c ≤ 999) (h2 : ∀ e, m_cn s (u 67) e * nd < c) (K : Int32 → Int32 → Option (Int32 × am_U)) : ∀ (f d : Nat), d ≤ 7992 → 7992 < d + f → f_X10_mirror_43 pl u (nI c) (nI nd) K f (nI (m_cn s (u 67) d)) (nI d) = some (-9, u) := by
  intro f
  induction f with
  | zero => intro d q1 q2; omega
  | succ f ih =>
    intro d q1 q2
    rcases Nat.lt_or_ge d 7992 with q | q
    · rw [cmi_st hP e hs hn hc q, if_pos (h2 _)]
      exact ih (d + 1) (by omega) (by omega)
    · have : d = 7992 := by omega
      subst this
      rw [f_X10_mirror_43, if_pos (show (7992 : Int32) ≤ nI 7992 by decide)]
theorem mmi_hit {s nd c D v : Nat} {u : am_U} (e : u 60 9 = nI s) (hs : s ≤ 8) (hv : v < 5) (en : u 68 v = nI nd) (hn : nd ≤ 9) (hc : c ≤ 999) (hD : D ≤ 7992) (h1 : c ≤ m_cn s (u 67) D * nd) (h2 : ∀ e, e < D → m_cn s (u 67) e * nd < c) (K : Int32 → Int32 → Option (Int32 × am_U)) : ∀ (f d : Nat), d ≤ D → D < d + f → f_X11_mirror_86 u (nI v) (nI c) K f (nI (m_cn s (u 67) d * nd)) (nI (m_cn s (u 67) d)) (nI d) = K (nI (m_cn s (u 67) D)) (nI D) := by
  intro f
  induction f with
  | zero => intro d q1 q2; omega
  | succ f ih =>
    intro d q1 q2
    have hcn := cn_le s (u 67) d
    have hm : m_cn s (u 67) d * nd ≤ 7992 * 9 := Nat.mul_le_mul (by omega) hn
    rw [f_X11_mirror_86]
    rcases Nat.lt_or_ge d D with q | q
    · have h3 := ih (d + 1) (by omega) (by omega)
      rw [m_cn] at h3
      rw [if_neg (nI_ge (h2 d q) (by omega)), shi_eq e hs (by omega), obs]
      dsimp only [am_jn]
      rw [nI_1]
      rcases B_01 s (u 67) d with z | z
      · rw [z] at h3 ⊢
        rw [if_pos (show nI 0 = 0 from rfl), obs, if_pos (show nI 0 = 0 from rfl), Int32.add_zero, Int32.add_zero]
        exact h3
      · rw [z] at h3 ⊢
        rw [if_neg (show ¬ nI 1 = 0 by decide), am_ck_t (am_ix_nI hv (by omega)), nI_clamp (by omega), en, obs, if_neg (show ¬ nI 1 = 0 by decide), nI_add, nI_1, show m_cn s (u 67) d * nd + nd = (m_cn s (u 67) d + 1) * nd by rw [Nat.add_mul, Nat.one_mul]]
        exact h3
    · have : d = D := by omega
      subst this
      rw [if_pos (nI_le h1 (by omega))]
theorem many_1 {s : Nat} {u : am_U} (e : u 60 9 = nI s) (hs : s ≤ 8) (v1 v2 : Int32) (K : Int32 → Option (Int32 × am_U)) : ∀ (f i : Nat), i ≤ s → s < i + f → f_X11_mirror_25 u v1 v2 K f 1 (nI i) = K 1 := by
  intro f
  induction f with
  | zero => intro i h1 h2; omega
  | succ f ih =>
    intro i h1 h2
    rw [f_X11_mirror_25, e]
    rcases Nat.lt_or_ge i s with q | q
    · rw [if_neg (nI_ge q (by omega))]
      dsimp only [am_jn]
      rw [if_pos (show ¬ (1 : Int32) = 0 by decide), nI_1]
      exact ih (i + 1) (by omega) (by omega)
    · rw [if_pos (nI_le (show s ≤ i by omega) (by omega))]
theorem many_0 {s : Nat} {u : am_U} (e : u 60 9 = nI s) (hs : s ≤ 8) (v1 v2 : Int32) (K : Int32 → Option (Int32 × am_U)) : ∀ (f i : Nat), i ≤ s → s < i + f → ((∀ j, i ≤ j → j < s → ¬ u 67 j = 1) → f_X11_mirror_25 u v1 v2 K f 0 (nI i) = K 0) ∧ (∀ j, i ≤ j → j < s → u 67 j = 1 → f_X11_mirror_25 u v1 v2 K f 0 (nI i) = K 1) := by
  intro f
  induction f with
  | zero => intro i h1 h2; omega
  | succ f ih =>
    intro i h1 h2
    rw [f_X11_mirror_25, e]
    rcases Nat.lt_or_ge i s with q | q
    · obtain ⟨I1, I2⟩ := ih (i + 1) (by omega) (by omega)
      rw [if_neg (nI_ge q (by omega))]
      dsimp only [am_jn]
      rw [if_neg (show ¬ ¬ (0 : Int32) = 0 from fun z => z rfl), am_ck_t (am_ix_nI (show i < 8 by omega) (by omega)), nI_clamp (by omega), nI_1]
      by_cases c : u 67 i = 1
      · rw [if_neg (fun z => z c)]
        exact ⟨fun h => absurd c (h i (Nat.le_refl i) q), fun j _ _ _ => many_1 e hs v1 v2 K f (i + 1) (by omega) (by omega)⟩
      · rw [if_pos c]
        refine ⟨fun h => I1 (fun j z1 z2 => h j (by omega) z2), fun j z1 z2 z3 => I2 j ?_ z2 z3⟩
        rcases Nat.lt_or_ge i j with z | z
        · omega
        · exact absurd (by rw [show i = j by omega]; exact z3) c
    · rw [if_pos (nI_le (show s ≤ i by omega) (by omega))]
      exact ⟨fun _ => rfl, fun j z1 z2 => by omega⟩
theorem two_mirror (a1 a2 : Int32) : am_two (fun pl u => f_X10_mirror pl a1 a2 u) (fun _ u => f_X11_mirror a1 a2 u) := by
  intro pl hp u hI
  show ∃ v u1 u2, f_X10_mirror pl a1 a2 u = _ ∧ f_X11_mirror a1 a2 u1 = _ ∧ _
  have hP := hI.2.2.2.1
  rcases wi_cs a1 1 4 (by omega) (by omega) with w | ⟨v, hv0, hv, ha, w⟩
  · refine ⟨-1, u, u, ?_, ?_, hI, fun _ _ => rfl⟩
    · unfold f_X10_mirror; rw [cval_eq, show f_X10_isWithin a1 1 4 = some 0 from w]; rfl
    · unfold f_X11_mirror; rw [mval_eq, show f_X10_isWithin a1 1 4 = some 0 from w]; rfl
  rcases wi_cs a2 1 999 (by omega) (by omega) with w2 | ⟨c, hc0, hc, hb, w2⟩
  · refine ⟨-1, u, u, ?_, ?_, hI, fun _ _ => rfl⟩
    · unfold f_X10_mirror; rw [cval_eq, show f_X10_isWithin a1 1 4 = some 1 from w, show f_X10_isWithin a2 1 999 = some 0 from w2]; rfl
    · unfold f_X11_mirror; rw [mval_eq, in_eq, show f_X10_isWithin a1 1 4 = some 1 from w, show f_X10_isWithin a2 1 999 = some 0 from w2]; rfl
  obtain ⟨s, hs, es⟩ := hP.2.1.2
  obtain ⟨nd, hnd, en⟩ := (hP.2.2.2.2.2.1 v (by omega)).2
  have enc : u (pl + 2) v = nI nd := by rw [(hP.2.2.2.2.2.1 v (by omega)).1]; exact en
  have hix : am_ix a1 5 = true := by rw [ha]; exact am_ix_nI (by omega) (by omega)
  have hcl : a1.toNatClampNeg = v := by rw [ha]; exact nI_clamp (by omega)
  have hE : f_X10_mirror pl a1 a2 u = if ¬ nI nd = 0 then f_X10_mirror_43 pl u (nI c) (nI nd) (fun (c7v4 : Int32) (c7v5 : Int32) => some (c7v5 + 1, am_w u 4 13 c7v4)) 20000 0 0 else some (-9, u) := by
    unfold f_X10_mirror
    rw [cval_eq, show f_X10_isWithin a1 1 4 = some 1 from w, show f_X10_isWithin a2 1 999 = some 1 from w2]
    simp only [obs, i10, i11, iT, iN, am_ck_t hix, hcl, enc, hb, tell_c]
  have hM : ∀ x : am_U, x 68 v = nI nd → f_X11_mirror a1 a2 x = f_X11_mirror_25 x (nI v) (nI c) (fun (c5v3 : Int32) => if c5v3 = 0 then some (-9, x) else if ¬ nI nd = 0 then f_X11_mirror_86 x (nI v) (nI c) (fun (c11v5 : Int32) (c11v6 : Int32) => some (c11v6, am_w x 60 2 c11v5)) 20000 0 0 0 else some (-9, x)) 20000 0 0 := fun x hx => by
    unfold f_X11_mirror
    rw [mval_eq, in_eq, show f_X10_isWithin a1 1 4 = some 1 from w, show f_X10_isWithin a2 1 999 = some 1 from w2]
    simp only [obs, i10, i11, iT, iN, am_ck_t hix, hcl, hx, hb, tell_m]
    rw [ha]
  by_cases hany : ∃ j, j < s ∧ u 67 j = 1
  · obtain ⟨i0, hi0, h1⟩ := hany
    have h25 : ∀ x : am_U, x 60 9 = nI s → x 67 i0 = 1 → ∀ K, f_X11_mirror_25 x (nI v) (nI c) K 20000 0 0 = K 1 := fun x e1 e2 K => (many_0 e1 hs (nI v) (nI c) K 20000 0 (by omega) (by omega)).2 i0 (by omega) hi0 e2
    cases nd with
    | zero =>
      refine ⟨-9, u, u, ?_, ?_, hI, fun _ _ => rfl⟩
      · rw [hE, if_neg (fun z => z rfl)]
      · rw [hM u en, h25 u es h1, if_neg (by decide), if_neg (fun z => z rfl)]
    | succ nd =>
      have hne : ¬ nI (nd + 1) = 0 := nI_ne0 (by omega) (by omega)
      have hN := cn_many hi0 h1 998
      have hs8 : i0 + s * 998 + 1 ≤ 7992 := by omega
      obtain ⟨D, d1, d2, d3, d4⟩ := cn_first (s := s) (nd := nd + 1) (R := u 67) hc0 (i0 + s * 998 + 1) (Nat.le_trans hc (Nat.le_trans hN (Nat.le_mul_of_pos_right _ (by omega))))
      obtain ⟨z, hz⟩ : ∃ z, nI (m_cn s (u 67) D) = z := ⟨_, rfl⟩
      refine ⟨nI D, am_w u 4 13 z, am_w (am_w u 4 13 z) 60 2 z, ?_, ?_, inv_tell hp hI z⟩
      · rw [hE, if_pos hne]
        refine (cmi_hit hP es hs hnd hc (by omega) d3 d4 _ 20000 0 d2 (by omega)).trans ?_
        rw [hz, nI_1, show D - 1 + 1 = D by omega]
      · have e67 : am_w u 4 13 z 67 = u 67 := am_w_c (by omega)
        rw [hM _ (by rw [am_w_n (by omega)]; exact en), h25 _ (by rw [am_w_n (by omega)]; exact es) (by rw [e67]; exact h1), if_neg (by decide), if_pos hne]
        have := mmi_hit (u := am_w u 4 13 z) (s := s) (nd := nd + 1) (c := c) (D := D) (v := v) (by rw [am_w_n (by omega)]; exact es) hs (by omega) (by rw [am_w_n (by omega)]; exact en) hnd hc (by omega) (by rw [e67]; exact d3) (by rw [e67]; exact d4) (fun (c11v5 : Int32) (c11v6 : Int32) => some (c11v6, am_w (am_w u 4 13 z) 60 2 c11v5)) 20000 0 (by omega) (by omega)
        rw [e67, m_cn, Nat.zero_mul] at this
        refine Eq.trans this ?_
        rw [hz]
  · have hno : ∀ j, 0 ≤ j → j < s → ¬ u 67 j = 1 := fun j _ hj h => hany ⟨j, hj, h⟩
    have hcn : ∀ d, m_cn s (u 67) d = 0 := fun d => by
      induction d with
      | zero => rfl
      | succ d ih =>
        rw [m_cn, ih]
        unfold m_B
        rw [if_neg (fun z => hno _ (Nat.zero_le _) (Nat.mod_lt _ z.1) z.2)]
    refine ⟨-9, u, u, ?_, ?_, hI, fun _ _ => rfl⟩
    · rw [hE]
      by_cases hne : ¬ nI nd = 0
      · rw [if_pos hne]
        exact cmi_no hP es hs hnd hc (fun e => by rw [hcn, Nat.zero_mul]; exact hc0) _ 20000 0 (by omega) (by omega)
      · rw [if_neg hne]
    · rw [hM u en]
      refine ((many_0 es hs (nI v) (nI c) _ 20000 0 (by omega) (by omega)).1 hno).trans ?_
      rw [if_pos rfl]
theorem ok_mirror {l : Launch} {g : am_G} (a1 a2 : Int32) : am_ok l g d_X10_mirror d_X11_mirror [.int a1, .int a2] am_isI := ok_II (fun B pl hL u => s_X10_mirror hL a1 a2 u) (fun B pl hL u => s_X11_mirror hL a1 a2 u) (two_mirror a1 a2)
