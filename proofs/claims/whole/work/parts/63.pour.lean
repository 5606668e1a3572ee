/-! pour -/
theorem obs {α β : Type} (a : α) (f : α → Option β) : (some a).bind f = f a := Eq.trans (Option.bind_some a f) (Eq.refl _)
theorem ne10 : ¬ (1 : Int32) = 0 := by decide
theorem i10 {α : Type} (a b : α) : (if (1 : Int32) = 0 then a else b) = b := if_neg ne10
theorem i11 {α : Type} (a b : α) : (if ¬ (1 : Int32) = 0 then a else b) = a := if_pos ne10
theorem iT {α : Type} (a b : α) : (if True then a else b) = a := if_pos trivial
theorem iN {α : Type} (a b : α) : (if ¬ True then a else b) = b := if_neg (fun q => q trivial)
theorem tell_c (a b : Int32) (u : am_U) : f_X10_tell a b u = some (a, am_w u 4 13 b) := Eq.trans rfl (Eq.refl _)
theorem tell_m (a b : Int32) (u : am_U) : f_X11_tells a b u = some (b, am_w u 60 2 a) := Eq.trans rfl (Eq.refl _)
theorem msg_tell {u u2 : am_U} {z : Int32} (h : i_msg u) (h1 : u2 4 13 = z) (h2 : u2 60 2 = z) (e : ∀ a b, c_msg a b ∨ a = 66 → ¬ (a = 4 ∧ b = 13) → ¬ (a = 60 ∧ b = 2) → u2 a b = u a b) : i_msg u2 := by
  unfold c_msg at e
  refine ⟨h1.trans h2.symm, ?_, fun i hi => ?_, fun k => by rw [e 66 k (by omega) (by omega) (by omega)]; exact h.2.2.2 k⟩
  · rw [e 4 14 (by omega) (by omega) (by omega), e 60 0 (by omega) (by omega) (by omega)]; exact h.2.1
  · rw [e 29 i (by omega) (by omega) (by omega), e 61 i (by omega) (by omega) (by omega)]; exact h.2.2.1 i hi
def m_pc (k j : Nat) (t o : Int32) (q : am_U) : am_U := am_w (am_w (am_w (am_w q 9 k (q 9 k - t)) 9 j ((am_w q 9 k (q 9 k - t)) 9 j + o)) 11 k 1) 11 j 1
def m_pm (k j : Nat) (t o : Int32) (q : am_U) : am_U := am_w (am_w (am_w (am_w q 75 k (q 75 k - t)) 75 j ((am_w q 75 k (q 75 k - t)) 75 j + o)) 75 (12 + k) 1) 75 (12 + j) 1
theorem two_pour (a1 a2 : Int32) : am_two (fun pl u => f_X10_pour pl a1 a2 u) (fun _ u => f_X11_pour a1 a2 u) := by
  intro pl hp u hI
  show ∃ v u1 u2, f_X10_pour pl a1 a2 u = _ ∧ f_X11_pour a1 a2 u1 = _ ∧ _
  obtain ⟨n, hn, e1, e2⟩ := plan_n hI.2.2.2.1
  rcases win_cs a1 (n := n) (by omega) with w | ⟨k, hk, ha, w⟩
  · refine ⟨-1, u, u, ?_, ?_, hI, fun _ _ => rfl⟩
    · unfold f_X10_pour; rw [cjar_eq a1 e1, w]; rfl
    · unfold f_X11_pour; rw [mjar_eq a1 e2, w]; rfl
  rcases win_cs a2 (n := n) (by omega) with w2 | ⟨j, hj, hb, w2⟩
  · refine ⟨-1, u, u, ?_, ?_, hI, fun _ _ => rfl⟩
    · unfold f_X10_pour; rw [cjar_eq a1 e1, w, cjar_eq a2 e1, w2]; rfl
    · unfold f_X11_pour; rw [mjar_eq a1 e2, w, mjar_eq a2 e2, w2]; rfl
  by_cases hab : a1 = a2
  · refine ⟨-1, u, u, ?_, ?_, hI, fun _ _ => rfl⟩
    · unfold f_X10_pour; rw [cjar_eq a1 e1, w, cjar_eq a2 e1, w2]
      simp only [obs, i10, i11, iT, iN, if_neg (show ¬ ¬ a1 = a2 from fun q => q hab)]
    · unfold f_X11_pour; rw [mjar_eq a1 e2, w, mjar_eq a2 e2, w2]
      simp only [obs, i10, i11, iT, iN, if_neg (show ¬ ¬ a1 = a2 from fun q => q hab)]
  have hkj : k ≠ j := fun q => hab (by rw [ha, hb, q])
  have hS := hI.2.2.2.2.1
  obtain ⟨-, -, p2, ⟨fj, hfj, ef⟩, -⟩ := plan_k hI.2.2.2.1 e2 hn hj
  obtain ⟨s1, s2, s3⟩ := hS.1 k (by omega)
  obtain ⟨t1, t2, t3⟩ := hS.1 j (by omega)
  obtain ⟨⟨m, hm, em⟩, hle, -, -⟩ := hS.2.2.2.2.1 k (by omega)
  obtain ⟨⟨mj, hmj, emj⟩, hlej, -, -⟩ := hS.2.2.2.2.1 j (by omega)
  have hmf : mj ≤ fj := by
    have := hlej (by rw [e2]; exact nI_lt hj (by omega))
    rw [emj, ef] at this
    exact (nI_leI (by omega) (by omega)).mp this
  have hix1 : am_ix a1 6 = true := by rw [ha]; exact am_ix_nI (by omega) (by omega)
  have hcl1 : a1.toNatClampNeg = k := by rw [ha]; exact nI_clamp (by omega)
  have hix2 : am_ix a2 6 = true := by rw [hb]; exact am_ix_nI (by omega) (by omega)
  have hcl2 : a2.toNatClampNeg = j := by rw [hb]; exact nI_clamp (by omega)
  have h01 : (0 : Int32) + a1 = nI k := by rw [ha]; exact (nI_add 0 k).trans (by rw [Nat.zero_add])
  have h02 : (0 : Int32) + a2 = nI j := by rw [hb]; exact (nI_add 0 j).trans (by rw [Nat.zero_add])
  have h61 : (6 : Int32) + a1 = nI (6 + k) := by rw [ha]; exact nI_add 6 k
  have h62 : (6 : Int32) + a2 = nI (6 + j) := by rw [hb]; exact nI_add 6 j
  have h121 : (12 : Int32) + a1 = nI (12 + k) := by rw [ha]; exact nI_add 12 k
  have h122 : (12 : Int32) + a2 = nI (12 + j) := by rw [hb]; exact nI_add 12 j
  have i01 : am_ix (nI k) 30 = true := am_ix_nI (by omega) (by omega)
  have i02 : am_ix (nI j) 30 = true := am_ix_nI (by omega) (by omega)
  have i61 : am_ix (nI (6 + k)) 30 = true := am_ix_nI (by omega) (by omega)
  have i62 : am_ix (nI (6 + j)) 30 = true := am_ix_nI (by omega) (by omega)
  have i121 : am_ix (nI (12 + k)) 30 = true := am_ix_nI (by omega) (by omega)
  have i122 : am_ix (nI (12 + j)) 30 = true := am_ix_nI (by omega) (by omega)
  have c01 : (nI k).toNatClampNeg = k := nI_clamp (by omega)
  have c02 : (nI j).toNatClampNeg = j := nI_clamp (by omega)
  have c61 : (nI (6 + k)).toNatClampNeg = 6 + k := nI_clamp (by omega)
  have c62 : (nI (6 + j)).toNatClampNeg = 6 + j := nI_clamp (by omega)
  have c121 : (nI (12 + k)).toNatClampNeg = 12 + k := nI_clamp (by omega)
  have c122 : (nI (12 + j)).toNatClampNeg = 12 + j := nI_clamp (by omega)
  have hroom : nI fj - nI mj = nI (fj - mj) := nI_sub hmf
  obtain ⟨t, ht⟩ : ∃ t, m_tk m (fj - mj) = t := ⟨_, rfl⟩
  have htm : t ≤ m := by rw [← ht]; unfold m_tk; split <;> omega
  have ht9 : 9 * t ≤ 10 * (fj - mj) + 9 := by rw [← ht]; unfold m_tk; split <;> omega
  obtain ⟨o, ho⟩ : ∃ o, t - (t + 9) / 10 = o := ⟨_, rfl⟩
  have hor : o ≤ fj - mj := by omega
  have hot : o ≤ t := by omega
  have hto : nI t - nI o = nI (t - o) := nI_sub hot
  have hE : f_X10_pour pl a1 a2 u = if ¬ u 75 (6 + k) = u 75 (6 + j) then some (-4, u) else if ¬ nI o = 0 then (f_X1_remember 2 u).bind (fun q => some (nI o, am_w (m_pc k j (nI t) (nI o) q) 4 13 (nI (t - o)))) else some (-4, u) := by
    have hT : f_X2_taken (nI m) (nI (fj - mj)) = some (nI t) := by rw [taken_eq (by omega) (by omega), ht]
    have hO : f_X2_comesOver (nI t) = some (nI o) := by rw [over_eq (by omega), ho]
    unfold f_X10_pour
    simp only [cjar_eq a1 e1, w, cjar_eq a2 e1, w2, obs, i10, i11, iT, iN, if_pos hab, am_ck_t hix1, am_ck_t hix2, hcl1, hcl2, p2, s1, t1, s2, t2, em, emj, ef, hroom, hT, hO, tell_c, hto, m_pc]
  have hM : ∀ v : am_U, v 60 12 = nI n → v 75 = u 75 → v 70 j = nI fj → f_X11_pour a1 a2 v = if ¬ u 75 (6 + k) = u 75 (6 + j) then some (-4, v) else if 0 < nI o then (f_X11_remembers 2 v).bind (fun q => some (nI o, am_w (m_pm k j (nI t) (nI o) q) 60 2 (nI (t - o)))) else some (-4, v) := fun v hv h75 h70 => by
    have hT : f_X11_pouredOf (nI m) (nI (fj - mj)) = some (nI t) := by rw [poured_eq (by omega) (by omega), ht]
    have hN : f_X11_tenth (nI t) = some (nI ((t + 9) / 10)) := by
      unfold f_X11_tenth
      rw [ten_nI (by omega)]
    have hd : nI t - nI ((t + 9) / 10) = nI o := by rw [nI_sub (by omega), ho]
    unfold f_X11_pour
    simp only [mjar_eq a1 hv, w, mjar_eq a2 hv, w2, obs, i10, i11, iT, iN, if_pos hab, h01, h02, h61, h62, h121, h122, am_ck_t hix2, am_ck_t i01, am_ck_t i02, am_ck_t i61, am_ck_t i62, am_ck_t i121, am_ck_t i122, hcl2, c01, c02, c61, c62, c121, c122, h75, h70, em, emj, hroom, hT, hN, hd, tell_m, hto, m_pm]
  by_cases c1 : ¬ u 75 (6 + k) = u 75 (6 + j)
  · exact ⟨-4, u, u, by rw [hE, if_pos c1], by rw [hM u e2 rfl ef, if_pos c1], hI, fun _ _ => rfl⟩
  cases o with
  | zero => exact ⟨-4, u, u, by rw [hE, if_neg c1, if_neg (fun q => q rfl)], by rw [hM u e2 rfl ef, if_neg c1, if_neg (show ¬ (0 : Int32) < nI 0 by decide)], hI, fun _ _ => rfl⟩
  | succ o =>
    have hv' : i_vs u (m_pu (m_pu (m_pu (m_pu (u 75) k (nI (m - t))) j (nI (mj + (o + 1)))) (12 + k) 1) (12 + j) 1) := by
      refine vs_op (vs_op (vs_li (vs_li hS.2.2.2.2 (by omega) ⟨m - t, by omega, rfl⟩ (fun q => ?_)) (by omega) ⟨mj + (o + 1), by omega, rfl⟩ (fun q => ?_)) (by omega) ⟨1, by omega, rfl⟩) (by omega) ⟨1, by omega, rfl⟩
      · have := hle q
        rw [em] at this
        exact Int32.le_trans (nI_le (show m - t ≤ m by omega) (by omega)) this
      · rw [ef]; exact nI_le (by omega) (by omega)
    obtain ⟨w1, r1, o1, K1⟩ := deed_two hp hI 2 hv'
    have q9k : w1 9 k = nI m := by rw [o1 9 k (by omega) (by omega) (by omega), s1, em]
    have q9j : w1 9 j = nI mj := by rw [o1 9 j (by omega) (by omega) (by omega), t1, emj]
    obtain ⟨u0, hu0⟩ : ∃ u0, am_w (am_w (am_w (am_w w1 9 k (nI (m - t))) 9 j (nI (mj + (o + 1)))) 11 k 1) 11 j 1 = u0 := ⟨_, rfl⟩
    have hpc : m_pc k j (nI t) (nI (o + 1)) w1 = u0 := by
      unfold m_pc
      rw [q9k, nI_sub htm, am_w_n (show ¬ (9 = 9 ∧ j = k) by omega), q9j, nI_add, hu0]
    have g : ∀ a b, ¬ (8 ≤ a ∧ a ≤ 13) → a ≠ 14 → a ≠ 16 → a ≠ 17 → ¬ (a = 4 ∧ b = 13) → am_w u0 4 13 (nI (t - (o + 1))) a b = u a b := fun a b z1 z2 z3 z4 z5 => by rw [am_w_n z5, ← hu0, am_w_n (by omega), am_w_n (by omega), am_w_n (by omega), am_w_n (by omega), o1 a b z2 z3 z4]
    obtain ⟨w2', r2, o2, K2⟩ := K1 (am_w u0 4 13 (nI (t - (o + 1)))) (fun a b z1 z2 => by rw [am_w_n z2, ← hu0, am_w_n (by omega), am_w_n (by omega), am_w_n (by omega), am_w_n (by omega)]) (fun i hi => by
      rw [sc_fr (u := u0) (fun a b q => am_w_n (by omega)), ← hu0, sc_w11 _ (by omega), sc_w11 _ (by omega), sc_w9 _ (by omega), sc_w9 _ (by omega), sc_fr (u := u) (fun a b q => o1 a b (by omega) (by omega) (by omega))]
      exact pu_eq (pu_eq (pu_eq (pu_eq (scn_eq hS)))) i hi)
    have g75 : w2' 75 = u 75 := funext fun b => by rw [o2 75 b (by omega) (by omega), g 75 b (by omega) (by omega) (by omega) (by omega) (by omega)]
    obtain ⟨y0, hy0⟩ : ∃ y0, am_w (am_w (am_w (am_w w2' 75 k (nI (m - t))) 75 j (nI (mj + (o + 1)))) 75 (12 + k) 1) 75 (12 + j) 1 = y0 := ⟨_, rfl⟩
    have hpm : m_pm k j (nI t) (nI (o + 1)) w2' = y0 := by
      unfold m_pm
      rw [g75, em, nI_sub htm, am_w_n (show ¬ (75 = 75 ∧ j = k) by omega), g75, emj, nI_add, hy0]
    have gy : ∀ a b, a ≠ 75 → y0 a b = w2' a b := fun a b z => by rw [← hy0, am_w_n (by omega), am_w_n (by omega), am_w_n (by omega), am_w_n (by omega)]
    refine ⟨nI (o + 1), am_w u0 4 13 (nI (t - (o + 1))), am_w y0 60 2 (nI (t - (o + 1))), ?_, ?_, K2 _ (fun a b z1 z2 => by rw [am_w_n z2, gy a b z1]) (fun i hi => ?_) ?_⟩
    · rw [hE, if_neg c1, if_pos (nI_ne0 (by omega) (by omega)), r1]
      show some (nI (o + 1), am_w (m_pc k j (nI t) (nI (o + 1)) w1) 4 13 (nI (t - (o + 1)))) = _
      rw [hpc]
    · rw [hM _ ((g 60 12 (by omega) (by omega) (by omega) (by omega) (by omega)).trans e2) (funext fun b => g 75 b (by omega) (by omega) (by omega) (by omega) (by omega)) ((g 70 j (by omega) (by omega) (by omega) (by omega) (by omega)).trans ef), if_neg c1, if_pos (show (0 : Int32) < nI (o + 1) from nI_lt (a := 0) (by omega) (by omega)), r2]
      show some (nI (o + 1), am_w (m_pm k j (nI t) (nI (o + 1)) w2') 60 2 (nI (t - (o + 1)))) = _
      rw [hpm]
    · rw [am_w_n (by omega), ← hy0, w75, w75, w75, w75, g75]
    · refine msg_tell (u := u) (z := nI (t - (o + 1))) hI.1 ?_ (am_w_s _ _ _ _) (fun a b q z1 z2 => ?_)
      · rw [am_w_n (by omega), gy 4 13 (by omega), o2 4 13 (by omega) (by omega), am_w_s]
      · unfold c_msg at q
        rw [am_w_n (by omega), gy a b (by omega), o2 a b (by omega) (by omega), g a b (by omega) (by omega) (by omega) (by omega) z1]
theorem ok_pour {l : Launch} {g : am_G} (a1 a2 : Int32) : am_ok l g d_X10_pour d_X11_pour [.int a1, .int a2] am_isI := ok_II (fun B pl hL u => s_X10_pour hL a1 a2 u) (fun B pl hL u => s_X11_pour hL a1 a2 u) (two_pour a1 a2)
