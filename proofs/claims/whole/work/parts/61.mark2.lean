theorem lkn_eq {k : Nat} {u : am_U} (hk : k < 6) (ho : u 75 (12 + k) = 0 ∨ u 75 (12 + k) = 1) : f_X11_leakNow (nI k) u = some (m_lk (u 69 k) (u 75 k) (u 75 (12 + k))) := by
  unfold f_X11_leakNow
  rw [show (0 : Int32) + nI k = nI (0 + k) from nI_add 0 k, show (12 : Int32) + nI k = nI (12 + k) from nI_add 12 k, Nat.zero_add, am_ck_t (am_ix_nI hk (by omega)), am_ck_t (am_ix_nI (show k < 30 by omega) (by omega)), am_ck_t (am_ix_nI (show 12 + k < 30 by omega) (by omega)), nI_clamp (show k < 2 ^ 31 by omega), nI_clamp (show 12 + k < 2 ^ 31 by omega)]
  unfold am_jn
  rcases ho with h | h
  · rw [h]
    dsimp only
    rw [if_pos (show ¬ (0 : Int32) = 1 by decide), mlk_eq]; rfl
  · rw [h]
    dsimp only
    rw [if_neg (fun q => q rfl), mlk_eq]; rfl
def m_kj (a1 a2 : Int32) (u : am_U) : Option (Int32 × am_U) :=
        am_ck (am_ix (0 + a1) 30) (
        let x6 : Int32 := u 75 (0 + a1).toNatClampNeg
        if a2 = 1 then (
          (f_X11_tenth (2 * x6)).bind (fun q7 =>
          (f_X11_tenth x6).bind (fun q8 =>
          some (q7 - q8, u))))
        else         if a2 = 2 then (
          (f_X11_leakNow a1 u).bind (fun q9 =>
          if q9 ≤ 0 then (
            some (((-9) : Int32), u))
          else (
            some (0, u))))
        else         if a2 = 3 then (
          (f_X11_costOf (u 69 a1.toNatClampNeg)).bind (fun q10 =>
          am_ck (!(q10 == 0)) (
          some (x6 - (x6 / q10), u))))
        else         if a2 = 4 then (
          some (x6, u))
        else (
          some (x6 - x6 / 3 * 3, u)))
theorem kj_eq {k : Nat} {a2 : Int32} {u : am_U} (hk : k < 6) (ho : u 75 (12 + k) = 0 ∨ u 75 (12 + k) = 1) : m_kj (nI k) a2 u = some (m_mv (u 69 k) (u 75 k) (u 75 (12 + k)) a2, u) := by
  unfold m_kj m_mv
  rw [lkn_eq hk ho, mco_eq, show (0 : Int32) + nI k = nI (0 + k) from nI_add 0 k, Nat.zero_add, am_ck_t (am_ix_nI (show k < 30 by omega) (by omega)), nI_clamp (show k < 2 ^ 31 by omega)]
  show (if a2 = 1 then some ((2 * u 75 k + 9) / 10 - (u 75 k + 9) / 10, u) else if a2 = 2 then (if m_lk (u 69 k) (u 75 k) (u 75 (12 + k)) ≤ 0 then some ((-9 : Int32), u) else some (0, u)) else if a2 = 3 then am_ck (!(m_co (u 69 k) == 0)) (some (u 75 k - u 75 k / m_co (u 69 k), u)) else if a2 = 4 then some (u 75 k, u) else some (u 75 k - u 75 k / 3 * 3, u)) = _
  rw [am_ck_t (mco_ne _)]
  split
  · rfl
  · split
    · split <;> rfl
    · split
      · rfl
      · split <;> rfl
theorem mmk_eq {k n : Nat} {a2 : Int32} {u : am_U} (w2 : f_X10_isWithin a2 1 5 = some 1) (e : u 60 12 = nI n) (w : f_X10_isWithin (nI k) 0 (nI n - 1) = some 1) (hk : k < 6) : (m_mP (u 69 k) a2 → f_X11_mark (nI k) a2 u = m_kj (nI k) a2 u) ∧ (¬ m_mP (u 69 k) a2 → f_X11_mark (nI k) a2 u = some (-3, am_mts u 3)) := by
  have hM : f_X11_mark (nI k) a2 u = if u 69 k = a2 then m_kj (nI k) a2 u else (if ¬ a2 = 2 then (if ¬ a2 = 3 then (f_X11_meets (nI 3) u).bind (fun q13 => some (q13.1, q13.2)) else if u 69 k = 5 then m_kj (nI k) a2 u else (f_X11_meets (nI 3) u).bind (fun q13 => some (q13.1, q13.2))) else if u 69 k = 4 then m_kj (nI k) a2 u else (if ¬ a2 = 3 then (f_X11_meets (nI 3) u).bind (fun q13 => some (q13.1, q13.2)) else if u 69 k = 5 then m_kj (nI k) a2 u else (f_X11_meets (nI 3) u).bind (fun q13 => some (q13.1, q13.2)))) := by
    unfold f_X11_mark
    rw [mjar_eq (nI k) e, w, in_eq, w2]
    refine Eq.trans (b := am_ck (am_ix (nI k) 6) (if u 69 (nI k).toNatClampNeg = a2 then m_kj (nI k) a2 u else (if ¬ a2 = 2 then (if ¬ a2 = 3 then (f_X11_meets (nI 3) u).bind (fun q13 => some (q13.1, q13.2)) else if u 69 (nI k).toNatClampNeg = 5 then m_kj (nI k) a2 u else (f_X11_meets (nI 3) u).bind (fun q13 => some (q13.1, q13.2))) else if u 69 (nI k).toNatClampNeg = 4 then m_kj (nI k) a2 u else (if ¬ a2 = 3 then (f_X11_meets (nI 3) u).bind (fun q13 => some (q13.1, q13.2)) else if u 69 (nI k).toNatClampNeg = 5 then m_kj (nI k) a2 u else (f_X11_meets (nI 3) u).bind (fun q13 => some (q13.1, q13.2)))))) rfl ?_
    rw [am_ck_t (am_ix_nI hk (by omega)), nI_clamp (by omega)]
  rw [hM, meets_eq (by omega)]
  generalize u 69 k = K
  unfold m_mP
  constructor
  · intro h
    rcases h with h | ⟨h1, h2⟩ | ⟨h1, h2⟩
    · rw [if_pos h]
    · subst h1; subst h2; rfl
    · subst h1; subst h2; rfl
  · intro h
    have h1 : ¬ K = a2 := fun q => h (Or.inl q)
    have h2 : ¬ (a2 = 2 ∧ K = 4) := fun q => h (Or.inr (Or.inl q))
    have h3 : ¬ (a2 = 3 ∧ K = 5) := fun q => h (Or.inr (Or.inr q))
    rw [if_neg h1]
    by_cases q2 : a2 = 2
    · rw [if_neg (fun q => q q2), if_neg (fun q => h2 ⟨q2, q⟩), if_pos (show ¬ a2 = 3 by rw [q2]; decide)]; rfl
    · rw [if_pos q2]
      by_cases q3 : a2 = 3
      · rw [if_neg (fun q => q q3), if_neg (fun q => h3 ⟨q3, q⟩)]; rfl
      · rw [if_pos q3]; rfl
theorem two_mark (a1 a2 : Int32) : am_two (fun pl u => f_X10_mark pl a1 a2 u) (fun _ u => f_X11_mark a1 a2 u) := by
  intro pl hp u hI
  show ∃ v u1 u2, f_X10_mark pl a1 a2 u = _ ∧ f_X11_mark a1 a2 u1 = _ ∧ _
  obtain ⟨n, hn, e1, e2⟩ := plan_n hI.2.2.2.1
  rcases win_cs a1 (n := n) (by omega) with w | ⟨k, hk, ha, w⟩
  · refine ⟨-1, u, u, ?_, ?_, hI, fun _ _ => rfl⟩
    · unfold f_X10_mark; rw [cjar_eq a1 e1, w]; rfl
    · unfold f_X11_mark; rw [mjar_eq a1 e2, w]; rfl
  · rcases wi_cs a2 1 5 (by omega) (by omega) with w2 | ⟨j, hj1, hj, hb, w2⟩
    · have w2 : f_X10_isWithin a2 1 5 = some 0 := w2
      refine ⟨-1, u, u, ?_, ?_, hI, fun _ _ => rfl⟩
      · unfold f_X10_mark; rw [cjar_eq a1 e1, w, w2]; rfl
      · unfold f_X11_mark; rw [mjar_eq a1 e2, w, in_eq, w2]; rfl
    · have w2 : f_X10_isWithin a2 1 5 = some 1 := w2
      have hS := hI.2.2.2.2.1
      obtain ⟨p1, -, -, -⟩ := plan_k hI.2.2.2.1 e2 hn hk
      obtain ⟨s1, s2, s3⟩ := hS.1 k (by omega)
      obtain ⟨⟨m, hm, em⟩, -, -, ⟨o, ho, eo⟩⟩ := hS.2.2.2.2.1 k (by omega)
      have ho2 : u 75 (12 + k) = 0 ∨ u 75 (12 + k) = 1 := by
        rcases (show o = 0 ∨ o = 1 by omega) with rfl | rfl
        · exact Or.inl eo
        · exact Or.inr eo
      have h0 : ¬ a2 = 0 := by rw [hb]; exact nI_ne0 (by omega) (by omega)
      have hE : f_X10_mark pl a1 a2 u = m_kc (u 69 k) (u 75 k) (u 75 (12 + k)) a2 u := by
        unfold f_X10_mark
        rw [cjar_eq a1 e1, w, w2]
        refine Eq.trans (b := am_ck (am_ix a1 6) (m_kc (u (pl + 3) a1.toNatClampNeg) (u 9 a1.toNatClampNeg) (u 11 a1.toNatClampNeg) a2 u)) rfl ?_
        rw [ha, am_ck_t (am_ix_nI (by omega) (by omega)), nI_clamp (by omega), p1, s1, s3]
      rw [ha] at w
      by_cases hP : m_mP (u 69 k) a2
      · refine ⟨m_mv (u 69 k) (u 75 k) (u 75 (12 + k)) a2, u, u, ?_, ?_, hI, fun _ _ => rfl⟩
        · rw [hE, em, hb]
          rw [hb] at hP
          exact kc_yes hP hm ⟨hj1, hj⟩ ho2
        · rw [ha, (mmk_eq w2 e2 w (by omega)).1 hP, kj_eq (by omega) ho2]
      · refine ⟨-3, am_fnd u 3, am_mts (am_fnd u 3) 3, by rw [hE, kc_no hP h0], ?_, inv_find hp hI 3⟩
        rw [ha, (mmk_eq (u := am_fnd u 3) w2 (by rw [fnd_n (by omega)]; exact e2) w (by omega)).2 (by rw [fnd_n (by omega)]; exact hP)]
theorem ok_mark {l : Launch} {g : am_G} (a1 a2 : Int32) : am_ok l g d_X10_mark d_X11_mark [.int a1, .int a2] am_isI := ok_II (fun B pl hL u => s_X10_mark hL a1 a2 u) (fun B pl hL u => s_X11_mark hL a1 a2 u) (two_mark a1 a2)
