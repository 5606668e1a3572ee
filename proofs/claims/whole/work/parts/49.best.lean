/-! the best jar of a place -/
def m_be (H : Nat → Int32) : Nat → Nat → Nat → Nat
  | 0, b, _ => b
  | m + 1, b, k => m_be H m (if H k ≤ H b then b else k) (k + 1)
theorem m_be_lt (H : Nat → Int32) (n : Nat) : ∀ (m b k : Nat), b < n → k + m ≤ n → m_be H m b k < n := by
  intro m
  induction m with
  | zero => intro b k h1 _; exact h1
  | succ m ih =>
    intro b k h1 h2
    rw [m_be]
    refine ih _ _ ?_ (by omega)
    split
    · exact h1
    · omega
theorem cbe_lp {pl p n : Nat} {u : am_U} (hP : i_plan pl u) (e1 : u pl 2 = nI n) (e2 : u 60 12 = nI n) (hn : n ≤ 6) (hp : p < 5) (K : Int32 → Option (Int32 × am_U)) : ∀ (f b k : Nat), b < n → k ≤ n → n < k + f → f_X10_best_26 pl u (nI p) K f (nI b) (nI k) = K (nI (m_be (fun j => m_hb (u 69) (u 70) j p) (n - k) b k)) := by
  intro f
  induction f with
  | zero => intro b k h0 h1 h2; omega
  | succ f ih =>
    intro b k h0 h1 h2
    rw [f_X10_best_26, e1]
    rcases Nat.lt_or_ge k n with q | q
    · rw [if_neg (nI_ge q (by omega)), chb_eq hP e2 hn q hp, chb_eq hP e2 hn h0 hp, nI_1, show n - k = (n - (k + 1)) + 1 by omega, m_be]
      show (if m_hb (u 69) (u 70) k p ≤ m_hb (u 69) (u 70) b p then _ else _) = _
      by_cases h : m_hb (u 69) (u 70) k p ≤ m_hb (u 69) (u 70) b p
      · rw [if_pos h, if_pos h]; exact ih b (k + 1) h0 (by omega) (by omega)
      · rw [if_neg h, if_neg h]; exact ih k (k + 1) q (by omega) (by omega)
    · have : k = n := by omega
      subst this
      rw [if_pos (nI_le (Nat.le_refl k) (by omega)), Nat.sub_self]; rfl
theorem mbe_lp {p n : Nat} {u : am_U} (e2 : u 60 12 = nI n) (hn : n ≤ 6) (hp : p < 5) (K : Int32 → Option (Int32 × am_U)) : ∀ (f b k : Nat), b < n → k ≤ n → n < k + f → f_X11_best_23 u (nI p) K f (nI b) (nI k) = K (nI (m_be (fun j => m_hb (u 69) (u 70) j p) (n - k) b k)) := by
  intro f
  induction f with
  | zero => intro b k h0 h1 h2; omega
  | succ f ih =>
    intro b k h0 h1 h2
    rw [f_X11_best_23, e2]
    rcases Nat.lt_or_ge k n with q | q
    · rw [if_neg (nI_ge q (by omega)), mhb_eq (show k < 6 by omega) hp, mhb_eq (show b < 6 by omega) hp, nI_1, show n - k = (n - (k + 1)) + 1 by omega, m_be]
      show (if m_hb (u 69) (u 70) k p ≤ m_hb (u 69) (u 70) b p then _ else _) = _
      by_cases h : m_hb (u 69) (u 70) k p ≤ m_hb (u 69) (u 70) b p
      · rw [if_pos h, if_pos h]; exact ih b (k + 1) h0 (by omega) (by omega)
      · rw [if_neg h, if_neg h]; exact ih k (k + 1) q (by omega) (by omega)
    · have : k = n := by omega
      subst this
      rw [if_pos (nI_le (Nat.le_refl k) (by omega)), Nat.sub_self]; rfl
theorem two_best (a1 : Int32) : am_two (fun pl u => f_X10_best pl a1 u) (fun _ u => f_X11_best a1 u) := by
  intro pl hp u hI
  show ∃ v u1 u2, f_X10_best pl a1 u = _ ∧ f_X11_best a1 u1 = _ ∧ _
  obtain ⟨n, hn, e1, e2⟩ := plan_n hI.2.2.2.1
  rcases wi_cs a1 0 4 (by omega) (by omega) with w | ⟨p, -, hpp, ha, w⟩
  · refine ⟨-1, u, u, ?_, ?_, hI, fun _ _ => rfl⟩
    · unfold f_X10_best; rw [cplace_eq, show f_X10_isWithin a1 0 4 = some 0 from w]; rfl
    · unfold f_X11_best; rw [mplace_eq, show f_X10_isWithin a1 0 4 = some 0 from w]; rfl
  · by_cases h0 : n = 0
    · subst h0
      refine ⟨-4, u, u, ?_, ?_, hI, fun _ _ => rfl⟩
      · unfold f_X10_best; rw [cplace_eq, show f_X10_isWithin a1 0 4 = some 1 from w, e1]; rfl
      · unfold f_X11_best; rw [mplace_eq, show f_X10_isWithin a1 0 4 = some 1 from w, e2]; rfl
    · have hne : ¬ nI n = 0 := nI_ne0 (by omega) (by omega)
      obtain ⟨b, hb⟩ : ∃ b, m_be (fun j => m_hb (u 69) (u 70) j p) (n - 1) 0 1 = b := ⟨_, rfl⟩
      have hbn : b < n := by rw [← hb]; exact m_be_lt _ n _ _ _ (by omega) (by omega)
      obtain ⟨x, hx⟩ : ∃ x, m_hb (u 69) (u 70) b p = x := ⟨_, rfl⟩
      refine ⟨nI b, am_w u 4 13 x, am_w (am_w u 4 13 x) 60 2 x, ?_, ?_, inv_tell hp hI x⟩
      · unfold f_X10_best; rw [cplace_eq, show f_X10_isWithin a1 0 4 = some 1 from w, e1]
        show (if ¬ nI n = 0 then f_X10_best_26 pl u a1 (fun c4v2 => (f_X5_hoursBrought pl c4v2 a1 u).bind (fun q5 => (f_X10_tell c4v2 q5 u).bind (fun q6 => some (q6.1, q6.2)))) 20000 (nI 0) (nI 1) else _) = _
        rw [if_pos hne, ha, cbe_lp hI.2.2.2.1 e1 e2 hn (by omega) _ 20000 0 1 (by omega) (by omega) (by omega), hb, chb_eq hI.2.2.2.1 e2 hn hbn (by omega), hx]; rfl
      · generalize hu1 : am_w u 4 13 x = u1
        have g1 : u1 60 12 = nI n := by rw [← hu1, am_w_c (by omega)]; exact e2
        have g2 : u1 69 = u 69 := by rw [← hu1, am_w_c (by omega)]
        have g3 : u1 70 = u 70 := by rw [← hu1, am_w_c (by omega)]
        unfold f_X11_best; rw [mplace_eq, show f_X10_isWithin a1 0 4 = some 1 from w, g1]
        show (if ¬ nI n = 0 then f_X11_best_23 u1 a1 (fun c4v2 => (f_X11_hoursAt c4v2 a1 u1).bind (fun q5 => (f_X11_tells q5 c4v2 u1).bind (fun q6 => some (q6.1, q6.2)))) 20000 (nI 0) (nI 1) else _) = _
        rw [if_pos hne, ha, mbe_lp g1 hn (by omega) _ 20000 0 1 (by omega) (by omega) (by omega), g2, g3, hb, mhb_eq (by omega) (by omega), g2, g3, hx]; rfl
theorem ok_best {l : Launch} {g : am_G} (a1 : Int32) : am_ok l g d_X10_best d_X11_best [.int a1] am_isI := ok_II (fun B pl hL u => s_X10_best hL a1 u) (fun B pl hL u => s_X11_best hL a1 u) (two_best a1)
/-! the mean of a row -/
def m_sm (R : Nat → Int32) : Nat → Nat → Int64 → Int64
  | 0, _, v => v
  | m + 1, i, v => m_sm R m (i + 1) (v + (R i).toInt64)
theorem m_sm_eq {R Q : Nat → Int32} : ∀ (m i : Nat) (v : Int64), (∀ j, i ≤ j → j < i + m → R j = Q j) → m_sm R m i v = m_sm Q m i v := by
  intro m
  induction m with
  | zero => intro i v _; rfl
  | succ m ih =>
    intro i v h
    rw [m_sm, m_sm, h i (by omega) (by omega)]
    exact ih _ _ (fun j h1 h2 => h j (by omega) (by omega))
theorem csm_lp {T n : Nat} {u : am_U} (e : u T 1 = nI n) (hn : n ≤ 60) : ∀ (f i : Nat) (v : Int64), i ≤ n → n < i + f → f_X8_sum_4 u T f v (nI i) = some (m_sm (u (T + 1)) (n - i) i v) := by
  intro f
  induction f with
  | zero => intro i v h1 h2; omega
  | succ f ih =>
    intro i v h1 h2
    rw [f_X8_sum_4, e]
    rcases Nat.lt_or_ge i n with q | q
    · rw [if_neg (nI_ge q (by omega)), am_ck_t (am_ix_nI (show i < 60 by omega) (by omega)), nI_clamp (by omega), nI_1, show n - i = (n - (i + 1)) + 1 by omega, m_sm]
      exact ih (i + 1) _ (by omega) (by omega)
    · have : i = n := by omega
      subst this
      rw [if_pos (nI_le (Nat.le_refl i) (by omega)), Nat.sub_self]; rfl
theorem csm_eq {T n : Nat} {u : am_U} (e : u T 1 = nI n) (hn : n ≤ 60) : f_X8_sum T u = some (m_sm (u (T + 1)) n 0 0) := csm_lp e hn 20000 0 0 (by omega) (by omega)
theorem rowAt_eq {r i : Nat} (hr : r < 6) (hi : i < 60) (u : am_U) : f_X11_rowAt (nI r) (nI i) u = some (u 63 (60 * r + i)) := by
  unfold f_X11_rowAt
  rw [nI_60, am_ck_t (am_ix_nI (by omega) (by omega)), nI_clamp (by omega)]
theorem msm_lp {r n : Nat} {u : am_U} (hr : r < 6) (e : u 62 r = nI n) (hn : n ≤ 60) (K : Int64 → Option (Int32 × am_U)) : ∀ (f i : Nat) (v : Int64), i ≤ n → n < i + f → f_X11_mean_44 u (nI r) K f v (nI i) = K (m_sm (fun j => u 63 (60 * r + j)) (n - i) i v) := by
  intro f
  induction f with
  | zero => intro i v h1 h2; omega
  | succ f ih =>
    intro i v h1 h2
    rw [f_X11_mean_44, am_ck_t (am_ix_nI hr (by omega)), nI_clamp (by omega), e]
    rcases Nat.lt_or_ge i n with q | q
    · rw [if_neg (nI_ge q (by omega)), rowAt_eq hr (by omega), nI_1, show n - i = (n - (i + 1)) + 1 by omega, m_sm]
      exact ih (i + 1) _ (by omega) (by omega)
    · have : i = n := by omega
      subst this
      rw [if_pos (nI_le (Nat.le_refl i) (by omega)), Nat.sub_self]; rfl
theorem nIl_ne {n : Nat} (h : 0 < n) (hn : n < 2 ^ 31) : (!((nI n).toInt64 == 0)) = true := by
  rw [Bool.not_eq_true', beq_eq_false_iff_ne]
  intro q
  have h2 := congrArg Int64.toInt q
  rw [Int32.toInt_toInt64, nI_toInt hn] at h2
  have h3 : (0 : Int64).toInt = 0 := rfl
  omega
theorem two_mean (a1 : Int32) : am_two (fun _ u => f_X10_mean a1 u) (fun _ u => f_X11_mean a1 u) := by
  intro pl hp u hI
  show ∃ v u1 u2, f_X10_mean a1 u = _ ∧ f_X11_mean a1 u1 = _ ∧ _
  rcases refuse_cs (pl := pl) 5 6 40 62 63 (Or.inl ⟨rfl, rfl, rfl⟩) a1 u hI.2.1 with ⟨w, e⟩ | ⟨r, hr, ha, w, hix, hcl, hrow, hid, ⟨k1, k2, e⟩ | ⟨n, hn, k1, k2, e⟩⟩
  · refine ⟨-1, u, u, ?_, ?_, hI, fun _ _ => rfl⟩
    · unfold f_X10_mean; rw [e]; rfl
    · unfold f_X11_mean; rw [isRow_eq, show f_X10_isWithin a1 0 5 = some 0 from w]; rfl
  · refine ⟨-3, am_fnd u 1, am_mts (am_fnd u 1) 1, ?_, ?_, inv_find hp hI 1⟩
    · unfold f_X10_mean; rw [e]; rfl
    · unfold f_X11_mean; rw [isRow_eq, show f_X10_isWithin a1 0 5 = some 1 from w]
      show am_ck (am_ix a1 6) (if 0 ≤ am_fnd u 1 62 a1.toNatClampNeg then _ else (f_X11_meets (nI 1) (am_fnd u 1)).bind _) = _
      rw [hix, hcl, fnd_n (by omega), if_neg k2, meets_eq (by omega)]; rfl
  · have g1 : u (2 * r + 40) 1 = nI n := by rw [hrow.1, k1]
    have hE : f_X10_mean a1 u = if ¬ nI n = 0 then (f_X8_sum (2 * r + 40) u).bind (fun q3 => am_ck (!((nI n).toInt64 == 0)) ((f_X10_tell 1 ((q3 / ((nI n).toInt64)).toInt32) u).bind (fun q4 => some (q4.1, q4.2)))) else (f_X10_find (nI 4) u).bind (fun q5 => some (q5.1, q5.2)) := by
      unfold f_X10_mean; rw [e]
      show am_ck (am_ix a1 6) (if ¬ (u (2 * a1.toNatClampNeg + 40) 1) = 0 then (f_X8_sum (2 * a1.toNatClampNeg + 40) u).bind (fun q3 => am_ck (!((u (2 * a1.toNatClampNeg + 40) 1).toInt64 == 0)) ((f_X10_tell 1 ((q3 / ((u (2 * a1.toNatClampNeg + 40) 1).toInt64)).toInt32) u).bind (fun q4 => some (q4.1, q4.2)))) else (f_X10_find (nI 4) u).bind (fun q5 => some (q5.1, q5.2))) = _
      rw [am_ck_t hix, hcl, g1]
    have hM : ∀ u1 : am_U, u1 62 r = nI n → f_X11_mean a1 u1 = if ¬ nI n = 0 then f_X11_mean_44 u1 (nI r) (fun c5v2 => am_ck (!((nI n).toInt64 == 0)) ((f_X11_tells ((c5v2 / ((nI n).toInt64)).toInt32) 1 u1).bind (fun q6 => some (q6.1, q6.2)))) 20000 0 (nI 0) else (f_X11_meets (nI 4) u1).bind (fun q7 => some (q7.1, q7.2)) := fun u1 h1 => by
      unfold f_X11_mean; rw [isRow_eq, show f_X10_isWithin a1 0 5 = some 1 from w]
      show am_ck (am_ix a1 6) (if 0 ≤ u1 62 a1.toNatClampNeg then (if ¬ (u1 62 a1.toNatClampNeg) = 0 then f_X11_mean_44 u1 a1 (fun c5v2 => am_ck (!((u1 62 a1.toNatClampNeg).toInt64 == 0)) ((f_X11_tells ((c5v2 / ((u1 62 a1.toNatClampNeg).toInt64)).toInt32) 1 u1).bind (fun q6 => some (q6.1, q6.2)))) 20000 0 (nI 0) else (f_X11_meets (nI 4) u1).bind (fun q7 => some (q7.1, q7.2))) else _) = _
      rw [am_ck_t hix, hcl, h1, if_pos (nI_pos' (by omega)), ha]
    by_cases h0 : n = 0
    · subst h0
      refine ⟨-3, am_fnd u 4, am_mts (am_fnd u 4) 4, ?_, ?_, inv_find hp hI 4⟩
      · rw [hE, if_neg (fun q => q rfl), find_eq (by omega)]; rfl
      · rw [hM _ (by rw [fnd_n (by omega)]; exact k1), if_neg (fun q => q rfl), meets_eq (by omega)]; rfl
    · have hne : ¬ nI n = 0 := nI_ne0 (by omega) (by omega)
      obtain ⟨x, hx⟩ : ∃ x, (m_sm (fun j => u 63 (60 * r + j)) n 0 0 / (nI n).toInt64).toInt32 = x := ⟨_, rfl⟩
      refine ⟨1, am_w u 4 13 x, am_w (am_w u 4 13 x) 60 2 x, ?_, ?_, inv_tell hp hI x⟩
      · rw [hE, if_pos hne, csm_eq g1 hn, m_sm_eq (Q := fun j => u 63 (60 * r + j)) n 0 0 (fun j _ h2 => hrow.2.2 j (by omega))]
        show am_ck (!((nI n).toInt64 == 0)) ((f_X10_tell 1 _ u).bind _) = _
        rw [am_ck_t (nIl_ne (by omega) (by omega)), hx]; rfl
      · generalize hu1 : am_w u 4 13 x = u1
        have q1 : u1 62 r = nI n := by rw [← hu1, am_w_c (by omega)]; exact k1
        have q2 : u1 63 = u 63 := by rw [← hu1, am_w_c (by omega)]
        rw [hM u1 q1, if_pos hne, msm_lp hr q1 hn _ 20000 0 0 (by omega) (by omega), q2, Nat.sub_zero, hx, am_ck_t (nIl_ne (by omega) (by omega))]; rfl
theorem ok_mean {l : Launch} {g : am_G} (a1 : Int32) : am_ok l g d_X10_mean d_X11_mean [.int a1] am_isI := ok_II (fun B pl hL u => s_X10_mean hL a1 u) (fun B pl hL u => s_X11_mean hL a1 u) (two_mean a1)
