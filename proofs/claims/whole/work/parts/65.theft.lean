/-! theft -/
theorem wi_01 (a lo hi : Int32) : f_X10_isWithin a lo hi = some 0 ∨ f_X10_isWithin a lo hi = some 1 := by
  unfold f_X10_isWithin
  split
  · exact Or.inl rfl
  · split
    · exact Or.inl rfl
    · exact Or.inr rfl
def m_aw (R : Nat → Int32) (lo hi : Int32) : Nat → Nat → Int32
  | 0, _ => 1
  | m + 1, i => if f_X10_isWithin (R i) lo hi = some 0 then 0 else m_aw R lo hi m (i + 1)
theorem aw_c {R Q : Nat → Int32} {lo hi : Int32} : ∀ (m i : Nat), (∀ j, i ≤ j → j < i + m → R j = Q j) → m_aw R lo hi m i = m_aw Q lo hi m i := by
  intro m
  induction m with
  | zero => intro i _; rfl
  | succ m ih =>
    intro i h
    rw [m_aw, m_aw, h i (by omega) (by omega), ih (i + 1) (fun j h1 h2 => h j (by omega) (by omega))]
theorem aw_01 (R : Nat → Int32) (lo hi : Int32) : ∀ (m i : Nat), m_aw R lo hi m i = 0 ∨ m_aw R lo hi m i = 1 := by
  intro m
  induction m with
  | zero => intro i; exact Or.inr rfl
  | succ m ih =>
    intro i
    rw [m_aw]
    split
    · exact Or.inl rfl
    · exact ih (i + 1)
theorem caw_lp {T n : Nat} {u : am_U} (e : u T 1 = nI n) (hn : n ≤ 60) (lo hi : Int32) : ∀ (f i : Nat), i ≤ n → n < i + f → f_X8_isAllWithin_2 u T lo hi f (nI i) = some (m_aw (u (T + 1)) lo hi (n - i) i) := by
  intro f
  induction f with
  | zero => intro i h1 h2; omega
  | succ f ih =>
    intro i h1 h2
    rw [f_X8_isAllWithin_2, e]
    rcases Nat.lt_or_ge i n with q | q
    · rw [if_neg (nI_ge q (by omega)), am_ck_t (am_ix_nI (show i < 60 by omega) (by omega)), nI_clamp (by omega), nI_1, show n - i = (n - (i + 1)) + 1 by omega, m_aw]
      rcases wi_01 (u (T + 1) i) lo hi with w | w
      · rw [w, if_pos rfl]; rfl
      · rw [w, if_neg (show ¬ (some (1 : Int32) = some 0) by decide)]
        exact ih (i + 1) (by omega) (by omega)
    · have : i = n := by omega
      subst this
      rw [if_pos (nI_le (Nat.le_refl i) (by omega)), Nat.sub_self]; rfl
theorem caw_eq {T n : Nat} {u : am_U} (e : u T 1 = nI n) (hn : n ≤ 60) (lo hi : Int32) : f_X8_isAllWithin T lo hi u = some (m_aw (u (T + 1)) lo hi n 0) := caw_lp e hn lo hi 20000 0 (by omega) (by omega)
theorem t54_0 {r n : Nat} {u : am_U} (hr : r < 6) (e : u 62 r = nI n) (hn : n ≤ 60) (v2 : Int32) (K : Int32 → Option (Int32 × am_U)) : ∀ (f i : Nat), i ≤ n → n < i + f → f_X11_theft_54 u (nI r) v2 K f 0 (nI i) = K 0 := by
  intro f
  induction f with
  | zero => intro i h1 h2; omega
  | succ f ih =>
    intro i h1 h2
    rw [f_X11_theft_54, am_ck_t (am_ix_nI (show r < 6 by omega) (by omega)), nI_clamp (show r < 2 ^ 31 by omega), e]
    rcases Nat.lt_or_ge i n with q | q
    · rw [if_neg (nI_ge q (by omega)), if_pos rfl, nI_1]
      exact ih (i + 1) (by omega) (by omega)
    · have : i = n := by omega
      subst this
      rw [if_pos (nI_le (Nat.le_refl i) (by omega))]
theorem t54_1 {r n : Nat} {u : am_U} (hr : r < 6) (e : u 62 r = nI n) (hn : n ≤ 60) (v2 : Int32) (K : Int32 → Option (Int32 × am_U)) : ∀ (f i : Nat), i ≤ n → n < i + f → f_X11_theft_54 u (nI r) v2 K f 1 (nI i) = K (m_aw (fun j => u 63 (60 * r + j)) 0 20 (n - i) i) := by
  intro f
  induction f with
  | zero => intro i h1 h2; omega
  | succ f ih =>
    intro i h1 h2
    rw [f_X11_theft_54, am_ck_t (am_ix_nI (show r < 6 by omega) (by omega)), nI_clamp (show r < 2 ^ 31 by omega), e]
    rcases Nat.lt_or_ge i n with q | q
    · rw [if_neg (nI_ge q (by omega)), if_neg (show ¬ (1 : Int32) = 0 by decide), rowAt_eq hr (by omega), obs, in_eq, nI_1, show n - i = (n - (i + 1)) + 1 by omega, m_aw]
      rcases wi_01 (u 63 (60 * r + i)) 0 20 with w | w
      · rw [w, if_pos rfl]
        exact t54_0 hr e hn v2 K f (i + 1) (by omega) (by omega)
      · rw [w, if_neg (show ¬ (some (1 : Int32) = some 0) by decide)]
        exact ih (i + 1) (by omega) (by omega)
    · have : i = n := by omega
      subst this
      rw [if_pos (nI_le (Nat.le_refl i) (by omega)), Nat.sub_self]; rfl
def m_th (R : Nat → Int32) (kd : Int32) : Nat → Nat → Option Nat
  | 0, _ => none
  | m + 1, i => if R i - m_lk kd (R i) 0 ≤ R (i + 1) then m_th R kd m (i + 1) else some i
theorem th_lt {R : Nat → Int32} {kd : Int32} : ∀ (m i j : Nat), m_th R kd m i = some j → j < i + m := by
  intro m
  induction m with
  | zero => intro i j h; cases h
  | succ m ih =>
    intro i j h
    rw [m_th] at h
    split at h
    · have := ih (i + 1) j h; omega
    · cases h; omega
theorem th_c {R Q : Nat → Int32} {kd : Int32} : ∀ (m i : Nat), (∀ j, i ≤ j → j ≤ i + m → R j = Q j) → m_th R kd m i = m_th Q kd m i := by
  intro m
  induction m with
  | zero => intro i _; rfl
  | succ m ih =>
    intro i h
    rw [m_th, m_th, h i (by omega) (by omega), h (i + 1) (by omega) (by omega), ih (i + 1) (fun j h1 h2 => h j (by omega) (by omega))]
theorem cth2_lp {T n : Nat} {u : am_U} (e : u T 1 = nI n) (hn : n ≤ 60) (kd : Int32) (K : Int32 → Int32 → Option (Int32 × am_U)) : ∀ (f i : Nat), i + 1 ≤ n → n < i + f → f_X10_theft_72 u kd T K f (nI (i + 1)) = (m_th (u (T + 1)) kd (n - (i + 1)) i).elim (some (-9, u)) (fun j => K (nI (j + 1)) (u (T + 1) j - m_lk kd (u (T + 1) j) 0)) := by
  intro f
  induction f with
  | zero => intro i h1 h2; omega
  | succ f ih =>
    intro i h1 h2
    rw [f_X10_theft_72, e]
    rcases Nat.lt_or_ge (i + 1) n with q | q
    · rw [if_neg (nI_ge q (by omega)), nI_pred, am_ck_t (am_ix_nI (show i < 60 by omega) (by omega)), nI_clamp (show i < 2 ^ 31 by omega)]
      show (f_X2_leaked kd (u (T + 1) i) 0).bind _ = _
      rw [clk_eq, obs, am_ck_t (am_ix_nI (show i + 1 < 60 by omega) (by omega)), nI_clamp (show i + 1 < 2 ^ 31 by omega), nI_1, show n - (i + 1) = (n - (i + 1 + 1)) + 1 by omega, m_th]
      by_cases c : u (T + 1) i - m_lk kd (u (T + 1) i) 0 ≤ u (T + 1) (i + 1)
      · rw [if_pos c, if_pos c]
        exact ih (i + 1) (by omega) (by omega)
      · rw [if_neg c, if_neg c]; rfl
    · rw [if_pos (nI_le (show n ≤ i + 1 by omega) (by omega)), show n - (i + 1) = 0 by omega]; rfl
theorem mth2_lp {r n : Nat} {u : am_U} (hr : r < 6) (e : u 62 r = nI n) (hn : n ≤ 60) (kd : Int32) (K : Int32 → Int32 → Option (Int32 × am_U)) : ∀ (f i : Nat), i + 1 ≤ n → n < i + f → f_X11_theft_110 u (nI r) kd K f (nI (i + 1)) = (m_th (fun j => u 63 (60 * r + j)) kd (n - (i + 1)) i).elim (some (-9, u)) (fun j => K (nI (j + 1)) (u 63 (60 * r + j) - m_lk kd (u 63 (60 * r + j)) 0)) := by
  intro f
  induction f with
  | zero => intro i h1 h2; omega
  | succ f ih =>
    intro i h1 h2
    rw [f_X11_theft_110, am_ck_t (am_ix_nI (show r < 6 by omega) (by omega)), nI_clamp (show r < 2 ^ 31 by omega), e]
    rcases Nat.lt_or_ge (i + 1) n with q | q
    · rw [if_neg (nI_ge q (by omega)), nI_pred, rowAt_eq hr (show i < 60 by omega), obs, obs, mlk_eq, obs, rowAt_eq hr (show i + 1 < 60 by omega), obs, nI_1, show n - (i + 1) = (n - (i + 1 + 1)) + 1 by omega, m_th]
      by_cases c : u 63 (60 * r + i) - m_lk kd (u 63 (60 * r + i)) 0 ≤ u 63 (60 * r + (i + 1))
      · rw [if_pos c, if_pos c]
        exact ih (i + 1) (by omega) (by omega)
      · rw [if_neg c, if_neg c]; rfl
    · rw [if_pos (nI_le (show n ≤ i + 1 by omega) (by omega)), show n - (i + 1) = 0 by omega]; rfl
theorem two_theft (a1 a2 : Int32) : am_two (fun _ u => f_X10_theft a1 a2 u) (fun _ u => f_X11_theft a1 a2 u) := by
  intro pl hp u hI
  show ∃ v u1 u2, f_X10_theft a1 a2 u = _ ∧ f_X11_theft a1 a2 u1 = _ ∧ _
  have n01 : ¬ (-1 : Int32) = 0 := by decide
  have n03 : ¬ (-3 : Int32) = 0 := by decide
  rcases wi_01 a2 0 5 with wk | wk
  · refine ⟨-1, u, u, ?_, ?_, hI, fun _ _ => rfl⟩
    · unfold f_X10_theft; rw [wk]; rfl
    · unfold f_X11_theft; rw [isRow_eq, in_eq, wk]
      rcases wi_01 a1 0 5 with w | w
      · rw [w]; rfl
      · rw [w]; rfl
  rcases refuse_cs (pl := 30) 5 6 40 62 63 (by omega) a1 u hI.2.1 with ⟨w, e⟩ | ⟨r, hr, ha, w, hix, hcl, hrow, hid, ⟨k1, k2, e⟩ | ⟨n, hn, k1, k2, e⟩⟩
  · refine ⟨-1, u, u, ?_, ?_, hI, fun _ _ => rfl⟩
    · unfold f_X10_theft; rw [wk, e]; rfl
    · unfold f_X11_theft; rw [isRow_eq, show f_X10_isWithin a1 0 5 = some 0 from w]; rfl
  · refine ⟨-3, am_fnd u 1, am_mts (am_fnd u 1) 1, ?_, ?_, inv_find hp hI 1⟩
    · unfold f_X10_theft; rw [wk, e]; rfl
    · unfold f_X11_theft
      simp only [isRow_eq, show f_X10_isWithin a1 0 5 = some 1 from w, in_eq, wk, obs, i10, i11, iT, iN, am_ck_t hix, hcl, fnd_n (u := u) (f := 1) (a := 62) (b := r) (by omega), if_neg k2]
      show (f_X11_meets (nI 1) (am_fnd u 1)).bind _ = _
      rw [meets_eq (by omega)]; rfl
  · have hM : ∀ v : am_U, v 62 r = nI n → f_X11_theft a1 a2 v = if 2 ≤ nI n then f_X11_theft_54 v (nI r) a2 (fun (c7v3 : Int32) =>
            if ¬ c7v3 = 0 then (
              f_X11_theft_110 v (nI r) a2 (fun (c13v4 : Int32) (c13v5 : Int32) =>
                (f_X11_rowAt (nI r) c13v4 v).bind (fun q14 =>
                (f_X11_tells (c13v5 - q14) c13v4 v).bind (fun q15 =>
                some (q15.1, q15.2)))) 20000 1)
            else (some (-3, am_mts v 3))) 20000 1 0 else some (-3, am_mts v 5) := fun v hv => by
      unfold f_X11_theft
      rw [isRow_eq, show f_X10_isWithin a1 0 5 = some 1 from w, in_eq, wk]
      simp only [obs, i10, i11, iT, iN, am_ck_t hix, hcl, hv, if_pos (show (0 : Int32) ≤ nI n from nI_pos' (by omega)), show f_X11_meets 3 v = some (-3, am_mts v 3) from meets_eq (f := 3) (by omega) v, show f_X11_meets 5 v = some (-3, am_mts v 5) from meets_eq (f := 5) (by omega) v]
      rw [ha]
    have hT : u (2 * r + 40) 1 = nI n := by rw [hrow.1, k1]
    have hE : f_X10_theft a1 a2 u = if 2 ≤ nI n then (if ¬ m_aw (u (2 * r + 41)) 0 20 n 0 = 0 then f_X10_theft_72 u a2 (2 * r + 40) (fun (c9v5 : Int32) (c9v7 : Int32) =>
            am_ck (am_ix c9v5 60) (
            (f_X10_tell c9v5 (c9v7 - (u (2 * r + 41) c9v5.toNatClampNeg)) u).bind (fun q11 =>
            some (q11.1, q11.2)))) 20000 1 else some (-3, am_fnd u 3)) else some (-3, am_fnd u 5) := by
      unfold f_X10_theft
      rw [wk, e]
      simp only [obs, am_jn, i10, i11, iT, iN, am_ck_t hix, hcl, hT, caw_eq hT hn, show f_X10_find 3 u = some (-3, am_fnd u 3) from find_eq (f := 3) (by omega) u, show f_X10_find 5 u = some (-3, am_fnd u 5) from find_eq (f := 5) (by omega) u]
    have hR : ∀ i, i < 60 → u (2 * r + 41) i = u 63 (60 * r + i) := hrow.2.2
    have hAW : m_aw (u (2 * r + 41)) 0 20 n 0 = m_aw (fun j => u 63 (60 * r + j)) 0 20 n 0 := aw_c n 0 (fun j _ h => hR j (by omega))
    by_cases c1 : 2 ≤ n
    · have c1' : (2 : Int32) ≤ nI n := nI_le (a := 2) c1 (by omega)
      have h54 : ∀ v : am_U, v 62 r = nI n → (∀ b, v 63 b = u 63 b) → f_X11_theft a1 a2 v = if ¬ m_aw (u (2 * r + 41)) 0 20 n 0 = 0 then f_X11_theft_110 v (nI r) a2 (fun (c13v4 : Int32) (c13v5 : Int32) =>
                (f_X11_rowAt (nI r) c13v4 v).bind (fun q14 =>
                (f_X11_tells (c13v5 - q14) c13v4 v).bind (fun q15 =>
                some (q15.1, q15.2)))) 20000 1 else some (-3, am_mts v 3) := fun v hv h63 => by
        rw [hM v hv, if_pos c1']
        refine (t54_1 hr hv hn a2 _ 20000 0 (by omega) (by omega)).trans ?_
        rw [Nat.sub_zero, hAW]
        simp only [h63]
      rcases aw_01 (u (2 * r + 41)) 0 20 n 0 with c2 | c2
      · refine ⟨-3, am_fnd u 3, am_mts (am_fnd u 3) 3, ?_, ?_, inv_find hp hI 3⟩
        · rw [hE, if_pos c1', c2, if_neg (fun q => q rfl)]
        · rw [h54 _ (by rw [fnd_n (by omega)]; exact k1) (fun b => fnd_n (by omega)), c2, if_neg (fun q => q rfl)]
      · have hEt := cth2_lp hT hn a2 (fun (c9v5 : Int32) (c9v7 : Int32) =>
            am_ck (am_ix c9v5 60) (
            (f_X10_tell c9v5 (c9v7 - (u (2 * r + 41) c9v5.toNatClampNeg)) u).bind (fun q11 =>
            some (q11.1, q11.2)))) 20000 0 (by omega) (by omega)
        have hMt := fun (v : am_U) (hv : v 62 r = nI n) => mth2_lp hr hv hn a2 (fun (c13v4 : Int32) (c13v5 : Int32) =>
                (f_X11_rowAt (nI r) c13v4 v).bind (fun q14 =>
                (f_X11_tells (c13v5 - q14) c13v4 v).bind (fun q15 =>
                some (q15.1, q15.2)))) 20000 0 (by omega) (by omega)
        have hth : m_th (u (2 * r + 40 + 1)) a2 (n - (0 + 1)) 0 = m_th (fun j => u 63 (60 * r + j)) a2 (n - (0 + 1)) 0 := th_c _ 0 (fun j _ h => hR j (by omega))
        cases ht : m_th (fun j => u 63 (60 * r + j)) a2 (n - (0 + 1)) 0 with
        | none =>
          refine ⟨-9, u, u, ?_, ?_, hI, fun _ _ => rfl⟩
          · rw [hE, if_pos c1', c2, if_pos (by decide)]
            refine hEt.trans ?_
            rw [hth, ht]; rfl
          · rw [h54 u k1 (fun _ => rfl), c2, if_pos (by decide)]
            refine (hMt u k1).trans ?_
            rw [ht]; rfl
        | some j =>
          have hj := th_lt _ _ _ ht
          obtain ⟨z, hz⟩ : ∃ z, u 63 (60 * r + j) - m_lk a2 (u 63 (60 * r + j)) 0 - u 63 (60 * r + (j + 1)) = z := ⟨_, rfl⟩
          refine ⟨nI (j + 1), am_w u 4 13 z, am_w (am_w u 4 13 z) 60 2 z, ?_, ?_, inv_tell hp hI z⟩
          · rw [hE, if_pos c1', c2, if_pos (by decide)]
            refine hEt.trans ?_
            rw [hth, ht]
            show am_ck (am_ix (nI (j + 1)) 60) (some (nI (j + 1), am_w u 4 13 (u (2 * r + 41) j - m_lk a2 (u (2 * r + 41) j) 0 - u (2 * r + 41) (nI (j + 1)).toNatClampNeg))) = _
            rw [am_ck_t (am_ix_nI (by omega) (by omega)), nI_clamp (by omega), hR j (by omega), hR (j + 1) (by omega), hz]
          · rw [h54 _ (by rw [am_w_n (by omega)]; exact k1) (fun b => am_w_n (by omega)), c2, if_pos (by decide)]
            refine (hMt _ (by rw [am_w_n (by omega)]; exact k1)).trans ?_
            have e63 : ∀ b, am_w u 4 13 z 63 b = u 63 b := fun b => am_w_n (by omega)
            simp only [e63]
            rw [ht]
            show (f_X11_rowAt (nI r) (nI (j + 1)) (am_w u 4 13 z)).bind (fun q14 => some (nI (j + 1), am_w (am_w u 4 13 z) 60 2 (u 63 (60 * r + j) - m_lk a2 (u 63 (60 * r + j)) 0 - q14))) = _
            rw [rowAt_eq hr (by omega), obs, am_w_n (by omega), hz]
    · have c1' : ¬ (2 : Int32) ≤ nI n := nI_ge (b := 2) (by omega) (by omega)
      refine ⟨-3, am_fnd u 5, am_mts (am_fnd u 5) 5, ?_, ?_, inv_find hp hI 5⟩
      · rw [hE, if_neg c1']
      · rw [hM _ (by rw [fnd_n (by omega)]; exact k1), if_neg c1']
theorem ok_theft {l : Launch} {g : am_G} (a1 a2 : Int32) : am_ok l g d_X10_theft d_X11_theft [.int a1, .int a2] am_isI := ok_II (fun B pl hL u => s_X10_theft hL a1 a2 u) (fun B pl hL u => s_X11_theft hL a1 a2 u) (two_theft a1 a2)
