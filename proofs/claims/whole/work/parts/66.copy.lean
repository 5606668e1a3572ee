/-! copy -/
theorem hasFrom_cs {T s m : Nat} (a : Int32) {u : am_U} (e : u T 1 = nI s) (hs : s ≤ 60) (hm : m < 2 ^ 31) : (f_X8_hasFrom T a (nI m) u = some 0 ∧ (a < 0 ∨ ∃ x, x < 2 ^ 31 ∧ a = nI x ∧ s < x + m)) ∨ ∃ x, a = nI x ∧ x + m ≤ s ∧ f_X8_hasFrom T a (nI m) u = some 1 := by
  unfold f_X8_hasFrom
  by_cases h0 : a < 0
  · rw [if_pos h0]; exact Or.inl ⟨rfl, Or.inl h0⟩
  · obtain ⟨x, hx, rfl⟩ := nI_of h0
    rw [if_neg h0, e]
    by_cases h1 : s < x
    · rw [if_pos (nI_lt h1 hx)]; exact Or.inl ⟨rfl, Or.inr ⟨x, hx, rfl, by omega⟩⟩
    · rw [if_neg (nI_nlt (by omega) (by omega)), nI_sub (by omega)]
      by_cases h2 : s - x < m
      · rw [if_pos (nI_lt h2 hm)]; exact Or.inl ⟨rfl, Or.inr ⟨x, hx, rfl, by omega⟩⟩
      · rw [if_neg (nI_nlt (by omega) (by omega))]; exact Or.inr ⟨x, rfl, by omega, rfl⟩
theorem cmp_gt {x m s : Nat} (hx : x < 2 ^ 31) (hm : m < 2 ^ 31) (hs : s < 2 ^ 31) (h : s < x + m) : lg_cmp ((nI x).toInt64 + (nI m).toInt64) ((nI s).toInt64) = 1 := by
  unfold lg_cmp
  rw [nI_l hx, nI_l hm, nI_l hs, lN_add, if_pos ((pk_lLT (by omega) (by omega)).mpr h)]
theorem cmp_le {x m s : Nat} (hs : s < 2 ^ 31) (h : x + m ≤ s) : lg_cmp ((nI x).toInt64 + (nI m).toInt64) ((nI s).toInt64) ≤ 0 := by
  unfold lg_cmp
  rw [nI_l (by omega), nI_l (by omega), nI_l hs, lN_add, if_neg (fun q => absurd ((pk_lLT (by omega) (by omega)).mp q) (by omega))]
  split <;> decide
theorem c104_lp {r x m : Nat} (hr : r < 6) (hx : x + m ≤ 60) (v3 v4 : Int32) (K : am_U → Option (Int32 × am_U)) : ∀ (f i : Nat) (u : am_U), i ≤ m → m < i + f → f_X11_copy_104 (nI r) (nI x) v3 v4 (nI m) K f (nI i) u = K (am_cy u 64 0 63 (60 * r + x) i m) := by
  intro f
  induction f with
  | zero => intro i u h1 h2; omega
  | succ f ih =>
    intro i u h1 h2
    rw [f_X11_copy_104]
    rcases Nat.lt_or_ge i m with q | q
    · rw [if_neg (nI_ge q (by omega)), nI_add, rowAt_eq hr (show x + i < 60 by omega), obs, am_ck_t (am_ix_nI (show i < 60 by omega) (by omega)), nI_clamp (by omega), nI_1]
      show f_X11_copy_104 (nI r) (nI x) v3 v4 (nI m) K f (nI (i + 1)) (am_w u 64 i (u 63 (60 * r + (x + i)))) = _
      rw [ih (i + 1) _ (by omega) (by omega)]
      have := am_cy_w (u := u) (c := 64) (o := 0) (s := 63) (p := 60 * r + x) (i := i) (n := m) (by omega) q
      rw [Nat.zero_add, Nat.add_assoc] at this
      rw [this]
    · have : i = m := by omega
      subst this
      rw [if_pos (nI_le (Nat.le_refl i) (by omega)), am_cy_e]
theorem c136_lp {t y m : Nat} (ht : t < 6) (hy : y + m ≤ 60) : ∀ (f i : Nat) (u : am_U), i ≤ m → m < i + f → f_X11_copy_136 (nI t) (nI y) (nI m) f (nI i) u = some (1, am_cy u 63 (60 * t + y) 64 0 i m) := by
  intro f
  induction f with
  | zero => intro i u h1 h2; omega
  | succ f ih =>
    intro i u h1 h2
    rw [f_X11_copy_136]
    rcases Nat.lt_or_ge i m with q | q
    · rw [if_neg (nI_ge q (by omega)), am_ck_t (am_ix_nI (show i < 60 by omega) (by omega)), nI_60, nI_add, am_ck_t (am_ix_nI (show 60 * t + y + i < 360 by omega) (by omega)), nI_clamp (show i < 2 ^ 31 by omega), nI_clamp (show 60 * t + y + i < 2 ^ 31 by omega), nI_1]
      show f_X11_copy_136 (nI t) (nI y) (nI m) f (nI (i + 1)) (am_w u 63 (60 * t + y + i) (u 64 i)) = _
      rw [ih (i + 1) _ (by omega) (by omega)]
      have := am_cy_w (u := u) (c := 63) (o := 60 * t + y) (s := 64) (p := 0) (i := i) (n := m) (by omega) q
      rw [Nat.zero_add] at this
      rw [this]
    · have : i = m := by omega
      subst this
      rw [if_pos (nI_le (Nat.le_refl i) (by omega)), am_cy_e]
theorem there_no {T : Nat} {u : am_U} (h : u T 1 = -1) : f_X8_isThere T u = some 0 := by
  unfold f_X8_isThere; rw [h, if_pos rfl]
theorem there_yes {T n : Nat} {u : am_U} (h : u T 1 = nI n) (hn : n ≤ 60) : f_X8_isThere T u = some 1 := by
  unfold f_X8_isThere
  rw [h, if_neg (fun q => by
    have h1 : ¬ nI n < 0 := nI_pos (by omega)
    rw [q] at h1
    exact h1 neg1_lt)]
theorem two_copy (a1 a2 a3 a4 a5 : Int32) : am_two (fun _ u => f_X10_copy a1 a2 a3 a4 a5 u) (fun _ u => f_X11_copy a1 a2 a3 a4 a5 u) := by
  intro pl hp u hI
  show ∃ v u1 u2, f_X10_copy a1 a2 a3 a4 a5 u = _ ∧ f_X11_copy a1 a2 a3 a4 a5 u1 = _ ∧ _
  rcases wi_cs a1 0 5 (by omega) (by omega) with w | ⟨r, -, hr, ha, w⟩
  · refine ⟨-1, u, u, ?_, ?_, hI, fun _ _ => rfl⟩
    · unfold f_X10_copy; rw [show f_X10_isWithin a1 0 5 = some 0 from w]; rfl
    · unfold f_X11_copy; rw [isRow_eq, show f_X10_isWithin a1 0 5 = some 0 from w]; rfl
  rcases wi_cs a3 0 5 (by omega) (by omega) with w3 | ⟨t, -, ht, hc, w3⟩
  · refine ⟨-1, u, u, ?_, ?_, hI, fun _ _ => rfl⟩
    · unfold f_X10_copy; rw [show f_X10_isWithin a1 0 5 = some 1 from w, show f_X10_isWithin a3 0 5 = some 0 from w3]; rfl
    · unfold f_X11_copy; rw [isRow_eq, isRow_eq, show f_X10_isWithin a1 0 5 = some 1 from w, show f_X10_isWithin a3 0 5 = some 0 from w3]; rfl
  have hix1 : am_ix a1 6 = true := by rw [ha]; exact am_ix_nI (by omega) (by omega)
  have hcl1 : a1.toNatClampNeg = r := by rw [ha]; exact nI_clamp (by omega)
  have hix3 : am_ix a3 6 = true := by rw [hc]; exact am_ix_nI (by omega) (by omega)
  have hcl3 : a3.toNatClampNeg = t := by rw [hc]; exact nI_clamp (by omega)
  by_cases h5' : ¬ 0 ≤ a5
  · refine ⟨-3, am_fnd u 5, am_mts (am_fnd u 5) 5, ?_, ?_, inv_find hp hI 5⟩
    · unfold f_X10_copy; rw [show f_X10_isWithin a1 0 5 = some 1 from w, show f_X10_isWithin a3 0 5 = some 1 from w3]
      simp only [obs, i10, i11, iT, iN, if_neg h5']
      show (f_X10_find (nI 5) u).bind _ = _
      rw [find_eq (by omega)]; rfl
    · unfold f_X11_copy; rw [isRow_eq, isRow_eq, show f_X10_isWithin a1 0 5 = some 1 from w, show f_X10_isWithin a3 0 5 = some 1 from w3]
      simp only [obs, i10, i11, iT, iN, if_neg h5']
      show (f_X11_meets (nI 5) _).bind _ = _
      rw [meets_eq (by omega)]; rfl
  have h5 : 0 ≤ a5 := Decidable.not_not.mp h5'
  obtain ⟨m, hm, hd⟩ := nI_of (Int32.not_lt.mpr h5)
  obtain ⟨R1, R2, R3⟩ := hI.2.1 r (by omega)
  obtain ⟨T1, T2, T3⟩ := hI.2.1 t (by omega)
  have eF1 : f_X10_find 1 u = some (-3, am_fnd u 1) := find_eq (f := 1) (by omega) u
  have eF2 : f_X10_find 2 u = some (-3, am_fnd u 2) := find_eq (f := 2) (by omega) u
  have eM1 : ∀ v, f_X11_meets 1 v = some (-3, am_mts v 1) := fun v => meets_eq (f := 1) (by omega) v
  have eM2 : ∀ v, f_X11_meets 2 v = some (-3, am_mts v 2) := fun v => meets_eq (f := 2) (by omega) v
  have n1 : (-1 : Int32) < 0 := neg1_lt
  have n2 : ¬ (0 : Int32) ≤ -1 := by decide
  rcases R2 with R2 | ⟨s, hs, R2⟩
  · refine ⟨-3, am_fnd u 1, am_mts (am_fnd u 1) 1, ?_, ?_, inv_find hp hI 1⟩
    · unfold f_X10_copy; rw [show f_X10_isWithin a1 0 5 = some 1 from w, show f_X10_isWithin a3 0 5 = some 1 from w3]
      simp only [obs, i10, i11, iT, iN, if_pos h5, am_ck_t hix1, am_ck_t hix3, hcl1, hcl3, there_no (R1.trans R2), am_jn, eF1]
    · unfold f_X11_copy; rw [isRow_eq, isRow_eq, show f_X10_isWithin a1 0 5 = some 1 from w, show f_X10_isWithin a3 0 5 = some 1 from w3]
      simp only [obs, i10, i11, iT, iN, if_pos h5, am_ck_t hix1, hcl1, fnd_n (u := u) (f := 1) (a := 62) (b := r) (by omega), R2, if_pos n1, am_jn, eM1]
  have hs0 : ¬ nI s < 0 := nI_pos (by omega)
  rcases T2 with T2 | ⟨s', hs', T2⟩
  · refine ⟨-3, am_fnd u 1, am_mts (am_fnd u 1) 1, ?_, ?_, inv_find hp hI 1⟩
    · unfold f_X10_copy; rw [show f_X10_isWithin a1 0 5 = some 1 from w, show f_X10_isWithin a3 0 5 = some 1 from w3]
      simp only [obs, i10, i11, iT, iN, if_pos h5, am_ck_t hix1, am_ck_t hix3, hcl1, hcl3, there_yes (R1.trans R2) hs, there_no (T1.trans T2), am_jn, eF1]
    · unfold f_X11_copy; rw [isRow_eq, isRow_eq, show f_X10_isWithin a1 0 5 = some 1 from w, show f_X10_isWithin a3 0 5 = some 1 from w3]
      simp only [obs, i10, i11, iT, iN, if_pos h5, am_ck_t hix1, am_ck_t hix3, hcl1, hcl3, fnd_n (u := u) (f := 1) (a := 62) (b := r) (by omega), fnd_n (u := u) (f := 1) (a := 62) (b := t) (by omega), R2, T2, if_neg hs0, if_neg n2, am_jn, eM1]
  have hs0' : (0 : Int32) ≤ nI s' := nI_pos' (by omega)
  have hE : ∀ (b1 b2 : Int32) (W : Option (Int32 × am_U)), f_X8_hasFrom (2 * r + 40) a2 a5 u = some b1 → f_X8_hasFrom (2 * t + 40) a4 a5 u = some b2 → (¬ b1 = 0 → ¬ b2 = 0 → am_ck (am_cp a2 a4 a5 60 60) (some ((1 : Int32), am_rw u (2 * t + 40 + 1) (va_cpy (u (2 * r + 40 + 1)) (u (2 * t + 40 + 1)) a2.toNatClampNeg a4.toNatClampNeg a5.toNatClampNeg))) = W) → f_X10_copy a1 a2 a3 a4 a5 u = if b1 = 0 then some (-3, am_fnd u 2) else if ¬ b2 = 0 then W else some (-3, am_fnd u 2) := fun b1 b2 W hb1 hb2 hW => by
    unfold f_X10_copy; rw [show f_X10_isWithin a1 0 5 = some 1 from w, show f_X10_isWithin a3 0 5 = some 1 from w3]
    simp only [obs, i10, i11, iT, iN, if_pos h5, am_ck_t hix1, am_ck_t hix3, hcl1, hcl3, there_yes (R1.trans R2) hs, there_yes (T1.trans T2) hs', am_jn, eF2, hb1, hb2]
    by_cases z1 : b1 = 0
    · rw [if_pos z1, if_pos z1]
    · rw [if_neg z1, if_neg z1]
      by_cases z2 : b2 = 0
      · rw [if_neg (fun q => q z2), if_neg (fun q => q z2)]
      · rw [if_pos z2, if_pos z2, ← hW z1 z2]
  have hM : ∀ v : am_U, v 62 r = nI s → v 62 t = nI s' → f_X11_copy a1 a2 a3 a4 a5 v = if a2 < 0 then some (-3, am_mts v 2) else if a4 < 0 then some (-3, am_mts v 2) else if 0 < (lg_cmp (a2.toInt64 + a5.toInt64) ((nI s).toInt64)) then some (-3, am_mts v 2) else if (lg_cmp (a4.toInt64 + a5.toInt64) ((nI s').toInt64)) ≤ 0 then f_X11_copy_104 a1 a2 a3 a4 a5 (fun (c12u : am_U) => f_X11_copy_136 a3 a4 a5 20000 0 c12u) 20000 0 v else some (-3, am_mts v 2) := fun v v1 v2 => by
    unfold f_X11_copy; rw [isRow_eq, isRow_eq, show f_X10_isWithin a1 0 5 = some 1 from w, show f_X10_isWithin a3 0 5 = some 1 from w3]
    simp only [obs, i10, i11, iT, iN, if_pos h5, am_ck_t hix1, am_ck_t hix3, hcl1, hcl3, v1, v2, if_neg hs0, if_pos hs0', am_jn, eM2]
  have f1 : am_fnd u 2 62 r = nI s := by rw [fnd_n (by omega)]; exact R2
  have f2 : am_fnd u 2 62 t = nI s' := by rw [fnd_n (by omega)]; exact T2
  have h3 := hasFrom_cs a2 (R1.trans R2) hs hm
  have h4 := hasFrom_cs a4 (T1.trans T2) hs' hm
  rw [← hd] at h3 h4
  rcases h3 with ⟨hF, hz⟩ | ⟨x, hx, hxs, hF⟩
  · rcases h4 with ⟨hG, -⟩ | ⟨y, hy, hys, hG⟩
    all_goals
      refine ⟨-3, am_fnd u 2, am_mts (am_fnd u 2) 2, ?_, ?_, inv_find hp hI 2⟩
      · rw [hE 0 _ _ hF hG (fun _ _ => rfl), if_pos rfl]
      · rw [hM _ f1 f2]
        rcases hz with hz | ⟨x, hx, hxx, hz⟩
        · rw [if_pos hz]
        · by_cases z1 : a2 < 0
          · rw [if_pos z1]
          · rw [if_neg z1]
            by_cases z2 : a4 < 0
            · rw [if_pos z2]
            · rw [if_neg z2, if_pos (by rw [hxx, hd, cmp_gt hx hm (by omega) hz]; decide)]
  · have z1 : ¬ a2 < 0 := by rw [hx]; exact nI_pos (by omega)
    have z3 : ¬ 0 < lg_cmp (a2.toInt64 + a5.toInt64) ((nI s).toInt64) := by
      rw [hx, hd]; exact Int32.not_lt.mpr (cmp_le (by omega) hxs)
    rcases h4 with ⟨hG, hz⟩ | ⟨y, hy, hys, hG⟩
    · refine ⟨-3, am_fnd u 2, am_mts (am_fnd u 2) 2, ?_, ?_, inv_find hp hI 2⟩
      · rw [hE 1 0 _ hF hG (fun _ _ => rfl), if_neg (by decide), if_neg (fun q => q rfl)]
      · rw [hM _ f1 f2, if_neg z1]
        rcases hz with hz | ⟨y, hy, hyy, hz⟩
        · rw [if_pos hz]
        · rw [if_neg (by rw [hyy]; exact nI_pos hy), if_neg z3, if_neg (by rw [hyy, hd, cmp_gt hy hm (by omega) hz]; decide)]
    · have z2 : ¬ a4 < 0 := by rw [hy]; exact nI_pos (by omega)
      obtain ⟨W, hW⟩ : ∃ W, am_rw u (2 * t + 40 + 1) (va_cpy (u (2 * r + 40 + 1)) (u (2 * t + 40 + 1)) x y m) = W := ⟨_, rfl⟩
      have gW : ∀ a b, W a b = if a = 2 * t + 40 + 1 ∧ y ≤ b ∧ b < y + m then u (2 * r + 40 + 1) (x + (b - y)) else u a b := fun a b => by rw [← hW, rw_cpy]
      have gn : ∀ a b, a ≠ 2 * t + 40 + 1 → W a b = u a b := fun a b q => by rw [gW, if_neg (by omega)]
      obtain ⟨Z, hZ⟩ : ∃ Z, am_cy (am_cy W 64 0 63 (60 * r + x) 0 m) 63 (60 * t + y) 64 0 0 m = Z := ⟨_, rfl⟩
      have gZ : ∀ a b, a ≠ 64 → ¬ (a = 63 ∧ 60 * t + y ≤ b ∧ b < 60 * t + y + m) → Z a b = W a b := fun a b q1 q2 => by rw [← hZ, am_cy_n (by omega), am_cy_n (by omega)]
      have gZs : ∀ b, 60 * t + y ≤ b → b < 60 * t + y + m → Z 63 b = u 63 (60 * r + x + (b - (60 * t + y))) := fun b q1 q2 => by
        obtain ⟨j, hj⟩ : ∃ j, b = 60 * t + y + j := ⟨b - (60 * t + y), by omega⟩
        subst hj
        rw [← hZ, am_cy_s (by omega), show (0 : Nat) + j = 0 + j from rfl, am_cy_s (by omega), gn 63 _ (by omega), show 60 * t + y + j - (60 * t + y) = j by omega]
      refine ⟨1, W, Z, ?_, ?_, ?_, fun a ha => ?_⟩
      · rw [hE 1 1 (some (1, W)) hF hG (fun _ _ => ?_), if_neg (by decide), if_pos (by decide)]
        rw [hx, hy, hd, am_ck_t (cp_ok (by omega) (by omega) (by omega) (by omega)), nI_clamp (by omega), nI_clamp (by omega), nI_clamp hm, hW]
      · rw [hM W (by rw [gn _ _ (by omega)]; exact R2) (by rw [gn _ _ (by omega)]; exact T2), if_neg z1, if_neg z2, if_neg z3, if_pos (by rw [hy, hd]; exact cmp_le (by omega) hys), ha, hx, hc, hy, hd, show (0 : Int32) = nI 0 from rfl, c104_lp (by omega) (by omega) _ _ _ 20000 0 W (by omega) (by omega), c136_lp (by omega) (by omega) 20000 0 _ (by omega) (by omega), hZ]
      · have gA : ∀ a b, a ≠ 2 * t + 40 + 1 → a ≠ 63 → a ≠ 64 → Z a b = u a b := fun a b q1 q2 q3 => by rw [gZ a b q3 (by omega), gn a b q1]
        refine fr_mrt hp hI (fr_msg hI.1 (fun a b q => ?_)) (fun r' hr' => ?_) (fr_txts hI.2.2.1 (fun a b q => ?_)) (fun a b q => ?_)
        · unfold c_msg at q; exact gA a b (by omega) (by omega) (by omega)
        · obtain ⟨k1, k2, k3⟩ := hI.2.1 r' hr'
          refine ⟨?_, ?_, fun i hi => ?_⟩
          · rw [gA _ 1 (by omega) (by omega) (by omega), gA 62 r' (by omega) (by omega) (by omega)]; exact k1
          · rw [gA 62 r' (by omega) (by omega) (by omega)]; exact k2
          · by_cases q : r' = t
            · subst q
              by_cases q2 : y ≤ i ∧ i < y + m
              · rw [gZs (60 * r' + i) (by omega) (by omega), gZ _ i (by omega) (by omega), gW, if_pos ⟨rfl, q2⟩, R3 _ (by omega), show 60 * r + x + (60 * r' + i - (60 * r' + y)) = 60 * r + (x + (i - y)) by omega]
              · rw [gZ 63 _ (by omega) (by omega), gZ _ i (by omega) (by omega), gW, if_neg (by omega), gn 63 _ (by omega)]; exact k3 i hi
            · rw [gZ 63 _ (by omega) (by omega), gZ _ i (by omega) (by omega), gn _ _ (by omega), gn 63 _ (by omega)]; exact k3 i hi
        · unfold c_txts at q; exact gA a b (by omega) (by omega) (by omega)
        · have := c_rest_of q; exact gA a b (by omega) (by omega) (by omega)
      · funext b; rw [gZ a b (by omega) (by omega), gn a b (by omega)]
theorem ok_copy {l : Launch} {g : am_G} (a1 a2 a3 a4 a5 : Int32) : am_ok l g d_X10_copy d_X11_copy [.int a1, .int a2, .int a3, .int a4, .int a5] am_isI := ok_II (fun B pl hL u => s_X10_copy hL a1 a2 a3 a4 a5 u) (fun B pl hL u => s_X11_copy hL a1 a2 a3 a4 a5 u) (two_copy a1 a2 a3 a4 a5)
