/-! a place of a row -/
theorem nI_mul (a b : Nat) : nI a * nI b = nI (a * b) := (Int32.ofNat_mul a b).symm
theorem nI_60 (r i : Nat) : (60 : Int32) * nI r + nI i = nI (60 * r + i) := by
  show nI 60 * nI r + nI i = _
  rw [nI_mul, nI_add]
theorem has_cs (a : Int32) {n T : Nat} {u : am_U} (hn : n ≤ 60) (hu : u T 1 = nI n) : (f_X8_has T a u = some 0 ∧ f_X10_isWithin a 0 (nI n - 1) = some 0) ∨ ∃ i, i < n ∧ a = nI i ∧ f_X8_has T a u = some 1 ∧ f_X10_isWithin a 0 (nI n - 1) = some 1 := by
  unfold f_X8_has
  rw [hu]
  by_cases h : a < 0
  · exact Or.inl ⟨by rw [if_pos h], wi_no (Or.inl h)⟩
  · obtain ⟨i, h3, rfl⟩ := nI_of h
    rw [if_neg h]
    rcases Nat.lt_or_ge i n with q | q
    · obtain ⟨m, rfl⟩ : ∃ m, n = m + 1 := ⟨n - 1, by omega⟩
      exact Or.inr ⟨i, q, rfl, by rw [if_neg (nI_ge q (by omega))], wi_yes h (by rw [nI_pred]; exact nI_nlt (by omega) (by omega))⟩
    · refine Or.inl ⟨by rw [if_pos (nI_le q h3)], wi_no (Or.inr ?_)⟩
      cases n with
      | zero => exact Int32.lt_of_lt_of_le (show nI 0 - 1 < (0 : Int32) by decide) (nI_pos' h3)
      | succ m => rw [nI_pred]; exact nI_lt (by omega) h3
/-- refusePlace, and what the reference asks of it -/
theorem refuseP_cs (c N t s q : Nat) (hc : (c = 5 ∧ N = 6 ∧ t = 40) ∨ (c = 6 ∧ N = 4 ∧ t = 52)) (a b : Int32) (u : am_U) (hr : ∀ r, r < N → i_row u (2 * r + t) s q r) :
    (f_X10_isWithin a 0 (nI (N - 1)) = some 0 ∧ f_X10_refusePlace c a b u = some (-1, u)) ∨
    ∃ r, r < N ∧ a = nI r ∧ f_X10_isWithin a 0 (nI (N - 1)) = some 1 ∧ am_ix a N = true ∧ a.toNatClampNeg = r ∧ i_row u (2 * r + t) s q r ∧
      ((u s r = -1 ∧ ¬ 0 ≤ u s r ∧ f_X10_refusePlace c a b u = some (-3, am_fnd u 1)) ∨ (0 ≤ u s r ∧ f_X10_isWithin b 0 (u s r - 1) = some 0 ∧ f_X10_refusePlace c a b u = some (-3, am_fnd u 2)) ∨
        ∃ i, i < 60 ∧ b = nI i ∧ 0 ≤ u s r ∧ f_X10_isWithin b 0 (u s r - 1) = some 1 ∧ am_ix b 60 = true ∧ b.toNatClampNeg = i ∧ f_X10_refusePlace c a b u = some (0, u)) := by
  have hln : am_rln c = N := by
    unfold am_rln
    rcases hc with ⟨rfl, rfl, rfl⟩ | ⟨rfl, rfl, rfl⟩ <;> rfl
  rcases refuse_cs (pl := 30) c N t s q hc a u hr with ⟨w, e⟩ | ⟨r, hrN, ha, w, hix, hcl, hrow, hid, ⟨k1, k2, e⟩ | ⟨n, hn, k1, k2, e⟩⟩
  · refine Or.inl ⟨w, ?_⟩
    unfold f_X10_refusePlace
    rw [e]; rfl
  · refine Or.inr ⟨r, hrN, ha, w, hix, hcl, hrow, Or.inl ⟨k1, k2, ?_⟩⟩
    unfold f_X10_refusePlace
    rw [e]; rfl
  · refine Or.inr ⟨r, hrN, ha, w, hix, hcl, hrow, Or.inr ?_⟩
    have hE : f_X10_refusePlace c a b u = (f_X8_has (2 * r + t) b u).bind (fun q3 => if q3 = 0 then (f_X10_find 2 u).bind (fun q4 => some (q4.1, q4.2)) else some (0, u)) := by
      unfold f_X10_refusePlace
      rw [e]
      show am_ck (am_ix a (am_rln c)) ((f_X8_has (am_rid c a.toNatClampNeg) b u).bind _) = _
      rw [hln, hix, hcl, hid]; rfl
    rcases has_cs b hn (show u (2 * r + t) 1 = nI n by rw [hrow.1, k1]) with ⟨p1, p2⟩ | ⟨i, hi, rfl, p1, p2⟩
    · refine Or.inl ⟨k2, by rw [k1]; exact p2, ?_⟩
      rw [hE, p1]
      show (f_X10_find (nI 2) u).bind _ = _
      rw [find_eq (by omega)]; rfl
    · refine Or.inr ⟨i, by omega, rfl, k2, by rw [k1]; exact p2, am_ix_nI (by omega) (by omega), nI_clamp (by omega), ?_⟩
      rw [hE, p1]; rfl
theorem fnd_n {u : am_U} {f a b : Nat} (h : a ≠ 4 ∧ a ≠ 29) : am_fnd u f a b = u a b := by
  unfold am_fnd
  rw [am_w_n (by omega), am_w_n (by omega)]
theorem two_at (a1 a2 : Int32) : am_two (fun _ u => f_X10_at a1 a2 u) (fun _ u => f_X11_at a1 a2 u) := by
  intro pl hp u hI
  show ∃ v u1 u2, f_X10_at a1 a2 u = _ ∧ f_X11_at a1 a2 u1 = _ ∧ _
  rcases refuseP_cs 5 6 40 62 63 (Or.inl ⟨rfl, rfl, rfl⟩) a1 a2 u hI.2.1 with ⟨w, e⟩ | ⟨r, hr, ha, w, hix, hcl, hrow, ⟨k1, k2, e⟩ | ⟨k2, w2, e⟩ | ⟨i, hi, hb, k2, w2, hix2, hcl2, e⟩⟩
  · refine ⟨-1, u, u, by unfold f_X10_at; rw [e]; rfl, ?_, hI, fun _ _ => rfl⟩
    unfold f_X11_at; rw [isRow_eq, show f_X10_isWithin a1 0 5 = some 0 from w]; rfl
  · refine ⟨-3, am_fnd u 1, am_mts (am_fnd u 1) 1, by unfold f_X10_at; rw [e]; rfl, ?_, inv_find hp hI 1⟩
    unfold f_X11_at; rw [isRow_eq, show f_X10_isWithin a1 0 5 = some 1 from w]
    show am_ck (am_ix a1 6) (if 0 ≤ am_fnd u 1 62 a1.toNatClampNeg then _ else (f_X11_meets (nI 1) (am_fnd u 1)).bind _) = _
    rw [hix, hcl, fnd_n (by omega), if_neg k2, meets_eq (by omega)]; rfl
  · refine ⟨-3, am_fnd u 2, am_mts (am_fnd u 2) 2, by unfold f_X10_at; rw [e]; rfl, ?_, inv_find hp hI 2⟩
    unfold f_X11_at; rw [isRow_eq, show f_X10_isWithin a1 0 5 = some 1 from w]
    show am_ck (am_ix a1 6) (if 0 ≤ am_fnd u 2 62 a1.toNatClampNeg then (f_X10_isWithin a2 0 (am_fnd u 2 62 a1.toNatClampNeg - 1)).bind (fun q3 => if q3 = 0 then (f_X11_meets (nI 2) (am_fnd u 2)).bind _ else _) else _) = _
    rw [hix, hcl, fnd_n (by omega), if_pos k2, w2, meets_eq (by omega)]; rfl
  · obtain ⟨x, hx⟩ : ∃ x, u 63 (60 * r + i) = x := ⟨_, rfl⟩
    have hx1 : u (2 * r + 40 + 1) i = x := by rw [hrow.2.2 i hi, hx]
    refine ⟨1, am_w u 4 13 x, am_w (am_w u 4 13 x) 60 2 x, ?_, ?_, inv_tell hp hI x⟩
    · unfold f_X10_at; rw [e]
      show am_ck (am_ix a1 6) (am_ck (am_ix a2 60) ((f_X10_tell 1 (u (2 * a1.toNatClampNeg + 40 + 1) a2.toNatClampNeg) u).bind _)) = _
      rw [hix, hix2, hcl, hcl2, hx1]; rfl
    · unfold f_X11_at; rw [isRow_eq, show f_X10_isWithin a1 0 5 = some 1 from w]
      show am_ck (am_ix a1 6) (if 0 ≤ am_w u 4 13 x 62 a1.toNatClampNeg then (f_X10_isWithin a2 0 (am_w u 4 13 x 62 a1.toNatClampNeg - 1)).bind (fun q3 => if q3 = 0 then _ else (f_X11_rowAt a1 a2 (am_w u 4 13 x)).bind _) else _) = _
      unfold f_X11_rowAt
      rw [hix, hcl, am_w_n (by omega), if_pos k2, w2, ha, hb, nI_60, am_ix_nI (by omega) (by omega), nI_clamp (by omega), am_w_n (by omega), hx]; rfl
theorem ok_at {l : Launch} {g : am_G} (a1 a2 : Int32) : am_ok l g d_X10_at d_X11_at [.int a1, .int a2] am_isI := ok_II (fun B pl hL u => s_X10_at hL a1 a2 u) (fun B pl hL u => s_X11_at hL a1 a2 u) (two_at a1 a2)
/-- one place of a row is written, of both alike -/
theorem row_put {u w : am_U} {t s q N r i : Nat} (x : Int32) (hN : N ≤ 6) (hi : i < 60) (hsq : s ≠ q ∧ (∀ m, m < N → 2 * m + t ≠ s ∧ 2 * m + t ≠ q ∧ 2 * m + t + 1 ≠ s ∧ 2 * m + t + 1 ≠ q)) (h : ∀ m, m < N → i_row u (2 * m + t) s q m) (hr : r < N)
    (e1 : ∀ b, w s b = u s b) (e2 : ∀ m b, m < N → w (2 * m + t) b = u (2 * m + t) b) (e3 : ∀ m b, m < N → w (2 * m + t + 1) b = if m = r ∧ b = i then x else u (2 * m + t + 1) b) (e4 : ∀ b, w q b = if b = 60 * r + i then x else u q b) : ∀ m, m < N → i_row w (2 * m + t) s q m := by
  intro m hm
  obtain ⟨m1, m2, m3⟩ := h m hm
  refine ⟨by rw [e1, e2 m _ hm]; exact m1, by rw [e1]; exact m2, fun b hb => ?_⟩
  rw [e3 m b hm, e4]
  by_cases hq : m = r ∧ b = i
  · rw [if_pos hq, if_pos (by omega)]
  · rw [if_neg hq, if_neg (by omega)]; exact m3 b hb
theorem two_lay (a1 a2 a3 : Int32) : am_two (fun _ u => f_X10_lay a1 a2 a3 u) (fun _ u => f_X11_lay a1 a2 a3 u) := by
  intro pl hp u hI
  show ∃ v u1 u2, f_X10_lay a1 a2 a3 u = _ ∧ f_X11_lay a1 a2 a3 u1 = _ ∧ _
  rcases refuseP_cs 5 6 40 62 63 (Or.inl ⟨rfl, rfl, rfl⟩) a1 a2 u hI.2.1 with ⟨w, e⟩ | ⟨r, hr, ha, w, hix, hcl, hrow, ⟨k1, k2, e⟩ | ⟨k2, w2, e⟩ | ⟨i, hi, hb, k2, w2, hix2, hcl2, e⟩⟩
  · refine ⟨-1, u, u, by unfold f_X10_lay; rw [e]; rfl, ?_, hI, fun _ _ => rfl⟩
    unfold f_X11_lay; rw [isRow_eq, show f_X10_isWithin a1 0 5 = some 0 from w]; rfl
  · refine ⟨-3, am_fnd u 1, am_mts (am_fnd u 1) 1, by unfold f_X10_lay; rw [e]; rfl, ?_, inv_find hp hI 1⟩
    unfold f_X11_lay; rw [isRow_eq, show f_X10_isWithin a1 0 5 = some 1 from w]
    show am_ck (am_ix a1 6) (if 0 ≤ am_fnd u 1 62 a1.toNatClampNeg then _ else (f_X11_meets (nI 1) (am_fnd u 1)).bind _) = _
    rw [hix, hcl, fnd_n (by omega), if_neg k2, meets_eq (by omega)]; rfl
  · refine ⟨-3, am_fnd u 2, am_mts (am_fnd u 2) 2, by unfold f_X10_lay; rw [e]; rfl, ?_, inv_find hp hI 2⟩
    unfold f_X11_lay; rw [isRow_eq, show f_X10_isWithin a1 0 5 = some 1 from w]
    show am_ck (am_ix a1 6) (if 0 ≤ am_fnd u 2 62 a1.toNatClampNeg then (f_X10_isWithin a2 0 (am_fnd u 2 62 a1.toNatClampNeg - 1)).bind (fun q3 => if ¬ q3 = 0 then _ else (f_X11_meets (nI 2) (am_fnd u 2)).bind _) else _) = _
    rw [hix, hcl, fnd_n (by omega), if_pos k2, w2, meets_eq (by omega)]; rfl
  · obtain ⟨x, hx⟩ : ∃ x, u 63 (60 * r + i) = x := ⟨_, rfl⟩
    have hx1 : u (2 * r + 40 + 1) i = x := by rw [hrow.2.2 i hi, hx]
    refine ⟨1, am_w (am_w u (2 * r + 40 + 1) i a3) 4 13 x, am_w (am_w (am_w (am_w u (2 * r + 40 + 1) i a3) 4 13 x) 63 (60 * r + i) a3) 60 2 x, ?_, ?_, ?_, fun a ha => ?_⟩
    · unfold f_X10_lay; rw [e]
      show am_ck (am_ix a1 6) (am_ck (am_ix a2 60) ((f_X10_tell 1 (u (2 * a1.toNatClampNeg + 40 + 1) a2.toNatClampNeg) (am_w u (2 * a1.toNatClampNeg + 40 + 1) a2.toNatClampNeg a3)).bind _)) = _
      rw [hix, hix2, hcl, hcl2, hx1]; rfl
    · generalize hw : am_w (am_w u (2 * r + 40 + 1) i a3) 4 13 x = u1
      have g1 : u1 62 r = u 62 r := by rw [← hw, am_w_n (by omega), am_w_n (by omega)]
      have g2 : u1 63 (60 * r + i) = x := by rw [← hw, am_w_n (by omega), am_w_n (by omega)]; exact hx
      unfold f_X11_lay; rw [isRow_eq, show f_X10_isWithin a1 0 5 = some 1 from w]
      show am_ck (am_ix a1 6) (if 0 ≤ u1 62 a1.toNatClampNeg then (f_X10_isWithin a2 0 (u1 62 a1.toNatClampNeg - 1)).bind (fun q3 => if ¬ q3 = 0 then (f_X11_rowAt a1 a2 u1).bind (fun q4 => am_ck (am_ix (60 * a1 + a2) 360) ((f_X11_tells q4 1 (am_w u1 63 (60 * a1 + a2).toNatClampNeg a3)).bind _)) else _) else _) = _
      unfold f_X11_rowAt
      rw [hix, hcl, g1, if_pos k2, w2, ha, hb, nI_60, am_ix_nI (by omega) (by omega), nI_clamp (by omega), g2]; rfl
    · refine fr_mrt hp hI ?_ ?_ (fr_txts hI.2.2.1 fun a b q => ?_) fun a b q => ?_
      · refine fr_msg (inv_tell hp hI x).1.1 fun a b q => ?_
        unfold c_msg at q
        simp only [am_w_ap]
        by_cases q1 : a = 60 ∧ b = 2
        · rw [if_pos q1, if_pos q1]
        · rw [if_neg q1, if_neg q1, if_neg (by omega)]
          by_cases q2 : a = 4 ∧ b = 13
          · rw [if_pos q2, if_pos q2]
          · rw [if_neg q2, if_neg q2, if_neg (by omega)]
      · refine row_put (r := r) (i := i) a3 (by omega) hi ⟨by omega, fun m hm => by omega⟩ hI.2.1 hr (fun b => ?_) (fun m b hm => ?_) (fun m b hm => ?_) (fun b => ?_)
        · rw [am_w_n (by omega), am_w_n (by omega), am_w_n (by omega), am_w_n (by omega)]
        · rw [am_w_n (by omega), am_w_n (by omega), am_w_n (by omega), am_w_n (by omega)]
        · rw [am_w_n (by omega), am_w_n (by omega), am_w_n (by omega), am_w_ap]
          by_cases q : m = r ∧ b = i
          · rw [if_pos q, if_pos (by omega)]
          · rw [if_neg q, if_neg (by omega)]
        · rw [am_w_n (by omega), am_w_ap]
          by_cases q : b = 60 * r + i
          · rw [if_pos q, if_pos (by omega)]
          · rw [if_neg q, if_neg (by omega), am_w_n (by omega), am_w_n (by omega)]
      · unfold c_txts at q; rw [am_w_n (by omega), am_w_n (by omega), am_w_n (by omega), am_w_n (by omega)]
      · have q := c_rest_of q; rw [am_w_n (by omega), am_w_n (by omega), am_w_n (by omega), am_w_n (by omega)]
    · rw [am_w_c (by omega), am_w_c (by omega), am_w_c (by omega), am_w_c (by omega)]
theorem ok_lay {l : Launch} {g : am_G} (a1 a2 a3 : Int32) : am_ok l g d_X10_lay d_X11_lay [.int a1, .int a2, .int a3] am_isI := ok_II (fun B pl hL u => s_X10_lay hL a1 a2 a3 u) (fun B pl hL u => s_X11_lay hL a1 a2 a3 u) (two_lay a1 a2 a3)
theorem byte2 (x : Int32) : x.toInt8.toInt32.toInt8.toInt32 = x.toInt8.toInt32 := by simp
theorem byte_k (x : Int32) : ¬ x.toInt8.toInt32 = 1000 := fun h => by
  have h1 : x.toInt8.toInt32.toInt = (1000 : Int32).toInt := by rw [h]
  rw [Int8.toInt_toInt32] at h1
  have h2 := Int8.toInt_lt x.toInt8
  have h3 : (1000 : Int32).toInt = 1000 := by decide
  rw [h3] at h1
  omega
theorem two_put (a1 a2 a3 : Int32) : am_two (fun _ u => f_X10_put a1 a2 a3 u) (fun _ u => f_X11_put a1 a2 a3 u) := by
  intro pl hp u hI
  show ∃ v u1 u2, f_X10_put a1 a2 a3 u = _ ∧ f_X11_put a1 a2 a3 u1 = _ ∧ _
  rcases refuseP_cs 6 4 52 65 66 (Or.inr ⟨rfl, rfl, rfl⟩) a1 a2 u hI.2.2.1 with ⟨w, e⟩ | ⟨r, hr, ha, w, hix, hcl, hrow, ⟨k1, k2, e⟩ | ⟨k2, w2, e⟩ | ⟨i, hi, hb, k2, w2, hix2, hcl2, e⟩⟩
  · refine ⟨-1, u, u, by unfold f_X10_put; rw [e]; rfl, ?_, hI, fun _ _ => rfl⟩
    unfold f_X11_put; rw [isText_eq, show f_X10_isWithin a1 0 3 = some 0 from w]; rfl
  · refine ⟨-3, am_fnd u 1, am_mts (am_fnd u 1) 1, by unfold f_X10_put; rw [e]; rfl, ?_, inv_find hp hI 1⟩
    unfold f_X11_put; rw [isText_eq, show f_X10_isWithin a1 0 3 = some 1 from w]
    show am_ck (am_ix a1 4) (if 0 ≤ am_fnd u 1 65 a1.toNatClampNeg then _ else (f_X11_meets (nI 1) (am_fnd u 1)).bind _) = _
    rw [hix, hcl, fnd_n (by omega), if_neg k2, meets_eq (by omega)]; rfl
  · refine ⟨-3, am_fnd u 2, am_mts (am_fnd u 2) 2, by unfold f_X10_put; rw [e]; rfl, ?_, inv_find hp hI 2⟩
    unfold f_X11_put; rw [isText_eq, show f_X10_isWithin a1 0 3 = some 1 from w]
    show am_ck (am_ix a1 4) (if 0 ≤ am_fnd u 2 65 a1.toNatClampNeg then (f_X10_isWithin a2 0 (am_fnd u 2 65 a1.toNatClampNeg - 1)).bind (fun q3 => if ¬ q3 = 0 then _ else (f_X11_meets (nI 2) (am_fnd u 2)).bind _) else _) = _
    rw [hix, hcl, fnd_n (by omega), if_pos k2, w2, meets_eq (by omega)]; rfl
  · obtain ⟨x, hx⟩ : ∃ x, u 66 (60 * r + i) = x := ⟨_, rfl⟩
    obtain ⟨z, hz⟩ : ∃ z, a3.toInt8.toInt32 = z := ⟨_, rfl⟩
    have hx1 : u (2 * r + 52 + 1) i = x := by rw [hrow.2.2 i hi, hx]
    refine ⟨x + 1000, am_w u (2 * r + 52 + 1) i z, am_w (am_w u (2 * r + 52 + 1) i z) 66 (60 * r + i) z, ?_, ?_, ?_, fun a ha => ?_⟩
    · unfold f_X10_put; rw [e]
      show am_ck (am_ix a1 4) (am_ck (am_ix a2 60) (some (u (2 * a1.toNatClampNeg + 52 + 1) a2.toNatClampNeg + 1000, am_w u (2 * a1.toNatClampNeg + 52 + 1) a2.toNatClampNeg a3.toInt8.toInt32))) = _
      rw [hix, hix2, hcl, hcl2, hx1, hz]; rfl
    · have g1 : am_w u (2 * r + 52 + 1) i z 65 r = u 65 r := by rw [am_w_n (by omega)]
      have g2 : am_w u (2 * r + 52 + 1) i z 66 (60 * r + i) = x := by rw [am_w_n (by omega)]; exact hx
      generalize am_w u (2 * r + 52 + 1) i z = u1 at g1 g2
      unfold f_X11_put; rw [isText_eq, show f_X10_isWithin a1 0 3 = some 1 from w]
      show am_ck (am_ix a1 4) (if 0 ≤ u1 65 a1.toNatClampNeg then (f_X10_isWithin a2 0 (u1 65 a1.toNatClampNeg - 1)).bind (fun q3 => if ¬ q3 = 0 then am_ck (am_ix (60 * a1 + a2) 240) (am_ck (am_ix (60 * a1 + a2) 240) (some (1000 + u1 66 (60 * a1 + a2).toNatClampNeg, am_w u1 66 (60 * a1 + a2).toNatClampNeg a3.toInt8.toInt32.toInt8.toInt32))) else _) else _) = _
      rw [hix, hcl, g1, if_pos k2, w2, ha, hb, nI_60, am_ix_nI (by omega) (by omega), nI_clamp (by omega), g2, byte2, hz, Int32.add_comm 1000 x]; rfl
    · refine fr_mrt hp hI ⟨?_, ?_, fun k hk => ?_, fun k => ?_⟩ (fr_rows hI.2.1 fun a b q => ?_) ?_ fun a b q => ?_
      · simp only [am_w_n (u := am_w u (2 * r + 52 + 1) i z) (i := 66) (j := 60 * r + i) (v := z) (a := 4) (b := 13) (by omega), am_w_n (u := am_w u (2 * r + 52 + 1) i z) (i := 66) (j := 60 * r + i) (v := z) (a := 60) (b := 2) (by omega)]
        rw [am_w_n (by omega), am_w_n (by omega)]; exact hI.1.1
      · rw [am_w_n (by omega), am_w_n (by omega), am_w_n (by omega), am_w_n (by omega)]; exact hI.1.2.1
      · rw [am_w_n (by omega), am_w_n (by omega), am_w_n (by omega), am_w_n (by omega)]; exact hI.1.2.2.1 k hk
      · rw [am_w_ap]
        split
        · rw [← hz]; exact byte_k a3
        · rw [am_w_n (by omega)]; exact hI.1.2.2.2 k
      · unfold c_rows at q; rw [am_w_n (by omega), am_w_n (by omega)]
      · refine row_put (r := r) (i := i) z (by omega) hi ⟨by omega, fun m hm => by omega⟩ hI.2.2.1 hr (fun b => ?_) (fun m b hm => ?_) (fun m b hm => ?_) (fun b => ?_)
        · rw [am_w_n (by omega), am_w_n (by omega)]
        · rw [am_w_n (by omega), am_w_n (by omega)]
        · rw [am_w_n (by omega), am_w_ap]
          by_cases q : m = r ∧ b = i
          · rw [if_pos q, if_pos (by omega)]
          · rw [if_neg q, if_neg (by omega)]
        · rw [am_w_ap]
          by_cases q : b = 60 * r + i
          · rw [if_pos q, if_pos (by omega)]
          · rw [if_neg q, if_neg (by omega), am_w_n (by omega)]
      · have q := c_rest_of q; rw [am_w_n (by omega), am_w_n (by omega)]
    · rw [am_w_c (by omega), am_w_c (by omega)]
theorem ok_put {l : Launch} {g : am_G} (a1 a2 a3 : Int32) : am_ok l g d_X10_put d_X11_put [.int a1, .int a2, .int a3] am_isI := ok_II (fun B pl hL u => s_X10_put hL a1 a2 a3 u) (fun B pl hL u => s_X11_put hL a1 a2 a3 u) (two_put a1 a2 a3)
