/-! counts -/
def m_c4 (K : Nat → Int32) (w : Int32) : Nat → Nat → Int32 → Int32
  | 0, _, v => v
  | m + 1, k, v => m_c4 K w m (k + 1) (if (w = 4 ∧ (K k = 2 ∨ K k = 4)) ∨ (w = 5 ∧ (K k = 3 ∨ K k = 5)) then v + 1 else v)
def m_c6 (Z : Nat → Int32) (b : Bool) : Nat → Nat → Int32 → Int32
  | 0, _, v => v
  | m + 1, k, v => m_c6 Z b m (k + 1) (if b = true ∧ ¬ Z k < 0 then v + 1 else v)
theorem m_c4_no (K : Nat → Int32) (w : Int32) (h4 : ¬ w = 4) (h5 : ¬ w = 5) : ∀ (m k : Nat) (v : Int32), m_c4 K w m k v = v := by
  intro m
  induction m with
  | zero => intro k v; rfl
  | succ m ih => intro k v; rw [m_c4, if_neg (by simp [h4, h5])]; exact ih _ _
theorem m_c6_no (Z : Nat → Int32) : ∀ (m k : Nat) (v : Int32), m_c6 Z false m k v = v := by
  intro m
  induction m with
  | zero => intro k v; rfl
  | succ m ih => intro k v; rw [m_c6, if_neg (by simp)]; exact ih _ _
theorem mc4_lp {n : Nat} {u : am_U} (w : Int32) (e : u 60 12 = nI n) (hn : n ≤ 6) (K : Int32 → Option Int32) : ∀ (f k : Nat) (v : Int32), k ≤ n → n < k + f → f_X11_counted_4 u w K f v (nI k) = K (m_c4 (u 69) w (n - k) k v) := by
  intro f
  induction f with
  | zero => intro k v h1 h2; omega
  | succ f ih =>
    intro k v h1 h2
    rw [f_X11_counted_4, e]
    rcases Nat.lt_or_ge k n with q | q
    · rw [if_neg (nI_ge q (by omega)), nI_clamp (by omega), nI_1]
      simp only [am_jn, am_ck_t (am_ix_nI (show k < 6 by omega) (show 6 < 2 ^ 31 by omega))]
      rw [Int32.add_zero, ih (k + 1) (v + 1) (by omega) (by omega), ih (k + 1) v (by omega) (by omega), show n - k = (n - (k + 1)) + 1 by omega, m_c4]
      generalize u 69 k = x
      by_cases h4 : w = 4
      · have h5 : ¬ w = 5 := by rw [h4]; decide
        by_cases x2 : x = 2
        · simp [h4, x2]
        · by_cases x4 : x = 4
          · simp [h4, x4]
          · simp [h4, x2, x4]
      · by_cases h5 : w = 5
        · by_cases x3 : x = 3
          · simp [h5, x3]
          · by_cases x5 : x = 5
            · simp [h5, x5]
            · simp [h5, x3, x5]
        · simp [h4, h5]
    · have : k = n := by omega
      subst this
      rw [if_pos (nI_le (Nat.le_refl k) (by omega)), Nat.sub_self]; rfl
theorem mc6_lp {u : am_U} (w : Int32) (K : Int32 → Option Int32) : ∀ (f k : Nat) (v : Int32), k ≤ 6 → 6 < k + f → f_X11_counted_78 u w K f v (nI k) = K (m_c6 (u 62) (w == 6) (6 - k) k v) := by
  intro f
  induction f with
  | zero => intro k v h1 h2; omega
  | succ f ih =>
    intro k v h1 h2
    rw [f_X11_counted_78]
    rcases Nat.lt_or_ge k 6 with q | q
    · rw [if_neg (show ¬ (6 : Int32) ≤ nI k from nI_ge (b := 6) q (by decide)), nI_clamp (by omega), nI_1]
      simp only [am_jn, am_ck_t (am_ix_nI (show k < 6 by omega) (show 6 < 2 ^ 31 by omega))]
      rw [Int32.add_zero, ih (k + 1) (v + 1) (by omega) (by omega), ih (k + 1) v (by omega) (by omega), show 6 - k = (6 - (k + 1)) + 1 by omega, m_c6]
      by_cases h6 : w = 6
      · by_cases z : u 62 k < 0
        · simp [h6, z]
        · simp [h6, z]
      · simp [h6]
    · have : k = 6 := by omega
      subst this
      rw [if_pos (show (6 : Int32) ≤ nI 6 from nI_le (Nat.le_refl _) (by omega)), Nat.sub_self]; rfl
theorem mc7_lp {u : am_U} (w : Int32) (K : Int32 → Option Int32) : ∀ (f k : Nat) (v : Int32), k ≤ 4 → 4 < k + f → f_X11_counted_115 u w K f v (nI k) = K (m_c6 (u 65) (w == 7) (4 - k) k v) := by
  intro f
  induction f with
  | zero => intro k v h1 h2; omega
  | succ f ih =>
    intro k v h1 h2
    rw [f_X11_counted_115]
    rcases Nat.lt_or_ge k 4 with q | q
    · rw [if_neg (show ¬ (4 : Int32) ≤ nI k from nI_ge (b := 4) q (by decide)), nI_clamp (by omega), nI_1]
      simp only [am_jn, am_ck_t (am_ix_nI (show k < 4 by omega) (show 4 < 2 ^ 31 by omega))]
      rw [Int32.add_zero, ih (k + 1) (v + 1) (by omega) (by omega), ih (k + 1) v (by omega) (by omega), show 4 - k = (4 - (k + 1)) + 1 by omega, m_c6]
      by_cases h6 : w = 7
      · by_cases z : u 65 k < 0
        · simp [h6, z]
        · simp [h6, z]
      · simp [h6]
    · have : k = 4 := by omega
      subst this
      rw [if_pos (show (4 : Int32) ≤ nI 4 from nI_le (Nat.le_refl _) (by omega)), Nat.sub_self]; rfl
theorem cco_lp {pl n : Nat} {u : am_U} (w : Int32) (t : Int32) (hw : (w = 4 ∧ t = 2) ∨ (w = 5 ∧ t = 3)) (hP : i_plan pl u) (e : u pl 2 = nI n) (e2 : u 60 12 = nI n) (hn : n ≤ 6) : ∀ (f k : Nat) (v : Int32), k ≤ n → n < k + f → f_X5_countOf_4 u pl t f v (nI k) = some (m_c4 (u 69) w (n - k) k v) := by
  intro f
  induction f with
  | zero => intro k v h1 h2; omega
  | succ f ih =>
    intro k v h1 h2
    rw [f_X5_countOf_4, e]
    rcases Nat.lt_or_ge k n with q | q
    · rw [if_neg (nI_ge q (by omega)), nI_clamp (by omega), nI_1, am_ck_t (am_ix_nI (show k < 6 by omega) (by omega)), (plan_k hP e2 hn q).1, ih (k + 1) (v + 1) (by omega) (by omega), ih (k + 1) v (by omega) (by omega), show n - k = (n - (k + 1)) + 1 by omega, m_c4]
      simp only [f_X2_is, am_jn]
      generalize u 69 k = x
      rcases hw with ⟨h4, ht⟩ | ⟨h5, ht⟩
      · by_cases x2 : x = 2
        · simp [h4, ht, x2]
        · by_cases x4 : x = 4
          · simp [h4, ht, x4]
          · by_cases x5 : x = 5 <;> simp [h4, ht, x2, x4, x5]
      · by_cases x3 : x = 3
        · simp [h5, ht, x3]
        · by_cases x5 : x = 5
          · simp [h5, ht, x5]
          · by_cases x4 : x = 4 <;> simp [h5, ht, x3, x4, x5]
    · have : k = n := by omega
      subst this
      rw [if_pos (nI_le (Nat.le_refl k) (by omega)), Nat.sub_self]; rfl
theorem cth_lp (c N t s q : Nat) (hc : (c = 5 ∧ N = 6 ∧ t = 40) ∨ (c = 6 ∧ N = 4 ∧ t = 52)) {u : am_U} (hr : ∀ r, r < N → i_row u (2 * r + t) s q r) : ∀ (f k : Nat) (v : Int32), k ≤ N → N < k + f → f_X10_countThere_4 u c f v (nI k) = some (m_c6 (u s) true (N - k) k v) := by
  have hln : am_rln c = N := by
    unfold am_rln
    rcases hc with ⟨rfl, rfl, rfl⟩ | ⟨rfl, rfl, rfl⟩ <;> rfl
  have hid : ∀ r, am_rid c r = 2 * r + t := fun r => by
    unfold am_rid
    rcases hc with ⟨rfl, rfl, rfl⟩ | ⟨rfl, rfl, rfl⟩ <;> rfl
  have hN : N ≤ 6 := by omega
  intro f
  induction f with
  | zero => intro k v h1 h2; omega
  | succ f ih =>
    intro k v h1 h2
    rw [f_X10_countThere_4, hln]
    rcases Nat.lt_or_ge k N with z | z
    · obtain ⟨k1, k2, -⟩ := hr k z
      rw [if_neg (nI_ge z (by omega)), nI_clamp (by omega), nI_1, am_ck_t (am_ix_nI z (by omega)), hid, ih (k + 1) (v + 1) (by omega) (by omega), ih (k + 1) v (by omega) (by omega), show N - k = (N - (k + 1)) + 1 by omega, m_c6]
      unfold f_X8_isThere
      rw [k1]
      rcases k2 with k2 | ⟨n, hn, k2⟩
      · rw [k2, if_pos rfl, if_neg (fun h => h.2 neg1_lt)]; rfl
      · have h1 : ¬ nI n < 0 := nI_pos (by omega)
        rw [k2, if_neg (fun h => by rw [h] at h1; exact h1 neg1_lt), if_pos ⟨rfl, h1⟩]; rfl
    · have : k = N := by omega
      subst this
      rw [if_pos (nI_le (Nat.le_refl k) (by omega)), Nat.sub_self]; rfl
/-- what both say of a count -/
def m_ct (u : am_U) (n : Nat) (w : Int32) : Int32 := if w = 0 then u 60 12 else if w = 1 then m_su (u 75) n 0 0 else if w = 2 then u 75 28 else if w = 3 then u 60 8 - u 75 29 else if w = 8 then u 60 26 else if w = 9 then u 60 40 else m_c6 (u 65) (w == 7) 4 0 (m_c6 (u 62) (w == 6) 6 0 (m_c4 (u 69) w n 0 0))
theorem mct_eq {n : Nat} {u : am_U} (w : Int32) (e : u 60 12 = nI n) (hn : n ≤ 6) : f_X11_counted w u = some (m_ct u n w) := by
  unfold f_X11_counted
  refine (mc4_lp w e hn _ 20000 0 0 (by omega) (by omega)).trans ?_
  refine (mc6_lp w _ 20000 0 _ (by omega) (by omega)).trans ?_
  refine (mc7_lp w _ 20000 0 _ (by omega) (by omega)).trans ?_
  rw [mal_eq e hn]
  unfold m_ct
  split
  · rfl
  · split
    · rfl
    · split
      · rfl
      · split
        · rfl
        · split
          · rfl
          · split <;> rfl
theorem cct4 {pl n : Nat} {u : am_U} (hP : i_plan pl u) (e : u pl 2 = nI n) (e2 : u 60 12 = nI n) (hn : n ≤ 6) : f_X5_countOf pl 2 u = some (m_c4 (u 69) 4 n 0 0) := by
  unfold f_X5_countOf
  exact cco_lp 4 2 (Or.inl ⟨rfl, rfl⟩) hP e e2 hn 20000 0 0 (by omega) (by omega)
theorem cct5 {pl n : Nat} {u : am_U} (hP : i_plan pl u) (e : u pl 2 = nI n) (e2 : u 60 12 = nI n) (hn : n ≤ 6) : f_X5_countOf pl 3 u = some (m_c4 (u 69) 5 n 0 0) := by
  unfold f_X5_countOf
  exact cco_lp 5 3 (Or.inr ⟨rfl, rfl⟩) hP e e2 hn 20000 0 0 (by omega) (by omega)
theorem cct6 {u : am_U} (g2 : i_rows u) : f_X10_countThere 5 u = some (m_c6 (u 62) true 6 0 0) := by
  unfold f_X10_countThere
  exact cth_lp 5 6 40 62 63 (Or.inl ⟨rfl, rfl, rfl⟩) g2 20000 0 0 (by omega) (by omega)
theorem cct7 {u : am_U} (g3 : i_txts u) : f_X10_countThere 6 u = some (m_c6 (u 65) true 4 0 0) := by
  unfold f_X10_countThere
  exact cth_lp 6 4 52 65 66 (Or.inr ⟨rfl, rfl, rfl⟩) g3 20000 0 0 (by omega) (by omega)
theorem cct_eq {pl n k : Nat} {u : am_U} (hI : am_Inv pl u) (e1 : u pl 2 = nI n) (e : u 60 12 = nI n) (hn : n ≤ 6) (hk : k ≤ 9) : f_X10_count pl (nI k) u = some (m_ct u n (nI k)) := by
  obtain ⟨g1, g2, g3, g4, g5, ⟨f, s, -, -, -, f4, f5, -⟩, g7, ⟨b, -, b1, b2, -⟩⟩ := hI
  unfold f_X10_count m_ct
  rw [cal_eq e1 hn g5, cct4 g4 e1 e hn, cct5 g4 e1 e hn, cct6 g2, cct7 g3]
  rcases (show k = 0 ∨ k = 1 ∨ k = 2 ∨ k = 3 ∨ k = 4 ∨ k = 5 ∨ k = 6 ∨ k = 7 ∨ k = 8 ∨ k = 9 by omega) with rfl | rfl | rfl | rfl | rfl | rfl | rfl | rfl | rfl | rfl
  · rw [if_pos (show nI 0 = (0 : Int32) by decide), if_pos (show nI 0 = (0 : Int32) by decide)]
    rw [e1, e]
  · rw [if_neg (show ¬ nI 1 = (0 : Int32) by decide), if_pos (show nI 1 = (1 : Int32) by decide), if_neg (show ¬ nI 1 = (0 : Int32) by decide), if_pos (show nI 1 = (1 : Int32) by decide)]
    rfl
  · rw [if_neg (show ¬ nI 2 = (0 : Int32) by decide), if_neg (show ¬ nI 2 = (1 : Int32) by decide), if_pos (show nI 2 = (2 : Int32) by decide), if_neg (show ¬ nI 2 = (0 : Int32) by decide), if_neg (show ¬ nI 2 = (1 : Int32) by decide), if_pos (show nI 2 = (2 : Int32) by decide)]
    rw [g5.2.2.1]
  · rw [if_neg (show ¬ nI 3 = (0 : Int32) by decide), if_neg (show ¬ nI 3 = (1 : Int32) by decide), if_neg (show ¬ nI 3 = (2 : Int32) by decide), if_pos (show nI 3 = (3 : Int32) by decide), if_neg (show ¬ nI 3 = (0 : Int32) by decide), if_neg (show ¬ nI 3 = (1 : Int32) by decide), if_neg (show ¬ nI 3 = (2 : Int32) by decide), if_pos (show nI 3 = (3 : Int32) by decide)]
    rw [g5.2.2.2.1, g4.1]
  · rw [if_neg (show ¬ nI 4 = (0 : Int32) by decide), if_neg (show ¬ nI 4 = (1 : Int32) by decide), if_neg (show ¬ nI 4 = (2 : Int32) by decide), if_neg (show ¬ nI 4 = (3 : Int32) by decide), if_pos (show nI 4 = (4 : Int32) by decide), if_neg (show ¬ nI 4 = (0 : Int32) by decide), if_neg (show ¬ nI 4 = (1 : Int32) by decide), if_neg (show ¬ nI 4 = (2 : Int32) by decide), if_neg (show ¬ nI 4 = (3 : Int32) by decide), if_neg (show ¬ nI 4 = (8 : Int32) by decide), if_neg (show ¬ nI 4 = (9 : Int32) by decide)]
    rw [show (nI 4 == 7) = false by decide, show (nI 4 == 6) = false by decide, m_c6_no, m_c6_no]
    rfl
  · rw [if_neg (show ¬ nI 5 = (0 : Int32) by decide), if_neg (show ¬ nI 5 = (1 : Int32) by decide), if_neg (show ¬ nI 5 = (2 : Int32) by decide), if_neg (show ¬ nI 5 = (3 : Int32) by decide), if_neg (show ¬ nI 5 = (4 : Int32) by decide), if_pos (show nI 5 = (5 : Int32) by decide), if_neg (show ¬ nI 5 = (0 : Int32) by decide), if_neg (show ¬ nI 5 = (1 : Int32) by decide), if_neg (show ¬ nI 5 = (2 : Int32) by decide), if_neg (show ¬ nI 5 = (3 : Int32) by decide), if_neg (show ¬ nI 5 = (8 : Int32) by decide), if_neg (show ¬ nI 5 = (9 : Int32) by decide)]
    rw [show (nI 5 == 7) = false by decide, show (nI 5 == 6) = false by decide, m_c6_no, m_c6_no]
    rfl
  · rw [if_neg (show ¬ nI 6 = (0 : Int32) by decide), if_neg (show ¬ nI 6 = (1 : Int32) by decide), if_neg (show ¬ nI 6 = (2 : Int32) by decide), if_neg (show ¬ nI 6 = (3 : Int32) by decide), if_neg (show ¬ nI 6 = (4 : Int32) by decide), if_neg (show ¬ nI 6 = (5 : Int32) by decide), if_pos (show nI 6 = (6 : Int32) by decide), if_neg (show ¬ nI 6 = (0 : Int32) by decide), if_neg (show ¬ nI 6 = (1 : Int32) by decide), if_neg (show ¬ nI 6 = (2 : Int32) by decide), if_neg (show ¬ nI 6 = (3 : Int32) by decide), if_neg (show ¬ nI 6 = (8 : Int32) by decide), if_neg (show ¬ nI 6 = (9 : Int32) by decide)]
    rw [show (nI 6 == 7) = false by decide, show (nI 6 == 6) = true by decide, m_c6_no, m_c4_no _ _ (by decide) (by decide)]
    rfl
  · rw [if_neg (show ¬ nI 7 = (0 : Int32) by decide), if_neg (show ¬ nI 7 = (1 : Int32) by decide), if_neg (show ¬ nI 7 = (2 : Int32) by decide), if_neg (show ¬ nI 7 = (3 : Int32) by decide), if_neg (show ¬ nI 7 = (4 : Int32) by decide), if_neg (show ¬ nI 7 = (5 : Int32) by decide), if_neg (show ¬ nI 7 = (6 : Int32) by decide), if_pos (show nI 7 = (7 : Int32) by decide), if_neg (show ¬ nI 7 = (0 : Int32) by decide), if_neg (show ¬ nI 7 = (1 : Int32) by decide), if_neg (show ¬ nI 7 = (2 : Int32) by decide), if_neg (show ¬ nI 7 = (3 : Int32) by decide), if_neg (show ¬ nI 7 = (8 : Int32) by decide), if_neg (show ¬ nI 7 = (9 : Int32) by decide)]
    rw [show (nI 7 == 7) = true by decide, show (nI 7 == 6) = false by decide, m_c6_no, m_c4_no _ _ (by decide) (by decide)]
    rfl
  · rw [if_neg (show ¬ nI 8 = (0 : Int32) by decide), if_neg (show ¬ nI 8 = (1 : Int32) by decide), if_neg (show ¬ nI 8 = (2 : Int32) by decide), if_neg (show ¬ nI 8 = (3 : Int32) by decide), if_neg (show ¬ nI 8 = (4 : Int32) by decide), if_neg (show ¬ nI 8 = (5 : Int32) by decide), if_neg (show ¬ nI 8 = (6 : Int32) by decide), if_neg (show ¬ nI 8 = (7 : Int32) by decide), if_pos (show nI 8 = (8 : Int32) by decide), if_neg (show ¬ nI 8 = (0 : Int32) by decide), if_neg (show ¬ nI 8 = (1 : Int32) by decide), if_neg (show ¬ nI 8 = (2 : Int32) by decide), if_neg (show ¬ nI 8 = (3 : Int32) by decide), if_pos (show nI 8 = (8 : Int32) by decide)]
    rw [f4, f5]
  · rw [if_neg (show ¬ nI 9 = (0 : Int32) by decide), if_neg (show ¬ nI 9 = (1 : Int32) by decide), if_neg (show ¬ nI 9 = (2 : Int32) by decide), if_neg (show ¬ nI 9 = (3 : Int32) by decide), if_neg (show ¬ nI 9 = (4 : Int32) by decide), if_neg (show ¬ nI 9 = (5 : Int32) by decide), if_neg (show ¬ nI 9 = (6 : Int32) by decide), if_neg (show ¬ nI 9 = (7 : Int32) by decide), if_neg (show ¬ nI 9 = (8 : Int32) by decide), if_pos (show nI 9 = (9 : Int32) by decide), if_neg (show ¬ nI 9 = (0 : Int32) by decide), if_neg (show ¬ nI 9 = (1 : Int32) by decide), if_neg (show ¬ nI 9 = (2 : Int32) by decide), if_neg (show ¬ nI 9 = (3 : Int32) by decide), if_neg (show ¬ nI 9 = (8 : Int32) by decide), if_pos (show nI 9 = (9 : Int32) by decide)]
    rw [b1, b2]
theorem ok_count {l : Launch} {g : am_G} (a1 : Int32) : am_ok l g d_X10_count d_X11_count [.int a1] am_isI :=
  ok_PP (F := fun pl u => f_X10_count pl a1 u) (G := fun _ u => f_X11_count a1 u) (fun B pl hL u => s_X10_count hL a1 u) (fun B pl hL u => s_X11_count hL a1 u) (fun pl hp u hI => by
    obtain ⟨n, hn, e1, e2⟩ := plan_n hI.2.2.2.1
    unfold f_X11_count
    rw [in_eq]
    rcases wi_cs a1 0 9 (by omega) (by omega) with w | ⟨k, -, hk, ha, w⟩
    · refine ⟨-1, ?_, by rw [show f_X10_isWithin a1 0 9 = some 0 from w]; rfl⟩
      have hno : ∀ k : Nat, k ≤ 9 → ¬ a1 = nI k := fun k hk q => by
        have w1 : f_X10_isWithin (nI k) (nI 0) (nI 9) = some 1 := wi_yes (nI_nlt (Nat.zero_le k) (by omega)) (nI_nlt hk (by omega))
        rw [q, w1] at w
        cases w
      unfold f_X10_count
      rw [if_neg (show ¬ a1 = 0 from hno 0 (by omega)), if_neg (show ¬ a1 = 1 from hno 1 (by omega)), if_neg (show ¬ a1 = 2 from hno 2 (by omega)), if_neg (show ¬ a1 = 3 from hno 3 (by omega)), if_neg (show ¬ a1 = 4 from hno 4 (by omega)), if_neg (show ¬ a1 = 5 from hno 5 (by omega)), if_neg (show ¬ a1 = 6 from hno 6 (by omega)), if_neg (show ¬ a1 = 7 from hno 7 (by omega)), if_neg (show ¬ a1 = 8 from hno 8 (by omega)), if_neg (show ¬ a1 = 9 from hno 9 (by omega))]
    · refine ⟨m_ct u n a1, by rw [ha]; exact cct_eq hI e1 e2 hn hk, ?_⟩
      rw [show f_X10_isWithin a1 0 9 = some 1 from w, mct_eq a1 e2 hn]; rfl)
