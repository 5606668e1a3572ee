/-! sets by bits; needs -/
def m_bt (s k : Int32) : Prop := (s >>> (k &&& 31)) &&& 1 = 1
theorem shl_n : ∀ n, n < 7 → (1 : Int32) <<< (nI n &&& 31) = nI (2 ^ n) := by decide
theorem pow_le {n : Nat} (h : n ≤ 6) : 2 ^ n ≤ 64 := Nat.pow_le_pow_right (n := 2) (by omega) h
theorem has_eq (s k : Int32) : (m_bt s k ∧ f_X11_has s k = some 1) ∨ (¬ m_bt s k ∧ f_X11_has s k = some 0) := by
  unfold f_X11_has m_bt
  by_cases h : (s >>> (k &&& 31)) &&& 1 = 1
  · exact Or.inl ⟨h, if_neg (fun q => q h)⟩
  · exact Or.inr ⟨h, if_pos h⟩
def m_bc (s : Nat) : Nat := s % 2 + s / 2 % 2 + s / 4 % 2 + s / 8 % 2 + s / 16 % 2 + s / 32 % 2
theorem bc_le (s : Nat) : m_bc s ≤ 6 := by unfold m_bc; omega
theorem cbc_eq : ∀ s, s < 64 → f_J6_bitCount_0f7a4 (nI s) = some (nI (m_bc s)) := by decide +kernel
theorem mbc_lp : ∀ s, s < 64 → ∀ (v : Int32) (f : Nat), 6 < f → f_X11_bits_4 f v (nI s) = some (v + nI (m_bc s)) := by
  have key : ∀ s, s < 64 → s ≠ 0 → nI s &&& (nI s - 1) = nI (s &&& (s - 1)) ∧ s &&& (s - 1) < s ∧ m_bc s = m_bc (s &&& (s - 1)) + 1 := by decide +kernel
  have main : ∀ (f s : Nat), s < 64 → ∀ v : Int32, m_bc s < f → f_X11_bits_4 f v (nI s) = some (v + nI (m_bc s)) := by
    intro f
    induction f with
    | zero => intro s _ v h; omega
    | succ f ih =>
      intro s hs v h
      rw [f_X11_bits_4]
      by_cases q : s = 0
      · subst q
        rw [if_pos (show nI 0 = 0 from rfl), show nI (m_bc 0) = 0 from rfl, Int32.add_zero]
      · obtain ⟨k1, k2, k3⟩ := key s hs q
        rw [if_neg (nI_ne0 (by omega) (by omega)), k1, ih _ (by omega) _ (by omega), k3, ← nI_1, Int32.add_assoc, Int32.add_comm 1]
  intro s hs v f hf
  exact main f s hs v (Nat.lt_of_le_of_lt (bc_le s) hf)
theorem mbc_eq {s : Nat} (hs : s < 64) : f_X11_bits (nI s) = some (nI (m_bc s)) := by
  unfold f_X11_bits
  rw [mbc_lp s hs 0 20000 (by omega), Int32.zero_add]
noncomputable def m_hs (H : Nat → Int32) (s : Int32) : Nat → Nat → Int32 → Int32
  | 0, _, v => v
  | m + 1, k, v => m_hs H s m (k + 1) (haveI := Classical.propDecidable (m_bt s (nI k)); if m_bt s (nI k) then v + H k else v)
theorem hs_y {H : Nat → Int32} {s : Int32} {m k : Nat} {v : Int32} (h : m_bt s (nI k)) : m_hs H s (m + 1) k v = m_hs H s m (k + 1) (v + H k) := by rw [m_hs, if_pos h]
theorem hs_n {H : Nat → Int32} {s : Int32} {m k : Nat} {v : Int32} (h : ¬ m_bt s (nI k)) : m_hs H s (m + 1) k v = m_hs H s m (k + 1) v := by rw [m_hs, if_neg h]
theorem chs_lp {pl p n : Nat} {u : am_U} (hP : i_plan pl u) (e1 : u pl 2 = nI n) (e2 : u 60 12 = nI n) (hn : n ≤ 6) (hp : p < 5) (s : Int32) : ∀ (f k : Nat) (v : Int32), k ≤ n → n < k + f → f_X5_hoursOfSet_5 u pl s (nI p) f v (nI k) = some (m_hs (fun j => m_hb (u 69) (u 70) j p) s (n - k) k v) := by
  intro f
  induction f with
  | zero => intro k v h1 h2; omega
  | succ f ih =>
    intro k v h1 h2
    rw [f_X5_hoursOfSet_5, e1]
    rcases Nat.lt_or_ge k n with q | q
    · rw [if_neg (nI_ge q (by omega)), nI_1, show n - k = (n - (k + 1)) + 1 by omega]
      by_cases c : m_bt s (nI k)
      · rw [hs_y c, if_neg (show ¬ ¬ (s >>> (nI k &&& 31)) &&& 1 = 1 from fun z => z c), chb_eq hP e2 hn q hp, obs]
        exact ih (k + 1) _ (by omega) (by omega)
      · rw [hs_n c, if_pos (show ¬ (s >>> (nI k &&& 31)) &&& 1 = 1 from c)]
        exact ih (k + 1) _ (by omega) (by omega)
    · have : k = n := by omega
      subst this
      rw [if_pos (nI_le (Nat.le_refl k) (by omega)), Nat.sub_self]; rfl
theorem mhs_lp {p n : Nat} {u : am_U} (e2 : u 60 12 = nI n) (hn : n ≤ 6) (hp : p < 5) (s v2 : Int32) (K : Int32 → Option (Int32 × am_U)) : ∀ (f k : Nat) (v : Int32), k ≤ n → n < k + f → f_X11_needs_30 u (nI p) v2 s K f v (nI k) = K (m_hs (fun j => m_hb (u 69) (u 70) j p) s (n - k) k v) := by
  intro f
  induction f with
  | zero => intro k v h1 h2; omega
  | succ f ih =>
    intro k v h1 h2
    rw [f_X11_needs_30, e2]
    rcases Nat.lt_or_ge k n with q | q
    · rw [if_neg (nI_ge q (by omega)), nI_1, show n - k = (n - (k + 1)) + 1 by omega]
      rcases has_eq s (nI k) with ⟨c, w⟩ | ⟨c, w⟩
      · rw [w, obs, hs_y c, if_neg ne10, mhb_eq (by omega) hp, obs]
        exact ih (k + 1) _ (by omega) (by omega)
      · rw [w, obs, hs_n c, if_pos rfl, Int32.add_zero]
        exact ih (k + 1) _ (by omega) (by omega)
    · have : k = n := by omega
      subst this
      rw [if_pos (nI_le (Nat.le_refl k) (by omega)), Nat.sub_self]; rfl
theorem mhs_eq {p n : Nat} {u : am_U} (e2 : u 60 12 = nI n) (hn : n ≤ 6) (hp : p < 5) (s v2 : Int32) (K : Int32 → Option (Int32 × am_U)) : f_X11_needs_30 u (nI p) v2 s K 20000 0 0 = K (m_hs (fun j => m_hb (u 69) (u 70) j p) s n 0 0) := mhs_lp e2 hn hp s v2 K 20000 0 0 (by omega) (by omega)
def m_ro : Option Nat → Int32
  | none => -9
  | some s => nI s
def m_fw (b : Option Nat) (s : Nat) : Prop := match b with
  | none => True
  | some t => m_bc s < m_bc t
noncomputable def m_ne (Q : Nat → Int32) (D : Int32) : Nat → Nat → Option Nat → Option Nat
  | 0, _, b => b
  | m + 1, s, b => m_ne Q D m (s + 1) (haveI := Classical.propDecidable (m_fw b s ∧ ¬ Q s < D); if m_fw b s ∧ ¬ Q s < D then some s else b)
theorem ne_y {Q : Nat → Int32} {D : Int32} {m s : Nat} {b : Option Nat} (h : m_fw b s ∧ ¬ Q s < D) : m_ne Q D (m + 1) s b = m_ne Q D m (s + 1) (some s) := by rw [m_ne, if_pos h]
theorem ne_n {Q : Nat → Int32} {D : Int32} {m s : Nat} {b : Option Nat} (h : ¬ (m_fw b s ∧ ¬ Q s < D)) : m_ne Q D (m + 1) s b = m_ne Q D m (s + 1) b := by rw [m_ne, if_neg h]
theorem nI_m9 {s : Nat} (h : s < 2 ^ 31) : ¬ nI s = -9 := fun q => by
  have h1 : ¬ nI s < 0 := nI_pos h
  rw [q] at h1
  exact h1 (by decide)
theorem ne_lt {Q : Nat → Int32} {D : Int32} : ∀ (m s : Nat) (b : Option Nat), (∀ t, b = some t → t < s) → ∀ t, m_ne Q D m s b = some t → t < s + m := by
  intro m
  induction m with
  | zero => intro s b h t ht; exact h t ht
  | succ m ih =>
    intro s b h t ht
    by_cases c : m_fw b s ∧ ¬ Q s < D
    · rw [ne_y c] at ht
      have := ih (s + 1) (some s) (fun t q => by cases q; omega) t ht
      omega
    · rw [ne_n c] at ht
      have := ih (s + 1) b (fun t q => by have := h t q; omega) t ht
      omega
theorem cne_lp {pl p n : Nat} {u : am_U} (hP : i_plan pl u) (e1 : u pl 2 = nI n) (e2 : u 60 12 = nI n) (hn : n ≤ 6) (hp : p < 5) (Q : Nat → Int32) (hQ : ∀ s, Q s = m_hs (fun j => m_hb (u 69) (u 70) j p) (nI s) n 0 0) (K : Int32 → Option (Int32 × am_U)) : ∀ (f s : Nat) (b : Option Nat), (∀ t, b = some t → t < s) → s ≤ 2 ^ n → 2 ^ n < s + f → f_X10_needs_14 pl u (nI p) K f (m_ro b) (nI s) = K (m_ro (m_ne Q (u 68 p) (2 ^ n - s) s b)) := by
  have hpw := pow_le hn
  intro f
  induction f with
  | zero => intro s b _ h1 h2; omega
  | succ f ih =>
    intro s b hb h1 h2
    rw [f_X10_needs_14, e1, shl_n n (by omega)]
    rcases Nat.lt_or_ge s (2 ^ n) with q | q
    · have hset : f_X5_hoursOfSet pl (nI s) (nI p) u = some (Q s) := by
        rw [hQ]
        exact chs_lp hP e1 e2 hn hp (nI s) 20000 0 0 (by omega) (by omega)
      have hn1 := ih (s + 1) (some s) (fun t q => by cases q; omega) (by omega) (by omega)
      have hn2 := ih (s + 1) b (fun t q => by have := hb t q; omega) (by omega) (by omega)
      rw [if_neg (nI_ge q (by omega)), nI_1, show 2 ^ n - s = (2 ^ n - (s + 1)) + 1 by omega]
      dsimp only [am_jn]
      rw [hset, obs, am_ck_t (am_ix_nI hp (by omega)), nI_clamp (by omega), (hP.2.2.2.2.2.1 p hp).1, if_neg ne10]
      have hfew : m_fw b s → (if Q s < u 68 p then f_X10_needs_14 pl u (nI p) K f (m_ro b) (nI (s + 1)) else f_X10_needs_14 pl u (nI p) K f (nI s) (nI (s + 1))) = K (m_ro (m_ne Q (u 68 p) (2 ^ n - (s + 1) + 1) s b)) := fun hf => by
        by_cases c : Q s < u 68 p
        · rw [if_pos c, ne_n (Q := Q) (D := u 68 p) (s := s) (b := b) (fun z => z.2 c)]; exact hn2
        · rw [if_neg c, ne_y (Q := Q) (D := u 68 p) (s := s) (b := b) ⟨hf, c⟩]; exact hn1
      cases b with
      | none =>
        rw [if_pos (show m_ro none = -9 from rfl)]
        exact hfew trivial
      | some t =>
        have ht := hb t rfl
        rw [if_neg (show ¬ m_ro (some t) = -9 from nI_m9 (by omega)), cbc_eq s (by omega), obs, show m_ro (some t) = nI t from rfl, cbc_eq t (by omega), obs]
        have b1 := bc_le s
        have b2 := bc_le t
        by_cases c : m_bc t ≤ m_bc s
        · rw [if_pos (nI_le c (by omega)), if_pos rfl, ne_n (Q := Q) (D := u 68 p) (s := s) (b := some t) (fun z => absurd (show m_bc s < m_bc t from z.1) (by omega))]; exact hn2
        · rw [if_neg (nI_ge (by omega) (by omega))]
          exact hfew (show m_bc s < m_bc t by omega)
    · have : s = 2 ^ n := by omega
      subst this
      rw [if_pos (nI_le (Nat.le_refl _) (by omega)), Nat.sub_self]; rfl
theorem mne_lp {p n : Nat} {u : am_U} (e2 : u 60 12 = nI n) (hn : n ≤ 6) (hp : p < 5) (Q : Nat → Int32) (hQ : ∀ s, Q s = m_hs (fun j => m_hb (u 69) (u 70) j p) (nI s) n 0 0) (K : Int32 → Option (Int32 × am_U)) : ∀ (f s : Nat) (b : Option Nat), (∀ t, b = some t → t < s) → s ≤ 2 ^ n → 2 ^ n < s + f → f_X11_needs_14 u (nI p) K f (m_ro b) (nI s) = K (m_ro (m_ne Q (u 68 p) (2 ^ n - s) s b)) := by
  have hpw := pow_le hn
  intro f
  induction f with
  | zero => intro s b _ h1 h2; omega
  | succ f ih =>
    intro s b hb h1 h2
    rw [f_X11_needs_14, e2, shl_n n (by omega)]
    rcases Nat.lt_or_ge s (2 ^ n) with q | q
    · have hn1 := ih (s + 1) (some s) (fun t q => by cases q; omega) (by omega) (by omega)
      have hn2 := ih (s + 1) b (fun t q => by have := hb t q; omega) (by omega) (by omega)
      rw [if_neg (nI_ge q (by omega)), nI_1, show 2 ^ n - s = (2 ^ n - (s + 1)) + 1 by omega]
      rw [mhs_eq e2 hn hp, ← hQ s, am_ck_t (am_ix_nI hp (by omega)), nI_clamp (by omega)]
      dsimp only [am_jn]
      by_cases c : Q s < u 68 p
      · rw [if_pos c, ne_n (Q := Q) (D := u 68 p) (s := s) (b := b) (fun z => z.2 c)]; exact hn2
      · rw [if_neg c]
        cases b with
        | none =>
          rw [if_pos (show m_ro none = -9 from rfl), ne_y (Q := Q) (D := u 68 p) (s := s) (b := none) ⟨trivial, c⟩]
          exact hn1
        | some t =>
          have ht := hb t rfl
          rw [if_neg (show ¬ m_ro (some t) = -9 from nI_m9 (by omega)), mbc_eq (by omega), obs, show m_ro (some t) = nI t from rfl, mbc_eq (by omega), obs]
          have b1 := bc_le s
          have b2 := bc_le t
          by_cases c2 : m_bc t ≤ m_bc s
          · rw [if_pos (nI_le c2 (by omega)), ne_n (Q := Q) (D := u 68 p) (s := s) (b := some t) (fun z => absurd (show m_bc s < m_bc t from z.1) (by omega))]; exact hn2
          · rw [if_neg (nI_ge (by omega) (by omega)), ne_y (Q := Q) (D := u 68 p) (s := s) (b := some t) ⟨show m_bc s < m_bc t by omega, c⟩]
            exact hn1
    · have : s = 2 ^ n := by omega
      subst this
      rw [if_pos (nI_le (Nat.le_refl _) (by omega)), Nat.sub_self]; rfl
theorem two_needs (a1 : Int32) : am_two (fun pl u => f_X10_needs pl a1 u) (fun _ u => f_X11_needs a1 u) := by
  intro pl hp u hI
  show ∃ v u1 u2, f_X10_needs pl a1 u = _ ∧ f_X11_needs a1 u1 = _ ∧ _
  have hP := hI.2.2.2.1
  obtain ⟨n, hn, e1, e2⟩ := plan_n hP
  have hpw := pow_le hn
  rcases wi_cs a1 1 4 (by omega) (by omega) with w | ⟨p, hp0, hp4, ha, w⟩
  · refine ⟨-1, u, u, ?_, ?_, hI, fun _ _ => rfl⟩
    · unfold f_X10_needs; rw [cval_eq, show f_X10_isWithin a1 1 4 = some 0 from w]
      simp only [obs, i10, i11, iT, iN]
    · unfold f_X11_needs; rw [mval_eq, show f_X10_isWithin a1 1 4 = some 0 from w]
      simp only [obs, i10, i11, iT, iN]
  obtain ⟨Q, hQ⟩ : ∃ Q : Nat → Int32, ∀ s, Q s = m_hs (fun j => m_hb (u 69) (u 70) j p) (nI s) n 0 0 := ⟨_, fun _ => rfl⟩
  obtain ⟨b, hb⟩ : ∃ b, m_ne Q (u 68 p) (2 ^ n - 0) 0 none = b := ⟨_, rfl⟩
  have hlt := ne_lt (Q := Q) (D := u 68 p) (2 ^ n - 0) 0 none (fun t q => by cases q)
  rw [hb] at hlt
  have hE : f_X10_needs pl a1 u = if ¬ m_ro b = -9 then (f_J6_bitCount_0f7a4 (m_ro b)).bind (fun q9 => some (q9, am_w u 4 13 (m_ro b))) else some (-9, u) := by
    unfold f_X10_needs; rw [cval_eq, show f_X10_isWithin a1 1 4 = some 1 from w]
    simp only [obs, i10, i11, iT, iN, tell_c]
    rw [ha]
    refine (cne_lp hP e1 e2 hn (by omega) Q hQ _ 20000 0 none (fun t q => by cases q) (Nat.zero_le _) (by omega)).trans ?_
    rw [hb]
  have hM : ∀ v : am_U, v 60 12 = nI n → v 68 = u 68 → v 69 = u 69 → v 70 = u 70 → f_X11_needs a1 v = if ¬ m_ro b = -9 then (f_X11_bits (m_ro b)).bind (fun q10 => some (q10, am_w v 60 2 (m_ro b))) else some (-9, v) := fun v h1 h2 h3 h4 => by
    unfold f_X11_needs; rw [mval_eq, show f_X10_isWithin a1 1 4 = some 1 from w]
    simp only [obs, i10, i11, iT, iN, tell_m]
    rw [ha]
    refine (mne_lp h1 hn (by omega) Q (fun s => by rw [h3, h4]; exact hQ s) _ 20000 0 none (fun t q => by cases q) (Nat.zero_le _) (by omega)).trans ?_
    rw [h2, hb]
  cases b with
  | none => exact ⟨-9, u, u, by rw [hE, if_neg (fun q => q rfl)], by rw [hM u e2 rfl rfl rfl, if_neg (fun q => q rfl)], hI, fun _ _ => rfl⟩
  | some s =>
    have hs := hlt s rfl
    have h9 : ¬ m_ro (some s) = -9 := nI_m9 (by omega)
    refine ⟨nI (m_bc s), am_w u 4 13 (nI s), am_w (am_w u 4 13 (nI s)) 60 2 (nI s), ?_, ?_, inv_tell hp hI _⟩
    · rw [hE, if_pos h9, show m_ro (some s) = nI s from rfl, cbc_eq s (by omega), obs]
    · rw [hM _ (by rw [am_w_n (by omega)]; exact e2) (am_w_c (by omega)) (am_w_c (by omega)) (am_w_c (by omega)), if_pos h9, show m_ro (some s) = nI s from rfl, mbc_eq (by omega), obs]
theorem ok_needs {l : Launch} {g : am_G} (a1 : Int32) : am_ok l g d_X10_needs d_X11_needs [.int a1] am_isI := ok_II (fun B pl hL u => s_X10_needs hL a1 u) (fun B pl hL u => s_X11_needs hL a1 u) (two_needs a1)
