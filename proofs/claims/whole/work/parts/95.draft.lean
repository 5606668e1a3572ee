/-! sets by bits; needs -/
def m_bt (s k : Int32) : Prop := (s >>> (k &&& 31)) &&& 1 = 1
theorem shl_n : ∀ n, n < 7 → (1 : Int32) <<< (nI n &&& 31) = nI (2 ^ n) := by decide
theorem pow_le {n : Nat} (h : n ≤ 6) : 2 ^ n ≤ 64 := Nat.pow_le_pow_right (n := 2) (by omega) h
theorem has_eq (s k : Int32) : (m_bt s k ∧ f_X11_has s k = some 1) ∨ (¬ m_bt s k ∧ f_X11_has s k = some 0) := by
  unfold f_X11_has m_bt
  by_cases h : (s >>> (k &&& 31)) &&& 1 = 1
  · exact Or.inl ⟨h, if_neg (fun q => q h)⟩
  · exact Or.inr ⟨h, if_pos h⟩
def m_bc (s : Nat) : Nat := s % 2 + s / 2 % 2 + s / 4 % 2 + s / 8 % 2 + s / 16 % 2 + s / 32 % 2
theorem bc_le (s : Nat) : m_bc s ≤ 6 := by unfold m_bc; omega
theorem cbc_eq : ∀ s, s < 64 → f_J6_bitCount_0f7a4 (nI s) = some (nI (m_bc s)) := by decide +kernel
theorem mbc_lp : ∀ s, s < 64 → ∀ (v : Int32) (f : Nat), 6 < f → f_X11_bits_4 f v (nI s) = some (v + nI (m_bc s)) := by
  have key : ∀ s, s < 64 → s ≠ 0 → nI s &&& (nI s - 1) = nI (s &&& (s - 1)) ∧ s &&& (s - 1) < s ∧ m_bc s = m_bc (s &&& (s - 1)) + 1 := by decide +kernel
  have main : ∀ (f s : Nat), s < 64 → ∀ v : Int32, m_bc s < f → f_X11_bits_4 f v (nI s) = some (v + nI (m_bc s)) := by
    intro f
    induction f with
    | zero => intro s _ v h; omega
    | succ f ih =>
      intro s hs v h
      rw [f_X11_bits_4]
      by_cases q : s = 0
      · subst q
        rw [if_pos (show nI 0 = 0 from rfl), show nI (m_bc 0) = 0 from rfl, Int32.add_zero]
      · obtain ⟨k1, k2, k3⟩ := key s hs q
        rw [if_neg (nI_ne0 (by omega) (by omega)), k1, ih _ (by omega) _ (by omega), k3, ← nI_1, Int32.add_assoc, Int32.add_comm 1]
  intro s hs v f hf
  exact main f s hs v (Nat.lt_of_le_of_lt (bc_le s) hf)
theorem mbc_eq {s : Nat} (hs : s < 64) : f_X11_bits (nI s) = some (nI (m_bc s)) := by
  unfold f_X11_bits
  rw [mbc_lp s hs 0 20000 (by omega), Int32.zero_add]
noncomputable def m_hs (H : Nat → Int32) (s : Int32) : Nat → Nat → Int32 → Int32
  | 0, _, v => v
  | m + 1, k, v => m_hs H s m (k + 1) (haveI := Classical.propDecidable (m_bt s (nI k)); if m_bt s (nI k) then v + H k else v)
theorem hs_y {H : Nat → Int32} {s : Int32} {m k : Nat} {v : Int32} (h : m_bt s (nI k)) : m_hs H s (m + 1) k v = m_hs H s m (k + 1) (v + H k) := by rw [m_hs, if_pos h]
theorem hs_n {H : Nat → Int32} {s : Int32} {m k : Nat} {v : Int32} (h : ¬ m_bt s (nI k)) : m_hs H s (m + 1) k v = m_hs H s m (k + 1) v := by rw [m_hs, if_neg h]
theorem chs_lp {pl p n : Nat} {u : am_U} (hP : i_plan pl u) (e1 : u pl 2 = nI n) (e2 : u 60 12 = nI n) (hn : n ≤ 6) (hp : p < 5) (s : Int32) : ∀ (f k : Nat) (v : Int32), k ≤ n → n < k + f → f_X5_hoursOfSet_5 u pl s (nI p) f v (nI k) = some (m_hs (fun j => m_hb (u 69) (u 70) j p) s (n - k) k v) := by
  intro f
  induction f with
  | zero => intro k v h1 h2; omega
  | succ f ih =>
    intro k v h1 h2
    rw [f_X5_hoursOfSet_5, e1]
    rcases Nat.lt_or_ge k n with q | q
    · rw [if_neg (nI_ge q (by omega)), nI_1, show n - k = (n - (k + 1)) + 1 by omega]
      by_cases c : m_bt s (nI k)
      · rw [hs_y c, if_neg (show ¬ ¬ (s >>> (nI k &&& 31)) &&& 1 = 1 from fun z => z c), chb_eq hP e2 hn q hp, obs]
        exact ih (k + 1) _ (by omega) (by omega)
      · rw [hs_n c, if_pos (show ¬ (s >>> (nI k &&& 31)) &&& 1 = 1 from c)]
        exact ih (k + 1) _ (by omega) (by omega)
    · have : k = n := by omega
      subst this
      rw [if_pos (nI_le (Nat.le_refl k) (by omega)), Nat.sub_self]; rfl
theorem mhs_lp {p n : Nat} {u : am_U} (e2 : u 60 12 = nI n) (hn : n ≤ 6) (hp : p < 5) (s v2 : Int32) (K : Int32 → Option (Int32 × am_U)) : ∀ (f k : Nat) (v : Int32), k ≤ n → n < k + f → f_X11_needs_30 u (nI p) v2 s K f v (nI k) = K (m_hs (fun j => m_hb (u 69) (u 70) j p) s (n - k) k v) := by
  intro f
  induction f with
  | zero => intro k v h1 h2; omega
  | succ f ih =>
    intro k v h1 h2
    rw [f_X11_needs_30, e2]
    rcases Nat.lt_or_ge k n with q | q
    · rw [if_neg (nI_ge q (by omega)), nI_1, show n - k = (n - (k + 1)) + 1 by omega]
      rcases has_eq s (nI k) with ⟨c, w⟩ | ⟨c, w⟩
      · rw [w, obs, hs_y c, if_neg ne10, mhb_eq (by omega) hp, obs]
        exact ih (k + 1) _ (by omega) (by omega)
      · rw [w, obs, hs_n c, if_pos rfl, Int32.add_zero]
        exact ih (k + 1) _ (by omega) (by omega)
    · have : k = n := by omega
      subst this
      rw [if_pos (nI_le (Nat.le_refl k) (by omega)), Nat.sub_self]; rfl
theorem mhs_eq {p n : Nat} {u : am_U} (e2 : u 60 12 = nI n) (hn : n ≤ 6) (hp : p < 5) (s v2 : Int32) (K : Int32 → Option (Int32 × am_U)) : f_X11_needs_30 u (nI p) v2 s K 20000 0 0 = K (m_hs (fun j => m_hb (u 69) (u 70) j p) s n 0 0) := mhs_lp e2 hn hp s v2 K 20000 0 0 (by omega) (by omega)
def m_ro : Option Nat → Int32
  | none => -9
  | some s => nI s
def m_fw (b : Option Nat) (s : Nat) : Prop := match b with
  | none => True
  | some t => m_bc s < m_bc t
noncomputable def m_ne (Q : Nat → Int32) (D : Int32) : Nat → Nat → Option Nat → Option Nat
  | 0, _, b => b
  | m + 1, s, b => m_ne Q D m (s + 1) (haveI := Classical.propDecidable (m_fw b s ∧ ¬ Q s < D); if m_fw b s ∧ ¬ Q s < D then some s else b)
theorem ne_y {Q : Nat → Int32} {D : Int32} {m s : Nat} {b : Option Nat} (h : m_fw b s ∧ ¬ Q s < D) : m_ne Q D (m + 1) s b = m_ne Q D m (s + 1) (some s) := by rw [m_ne, if_pos h]
theorem ne_n {Q : Nat → Int32} {D : Int32} {m s : Nat} {b : Option Nat} (h : ¬ (m_fw b s ∧ ¬ Q s < D)) : m_ne Q D (m + 1) s b = m_ne Q D m (s + 1) b := by rw [m_ne, if_neg h]
theorem nI_m9 {s : Nat} (h : s < 2 ^ 31) : ¬ nI s = -9 := fun q => by
  have h1 : ¬ nI s < 0 := nI_pos h
  rw [q] at h1
  exact h1 (by decide)
theorem ne_lt {Q : Nat → Int32} {D : Int32} : ∀ (m s : Nat) (b : Option Nat), (∀ t, b = some t → t < s) → ∀ t, m_ne Q D m s b = some t → t < s + m := by
  intro m
  induction m with
  | zero => intro s b h t ht; exact h t ht
  | succ m ih =>
    intro s b h t ht
    by_cases c : m_fw b s ∧ ¬ Q s < D
    · rw [ne_y c] at ht
      have := ih (s + 1) (some s) (fun t q => by cases q; omega) t ht
      omega
    · rw [ne_n c] at ht
      have := ih (s + 1) b (fun t q => by have := h t q; omega) t ht
      omega
theorem cne_lp {pl p n : Nat} {u : am_U} (hP : i_plan pl u) (e1 : u pl 2 = nI n) (e2 : u 60 12 = nI n) (hn : n ≤ 6) (hp : p < 5) (Q : Nat → Int32) (hQ : ∀ s, Q s = m_hs (fun j => m_hb (u 69) (u 70) j p) (nI s) n 0 0) (K : Int32 → Option (Int32 × am_U)) : ∀ (f s : Nat) (b : Option Nat), (∀ t, b = some t → t < s) → s ≤ 2 ^ n → 2 ^ n < s + f → f_X10_needs_14 pl u (nI p) K f (m_ro b) (nI s) = K (m_ro (m_ne Q (u 68 p) (2 ^ n - s) s b)) := by
  have hpw := pow_le hn
  intro f
  induction f with
  | zero => intro s b _ h1 h2; omega
  | succ f ih =>
    intro s b hb h1 h2
    rw [f_X10_needs_14, e1, shl_n n (by omega)]
    rcases Nat.lt_or_ge s (2 ^ n) with q | q
    · have hset : f_X5_hoursOfSet pl (nI s) (nI p) u = some (Q s) := by
        rw [hQ]
        exact chs_lp hP e1 e2 hn hp (nI s) 20000 0 0 (by omega) (by omega)
      have hn1 := ih (s + 1) (some s) (fun t q => by cases q; omega) (by omega) (by omega)
      have hn2 := ih (s + 1) b (fun t q => by have := hb t q; omega) (by omega) (by omega)
      rw [if_neg (nI_ge q (by omega)), nI_1, show 2 ^ n - s = (2 ^ n - (s + 1)) + 1 by omega]
      dsimp only [am_jn]
      rw [hset, obs, am_ck_t (am_ix_nI hp (by omega)), nI_clamp (by omega), (hP.2.2.2.2.2.1 p hp).1, if_neg ne10]
      have hfew : m_fw b s → (if Q s < u 68 p then f_X10_needs_14 pl u (nI p) K f (m_ro b) (nI (s + 1)) else f_X10_needs_14 pl u (nI p) K f (nI s) (nI (s + 1))) = K (m_ro (m_ne Q (u 68 p) (2 ^ n - (s + 1) + 1) s b)) := fun hf => by
        by_cases c : Q s < u 68 p
        · rw [if_pos c, ne_n (Q := Q) (D := u 68 p) (s := s) (b := b) (fun z => z.2 c)]; exact hn2
        · rw [if_neg c, ne_y (Q := Q) (D := u 68 p) (s := s) (b := b) ⟨hf, c⟩]; exact hn1
      cases b with
      | none =>
        rw [if_pos (show m_ro none = -9 from rfl)]
        exact hfew trivial
      | some t =>
        have ht := hb t rfl
        rw [if_neg (show ¬ m_ro (some t) = -9 from nI_m9 (by omega)), cbc_eq s (by omega), obs, show m_ro (some t) = nI t from rfl, cbc_eq t (by omega), obs]
        have b1 := bc_le s
        have b2 := bc_le t
        by_cases c : m_bc t ≤ m_bc s
        · rw [if_pos (nI_le c (by omega)), if_pos rfl, ne_n (Q := Q) (D := u 68 p) (s := s) (b := some t) (fun z => absurd (show m_bc s < m_bc t from z.1) (by omega))]; exact hn2
        · rw [if_neg (nI_ge (by omega) (by omega))]
          exact hfew (show m_bc s < m_bc t by omega)
    · have : s = 2 ^ n := by omega
      subst this
      rw [if_pos (nI_le (Nat.le_refl _) (by omega)), Nat.sub_self]; rfl
theorem mne_lp {p n : Nat} {u : am_U} (e2 : u 60 12 = nI n) (hn : n ≤ 6) (hp : p < 5) (Q : Nat → Int32) (hQ : ∀ s, Q s = m_hs (fun j => m_hb (u 69) (u 70) j p) (nI s) n 0 0) (K : Int32 → Option (Int32 × am_U)) : ∀ (f s : Nat) (b : Option Nat), (∀ t, b = some t → t < s) → s ≤ 2 ^ n → 2 ^ n < s + f → f_X11_needs_14 u (nI p) K f (m_ro b) (nI s) = K (m_ro (m_ne Q (u 68 p) (2 ^ n - s) s b)) := by
  have hpw := pow_le hn
  intro f
  induction f with
  | zero => intro s b _ h1 h2; omega
  | succ f ih =>
    intro s b hb h1 h2
    rw [f_X11_needs_14, e2, shl_n n (by omega)]
    rcases Nat.lt_or_ge s (2 ^ n) with q | q
    · have hn1 := ih (s + 1) (some s) (fun t q => by cases q; omega) (by omega) (by omega)
      have hn2 := ih (s + 1) b (fun t q => by have := hb t q; omega) (by omega) (by omega)
      rw [if_neg (nI_ge q (by omega)), nI_1, show 2 ^ n - s = (2 ^ n - (s + 1)) + 1 by omega]
      rw [mhs_eq e2 hn hp, ← hQ s, am_ck_t (am_ix_nI hp (by omega)), nI_clamp (by omega)]
      dsimp only [am_jn]
      by_cases c : Q s < u 68 p
      · rw [if_pos c, ne_n (Q := Q) (D := u 68 p) (s := s) (b := b) (fun z => z.2 c)]; exact hn2
      · rw [if_neg c]
        cases b with
        | none =>
          rw [if_pos (show m_ro none = -9 from rfl), ne_y (Q := Q) (D := u 68 p) (s := s) (b := none) ⟨trivial, c⟩]
          exact hn1
        | some t =>
          have ht := hb t rfl
          rw [if_neg (show ¬ m_ro (some t) = -9 from nI_m9 (by omega)), mbc_eq (by omega), obs, show m_ro (some t) = nI t from rfl, mbc_eq (by omega), obs]
          have b1 := bc_le s
          have b2 := bc_le t
          by_cases c2 : m_bc t ≤ m_bc s
          · rw [if_pos (nI_le c2 (by omega)), ne_n (Q := Q) (D := u 68 p) (s := s) (b := some t) (fun z => absurd (show m_bc s < m_bc t from z.1) (by omega))]; exact hn2
          · rw [if_neg (nI_ge (by omega) (by omega)), ne_y (Q := Q) (D := u 68 p) (s := s) (b := some t) ⟨show m_bc s < m_bc t by omega, c⟩]
            exact hn1
    · have : s = 2 ^ n := by omega
      subst this
      rw [if_pos (nI_le (Nat.le_refl _) (by omega)), Nat.sub_self]; rfl
theorem two_needs (a1 : Int32) : am_two (fun pl u => f_X10_needs pl a1 u) (fun _ u => f_X11_needs a1 u) := by
  intro pl hp u hI
  show ∃ v u1 u2, f_X10_needs pl a1 u = _ ∧ f_X11_needs a1 u1 = _ ∧ _
  have hP := hI.2.2.2.1
  obtain ⟨n, hn, e1, e2⟩ := plan_n hP
  have hpw := pow_le hn
  rcases wi_cs a1 1 4 (by omega) (by omega) with w | ⟨p, hp0, hp4, ha, w⟩
  · refine ⟨-1, u, u, ?_, ?_, hI, fun _ _ => rfl⟩
    · unfold f_X10_needs; rw [cval_eq, show f_X10_isWithin a1 1 4 = some 0 from w]
      simp only [obs, i10, i11, iT, iN]
    · unfold f_X11_needs; rw [mval_eq, show f_X10_isWithin a1 1 4 = some 0 from w]
      simp only [obs, i10, i11, iT, iN]
  obtain ⟨Q, hQ⟩ : ∃ Q : Nat → Int32, ∀ s, Q s = m_hs (fun j => m_hb (u 69) (u 70) j p) (nI s) n 0 0 := ⟨_, fun _ => rfl⟩
  obtain ⟨b, hb⟩ : ∃ b, m_ne Q (u 68 p) (2 ^ n - 0) 0 none = b := ⟨_, rfl⟩
  have hlt := ne_lt (Q := Q) (D := u 68 p) (2 ^ n - 0) 0 none (fun t q => by cases q)
  rw [hb] at hlt
  have hE : f_X10_needs pl a1 u = if ¬ m_ro b = -9 then (f_J6_bitCount_0f7a4 (m_ro b)).bind (fun q9 => some (q9, am_w u 4 13 (m_ro b))) else some (-9, u) := by
    unfold f_X10_needs; rw [cval_eq, show f_X10_isWithin a1 1 4 = some 1 from w]
    simp only [obs, i10, i11, iT, iN, tell_c]
    rw [ha]
    refine (cne_lp hP e1 e2 hn (by omega) Q hQ _ 20000 0 none (fun t q => by cases q) (Nat.zero_le _) (by omega)).trans ?_
    rw [hb]
  have hM : ∀ v : am_U, v 60 12 = nI n → v 68 = u 68 → v 69 = u 69 → v 70 = u 70 → f_X11_needs a1 v = if ¬ m_ro b = -9 then (f_X11_bits (m_ro b)).bind (fun q10 => some (q10, am_w v 60 2 (m_ro b))) else some (-9, v) := fun v h1 h2 h3 h4 => by
    unfold f_X11_needs; rw [mval_eq, show f_X10_isWithin a1 1 4 = some 1 from w]
    simp only [obs, i10, i11, iT, iN, tell_m]
    rw [ha]
    refine (mne_lp h1 hn (by omega) Q (fun s => by rw [h3, h4]; exact hQ s) _ 20000 0 none (fun t q => by cases q) (Nat.zero_le _) (by omega)).trans ?_
    rw [h2, hb]
  cases b with
  | none => exact ⟨-9, u, u, by rw [hE, if_neg (fun q => q rfl)], by rw [hM u e2 rfl rfl rfl, if_neg (fun q => q rfl)], hI, fun _ _ => rfl⟩
  | some s =>
    have hs := hlt s rfl
    have h9 : ¬ m_ro (some s) = -9 := nI_m9 (by omega)
    refine ⟨nI (m_bc s), am_w u 4 13 (nI s), am_w (am_w u 4 13 (nI s)) 60 2 (nI s), ?_, ?_, inv_tell hp hI _⟩
    · rw [hE, if_pos h9, show m_ro (some s) = nI s from rfl, cbc_eq s (by omega), obs]
    · rw [hM _ (by rw [am_w_n (by omega)]; exact e2) (am_w_c (by omega)) (am_w_c (by omega)) (am_w_c (by omega)), if_pos h9, show m_ro (some s) = nI s from rfl, mbc_eq (by omega), obs]
theorem ok_needs {l : Launch} {g : am_G} (a1 : Int32) : am_ok l g d_X10_needs d_X11_needs [.int a1] am_isI := ok_II (fun B pl hL u => s_X10_needs hL a1 u) (fun B pl hL u => s_X11_needs hL a1 u) (two_needs a1)
/-! what was burnt: mixed, sure, test -/
theorem nI_and (a b : Nat) : nI a &&& nI b = nI (a &&& b) := by
  apply Int32.toBitVec_inj.1
  show BitVec.ofNat 32 a &&& BitVec.ofNat 32 b = BitVec.ofNat 32 (a &&& b)
  apply BitVec.eq_of_getLsbD_eq
  intro i hi
  simp [hi]
theorem nI_or (a b : Nat) : nI a ||| nI b = nI (a ||| b) := by
  apply Int32.toBitVec_inj.1
  show BitVec.ofNat 32 a ||| BitVec.ofNat 32 b = BitVec.ofNat 32 (a ||| b)
  apply BitVec.eq_of_getLsbD_eq
  intro i hi
  simp [hi]
theorem fr_free {pl : Nat} (hp : pl = 30 ∨ pl = 35) {u w : am_U} (h : am_Inv pl u) (e : ∀ a b, a ≠ 24 → a ≠ 25 → ¬ (a = 21 ∧ b = 5) → a ≠ 88 → w a b = u a b) : am_Inv pl w := by
  refine fr_all hp h (fun a b q => ?_)
  unfold c_msg c_rows c_txts c_plan c_vs c_scene c_deeds c_kept c_burn at q
  exact e a b (by omega) (by omega) (by omega) (by omega)
def b_C (pl n z : Nat) (F X Y : Nat → Int32) (u : am_U) : Prop := u pl 2 = nI n ∧ (∀ k, k < n → u (pl + 4) k = F k) ∧ u 21 4 = nI z ∧ ∀ b, b < z → u 22 b = X b ∧ u 23 b = Y b
def b_M (n z : Nat) (F X Y : Nat → Int32) (u : am_U) : Prop := u 60 12 = nI n ∧ (∀ k, k < n → u 70 k = F k) ∧ u 60 40 = nI z ∧ ∀ b, b < z → u 86 b = X b ∧ u 87 b = Y b
theorem b_C_fr {pl n z : Nat} {F X Y : Nat → Int32} {u w : am_U} (hp : pl = 30 ∨ pl = 35) (h : b_C pl n z F X Y u) (e : ∀ a b, a ≠ 24 → a ≠ 25 → ¬ (a = 21 ∧ b = 5) → w a b = u a b) : b_C pl n z F X Y w := by
  obtain ⟨h1, h2, h3, h4⟩ := h
  refine ⟨by rw [e pl 2 (by omega) (by omega) (by omega)]; exact h1, fun k hk => by rw [e _ k (by omega) (by omega) (by omega)]; exact h2 k hk, by rw [e 21 4 (by omega) (by omega) (by omega)]; exact h3, fun b hb => ?_⟩
  rw [e 22 b (by omega) (by omega) (by omega), e 23 b (by omega) (by omega) (by omega)]
  exact h4 b hb
theorem b_M_fr {n z : Nat} {F X Y : Nat → Int32} {u w : am_U} (h : b_M n z F X Y u) (e : ∀ a b, 60 ≤ a → a ≠ 88 → w a b = u a b) : b_M n z F X Y w := by
  obtain ⟨h1, h2, h3, h4⟩ := h
  refine ⟨by rw [e 60 12 (by omega) (by omega)]; exact h1, fun k hk => by rw [e 70 k (by omega) (by omega)]; exact h2 k hk, by rw [e 60 40 (by omega) (by omega)]; exact h3, fun b hb => ?_⟩
  rw [e 86 b (by omega) (by omega), e 87 b (by omega) (by omega)]
  exact h4 b hb
def m_bu (F : Nat → Int32) (s w : Int32) : Nat → Nat → Int32 → Int32
  | 0, _, v => v
  | m + 1, k, v => m_bu F s w m (k + 1) (if ¬ ((s >>> (nI k &&& 31)) &&& 1) = 1 then v else if ¬ ((w >>> (nI k &&& 31)) &&& 1) = 1 then v + F k else v + F k / 2)
theorem cbu_lp {pl n z : Nat} {F X Y : Nat → Int32} {u : am_U} (h : b_C pl n z F X Y u) (hn : n ≤ 6) (s w : Int32) : ∀ (f k : Nat) (v : Int32), k ≤ n → n < k + f → f_X0_burningTime_5 u s w pl f v (nI k) = some (m_bu F s w (n - k) k v) := by
  intro f
  induction f with
  | zero => intro k v h1 h2; omega
  | succ f ih =>
    intro k v h1 h2
    rw [f_X0_burningTime_5, h.1]
    rcases Nat.lt_or_ge k n with q | q
    · rw [if_neg (nI_ge q (by omega)), nI_1, show n - k = (n - (k + 1)) + 1 by omega, m_bu, am_ck_t (am_ix_nI (show k < 6 by omega) (by omega)), am_ck_t (am_ix_nI (show k < 6 by omega) (by omega)), nI_clamp (by omega), h.2.1 k q]
      by_cases c : ¬ ((s >>> (nI k &&& 31)) &&& 1) = 1
      · rw [if_pos c, if_pos c]; exact ih (k + 1) _ (by omega) (by omega)
      · rw [if_neg c, if_neg c]
        by_cases c2 : ¬ ((w >>> (nI k &&& 31)) &&& 1) = 1
        · rw [if_pos c2, if_pos c2]; exact ih (k + 1) _ (by omega) (by omega)
        · rw [if_neg c2, if_neg c2]; exact ih (k + 1) _ (by omega) (by omega)
    · have : k = n := by omega
      subst this
      rw [if_pos (nI_le (Nat.le_refl k) (by omega)), Nat.sub_self]; rfl
theorem mbu_lp {n z : Nat} {F X Y : Nat → Int32} {u : am_U} (h : b_M n z F X Y u) (hn : n ≤ 6) (s w : Int32) : ∀ (f k : Nat) (v : Int32), k ≤ n → n < k + f → f_X11_burns_5 u s w f v (nI k) = some (m_bu F s w (n - k) k v) := by
  intro f
  induction f with
  | zero => intro k v h1 h2; omega
  | succ f ih =>
    intro k v h1 h2
    rw [f_X11_burns_5, h.1]
    rcases Nat.lt_or_ge k n with q | q
    · rw [if_neg (nI_ge q (by omega)), nI_1, show n - k = (n - (k + 1)) + 1 by omega, m_bu, am_ck_t (am_ix_nI (show k < 6 by omega) (by omega)), am_ck_t (am_ix_nI (show k < 6 by omega) (by omega)), nI_clamp (by omega), h.2.1 k q]
      rcases has_eq s (nI k) with ⟨c, e⟩ | ⟨c, e⟩
      · rw [e, obs, if_pos ne10, if_neg (show ¬ ¬ ((s >>> (nI k &&& 31)) &&& 1) = 1 from fun z => z c)]
        rcases has_eq w (nI k) with ⟨c2, e2⟩ | ⟨c2, e2⟩
        · rw [e2, obs, if_neg ne10, if_neg (show ¬ ¬ ((w >>> (nI k &&& 31)) &&& 1) = 1 from fun z => z c2)]
          exact ih (k + 1) _ (by omega) (by omega)
        · rw [e2, obs, if_pos rfl, if_pos (show ¬ ((w >>> (nI k &&& 31)) &&& 1) = 1 from c2)]
          exact ih (k + 1) _ (by omega) (by omega)
      · rw [e, obs, if_neg (fun z => z rfl), if_pos (show ¬ ((s >>> (nI k &&& 31)) &&& 1) = 1 from c), Int32.add_zero]
        exact ih (k + 1) _ (by omega) (by omega)
    · have : k = n := by omega
      subst this
      rw [if_pos (nI_le (Nat.le_refl k) (by omega)), Nat.sub_self]; rfl
theorem cbu_eq {pl n z : Nat} {F X Y : Nat → Int32} {u : am_U} (h : b_C pl n z F X Y u) (hn : n ≤ 6) (s w : Int32) : f_X0_burningTime s w pl u = some (m_bu F s w n 0 0) := cbu_lp h hn s w 20000 0 0 (by omega) (by omega)
theorem mbu_eq {n z : Nat} {F X Y : Nat → Int32} {u : am_U} (h : b_M n z F X Y u) (hn : n ≤ 6) (s w : Int32) : f_X11_burns s w u = some (m_bu F s w n 0 0) := mbu_lp h hn s w 20000 0 0 (by omega) (by omega)
theorem bu_nI {F : Nat → Int32} (s w : Int32) : ∀ (m k v : Nat), (∀ j, k ≤ j → j < k + m → am_le (F j) 20) → ∃ A, A ≤ v + 20 * m ∧ m_bu F s w m k (nI v) = nI A := by
  intro m
  induction m with
  | zero => intro k v _; exact ⟨v, by omega, rfl⟩
  | succ m ih =>
    intro k v h
    rw [m_bu]
    obtain ⟨x, hx, ex⟩ := h k (by omega) (by omega)
    have hh : ∀ j, k + 1 ≤ j → j < k + 1 + m → am_le (F j) 20 := fun j z1 z2 => h j (by omega) (by omega)
    rw [ex, nI_add, show nI x / 2 = nI (x / 2) from pk_div (d := 2) (by omega) (by omega) (by omega), nI_add]
    split
    · obtain ⟨A, h1, h2⟩ := ih (k + 1) v hh
      exact ⟨A, by omega, h2⟩
    · split
      · obtain ⟨A, h1, h2⟩ := ih (k + 1) (v + x) hh
        exact ⟨A, by omega, h2⟩
      · obtain ⟨A, h1, h2⟩ := ih (k + 1) (v + x / 2) hh
        exact ⟨A, by omega, h2⟩
def m_fi (F X Y : Nat → Int32) (n : Nat) (w : Int32) : Nat → Nat → Bool
  | 0, _ => true
  | m + 1, b => if m_bu F (X b) w n 0 0 = Y b then m_fi F X Y n w m (b + 1) else false
def m_b1 (b : Bool) : Int32 := if b = true then 1 else 0
theorem ccb_lp {pl n z : Nat} {F X Y : Nat → Int32} {u : am_U} (h : b_C pl n z F X Y u) (hn : n ≤ 6) (hz : z ≤ 8) (w : Int32) : ∀ (f b : Nat), b ≤ z → z < b + f → f_X0_canBe_2 u w pl f (nI b) = some (m_b1 (m_fi F X Y n w (z - b) b)) := by
  intro f
  induction f with
  | zero => intro b h1 h2; omega
  | succ f ih =>
    intro b h1 h2
    rw [f_X0_canBe_2, h.2.2.1]
    rcases Nat.lt_or_ge b z with q | q
    · rw [if_neg (nI_ge q (by omega)), am_ck_t (am_ix_nI (show b < 8 by omega) (by omega)), nI_clamp (by omega), (h.2.2.2 b q).1, (h.2.2.2 b q).2, cbu_eq h hn, obs, nI_1, show z - b = (z - (b + 1)) + 1 by omega, m_fi]
      by_cases c : m_bu F (X b) w n 0 0 = Y b
      · rw [if_pos c, if_pos c]; exact ih (b + 1) (by omega) (by omega)
      · rw [if_neg c, if_neg c]; rfl
    · rw [if_pos (nI_le (show z ≤ b by omega) (by omega)), show z - b = 0 by omega]; rfl
theorem mfi_0 {n z : Nat} {F X Y : Nat → Int32} {u : am_U} (h : b_M n z F X Y u) (hz : z ≤ 8) (w : Int32) : ∀ (f b : Nat), b ≤ z → z < b + f → f_X11_fits_4 u w f 0 (nI b) = some 0 := by
  intro f
  induction f with
  | zero => intro b h1 h2; omega
  | succ f ih =>
    intro b h1 h2
    rw [f_X11_fits_4, h.2.2.1]
    rcases Nat.lt_or_ge b z with q | q
    · rw [if_neg (nI_ge q (by omega)), if_pos rfl, nI_1]
      exact ih (b + 1) (by omega) (by omega)
    · rw [if_pos (nI_le (show z ≤ b by omega) (by omega))]; rfl
theorem mfi_1 {n z : Nat} {F X Y : Nat → Int32} {u : am_U} (h : b_M n z F X Y u) (hn : n ≤ 6) (hz : z ≤ 8) (w : Int32) : ∀ (f b : Nat), b ≤ z → z < b + f → f_X11_fits_4 u w f 1 (nI b) = some (m_b1 (m_fi F X Y n w (z - b) b)) := by
  intro f
  induction f with
  | zero => intro b h1 h2; omega
  | succ f ih =>
    intro b h1 h2
    rw [f_X11_fits_4, h.2.2.1]
    rcases Nat.lt_or_ge b z with q | q
    · rw [if_neg (nI_ge q (by omega)), if_neg ne10, am_ck_t (am_ix_nI (show b < 8 by omega) (by omega)), nI_clamp (by omega), (h.2.2.2 b q).1, (h.2.2.2 b q).2, mbu_eq h hn, obs, nI_1, show z - b = (z - (b + 1)) + 1 by omega, m_fi]
      by_cases c : m_bu F (X b) w n 0 0 = Y b
      · rw [if_neg (fun z => z c), if_pos c]; exact ih (b + 1) (by omega) (by omega)
      · rw [if_pos c, if_neg c]; exact mfi_0 h hz w f (b + 1) (by omega) (by omega)
    · rw [if_pos (nI_le (show z ≤ b by omega) (by omega)), show z - b = 0 by omega]; rfl
theorem ccb_eq {pl n z : Nat} {F X Y : Nat → Int32} {u : am_U} (h : b_C pl n z F X Y u) (hn : n ≤ 6) (hz : z ≤ 8) (w : Int32) : f_X0_canBe w pl u = some (m_b1 (m_fi F X Y n w z 0)) := ccb_lp h hn hz w 20000 0 (by omega) (by omega)
theorem mfi_eq {n z : Nat} {F X Y : Nat → Int32} {u : am_U} (h : b_M n z F X Y u) (hn : n ≤ 6) (hz : z ≤ 8) (w : Int32) : f_X11_fits w u = some (m_b1 (m_fi F X Y n w z 0)) := mfi_1 h hn hz w 20000 0 (by omega) (by omega)
/-- the sets that can be, in a row -/
def m_gt (G : Nat → Bool) : Nat → Nat → List Nat
  | 0, _ => []
  | m + 1, s => if G s = true then s :: m_gt G m (s + 1) else m_gt G m (s + 1)
theorem gt_len (G : Nat → Bool) : ∀ m s, (m_gt G m s).length ≤ m := by
  intro m
  induction m with
  | zero => intro s; exact Nat.le_refl 0
  | succ m ih =>
    intro s
    rw [m_gt]
    have := ih (s + 1)
    split
    · rw [List.length_cons]; omega
    · omega
theorem gt_lt (G : Nat → Bool) : ∀ m s x, x ∈ m_gt G m s → x < s + m := by
  intro m
  induction m with
  | zero => intro s x h; rw [m_gt] at h; cases h
  | succ m ih =>
    intro s x h
    rw [m_gt] at h
    split at h
    · rcases List.mem_cons.mp h with h | h
      · omega
      · have := ih (s + 1) x h; omega
    · have := ih (s + 1) x h; omega
theorem dr_c : ∀ (l : List Nat) (i : Nat), i < l.length → l.drop i = l.getD i 0 :: l.drop (i + 1) := by
  intro l
  induction l with
  | nil => intro i h; exact absurd h (Nat.not_lt_zero i)
  | cons x l ih =>
    intro i h
    cases i with
    | zero => rfl
    | succ i =>
      rw [List.length_cons] at h
      show l.drop i = l.getD i 0 :: l.drop (i + 1)
      exact ih i (by omega)
theorem b1_t {G : Bool} (h : G = true) : m_b1 G = 1 := if_pos h
theorem b1_f {G : Bool} (h : ¬ G = true) : m_b1 G = 0 := if_neg h
theorem cga_lp {pl n z : Nat} {F X Y : Nat → Int32} (hp : pl = 30 ∨ pl = 35) (hn : n ≤ 6) (hz : z ≤ 8) (G : Nat → Bool) (hG : ∀ s, G s = m_fi F X Y n (nI s) z 0) : ∀ (f s c : Nat) (u : am_U), b_C pl n z F X Y u → u 21 5 = nI c → c ≤ s → s ≤ 2 ^ n → 2 ^ n < s + f → ∃ w, f_X0_gather_7 pl f (nI s) u = some (nI (c + (m_gt G (2 ^ n - s) s).length), w) ∧ w 21 5 = nI (c + (m_gt G (2 ^ n - s) s).length) ∧ (∀ i, i < c → w 24 i = u 24 i) ∧ (∀ i, i < (m_gt G (2 ^ n - s) s).length → w 24 (c + i) = nI ((m_gt G (2 ^ n - s) s).getD i 0)) ∧ ∀ a b, a ≠ 24 → ¬ (a = 21 ∧ b = 5) → w a b = u a b := by
  have hpw := pow_le hn
  intro f
  induction f with
  | zero => intro s c u _ _ _ h1 h2; omega
  | succ f ih =>
    intro s c u hb hc hcs h1 h2
    rw [f_X0_gather_7, hb.1, shl_n n (by omega)]
    rcases Nat.lt_or_ge s (2 ^ n) with q | q
    · rw [if_neg (nI_ge q (by omega)), nI_1, ccb_eq hb hn hz, ← hG s, obs, show 2 ^ n - s = (2 ^ n - (s + 1)) + 1 by omega, m_gt, hc]
      by_cases g : G s = true
      · rw [b1_t g, if_neg ne10, if_pos g, am_ck_t (am_ix_nI (show c < 64 by omega) (by omega)), nI_clamp (by omega)]
        obtain ⟨w, k1, k2, k3, k4, k5⟩ := ih (s + 1) (c + 1) (am_w (am_w u 24 c (nI s)) 21 5 (nI (c + 1))) (b_C_fr hp hb (fun a b z1 z2 z3 => by rw [am_w_n z3, am_w_n (by omega)])) (am_w_s _ _ _ _) (by omega) (by omega) (by omega)
        have hlen : (s :: m_gt G (2 ^ n - (s + 1)) (s + 1)).length = (m_gt G (2 ^ n - (s + 1)) (s + 1)).length + 1 := List.length_cons
        refine ⟨w, ?_, ?_, fun i hi => ?_, fun i hi => ?_, fun a b z1 z2 => ?_⟩
        · show f_X0_gather_7 pl f (nI (s + 1)) (am_w (am_w u 24 c (nI s)) 21 5 (am_w u 24 c (nI s) 21 5 + 1)) = _
          rw [am_w_n (show ¬ (21 = 24 ∧ 5 = c) by omega), hc, nI_1, k1, hlen, show c + ((m_gt G (2 ^ n - (s + 1)) (s + 1)).length + 1) = c + 1 + (m_gt G (2 ^ n - (s + 1)) (s + 1)).length by omega]
        · rw [k2, hlen, show c + ((m_gt G (2 ^ n - (s + 1)) (s + 1)).length + 1) = c + 1 + (m_gt G (2 ^ n - (s + 1)) (s + 1)).length by omega]
        · rw [k3 i (by omega), am_w_n (by omega), am_w_n (by omega)]
        · cases i with
          | zero =>
            rw [Nat.add_zero, k3 c (by omega), am_w_n (by omega), am_w_s]; rfl
          | succ i =>
            rw [hlen] at hi
            rw [show c + (i + 1) = c + 1 + i by omega, k4 i (by omega)]; rfl
        · rw [k5 a b z1 z2, am_w_n z2, am_w_n (by omega)]
      · rw [b1_f g, if_pos rfl, if_neg g]
        obtain ⟨w, k1, k2, k3, k4, k5⟩ := ih (s + 1) c u hb hc (by omega) (by omega) (by omega)
        exact ⟨w, k1, k2, k3, k4, k5⟩
    · rw [if_pos (nI_le (show 2 ^ n ≤ s by omega) (by omega)), show 2 ^ n - s = 0 by omega]
      exact ⟨u, by rw [hc]; rfl, by rw [hc]; rfl, fun _ _ => rfl, fun i hi => absurd hi (Nat.not_lt_zero i), fun _ _ _ _ => rfl⟩
def g_L (u : am_U) (l : List Nat) : Prop := u 21 5 = nI l.length ∧ ∀ i, i < l.length → u 24 i = nI (l.getD i 0)
theorem cga_eq {pl n z : Nat} {F X Y : Nat → Int32} (hp : pl = 30 ∨ pl = 35) (hn : n ≤ 6) (hz : z ≤ 8) (G : Nat → Bool) (hG : ∀ s, G s = m_fi F X Y n (nI s) z 0) {u : am_U} (hb : b_C pl n z F X Y u) : ∃ w, f_X0_gather pl u = some (nI (m_gt G (2 ^ n) 0).length, w) ∧ g_L w (m_gt G (2 ^ n) 0) ∧ ∀ a b, a ≠ 24 → ¬ (a = 21 ∧ b = 5) → w a b = u a b := by
  have hpw := pow_le hn
  obtain ⟨w, k1, k2, k3, k4, k5⟩ := cga_lp hp hn hz G hG 20000 0 0 (am_w u 21 5 0) (b_C_fr hp hb (fun a b z1 z2 z3 => am_w_n z3)) (am_w_s _ _ _ _) (by omega) (Nat.zero_le _) (by omega)
  rw [Nat.sub_zero] at k1 k2 k4
  rw [Nat.zero_add] at k1 k2
  refine ⟨w, k1, ⟨k2, fun i hi => ?_⟩, fun a b z1 z2 => by rw [k5 a b z1 z2, am_w_n z2]⟩
  have := k4 i hi
  rw [Nat.zero_add] at this
  exact this
def m_hd (l : List Nat) (v : Int32) : Int32 := match l with
  | [] => v
  | x :: _ => nI x
theorem mmx_lp {n z : Nat} {F X Y : Nat → Int32} {u : am_U} (h : b_M n z F X Y u) (hn : n ≤ 6) (hz : z ≤ 8) (G : Nat → Bool) (hG : ∀ s, G s = m_fi F X Y n (nI s) z 0) (K : Int32 → Int32 → Option (Int32 × am_U)) : ∀ (f s c : Nat) (v : Int32), c ≤ s → s ≤ 2 ^ n → 2 ^ n < s + f → f_X11_mixed_16 u K f (nI c) v (nI s) = K (nI (c + (m_gt G (2 ^ n - s) s).length)) (if c = 0 then m_hd (m_gt G (2 ^ n - s) s) v else v) := by
  have hpw := pow_le hn
  intro f
  induction f with
  | zero => intro s c v _ h1 h2; omega
  | succ f ih =>
    intro s c v hc h1 h2
    rw [f_X11_mixed_16, h.1, shl_n n (by omega)]
    rcases Nat.lt_or_ge s (2 ^ n) with q | q
    · rw [if_neg (nI_ge q (by omega)), nI_1, nI_1, mfi_eq h hn hz, ← hG s, obs, show 2 ^ n - s = (2 ^ n - (s + 1)) + 1 by omega, m_gt]
      by_cases g : G s = true
      · rw [b1_t g, if_neg ne10, if_pos g, List.length_cons, show c + ((m_gt G (2 ^ n - (s + 1)) (s + 1)).length + 1) = c + 1 + (m_gt G (2 ^ n - (s + 1)) (s + 1)).length by omega]
        by_cases c0 : c = 0
        · subst c0
          rw [if_neg (fun q => q rfl), if_pos rfl, ih (s + 1) (0 + 1) (nI s) (by omega) (by omega) (by omega), if_neg (by omega)]; rfl
        · rw [if_pos (nI_ne0 (by omega) (by omega)), if_neg c0, ih (s + 1) (c + 1) v (by omega) (by omega) (by omega), if_neg (by omega)]
      · rw [b1_f g, if_pos rfl, if_neg g]
        exact ih (s + 1) c v (by omega) (by omega) (by omega)
    · rw [if_pos (nI_le (show 2 ^ n ≤ s by omega) (by omega)), show 2 ^ n - s = 0 by omega]
      show K (nI c) v = K (nI (c + 0)) (if c = 0 then v else v)
      rw [Nat.add_zero]
      split <;> rfl
/-- what both sides know of what was burnt -/
theorem burn_env {pl : Nat} {u : am_U} (hI : am_Inv pl u) : ∃ n z, n ≤ 6 ∧ z ≤ 8 ∧ u pl 2 = nI n ∧ u 60 12 = nI n ∧ b_C pl n z (u 70) (u 86) (u 87) u ∧ b_M n z (u 70) (u 86) (u 87) u ∧ ∀ j, j < n → am_le (u 70 j) 20 := by
  obtain ⟨n, hn, e1, e2⟩ := plan_n hI.2.2.2.1
  obtain ⟨z, hz, z1, z2, z3⟩ := hI.2.2.2.2.2.2.2
  exact ⟨n, z, hn, hz, e1, e2, ⟨e1, fun k hk => (plan_k hI.2.2.2.1 e2 hn hk).2.2.1, z1, z3⟩, ⟨e2, fun _ _ => rfl, z2, fun _ _ => ⟨rfl, rfl⟩⟩, fun j hj => (plan_k hI.2.2.2.1 e2 hn hj).2.2.2.1⟩
theorem two_mixed : am_two (fun pl u => f_X10_mixed pl u) (fun _ u => f_X11_mixed u) := by
  intro pl hp u hI
  show ∃ v u1 u2, f_X10_mixed pl u = _ ∧ f_X11_mixed u1 = _ ∧ _
  obtain ⟨n, z, hn, hz, e1, e2, hC, hM, -⟩ := burn_env hI
  have hpw := pow_le hn
  cases n with
  | zero =>
    refine ⟨-4, u, u, ?_, ?_, hI, fun _ _ => rfl⟩
    · unfold f_X10_mixed; rw [e1, if_neg (fun q => q rfl)]
    · unfold f_X11_mixed; rw [e2, if_neg (fun q => q rfl)]
  | succ n =>
    have hne : ¬ nI (n + 1) = 0 := nI_ne0 (by omega) (by omega)
    obtain ⟨G, hG⟩ : ∃ G : Nat → Bool, ∀ s, G s = m_fi (u 70) (u 86) (u 87) (n + 1) (nI s) z 0 := ⟨_, fun _ => rfl⟩
    obtain ⟨l, hl⟩ : ∃ l, m_gt G (2 ^ (n + 1)) 0 = l := ⟨_, rfl⟩
    have hlen := gt_len G (2 ^ (n + 1)) 0
    obtain ⟨w, k1, k2, k3⟩ := cga_eq hp hn hz G hG hC
    rw [hl] at k1 k2 hlen
    have hMt : ∀ v : am_U, (∀ a b, 60 ≤ a → v a b = u a b) → f_X11_mixed v = if ¬ nI l.length = 0 then some (nI l.length, am_w v 60 2 (m_hd l 0)) else some (-9, v) := fun v hv => by
      unfold f_X11_mixed
      rw [hv 60 12 (by omega), e2, if_pos hne]
      simp only [tell_m, obs]
      refine (mmx_lp (b_M_fr hM (fun a b z1 _ => hv a b z1)) hn hz G hG _ 20000 0 0 0 (by omega) (Nat.zero_le _) (by omega)).trans ?_
      rw [Nat.sub_zero, hl, Nat.zero_add, if_pos rfl]
    have hE : f_X10_mixed pl u = if ¬ nI l.length = 0 then some (nI l.length, am_w w 4 13 (w 24 0)) else some (-9, w) := by
      unfold f_X10_mixed
      rw [e1, if_pos hne, k1]
      simp only [tell_c, obs]
    cases l with
    | nil =>
      refine ⟨-9, w, w, ?_, ?_, fr_free hp hI (fun a b z1 z2 z3 z4 => k3 a b z1 z3), fun a ha => funext fun b => k3 a b (by omega) (by omega)⟩
      · rw [hE, if_neg (fun q => q rfl)]
      · rw [hMt w (fun a b z1 => k3 a b (by omega) (by omega)), if_neg (fun q => q rfl)]
    | cons x l =>
      have hn0 : ¬ nI (x :: l).length = 0 := nI_ne0 (by rw [List.length_cons]; omega) (by omega)
      have hw : w 24 0 = nI x := k2.2 0 (by rw [List.length_cons]; omega)
      have hT := inv_tell hp hI (nI x)
      have eo : ∀ a b, a ≠ 24 → ¬ (a = 21 ∧ b = 5) → am_w (am_w w 4 13 (nI x)) 60 2 (nI x) a b = am_w (am_w u 4 13 (nI x)) 60 2 (nI x) a b := fun a b z1 z2 => by
        simp only [am_w_ap, k3 a b z1 z2]
      refine ⟨nI (x :: l).length, am_w w 4 13 (nI x), am_w (am_w w 4 13 (nI x)) 60 2 (nI x), ?_, ?_, fr_free hp hT.1 (fun a b z1 z2 z3 z4 => eo a b z1 z3), fun a ha => ?_⟩
      · rw [hE, if_pos hn0, hw]
      · rw [hMt _ (fun a b z1 => by rw [am_w_n (by omega)]; exact k3 a b (by omega) (by omega)), if_pos hn0]; rfl
      · rw [← hT.2 a ha]; exact funext fun b => eo a b (by omega) (by omega)
theorem ok_mixed {l : Launch} {g : am_G} : am_ok l g d_X10_mixed d_X11_mixed [] am_isI := ok_II (fun B pl hL u => s_X10_mixed hL u) (fun B pl hL u => s_X11_mixed hL u) two_mixed
/-! sure -/
theorem jn_eq {τ α : Type} (t : τ) (k : τ → Option α) : am_jn t k = k t := Eq.trans rfl (Eq.refl _)
theorem cia_lp {w : am_U} {l : List Nat} (h : g_L w l) (hl : l.length ≤ 64) : ∀ (f i v : Nat), i ≤ l.length → l.length < i + f → f_X0_inAll_9 w f (nI v) (nI i) = some (nI ((l.drop i).foldl (fun a b => a &&& b) v)) := by
  intro f
  induction f with
  | zero => intro i v h1 h2; omega
  | succ f ih =>
    intro i v h1 h2
    rw [f_X0_inAll_9, h.1]
    rcases Nat.lt_or_ge i l.length with q | q
    · rw [if_neg (nI_ge q (by omega)), am_ck_t (am_ix_nI (show i < 64 by omega) (by omega)), nI_clamp (by omega), h.2 i q, nI_and, nI_1, dr_c l i q]
      exact ih (i + 1) _ (by omega) (by omega)
    · rw [if_pos (nI_le (show l.length ≤ i by omega) (by omega)), show i = l.length by omega, List.drop_length]; rfl
theorem cin_lp {w : am_U} {l : List Nat} (h : g_L w l) (hl : l.length ≤ 64) : ∀ (f i v : Nat), i ≤ l.length → l.length < i + f → f_X0_inAny_4 w f (nI v) (nI i) = some (nI ((l.drop i).foldl (fun a b => a ||| b) v)) := by
  intro f
  induction f with
  | zero => intro i v h1 h2; omega
  | succ f ih =>
    intro i v h1 h2
    rw [f_X0_inAny_4, h.1]
    rcases Nat.lt_or_ge i l.length with q | q
    · rw [if_neg (nI_ge q (by omega)), am_ck_t (am_ix_nI (show i < 64 by omega) (by omega)), nI_clamp (by omega), h.2 i q, nI_or, nI_1, dr_c l i q]
      exact ih (i + 1) _ (by omega) (by omega)
    · rw [if_pos (nI_le (show l.length ≤ i by omega) (by omega)), show i = l.length by omega, List.drop_length]; rfl
theorem or_step : ∀ n, n < 7 → ∀ a, a < 2 ^ n → ∀ s, s < 2 ^ n → nI (2 ^ n - 1 - a) &&& (nI s ^^^ (-1)) = nI (2 ^ n - 1 - (a ||| s)) := by decide +kernel
theorem msu_lp {n z : Nat} {F X Y : Nat → Int32} {u : am_U} (h : b_M n z F X Y u) (hn : n ≤ 6) (hz : z ≤ 8) (G : Nat → Bool) (hG : ∀ s, G s = m_fi F X Y n (nI s) z 0) (K : Int32 → Int32 → Int32 → Option (Int32 × am_U)) : ∀ (f s c bo an : Nat), an < 2 ^ n → s ≤ 2 ^ n → 2 ^ n < s + f → f_X11_sure_29 u (nI (2 ^ n - 1)) K f (nI bo) (nI (2 ^ n - 1 - an)) (nI c) (nI s) = K (nI ((m_gt G (2 ^ n - s) s).foldl (fun a b => a &&& b) bo)) (nI (2 ^ n - 1 - (m_gt G (2 ^ n - s) s).foldl (fun a b => a ||| b) an)) (nI (c + (m_gt G (2 ^ n - s) s).length)) := by
  have hpw := pow_le hn
  intro f
  induction f with
  | zero => intro s c bo an _ h1 h2; omega
  | succ f ih =>
    intro s c bo an ha h1 h2
    rw [f_X11_sure_29]
    rcases Nat.lt_or_ge s (2 ^ n) with q | q
    · rw [if_neg (nI_nlt (show s ≤ 2 ^ n - 1 by omega) (by omega)), nI_1, nI_1, mfi_eq h hn hz, ← hG s, obs, show 2 ^ n - s = (2 ^ n - (s + 1)) + 1 by omega, m_gt]
      by_cases g : G s = true
      · rw [b1_t g, if_neg ne10, if_pos g, List.length_cons, List.foldl_cons, List.foldl_cons, show c + ((m_gt G (2 ^ n - (s + 1)) (s + 1)).length + 1) = c + 1 + (m_gt G (2 ^ n - (s + 1)) (s + 1)).length by omega]
        show f_X11_sure_29 u (nI (2 ^ n - 1)) K f (nI bo &&& nI s) (nI (2 ^ n - 1 - an) &&& (nI s ^^^ (-1))) (nI (c + 1)) (nI (s + 1)) = _
        rw [or_step n (by omega) an ha s q, nI_and]
        exact ih (s + 1) (c + 1) _ _ (Nat.or_lt_two_pow ha q) (by omega) (by omega)
      · rw [b1_f g, if_pos rfl, if_neg g]
        exact ih (s + 1) c bo an ha (by omega) (by omega)
    · rw [if_pos (nI_lt (show 2 ^ n - 1 < s by omega) (by omega)), show 2 ^ n - s = 0 by omega]; rfl
theorem fo_lt {n : Nat} : ∀ (l : List Nat) (v : Nat), v < 2 ^ n → (∀ x, x ∈ l → x < 2 ^ n) → l.foldl (fun a b => a ||| b) v < 2 ^ n := by
  intro l
  induction l with
  | nil => intro v hv _; exact hv
  | cons x l ih =>
    intro v hv h
    rw [List.foldl_cons]
    exact ih _ (Nat.or_lt_two_pow hv (h x (List.mem_cons_self))) (fun y hy => h y (List.mem_cons_of_mem x hy))
theorem and_all : ∀ n, n < 7 → ∀ x, x < 2 ^ n → (2 ^ n - 1) &&& x = x := by decide
theorem two_sure : am_two (fun pl u => f_X10_sure pl u) (fun _ u => f_X11_sure u) := by
  intro pl hp u hI
  show ∃ v u1 u2, f_X10_sure pl u = _ ∧ f_X11_sure u1 = _ ∧ _
  obtain ⟨n', z, hn, hz, e1, e2, hC, hM, -⟩ := burn_env hI
  have hpw := pow_le hn
  have hp0 : 0 < 2 ^ n' := Nat.two_pow_pos n'
  by_cases hn0 : n' = 0
  · subst hn0
    refine ⟨-4, u, u, ?_, ?_, hI, fun _ _ => rfl⟩
    · unfold f_X10_sure; rw [e1, if_neg (fun q => q rfl)]
    · unfold f_X11_sure; rw [e2, if_neg (fun q => q rfl)]
  · have hne : ¬ nI n' = 0 := nI_ne0 (by omega) (by omega)
    obtain ⟨G, hG⟩ : ∃ G : Nat → Bool, ∀ s, G s = m_fi (u 70) (u 86) (u 87) n' (nI s) z 0 := ⟨_, fun _ => rfl⟩
    obtain ⟨l, hl⟩ : ∃ l, m_gt G (2 ^ n') 0 = l := ⟨_, rfl⟩
    have hlen := gt_len G (2 ^ n') 0
    have hlt := gt_lt G (2 ^ n') 0
    obtain ⟨w, k1, k2, k3⟩ := cga_eq hp hn hz G hG hC
    rw [hl] at k1 k2 hlen hlt
    have hall : nI (2 ^ n') - 1 = nI (2 ^ n' - 1) := nI_sub (b := 1) hp0
    have hany : l.foldl (fun a b => a ||| b) 0 < 2 ^ n' := fo_lt l 0 hp0 (fun x hx => by have := hlt x hx; omega)
    have hMt : ∀ v : am_U, (∀ a b, 60 ≤ a → v a b = u a b) → f_X11_sure v = if ¬ nI l.length = 0 then some (nI (l.foldl (fun a b => a &&& b) (2 ^ n' - 1)), am_w v 60 2 (nI (2 ^ n' - 1 - l.foldl (fun a b => a ||| b) 0))) else some (-3, am_mts v 4) := fun v hv => by
      unfold f_X11_sure
      rw [hv 60 12 (by omega), e2, if_pos hne, shl_n n' (by omega), hall]
      simp only [tell_m, obs, show f_X11_meets 4 v = some (-3, am_mts v 4) from meets_eq (f := 4) (by omega) v]
      refine (msu_lp (b_M_fr hM (fun a b z1 _ => hv a b z1)) hn hz G hG _ 20000 0 0 (2 ^ n' - 1) 0 hp0 (Nat.zero_le _) (by omega)).trans ?_
      rw [Nat.sub_zero, hl, Nat.zero_add]
    have hE : f_X10_sure pl u = if ¬ nI l.length = 0 then (f_X0_inAll w).bind (fun q2 => some (q2, am_w w 4 13 (nI (2 ^ n' - 1 - l.foldl (fun a b => a ||| b) 0)))) else some (-3, am_fnd w 4) := by
      have hA : f_X0_inAny w = some (nI (l.foldl (fun a b => a ||| b) 0)) := cin_lp k2 (by omega) 20000 0 0 (by omega) (by omega)
      unfold f_X10_sure
      rw [e1, if_pos hne, k1]
      simp only [tell_c, obs, hA, k3 pl 2 (by omega) (by omega), e1, shl_n n' (show n' < 7 by omega), hall, nI_sub (show l.foldl (fun a b => a ||| b) 0 ≤ 2 ^ n' - 1 by omega), show f_X10_find 4 w = some (-3, am_fnd w 4) from find_eq (f := 4) (by omega) w]
    cases l with
    | nil =>
      have hT := inv_find hp hI 4
      have eo : ∀ a b, a ≠ 24 → ¬ (a = 21 ∧ b = 5) → am_mts (am_fnd w 4) 4 a b = am_mts (am_fnd u 4) 4 a b := fun a b z1 z2 => by
        unfold am_mts am_fnd
        simp only [am_w_ap, k3 a b z1 z2, k3 29 4 (by omega) (by omega), k3 61 4 (by omega) (by omega)]
      refine ⟨-3, am_fnd w 4, am_mts (am_fnd w 4) 4, ?_, ?_, fr_free hp hT.1 (fun a b z1 z2 z3 z4 => eo a b z1 z3), fun a ha => ?_⟩
      · rw [hE, if_neg (fun q => q rfl)]
      · rw [hMt _ (fun a b z1 => by rw [fnd_n (by omega)]; exact k3 a b (by omega) (by omega)), if_neg (fun q => q rfl)]
      · rw [← hT.2 a ha]; exact funext fun b => eo a b (by omega) (by omega)
    | cons x l =>
      have hn0 : ¬ nI (x :: l).length = 0 := nI_ne0 (by rw [List.length_cons]; omega) (by omega)
      have hw : w 24 0 = nI x := k2.2 0 (by rw [List.length_cons]; omega)
      obtain ⟨y, hy⟩ : ∃ y, nI (2 ^ n' - 1 - (x :: l).foldl (fun a b => a ||| b) 0) = y := ⟨_, rfl⟩
      have hx : x < 2 ^ n' := by have := hlt x List.mem_cons_self; omega
      have hIA : f_X0_inAll w = some (nI ((x :: l).foldl (fun a b => a &&& b) (2 ^ n' - 1))) := by
        unfold f_X0_inAll
        rw [hw, List.foldl_cons, and_all n' (by omega) x hx]
        exact cia_lp k2 (by omega) 20000 1 x (by rw [List.length_cons]; omega) (by omega)
      have hT := inv_tell hp hI y
      have eo : ∀ a b, a ≠ 24 → ¬ (a = 21 ∧ b = 5) → am_w (am_w w 4 13 y) 60 2 y a b = am_w (am_w u 4 13 y) 60 2 y a b := fun a b z1 z2 => by
        simp only [am_w_ap, k3 a b z1 z2]
      refine ⟨nI ((x :: l).foldl (fun a b => a &&& b) (2 ^ n' - 1)), am_w w 4 13 y, am_w (am_w w 4 13 y) 60 2 y, ?_, ?_, fr_free hp hT.1 (fun a b z1 z2 z3 z4 => eo a b z1 z3), fun a ha => ?_⟩
      · rw [hE, if_pos hn0, hIA, obs, hy]
      · rw [hMt _ (fun a b z1 => by rw [am_w_n (by omega)]; exact k3 a b (by omega) (by omega)), if_pos hn0, hy]
      · rw [← hT.2 a ha]; exact funext fun b => eo a b (by omega) (by omega)
theorem ok_sure {l : Launch} {g : am_G} : am_ok l g d_X10_sure d_X11_sure [] am_isI := ok_II (fun B pl hL u => s_X10_sure hL u) (fun B pl hL u => s_X11_sure hL u) two_sure
/-! test -/
def m_ml (t : Nat → Nat) : List Nat → (Nat → Nat) → Nat → Nat
  | [], _, mo => mo
  | w :: l, T, mo => m_ml t l (fun x => if x = t w then T x + 1 else T x) (if mo < T (t w) + 1 then T (t w) + 1 else mo)
theorem ml_le (t : Nat → Nat) : ∀ (l : List Nat) (T : Nat → Nat) (mo c : Nat), mo ≤ c → (∀ x, T x ≤ c) → m_ml t l T mo ≤ c + l.length := by
  intro l
  induction l with
  | nil => intro T mo c h _; exact h
  | cons w l ih =>
    intro T mo c h hT
    rw [m_ml, List.length_cons]
    have := hT (t w)
    have := ih (fun x => if x = t w then T x + 1 else T x) (if mo < T (t w) + 1 then T (t w) + 1 else mo) (c + 1) (by split <;> omega) (fun x => by
      have := hT x
      show (if x = t w then T x + 1 else T x) ≤ c + 1
      split <;> omega)
    omega
theorem ml_ge (t : Nat → Nat) : ∀ (l : List Nat) (T : Nat → Nat) (mo : Nat), mo ≤ m_ml t l T mo := by
  intro l
  induction l with
  | nil => intro T mo; exact Nat.le_refl _
  | cons w l ih =>
    intro T mo
    rw [m_ml]
    exact Nat.le_trans (by split <;> omega) (ih _ (if mo < T (t w) + 1 then T (t w) + 1 else mo))
theorem max_c {a b : Nat} (ha : a < 2 ^ 31) (hb : b < 2 ^ 31) : f_J9_max_7cf53 (nI a) (nI b) = some (nI (if a < b then b else a)) := by
  unfold f_J9_max_7cf53
  by_cases h : a < b
  · rw [if_pos h, if_pos (nI_lt h hb)]
  · rw [if_neg h, if_neg (nI_nlt (by omega) ha)]
theorem max_m {a b : Nat} (ha : a < 2 ^ 31) (hb : b < 2 ^ 31) : f_X11_greater (nI a) (nI b) = some (nI (if a < b then b else a)) := by
  unfold f_X11_greater
  by_cases h : a < b
  · rw [if_pos h, if_pos (nI_le (by omega) hb)]
  · rw [if_neg h]
    by_cases h2 : a = b
    · rw [if_pos (nI_le (by omega) hb), h2]
    · rw [if_neg (nI_ge (by omega) ha)]
theorem cml_lp {pl n z : Nat} {F X Y : Nat → Int32} (hp : pl = 30 ∨ pl = 35) (hn : n ≤ 6) {s : Int32} {t : Nat → Nat} (ht : ∀ w, m_bu F s (nI w) n 0 0 = nI (t w) ∧ t w ≤ 120) {l : List Nat} (hl : l.length ≤ 64) : ∀ (f i mo : Nat) (T : Nat → Nat) (u : am_U), b_C pl n z F X Y u → g_L u l → (∀ x, x < 121 → u 25 x = nI (T x)) → mo ≤ i → (∀ x, T x ≤ i) → i ≤ l.length → l.length < i + f → ∃ w, f_X0_mostLeft_13 s pl f (nI mo) (nI i) u = some (nI (m_ml t (l.drop i) T mo), w) ∧ ∀ a b, a ≠ 25 → w a b = u a b := by
  intro f
  induction f with
  | zero => intro i mo T u _ _ _ _ _ h1 h2; omega
  | succ f ih =>
    intro i mo T u hb hg hT hmo hTi h1 h2
    rw [f_X0_mostLeft_13, hg.1]
    rcases Nat.lt_or_ge i l.length with q | q
    · obtain ⟨x, hx⟩ : ∃ x, l.getD i 0 = x := ⟨_, rfl⟩
      have hTx := hTi (t x)
      have ht2 := (ht x).2
      obtain ⟨w, k1, k2⟩ := ih (i + 1) (if mo < T (t x) + 1 then T (t x) + 1 else mo) (fun y => if y = t x then T y + 1 else T y) (am_w u 25 (t x) (nI (T (t x) + 1))) (b_C_fr hp hb (fun a b z1 z2 z3 => am_w_n (by omega))) ⟨by rw [am_w_n (by omega)]; exact hg.1, fun j hj => by rw [am_w_n (by omega)]; exact hg.2 j hj⟩ (fun y hy => by
          rw [am_w_ap]
          by_cases c : y = t x
          · rw [if_pos ⟨rfl, c⟩]
            show _ = nI (if y = t x then T y + 1 else T y)
            rw [if_pos c, c]
          · rw [if_neg (by omega)]
            show _ = nI (if y = t x then T y + 1 else T y)
            rw [if_neg c]; exact hT y hy) (by split <;> omega) (fun y => by
          have := hTi y
          show (if y = t x then T y + 1 else T y) ≤ i + 1
          split <;> omega) (by omega) (by omega)
      refine ⟨w, ?_, fun a b z => by rw [k2 a b z, am_w_n (by omega)]⟩
      rw [if_neg (nI_ge q (by omega)), am_ck_t (am_ix_nI (show i < 64 by omega) (by omega)), nI_clamp (by omega), hg.2 i q, hx, cbu_eq hb hn, (ht x).1, obs, am_ck_t (am_ix_nI (show t x < 121 by omega) (by omega)), nI_clamp (by omega), hT (t x) (by omega), nI_1]
      show (f_J9_max_7cf53 (nI mo) (am_w u 25 (t x) (nI (T (t x) + 1)) 25 (t x))).bind (fun q6 => f_X0_mostLeft_13 s pl f q6 (nI i + 1) (am_w u 25 (t x) (nI (T (t x) + 1)))) = _
      rw [am_w_s, max_c (by omega) (by omega), obs, nI_1, k1, dr_c l i q, hx, m_ml]
    · rw [if_pos (nI_le (show l.length ≤ i by omega) (by omega)), show i = l.length by omega, List.drop_length]
      exact ⟨u, rfl, fun _ _ _ => rfl⟩
theorem cml_eq {pl n z : Nat} {F X Y : Nat → Int32} (hp : pl = 30 ∨ pl = 35) (hn : n ≤ 6) {s : Int32} {t : Nat → Nat} (ht : ∀ w, m_bu F s (nI w) n 0 0 = nI (t w) ∧ t w ≤ 120) {l : List Nat} (hl : l.length ≤ 64) {u : am_U} (hb : b_C pl n z F X Y u) (hg : g_L u l) : ∃ w, f_X0_mostLeft s pl u = some (nI (m_ml t l (fun _ => 0) 0), w) ∧ ∀ a b, a ≠ 25 → w a b = u a b := by
  obtain ⟨w, k1, k2⟩ := cml_lp hp hn ht hl 20000 0 0 (fun _ => 0) (am_fl u 25 0 121 0) (b_C_fr hp hb (fun a b z1 z2 z3 => am_fl_n (by omega))) ⟨by rw [am_fl_n (by omega)]; exact hg.1, fun j hj => by rw [am_fl_n (by omega)]; exact hg.2 j hj⟩ (fun x hx => am_fl_s (by omega)) (by omega) (fun _ => by omega) (by omega) (by omega)
  refine ⟨w, ?_, fun a b z => by rw [k2 a b z, am_fl_n (by omega)]⟩
  unfold f_X0_mostLeft
  rw [fill_eq 25 121 0 u (by omega), obs]
  exact k1
theorem mlb_lp {n z : Nat} {F X Y : Nat → Int32} (hn : n ≤ 6) (hz : z ≤ 8) (G : Nat → Bool) (hG : ∀ s, G s = m_fi F X Y n (nI s) z 0) {s : Int32} {t : Nat → Nat} (ht : ∀ w, m_bu F s (nI w) n 0 0 = nI (t w) ∧ t w ≤ 120) : ∀ (f i mo : Nat) (T : Nat → Nat) (u : am_U), b_M n z F X Y u → (∀ x, x < 121 → u 88 x = nI (T x)) → mo ≤ i → (∀ x, T x ≤ i) → i ≤ 2 ^ n → 2 ^ n < i + f → ∃ w, f_X11_leftBy_25 s f (nI mo) (nI i) u = some (nI (m_ml t (m_gt G (2 ^ n - i) i) T mo), w) ∧ ∀ a b, a ≠ 88 → w a b = u a b := by
  have hpw := pow_le hn
  intro f
  induction f with
  | zero => intro i mo T u _ _ _ _ h1 h2; omega
  | succ f ih =>
    intro i mo T u hb hT hmo hTi h1 h2
    rw [f_X11_leftBy_25, hb.1, shl_n n (by omega)]
    rcases Nat.lt_or_ge i (2 ^ n) with q | q
    · rw [if_neg (nI_ge q (by omega)), nI_1, mfi_eq hb hn hz, ← hG i, obs, show 2 ^ n - i = (2 ^ n - (i + 1)) + 1 by omega, m_gt]
      by_cases g : G i = true
      · have hTx := hTi (t i)
        have ht2 := (ht i).2
        obtain ⟨w, k1, k2⟩ := ih (i + 1) (if mo < T (t i) + 1 then T (t i) + 1 else mo) (fun y => if y = t i then T y + 1 else T y) (am_w u 88 (t i) (nI (T (t i) + 1))) (b_M_fr hb (fun a b z1 z2 => am_w_n (by omega))) (fun y hy => by
          rw [am_w_ap]
          by_cases c : y = t i
          · rw [if_pos ⟨rfl, c⟩]
            show _ = nI (if y = t i then T y + 1 else T y)
            rw [if_pos c, c]
          · rw [if_neg (by omega)]
            show _ = nI (if y = t i then T y + 1 else T y)
            rw [if_neg c]; exact hT y hy) (by split <;> omega) (fun y => by
          have := hTi y
          show (if y = t i then T y + 1 else T y) ≤ i + 1
          split <;> omega) (by omega) (by omega)
        refine ⟨w, ?_, fun a b z => by rw [k2 a b z, am_w_n (by omega)]⟩
        rw [b1_t g, if_neg ne10, if_pos g, mbu_eq hb hn, (ht i).1, obs, am_ck_t (am_ix_nI (show t i < 121 by omega) (by omega)), nI_clamp (by omega), hT (t i) (by omega), nI_1]
        show (f_X11_greater (nI mo) (am_w u 88 (t i) (nI (T (t i) + 1)) 88 (t i))).bind (fun q8 => f_X11_leftBy_25 s f q8 (nI (i + 1)) (am_w u 88 (t i) (nI (T (t i) + 1)))) = _
        rw [am_w_s, max_m (by omega) (by omega), obs, k1, m_ml]
      · rw [b1_f g, if_pos rfl, if_neg g]
        exact ih (i + 1) mo T u hb hT (by omega) (fun x => by have := hTi x; omega) (by omega) (by omega)
    · rw [if_pos (nI_le (show 2 ^ n ≤ i by omega) (by omega)), show 2 ^ n - i = 0 by omega]
      exact ⟨u, rfl, fun _ _ _ => rfl⟩
theorem lb2_lp (v1 : Int32) (K : am_U → Option (Int32 × am_U)) : ∀ (f i : Nat) (u : am_U), i ≤ 121 → 121 < i + f → f_X11_leftBy_2 v1 K f (nI i) u = K (am_fl u 88 i 121 0) := by
  intro f
  induction f with
  | zero => intro i u h1 h2; omega
  | succ f ih =>
    intro i u h1 h2
    rw [f_X11_leftBy_2]
    rcases Nat.lt_or_ge i 121 with q | q
    · rw [if_neg (show ¬ (121 : Int32) ≤ nI i from nI_ge (b := 121) q (by omega)), am_ck_t (am_ix_nI q (by omega)), nI_clamp (by omega), nI_1]
      show f_X11_leftBy_2 v1 K f (nI (i + 1)) (am_w u 88 i 0) = _
      rw [ih (i + 1) _ (by omega) (by omega), am_fl_w q]
    · have : i = 121 := by omega
      subst this
      rw [if_pos (show (121 : Int32) ≤ nI 121 by decide), am_fl_e]
theorem mlf_eq {n z : Nat} {F X Y : Nat → Int32} (hn : n ≤ 6) (hz : z ≤ 8) (G : Nat → Bool) (hG : ∀ s, G s = m_fi F X Y n (nI s) z 0) {s : Int32} {t : Nat → Nat} (ht : ∀ w, m_bu F s (nI w) n 0 0 = nI (t w) ∧ t w ≤ 120) {u : am_U} (hb : b_M n z F X Y u) : ∃ w, f_X11_leftBy s u = some (nI (m_ml t (m_gt G (2 ^ n) 0) (fun _ => 0) 0), w) ∧ ∀ a b, a ≠ 88 → w a b = u a b := by
  have hpw := pow_le hn
  obtain ⟨w, k1, k2⟩ := mlb_lp hn hz G hG ht 20000 0 0 (fun _ => 0) (am_fl u 88 0 121 0) (b_M_fr hb (fun a b z1 z2 => am_fl_n (by omega))) (fun x hx => am_fl_s (by omega)) (by omega) (fun _ => by omega) (Nat.zero_le _) (by omega)
  refine ⟨w, ?_, fun a b z => by rw [k2 a b z, am_fl_n (by omega)]⟩
  unfold f_X11_leftBy
  exact (lb2_lp s _ 20000 0 u (by omega) (by omega)).trans k1
def m_nx (M : Nat → Nat) : Nat → Nat → Nat → Nat
  | 0, _, b => b
  | m + 1, s, b => m_nx M m (s + 1) (if M s < M b ∨ (M s = M b ∧ m_bc s < m_bc b) then s else b)
theorem nx_lt (M : Nat → Nat) : ∀ (m s b : Nat), b < s → m_nx M m s b < s + m := by
  intro m
  induction m with
  | zero => intro s b h; exact h
  | succ m ih =>
    intro s b h
    rw [m_nx]
    have := ih (s + 1) (if M s < M b ∨ (M s = M b ∧ m_bc s < m_bc b) then s else b) (by split <;> omega)
    omega
theorem cnx_lp {pl n z : Nat} {F X Y : Nat → Int32} (hp : pl = 30 ∨ pl = 35) (hn : n ≤ 6) {l : List Nat} (hl : l.length ≤ 64) (M : Nat → Nat) (hM : ∀ s, M s ≤ 64) (hc : ∀ s, s < 2 ^ n → ∀ u, b_C pl n z F X Y u → g_L u l → ∃ w, f_X0_mostLeft (nI s) pl u = some (nI (M s), w) ∧ ∀ a b, a ≠ 25 → w a b = u a b) : ∀ (f s b : Nat) (u : am_U), b_C pl n z F X Y u → g_L u l → b < s → s ≤ 2 ^ n → 2 ^ n < s + f → ∃ w, f_X0_nextToBurn_12 pl f (nI b) (nI (M b)) (nI s) u = some (nI (m_nx M (2 ^ n - s) s b), w) ∧ ∀ a b, a ≠ 25 → w a b = u a b := by
  have hpw := pow_le hn
  intro f
  induction f with
  | zero => intro s b u _ _ _ h1 h2; omega
  | succ f ih =>
    intro s b u hb hg hbs h1 h2
    rw [f_X0_nextToBurn_12, hb.1, shl_n n (by omega)]
    rcases Nat.lt_or_ge s (2 ^ n) with q | q
    · obtain ⟨w, k1, k2⟩ := hc s q u hb hg
      have hb' : b_C pl n z F X Y w := b_C_fr hp hb (fun a b z1 z2 z3 => k2 a b z2)
      have hg' : g_L w l := ⟨by rw [k2 21 5 (by omega)]; exact hg.1, fun j hj => by rw [k2 24 j (by omega)]; exact hg.2 j hj⟩
      have b1 := bc_le s
      have b2 := bc_le b
      have m1 := hM s
      have m2 := hM b
      rw [if_neg (nI_ge q (by omega)), nI_1, k1, obs, cbc_eq s (by omega), obs, cbc_eq b (by omega), obs, show 2 ^ n - s = (2 ^ n - (s + 1)) + 1 by omega, m_nx]
      dsimp only [am_jn]
      obtain ⟨w1, y1, y2⟩ := ih (s + 1) s w hb' hg' (by omega) (by omega) (by omega)
      obtain ⟨w2, x1, x2⟩ := ih (s + 1) b w hb' hg' (by omega) (by omega) (by omega)
      by_cases c1 : M s < M b
      · refine ⟨w1, ?_, fun a b z => by rw [y2 a b z, k2 a b z]⟩
        rw [if_pos (Or.inl c1), if_pos (nI_lt c1 (by omega)), if_pos (nI_lt c1 (by omega)), y1]
        split <;> rfl
      · by_cases c2 : M s = M b
        · by_cases c3 : m_bc b ≤ m_bc s
          · refine ⟨w2, ?_, fun a b z => by rw [x2 a b z, k2 a b z]⟩
            rw [if_neg (show ¬ (M s < M b ∨ (M s = M b ∧ m_bc s < m_bc b)) by omega), if_pos (nI_le c3 (by omega)), if_neg (nI_nlt (by omega) (by omega)), if_neg (fun z => z (by rw [c2])), if_pos rfl, x1]
          · refine ⟨w1, ?_, fun a b z => by rw [y2 a b z, k2 a b z]⟩
            rw [if_pos (Or.inr ⟨c2, by omega⟩), if_neg (nI_ge (show m_bc s < m_bc b by omega) (by omega)), if_neg (nI_nlt (by omega) (by omega)), if_neg (fun z => z (by rw [c2])), if_neg ne10, y1]
        · refine ⟨w2, ?_, fun a b z => by rw [x2 a b z, k2 a b z]⟩
          have hne : ¬ nI (M s) = nI (M b) := fun z => c2 ((nI_eq (by omega) (by omega)).mp z)
          rw [if_neg (show ¬ (M s < M b ∨ (M s = M b ∧ m_bc s < m_bc b)) by omega), if_neg (nI_nlt (show M b ≤ M s by omega) (by omega)), if_neg (nI_nlt (show M b ≤ M s by omega) (by omega)), if_pos hne, if_pos hne, x1]
          split <;> rfl
    · rw [if_pos (nI_le (show 2 ^ n ≤ s by omega) (by omega)), show 2 ^ n - s = 0 by omega]
      exact ⟨u, rfl, fun _ _ _ => rfl⟩
theorem mnx_lp {n z : Nat} {F X Y : Nat → Int32} (hn : n ≤ 6) (M : Nat → Nat) (hM : ∀ s, M s ≤ 64) (hc : ∀ s, s < 2 ^ n → ∀ u, b_M n z F X Y u → ∃ w, f_X11_leftBy (nI s) u = some (nI (M s), w) ∧ ∀ a b, a ≠ 88 → w a b = u a b) (K : Int32 → Int32 → am_U → Option (Int32 × am_U)) : ∀ (f s b : Nat) (u : am_U), b_M n z F X Y u → b < s → s ≤ 2 ^ n → 2 ^ n < s + f → ∃ w, f_X11_test_17 K f (nI b) (nI (M b)) (nI s) u = K (nI (m_nx M (2 ^ n - s) s b)) (nI (M (m_nx M (2 ^ n - s) s b))) w ∧ ∀ a b, a ≠ 88 → w a b = u a b := by
  have hpw := pow_le hn
  intro f
  induction f with
  | zero => intro s b u _ _ h1 h2; omega
  | succ f ih =>
    intro s b u hb hbs h1 h2
    rw [f_X11_test_17, hb.1, shl_n n (by omega)]
    rcases Nat.lt_or_ge s (2 ^ n) with q | q
    · obtain ⟨w, k1, k2⟩ := hc s q u hb
      have hb' : b_M n z F X Y w := b_M_fr hb (fun a b z1 z2 => k2 a b z2)
      have b1 := bc_le s
      have b2 := bc_le b
      have m1 := hM s
      have m2 := hM b
      rw [if_neg (nI_ge q (by omega)), nI_1, k1, obs, show 2 ^ n - s = (2 ^ n - (s + 1)) + 1 by omega, m_nx]
      dsimp only [am_jn]
      rw [if_neg (nI_m9 (show b < 2 ^ 31 by omega))]
      obtain ⟨w1, y1, y2⟩ := ih (s + 1) s w hb' (by omega) (by omega) (by omega)
      obtain ⟨w2, x1, x2⟩ := ih (s + 1) b w hb' (by omega) (by omega) (by omega)
      by_cases c1 : M s < M b
      · refine ⟨w1, ?_, fun a b z => by rw [y2 a b z, k2 a b z]⟩
        rw [if_pos (Or.inl c1), if_pos (nI_lt c1 (by omega)), y1]
      · by_cases c2 : M s = M b
        · rw [if_neg (nI_nlt (show M b ≤ M s by omega) (by omega)), if_neg (show ¬ ¬ nI (M s) = nI (M b) from fun z => z (by rw [c2])), mbc_eq (by omega), obs, mbc_eq (by omega), obs]
          by_cases c3 : m_bc b ≤ m_bc s
          · refine ⟨w2, ?_, fun a b z => by rw [x2 a b z, k2 a b z]⟩
            rw [if_neg (show ¬ (M s < M b ∨ (M s = M b ∧ m_bc s < m_bc b)) by omega), if_pos (nI_le c3 (by omega)), x1]
          · refine ⟨w1, ?_, fun a b z => by rw [y2 a b z, k2 a b z]⟩
            rw [if_pos (Or.inr ⟨c2, by omega⟩), if_neg (nI_ge (show m_bc s < m_bc b by omega) (by omega)), y1]
        · refine ⟨w2, ?_, fun a b z => by rw [x2 a b z, k2 a b z]⟩
          have hne : ¬ nI (M s) = nI (M b) := fun z => c2 ((nI_eq (by omega) (by omega)).mp z)
          rw [if_neg (show ¬ (M s < M b ∨ (M s = M b ∧ m_bc s < m_bc b)) by omega), if_neg (nI_nlt (show M b ≤ M s by omega) (by omega)), if_pos hne, x1]
    · rw [if_pos (nI_le (show 2 ^ n ≤ s by omega) (by omega)), show 2 ^ n - s = 0 by omega]
      exact ⟨u, rfl, fun _ _ _ => rfl⟩
theorem two_test : am_two (fun pl u => f_X10_test pl u) (fun _ u => f_X11_test u) := by
  intro pl hp u hI
  show ∃ v u1 u2, f_X10_test pl u = _ ∧ f_X11_test u1 = _ ∧ _
  obtain ⟨n, z, hn, hz, e1, e2, hC, hM, hF⟩ := burn_env hI
  have hpw := pow_le hn
  by_cases hn0 : n = 0
  · subst hn0
    refine ⟨-4, u, u, ?_, ?_, hI, fun _ _ => rfl⟩
    · unfold f_X10_test; rw [e1, if_neg (fun q => q rfl)]
    · unfold f_X11_test; rw [e2, if_neg (fun q => q rfl)]
  have h2n : 2 ≤ 2 ^ n := by
    have : 2 ^ 1 ≤ 2 ^ n := Nat.pow_le_pow_right (by omega) (by omega)
    omega
  have hne : ¬ nI n = 0 := nI_ne0 (by omega) (by omega)
  obtain ⟨G, hG⟩ : ∃ G : Nat → Bool, ∀ s, G s = m_fi (u 70) (u 86) (u 87) n (nI s) z 0 := ⟨_, fun _ => rfl⟩
  obtain ⟨l, hl⟩ : ∃ l, m_gt G (2 ^ n) 0 = l := ⟨_, rfl⟩
  have hlen := gt_len G (2 ^ n) 0
  obtain ⟨w, k1, k2, k3⟩ := cga_eq hp hn hz G hG hC
  rw [hl] at k1 k2 hlen
  have htt : ∀ s : Nat, ∃ t : Nat → Nat, ∀ w, m_bu (u 70) (nI s) (nI w) n 0 0 = nI (t w) ∧ t w ≤ 120 := fun s => by
    refine ⟨fun w => (m_bu (u 70) (nI s) (nI w) n 0 0).toNatClampNeg, fun w => ?_⟩
    obtain ⟨A, h1, h2⟩ := bu_nI (nI s) (nI w) n 0 0 (F := u 70) (fun j _ hj => hF j (by omega))
    have h3 : m_bu (u 70) (nI s) (nI w) n 0 0 = nI A := h2
    show m_bu (u 70) (nI s) (nI w) n 0 0 = nI (m_bu (u 70) (nI s) (nI w) n 0 0).toNatClampNeg ∧ (m_bu (u 70) (nI s) (nI w) n 0 0).toNatClampNeg ≤ 120
    rw [h3, nI_clamp (by omega)]
    exact ⟨rfl, by omega⟩
  obtain ⟨t, ht⟩ : ∃ t : Nat → Nat → Nat, ∀ s w, m_bu (u 70) (nI s) (nI w) n 0 0 = nI (t s w) ∧ t s w ≤ 120 := ⟨fun s => Classical.choose (htt s), fun s => Classical.choose_spec (htt s)⟩
  obtain ⟨M, hMM⟩ : ∃ M : Nat → Nat, ∀ s, M s = m_ml (t s) l (fun _ => 0) 0 := ⟨_, fun _ => rfl⟩
  have hM64 : ∀ s, M s ≤ 64 := fun s => by
    have := ml_le (t s) l (fun _ => 0) 0 0 (Nat.le_refl 0) (fun _ => Nat.le_refl 0)
    rw [hMM]; omega
  have hcC : ∀ s, s < 2 ^ n → ∀ v, b_C pl n z (u 70) (u 86) (u 87) v → g_L v l → ∃ w, f_X0_mostLeft (nI s) pl v = some (nI (M s), w) ∧ ∀ a b, a ≠ 25 → w a b = v a b := fun s _ v h1 h2 => by
    rw [hMM]; exact cml_eq hp hn (ht s) (by omega) h1 h2
  have hcM : ∀ s, s < 2 ^ n → ∀ v, b_M n z (u 70) (u 86) (u 87) v → ∃ w, f_X11_leftBy (nI s) v = some (nI (M s), w) ∧ ∀ a b, a ≠ 88 → w a b = v a b := fun s _ v h1 => by
    rw [hMM, ← hl]; exact mlf_eq hn hz G hG (ht s) h1
  obtain ⟨nx, hnx⟩ : ∃ nx, m_nx M (2 ^ n - 2) 2 1 = nx := ⟨_, rfl⟩
  have hnxl : nx < 2 ^ n := by have := nx_lt M (2 ^ n - 2) 2 1 (by omega); omega
  have hMt : ∀ v : am_U, (∀ a b, 60 ≤ a → v a b = u a b) → ∃ y, f_X11_test v = (if ¬ nI (M nx) = 0 then some (nI nx, am_w y 60 2 (nI (M nx))) else some (-3, am_mts y 4)) ∧ ∀ a b, a ≠ 88 → y a b = v a b := fun v hv => by
    have hbv : b_M n z (u 70) (u 86) (u 87) v := b_M_fr hM (fun a b z1 _ => hv a b z1)
    obtain ⟨w1, p1, p2⟩ := hcM 1 (by omega) v hbv
    have hbw : b_M n z (u 70) (u 86) (u 87) w1 := b_M_fr hbv (fun a b z1 z2 => p2 a b z2)
    obtain ⟨y, q1, q2⟩ := mnx_lp hn M hM64 hcM (fun (c5v1 : Int32) (c5v2 : Int32) (c5u : am_U) => if ¬ c5v2 = 0 then some (c5v1, am_w c5u 60 2 c5v2) else some (-3, am_mts c5u 4)) 19999 2 1 w1 hbw (by omega) (by omega) (by omega)
    refine ⟨y, ?_, fun a b z => by rw [q2 a b z, p2 a b z]⟩
    rw [hnx] at q1
    unfold f_X11_test
    rw [hv 60 12 (by omega), e2, if_pos hne]
    have hmee : ∀ x, f_X11_meets 4 x = some (-3, am_mts x 4) := fun x => meets_eq (f := 4) (by omega) x
    simp only [tell_m, obs, hmee]
    rw [f_X11_test_17, hv 60 12 (by omega), e2, shl_n n (by omega), if_neg (show ¬ nI (2 ^ n) ≤ (1 : Int32) from nI_ge (a := 1) (by omega) (by omega)), show f_X11_leftBy 1 v = some (nI (M 1), w1) from p1, obs, jn_eq, if_pos rfl]
    exact q1
  have hE : ∃ w3, f_X10_test pl u = (if ¬ nI l.length = 0 then some (nI nx, am_w w3 4 13 (nI (M nx))) else some (-3, am_fnd w 4)) ∧ ∀ a b, a ≠ 25 → w3 a b = w a b := by
    have hbw : b_C pl n z (u 70) (u 86) (u 87) w := b_C_fr hp hC (fun a b z1 z2 z3 => k3 a b z1 z3)
    obtain ⟨w1, p1, p2⟩ := hcC 1 (by omega) w hbw k2
    have hfr : ∀ x : am_U, (∀ a b, a ≠ 25 → x a b = w a b) → b_C pl n z (u 70) (u 86) (u 87) x ∧ g_L x l := fun x hx => ⟨b_C_fr hp hbw (fun a b z1 z2 z3 => hx a b z2), by rw [hx 21 5 (by omega)]; exact k2.1, fun j hj => by rw [hx 24 j (by omega)]; exact k2.2 j hj⟩
    obtain ⟨w2, q1, q2⟩ := cnx_lp hp hn (by omega) M hM64 hcC 20000 2 1 w1 (hfr w1 p2).1 (hfr w1 p2).2 (by omega) (by omega) (by omega)
    have g2 : ∀ a b, a ≠ 25 → w2 a b = w a b := fun a b z => by rw [q2 a b z, p2 a b z]
    rw [hnx] at q1
    obtain ⟨w3, r1, r2⟩ := hcC nx hnxl w2 (hfr w2 g2).1 (hfr w2 g2).2
    refine ⟨w3, ?_, fun a b z => by rw [r2 a b z, g2 a b z]⟩
    have hN : f_X0_nextToBurn pl w = some (nI nx, w2) := by
      unfold f_X0_nextToBurn
      rw [show f_X0_mostLeft 1 pl w = some (nI (M 1), w1) from p1, obs]
      exact q1
    unfold f_X10_test
    rw [e1, if_pos hne, k1]
    simp only [tell_c, obs, hN, r1, show f_X10_find 4 w = some (-3, am_fnd w 4) from find_eq (f := 4) (by omega) w]
  obtain ⟨w3, hE, g3⟩ := hE
  have gu : ∀ a b, a ≠ 24 → a ≠ 25 → ¬ (a = 21 ∧ b = 5) → w3 a b = u a b := fun a b z1 z2 z3 => by rw [g3 a b z2, k3 a b z1 z3]
  cases hlc : l with
  | nil =>
    have hM0 : M nx = 0 := by rw [hMM, hlc]; rfl
    obtain ⟨y, m1, m2⟩ := hMt (am_fnd w 4) (fun a b z1 => by rw [fnd_n (by omega)]; exact k3 a b (by omega) (by omega))
    have hT := inv_find hp hI 4
    have eo : ∀ a b, a ≠ 24 → ¬ (a = 21 ∧ b = 5) → a ≠ 88 → am_mts y 4 a b = am_mts (am_fnd u 4) 4 a b := fun a b z1 z2 z3 => by
      unfold am_mts
      simp only [am_w_ap, m2 a b z3, m2 61 4 (by omega)]
      unfold am_fnd
      simp only [am_w_ap, k3 a b z1 z2, k3 29 4 (by omega) (by omega), k3 61 4 (by omega) (by omega)]
    refine ⟨-3, am_fnd w 4, am_mts y 4, ?_, ?_, fr_free hp hT.1 (fun a b z1 z2 z3 z4 => eo a b z1 z3 z4), fun a ha => ?_⟩
    · rw [hE, hlc, if_neg (fun q => q rfl)]
    · rw [m1, hM0, if_neg (fun q => q rfl)]
    · rw [← hT.2 a ha]; exact funext fun b => eo a b (by omega) (by omega) (by omega)
  | cons x l' =>
    have hlen0 : ¬ nI l.length = 0 := nI_ne0 (by rw [hlc, List.length_cons]; omega) (by omega)
    have hM1 : 1 ≤ M nx := by
      rw [hMM, hlc, m_ml]
      exact Nat.le_trans (by split <;> omega) (ml_ge (t nx) l' _ _)
    have hm64 := hM64 nx
    obtain ⟨y, m1, m2⟩ := hMt (am_w w3 4 13 (nI (M nx))) (fun a b z1 => by rw [am_w_n (by omega)]; exact gu a b (by omega) (by omega) (by omega))
    have hT := inv_tell hp hI (nI (M nx))
    have eo : ∀ a b, a ≠ 24 → a ≠ 25 → ¬ (a = 21 ∧ b = 5) → a ≠ 88 → am_w y 60 2 (nI (M nx)) a b = am_w (am_w u 4 13 (nI (M nx))) 60 2 (nI (M nx)) a b := fun a b z1 z2 z3 z4 => by
      simp only [am_w_ap, m2 a b z4, gu a b z1 z2 z3]
    refine ⟨nI nx, am_w w3 4 13 (nI (M nx)), am_w y 60 2 (nI (M nx)), ?_, ?_, fr_free hp hT.1 (fun a b z1 z2 z3 z4 => eo a b z1 z2 z3 z4), fun a ha => ?_⟩
    · rw [hE, if_pos hlen0]
    · rw [m1, if_pos (nI_ne0 (by omega) (by omega))]
    · rw [← hT.2 a ha]; exact funext fun b => eo a b (by omega) (by omega) (by omega) (by omega)
theorem ok_test {l : Launch} {g : am_G} : am_ok l g d_X10_test d_X11_test [] am_isI := ok_II (fun B pl hL u => s_X10_test hL u) (fun B pl hL u => s_X11_test hL u) two_test
