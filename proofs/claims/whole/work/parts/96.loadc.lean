/-! loads: the class's side -/
def iI (z : Int) : Int32 := Int32.ofInt z
theorem iI_t {a : Int} (h1 : -2147483648 ≤ a) (h2 : a < 2147483648) : (iI a).toInt = a := Int32.toInt_ofInt_of_le h1 h2
theorem iI_lt {a b : Int} (h1 : -2147483648 ≤ a) (h2 : a < 2147483648) (h3 : -2147483648 ≤ b) (h4 : b < 2147483648) : iI a < iI b ↔ a < b := by
  rw [Int32.lt_iff_toInt_lt, iI_t h1 h2, iI_t h3 h4]
theorem iI_le {a b : Int} (h1 : -2147483648 ≤ a) (h2 : a < 2147483648) (h3 : -2147483648 ≤ b) (h4 : b < 2147483648) : iI a ≤ iI b ↔ a ≤ b := by
  rw [Int32.le_iff_toInt_le, iI_t h1 h2, iI_t h3 h4]
theorem iI_add (a b : Int) : iI a + iI b = iI (a + b) := (Int32.ofInt_add a b).symm
theorem iI_sub (a b : Int) : iI a - iI b = iI (a - b) := (Int32.ofInt_sub a b).symm
theorem iI_mul (a b : Int) : iI a * iI b = iI (a * b) := (Int32.ofInt_mul a b).symm
theorem iI_n (k : Nat) : nI k = iI k := Int32.ofInt_eq_ofNat.symm
theorem nI_xor (a b : Nat) : nI a ^^^ nI b = nI (a ^^^ b) := by
  apply Int32.toBitVec_inj.1
  show BitVec.ofNat 32 a ^^^ BitVec.ofNat 32 b = BitVec.ofNat 32 (a ^^^ b)
  apply BitVec.eq_of_getLsbD_eq
  intro i hi
  simp [hi]
theorem iI_9 : (1000000000 : Int32) = iI 1000000000 := by decide
theorem min_i {a b : Int} (h1 : -2147483648 ≤ a) (h2 : a < 2147483648) (h3 : -2147483648 ≤ b) (h4 : b < 2147483648) : ∃ r, f_J9_min_7cf53 (iI a) (iI b) = some (iI r) ∧ r ≤ a ∧ r ≤ b ∧ (r = a ∨ r = b) := by
  unfold f_J9_min_7cf53
  by_cases c : b < a
  · exact ⟨b, if_pos ((iI_lt h3 h4 h1 h2).mpr c), by omega, by omega, Or.inr rfl⟩
  · exact ⟨a, if_neg (fun z => c ((iI_lt h3 h4 h1 h2).mp z)), by omega, by omega, Or.inl rfl⟩
theorem av10_lp {n s : Nat} {c L : Nat → Int} (hn : n ≤ 6) (hs : s < 2 ^ n) (hs0 : 0 < s) (hc : ∀ t, t < 2 ^ n → -20000000 ≤ c t ∧ c t ≤ 1000000000) (hL : ∀ t, t < 2 ^ n → -1000000 ≤ L t ∧ L t ≤ 1000000000) (K : am_U → Option am_U) : ∀ (f p : Nat) (u : am_U) (r0 : Int), p < f → p ≤ s → p &&& s = p → u 27 s = iI r0 → (∀ t, t < s → u 27 t = iI (c t)) → (∀ t, t < 2 ^ n → u 28 t = iI (L t)) → -30000000 ≤ r0 → r0 ≤ 1000000000 → ∃ r w, f_X3_addValley_10 (nI s) K f (nI p) u = K w ∧ w 27 s = iI r ∧ (∀ a b, ¬ (a = 27 ∧ b = s) → w a b = u a b) ∧ r ≤ r0 ∧ (∀ x, 0 < x → x ≤ p → x &&& s = x → L x < 1000000000 → r ≤ c (s ^^^ x) + L x) ∧ (r = r0 ∨ ∃ x, 0 < x ∧ x ≤ p ∧ x &&& s = x ∧ L x < 1000000000 ∧ r = c (s ^^^ x) + L x) := by
  have hpw := pow_le hn
  intro f
  induction f with
  | zero => intro p u r0 h; omega
  | succ f ih =>
    intro p u r0 hf hps hpa h27 hold h28 hr1 hr2
    rw [f_X3_addValley_10]
    rcases Nat.eq_zero_or_pos p with q | q
    · subst q
      rw [if_pos (show nI 0 ≤ (0 : Int32) by decide)]
      exact ⟨r0, u, rfl, h27, fun _ _ _ => rfl, by omega, fun x x0 x1 => by omega, Or.inl rfl⟩
    · obtain ⟨m1, m2, m3⟩ := bt_m s (by omega) p (by omega) hpa q
      obtain ⟨-, b2, -⟩ := bt_x s (by omega) p (by omega) hpa
      have b4 := b2 q
      obtain ⟨l1, l2⟩ := hL p (by omega)
      obtain ⟨k1, k2⟩ := hc (s ^^^ p) (by omega)
      have hnx : (nI p - 1) &&& nI s = nI ((p - 1) &&& s) := by
        obtain ⟨t, rfl⟩ : ∃ t, p = t + 1 := ⟨p - 1, by omega⟩
        rw [nI_pred, nI_and]; rfl
      rw [if_neg (nI_nle q (by omega)), am_ck_t (am_ix_nI (show p < 64 by omega) (by omega)), jn_eq, hnx, nI_clamp (show p < 2 ^ 31 by omega)]
      dsimp only
      by_cases cL : 1000000000 ≤ L p
      · rw [if_pos (show (1000000000 : Int32) ≤ u 28 p by rw [h28 p (by omega), iI_9]; exact (iI_le (by omega) (by omega) (by omega) (by omega)).mpr cL)]
        obtain ⟨r, w, w1, w2, w3, w4, w5, w6⟩ := ih ((p - 1) &&& s) u r0 (by omega) (by omega) m2 h27 hold h28 hr1 hr2
        refine ⟨r, w, w1, w2, w3, w4, fun x x0 x1 x2 x3 => ?_, ?_⟩
        · rcases Nat.lt_or_ge x p with y | y
          · exact w5 x x0 (m3 x y x2) x2 x3
          · rw [show x = p by omega] at x3; omega
        · rcases w6 with z | ⟨x, x0, x1, x2⟩
          · exact Or.inl z
          · exact Or.inr ⟨x, x0, by omega, x2⟩
      · rw [if_neg (show ¬ (1000000000 : Int32) ≤ u 28 p by rw [h28 p (by omega), iI_9]; exact fun z => cL ((iI_le (by omega) (by omega) (by omega) (by omega)).mp z)), nI_xor, am_ck_t (am_ix_nI (show s < 64 by omega) (by omega)), am_ck_t (am_ix_nI (show s ^^^ p < 64 by omega) (by omega)), nI_clamp (show s < 2 ^ 31 by omega), nI_clamp (show s ^^^ p < 2 ^ 31 by omega), h27, hold _ b4, h28 p (by omega), iI_add]
        obtain ⟨r1, y1, y2, y3, y4⟩ := min_i (a := r0) (b := c (s ^^^ p) + L p) (by omega) (by omega) (by omega) (by omega)
        rw [y1, obs]
        obtain ⟨r, w, w1, w2, w3, w4, w5, w6⟩ := ih ((p - 1) &&& s) (am_w u 27 s (iI r1)) r1 (by omega) (by omega) m2 (am_w_s _ _ _ _) (fun t ht => by rw [am_w_n (by omega)]; exact hold t ht) (fun t ht => by rw [am_w_n (by omega)]; exact h28 t ht) (by omega) (by omega)
        refine ⟨r, w, w1, w2, fun a b z => by rw [w3 a b z, am_w_n z], by omega, fun x x0 x1 x2 x3 => ?_, ?_⟩
        · rcases Nat.lt_or_ge x p with y | y
          · exact w5 x x0 (m3 x y x2) x2 x3
          · rw [show x = p by omega]; omega
        · rcases w6 with z | ⟨x, x0, x1, x2⟩
          · rcases y4 with y | y
            · exact Or.inl (by omega)
            · exact Or.inr ⟨p, q, Nat.le_refl p, hpa, by omega, by omega⟩
          · exact Or.inr ⟨x, x0, by omega, x2⟩
theorem av4_lp {n : Nat} {c L : Nat → Int} (hn : n ≤ 6) (hc : ∀ t, t < 2 ^ n → -20000000 ≤ c t ∧ c t ≤ 1000000000) (hL : ∀ t, t < 2 ^ n → -1000000 ≤ L t ∧ L t ≤ 1000000000) : ∀ (s f : Nat) (u : am_U), s < 2 ^ n → s < f → (∀ t, t ≤ s → u 27 t = iI (c t)) → (∀ t, t < 2 ^ n → u 28 t = iI (L t)) → ∃ (w : am_U) (c' : Nat → Int), f_X3_addValley_4 f (nI s) u = some w ∧ c' 0 = c 0 ∧ (∀ t, t ≤ s → w 27 t = iI (c' t)) ∧ (∀ t, 0 < t → t ≤ s → l_R c L t (c' t)) ∧ ∀ a b, ¬ (a = 27 ∧ b ≤ s) → w a b = u a b := by
  have hpw := pow_le hn
  intro s
  induction s with
  | zero =>
    intro f u hs hf h27 h28
    obtain ⟨f, rfl⟩ : ∃ x, f = x + 1 := ⟨f - 1, by omega⟩
    rw [f_X3_addValley_4, if_pos (show nI 0 ≤ (0 : Int32) by decide)]
    exact ⟨u, c, rfl, rfl, h27, fun t t0 t1 => by omega, fun _ _ _ => rfl⟩
  | succ s ih =>
    intro f u hs hf h27 h28
    obtain ⟨f, rfl⟩ : ∃ x, f = x + 1 := ⟨f - 1, by omega⟩
    obtain ⟨k1, k2⟩ := hc (s + 1) hs
    rw [f_X3_addValley_4, if_neg (nI_nle (show 0 < s + 1 by omega) (by omega)), ← Int32.sub_eq_add_neg, nI_pred]
    obtain ⟨r, w, w1, w2, w3, w4, w5, w6⟩ := av10_lp hn hs (by omega) hc hL (fun c7u => f_X3_addValley_4 f (nI s) c7u) 20000 (s + 1) u (c (s + 1)) (by omega) (by omega) (Nat.and_self _) (h27 _ (by omega)) (fun t ht => h27 t (by omega)) h28 (by omega) (by omega)
    obtain ⟨y, c', y1, y2, y3, y4, y5⟩ := ih f w (by omega) (by omega) (fun t ht => by rw [w3 _ _ (by omega)]; exact h27 t (by omega)) (fun t ht => by rw [w3 _ _ (by omega)]; exact h28 t ht)
    refine ⟨y, fun t => if t = s + 1 then r else c' t, w1.trans y1, (if_neg (by omega)).trans y2, fun t ht => ?_, fun t t0 ht => ?_, fun a b z => by rw [y5 a b (by omega), w3 a b (by omega)]⟩
    · show y 27 t = iI (if t = s + 1 then r else c' t)
      by_cases e : t = s + 1
      · rw [if_pos e, e, y5 _ _ (by omega), w2]
      · rw [if_neg e]; exact y3 t (by omega)
    · show l_R c L t (if t = s + 1 then r else c' t)
      by_cases e : t = s + 1
      · rw [if_pos e, e]; exact ⟨w4, w5, w6⟩
      · rw [if_neg e]; exact y4 t t0 (by omega)
theorem bt_i : ∀ s, s < 64 → ∀ k, k < 6 → ((nI s >>> (nI k &&& 31)) &&& 1 = 1 ↔ s / 2 ^ k % 2 = 1) := by decide +kernel
theorem hs_tl {H : Nat → Nat → Int32} {v s : Nat} (hs : s < 64) (hv : v ≠ 0) : ∀ (m k : Nat), k + m ≤ 6 → m_hs (fun j => H j v) (nI s) m k (l_tl H (l_im v s) v k) = l_tl H (l_im v s) v (k + m) := by
  intro m
  induction m with
  | zero => intro k _; rfl
  | succ m ih =>
    intro k hk
    rw [show k + (m + 1) = k + 1 + m by omega, ← ih (k + 1) (by omega)]
    by_cases c : l_bt s k
    · rw [hs_y (show m_bt (nI s) (nI k) from (bt_i s hs k (by omega)).mpr c), l_tl, if_pos (show l_im v s k = v from if_pos c)]
    · rw [hs_n (show ¬ m_bt (nI s) (nI k) from fun z => c ((bt_i s hs k (by omega)).mp z)), l_tl, if_neg (show ¬ l_im v s k = v from fun z => hv (z.symm.trans (if_neg c))), Int32.add_zero]
theorem fg_lp {pl n v s : Nat} {u : am_U} (hn : n ≤ 6) (hs : s < 64) (hv : v < 5) (e1 : u pl 2 = nI n) : ∀ (f k : Nat), k ≤ n → n < k + f → f_X3_figuresOf_5 u pl (nI s) (nI v) f (nI (l_cd (l_im v s) k)) (nI k) = some (nI (l_cd (l_im v s) n)) := by
  intro f
  induction f with
  | zero => intro k h1 h2; omega
  | succ f ih =>
    intro k h1 h2
    rw [f_X3_figuresOf_5, e1]
    rcases Nat.lt_or_ge k n with q | q
    · have h3 := ih (k + 1) (by omega) (by omega)
      rw [l_cd] at h3
      rw [if_neg (nI_ge q (by omega)), nI_1, show (5 : Int32) * nI (l_cd (l_im v s) k) = nI (5 * l_cd (l_im v s) k) from nI_mul 5 _]
      by_cases c : l_bt s k
      · rw [show l_im v s k = v from if_pos c] at h3
        rw [if_neg (show ¬ ¬ (nI s >>> (nI k &&& 31)) &&& 1 = 1 from fun z => z ((bt_i s hs k (by omega)).mpr c)), nI_add]
        exact h3
      · rw [show l_im v s k = 0 from if_neg c] at h3
        rw [if_pos (show ¬ (nI s >>> (nI k &&& 31)) &&& 1 = 1 from fun z => c ((bt_i s hs k (by omega)).mp z)), Int32.add_zero]
        exact h3
    · rw [if_pos (nI_le (show n ≤ k by omega) (by omega)), show k = n by omega]
theorem ld_bc {n v s : Nat} (hn : n ≤ 6) (hs : s < 2 ^ n) (hv : v ≠ 0) : l_ld (l_im v s) n = m_bc s := by
  have h1 : ∀ k, (if l_im v s k = 0 then 0 else 1) = s / 2 ^ k % 2 := fun k => by
    unfold l_im
    by_cases c : l_bt s k
    · rw [if_pos c, if_neg hv]; exact c.symm
    · rw [if_neg c, if_pos rfl]
      unfold l_bt at c
      generalize s / 2 ^ k = a at c ⊢
      omega
  have h2 : ∀ m, l_ld (l_im v s) (n + m) = l_ld (l_im v s) n := fun m => by
    induction m with
    | zero => rfl
    | succ m ih =>
      rw [show n + (m + 1) = n + m + 1 by omega, l_ld, ih, if_pos (show l_im v s (n + m) = 0 from if_neg (bt_n hs (by omega))), Nat.add_zero]
  rw [← h2 (6 - n), show n + (6 - n) = 5 + 1 by omega]
  show (((((0 + _) + _) + _) + _) + _) + _ = _
  simp only [h1]
  unfold m_bc
  omega
theorem pl3_lp {pl n v : Nat} {H : Nat → Nat → Int32} {N : Nat → Int32} (hp : pl = 30 ∨ pl = 35) (hn : n ≤ 6) (hv0 : 0 < v) (hv : v < 5) : ∀ (f s : Nat) (u : am_U), i_plan pl u → u pl 2 = nI n → u 60 12 = nI n → (∀ j p, H j p = m_hb (u 69) (u 70) j p) → N = u 68 → s ≤ 2 ^ n → 2 ^ n < s + f → ∃ w, f_X3_priceLighting_3 pl (nI v) (nI (2 ^ n)) f (nI s) u = some w ∧ (∀ t, s ≤ t → t < 2 ^ n → w 28 t = iI (l_L n v H N t)) ∧ ∀ a b, ¬ (a = 28 ∧ s ≤ b) → w a b = u a b := by
  have hpw := pow_le hn
  intro f
  induction f with
  | zero => intro s u _ _ _ _ _ h1 h2; omega
  | succ f ih =>
    intro s u hP e1 e2 hH hN h1 h2
    rw [f_X3_priceLighting_3]
    rcases Nat.lt_or_ge s (2 ^ n) with q | q
    · have hset : f_X5_hoursOfSet pl (nI s) (nI v) u = some (l_tl H (l_im v s) v n) := by
        refine (chs_lp hP e1 e2 hn hv (nI s) 20000 0 0 (by omega) (by omega)).trans ?_
        have := hs_tl (H := H) (v := v) (s := s) (by omega) (by omega) n 0 (by omega)
        rw [Nat.zero_add] at this
        rw [Nat.sub_zero, ← this]
        exact congrArg some (congrFun (congrArg (fun F => m_hs F (nI s) n 0) (funext fun j => (hH j v).symm)) 0)
      have hfig : f_X3_figuresOf pl (nI s) (nI v) u = some (nI (l_cd (l_im v s) n)) := fg_lp hn (by omega) hv e1 20000 0 (by omega) (by omega)
      have hcd := cd_lt (D := l_im v s) n (fun k _ => by unfold l_im; split <;> omega)
      have h5 := pow5 hn
      have next : ∀ x, x = iI (l_L n v H N s) → ∃ w, f_X3_priceLighting_3 pl (nI v) (nI (2 ^ n)) f (nI (s + 1)) (am_w u 28 s x) = some w ∧ (∀ t, s ≤ t → t < 2 ^ n → w 28 t = iI (l_L n v H N t)) ∧ ∀ a b, ¬ (a = 28 ∧ s ≤ b) → w a b = u a b := fun x hx => by
        obtain ⟨w, w1, w2, w3⟩ := ih (s + 1) (am_w u 28 s x) (fr_plan hp hP (fun a b z => by unfold c_plan at z; exact am_w_n (by omega))) (by rw [am_w_n (by omega)]; exact e1) (by rw [am_w_n (by omega)]; exact e2) (fun j p => by rw [am_w_c (by omega), am_w_c (by omega)]; exact hH j p) (by rw [am_w_c (by omega)]; exact hN) (by omega) (by omega)
        refine ⟨w, w1, fun t t1 t2 => ?_, fun a b z => by rw [w3 a b (by omega), am_w_n (by omega)]⟩
        rcases Nat.lt_or_ge s t with y | y
        · exact w2 t (by omega) t2
        · rw [show t = s by omega, w3 _ _ (by omega), am_w_s, hx]
      rw [if_neg (nI_ge q (by omega)), hset, obs, am_ck_t (am_ix_nI (show v < 5 by omega) (by omega)), nI_clamp (show v < 2 ^ 31 by omega), (hP.2.2.2.2.2.1 v hv).1, jn_eq, nI_1, cbc_eq s (by omega), am_ck_t (am_ix_nI (show s < 64 by omega) (by omega)), nI_clamp (show s < 2 ^ 31 by omega), hfig, ← hN]
      dsimp only
      simp only [obs, i10, i11, iT, iN]
      by_cases z : l_tl H (l_im v s) v n < N v
      · rw [if_pos z]
        exact next _ (by unfold l_L; rw [if_pos z]; exact iI_9)
      · rw [if_neg z, am_ck_t (am_ix_nI (show s < 64 by omega) (by omega))]
        refine next _ ?_
        unfold l_L
        rw [if_neg z, ld_bc hn q (by omega), iI_n, iI_n, show (15625 : Int32) = iI 15625 by decide, show (1000000 : Int32) = iI 1000000 by decide, iI_mul, iI_add, iI_sub]
        exact congrArg iI (by omega)
    · rw [if_pos (nI_le (show 2 ^ n ≤ s by omega) (by omega))]
      exact ⟨u, rfl, fun t t1 t2 => by omega, fun _ _ _ => rfl⟩
theorem DP_b {n v : Nat} {H : Nat → Nat → Int32} {N : Nat → Int32} {c : Nat → Int} (hv : v ≤ 5) (h : l_DP n v H N c) : ∀ t, t < 2 ^ n → -20000000 ≤ c t ∧ c t ≤ 1000000000 := fun t ht => by
  obtain ⟨h1, h2, -⟩ := h t ht
  refine ⟨?_, h1⟩
  rcases h2 with z | ⟨D, -, -, -, d4⟩
  · omega
  · have := ls_le N (fun p => l_tl H D p n)
    rw [d4]
    unfold l_P
    omega
theorem L_b {n v : Nat} {H : Nat → Nat → Int32} {N : Nat → Int32} (hn : n ≤ 6) (hv : v < 5) : ∀ t, t < 2 ^ n → -1000000 ≤ l_L n v H N t ∧ l_L n v H N t ≤ 1000000000 := fun t ht => by
  have h1 := cd_lt (D := l_im v t) n (fun k _ => by unfold l_im; split <;> omega)
  have h2 := pow5 hn
  have h3 := ld_le (l_im v t) n
  unfold l_L
  split <;> omega
theorem ch25_lp {pl n : Nat} {H : Nat → Nat → Int32} {N : Nat → Int32} (hp : pl = 30 ∨ pl = 35) (hn : n ≤ 6) (K : am_U → Option am_U) : ∀ (m v f : Nat) (u : am_U) (c : Nat → Int), v + m = 5 → 0 < v → m < f → i_plan pl u → u pl 2 = nI n → u 60 12 = nI n → (∀ j p, H j p = m_hb (u 69) (u 70) j p) → N = u 68 → (∀ t, t < 2 ^ n → u 27 t = iI (c t)) → l_DP n v H N c → ∃ (w : am_U) (c' : Nat → Int), f_X3_choose_25 pl (nI (2 ^ n)) K f (nI v) u = K w ∧ (∀ t, t < 2 ^ n → w 27 t = iI (c' t)) ∧ l_DP n 5 H N c' ∧ ∀ a b, a ≠ 27 → a ≠ 28 → w a b = u a b := by
  have hpw := pow_le hn
  have hp1 : 0 < 2 ^ n := Nat.pow_pos (by omega)
  intro m
  induction m with
  | zero =>
    intro v f u c hv hv0 hf hP e1 e2 hH hN h27 hD
    obtain ⟨f, rfl⟩ : ∃ x, f = x + 1 := ⟨f - 1, by omega⟩
    rw [f_X3_choose_25, if_pos (show (5 : Int32) ≤ nI v from nI_le (a := 5) (by omega) (by omega))]
    rw [show v = 5 by omega] at hD
    exact ⟨u, c, rfl, h27, hD, fun _ _ _ _ => rfl⟩
  | succ m ih =>
    intro v f u c hv hv0 hf hP e1 e2 hH hN h27 hD
    obtain ⟨f, rfl⟩ : ∃ x, f = x + 1 := ⟨f - 1, by omega⟩
    rw [f_X3_choose_25, if_neg (show ¬ (5 : Int32) ≤ nI v from nI_ge (b := 5) (by omega) (by omega)), am_ck_t (am_ix_nI (show v < 5 by omega) (by omega)), nI_clamp (show v < 2 ^ 31 by omega), (hP.2.2.2.2.2.1 v (by omega)).1, nI_1, ← hN]
    by_cases z : N v ≤ 0
    · rw [if_pos z]
      exact ih (v + 1) f u c (by omega) (by omega) (by omega) hP e1 e2 hH hN h27 (DP_s hD z hv0)
    · rw [if_neg z]
      obtain ⟨w, w1, w2, w3⟩ := pl3_lp (H := H) (N := N) hp hn hv0 (show v < 5 by omega) 20000 0 u hP e1 e2 hH hN (by omega) (by omega)
      rw [show f_X3_priceLighting pl (nI v) (nI (2 ^ n)) u = some w from w1, obs]
      obtain ⟨y, c', y1, y2, y3, y4, y5⟩ := av4_lp (L := l_L n v H N) hn (DP_b (by omega) hD) (L_b hn (by omega)) (2 ^ n - 1) 20000 w (by omega) (by omega) (fun t ht => by rw [w3 _ _ (by omega)]; exact h27 t (by omega)) (fun t ht => w2 t (by omega) ht)
      have hav : f_X3_addValley (nI (2 ^ n)) w = some y := by
        unfold f_X3_addValley
        rw [show nI (2 ^ n) - 1 = nI (2 ^ n - 1) from nI_sub (b := 1) (by omega)]
        exact y1
      rw [hav, obs]
      have fr : ∀ a b, a ≠ 27 → a ≠ 28 → y a b = u a b := fun a b z1 z2 => by rw [y5 a b (by omega), w3 a b (by omega)]
      obtain ⟨x, c2, x1, x2, x3, x4⟩ := ih (v + 1) f y c' (by omega) (by omega) (by omega) (fr_plan hp hP (fun a b q => by unfold c_plan at q; exact fr a b (by omega) (by omega))) (by rw [fr _ _ (by omega) (by omega)]; exact e1) (by rw [fr _ _ (by omega) (by omega)]; exact e2) (fun j p => by rw [show y 69 = u 69 from funext fun b => fr 69 b (by omega) (by omega), show y 70 = u 70 from funext fun b => fr 70 b (by omega) (by omega)]; exact hH j p) (hN.trans (funext fun b => (fr 68 b (by omega) (by omega)).symm)) (fun t ht => y3 t (by omega)) (DP_v hn hv0 (by omega) hD z y2 (fun s s0 s1 => y4 s s0 (by omega)))
      exact ⟨x, c2, x1, x2, x3, fun a b z1 z2 => by rw [x4 a b z1 z2, fr a b z1 z2]⟩
theorem ch64_lp {n : Nat} {c : Nat → Int} (hn : n ≤ 6) (hc : ∀ t, t < 2 ^ n → -20000000 ≤ c t ∧ c t ≤ 1000000000) : ∀ (f s : Nat) (u : am_U) (z : Int), u 26 2 = iI z → -20000000 ≤ z → z ≤ 0 → (∀ t, t < 2 ^ n → u 27 t = iI (c t)) → s ≤ 2 ^ n → 2 ^ n < s + f → ∃ (w : am_U) (r : Int), f_X3_choose_64 (nI (2 ^ n)) f (nI s) u = some w ∧ w 26 2 = iI r ∧ r ≤ z ∧ (∀ t, s ≤ t → t < 2 ^ n → r ≤ c t) ∧ (r = z ∨ ∃ t, t < 2 ^ n ∧ r = c t) ∧ ∀ a b, ¬ (a = 26 ∧ b = 2) → w a b = u a b := by
  have hpw := pow_le hn
  intro f
  induction f with
  | zero => intro s u z _ _ _ _ h1 h2; omega
  | succ f ih =>
    intro s u z h26 hz1 hz2 h27 h1 h2
    rw [f_X3_choose_64]
    rcases Nat.lt_or_ge s (2 ^ n) with q | q
    · obtain ⟨k1, k2⟩ := hc s q
      obtain ⟨r1, y1, y2, y3, y4⟩ := min_i (a := z) (b := c s) (by omega) (by omega) (by omega) (by omega)
      rw [if_neg (nI_ge q (by omega)), am_ck_t (am_ix_nI (show s < 64 by omega) (by omega)), nI_clamp (show s < 2 ^ 31 by omega), h26, h27 s q, y1, obs, nI_1]
      obtain ⟨w, r, w1, w2, w3, w4, w5, w6⟩ := ih (s + 1) (am_w u 26 2 (iI r1)) r1 (am_w_s _ _ _ _) (by omega) (by omega) (fun t ht => by rw [am_w_n (by omega)]; exact h27 t ht) (by omega) (by omega)
      refine ⟨w, r, w1, w2, by omega, fun t t1 t2 => ?_, ?_, fun a b y => by rw [w6 a b y, am_w_n y]⟩
      · rcases Nat.lt_or_ge s t with y | y
        · exact w4 t (by omega) t2
        · rw [show t = s by omega]; omega
      · rcases w5 with y | y
        · rcases y4 with x | x
          · exact Or.inl (by omega)
          · exact Or.inr ⟨s, q, by omega⟩
        · exact Or.inr y
    · rw [if_pos (nI_le (show 2 ^ n ≤ s by omega) (by omega))]
      exact ⟨u, z, rfl, h26, by omega, fun t t1 t2 => by omega, Or.inl rfl, fun _ _ _ => rfl⟩
/-- the price that the class comes to is that of the reference's way -/
theorem cho_eq {pl n : Nat} {H : Nat → Nat → Int32} {N : Nat → Int32} {E : Nat → Nat} {u : am_U} (hp : pl = 30 ∨ pl = 35) (hn : n ≤ 6) (hP : i_plan pl u) (e1 : u pl 2 = nI n) (e2 : u 60 12 = nI n) (hH : ∀ j p, H j p = m_hb (u 69) (u 70) j p) (hN : N = u 68) (hE : ∀ j, E j ≤ 4) (hm : ∀ D : Nat → Nat, (∀ j, D j ≤ 4) → l_P n H N E ≤ l_P n H N D) : ∃ w, f_X3_choose pl u = some w ∧ w 26 2 = iI (l_P n H N E) ∧ l_P n H N E ≤ 0 ∧ ∀ a b, ¬ (a = 26 ∧ b = 2) → a ≠ 27 → a ≠ 28 → w a b = u a b := by
  have hpw := pow_le hn
  have fr0 : ∀ a b, a ≠ 27 → am_w (am_fl u 27 0 64 1000000000) 27 0 0 a b = u a b := fun a b z => by rw [am_w_n (by omega), am_fl_n (by omega)]
  obtain ⟨w, c, w1, w2, w3, w4⟩ := ch25_lp (H := H) (N := N) hp hn (fun (c6u : am_U) => f_X3_choose_64 (nI (2 ^ n)) 20000 0 (am_w c6u 26 2 0)) 4 1 20000 (am_w (am_fl u 27 0 64 1000000000) 27 0 0) (fun s => if s = 0 then 0 else 1000000000) rfl (by omega) (by omega) (fr_plan hp hP (fun a b q => by unfold c_plan at q; exact fr0 a b (by omega))) (by rw [fr0 _ _ (by omega)]; exact e1) (by rw [fr0 _ _ (by omega)]; exact e2) (fun j p => by rw [am_w_c (by omega), am_w_c (by omega), am_fl_c (by omega), am_fl_c (by omega)]; exact hH j p) (by rw [am_w_c (by omega), am_fl_c (by omega)]; exact hN) (fun t ht => by
    show _ = iI (if t = 0 then 0 else 1000000000)
    by_cases q : t = 0
    · rw [if_pos q, q, am_w_s]; rfl
    · rw [if_neg q, am_w_n (by omega), am_fl_s (by omega), iI_9]) (DP_0 hn)
  obtain ⟨y, r, y1, y2, y3, y4, y5, y6⟩ := ch64_lp hn (DP_b (by omega) w3) 20000 0 (am_w w 26 2 0) 0 (by rw [am_w_s]; rfl) (by omega) (by omega) (fun t ht => by rw [am_w_n (by omega)]; exact w2 t ht) (Nat.zero_le _) (by omega)
  have hz : ∀ D : Nat → Nat, (∀ k, k < n → D k ≤ 4) → l_P n H N E ≤ l_P n H N D := fun D hD => by
    have := hm (fun k => if k < n then D k else 0) (fun j => by
      show (if j < n then D j else 0) ≤ 4
      split
      · exact hD j (by assumption)
      · omega)
    rwa [P_c (E := D) (fun k hk => if_pos hk)] at this
  have h0 : l_P n H N E ≤ 0 := by
    obtain ⟨-, g2, -⟩ := DP_0 (H := H) (N := N) hn 0 (Nat.pow_pos (by omega))
    rcases g2 with z | ⟨D, d1, -, -, d4⟩
    · have z : (1000000000 : Int) - 1000000 * (1 : Nat) ≤ 0 := z
      omega
    · have d4 : 0 = l_P n H N D := d4
      rw [d4]
      exact hz D (fun k hk => by have := d1 k hk; omega)
  have hgd := opt_gd hE hm
  obtain ⟨s, s1, s2⟩ := bt_ex hn (fun k => if E k = 0 then 0 else 1) (fun k => by split <;> omega)
  have le1 : r ≤ l_P n H N E := Int.le_trans (y4 s (by omega) s1) ((w3 s s1).2.2 E (fun k _ => by have := hE k; omega) hgd (fun k hk => by
    rw [s2 k hk]
    by_cases q : E k = 0
    · rw [if_pos q]; exact ⟨fun z => absurd q z, fun z => absurd z (by omega)⟩
    · rw [if_neg q]; exact ⟨fun _ => rfl, fun _ => q⟩))
  have le2 : l_P n H N E ≤ r := by
    rcases y5 with z | ⟨t, t1, t2⟩
    · omega
    · rcases (w3 t t1).2.1 with z | ⟨D, d1, -, -, d4⟩
      · omega
      · rw [t2, d4]
        exact hz D (fun k hk => by have := d1 k hk; omega)
  refine ⟨y, ?_, by rw [y2]; exact congrArg iI (by omega), h0, fun a b z1 z2 z3 => by rw [y6 a b z1, am_w_n z1, w4 a b z2 z3, fr0 a b z2]⟩
  unfold f_X3_choose
  rw [fill_eq _ _ _ _ (by omega), obs, e1, shl_n n (by omega)]
  exact w1.trans y1
theorem xor_neg {a b : Int32} (ha : a.toInt < 0) (hb : 0 ≤ b.toInt) : ¬ (0 : Int32) ≤ a ^^^ b := by
  rw [Int32.le_iff_toInt_le]
  have h1 : (a ^^^ b).toBitVec.msb = true := by
    show (a.toBitVec ^^^ b.toBitVec).msb = true
    rw [BitVec.msb_xor, BitVec.msb_eq_toInt, BitVec.msb_eq_toInt]
    have h2 : a.toBitVec.toInt < 0 := ha
    have h3 : ¬ b.toBitVec.toInt < 0 := fun z => by
      have : 0 ≤ b.toBitVec.toInt := hb
      omega
    rw [decide_eq_true h2, decide_eq_false h3]
    rfl
  rw [BitVec.msb_eq_toInt] at h1
  have h2 : (a ^^^ b).toBitVec.toInt < 0 := of_decide_eq_true h1
  intro z
  have z : (0 : Int) ≤ (a ^^^ b).toBitVec.toInt := z
  omega
theorem iI_div {m : Nat} (h : m < 2147483648) : iI (-(m : Int)) / 1000000 = iI (-((m / 1000000 : Nat) : Int)) := by
  apply Int32.toInt_inj.1
  rw [Int32.toInt_div_of_ne_right _ _ (by decide), iI_t (by omega) (by omega), iI_t (by omega) (by omega), show (1000000 : Int32).toInt = 1000000 by decide, Int.neg_tdiv, Int.natCast_tdiv_eq_ediv]
  omega
/-- the price taken apart -/
theorem apart {r L : Nat} {u : am_U} (hr : r < 1000000) (hL : L ≤ 4) (h0 : (r : Int) - 1000000 * (L : Int) ≤ 0) (e : u 26 2 = iI ((r : Int) - 1000000 * (L : Int))) : f_X3_litValleys u = some (nI L) ∧ f_X3_figures u = some (nI (r % 15625)) := by
  unfold f_X3_litValleys f_X3_figures f_J9_floorDiv_7cf53 f_J9_floorMod_7cf53
  rw [e]
  rcases Nat.eq_zero_or_pos L with q | q
  · have : r = 0 := by omega
    subst this
    subst q
    exact ⟨rfl, rfl⟩
  · obtain ⟨m, hm⟩ : ∃ m, m = 1000000 * L - r := ⟨_, rfl⟩
    have hz : (r : Int) - 1000000 * (L : Int) = -(m : Int) := by omega
    rw [hz, am_ck_t (by decide), am_ck_t (by decide), if_neg (xor_neg (by rw [iI_t (by omega) (by omega)]; omega) (by decide)), if_neg (xor_neg (by rw [iI_t (by omega) (by omega)]; omega) (by decide)), iI_div (by omega), show (1000000 : Int32) = iI 1000000 by decide, iI_mul, iI_sub]
    rcases Nat.eq_zero_or_pos r with y | y
    · have h1 : m / 1000000 = L := by omega
      rw [h1, show -(L : Int) * 1000000 = -(m : Int) by omega, if_pos rfl, if_pos (show iI (-(m : Int) - -(m : Int)) = 0 by rw [Int.sub_self]; rfl), Int.sub_self, y]
      refine ⟨?_, rfl⟩
      show some (-(iI (-(L : Int)))) = _
      rw [iI_n]
      unfold iI
      rw [Int32.neg_ofInt, Int.neg_neg]
    · have h1 : m / 1000000 = L - 1 := by omega
      have h2 : (-((L - 1 : Nat) : Int)) * 1000000 = -(m : Int) - (r : Int) + 1000000 := by omega
      rw [h1, h2, if_neg (fun z => by
        have := congrArg Int32.toInt z
        rw [iI_t (by omega) (by omega), iI_t (by omega) (by omega)] at this
        omega), if_neg (fun z => by
        have := congrArg Int32.toInt z
        rw [iI_t (by omega) (by omega), show (0 : Int32).toInt = 0 from rfl] at this
        omega), iI_add, show -(m : Int) - (-(m : Int) - (r : Int) + 1000000) + 1000000 = (r : Int) by omega, ← iI_n r]
      refine ⟨?_, ?_⟩
      · show some (-(iI (-((L - 1 : Nat) : Int)) - 1)) = _
        rw [show (1 : Int32) = iI 1 by decide, iI_sub, iI_n, show -((L - 1 : Nat) : Int) - 1 = -(L : Int) by omega]
        unfold iI
        rw [Int32.neg_ofInt, Int.neg_neg]
      · show some (nI r - nI r / 15625 * 15625) = _
        rw [show nI r - nI r / 15625 * 15625 = nI (r % 15625) from pk_rem (d := 15625) (by omega) (by omega) (by omega)]
theorem two_loads : am_two (fun pl u => f_X10_loads pl u) (fun _ u => f_X11_loads u) := by
  intro pl hp u hI
  show ∃ v u1 u2, f_X10_loads pl u = _ ∧ f_X11_loads u1 = _ ∧ _
  have hP := hI.2.2.2.1
  obtain ⟨n, hn, e1, e2⟩ := plan_n hP
  rcases Nat.eq_zero_or_pos n with q | q
  · subst q
    refine ⟨-4, u, u, ?_, ?_, hI, fun _ _ => rfl⟩
    · unfold f_X10_loads; rw [e1, if_neg (fun z => z rfl)]
    · unfold f_X11_loads; rw [e2, if_neg (fun z => z rfl)]
  obtain ⟨H, hH⟩ : ∃ H : Nat → Nat → Int32, ∀ j p, H j p = m_hb (u 69) (u 70) j p := ⟨_, fun _ _ => rfl⟩
  obtain ⟨w0, E, -, x2, x3, -⟩ := rlo_eq (N := u 68) hn q e2 hH rfl
  obtain ⟨w, w1, w2, w3, w4⟩ := cho_eq (N := u 68) hp hn hP e1 e2 hH rfl x2 x3
  have b1 := ls_le (u 68) (fun p => l_tl H E p n)
  have b2 := ld_le E n
  have b3 := cd_lt (D := E) n (fun k _ => x2 k)
  have b4 := pow5 hn
  obtain ⟨L, hL⟩ : ∃ L, l_s (u 68) (fun p => l_tl H E p n) 4 1 = L := ⟨_, rfl⟩
  have hPL : l_P n H (u 68) E = ((15625 * l_ld E n + l_cd E n : Nat) : Int) - 1000000 * (L : Int) := by
    unfold l_P
    rw [hL]
    omega
  rw [hPL] at w2 w3
  obtain ⟨g1, g2⟩ := apart (u := w) (r := 15625 * l_ld E n + l_cd E n) (L := L) (by omega) (by omega) w3 w2
  rw [show (15625 * l_ld E n + l_cd E n) % 15625 = l_cd E n by omega] at g2
  have hc : f_X10_loads pl u = some (nI L, am_w w 4 13 (nI (l_cd E n))) := by
    unfold f_X10_loads
    rw [e1, if_pos (nI_ne0 (by omega) (by omega)), w1, obs, g1, obs, g2, obs, tell_c, obs]
  have fr : ∀ a b, ¬ (a = 26 ∧ b = 2) → a ≠ 27 → a ≠ 28 → ¬ (a = 4 ∧ b = 13) → am_w w 4 13 (nI (l_cd E n)) a b = u a b := fun a b z1 z2 z3 z4 => by rw [am_w_n z4, w4 a b z1 z2 z3]
  obtain ⟨y, E2, y1, y2, y3, y4⟩ := rlo_eq (n := n) (H := H) (N := u 68) (u := am_w w 4 13 (nI (l_cd E n))) hn q (by rw [fr _ _ (by omega) (by omega) (by omega) (by omega)]; exact e2) (fun j p => by rw [show am_w w 4 13 (nI (l_cd E n)) 69 = u 69 from funext fun b => fr 69 b (by omega) (by omega) (by omega) (by omega), show am_w w 4 13 (nI (l_cd E n)) 70 = u 70 from funext fun b => fr 70 b (by omega) (by omega) (by omega) (by omega)]; exact hH j p) (funext fun b => (fr 68 b (by omega) (by omega) (by omega) (by omega)).symm)
  have b5 := ls_le (u 68) (fun p => l_tl H E2 p n)
  have b6 := ld_le E2 n
  have b7 := cd_lt (D := E2) n (fun k _ => y2 k)
  have hsame : l_s (u 68) (fun p => l_tl H E2 p n) 4 1 = L ∧ l_cd E2 n = l_cd E n := by
    have z1 := y3 E x2
    have z2 := x3 E2 y2
    unfold l_P at z1 z2
    rw [hL] at z1 z2
    omega
  rw [hsame.1, hsame.2] at y1
  refine ⟨nI L, am_w w 4 13 (nI (l_cd E n)), _, hc, y1, ?_⟩
  obtain ⟨i1, i2⟩ := inv_tell hp hI (nI (l_cd E n))
  have g : ∀ a b, ¬ (a = 26 ∧ b = 2) → a ≠ 27 → a ≠ 28 → a ≠ 79 → ¬ (a = 60 ∧ b = 31) → am_w y 60 2 (nI (l_cd E n)) a b = am_w (am_w u 4 13 (nI (l_cd E n))) 60 2 (nI (l_cd E n)) a b := fun a b z1 z2 z3 z4 z5 => by
    rw [am_w_ap, am_w_ap]
    by_cases c : a = 60 ∧ b = 2
    · rw [if_pos c, if_pos c]
    · rw [if_neg c, if_neg c, y4 a b z4 z5, am_w_ap, am_w_ap]
      by_cases d : a = 4 ∧ b = 13
      · rw [if_pos d, if_pos d]
      · rw [if_neg d, if_neg d, w4 a b z1 z2 z3]
  refine ⟨fr_all hp i1 (fun a b z => ?_), fun a ha => ?_⟩
  · unfold c_msg c_rows c_txts c_plan c_vs c_scene c_deeds c_kept c_burn at z
    exact g a b (by omega) (by omega) (by omega) (by omega) (by omega)
  · rw [← i2 a ha]
    exact funext fun b => g a b (by omega) (by omega) (by omega) (by omega) (by omega)
theorem ok_loads {l : Launch} {g : am_G} : am_ok l g d_X10_loads d_X11_loads [] am_isI := ok_II (fun B pl hL u => s_X10_loads hL u) (fun B pl hL u => s_X11_loads hL u) two_loads
