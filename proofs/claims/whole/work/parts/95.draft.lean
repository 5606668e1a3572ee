/-! loads: the class's side -/
def iI (z : Int) : Int32 := Int32.ofInt z
theorem iI_t {a : Int} (h1 : -2147483648 ≤ a) (h2 : a < 2147483648) : (iI a).toInt = a := Int32.toInt_ofInt_of_le h1 h2
theorem iI_lt {a b : Int} (h1 : -2147483648 ≤ a) (h2 : a < 2147483648) (h3 : -2147483648 ≤ b) (h4 : b < 2147483648) : iI a < iI b ↔ a < b := by
  rw [Int32.lt_iff_toInt_lt, iI_t h1 h2, iI_t h3 h4]
theorem iI_le {a b : Int} (h1 : -2147483648 ≤ a) (h2 : a < 2147483648) (h3 : -2147483648 ≤ b) (h4 : b < 2147483648) : iI a ≤ iI b ↔ a ≤ b := by
  rw [Int32.le_iff_toInt_le, iI_t h1 h2, iI_t h3 h4]
theorem iI_add (a b : Int) : iI a + iI b = iI (a + b) := (Int32.ofInt_add a b).symm
theorem iI_sub (a b : Int) : iI a - iI b = iI (a - b) := (Int32.ofInt_sub a b).symm
theorem iI_mul (a b : Int) : iI a * iI b = iI (a * b) := (Int32.ofInt_mul a b).symm
theorem iI_n (k : Nat) : nI k = iI k := Int32.ofInt_eq_ofNat.symm
theorem nI_xor (a b : Nat) : nI a ^^^ nI b = nI (a ^^^ b) := by
  apply Int32.toBitVec_inj.1
  show BitVec.ofNat 32 a ^^^ BitVec.ofNat 32 b = BitVec.ofNat 32 (a ^^^ b)
  apply BitVec.eq_of_getLsbD_eq
  intro i hi
  simp [hi]
theorem iI_9 : (1000000000 : Int32) = iI 1000000000 := by decide
theorem min_i {a b : Int} (h1 : -2147483648 ≤ a) (h2 : a < 2147483648) (h3 : -2147483648 ≤ b) (h4 : b < 2147483648) : ∃ r, f_J9_min_7cf53 (iI a) (iI b) = some (iI r) ∧ r ≤ a ∧ r ≤ b ∧ (r = a ∨ r = b) := by
  unfold f_J9_min_7cf53
  by_cases c : b < a
  · exact ⟨b, if_pos ((iI_lt h3 h4 h1 h2).mpr c), by omega, by omega, Or.inr rfl⟩
  · exact ⟨a, if_neg (fun z => c ((iI_lt h3 h4 h1 h2).mp z)), by omega, by omega, Or.inl rfl⟩
theorem av10_lp {n s : Nat} {c L : Nat → Int} (hn : n ≤ 6) (hs : s < 2 ^ n) (hs0 : 0 < s) (hc : ∀ t, t < 2 ^ n → -20000000 ≤ c t ∧ c t ≤ 1000000000) (hL : ∀ t, t < 2 ^ n → -1000000 ≤ L t ∧ L t ≤ 1000000000) (K : am_U → Option am_U) : ∀ (f p : Nat) (u : am_U) (r0 : Int), p < f → p ≤ s → p &&& s = p → u 27 s = iI r0 → (∀ t, t < s → u 27 t = iI (c t)) → (∀ t, t < 2 ^ n → u 28 t = iI (L t)) → -30000000 ≤ r0 → r0 ≤ 1000000000 → ∃ r w, f_X3_addValley_10 (nI s) K f (nI p) u = K w ∧ w 27 s = iI r ∧ (∀ a b, ¬ (a = 27 ∧ b = s) → w a b = u a b) ∧ r ≤ r0 ∧ (∀ x, 0 < x → x ≤ p → x &&& s = x → L x < 1000000000 → r ≤ c (s ^^^ x) + L x) ∧ (r = r0 ∨ ∃ x, 0 < x ∧ x ≤ p ∧ x &&& s = x ∧ L x < 1000000000 ∧ r = c (s ^^^ x) + L x) := by
  have hpw := pow_le hn
  intro f
  induction f with
  | zero => intro p u r0 h; omega
  | succ f ih =>
    intro p u r0 hf hps hpa h27 hold h28 hr1 hr2
    rw [f_X3_addValley_10]
    rcases Nat.eq_zero_or_pos p with q | q
    · subst q
      rw [if_pos (show nI 0 ≤ (0 : Int32) by decide)]
      exact ⟨r0, u, rfl, h27, fun _ _ _ => rfl, by omega, fun x x0 x1 => by omega, Or.inl rfl⟩
    · obtain ⟨m1, m2, m3⟩ := bt_m s (by omega) p (by omega) hpa q
      obtain ⟨-, b2, -⟩ := bt_x s (by omega) p (by omega) hpa
      have b4 := b2 q
      obtain ⟨l1, l2⟩ := hL p (by omega)
      obtain ⟨k1, k2⟩ := hc (s ^^^ p) (by omega)
      have hnx : (nI p - 1) &&& nI s = nI ((p - 1) &&& s) := by
        obtain ⟨t, rfl⟩ : ∃ t, p = t + 1 := ⟨p - 1, by omega⟩
        rw [nI_pred, nI_and]; rfl
      rw [if_neg (nI_nle q (by omega)), am_ck_t (am_ix_nI (show p < 64 by omega) (by omega)), jn_eq, hnx, nI_clamp (show p < 2 ^ 31 by omega)]
      dsimp only
      by_cases cL : 1000000000 ≤ L p
      · rw [if_pos (show (1000000000 : Int32) ≤ u 28 p by rw [h28 p (by omega), iI_9]; exact (iI_le (by omega) (by omega) (by omega) (by omega)).mpr cL)]
        obtain ⟨r, w, w1, w2, w3, w4, w5, w6⟩ := ih ((p - 1) &&& s) u r0 (by omega) (by omega) m2 h27 hold h28 hr1 hr2
        refine ⟨r, w, w1, w2, w3, w4, fun x x0 x1 x2 x3 => ?_, ?_⟩
        · rcases Nat.lt_or_ge x p with y | y
          · exact w5 x x0 (m3 x y x2) x2 x3
          · rw [show x = p by omega] at x3; omega
        · rcases w6 with z | ⟨x, x0, x1, x2⟩
          · exact Or.inl z
          · exact Or.inr ⟨x, x0, by omega, x2⟩
      · rw [if_neg (show ¬ (1000000000 : Int32) ≤ u 28 p by rw [h28 p (by omega), iI_9]; exact fun z => cL ((iI_le (by omega) (by omega) (by omega) (by omega)).mp z)), nI_xor, am_ck_t (am_ix_nI (show s < 64 by omega) (by omega)), am_ck_t (am_ix_nI (show s ^^^ p < 64 by omega) (by omega)), nI_clamp (show s < 2 ^ 31 by omega), nI_clamp (show s ^^^ p < 2 ^ 31 by omega), h27, hold _ b4, h28 p (by omega), iI_add]
        obtain ⟨r1, y1, y2, y3, y4⟩ := min_i (a := r0) (b := c (s ^^^ p) + L p) (by omega) (by omega) (by omega) (by omega)
        rw [y1, obs]
        obtain ⟨r, w, w1, w2, w3, w4, w5, w6⟩ := ih ((p - 1) &&& s) (am_w u 27 s (iI r1)) r1 (by omega) (by omega) m2 (am_w_s _ _ _ _) (fun t ht => by rw [am_w_n (by omega)]; exact hold t ht) (fun t ht => by rw [am_w_n (by omega)]; exact h28 t ht) (by omega) (by omega)
        refine ⟨r, w, w1, w2, fun a b z => by rw [w3 a b z, am_w_n z], by omega, fun x x0 x1 x2 x3 => ?_, ?_⟩
        · rcases Nat.lt_or_ge x p with y | y
          · exact w5 x x0 (m3 x y x2) x2 x3
          · rw [show x = p by omega]; omega
        · rcases w6 with z | ⟨x, x0, x1, x2⟩
          · rcases y4 with y | y
            · exact Or.inl (by omega)
            · exact Or.inr ⟨p, q, Nat.le_refl p, hpa, by omega, by omega⟩
          · exact Or.inr ⟨x, x0, by omega, x2⟩
theorem av4_lp {n : Nat} {c L : Nat → Int} (hn : n ≤ 6) (hc : ∀ t, t < 2 ^ n → -20000000 ≤ c t ∧ c t ≤ 1000000000) (hL : ∀ t, t < 2 ^ n → -1000000 ≤ L t ∧ L t ≤ 1000000000) : ∀ (s f : Nat) (u : am_U), s < 2 ^ n → s < f → (∀ t, t ≤ s → u 27 t = iI (c t)) → (∀ t, t < 2 ^ n → u 28 t = iI (L t)) → ∃ w c', f_X3_addValley_4 f (nI s) u = some w ∧ c' 0 = c 0 ∧ (∀ t, t ≤ s → w 27 t = iI (c' t)) ∧ (∀ t, 0 < t → t ≤ s → l_R c L t (c' t)) ∧ ∀ a b, ¬ (a = 27 ∧ b ≤ s) → w a b = u a b := by
  have hpw := pow_le hn
  intro s
  induction s with
  | zero =>
    intro f u hs hf h27 h28
    obtain ⟨f, rfl⟩ : ∃ x, f = x + 1 := ⟨f - 1, by omega⟩
    rw [f_X3_addValley_4, if_pos (show nI 0 ≤ (0 : Int32) by decide)]
    exact ⟨u, c, rfl, rfl, h27, fun t t0 t1 => by omega, fun _ _ _ => rfl⟩
  | succ s ih =>
    intro f u hs hf h27 h28
    obtain ⟨f, rfl⟩ : ∃ x, f = x + 1 := ⟨f - 1, by omega⟩
    obtain ⟨k1, k2⟩ := hc (s + 1) hs
    rw [f_X3_addValley_4, if_neg (nI_nle (show 0 < s + 1 by omega) (by omega)), ← Int32.sub_eq_add_neg, nI_pred]
    obtain ⟨r, w, w1, w2, w3, w4, w5, w6⟩ := av10_lp hn hs (by omega) hc hL (fun c7u => f_X3_addValley_4 f (nI s) c7u) 20000 (s + 1) u (c (s + 1)) (by omega) (by omega) (Nat.and_self _) (h27 _ (by omega)) (fun t ht => h27 t (by omega)) h28 (by omega) (by omega)
    obtain ⟨y, c', y1, y2, y3, y4, y5⟩ := ih f w (by omega) (by omega) (fun t ht => by rw [w3 _ _ (by omega)]; exact h27 t (by omega)) (fun t ht => by rw [w3 _ _ (by omega)]; exact h28 t ht)
    refine ⟨y, fun t => if t = s + 1 then r else c' t, w1.trans y1, (if_neg (by omega)).trans y2, fun t ht => ?_, fun t t0 ht => ?_, fun a b z => by rw [y5 a b (by omega), w3 a b (by omega)]⟩
    · show y 27 t = iI (if t = s + 1 then r else c' t)
      by_cases e : t = s + 1
      · rw [if_pos e, e, y5 _ _ (by omega), w2]
      · rw [if_neg e]; exact y3 t (by omega)
    · show l_R c L t (if t = s + 1 then r else c' t)
      by_cases e : t = s + 1
      · rw [if_pos e, e]; exact ⟨w4, w5, w6⟩
      · rw [if_neg e]; exact y4 t t0 (by omega)
theorem bt_i : ∀ s, s < 64 → ∀ k, k < 6 → ((nI s >>> (nI k &&& 31)) &&& 1 = 1 ↔ s / 2 ^ k % 2 = 1) := by decide +kernel
theorem hs_tl {H : Nat → Nat → Int32} {v s : Nat} (hs : s < 64) (hv : v ≠ 0) : ∀ (m k : Nat), k + m ≤ 6 → m_hs (fun j => H j v) (nI s) m k (l_tl H (l_im v s) v k) = l_tl H (l_im v s) v (k + m) := by
  intro m
  induction m with
  | zero => intro k _; rfl
  | succ m ih =>
    intro k hk
    rw [show k + (m + 1) = k + 1 + m by omega, ← ih (k + 1) (by omega)]
    by_cases c : l_bt s k
    · rw [hs_y (show m_bt (nI s) (nI k) from (bt_i s hs k (by omega)).mpr c), l_tl, if_pos (show l_im v s k = v from if_pos c)]
    · rw [hs_n (show ¬ m_bt (nI s) (nI k) from fun z => c ((bt_i s hs k (by omega)).mp z)), l_tl, if_neg (show ¬ l_im v s k = v from fun z => hv (z.symm.trans (if_neg c))), Int32.add_zero]
theorem fg_lp {pl n v s : Nat} {u : am_U} (hn : n ≤ 6) (hs : s < 64) (hv : v < 5) (e1 : u pl 2 = nI n) : ∀ (f k : Nat), k ≤ n → n < k + f → f_X3_figuresOf_5 u pl (nI s) (nI v) f (nI (l_cd (l_im v s) k)) (nI k) = some (nI (l_cd (l_im v s) n)) := by
  intro f
  induction f with
  | zero => intro k h1 h2; omega
  | succ f ih =>
    intro k h1 h2
    rw [f_X3_figuresOf_5, e1]
    rcases Nat.lt_or_ge k n with q | q
    · have h3 := ih (k + 1) (by omega) (by omega)
      rw [l_cd] at h3
      rw [if_neg (nI_ge q (by omega)), nI_1, show (5 : Int32) * nI (l_cd (l_im v s) k) = nI (5 * l_cd (l_im v s) k) from nI_mul 5 _]
      by_cases c : l_bt s k
      · rw [show l_im v s k = v from if_pos c] at h3
        rw [if_neg (show ¬ ¬ (nI s >>> (nI k &&& 31)) &&& 1 = 1 from fun z => z ((bt_i s hs k (by omega)).mpr c)), nI_add]
        exact h3
      · rw [show l_im v s k = 0 from if_neg c] at h3
        rw [if_pos (show ¬ (nI s >>> (nI k &&& 31)) &&& 1 = 1 from fun z => c ((bt_i s hs k (by omega)).mp z)), Int32.add_zero]
        exact h3
    · rw [if_pos (nI_le (show n ≤ k by omega) (by omega)), show k = n by omega]
theorem ld_bc {n v s : Nat} (hn : n ≤ 6) (hs : s < 2 ^ n) (hv : v ≠ 0) : l_ld (l_im v s) n = m_bc s := by
  have h1 : ∀ k, (if l_im v s k = 0 then 0 else 1) = s / 2 ^ k % 2 := fun k => by
    unfold l_im
    by_cases c : l_bt s k
    · rw [if_pos c, if_neg hv]; exact c.symm
    · rw [if_neg c, if_pos rfl]
      unfold l_bt at c
      generalize s / 2 ^ k = a at c ⊢
      omega
  have h2 : ∀ m, l_ld (l_im v s) (n + m) = l_ld (l_im v s) n := fun m => by
    induction m with
    | zero => rfl
    | succ m ih =>
      rw [show n + (m + 1) = n + m + 1 by omega, l_ld, ih, if_pos (show l_im v s (n + m) = 0 from if_neg (bt_n hs (by omega))), Nat.add_zero]
  rw [← h2 (6 - n), show n + (6 - n) = 5 + 1 by omega]
  show (((((0 + _) + _) + _) + _) + _) + _ = _
  simp only [h1]
  unfold m_bc
  omega
theorem pl3_lp {pl n v : Nat} {H : Nat → Nat → Int32} {N : Nat → Int32} (hp : pl = 30 ∨ pl = 35) (hn : n ≤ 6) (hv0 : 0 < v) (hv : v < 5) : ∀ (f s : Nat) (u : am_U), i_plan pl u → u pl 2 = nI n → u 60 12 = nI n → (∀ j p, H j p = m_hb (u 69) (u 70) j p) → N = u 68 → s ≤ 2 ^ n → 2 ^ n < s + f → ∃ w, f_X3_priceLighting_3 pl (nI v) (nI (2 ^ n)) f (nI s) u = some w ∧ (∀ t, s ≤ t → t < 2 ^ n → w 28 t = iI (l_L n v H N t)) ∧ ∀ a b, ¬ (a = 28 ∧ s ≤ b) → w a b = u a b := by
  have hpw := pow_le hn
  intro f
  induction f with
  | zero => intro s u _ _ _ _ _ h1 h2; omega
  | succ f ih =>
    intro s u hP e1 e2 hH hN h1 h2
    rw [f_X3_priceLighting_3]
    rcases Nat.lt_or_ge s (2 ^ n) with q | q
    · have hset : f_X5_hoursOfSet pl (nI s) (nI v) u = some (l_tl H (l_im v s) v n) := by
        refine (chs_lp hP e1 e2 hn hv (nI s) 20000 0 0 (by omega) (by omega)).trans ?_
        have := hs_tl (H := H) (v := v) (s := s) (by omega) (by omega) n 0 (by omega)
        rw [Nat.zero_add] at this
        rw [Nat.sub_zero, ← this]
        exact congrArg some (congrFun (congrArg (fun F => m_hs F (nI s) n 0) (funext fun j => (hH j v).symm)) 0)
      have hfig : f_X3_figuresOf pl (nI s) (nI v) u = some (nI (l_cd (l_im v s) n)) := fg_lp hn (by omega) hv e1 20000 0 (by omega) (by omega)
      have hcd := cd_lt (D := l_im v s) n (fun k _ => by unfold l_im; split <;> omega)
      have h5 := pow5 hn
      have next : ∀ x, x = iI (l_L n v H N s) → ∃ w, f_X3_priceLighting_3 pl (nI v) (nI (2 ^ n)) f (nI (s + 1)) (am_w u 28 s x) = some w ∧ (∀ t, s ≤ t → t < 2 ^ n → w 28 t = iI (l_L n v H N t)) ∧ ∀ a b, ¬ (a = 28 ∧ s ≤ b) → w a b = u a b := fun x hx => by
        obtain ⟨w, w1, w2, w3⟩ := ih (s + 1) (am_w u 28 s x) (fr_plan hp hP (fun a b z => by unfold c_plan at z; exact am_w_n (by omega))) (by rw [am_w_n (by omega)]; exact e1) (by rw [am_w_n (by omega)]; exact e2) (fun j p => by rw [am_w_c (by omega), am_w_c (by omega)]; exact hH j p) (by rw [am_w_c (by omega)]; exact hN) (by omega) (by omega)
        refine ⟨w, w1, fun t t1 t2 => ?_, fun a b z => by rw [w3 a b (by omega), am_w_n (by omega)]⟩
        rcases Nat.lt_or_ge s t with y | y
        · exact w2 t (by omega) t2
        · rw [show t = s by omega, w3 _ _ (by omega), am_w_s, hx]
      rw [if_neg (nI_ge q (by omega)), hset, obs, am_ck_t (am_ix_nI (show v < 5 by omega) (by omega)), nI_clamp (show v < 2 ^ 31 by omega), (hP.2.2.2.2.2.1 v hv).1, jn_eq, nI_1, cbc_eq s (by omega), am_ck_t (am_ix_nI (show s < 64 by omega) (by omega)), nI_clamp (show s < 2 ^ 31 by omega), hfig, ← hN]
      dsimp only
      simp only [obs, i10, i11, iT, iN]
      unfold l_L at next
      by_cases z : l_tl H (l_im v s) v n < N v
      · rw [if_pos z] at next ⊢
        exact next _ iI_9
      · rw [if_neg z] at next ⊢
        refine next _ ?_
        rw [ld_bc hn q (by omega), iI_n, iI_n, show (15625 : Int32) = iI 15625 by decide, show (1000000 : Int32) = iI 1000000 by decide, iI_mul, iI_add, iI_sub]
        exact congrArg iI (by omega)
    · rw [if_pos (nI_le (show 2 ^ n ≤ s by omega) (by omega))]
      exact ⟨u, rfl, fun t t1 t2 => by omega, fun _ _ _ => rfl⟩
