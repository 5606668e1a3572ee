/-! what was burnt: mixed, sure, test -/
theorem nI_and (a b : Nat) : nI a &&& nI b = nI (a &&& b) := by
  apply Int32.toBitVec_inj.1
  show BitVec.ofNat 32 a &&& BitVec.ofNat 32 b = BitVec.ofNat 32 (a &&& b)
  apply BitVec.eq_of_getLsbD_eq
  intro i hi
  simp [hi]
theorem nI_or (a b : Nat) : nI a ||| nI b = nI (a ||| b) := by
  apply Int32.toBitVec_inj.1
  show BitVec.ofNat 32 a ||| BitVec.ofNat 32 b = BitVec.ofNat 32 (a ||| b)
  apply BitVec.eq_of_getLsbD_eq
  intro i hi
  simp [hi]
theorem fr_free {pl : Nat} (hp : pl = 30 ∨ pl = 35) {u w : am_U} (h : am_Inv pl u) (e : ∀ a b, a ≠ 24 → a ≠ 25 → ¬ (a = 21 ∧ b = 5) → a ≠ 88 → w a b = u a b) : am_Inv pl w := by
  refine fr_all hp h (fun a b q => ?_)
  unfold c_msg c_rows c_txts c_plan c_vs c_scene c_deeds c_kept c_burn at q
  exact e a b (by omega) (by omega) (by omega) (by omega)
def b_C (pl n z : Nat) (F X Y : Nat → Int32) (u : am_U) : Prop := u pl 2 = nI n ∧ (∀ k, k < n → u (pl + 4) k = F k) ∧ u 21 4 = nI z ∧ ∀ b, b < z → u 22 b = X b ∧ u 23 b = Y b
def b_M (n z : Nat) (F X Y : Nat → Int32) (u : am_U) : Prop := u 60 12 = nI n ∧ (∀ k, k < n → u 70 k = F k) ∧ u 60 40 = nI z ∧ ∀ b, b < z → u 86 b = X b ∧ u 87 b = Y b
theorem b_C_fr {pl n z : Nat} {F X Y : Nat → Int32} {u w : am_U} (hp : pl = 30 ∨ pl = 35) (h : b_C pl n z F X Y u) (e : ∀ a b, a ≠ 24 → a ≠ 25 → ¬ (a = 21 ∧ b = 5) → w a b = u a b) : b_C pl n z F X Y w := by
  obtain ⟨h1, h2, h3, h4⟩ := h
  refine ⟨by rw [e pl 2 (by omega) (by omega) (by omega)]; exact h1, fun k hk => by rw [e _ k (by omega) (by omega) (by omega)]; exact h2 k hk, by rw [e 21 4 (by omega) (by omega) (by omega)]; exact h3, fun b hb => ?_⟩
  rw [e 22 b (by omega) (by omega) (by omega), e 23 b (by omega) (by omega) (by omega)]
  exact h4 b hb
theorem b_M_fr {n z : Nat} {F X Y : Nat → Int32} {u w : am_U} (h : b_M n z F X Y u) (e : ∀ a b, 60 ≤ a → a ≠ 88 → w a b = u a b) : b_M n z F X Y w := by
  obtain ⟨h1, h2, h3, h4⟩ := h
  refine ⟨by rw [e 60 12 (by omega) (by omega)]; exact h1, fun k hk => by rw [e 70 k (by omega) (by omega)]; exact h2 k hk, by rw [e 60 40 (by omega) (by omega)]; exact h3, fun b hb => ?_⟩
  rw [e 86 b (by omega) (by omega), e 87 b (by omega) (by omega)]
  exact h4 b hb
def m_bu (F : Nat → Int32) (s w : Int32) : Nat → Nat → Int32 → Int32
  | 0, _, v => v
  | m + 1, k, v => m_bu F s w m (k + 1) (if ¬ ((s >>> (nI k &&& 31)) &&& 1) = 1 then v else if ¬ ((w >>> (nI k &&& 31)) &&& 1) = 1 then v + F k else v + F k / 2)
theorem cbu_lp {pl n z : Nat} {F X Y : Nat → Int32} {u : am_U} (h : b_C pl n z F X Y u) (hn : n ≤ 6) (s w : Int32) : ∀ (f k : Nat) (v : Int32), k ≤ n → n < k + f → f_X0_burningTime_5 u s w pl f v (nI k) = some (m_bu F s w (n - k) k v) := by
  intro f
  induction f with
  | zero => intro k v h1 h2; omega
  | succ f ih =>
    intro k v h1 h2
    rw [f_X0_burningTime_5, h.1]
    rcases Nat.lt_or_ge k n with q | q
    · rw [if_neg (nI_ge q (by omega)), nI_1, show n - k = (n - (k + 1)) + 1 by omega, m_bu, am_ck_t (am_ix_nI (show k < 6 by omega) (by omega)), am_ck_t (am_ix_nI (show k < 6 by omega) (by omega)), nI_clamp (by omega), h.2.1 k q]
      by_cases c : ¬ ((s >>> (nI k &&& 31)) &&& 1) = 1
      · rw [if_pos c, if_pos c]; exact ih (k + 1) _ (by omega) (by omega)
      · rw [if_neg c, if_neg c]
        by_cases c2 : ¬ ((w >>> (nI k &&& 31)) &&& 1) = 1
        · rw [if_pos c2, if_pos c2]; exact ih (k + 1) _ (by omega) (by omega)
        · rw [if_neg c2, if_neg c2]; exact ih (k + 1) _ (by omega) (by omega)
    · have : k = n := by omega
      subst this
      rw [if_pos (nI_le (Nat.le_refl k) (by omega)), Nat.sub_self]; rfl
theorem mbu_lp {n z : Nat} {F X Y : Nat → Int32} {u : am_U} (h : b_M n z F X Y u) (hn : n ≤ 6) (s w : Int32) : ∀ (f k : Nat) (v : Int32), k ≤ n → n < k + f → f_X11_burns_5 u s w f v (nI k) = some (m_bu F s w (n - k) k v) := by
  intro f
  induction f with
  | zero => intro k v h1 h2; omega
  | succ f ih =>
    intro k v h1 h2
    rw [f_X11_burns_5, h.1]
    rcases Nat.lt_or_ge k n with q | q
    · rw [if_neg (nI_ge q (by omega)), nI_1, show n - k = (n - (k + 1)) + 1 by omega, m_bu, am_ck_t (am_ix_nI (show k < 6 by omega) (by omega)), am_ck_t (am_ix_nI (show k < 6 by omega) (by omega)), nI_clamp (by omega), h.2.1 k q]
      rcases has_eq s (nI k) with ⟨c, e⟩ | ⟨c, e⟩
      · rw [e, obs, if_pos ne10, if_neg (show ¬ ¬ ((s >>> (nI k &&& 31)) &&& 1) = 1 from fun z => z c)]
        rcases has_eq w (nI k) with ⟨c2, e2⟩ | ⟨c2, e2⟩
        · rw [e2, obs, if_neg ne10, if_neg (show ¬ ¬ ((w >>> (nI k &&& 31)) &&& 1) = 1 from fun z => z c2)]
          exact ih (k + 1) _ (by omega) (by omega)
        · rw [e2, obs, if_pos rfl, if_pos (show ¬ ((w >>> (nI k &&& 31)) &&& 1) = 1 from c2)]
          exact ih (k + 1) _ (by omega) (by omega)
      · rw [e, obs, if_neg (fun z => z rfl), if_pos (show ¬ ((s >>> (nI k &&& 31)) &&& 1) = 1 from c), Int32.add_zero]
        exact ih (k + 1) _ (by omega) (by omega)
    · have : k = n := by omega
      subst this
      rw [if_pos (nI_le (Nat.le_refl k) (by omega)), Nat.sub_self]; rfl
theorem cbu_eq {pl n z : Nat} {F X Y : Nat → Int32} {u : am_U} (h : b_C pl n z F X Y u) (hn : n ≤ 6) (s w : Int32) : f_X0_burningTime s w pl u = some (m_bu F s w n 0 0) := cbu_lp h hn s w 20000 0 0 (by omega) (by omega)
theorem mbu_eq {n z : Nat} {F X Y : Nat → Int32} {u : am_U} (h : b_M n z F X Y u) (hn : n ≤ 6) (s w : Int32) : f_X11_burns s w u = some (m_bu F s w n 0 0) := mbu_lp h hn s w 20000 0 0 (by omega) (by omega)
theorem bu_nI {F : Nat → Int32} (s w : Int32) : ∀ (m k v : Nat), (∀ j, k ≤ j → j < k + m → am_le (F j) 20) → ∃ A, A ≤ v + 20 * m ∧ m_bu F s w m k (nI v) = nI A := by
  intro m
  induction m with
  | zero => intro k v _; exact ⟨v, by omega, rfl⟩
  | succ m ih =>
    intro k v h
    rw [m_bu]
    obtain ⟨x, hx, ex⟩ := h k (by omega) (by omega)
    have hh : ∀ j, k + 1 ≤ j → j < k + 1 + m → am_le (F j) 20 := fun j z1 z2 => h j (by omega) (by omega)
    rw [ex, nI_add, show nI x / 2 = nI (x / 2) from pk_div (d := 2) (by omega) (by omega) (by omega), nI_add]
    split
    · obtain ⟨A, h1, h2⟩ := ih (k + 1) v hh
      exact ⟨A, by omega, h2⟩
    · split
      · obtain ⟨A, h1, h2⟩ := ih (k + 1) (v + x) hh
        exact ⟨A, by omega, h2⟩
      · obtain ⟨A, h1, h2⟩ := ih (k + 1) (v + x / 2) hh
        exact ⟨A, by omega, h2⟩
def m_fi (F X Y : Nat → Int32) (n : Nat) (w : Int32) : Nat → Nat → Bool
  | 0, _ => true
  | m + 1, b => if m_bu F (X b) w n 0 0 = Y b then m_fi F X Y n w m (b + 1) else false
def m_b1 (b : Bool) : Int32 := if b = true then 1 else 0
theorem ccb_lp {pl n z : Nat} {F X Y : Nat → Int32} {u : am_U} (h : b_C pl n z F X Y u) (hn : n ≤ 6) (hz : z ≤ 8) (w : Int32) : ∀ (f b : Nat), b ≤ z → z < b + f → f_X0_canBe_2 u w pl f (nI b) = some (m_b1 (m_fi F X Y n w (z - b) b)) := by
  intro f
  induction f with
  | zero => intro b h1 h2; omega
  | succ f ih =>
    intro b h1 h2
    rw [f_X0_canBe_2, h.2.2.1]
    rcases Nat.lt_or_ge b z with q | q
    · rw [if_neg (nI_ge q (by omega)), am_ck_t (am_ix_nI (show b < 8 by omega) (by omega)), nI_clamp (by omega), (h.2.2.2 b q).1, (h.2.2.2 b q).2, cbu_eq h hn, obs, nI_1, show z - b = (z - (b + 1)) + 1 by omega, m_fi]
      by_cases c : m_bu F (X b) w n 0 0 = Y b
      · rw [if_pos c, if_pos c]; exact ih (b + 1) (by omega) (by omega)
      · rw [if_neg c, if_neg c]; rfl
    · rw [if_pos (nI_le (show z ≤ b by omega) (by omega)), show z - b = 0 by omega]; rfl
theorem mfi_0 {n z : Nat} {F X Y : Nat → Int32} {u : am_U} (h : b_M n z F X Y u) (hz : z ≤ 8) (w : Int32) : ∀ (f b : Nat), b ≤ z → z < b + f → f_X11_fits_4 u w f 0 (nI b) = some 0 := by
  intro f
  induction f with
  | zero => intro b h1 h2; omega
  | succ f ih =>
    intro b h1 h2
    rw [f_X11_fits_4, h.2.2.1]
    rcases Nat.lt_or_ge b z with q | q
    · rw [if_neg (nI_ge q (by omega)), if_pos rfl, nI_1]
      exact ih (b + 1) (by omega) (by omega)
    · rw [if_pos (nI_le (show z ≤ b by omega) (by omega))]; rfl
theorem mfi_1 {n z : Nat} {F X Y : Nat → Int32} {u : am_U} (h : b_M n z F X Y u) (hn : n ≤ 6) (hz : z ≤ 8) (w : Int32) : ∀ (f b : Nat), b ≤ z → z < b + f → f_X11_fits_4 u w f 1 (nI b) = some (m_b1 (m_fi F X Y n w (z - b) b)) := by
  intro f
  induction f with
  | zero => intro b h1 h2; omega
  | succ f ih =>
    intro b h1 h2
    rw [f_X11_fits_4, h.2.2.1]
    rcases Nat.lt_or_ge b z with q | q
    · rw [if_neg (nI_ge q (by omega)), if_neg ne10, am_ck_t (am_ix_nI (show b < 8 by omega) (by omega)), nI_clamp (by omega), (h.2.2.2 b q).1, (h.2.2.2 b q).2, mbu_eq h hn, obs, nI_1, show z - b = (z - (b + 1)) + 1 by omega, m_fi]
      by_cases c : m_bu F (X b) w n 0 0 = Y b
      · rw [if_neg (fun z => z c), if_pos c]; exact ih (b + 1) (by omega) (by omega)
      · rw [if_pos c, if_neg c]; exact mfi_0 h hz w f (b + 1) (by omega) (by omega)
    · rw [if_pos (nI_le (show z ≤ b by omega) (by omega)), show z - b = 0 by omega]; rfl
theorem ccb_eq {pl n z : Nat} {F X Y : Nat → Int32} {u : am_U} (h : b_C pl n z F X Y u) (hn : n ≤ 6) (hz : z ≤ 8) (w : Int32) : f_X0_canBe w pl u = some (m_b1 (m_fi F X Y n w z 0)) := ccb_lp h hn hz w 20000 0 (by omega) (by omega)
theorem mfi_eq {n z : Nat} {F X Y : Nat → Int32} {u : am_U} (h : b_M n z F X Y u) (hn : n ≤ 6) (hz : z ≤ 8) (w : Int32) : f_X11_fits w u = some (m_b1 (m_fi F X Y n w z 0)) := mfi_1 h hn hz w 20000 0 (by omega) (by omega)
/-- the sets that can be, in a row -/
def m_gt (G : Nat → Bool) : Nat → Nat → List Nat
  | 0, _ => []
  | m + 1, s => if G s = true then s :: m_gt G m (s + 1) else m_gt G m (s + 1)
theorem gt_len (G : Nat → Bool) : ∀ m s, (m_gt G m s).length ≤ m := by
  intro m
  induction m with
  | zero => intro s; exact Nat.le_refl 0
  | succ m ih =>
    intro s
    rw [m_gt]
    have := ih (s + 1)
    split
    · rw [List.length_cons]; omega
    · omega
theorem gt_lt (G : Nat → Bool) : ∀ m s x, x ∈ m_gt G m s → x < s + m := by
  intro m
  induction m with
  | zero => intro s x h; rw [m_gt] at h; cases h
  | succ m ih =>
    intro s x h
    rw [m_gt] at h
    split at h
    · rcases List.mem_cons.mp h with h | h
      · omega
      · have := ih (s + 1) x h; omega
    · have := ih (s + 1) x h; omega
theorem dr_c : ∀ (l : List Nat) (i : Nat), i < l.length → l.drop i = l.getD i 0 :: l.drop (i + 1) := by
  intro l
  induction l with
  | nil => intro i h; exact absurd h (Nat.not_lt_zero i)
  | cons x l ih =>
    intro i h
    cases i with
    | zero => rfl
    | succ i =>
      rw [List.length_cons] at h
      show l.drop i = l.getD i 0 :: l.drop (i + 1)
      exact ih i (by omega)
theorem b1_t {G : Bool} (h : G = true) : m_b1 G = 1 := if_pos h
theorem b1_f {G : Bool} (h : ¬ G = true) : m_b1 G = 0 := if_neg h
theorem cga_lp {pl n z : Nat} {F X Y : Nat → Int32} (hp : pl = 30 ∨ pl = 35) (hn : n ≤ 6) (hz : z ≤ 8) (G : Nat → Bool) (hG : ∀ s, G s = m_fi F X Y n (nI s) z 0) : ∀ (f s c : Nat) (u : am_U), b_C pl n z F X Y u → u 21 5 = nI c → c ≤ s → s ≤ 2 ^ n → 2 ^ n < s + f → ∃ w, f_X0_gather_7 pl f (nI s) u = some (nI (c + (m_gt G (2 ^ n - s) s).length), w) ∧ w 21 5 = nI (c + (m_gt G (2 ^ n - s) s).length) ∧ (∀ i, i < c → w 24 i = u 24 i) ∧ (∀ i, i < (m_gt G (2 ^ n - s) s).length → w 24 (c + i) = nI ((m_gt G (2 ^ n - s) s).getD i 0)) ∧ ∀ a b, a ≠ 24 → ¬ (a = 21 ∧ b = 5) → w a b = u a b := by
  have hpw := pow_le hn
  intro f
  induction f with
  | zero => intro s c u _ _ _ h1 h2; omega
  | succ f ih =>
    intro s c u hb hc hcs h1 h2
    rw [f_X0_gather_7, hb.1, shl_n n (by omega)]
    rcases Nat.lt_or_ge s (2 ^ n) with q | q
    · rw [if_neg (nI_ge q (by omega)), nI_1, ccb_eq hb hn hz, ← hG s, obs, show 2 ^ n - s = (2 ^ n - (s + 1)) + 1 by omega, m_gt, hc]
      by_cases g : G s = true
      · rw [b1_t g, if_neg ne10, if_pos g, am_ck_t (am_ix_nI (show c < 64 by omega) (by omega)), nI_clamp (by omega)]
        obtain ⟨w, k1, k2, k3, k4, k5⟩ := ih (s + 1) (c + 1) (am_w (am_w u 24 c (nI s)) 21 5 (nI (c + 1))) (b_C_fr hp hb (fun a b z1 z2 z3 => by rw [am_w_n z3, am_w_n (by omega)])) (am_w_s _ _ _ _) (by omega) (by omega) (by omega)
        have hlen : (s :: m_gt G (2 ^ n - (s + 1)) (s + 1)).length = (m_gt G (2 ^ n - (s + 1)) (s + 1)).length + 1 := List.length_cons
        refine ⟨w, ?_, ?_, fun i hi => ?_, fun i hi => ?_, fun a b z1 z2 => ?_⟩
        · show f_X0_gather_7 pl f (nI (s + 1)) (am_w (am_w u 24 c (nI s)) 21 5 (am_w u 24 c (nI s) 21 5 + 1)) = _
          rw [am_w_n (show ¬ (21 = 24 ∧ 5 = c) by omega), hc, nI_1, k1, hlen, show c + ((m_gt G (2 ^ n - (s + 1)) (s + 1)).length + 1) = c + 1 + (m_gt G (2 ^ n - (s + 1)) (s + 1)).length by omega]
        · rw [k2, hlen, show c + ((m_gt G (2 ^ n - (s + 1)) (s + 1)).length + 1) = c + 1 + (m_gt G (2 ^ n - (s + 1)) (s + 1)).length by omega]
        · rw [k3 i (by omega), am_w_n (by omega), am_w_n (by omega)]
        · cases i with
          | zero =>
            rw [Nat.add_zero, k3 c (by omega), am_w_n (by omega), am_w_s]; rfl
          | succ i =>
            rw [hlen] at hi
            rw [show c + (i + 1) = c + 1 + i by omega, k4 i (by omega)]; rfl
        · rw [k5 a b z1 z2, am_w_n z2, am_w_n (by omega)]
      · rw [b1_f g, if_pos rfl, if_neg g]
        obtain ⟨w, k1, k2, k3, k4, k5⟩ := ih (s + 1) c u hb hc (by omega) (by omega) (by omega)
        exact ⟨w, k1, k2, k3, k4, k5⟩
    · rw [if_pos (nI_le (show 2 ^ n ≤ s by omega) (by omega)), show 2 ^ n - s = 0 by omega]
      exact ⟨u, by rw [hc]; rfl, by rw [hc]; rfl, fun _ _ => rfl, fun i hi => absurd hi (Nat.not_lt_zero i), fun _ _ _ _ => rfl⟩
def g_L (u : am_U) (l : List Nat) : Prop := u 21 5 = nI l.length ∧ ∀ i, i < l.length → u 24 i = nI (l.getD i 0)
theorem cga_eq {pl n z : Nat} {F X Y : Nat → Int32} (hp : pl = 30 ∨ pl = 35) (hn : n ≤ 6) (hz : z ≤ 8) (G : Nat → Bool) (hG : ∀ s, G s = m_fi F X Y n (nI s) z 0) {u : am_U} (hb : b_C pl n z F X Y u) : ∃ w, f_X0_gather pl u = some (nI (m_gt G (2 ^ n) 0).length, w) ∧ g_L w (m_gt G (2 ^ n) 0) ∧ ∀ a b, a ≠ 24 → ¬ (a = 21 ∧ b = 5) → w a b = u a b := by
  have hpw := pow_le hn
  obtain ⟨w, k1, k2, k3, k4, k5⟩ := cga_lp hp hn hz G hG 20000 0 0 (am_w u 21 5 0) (b_C_fr hp hb (fun a b z1 z2 z3 => am_w_n z3)) (am_w_s _ _ _ _) (by omega) (Nat.zero_le _) (by omega)
  rw [Nat.sub_zero] at k1 k2 k4
  rw [Nat.zero_add] at k1 k2
  refine ⟨w, k1, ⟨k2, fun i hi => ?_⟩, fun a b z1 z2 => by rw [k5 a b z1 z2, am_w_n z2]⟩
  have := k4 i hi
  rw [Nat.zero_add] at this
  exact this
def m_hd (l : List Nat) (v : Int32) : Int32 := match l with
  | [] => v
  | x :: _ => nI x
theorem mmx_lp {n z : Nat} {F X Y : Nat → Int32} {u : am_U} (h : b_M n z F X Y u) (hn : n ≤ 6) (hz : z ≤ 8) (G : Nat → Bool) (hG : ∀ s, G s = m_fi F X Y n (nI s) z 0) (K : Int32 → Int32 → Option (Int32 × am_U)) : ∀ (f s c : Nat) (v : Int32), c ≤ s → s ≤ 2 ^ n → 2 ^ n < s + f → f_X11_mixed_16 u K f (nI c) v (nI s) = K (nI (c + (m_gt G (2 ^ n - s) s).length)) (if c = 0 then m_hd (m_gt G (2 ^ n - s) s) v else v) := by
  have hpw := pow_le hn
  intro f
  induction f with
  | zero => intro s c v _ h1 h2; omega
  | succ f ih =>
    intro s c v hc h1 h2
    rw [f_X11_mixed_16, h.1, shl_n n (by omega)]
    rcases Nat.lt_or_ge s (2 ^ n) with q | q
    · rw [if_neg (nI_ge q (by omega)), nI_1, nI_1, mfi_eq h hn hz, ← hG s, obs, show 2 ^ n - s = (2 ^ n - (s + 1)) + 1 by omega, m_gt]
      by_cases g : G s = true
      · rw [b1_t g, if_neg ne10, if_pos g, List.length_cons, show c + ((m_gt G (2 ^ n - (s + 1)) (s + 1)).length + 1) = c + 1 + (m_gt G (2 ^ n - (s + 1)) (s + 1)).length by omega]
        by_cases c0 : c = 0
        · subst c0
          rw [if_neg (fun q => q rfl), if_pos rfl, ih (s + 1) (0 + 1) (nI s) (by omega) (by omega) (by omega), if_neg (by omega)]; rfl
        · rw [if_pos (nI_ne0 (by omega) (by omega)), if_neg c0, ih (s + 1) (c + 1) v (by omega) (by omega) (by omega), if_neg (by omega)]
      · rw [b1_f g, if_pos rfl, if_neg g]
        exact ih (s + 1) c v (by omega) (by omega) (by omega)
    · rw [if_pos (nI_le (show 2 ^ n ≤ s by omega) (by omega)), show 2 ^ n - s = 0 by omega]
      show K (nI c) v = K (nI (c + 0)) (if c = 0 then v else v)
      rw [Nat.add_zero]
      split <;> rfl
/-- what both sides know of what was burnt -/
theorem burn_env {pl : Nat} {u : am_U} (hI : am_Inv pl u) : ∃ n z, n ≤ 6 ∧ z ≤ 8 ∧ u pl 2 = nI n ∧ u 60 12 = nI n ∧ b_C pl n z (u 70) (u 86) (u 87) u ∧ b_M n z (u 70) (u 86) (u 87) u ∧ ∀ j, j < n → am_le (u 70 j) 20 := by
  obtain ⟨n, hn, e1, e2⟩ := plan_n hI.2.2.2.1
  obtain ⟨z, hz, z1, z2, z3⟩ := hI.2.2.2.2.2.2.2
  exact ⟨n, z, hn, hz, e1, e2, ⟨e1, fun k hk => (plan_k hI.2.2.2.1 e2 hn hk).2.2.1, z1, z3⟩, ⟨e2, fun _ _ => rfl, z2, fun _ _ => ⟨rfl, rfl⟩⟩, fun j hj => (plan_k hI.2.2.2.1 e2 hn hj).2.2.2.1⟩
theorem two_mixed : am_two (fun pl u => f_X10_mixed pl u) (fun _ u => f_X11_mixed u) := by
  intro pl hp u hI
  show ∃ v u1 u2, f_X10_mixed pl u = _ ∧ f_X11_mixed u1 = _ ∧ _
  obtain ⟨n, z, hn, hz, e1, e2, hC, hM, -⟩ := burn_env hI
  have hpw := pow_le hn
  cases n with
  | zero =>
    refine ⟨-4, u, u, ?_, ?_, hI, fun _ _ => rfl⟩
    · unfold f_X10_mixed; rw [e1, if_neg (fun q => q rfl)]
    · unfold f_X11_mixed; rw [e2, if_neg (fun q => q rfl)]
  | succ n =>
    have hne : ¬ nI (n + 1) = 0 := nI_ne0 (by omega) (by omega)
    obtain ⟨G, hG⟩ : ∃ G : Nat → Bool, ∀ s, G s = m_fi (u 70) (u 86) (u 87) (n + 1) (nI s) z 0 := ⟨_, fun _ => rfl⟩
    obtain ⟨l, hl⟩ : ∃ l, m_gt G (2 ^ (n + 1)) 0 = l := ⟨_, rfl⟩
    have hlen := gt_len G (2 ^ (n + 1)) 0
    obtain ⟨w, k1, k2, k3⟩ := cga_eq hp hn hz G hG hC
    rw [hl] at k1 k2 hlen
    have hMt : ∀ v : am_U, (∀ a b, 60 ≤ a → v a b = u a b) → f_X11_mixed v = if ¬ nI l.length = 0 then some (nI l.length, am_w v 60 2 (m_hd l 0)) else some (-9, v) := fun v hv => by
      unfold f_X11_mixed
      rw [hv 60 12 (by omega), e2, if_pos hne]
      simp only [tell_m, obs]
      refine (mmx_lp (b_M_fr hM (fun a b z1 _ => hv a b z1)) hn hz G hG _ 20000 0 0 0 (by omega) (Nat.zero_le _) (by omega)).trans ?_
      rw [Nat.sub_zero, hl, Nat.zero_add, if_pos rfl]
    have hE : f_X10_mixed pl u = if ¬ nI l.length = 0 then some (nI l.length, am_w w 4 13 (w 24 0)) else some (-9, w) := by
      unfold f_X10_mixed
      rw [e1, if_pos hne, k1]
      simp only [tell_c, obs]
    cases l with
    | nil =>
      refine ⟨-9, w, w, ?_, ?_, fr_free hp hI (fun a b z1 z2 z3 z4 => k3 a b z1 z3), fun a ha => funext fun b => k3 a b (by omega) (by omega)⟩
      · rw [hE, if_neg (fun q => q rfl)]
      · rw [hMt w (fun a b z1 => k3 a b (by omega) (by omega)), if_neg (fun q => q rfl)]
    | cons x l =>
      have hn0 : ¬ nI (x :: l).length = 0 := nI_ne0 (by rw [List.length_cons]; omega) (by omega)
      have hw : w 24 0 = nI x := k2.2 0 (by rw [List.length_cons]; omega)
      have hT := inv_tell hp hI (nI x)
      have eo : ∀ a b, a ≠ 24 → ¬ (a = 21 ∧ b = 5) → am_w (am_w w 4 13 (nI x)) 60 2 (nI x) a b = am_w (am_w u 4 13 (nI x)) 60 2 (nI x) a b := fun a b z1 z2 => by
        simp only [am_w_ap, k3 a b z1 z2]
      refine ⟨nI (x :: l).length, am_w w 4 13 (nI x), am_w (am_w w 4 13 (nI x)) 60 2 (nI x), ?_, ?_, fr_free hp hT.1 (fun a b z1 z2 z3 z4 => eo a b z1 z3), fun a ha => ?_⟩
      · rw [hE, if_pos hn0, hw]
      · rw [hMt _ (fun a b z1 => by rw [am_w_n (by omega)]; exact k3 a b (by omega) (by omega)), if_pos hn0]; rfl
      · rw [← hT.2 a ha]; exact funext fun b => eo a b (by omega) (by omega)
theorem ok_mixed {l : Launch} {g : am_G} : am_ok l g d_X10_mixed d_X11_mixed [] am_isI := ok_II (fun B pl hL u => s_X10_mixed hL u) (fun B pl hL u => s_X11_mixed hL u) two_mixed
