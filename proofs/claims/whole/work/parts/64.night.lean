/-! night -/
theorem su_c {S T : Nat → Int32} : ∀ (m k : Nat) (v : Int32), (∀ j, k ≤ j → j < k + m → S j = T j) → m_su S m k v = m_su T m k v := by
  intro m
  induction m with
  | zero => intro k v _; rfl
  | succ m ih =>
    intro k v h
    rw [m_su, m_su, h k (by omega) (by omega)]
    exact ih (k + 1) _ (fun j h1 h2 => h j (by omega) (by omega))
/-- from each of some places what leaks is taken -/
def am_sb (u : am_U) (c : Nat) (L : Nat → Int32) (k n : Nat) : am_U := fun a b => if a = c ∧ k ≤ b ∧ b < n then u c b - L b else u a b
theorem am_sb_n {u : am_U} {c k n a b : Nat} {L : Nat → Int32} (h : ¬ (a = c ∧ k ≤ b ∧ b < n)) : am_sb u c L k n a b = u a b := if_neg h
theorem am_sb_e (u : am_U) (c : Nat) (L : Nat → Int32) (n : Nat) : am_sb u c L n n = u := funext fun a => funext fun b => am_sb_n (by omega)
theorem am_sb_w {u : am_U} {c k n : Nat} {L : Nat → Int32} (h : k < n) : am_sb (am_w u c k (u c k - L k)) c L (k + 1) n = am_sb u c L k n := funext fun a => funext fun b => by
  unfold am_sb
  by_cases q : a = c ∧ k + 1 ≤ b ∧ b < n
  · rw [if_pos q, if_pos (by omega), am_w_n (by omega)]
  · rw [if_neg q, am_w_ap]
    by_cases q2 : a = c ∧ b = k
    · rw [if_pos q2, if_pos (by omega), q2.2]
    · rw [if_neg q2, if_neg (by omega)]
theorem clk_lp {pl n : Nat} (hp : pl = 30 ∨ pl = 35) (hn : n ≤ 6) (L : Nat → Int32) : ∀ (f k : Nat) (v : Int32) (u : am_U), u pl 2 = nI n → (∀ b, k ≤ b → b < n → (u 11 b = 0 ∨ u 11 b = 1) ∧ m_lk (u (pl + 3) b) (u 9 b) (u 11 b) = L b) → k ≤ n → n < k + f → f_X10_leakAll_4 pl f v (nI k) u = some (m_su L (n - k) k v, am_sb u 9 L k n) := by
  intro f
  induction f with
  | zero => intro k v u _ _ h1 h2; omega
  | succ f ih =>
    intro k v u e hL h1 h2
    rw [f_X10_leakAll_4, e]
    rcases Nat.lt_or_ge k n with q | q
    · obtain ⟨h01, hl⟩ := hL k (by omega) q
      rw [if_neg (nI_ge q (by omega)), am_ck_t (am_ix_nI (show k < 6 by omega) (by omega)), nI_clamp (by omega)]
      dsimp only [am_jn]
      have hj : ∀ o : Int32, o = u 11 k → ((f_X2_leaked (u (pl + 3) k) (u 9 k) o).bind (fun q3 => f_X10_leakAll_4 pl f (v + q3) (nI k + 1) (am_w u 9 k (u 9 k - q3)))) = some (m_su L (n - k) k v, am_sb u 9 L k n) := fun o ho => by
        rw [ho, clk_eq, hl, obs, nI_1, ih (k + 1) _ _ (by rw [am_w_n (by omega)]; exact e) (fun b z1 z2 => by rw [am_w_n (by omega), am_w_n (by omega), am_w_n (by omega)]; exact hL b (by omega) z2) (by omega) (by omega), am_sb_w q, show n - k = (n - (k + 1)) + 1 by omega, m_su]
      rcases h01 with z | z
      · rw [if_pos z]; exact hj 0 z.symm
      · rw [if_neg (by rw [z]; decide)]; exact hj 1 z.symm
    · have : k = n := by omega
      subst this
      rw [if_pos (nI_le (Nat.le_refl k) (by omega)), Nat.sub_self, am_sb_e]; rfl
theorem mlk_lp {n : Nat} (hn : n ≤ 6) (L : Nat → Int32) (K : Int32 → am_U → Option (Int32 × am_U)) : ∀ (f k : Nat) (v : Int32) (u : am_U), u 60 12 = nI n → (∀ b, k ≤ b → b < n → (u 75 (12 + b) = 0 ∨ u 75 (12 + b) = 1) ∧ m_lk (u 69 b) (u 75 b) (u 75 (12 + b)) = L b) → k ≤ n → n < k + f → f_X11_night_25 K f v (nI k) u = K (m_su L (n - k) k v) (am_sb u 75 L k n) := by
  intro f
  induction f with
  | zero => intro k v u _ _ h1 h2; omega
  | succ f ih =>
    intro k v u e hL h1 h2
    rw [f_X11_night_25, e]
    rcases Nat.lt_or_ge k n with q | q
    · obtain ⟨h01, hl⟩ := hL k (by omega) q
      rw [if_neg (nI_ge q (by omega)), lkn_eq (by omega) h01, hl, obs, show (0 : Int32) + nI k = nI k from (nI_add 0 k).trans (by rw [Nat.zero_add]), am_ck_t (am_ix_nI (show k < 30 by omega) (by omega)), nI_clamp (by omega)]
      show f_X11_night_25 K f (v + L k) (nI k + 1) (am_w u 75 k (u 75 k - L k)) = _
      rw [nI_1, ih (k + 1) _ _ (by rw [am_w_n (by omega)]; exact e) (fun b z1 z2 => by rw [am_w_n (by omega), am_w_n (by omega), am_w_n (by omega)]; exact hL b (by omega) z2) (by omega) (by omega), am_sb_w q, show n - k = (n - (k + 1)) + 1 by omega, m_su]
    · have : k = n := by omega
      subst this
      rw [if_pos (nI_le (Nat.le_refl k) (by omega)), Nat.sub_self, am_sb_e]; rfl
/-- to each of some places one is added or none -/
def am_dk (u : am_U) (d : Nat → Int32) (i : Nat) : am_U := fun a b => if a = 13 ∧ i ≤ b ∧ b < 5 then u 13 b + d b else u a b
theorem am_dk_n {u : am_U} {d : Nat → Int32} {i a b : Nat} (h : ¬ (a = 13 ∧ i ≤ b ∧ b < 5)) : am_dk u d i a b = u a b := if_neg h
theorem am_dk_1 {u : am_U} {d : Nat → Int32} {i : Nat} (h : i < 5) : am_dk (am_w u 13 i (u 13 i + d i)) d (i + 1) = am_dk u d i := funext fun a => funext fun b => by
  unfold am_dk
  by_cases q : a = 13 ∧ i + 1 ≤ b ∧ b < 5
  · rw [if_pos q, if_pos (by omega), am_w_n (by omega)]
  · rw [if_neg q, am_w_ap]
    by_cases q2 : a = 13 ∧ b = i
    · rw [if_pos q2, if_pos (by omega), q2.2]
    · rw [if_neg q2, if_neg (by omega)]
theorem am_dk_0 {u : am_U} {d : Nat → Int32} {i : Nat} (h : i < 5) (h0 : d i = 0) : am_dk u d (i + 1) = am_dk u d i := by
  rw [← am_dk_1 h, h0, Int32.add_zero]
  congr 1
  funext a b
  rw [am_w_ap]
  split
  · next q => rw [q.1, q.2]
  · rfl
def m_dd (D H : Nat → Int32) (p : Nat) : Int32 := if 0 < p ∧ ¬ D p ≤ H p then 1 else 0
theorem cdk_lp {pl : Nat} (hp : pl = 30 ∨ pl = 35) (D H : Nat → Int32) : ∀ (f i : Nat) (v : Int32) (u : am_U), (∀ b, i ≤ b → b < 5 → u (pl + 2) b = D b ∧ u 12 b = H b) → 0 < i → i ≤ 5 → 5 < i + f → f_X10_countDark_4 pl f v (nI i) u = some (m_su (m_dd D H) (5 - i) i v, am_dk u (m_dd D H) i) := by
  intro f
  induction f with
  | zero => intro i v u _ _ h1 h2; omega
  | succ f ih =>
    intro i v u e h0 h1 h2
    rw [f_X10_countDark_4]
    rcases Nat.lt_or_ge i 5 with q | q
    · obtain ⟨eD, eH⟩ := e i (by omega) q
      rw [if_neg (show ¬ (5 : Int32) ≤ nI i from nI_ge (b := 5) q (by omega)), am_ck_t (am_ix_nI q (by omega)), nI_clamp (by omega), eD, eH, nI_1, show 5 - i = (5 - (i + 1)) + 1 by omega, m_su]
      by_cases c : D i ≤ H i
      · have hd : m_dd D H i = 0 := if_neg (fun z => z.2 c)
        rw [if_pos c, ih (i + 1) v u (fun b z1 z2 => e b (by omega) z2) (by omega) (by omega) (by omega), hd, Int32.add_zero, am_dk_0 q hd]
      · have hd : m_dd D H i = 1 := if_pos ⟨h0, c⟩
        rw [if_neg c, hd]
        show f_X10_countDark_4 pl f (v + 1) (nI (i + 1)) (am_w u 13 i (u 13 i + 1)) = _
        rw [ih (i + 1) (v + 1) _ (fun b z1 z2 => by rw [am_w_n (by omega), am_w_n (by omega)]; exact e b (by omega) z2) (by omega) (by omega) (by omega), ← hd, am_dk_1 q]
    · have : i = 5 := by omega
      subst this
      rw [if_pos (show (5 : Int32) ≤ nI 5 by decide)]
      show some (v, u) = some (v, am_dk u (m_dd D H) 5)
      rw [show am_dk u (m_dd D H) 5 = u from funext fun a => funext fun b => am_dk_n (by omega)]
def am_dm (u : am_U) (d : Nat → Int32) (i : Nat) : am_U := fun a b => if a = 75 ∧ 23 + i ≤ b ∧ b < 28 then u 75 b + d (b - 23) else if a = 75 ∧ 18 + i ≤ b ∧ b < 23 then 0 else u a b
theorem am_dm_w {u : am_U} {d : Nat → Int32} {i : Nat} (h : i < 5) : am_dm (am_w (am_w u 75 (23 + i) (u 75 (23 + i) + d i)) 75 (18 + i) 0) d (i + 1) = am_dm u d i := funext fun a => funext fun b => by
  unfold am_dm
  by_cases q : a = 75
  · subst q
    by_cases q1 : 23 + (i + 1) ≤ b ∧ b < 28
    · rw [if_pos ⟨rfl, q1⟩, if_pos (by omega), am_w_n (by omega), am_w_n (by omega)]
    · rw [if_neg (by omega)]
      by_cases q2 : b = 23 + i
      · rw [if_neg (by omega), am_w_n (by omega), q2, am_w_s, if_pos (by omega), show 23 + i - 23 = i by omega]
      · rw [if_neg (show ¬ (75 = 75 ∧ 23 + i ≤ b ∧ b < 28) by omega)]
        by_cases q3 : 18 + (i + 1) ≤ b ∧ b < 23
        · rw [if_pos ⟨rfl, q3⟩, if_pos (by omega)]
        · rw [if_neg (by omega)]
          by_cases q4 : b = 18 + i
          · rw [q4, am_w_s, if_pos (by omega)]
          · rw [if_neg (by omega), am_w_n (by omega), am_w_n (by omega)]
  · rw [if_neg (by omega), if_neg (by omega), if_neg (by omega), if_neg (by omega), am_w_n (by omega), am_w_n (by omega)]
theorem am_dm_e (u : am_U) (d : Nat → Int32) : am_dm u d 5 = u := funext fun a => funext fun b => by
  unfold am_dm
  rw [if_neg (by omega), if_neg (by omega)]
theorem mdk_lp (D H : Nat → Int32) (v1 : Int32) (K : Int32 → am_U → Option (Int32 × am_U)) : ∀ (f i : Nat) (v : Int32) (u : am_U), (∀ b, i ≤ b → b < 5 → u 68 b = D b ∧ u 75 (18 + b) = H b) → i ≤ 5 → 5 < i + f → f_X11_night_65 v1 K f v (nI i) u = K (m_su (m_dd D H) (5 - i) i v) (am_dm u (m_dd D H) i) := by
  intro f
  induction f with
  | zero => intro i v u _ h1 h2; omega
  | succ f ih =>
    intro i v u e h1 h2
    rw [f_X11_night_65]
    rcases Nat.lt_or_ge i 5 with q | q
    · obtain ⟨eD, eH⟩ := e i (by omega) q
      have hz : ∀ x : Int32, f_X11_night_65 v1 K f (v + x) (nI (i + 1)) (am_w (am_w u 75 (23 + i) (u 75 (23 + i) + x)) 75 (18 + i) 0) = K (m_su (m_dd D H) (5 - (i + 1)) (i + 1) (v + x)) (am_dm (am_w (am_w u 75 (23 + i) (u 75 (23 + i) + x)) 75 (18 + i) 0) (m_dd D H) (i + 1)) := fun x =>
        ih (i + 1) (v + x) _ (fun b z1 z2 => by rw [am_w_n (by omega), am_w_n (by omega), am_w_n (by omega), am_w_n (by omega)]; exact e b (by omega) z2) (by omega) (by omega)
      rw [if_neg (show ¬ (5 : Int32) ≤ nI i from nI_ge (b := 5) q (by omega)), show 5 - i = (5 - (i + 1)) + 1 by omega, m_su, ← am_dm_w q]
      simp only [am_jn, show (23 : Int32) + nI i = nI (23 + i) from nI_add 23 i, show (18 : Int32) + nI i = nI (18 + i) from nI_add 18 i, am_ck_t (am_ix_nI (show 23 + i < 30 by omega) (by omega)), am_ck_t (am_ix_nI (show 18 + i < 30 by omega) (by omega)), am_ck_t (am_ix_nI q (by omega)), nI_clamp (show 23 + i < 2 ^ 31 by omega), nI_clamp (show 18 + i < 2 ^ 31 by omega), nI_clamp (show i < 2 ^ 31 by omega), eD, eH, nI_1]
      by_cases c : 0 < i ∧ ¬ D i ≤ H i
      · have hd : m_dd D H i = 1 := if_pos c
        rw [if_neg (nI_nle c.1 (by omega)), if_neg c.2, hd]
        exact hz 1
      · have hd : m_dd D H i = 0 := if_neg c
        rw [hd]
        by_cases c1 : 0 < i
        · rw [if_neg (nI_nle c1 (by omega)), if_pos (Decidable.not_not.mp fun z => c ⟨c1, z⟩)]
          exact hz 0
        · have : i = 0 := by omega
          subst this
          rw [if_pos (show nI 0 ≤ (0 : Int32) by decide)]
          exact hz 0
    · have : i = 5 := by omega
      subst this
      rw [if_pos (show (5 : Int32) ≤ nI 5 by decide), am_dm_e]; rfl
/-- what a night makes of a scene -/
def m_nt (L d S : Nat → Int32) (n i : Nat) : Int32 := if i < 6 then (if i < n then S i - L i else S i) else if i < 18 then S i else if i < 23 then 0 else if i < 28 then S i + d (i - 23) else if i = 28 then S 28 + 1 else 0
theorem lk_nI (K o : Int32) {m : Nat} (hm : m ≤ 20) : ∃ x, x ≤ m ∧ m_lk K (nI m) o = nI x := by
  unfold m_lk
  split
  · exact ⟨0, by omega, rfl⟩
  · split
    · exact ⟨0, by omega, rfl⟩
    · split
      · refine ⟨(2 * m + 9) / 10, by omega, ?_⟩
        rw [show (2 : Int32) * nI m = nI (2 * m) from nI_mul 2 m, ten_nI (by omega)]
      · exact ⟨(m + 9) / 10, by omega, ten_nI (by omega)⟩
theorem le01 {x : Int32} (h : am_le x 1) : x = 0 ∨ x = 1 := by
  obtain ⟨k, hk, rfl⟩ := h
  rcases (show k = 0 ∨ k = 1 by omega) with rfl | rfl
  · exact Or.inl rfl
  · exact Or.inr rfl
theorem two_night : am_two (fun pl u => f_X10_night pl u) (fun _ u => f_X11_night u) := by
  intro pl hp u hI
  show ∃ v u1 u2, f_X10_night pl u = _ ∧ f_X11_night u1 = _ ∧ _
  obtain ⟨n, hn, e1, e2⟩ := plan_n hI.2.2.2.1
  have hS := hI.2.2.2.2.1
  have hP := hI.2.2.2.1
  obtain ⟨dy, hdy, edy⟩ := hS.2.2.2.2.2
  have e85 : u 8 5 = nI dy := by rw [hS.2.2.1, edy]
  rcases Nat.lt_or_ge dy 999 with hd | hd
  · obtain ⟨L, hL⟩ : ∃ L : Nat → Int32, L = fun b => m_lk (u 69 b) (u 75 b) (u 75 (12 + b)) := ⟨_, rfl⟩
    obtain ⟨H, hH⟩ : ∃ H : Nat → Int32, H = fun b => u 75 (18 + b) := ⟨_, rfl⟩
    obtain ⟨d, hdd⟩ : ∃ d, m_dd (u 68) H = d := ⟨_, rfl⟩
    have hv' : i_vs u (m_nt L d (u 75) n) := by
      refine ⟨fun k hk => ?_, ⟨dy + 1, by omega, ?_⟩⟩
      · obtain ⟨⟨m, hm, em⟩, a2, a3, a4⟩ := hS.2.2.2.2.1 k hk
        have g6 : m_nt L d (u 75) n (6 + k) = u 75 (6 + k) := by unfold m_nt; rw [if_neg (by omega), if_pos (by omega)]
        have g12 : m_nt L d (u 75) n (12 + k) = u 75 (12 + k) := by unfold m_nt; rw [if_neg (by omega), if_pos (by omega)]
        rw [g6, g12]
        by_cases q : k < n
        · obtain ⟨x, hx, ex⟩ := lk_nI (u 69 k) (u 75 (12 + k)) hm
          have gk : m_nt L d (u 75) n k = nI (m - x) := by
            unfold m_nt
            rw [if_pos hk, if_pos q, hL]
            show u 75 k - m_lk (u 69 k) (u 75 k) (u 75 (12 + k)) = _
            rw [em, ex, nI_sub hx]
          rw [gk]
          refine ⟨⟨m - x, by omega, rfl⟩, fun z => ?_, a3, a4⟩
          have := a2 z
          rw [em] at this
          exact Int32.le_trans (nI_le (show m - x ≤ m by omega) (by omega)) this
        · have gk : m_nt L d (u 75) n k = u 75 k := by unfold m_nt; rw [if_pos hk, if_neg q]
          rw [gk]
          exact ⟨⟨m, hm, em⟩, a2, a3, a4⟩
      · show m_nt L d (u 75) n 28 = _
        unfold m_nt
        rw [if_neg (by omega), if_neg (by omega), if_neg (by omega), if_neg (by omega), if_pos rfl, edy, nI_1]
    obtain ⟨w1, r1, o1, K1⟩ := deed_two hp hI 5 hv'
    obtain ⟨z, hz⟩ : ∃ z, m_su d 4 1 0 = z := ⟨_, rfl⟩
    obtain ⟨y, hy⟩ : ∃ y, m_su L n 0 0 = y := ⟨_, rfl⟩
    obtain ⟨x1, hx1⟩ : ∃ x1, am_sb w1 9 L 0 n = x1 := ⟨_, rfl⟩
    obtain ⟨x2, hx2⟩ : ∃ x2, am_dk x1 d 1 = x2 := ⟨_, rfl⟩
    obtain ⟨x3, hx3⟩ : ∃ x3, am_w (am_w (am_fl x2 12 0 5 0) 8 6 0) 8 5 (nI (dy + 1)) = x3 := ⟨_, rfl⟩
    have k1 : f_X10_leakAll pl w1 = some (y, x1) := by
      unfold f_X10_leakAll
      rw [show (0 : Int32) = nI 0 from rfl, clk_lp hp hn L 20000 0 (nI 0) w1 (by rw [o1 pl 2 (by omega) (by omega) (by omega)]; exact e1) (fun b _ hb => ?_) (by omega) (by omega), hx1, ← hy]; rfl
      rw [o1 11 b (by omega) (by omega) (by omega), o1 9 b (by omega) (by omega) (by omega), o1 (pl + 3) b (by omega) (by omega) (by omega), (plan_k hP e2 hn hb).1, (hS.1 b (by omega)).1, (hS.1 b (by omega)).2.2, hL]
      exact ⟨le01 (hS.2.2.2.2.1 b (by omega)).2.2.2, rfl⟩
    have gx1 : ∀ a b, a ≠ 9 → x1 a b = w1 a b := fun a b q => by rw [← hx1, am_sb_n (by omega)]
    have k2 : f_X10_countDark pl x1 = some (z, x2) := by
      unfold f_X10_countDark
      rw [show (1 : Int32) = nI 1 from rfl, cdk_lp hp (u 68) H 20000 1 0 x1 (fun b _ hb => ?_) (by omega) (by omega) (by omega), hdd, hx2, ← hz]
      rw [gx1 _ b (by omega), gx1 12 b (by omega), o1 _ b (by omega) (by omega) (by omega), o1 12 b (by omega) (by omega) (by omega), hH]
      exact ⟨(hP.2.2.2.2.2.1 b hb).1, (hS.2.1 b hb).1⟩
    have gx2 : ∀ a b, a ≠ 9 → a ≠ 13 → x2 a b = w1 a b := fun a b q q2 => by rw [← hx2, am_dk_n (by omega), gx1 a b q]
    have k3 : f_X9_startDay x2 = some x3 := by
      unfold f_X9_startDay
      rw [fill_eq 12 5 0 x2 (by omega)]
      show some (am_w (am_w (am_fl x2 12 0 5 0) 8 6 0) 8 5 (am_w (am_fl x2 12 0 5 0) 8 6 0 8 5 + 1)) = _
      rw [am_w_n (show ¬ (8 = 8 ∧ 5 = 6) by omega), am_fl_n (by omega), gx2 8 5 (by omega) (by omega), o1 8 5 (by omega) (by omega) (by omega), e85, nI_1, hx3]
    have gx3 : ∀ a b, ¬ (8 ≤ a ∧ a ≤ 13) → x3 a b = w1 a b := fun a b q => by rw [← hx3, am_w_n (by omega), am_w_n (by omega), am_fl_n (by omega), gx2 a b (by omega) (by omega)]
    have hE : f_X10_night pl u = some (y, am_w x3 4 13 z) := by
      unfold f_X10_night
      rw [e85, if_pos (show nI dy < (999 : Int32) from nI_lt (b := 999) hd (by omega)), r1, obs, k1, obs]
      show (f_X10_countDark pl x1).bind _ = _
      rw [k2, obs]
      show (f_X9_startDay x2).bind _ = _
      rw [k3]; rfl
    obtain ⟨w2, r2, o2, K2⟩ := K1 (am_w x3 4 13 z) (fun a b q1 q2 => by rw [am_w_n q2, gx3 a b q1]) (fun i hi => by
      rw [sc_fr (u := x3) (fun a b q => am_w_n (by omega))]
      unfold m_sc m_nt
      by_cases c1 : i < 6
      · rw [if_pos c1, if_pos c1, ← hx3, am_w_n (by omega), am_w_n (by omega), am_fl_n (by omega), ← hx2, am_dk_n (by omega), ← hx1]
        by_cases c : i < n
        · rw [if_pos c]
          show (if 9 = 9 ∧ 0 ≤ i ∧ i < n then w1 9 i - L i else w1 9 i) = _
          rw [if_pos (by omega), o1 9 i (by omega) (by omega) (by omega), (hS.1 i c1).1]
        · rw [if_neg c, am_sb_n (by omega), o1 9 i (by omega) (by omega) (by omega), (hS.1 i c1).1]
      · rw [if_neg c1, if_neg c1]
        by_cases c2 : i < 12
        · rw [if_pos c2, if_pos (by omega), ← hx3, am_w_n (by omega), am_w_n (by omega), am_fl_n (by omega), gx2 _ _ (by omega) (by omega), o1 _ _ (by omega) (by omega) (by omega), (hS.1 (i - 6) (by omega)).2.1, show 6 + (i - 6) = i by omega]
        · rw [if_neg c2]
          by_cases c3 : i < 18
          · rw [if_pos c3, if_pos c3, ← hx3, am_w_n (by omega), am_w_n (by omega), am_fl_n (by omega), gx2 _ _ (by omega) (by omega), o1 _ _ (by omega) (by omega) (by omega), (hS.1 (i - 12) (by omega)).2.2, show 12 + (i - 12) = i by omega]
          · rw [if_neg c3, if_neg c3]
            by_cases c4 : i < 23
            · rw [if_pos c4, if_pos c4, ← hx3, am_w_n (by omega), am_w_n (by omega), am_fl_s (by omega)]
            · rw [if_neg c4, if_neg c4]
              by_cases c5 : i < 28
              · rw [if_pos c5, if_pos c5, ← hx3, am_w_n (by omega), am_w_n (by omega), am_fl_n (by omega), ← hx2]
                by_cases c6 : 1 ≤ i - 23
                · show (if 13 = 13 ∧ 1 ≤ i - 23 ∧ i - 23 < 5 then x1 13 (i - 23) + d (i - 23) else x1 13 (i - 23)) = _
                  rw [if_pos (by omega), gx1 _ _ (by omega), o1 _ _ (by omega) (by omega) (by omega), (hS.2.1 (i - 23) (by omega)).2, show 23 + (i - 23) = i by omega]
                · have d0 : d 0 = 0 := by rw [← hdd]; exact if_neg (fun z => Nat.lt_irrefl 0 z.1)
                  rw [am_dk_n (by omega), gx1 _ _ (by omega), o1 _ _ (by omega) (by omega) (by omega), (hS.2.1 (i - 23) (by omega)).2, show i - 23 = 0 by omega, d0, Int32.add_zero, show 23 + 0 = i by omega]
              · rw [if_neg c5, if_neg c5]
                by_cases c6 : i = 28
                · rw [if_pos c6, if_pos c6, ← hx3, am_w_s, edy, nI_1]
                · rw [if_neg c6, if_neg c6, ← hx3, am_w_n (by omega), am_w_s])
    have g : ∀ a b, ¬ (8 ≤ a ∧ a ≤ 13) → a ≠ 14 → a ≠ 16 → a ≠ 17 → ¬ (a = 4 ∧ b = 13) → am_w x3 4 13 z a b = u a b := fun a b z1 z2 z3 z4 z5 => by rw [am_w_n z5, gx3 a b z1, o1 a b z2 z3 z4]
    have g2 : ∀ a b, ¬ (8 ≤ a ∧ a ≤ 13) → a ≠ 14 → a ≠ 16 → a ≠ 17 → ¬ (a = 4 ∧ b = 13) → a ≠ 76 → ¬ (a = 60 ∧ b = 26) → w2 a b = u a b := fun a b z1 z2 z3 z4 z5 z6 z7 => by rw [o2 a b z6 z7, g a b z1 z2 z3 z4 z5]
    have g75 : w2 75 = u 75 := funext fun b => g2 75 b (by omega) (by omega) (by omega) (by omega) (by omega) (by omega) (by omega)
    obtain ⟨y1, hy1⟩ : ∃ y1, am_sb w2 75 L 0 n = y1 := ⟨_, rfl⟩
    obtain ⟨y2, hy2⟩ : ∃ y2, am_dm y1 d 0 = y2 := ⟨_, rfl⟩
    have gy1 : ∀ a b, a ≠ 75 → y1 a b = w2 a b := fun a b q => by rw [← hy1, am_sb_n (by omega)]
    have gy1' : ∀ b, 6 ≤ b → y1 75 b = u 75 b := fun b q => by rw [← hy1, am_sb_n (by omega), g75]
    have gy2 : ∀ a b, a ≠ 75 → y2 a b = w2 a b := fun a b q => by rw [← hy2]; unfold am_dm; rw [if_neg (by omega), if_neg (by omega), gy1 a b q]
    have hd5 : m_su d 5 0 0 = z := by
      rw [m_su, show d 0 = 0 from by rw [← hdd]; exact if_neg (fun z => Nat.lt_irrefl 0 z.1), ← hz]; rfl
    have y228 : y2 75 28 = nI dy := by rw [← hy2]; unfold am_dm; rw [if_neg (by omega), if_neg (by omega), gy1' 28 (by omega), edy]
    have hMn : f_X11_night (am_w x3 4 13 z) = some (y, am_w (am_w (am_w y2 75 28 (nI (dy + 1))) 75 29 0) 60 2 z) := by
      unfold f_X11_night
      rw [g 75 28 (by omega) (by omega) (by omega) (by omega) (by omega), edy, if_pos (show ¬ nI dy = 999 from fun q => absurd ((nI_eq (by omega) (by omega)).mp (show nI dy = nI 999 from q)) (by omega)), r2, obs, show (0 : Int32) = nI 0 from rfl]
      rw [mlk_lp hn L _ 20000 0 (nI 0) w2 (by rw [g2 60 12 (by omega) (by omega) (by omega) (by omega) (by omega) (by omega) (by omega)]; exact e2) (fun b _ hb => ?_) (by omega) (by omega)]
      · show f_X11_night_65 (m_su L (n - 0) 0 (nI 0)) _ 20000 (nI 0) (nI 0) (am_sb w2 75 L 0 n) = _
        rw [hy1, mdk_lp (u 68) H _ _ 20000 0 (nI 0) y1 (fun b _ hb => ?_) (by omega) (by omega), hdd, hy2]
        · show some (m_su L n 0 0, am_w (am_w (am_w y2 75 28 (y2 75 28 + 1)) 75 29 0) 60 2 (m_su d 5 0 0)) = _
          rw [hd5, hy, y228, nI_1]; rfl
        · rw [gy1 68 b (by omega), gy1' _ (by omega), g2 68 b (by omega) (by omega) (by omega) (by omega) (by omega) (by omega) (by omega), hH]
          exact ⟨rfl, rfl⟩
      · rw [g75, g2 69 b (by omega) (by omega) (by omega) (by omega) (by omega) (by omega) (by omega), hL]
        exact ⟨le01 (hS.2.2.2.2.1 b (by omega)).2.2.2, rfl⟩
    refine ⟨y, _, _, hE, hMn, K2 _ (fun a b z1 z2 => by rw [am_w_n z2, am_w_n (by omega), am_w_n (by omega), gy2 a b z1]) (fun i hi => ?_) ?_⟩
    · rw [am_w_n (by omega), w75, w75]
      unfold m_nt
      by_cases c0 : i = 29
      · rw [c0, pu_s]; rfl
      · rw [pu_n c0]
        by_cases c1 : i = 28
        · rw [c1, pu_s, if_neg (by omega), if_neg (by omega), if_neg (by omega), if_neg (by omega), if_pos rfl, edy, nI_1]
        · rw [pu_n c1, ← hy2]
          unfold am_dm
          by_cases c2 : i < 6
          · rw [if_neg (by omega), if_neg (by omega), if_pos c2, ← hy1]
            unfold am_sb
            rw [g75]
            by_cases c3 : i < n
            · rw [if_pos (by omega), if_pos c3]
            · rw [if_neg (by omega), if_neg c3]
          · rw [if_neg c2]
            by_cases c3 : i < 18
            · rw [if_neg (by omega), if_neg (by omega), if_pos c3, gy1' i (by omega)]
            · rw [if_neg c3]
              by_cases c4 : i < 23
              · rw [if_neg (by omega), if_pos (by omega), if_pos c4]
              · rw [if_neg c4, if_pos (by omega), if_pos (by omega), gy1' i (by omega)]
    · refine msg_tell (u := u) (z := z) hI.1 ?_ (am_w_s _ _ _ _) (fun a b q z1 z2 => ?_)
      · rw [am_w_n (by omega), am_w_n (by omega), am_w_n (by omega), gy2 4 13 (by omega), o2 4 13 (by omega) (by omega), am_w_s]
      · unfold c_msg at q
        rw [am_w_n (by omega), am_w_n (by omega), am_w_n (by omega), gy2 a b (by omega), g2 a b (by omega) (by omega) (by omega) (by omega) z1 (by omega) (by omega)]
  · have : dy = 999 := by omega
    subst this
    refine ⟨-2, u, u, ?_, ?_, hI, fun _ _ => rfl⟩
    · unfold f_X10_night; rw [e85, if_neg (show ¬ nI 999 < (999 : Int32) by decide)]
    · unfold f_X11_night; rw [edy, if_neg (fun q => q rfl)]
theorem ok_night {l : Launch} {g : am_G} : am_ok l g d_X10_night d_X11_night [] am_isI := ok_II (fun B pl hL u => s_X10_night hL u) (fun B pl hL u => s_X11_night hL u) two_night
