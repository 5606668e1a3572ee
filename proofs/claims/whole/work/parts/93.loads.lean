/-! loads: who lights what -/
def l_tl (H : Nat → Nat → Int32) (D : Nat → Nat) (p : Nat) : Nat → Int32
  | 0 => 0
  | k + 1 => l_tl H D p k + (if D k = p then H k p else 0)
def l_cd (D : Nat → Nat) : Nat → Nat
  | 0 => 0
  | k + 1 => 5 * l_cd D k + D k
def l_ld (D : Nat → Nat) : Nat → Nat
  | 0 => 0
  | k + 1 => l_ld D k + (if D k = 0 then 0 else 1)
def l_1 (N T : Nat → Int32) (p : Nat) : Nat := if N p ≤ 0 then 0 else if T p < N p then 0 else 1
def l_s (N T : Nat → Int32) : Nat → Nat → Nat
  | 0, _ => 0
  | m + 1, p => l_1 N T p + l_s N T m (p + 1)
theorem l1_le (N T : Nat → Int32) (p : Nat) : l_1 N T p ≤ 1 := by unfold l_1; split; (· omega); (· split <;> omega)
theorem ls_4 (N T : Nat → Int32) : l_s N T 4 1 = l_1 N T 1 + (l_1 N T 2 + (l_1 N T 3 + (l_1 N T 4 + 0))) := rfl
theorem ls_le (N T : Nat → Int32) : l_s N T 4 1 ≤ 4 := by
  rw [ls_4]
  have := l1_le N T 1
  have := l1_le N T 2
  have := l1_le N T 3
  have := l1_le N T 4
  omega
theorem l1_c {N T S : Nat → Int32} {p : Nat} (h : T p = S p) : l_1 N T p = l_1 N S p := by unfold l_1; rw [h]
theorem ls_c {N T S : Nat → Int32} (h : ∀ p, 0 < p → p < 5 → T p = S p) : l_s N T 4 1 = l_s N S 4 1 := by
  rw [ls_4, ls_4, l1_c (h 1 (by omega) (by omega)), l1_c (h 2 (by omega) (by omega)), l1_c (h 3 (by omega) (by omega)), l1_c (h 4 (by omega) (by omega))]
theorem tl_c {H : Nat → Nat → Int32} {D E : Nat → Nat} {p : Nat} : ∀ n, (∀ k, k < n → D k = E k) → l_tl H D p n = l_tl H E p n := by
  intro n
  induction n with
  | zero => intro _; rfl
  | succ n ih => intro h; rw [l_tl, l_tl, ih (fun k hk => h k (by omega)), h n (by omega)]
theorem cd_c {D E : Nat → Nat} : ∀ n, (∀ k, k < n → D k = E k) → l_cd D n = l_cd E n := by
  intro n
  induction n with
  | zero => intro _; rfl
  | succ n ih => intro h; rw [l_cd, l_cd, ih (fun k hk => h k (by omega)), h n (by omega)]
theorem ld_c {D E : Nat → Nat} : ∀ n, (∀ k, k < n → D k = E k) → l_ld D n = l_ld E n := by
  intro n
  induction n with
  | zero => intro _; rfl
  | succ n ih => intro h; rw [l_ld, l_ld, ih (fun k hk => h k (by omega)), h n (by omega)]
theorem ld_le (D : Nat → Nat) : ∀ n, l_ld D n ≤ n := by
  intro n
  induction n with
  | zero => exact Nat.le_refl 0
  | succ n ih => rw [l_ld]; split <;> omega
theorem cd_lt {D : Nat → Nat} : ∀ n, (∀ k, k < n → D k ≤ 4) → l_cd D n < 5 ^ n := by
  intro n
  induction n with
  | zero => intro _; exact Nat.one_pos
  | succ n ih =>
    intro h
    have := ih (fun k hk => h k (by omega))
    have := h n (by omega)
    rw [l_cd, Nat.pow_succ]
    omega
theorem cd_inj {D E : Nat → Nat} : ∀ n, (∀ k, k < n → D k ≤ 4) → (∀ k, k < n → E k ≤ 4) → l_cd D n = l_cd E n → ∀ k, k < n → D k = E k := by
  intro n
  induction n with
  | zero => intro _ _ _ k hk; omega
  | succ n ih =>
    intro h1 h2 h k hk
    have := h1 n (by omega)
    have := h2 n (by omega)
    rw [l_cd, l_cd] at h
    rcases Nat.lt_or_ge k n with q | q
    · exact ih (fun k hk => h1 k (by omega)) (fun k hk => h2 k (by omega)) (by omega) k q
    · rw [show k = n by omega]; omega
theorem cd_ex : ∀ n c, c < 5 ^ n → ∃ D : Nat → Nat, (∀ k, D k ≤ 4) ∧ l_cd D n = c := by
  intro n
  induction n with
  | zero =>
    intro c h
    have h : c < 1 := h
    exact ⟨fun _ => 0, fun _ => Nat.zero_le 4, show 0 = c by omega⟩
  | succ n ih =>
    intro c h
    rw [Nat.pow_succ] at h
    obtain ⟨D, d1, d2⟩ := ih (c / 5) (by omega)
    refine ⟨fun k => if k = n then c % 5 else D k, fun k => ?_, ?_⟩
    · show (if k = n then c % 5 else D k) ≤ 4
      split
      · omega
      · exact d1 k
    · rw [l_cd, cd_c (E := D) n (fun k hk => if_neg (by omega)), d2]
      show 5 * (c / 5) + (if n = n then c % 5 else D n) = c
      rw [if_pos rfl]; omega
theorem pow5 {n : Nat} (h : n ≤ 6) : 5 ^ n ≤ 15625 := Nat.pow_le_pow_right (n := 5) (by omega) h
/-- what a way to load costs -/
def l_P (n : Nat) (H : Nat → Nat → Int32) (N : Nat → Int32) (D : Nat → Nat) : Int := 15625 * (l_ld D n : Int) + (l_cd D n : Int) - 1000000 * (l_s N (fun p => l_tl H D p n) 4 1 : Int)
theorem P_c {n : Nat} {H : Nat → Nat → Int32} {N : Nat → Int32} {D E : Nat → Nat} (h : ∀ k, k < n → D k = E k) : l_P n H N D = l_P n H N E := by
  unfold l_P
  rw [ld_c n h, cd_c n h, ls_c (N := N) (T := fun p => l_tl H D p n) (S := fun p => l_tl H E p n) (fun p _ _ => tl_c n h)]
theorem rl2_lp (a : Int32) (K : am_U → Option (Int32 × am_U)) : ∀ (f i : Nat) (u : am_U), i ≤ 5 → 5 < i + f → f_X11_lit_2 a K f (nI i) u = K (am_fl u 79 i 5 0) := by
  intro f
  induction f with
  | zero => intro i u h1 h2; omega
  | succ f ih =>
    intro i u h1 h2
    rw [f_X11_lit_2]
    rcases Nat.lt_or_ge i 5 with q | q
    · rw [if_neg (show ¬ (5 : Int32) ≤ nI i from nI_ge (b := 5) q (by omega)), am_ck_t (am_ix_nI (show i < 5 by omega) (by omega)), nI_clamp (by omega), nI_1]
      show f_X11_lit_2 a K f (nI (i + 1)) (am_w u 79 i 0) = _
      rw [ih (i + 1) _ (by omega) (by omega), am_fl_w (by omega)]
    · have : i = 5 := by omega
      subst this
      rw [if_pos (show (5 : Int32) ≤ nI 5 by decide), am_fl_e]
theorem rl34_lp {D : Nat → Nat} {H : Nat → Nat → Int32} (K : am_U → Option (Int32 × am_U)) : ∀ (k f : Nat) (u : am_U), (∀ j, j < k → D j ≤ 4) → (∀ j p, H j p = m_hb (u 69) (u 70) j p) → k ≤ 6 → k < f → ∃ w, f_X11_lit_34 K f (nI (l_cd D k)) (nI k - 1) u = K w ∧ (∀ p, 0 < p → p < 5 → w 79 p = u 79 p + l_tl H D p k) ∧ w 60 31 = u 60 31 + nI (l_ld D k) ∧ ∀ a b, a ≠ 79 → ¬ (a = 60 ∧ b = 31) → w a b = u a b := by
  intro k
  induction k with
  | zero =>
    intro f u _ _ _ hf
    obtain ⟨f, rfl⟩ : ∃ x, f = x + 1 := ⟨f - 1, by omega⟩
    rw [f_X11_lit_34, if_pos (show nI 0 - 1 < 0 by decide)]
    exact ⟨u, rfl, fun p _ _ => by rw [l_tl, Int32.add_zero], by rw [l_ld]; exact (Int32.add_zero _).symm, fun _ _ _ _ => rfl⟩
  | succ k ih =>
    intro f u hD hH hk hf
    obtain ⟨f, rfl⟩ : ∃ x, f = x + 1 := ⟨f - 1, by omega⟩
    have hd := hD k (by omega)
    have h5 := pow5 hk
    have hc : l_cd D (k + 1) < 5 ^ (k + 1) := cd_lt (k + 1) hD
    obtain ⟨d, ed⟩ : ∃ d, D k = d := ⟨_, rfl⟩
    rw [ed] at hd
    have hcd : l_cd D (k + 1) = 5 * l_cd D k + d := by rw [l_cd, ed]
    rw [f_X11_lit_34, nI_pred, if_neg (nI_pos (show k < 2 ^ 31 by omega)), show nI (l_cd D (k + 1)) - nI (l_cd D (k + 1)) / 5 * 5 = nI (l_cd D (k + 1) % 5) from pk_rem (d := 5) (by omega) (by omega) (by omega), show nI (l_cd D (k + 1)) / 5 = nI (l_cd D (k + 1) / 5) from pk_div (d := 5) (by omega) (by omega) (by omega), show l_cd D (k + 1) % 5 = d by omega, show l_cd D (k + 1) / 5 = l_cd D k by omega, am_ck_t (am_ix_nI (show d < 5 by omega) (by omega)), nI_clamp (show d < 2 ^ 31 by omega), ← Int32.sub_eq_add_neg, jn_eq]
    dsimp only
    by_cases z : d = 0
    · subst z
      rw [if_neg (fun q => q rfl), if_neg (fun q => q rfl)]
      obtain ⟨w, w1, w2, w3, w4⟩ := ih f (am_w (am_w u 79 0 (u 79 0 + 0)) 60 31 ((am_w u 79 0 (u 79 0 + 0)) 60 31 + 0)) (fun j hj => hD j (by omega)) (fun j p => by rw [am_w_c (by omega), am_w_c (by omega), am_w_c (by omega), am_w_c (by omega)]; exact hH j p) (by omega) (by omega)
      refine ⟨w, w1, fun p h0 h1 => ?_, ?_, fun a b z1 z2 => by rw [w4 a b z1 z2, am_w_n z2, am_w_n (by omega)]⟩
      · rw [w2 p h0 h1, am_w_n (by omega), am_w_n (by omega), l_tl, if_neg (by omega), Int32.add_zero]
      · rw [w3, am_w_s, am_w_n (by omega), l_ld, if_pos ed, Int32.add_zero, Nat.add_zero]
    · rw [if_pos (nI_ne0 (by omega) (by omega)), mhb_eq (by omega) (show d < 5 by omega), obs, if_pos (nI_ne0 (by omega) (by omega)), ← hH k d]
      obtain ⟨w, w1, w2, w3, w4⟩ := ih f (am_w (am_w u 79 d (u 79 d + H k d)) 60 31 ((am_w u 79 d (u 79 d + H k d)) 60 31 + 1)) (fun j hj => hD j (by omega)) (fun j p => by rw [am_w_c (by omega), am_w_c (by omega), am_w_c (by omega), am_w_c (by omega)]; exact hH j p) (by omega) (by omega)
      refine ⟨w, w1, fun p h0 h1 => ?_, ?_, fun a b z1 z2 => by rw [w4 a b z1 z2, am_w_n z2, am_w_n (by omega)]⟩
      · rw [w2 p h0 h1, am_w_n (by omega), am_w_ap, l_tl, ed]
        by_cases c : d = p
        · rw [if_pos ⟨rfl, c.symm⟩, if_pos c, c, Int32.add_assoc, Int32.add_comm (H k p)]
        · rw [if_neg (by omega), if_neg c, Int32.add_zero]
      · rw [w3, am_w_s, am_w_n (by omega), l_ld, if_neg (by omega), ← nI_1 (l_ld D k), Int32.add_assoc, Int32.add_comm 1]
theorem rl103_lp (u : am_U) : ∀ (m p f v : Nat), p + m = 5 → m < f → f_X11_lit_103 u f (nI v) (nI p) = some (nI (v + l_s (u 68) (u 79) m p), u) := by
  intro m
  induction m with
  | zero =>
    intro p f v hp hf
    obtain ⟨f, rfl⟩ : ∃ x, f = x + 1 := ⟨f - 1, by omega⟩
    rw [f_X11_lit_103, if_pos (show (5 : Int32) ≤ nI p from nI_le (a := 5) (by omega) (by omega))]
    rfl
  | succ m ih =>
    intro p f v hp hf
    obtain ⟨f, rfl⟩ : ∃ x, f = x + 1 := ⟨f - 1, by omega⟩
    have h0 := ih (p + 1) f v (by omega) (by omega)
    have h1 := ih (p + 1) f (v + 1) (by omega) (by omega)
    rw [f_X11_lit_103, if_neg (show ¬ (5 : Int32) ≤ nI p from nI_ge (b := 5) (by omega) (by omega)), am_ck_t (am_ix_nI (show p < 5 by omega) (by omega)), nI_clamp (show p < 2 ^ 31 by omega), jn_eq, Int32.add_zero, nI_1, nI_1, l_s]
    unfold l_1
    by_cases c : u 68 p ≤ 0
    · rw [if_pos c, if_pos c, h0, Nat.zero_add]
    · rw [if_neg c, if_neg c]
      by_cases e : u 79 p < u 68 p
      · rw [if_pos e, if_pos e, h0, Nat.zero_add]
      · rw [if_neg e, if_neg e, h1, Nat.add_assoc]
theorem rlit_eq {n : Nat} {D : Nat → Nat} {H : Nat → Nat → Int32} {N : Nat → Int32} {u : am_U} (hn : n ≤ 6) (e2 : u 60 12 = nI n) (hD : ∀ j, j < n → D j ≤ 4) (hH : ∀ j p, H j p = m_hb (u 69) (u 70) j p) (hN : N = u 68) : ∃ w, f_X11_lit (nI (l_cd D n)) u = some (nI (l_s N (fun p => l_tl H D p n) 4 1), w) ∧ w 60 31 = nI (l_ld D n) ∧ ∀ a b, a ≠ 79 → ¬ (a = 60 ∧ b = 31) → w a b = u a b := by
  obtain ⟨w, w1, w2, w3, w4⟩ := rl34_lp (D := D) (H := H) (fun c11u => f_X11_lit_103 c11u 20000 0 1) n 20000 (am_w (am_fl u 79 0 5 0) 60 31 0) hD (fun j p => by rw [am_w_c (by omega), am_w_c (by omega), am_fl_c (by omega), am_fl_c (by omega)]; exact hH j p) hn (by omega)
  have w4' : ∀ a b, a ≠ 79 → ¬ (a = 60 ∧ b = 31) → w a b = u a b := fun a b z1 z2 => by rw [w4 a b z1 z2, am_w_n z2, am_fl_n (by omega)]
  refine ⟨w, ?_, by rw [w3, am_w_s, Int32.zero_add], w4'⟩
  unfold f_X11_lit
  refine (rl2_lp _ _ 20000 0 u (by omega) (by omega)).trans ?_
  show f_X11_lit_34 (fun c11u => f_X11_lit_103 c11u 20000 0 1) 20000 (nI (l_cd D n)) (am_w (am_fl u 79 0 5 0) 60 31 0 60 12 - 1) (am_w (am_fl u 79 0 5 0) 60 31 0) = _
  rw [am_w_n (by omega), am_fl_n (by omega), e2, w1]
  refine (rl103_lp w 4 1 20000 0 rfl (by omega)).trans ?_
  rw [Nat.zero_add, show w 68 = N from (funext fun b => w4' 68 b (by omega) (by omega)).trans hN.symm, ls_c (N := N) (T := w 79) (S := fun p => l_tl H D p n) (fun p h0 h1 => by rw [w2 p h0 h1, am_w_n (by omega), am_fl_s (by omega), Int32.zero_add])]
theorem r42_lp {n : Nat} {H : Nat → Nat → Int32} {N : Nat → Int32} (hn : n ≤ 6) (K : Int32 → Int32 → am_U → Option (Int32 × am_U)) : ∀ (f c : Nat) (B : Nat → Nat) (u : am_U), u 60 12 = nI n → (∀ j p, H j p = m_hb (u 69) (u 70) j p) → N = u 68 → (∀ j, B j ≤ 4) → l_cd B n < c → (∀ D : Nat → Nat, (∀ j, D j ≤ 4) → l_cd D n < c → l_P n H N B ≤ l_P n H N D) → c ≤ 5 ^ n → 5 ^ n < c + f → ∃ w E, f_X11_loads_42 (nI (5 ^ n)) K f (nI (l_s N (fun p => l_tl H B p n) 4 1)) (nI (l_ld B n)) (nI (l_cd B n)) (nI c) u = K (nI (l_s N (fun p => l_tl H E p n) 4 1)) (nI (l_cd E n)) w ∧ (∀ j, E j ≤ 4) ∧ (∀ D : Nat → Nat, (∀ j, D j ≤ 4) → l_P n H N E ≤ l_P n H N D) ∧ ∀ a b, a ≠ 79 → ¬ (a = 60 ∧ b = 31) → w a b = u a b := by
  have h5 := pow5 hn
  intro f
  induction f with
  | zero => intro c B u _ _ _ _ _ _ h1 h2; omega
  | succ f ih =>
    intro c B u e2 hH hN hB hBc hmin h1 h2
    rw [f_X11_loads_42]
    rcases Nat.lt_or_ge c (5 ^ n) with q | q
    · obtain ⟨D, d1, d2⟩ := cd_ex n c q
      obtain ⟨w, w1, w2, w3⟩ := rlit_eq (N := N) hn e2 (fun j _ => d1 j) hH hN
      rw [d2] at w1
      have e2' : w 60 12 = nI n := by rw [w3 _ _ (by omega) (by omega)]; exact e2
      have hH' : ∀ j p, H j p = m_hb (w 69) (w 70) j p := fun j p => by
        rw [show w 69 = u 69 from funext fun b => w3 69 b (by omega) (by omega), show w 70 = u 70 from funext fun b => w3 70 b (by omega) (by omega)]; exact hH j p
      have hN' : N = w 68 := hN.trans (funext fun b => (w3 68 b (by omega) (by omega)).symm)
      have b1 := ls_le N (fun p => l_tl H B p n)
      have b2 := ls_le N (fun p => l_tl H D p n)
      have b3 := ld_le B n
      have b4 := ld_le D n
      have take : l_P n H N D ≤ l_P n H N B → ∃ w' E, f_X11_loads_42 (nI (5 ^ n)) K f (nI (l_s N (fun p => l_tl H D p n) 4 1)) (nI (l_ld D n)) (nI c) (nI (c + 1)) w = K (nI (l_s N (fun p => l_tl H E p n) 4 1)) (nI (l_cd E n)) w' ∧ (∀ j, E j ≤ 4) ∧ (∀ D : Nat → Nat, (∀ j, D j ≤ 4) → l_P n H N E ≤ l_P n H N D) ∧ ∀ a b, a ≠ 79 → ¬ (a = 60 ∧ b = 31) → w' a b = u a b := fun hle => by
        obtain ⟨w', E, x1, x2, x3, x4⟩ := ih (c + 1) D w e2' hH' hN' d1 (by omega) (fun X hX hXc => by
          rcases Nat.lt_or_ge (l_cd X n) c with y | y
          · exact Int.le_trans hle (hmin X hX y)
          · rw [P_c (n := n) (cd_inj n (fun k _ => hX k) (fun k _ => d1 k) (by omega))]; exact Int.le_refl _) (by omega) (by omega)
        rw [d2] at x1
        exact ⟨w', E, x1, x2, x3, fun a b z1 z2 => by rw [x4 a b z1 z2, w3 a b z1 z2]⟩
      have keep : l_P n H N B ≤ l_P n H N D → ∃ w' E, f_X11_loads_42 (nI (5 ^ n)) K f (nI (l_s N (fun p => l_tl H B p n) 4 1)) (nI (l_ld B n)) (nI (l_cd B n)) (nI (c + 1)) w = K (nI (l_s N (fun p => l_tl H E p n) 4 1)) (nI (l_cd E n)) w' ∧ (∀ j, E j ≤ 4) ∧ (∀ D : Nat → Nat, (∀ j, D j ≤ 4) → l_P n H N E ≤ l_P n H N D) ∧ ∀ a b, a ≠ 79 → ¬ (a = 60 ∧ b = 31) → w' a b = u a b := fun hle => by
        obtain ⟨w', E, x1, x2, x3, x4⟩ := ih (c + 1) B w e2' hH' hN' hB (by omega) (fun X hX hXc => by
          rcases Nat.lt_or_ge (l_cd X n) c with y | y
          · exact hmin X hX y
          · rw [P_c (n := n) (cd_inj n (fun k _ => hX k) (fun k _ => d1 k) (by omega))]; exact hle) (by omega) (by omega)
        exact ⟨w', E, x1, x2, x3, fun a b z1 z2 => by rw [x4 a b z1 z2, w3 a b z1 z2]⟩
      rw [if_neg (nI_ge q (by omega)), w1, obs, jn_eq, nI_1]
      dsimp only
      unfold l_P at take keep
      rw [d2] at take keep
      by_cases c1 : l_s N (fun p => l_tl H B p n) 4 1 < l_s N (fun p => l_tl H D p n) 4 1
      · rw [if_pos (nI_lt c1 (by omega)), w2]
        exact take (by omega)
      · rw [if_neg (nI_nlt (by omega) (by omega))]
        by_cases c2 : l_s N (fun p => l_tl H D p n) 4 1 = l_s N (fun p => l_tl H B p n) 4 1
        · rw [if_neg (fun z => z (congrArg nI c2))]
          by_cases c3 : l_ld B n ≤ l_ld D n
          · rw [if_pos (show nI (l_ld B n) ≤ w 60 31 by rw [w2]; exact nI_le c3 (by omega))]
            exact keep (by omega)
          · rw [if_neg (show ¬ nI (l_ld B n) ≤ w 60 31 by rw [w2]; exact nI_ge (by omega) (by omega)), w2]
            exact take (by omega)
        · rw [if_pos (fun z => c2 ((nI_eq (by omega) (by omega)).mp z))]
          exact keep (by omega)
    · have : c = 5 ^ n := by omega
      rw [if_pos (nI_le (show 5 ^ n ≤ c by omega) (by omega))]
      exact ⟨u, B, rfl, hB, fun D hD => hmin D hD (by have := cd_lt (D := D) n (fun k _ => hD k); omega), fun _ _ _ _ => rfl⟩
theorem r14_lp {n : Nat} {u : am_U} (hn : n ≤ 6) (e2 : u 60 12 = nI n) (K : Int32 → Option (Int32 × am_U)) : ∀ (f k : Nat), k ≤ n → n < k + f → f_X11_loads_14 u K f (nI (5 ^ k)) (nI k) = K (nI (5 ^ n)) := by
  intro f
  induction f with
  | zero => intro k h1 h2; omega
  | succ f ih =>
    intro k h1 h2
    rw [f_X11_loads_14, e2]
    rcases Nat.lt_or_ge k n with q | q
    · rw [if_neg (nI_ge q (by omega)), nI_1, show nI (5 ^ k) * 5 = nI (5 ^ (k + 1)) from (nI_mul (5 ^ k) 5).trans (congrArg nI (Nat.pow_succ 5 k).symm)]
      exact ih (k + 1) (by omega) (by omega)
    · rw [if_pos (nI_le (show n ≤ k by omega) (by omega)), show k = n by omega]
theorem m1_lt {s : Nat} (h : s < 2 ^ 31) : (-1 : Int32) < nI s := by
  rw [Int32.lt_iff_toInt_lt, nI_toInt h, show (-1 : Int32).toInt = -1 from by decide]
  omega
/-- what the reference answers -/
theorem rlo_eq {n : Nat} {H : Nat → Nat → Int32} {N : Nat → Int32} {u : am_U} (hn : n ≤ 6) (hn0 : 0 < n) (e2 : u 60 12 = nI n) (hH : ∀ j p, H j p = m_hb (u 69) (u 70) j p) (hN : N = u 68) : ∃ w E, f_X11_loads u = some (nI (l_s N (fun p => l_tl H E p n) 4 1), am_w w 60 2 (nI (l_cd E n))) ∧ (∀ j, E j ≤ 4) ∧ (∀ D : Nat → Nat, (∀ j, D j ≤ 4) → l_P n H N E ≤ l_P n H N D) ∧ ∀ a b, a ≠ 79 → ¬ (a = 60 ∧ b = 31) → w a b = u a b := by
  have h5 := pow5 hn
  have h50 : 0 < 5 ^ n := Nat.pow_pos (by omega)
  obtain ⟨D, d1, d2⟩ := cd_ex n 0 h50
  obtain ⟨w, w1, w2, w3⟩ := rlit_eq (N := N) hn e2 (fun j _ => d1 j) hH hN
  rw [d2] at w1
  have e2' : w 60 12 = nI n := by rw [w3 _ _ (by omega) (by omega)]; exact e2
  have hH' : ∀ j p, H j p = m_hb (w 69) (w 70) j p := fun j p => by
    rw [show w 69 = u 69 from funext fun b => w3 69 b (by omega) (by omega), show w 70 = u 70 from funext fun b => w3 70 b (by omega) (by omega)]; exact hH j p
  have hN' : N = w 68 := hN.trans (funext fun b => (w3 68 b (by omega) (by omega)).symm)
  have b2 := ls_le N (fun p => l_tl H D p n)
  obtain ⟨w', E, x1, x2, x3, x4⟩ := r42_lp (H := H) (N := N) hn (fun (c4v2 : Int32) (c4v4 : Int32) (c4u : am_U) => (f_X11_tells c4v4 c4v2 c4u).bind (fun q5 => some (q5.1, q5.2))) 19999 (0 + 1) D w e2' hH' hN' d1 (by omega) (fun X hX hXc => by
    rw [P_c (n := n) (cd_inj n (fun k _ => hX k) (fun k _ => d1 k) (by omega))]; exact Int.le_refl _) (by omega) (by omega)
  rw [d2, tell_m, obs] at x1
  refine ⟨w', E, ?_, x2, x3, fun a b z1 z2 => by rw [x4 a b z1 z2, w3 a b z1 z2]⟩
  unfold f_X11_loads
  rw [e2, if_pos (nI_ne0 (by omega) (by omega))]
  refine (r14_lp hn e2 _ 20000 0 (by omega) (by omega)).trans ?_
  show f_X11_loads_42 (nI (5 ^ n)) _ (19999 + 1) (-1) 0 0 (nI 0) u = _
  rw [f_X11_loads_42, if_neg (nI_ge h50 (by omega)), w1, obs, jn_eq, nI_1]
  dsimp only
  rw [if_pos (show (-1 : Int32) < nI (l_s N (fun p => l_tl H D p n) 4 1) from m1_lt (by omega)), w2]
  exact x1
