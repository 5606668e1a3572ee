/-! seats -/
def m_bs (X P : Nat → Nat) : Nat → Nat → Nat → Nat
  | 0, _, b => b
  | m + 1, i, b => m_bs X P m (i + 1) (if X i * (P b + 1) ≤ X b * (P i + 1) then b else i)
theorem bs_lt {X P : Nat → Nat} {n : Nat} : ∀ (m i b : Nat), b < n → i + m ≤ n → m_bs X P m i b < n := by
  intro m
  induction m with
  | zero => intro i b h _; exact h
  | succ m ih =>
    intro i b h h2
    rw [m_bs]
    exact ih (i + 1) _ (by split <;> omega) (by omega)
def m_in (P : Nat → Nat) (b : Nat) : Nat → Nat := fun j => if j = b then P j + 1 else P j
def m_sr (X : Nat → Nat) (n : Nat) : Nat → (Nat → Nat) → (Nat → Nat)
  | 0, P => P
  | m + 1, P => m_sr X n m (m_in P (m_bs X P (n - 1) 1 0))
def m_mxx (P : Nat → Nat) : Nat → Nat
  | 0 => 0
  | n + 1 => if m_mxx P n < P n then P n else m_mxx P n
theorem mxx_in {P : Nat → Nat} : ∀ (n b : Nat), (b < n → m_mxx (m_in P b) n = if m_mxx P n < P b + 1 then P b + 1 else m_mxx P n) ∧ (n ≤ b → m_mxx (m_in P b) n = m_mxx P n) := by
  intro n
  induction n with
  | zero => intro b; exact ⟨fun h => by omega, fun _ => rfl⟩
  | succ n ih =>
    intro b
    obtain ⟨I1, I2⟩ := ih b
    refine ⟨fun h => ?_, fun h => ?_⟩
    · rw [m_mxx, m_mxx]
      by_cases c : b = n
      · subst c
        rw [I2 (Nat.le_refl b), show m_in P b b = P b + 1 from if_pos rfl]
        split <;> split <;> (try split) <;> omega
      · rw [I1 (by omega), show m_in P b n = P n from if_neg (by omega)]
        split <;> split <;> (try split) <;> (try split) <;> omega
    · rw [m_mxx, m_mxx, I2 (by omega), show m_in P b n = P n from if_neg (by omega)]
def m_mr (P : Nat → Nat) : Nat → Nat → Nat → Nat
  | 0, _, g => g
  | m + 1, i, g => m_mr P m (i + 1) (if g < P i then P i else g)
theorem mr_mxx (P : Nat → Nat) : ∀ m i, m_mr P m i (m_mxx P i) = m_mxx P (i + m) := by
  intro m
  induction m with
  | zero => intro i; rfl
  | succ m ih =>
    intro i
    rw [m_mr, show (if m_mxx P i < P i then P i else m_mxx P i) = m_mxx P (i + 1) from rfl, ih (i + 1), show i + 1 + m = i + (m + 1) by omega]
theorem prod_le {X P : Nat} (hX : X ≤ 99) (hP : P ≤ 99) : X * (P + 1) ≤ 9900 := Nat.mul_le_mul hX (show P + 1 ≤ 100 by omega)
theorem c28_lp {u : am_U} {T z n : Nat} {X P : Nat → Nat} (hn : n ≤ 6) (hX : ∀ j, j < n → u (T + 1) j = nI (X j) ∧ X j ≤ 99) (hP : ∀ j, j < n → u z j = nI (P j) ∧ P j ≤ 99) (v0 : Int32) (T2 : Nat) (v5 v6 : Int32) (K : Int32 → Option (Int32 × am_U)) : ∀ (f i b : Nat), b < n → i ≤ n → n < i + f → f_X10_share_28 u v0 T T2 (nI n) z n v5 v6 K f (nI b) (nI i) = K (nI (m_bs X P (n - i) i b)) := by
  intro f
  induction f with
  | zero => intro i b _ h1 h2; omega
  | succ f ih =>
    intro i b hb h1 h2
    rw [f_X10_share_28]
    rcases Nat.lt_or_ge i n with q | q
    · have p1 := prod_le (hX i q).2 (hP b hb).2
      have p2 := prod_le (hX b hb).2 (hP i q).2
      rw [if_neg (nI_ge q (by omega)), am_ck_t (am_ix_nI (show i < 60 by omega) (by omega)), am_ck_t (am_ix_nI hb (by omega)), am_ck_t (am_ix_nI (show b < 60 by omega) (by omega)), am_ck_t (am_ix_nI q (by omega)), nI_clamp (show i < 2 ^ 31 by omega), nI_clamp (show b < 2 ^ 31 by omega), (hX i q).1, (hX b hb).1, (hP i q).1, (hP b hb).1, nI_1, nI_1, nI_1, nI_mul, nI_mul, show n - i = (n - (i + 1)) + 1 by omega, m_bs]
      by_cases c : X i * (P b + 1) ≤ X b * (P i + 1)
      · rw [if_pos c, if_pos (nI_le c (by omega))]; exact ih (i + 1) b hb (by omega) (by omega)
      · rw [if_neg c, if_neg (nI_ge (by omega) (by omega))]; exact ih (i + 1) i q (by omega) (by omega)
    · rw [if_pos (nI_le (show n ≤ i by omega) (by omega)), show n - i = 0 by omega]; rfl
theorem m200_lp {u : am_U} {n : Nat} {X P : Nat → Nat} (hn : n ≤ 6) (hX : ∀ j, j < n → u 90 j = nI (X j) ∧ X j ≤ 99) (hP : ∀ j, j < n → u 89 j = nI (P j) ∧ P j ≤ 99) (v1 v3 v7 : Int32) (K : Int32 → Option (Int32 × am_U)) : ∀ (f i b : Nat), b < n → i ≤ n → n < i + f → f_X11_seats_200 u v1 v3 (nI n) v7 K f (nI b) (nI i) = K (nI (m_bs X P (n - i) i b)) := by
  intro f
  induction f with
  | zero => intro i b _ h1 h2; omega
  | succ f ih =>
    intro i b hb h1 h2
    rw [f_X11_seats_200]
    rcases Nat.lt_or_ge i n with q | q
    · have p1 := prod_le (hX i q).2 (hP b hb).2
      have p2 := prod_le (hX b hb).2 (hP i q).2
      rw [if_neg (nI_ge q (by omega)), am_ck_t (am_ix_nI (show i < 6 by omega) (by omega)), am_ck_t (am_ix_nI (show b < 6 by omega) (by omega)), nI_clamp (show i < 2 ^ 31 by omega), nI_clamp (show b < 2 ^ 31 by omega), (hX i q).1, (hX b hb).1, (hP i q).1, (hP b hb).1, nI_1, nI_1, nI_1, nI_mul, nI_mul, show n - i = (n - (i + 1)) + 1 by omega, m_bs]
      by_cases c : X i * (P b + 1) ≤ X b * (P i + 1)
      · rw [if_pos c, if_pos (nI_le c (by omega))]; exact ih (i + 1) b hb (by omega) (by omega)
      · rw [if_neg c, if_neg (nI_ge (by omega) (by omega))]; exact ih (i + 1) i q (by omega) (by omega)
    · rw [if_pos (nI_le (show n ≤ i by omega) (by omega)), show n - i = 0 by omega]; rfl
theorem c16_lp {T z n N : Nat} {X : Nat → Nat} (hn : n ≤ 6) (hn0 : 0 < n) (hN : N ≤ 99) (hz : z ≠ T + 1) (T2 : Nat) (K : Int32 → am_U → Option (Int32 × am_U)) : ∀ (f p : Nat) (P : Nat → Nat) (u : am_U), (∀ j, j < n → u (T + 1) j = nI (X j) ∧ X j ≤ 99) → (∀ j, j < n → u z j = nI (P j) ∧ P j ≤ p) → m_mxx P n ≤ p → p ≤ N → N < p + f → ∃ w, f_X10_share_16 (nI N) T T2 (nI n) z n K f (nI (m_mxx P n)) (nI p) u = K (nI (m_mxx (m_sr X n (N - p) P) n)) w ∧ (∀ j, j < n → w z j = nI (m_sr X n (N - p) P j)) ∧ ∀ a b, a ≠ z → w a b = u a b := by
  intro f
  induction f with
  | zero => intro p P u _ _ _ h1 h2; omega
  | succ f ih =>
    intro p P u hX hP hg h1 h2
    rw [f_X10_share_16]
    rcases Nat.lt_or_ge p N with q | q
    · obtain ⟨b, hb⟩ : ∃ b, m_bs X P (n - 1) 1 0 = b := ⟨_, rfl⟩
      have hbn : b < n := by rw [← hb]; exact bs_lt (n - 1) 1 0 hn0 (by omega)
      have hPb := hP b hbn
      have hm := (mxx_in (P := P) n b).1 hbn
      obtain ⟨w, k1, k2, k3⟩ := ih (p + 1) (m_in P b) (am_w u z b (nI (P b + 1))) (fun j hj => by rw [am_w_n (by omega)]; exact hX j hj) (fun j hj => by
        have := hP j hj
        rw [am_w_ap]
        unfold m_in
        by_cases c : j = b
        · rw [if_pos ⟨rfl, c⟩, if_pos c, c]; exact ⟨rfl, by omega⟩
        · rw [if_neg (by omega), if_neg c]; exact ⟨this.1, by omega⟩) (by rw [hm]; split <;> omega) (by omega) (by omega)
      refine ⟨w, ?_, ?_, fun a c hh => by rw [k3 a c hh, am_w_n (by omega)]⟩
      · rw [if_neg (nI_ge q (by omega))]
        refine (c28_lp hn hX (fun j hj => ⟨(hP j hj).1, by have := (hP j hj).2; omega⟩) _ _ _ _ _ 20000 1 0 hn0 (by omega) (by omega)).trans ?_
        rw [hb, am_ck_t (am_ix_nI hbn (by omega)), nI_clamp (by omega), hPb.1, nI_1]
        show (f_J9_max_7cf53 (nI (m_mxx P n)) (am_w u z b (nI (P b + 1)) z b)).bind (fun q9 => f_X10_share_16 (nI N) T T2 (nI n) z n K f q9 (nI p + 1) (am_w u z b (nI (P b + 1)))) = _
        rw [am_w_s, max_c (by omega) (by omega), obs, nI_1, ← hm, k1, show N - p = (N - (p + 1)) + 1 by omega, m_sr, hb]
      · rw [show N - p = (N - (p + 1)) + 1 by omega, m_sr, hb]; exact k2
    · rw [if_pos (nI_le q (by omega)), show N - p = 0 by omega]
      exact ⟨u, rfl, fun j hj => (hP j hj).1, fun _ _ _ => rfl⟩
theorem m188_lp {n N : Nat} {X : Nat → Nat} (hn : n ≤ 6) (hn0 : 0 < n) (hN : N ≤ 99) (v3 : Int32) (K : am_U → Option (Int32 × am_U)) : ∀ (f p : Nat) (P : Nat → Nat) (u : am_U), (∀ j, j < n → u 90 j = nI (X j) ∧ X j ≤ 99) → (∀ j, j < n → u 89 j = nI (P j) ∧ P j ≤ p) → p ≤ N → N < p + f → ∃ w, f_X11_seats_188 (nI N) v3 (nI n) K f (nI p) u = K w ∧ (∀ j, j < n → w 89 j = nI (m_sr X n (N - p) P j)) ∧ ∀ a b, a ≠ 89 → w a b = u a b := by
  intro f
  induction f with
  | zero => intro p P u _ _ h1 h2; omega
  | succ f ih =>
    intro p P u hX hP h1 h2
    rw [f_X11_seats_188]
    rcases Nat.lt_or_ge p N with q | q
    · obtain ⟨b, hb⟩ : ∃ b, m_bs X P (n - 1) 1 0 = b := ⟨_, rfl⟩
      have hbn : b < n := by rw [← hb]; exact bs_lt (n - 1) 1 0 hn0 (by omega)
      have hPb := hP b hbn
      obtain ⟨w, k1, k2, k3⟩ := ih (p + 1) (m_in P b) (am_w u 89 b (nI (P b + 1))) (fun j hj => by rw [am_w_n (by omega)]; exact hX j hj) (fun j hj => by
        have := hP j hj
        rw [am_w_ap]
        unfold m_in
        by_cases c : j = b
        · rw [if_pos ⟨rfl, c⟩, if_pos c, c]; exact ⟨rfl, by omega⟩
        · rw [if_neg (by omega), if_neg c]; exact ⟨this.1, by omega⟩) (by omega) (by omega)
      refine ⟨w, ?_, ?_, fun a c hh => by rw [k3 a c hh, am_w_n (by omega)]⟩
      · rw [if_neg (nI_ge q (by omega))]
        refine (m200_lp hn hX (fun j hj => ⟨(hP j hj).1, by have := (hP j hj).2; omega⟩) _ _ _ _ 20000 1 0 hn0 (by omega) (by omega)).trans ?_
        rw [hb, am_ck_t (am_ix_nI (show b < 6 by omega) (by omega)), nI_clamp (by omega), hPb.1, nI_1, nI_1]
        exact k1
      · rw [show N - p = (N - (p + 1)) + 1 by omega, m_sr, hb]; exact k2
    · rw [if_pos (nI_le q (by omega)), show N - p = 0 by omega]
      exact ⟨u, rfl, fun j hj => (hP j hj).1, fun _ _ _ => rfl⟩
/-- what comes to the row -/
def am_sy (u : am_U) (t n i : Nat) : am_U := fun a b => if a = 63 ∧ 60 * t + i ≤ b ∧ b < 60 * t + 60 then (if b - 60 * t < n then u 89 (b - 60 * t) else 0) else u a b
theorem am_sy_n {u : am_U} {t n i a b : Nat} (h : ¬ (a = 63 ∧ 60 * t + i ≤ b ∧ b < 60 * t + 60)) : am_sy u t n i a b = u a b := if_neg h
theorem am_sy_w {u : am_U} {t n i : Nat} (h : i < 60) : am_sy (am_w u 63 (60 * t + i) (if i < n then u 89 i else 0)) t n (i + 1) = am_sy u t n i := funext fun a => funext fun b => by
  unfold am_sy
  by_cases q : a = 63 ∧ 60 * t + (i + 1) ≤ b ∧ b < 60 * t + 60
  · rw [if_pos q, if_pos (show a = 63 ∧ 60 * t + i ≤ b ∧ b < 60 * t + 60 by omega), am_w_n (by omega)]
  · rw [if_neg q, am_w_ap]
    by_cases q2 : a = 63 ∧ b = 60 * t + i
    · rw [if_pos q2, if_pos (show a = 63 ∧ 60 * t + i ≤ b ∧ b < 60 * t + 60 by omega), show b - 60 * t = i by omega]
    · rw [if_neg q2, if_neg (show ¬ (a = 63 ∧ 60 * t + i ≤ b ∧ b < 60 * t + 60) by omega)]
theorem m290_lp {t n : Nat} {P : Nat → Nat} (ht : t < 6) (hn : n ≤ 6) (hP : ∀ j, j < n → P j ≤ 99) : ∀ (f i g : Nat) (u : am_U), (∀ j, j < n → u 89 j = nI (P j)) → g ≤ 99 → i ≤ 60 → 60 < i + f → f_X11_seats_290 (nI t) (nI n) f (nI g) (nI i) u = some (nI (m_mr P (n - i) i g), am_sy u t n i) := by
  intro f
  induction f with
  | zero => intro i g u _ _ h1 h2; omega
  | succ f ih =>
    intro i g u hu hg h1 h2
    rw [f_X11_seats_290]
    rcases Nat.lt_or_ge i 60 with q | q
    · rw [if_neg (show ¬ (60 : Int32) ≤ nI i from nI_ge (b := 60) q (by omega)), jn_eq]
      dsimp only
      rw [nI_60, am_ck_t (am_ix_nI (show 60 * t + i < 360 by omega) (by omega)), am_ck_t (am_ix_nI (show 60 * t + i < 360 by omega) (by omega)), nI_clamp (show 60 * t + i < 2 ^ 31 by omega), nI_clamp (show i < 2 ^ 31 by omega), nI_1]
      rcases Nat.lt_or_ge i n with c | c
      · have hpi := hP i c
        rw [if_neg (nI_ge c (by omega)), if_neg (nI_ge c (by omega)), am_ck_t (am_ix_nI (show i < 6 by omega) (by omega)), am_ck_t (am_ix_nI (show i < 6 by omega) (by omega)), am_w_n (show ¬ (89 = 63 ∧ i = 60 * t + i) by omega), hu i c, max_m (by omega) (by omega), obs, ih (i + 1) _ _ (fun j hj => by rw [am_w_n (by omega)]; exact hu j hj) (by split <;> omega) (by omega) (by omega), show n - i = (n - (i + 1)) + 1 by omega, m_mr, ← am_sy_w (u := u) (n := n) q, if_pos c, hu i c]
      · rw [if_pos (nI_le c (by omega)), if_pos (nI_le c (by omega)), ih (i + 1) g _ (fun j hj => by rw [am_w_n (by omega)]; exact hu j hj) hg (by omega) (by omega), show n - (i + 1) = 0 by omega, show n - i = 0 by omega, ← am_sy_w (u := u) (n := n) q, if_neg (by omega)]; rfl
    · have : i = 60 := by omega
      subst this
      rw [if_pos (show (60 : Int32) ≤ nI 60 by decide), show n - 60 = 0 by omega, show am_sy u t n 60 = u from funext fun a => funext fun b => am_sy_n (by omega)]; rfl
/-- the seats are looked at -/
def am_sl9 (u : am_U) (r i n : Nat) : am_U := fun a b => if a = 89 ∧ i ≤ b ∧ b < n then 0 else if a = 90 ∧ i ≤ b ∧ b < n then u 63 (60 * r + b) else u a b
theorem am_sl9_n {u : am_U} {r i n a b : Nat} (h : a ≠ 89) (h2 : a ≠ 90) : am_sl9 u r i n a b = u a b := by
  unfold am_sl9; rw [if_neg (by omega), if_neg (by omega)]
theorem am_sl9_e (u : am_U) (r n : Nat) : am_sl9 u r n n = u := funext fun a => funext fun b => by
  unfold am_sl9; rw [if_neg (by omega), if_neg (by omega)]
theorem am_sl9_w {u : am_U} {r i n : Nat} (h : i < n) : am_sl9 (am_w (am_w u 89 i 0) 90 i (u 63 (60 * r + i))) r (i + 1) n = am_sl9 u r i n := funext fun a => funext fun b => by
  unfold am_sl9
  by_cases q : a = 89
  · by_cases q2 : i + 1 ≤ b ∧ b < n
    · rw [if_pos ⟨q, q2⟩, if_pos (show a = 89 ∧ i ≤ b ∧ b < n by omega)]
    · rw [if_neg (by omega), if_neg (by omega), am_w_n (by omega), am_w_ap]
      by_cases q3 : b = i
      · rw [if_pos ⟨q, q3⟩, if_pos (show a = 89 ∧ i ≤ b ∧ b < n by omega)]
      · rw [if_neg (by omega), if_neg (by omega), if_neg (by omega)]
  · rw [if_neg (show ¬ (a = 89 ∧ i + 1 ≤ b ∧ b < n) by omega), if_neg (show ¬ (a = 89 ∧ i ≤ b ∧ b < n) by omega)]
    by_cases q4 : a = 90
    · by_cases q2 : i + 1 ≤ b ∧ b < n
      · rw [if_pos ⟨q4, q2⟩, if_pos (show a = 90 ∧ i ≤ b ∧ b < n by omega), am_w_n (by omega), am_w_n (by omega)]
      · rw [if_neg (by omega), am_w_ap]
        by_cases q3 : b = i
        · rw [if_pos ⟨q4, q3⟩, if_pos (show a = 90 ∧ i ≤ b ∧ b < n by omega), q3]
        · rw [if_neg (by omega), if_neg (by omega), am_w_n (by omega)]
    · rw [if_neg (by omega), if_neg (by omega), am_w_n (by omega), am_w_n (by omega)]
theorem m79_0 {r n : Nat} (hr : r < 6) (hn : n ≤ 6) (v1 v3 : Int32) (K : Int32 → Int32 → am_U → Option (Int32 × am_U)) : ∀ (f i : Nat) (v : Int32) (u : am_U), i ≤ n → n < i + f → f_X11_seats_79 v1 (nI r) v3 (nI n) K f 0 v (nI i) u = K 0 v (am_sl9 u r i n) := by
  intro f
  induction f with
  | zero => intro i v u h1 h2; omega
  | succ f ih =>
    intro i v u h1 h2
    rw [f_X11_seats_79]
    rcases Nat.lt_or_ge i n with q | q
    · rw [if_neg (nI_ge q (by omega)), jn_eq]
      dsimp only
      rw [jn_eq, if_pos rfl]
      dsimp only
      rw [jn_eq, if_pos rfl]
      dsimp only
      rw [am_ck_t (am_ix_nI (show i < 6 by omega) (by omega)), nI_clamp (by omega), rowAt_eq hr (by omega), obs, am_w_n (show ¬ (63 = 89 ∧ 60 * r + i = i) by omega), nI_1, Int32.add_zero, ih (i + 1) v _ (by omega) (by omega), am_sl9_w q]
    · have : i = n := by omega
      subst this
      rw [if_pos (nI_le (Nat.le_refl i) (by omega)), am_sl9_e]
theorem m79_1 {r n : Nat} {R : Nat → Int32} {X : Nat → Nat} (hr : r < 6) (hn : n ≤ 6) (v1 v3 : Int32) (K : Int32 → Int32 → am_U → Option (Int32 × am_U)) : ∀ (f i s : Nat) (u : am_U), (∀ j, j < n → u 63 (60 * r + j) = R j) → i ≤ n → n < i + f → (m_aw R 0 99 (n - i) i = 0 → ∃ y, f_X11_seats_79 v1 (nI r) v3 (nI n) K f 1 (nI s) (nI i) u = K 0 y (am_sl9 u r i n)) ∧ ((∀ j, i ≤ j → j < n → R j = nI (X j) ∧ X j ≤ 99) → f_X11_seats_79 v1 (nI r) v3 (nI n) K f 1 (nI s) (nI i) u = K 1 (m_su R (n - i) i (nI s)) (am_sl9 u r i n)) := by
  intro f
  induction f with
  | zero => intro i s u _ h1 h2; omega
  | succ f ih =>
    intro i s u hR h1 h2
    rw [f_X11_seats_79]
    rcases Nat.lt_or_ge i n with q | q
    · have hRi := hR i q
      rw [if_neg (nI_ge q (by omega)), jn_eq]
      dsimp only
      rw [jn_eq, if_neg ne10, rowAt_eq hr (by omega), obs, hRi, in_eq, show n - i = (n - (i + 1)) + 1 by omega, m_aw, m_su]
      rcases wi_01 (R i) 0 99 with w | w
      · rw [w, obs, if_pos rfl]
        dsimp only
        rw [if_pos rfl, jn_eq, if_pos rfl]
        dsimp only
        rw [am_ck_t (am_ix_nI (show i < 6 by omega) (by omega)), nI_clamp (by omega), rowAt_eq hr (by omega), obs, am_w_n (show ¬ (63 = 89 ∧ 60 * r + i = i) by omega), nI_1, Int32.add_zero, m79_0 hr hn v1 v3 K f (i + 1) _ _ (by omega) (by omega), am_sl9_w q]
        refine ⟨fun _ => ⟨_, rfl⟩, fun h => ?_⟩
        obtain ⟨h3, h4⟩ := h i (Nat.le_refl i) q
        rw [h3, show f_X10_isWithin (nI (X i)) 0 99 = some 1 from wi_yes (nI_pos (by omega)) (show ¬ (99 : Int32) < nI (X i) from Int32.not_lt.mpr (nI_le (b := 99) h4 (by omega)))] at w
        exact absurd w (by decide)
      · rw [w, obs, if_neg ne10, if_neg (show ¬ (some (1 : Int32) = some 0) by decide)]
        rw [jn_eq, if_neg ne10, rowAt_eq hr (by omega)]
        dsimp only
        rw [obs, am_ck_t (am_ix_nI (show i < 6 by omega) (by omega)), nI_clamp (by omega), obs, am_w_n (show ¬ (63 = 89 ∧ 60 * r + i = i) by omega), nI_1, hRi]
        have hu2 : ∀ j, j < n → am_w (am_w u 89 i 0) 90 i (R i) 63 (60 * r + j) = R j := fun j hj => by rw [am_w_n (by omega), am_w_n (by omega)]; exact hR j hj
        have hsl := am_sl9_w (u := u) (r := r) q
        rw [hRi] at hsl
        obtain ⟨m, -, hm⟩ : ∃ m, m ≤ 99 ∧ R i = nI m := by
          rcases wi_cs (R i) 0 99 (by omega) (by omega) with w' | ⟨m, -, h5, h6, -⟩
          · rw [show f_X10_isWithin (R i) 0 99 = some 0 from w'] at w
            exact absurd w (by decide)
          · exact ⟨m, h5, h6⟩
        obtain ⟨I1, I2⟩ := ih (i + 1) (s + m) (am_w (am_w u 89 i 0) 90 i (R i)) hu2 (by omega) (by omega)
        rw [← nI_add, ← hm, hsl] at I1 I2
        exact ⟨I1, fun h => I2 (fun j z1 z2 => h j (by omega) z2)⟩
    · have : i = n := by omega
      subst this
      rw [if_pos (nI_le (Nat.le_refl i) (by omega)), am_sl9_e, Nat.sub_self]
      exact ⟨fun h => absurd (show (1 : Int32) = 0 from h) (by decide), fun _ => rfl⟩
theorem su_l {R : Nat → Int32} {X : Nat → Nat} : ∀ (m i s : Nat), (∀ j, i ≤ j → j < i + m → R j = nI (X j) ∧ X j ≤ 99) → s + 99 * m < 2 ^ 31 → ∃ S, m_su R m i (nI s) = nI S ∧ m_sm R m i (lN s) = lN S ∧ S ≤ s + 99 * m := by
  intro m
  induction m with
  | zero => intro i s _ _; exact ⟨s, rfl, rfl, by omega⟩
  | succ m ih =>
    intro i s h hs
    obtain ⟨h1, h2⟩ := h i (by omega) (by omega)
    rw [m_su, m_sm, h1, nI_add, nI_l (by omega), lN_add]
    obtain ⟨S, a1, a2, a3⟩ := ih (i + 1) (s + X i) (fun j z1 z2 => h j (by omega) (by omega)) (by omega)
    exact ⟨S, a1, a2, by omega⟩
theorem aw_all {R : Nat → Int32} : ∀ (m i : Nat), m_aw R 0 99 m i = 1 → ∀ j, i ≤ j → j < i + m → R j = nI (R j).toNatClampNeg ∧ (R j).toNatClampNeg ≤ 99 := by
  intro m
  induction m with
  | zero => intro i _ j h1 h2; omega
  | succ m ih =>
    intro i h j h1 h2
    rw [m_aw] at h
    split at h
    · exact absurd h (by decide)
    · next hw =>
      by_cases q : j = i
      · subst q
        rcases wi_cs (R j) 0 99 (by omega) (by omega) with w | ⟨x, -, h5, h6, -⟩
        · exact absurd w hw
        · rw [h6, nI_clamp (by omega)]; exact ⟨rfl, h5⟩
      · exact ih (i + 1) h j (by omega) (by omega)
theorem sr_le {X : Nat → Nat} {n : Nat} : ∀ (m : Nat) (P : Nat → Nat) (p : Nat), (∀ j, P j ≤ p) → ∀ j, m_sr X n m P j ≤ p + m := by
  intro m
  induction m with
  | zero => intro P p h j; exact h j
  | succ m ih =>
    intro P p h j
    rw [m_sr]
    have := ih (m_in P (m_bs X P (n - 1) 1 0)) (p + 1) (fun j => by
      have := h j
      unfold m_in
      split <;> omega) j
    omega
theorem seats_two (a1 a2 a3 : Int32) {B : am_M} (hN : 91 ≤ am_nx B) {pl : Nat} (hp : pl = 30 ∨ pl = 35) {u : am_U} (hI : am_Inv pl u) : ∃ v B' u1 u2, (B' = B ∨ ∃ n, n ≤ 6 ∧ B' = am_mk B 12 n) ∧ f_X10_seats B a1 a2 a3 u = some (v, am_of B' u1) ∧ f_X11_seats a1 a2 a3 u1 = some (v, u2) ∧ am_Inv pl u2 ∧ ∀ a, 91 ≤ a → a ≠ am_nx B → u2 a = u a := by
  have n1 : ¬ (-1 : Int32) = 0 := by decide
  have n3 : ¬ (-3 : Int32) = 0 := by decide
  have bad : f_X10_seats B a1 a2 a3 u = some (-1, am_of B u) → f_X11_seats a1 a2 a3 u = some (-1, u) → ∃ v B' u1 u2, (B' = B ∨ ∃ n, n ≤ 6 ∧ B' = am_mk B 12 n) ∧ f_X10_seats B a1 a2 a3 u = some (v, am_of B' u1) ∧ f_X11_seats a1 a2 a3 u1 = some (v, u2) ∧ am_Inv pl u2 ∧ ∀ a, 91 ≤ a → a ≠ am_nx B → u2 a = u a := fun e1 e2 => ⟨-1, B, u, u, Or.inl rfl, e1, e2, hI, fun _ _ _ => rfl⟩
  rcases wi_cs a1 0 99 (by omega) (by omega) with w1 | ⟨N, -, hNN, ha, w1⟩
  · refine bad ?_ ?_
    · unfold f_X10_seats; rw [show f_X10_isWithin a1 0 99 = some 0 from w1]
      simp only [obs, jn_eq, i10, i11, iT, iN, if_neg n1]
    · unfold f_X11_seats; rw [in_eq, show f_X10_isWithin a1 0 99 = some 0 from w1]
      simp only [obs, i10, i11, iT, iN]
  rcases wi_cs a3 0 5 (by omega) (by omega) with w3 | ⟨t, -, ht, hc, w3⟩
  · refine bad ?_ ?_
    · unfold f_X10_seats; rw [show f_X10_isWithin a1 0 99 = some 1 from w1, show f_X10_isWithin a3 0 5 = some 0 from w3]
      simp only [obs, jn_eq, i10, i11, iT, iN, if_neg n1]
    · unfold f_X11_seats; rw [in_eq, show f_X10_isWithin a1 0 99 = some 1 from w1, isRow_eq, isRow_eq, show f_X10_isWithin a3 0 5 = some 0 from w3]
      rcases wi_01 a2 0 5 with w2 | w2
      · rw [w2]; simp only [obs, i10, i11, iT, iN]
      · rw [w2]; simp only [obs, i10, i11, iT, iN]
  have hix3 : am_ix a3 6 = true := by rw [hc]; exact am_ix_nI (by omega) (by omega)
  have hcl3 : a3.toNatClampNeg = t := by rw [hc]; exact nI_clamp (by omega)
  rcases refuse_cs (pl := 30) 5 6 40 62 63 (by omega) a2 u hI.2.1 with ⟨w, e⟩ | ⟨r, hr, hb, w, hix, hcl, hrow, hid, ⟨k1, k2, e⟩ | ⟨n, hn, k1, k2, e⟩⟩
  · refine bad ?_ ?_
    · unfold f_X10_seats; rw [show f_X10_isWithin a1 0 99 = some 1 from w1, show f_X10_isWithin a3 0 5 = some 1 from w3, e]
      simp only [obs, jn_eq, i10, i11, iT, iN, if_neg n1]
    · unfold f_X11_seats; rw [in_eq, show f_X10_isWithin a1 0 99 = some 1 from w1, isRow_eq, isRow_eq, show f_X10_isWithin a2 0 5 = some 0 from w]
      simp only [obs, i10, i11, iT, iN]
  · refine ⟨-3, B, am_fnd u 1, am_mts (am_fnd u 1) 1, Or.inl rfl, ?_, ?_, (inv_find hp hI 1).1, fun a h _ => (inv_find hp hI 1).2 a h⟩
    · unfold f_X10_seats; rw [show f_X10_isWithin a1 0 99 = some 1 from w1, show f_X10_isWithin a3 0 5 = some 1 from w3, e]
      simp only [obs, jn_eq, i10, i11, iT, iN, if_neg n3]
    · unfold f_X11_seats; rw [in_eq, show f_X10_isWithin a1 0 99 = some 1 from w1, isRow_eq, isRow_eq, show f_X10_isWithin a2 0 5 = some 1 from w, show f_X10_isWithin a3 0 5 = some 1 from w3]
      simp only [obs, i10, i11, iT, iN, am_ck_t hix, hcl, fnd_n (u := u) (f := 1) (a := 62) (b := r) (by omega), if_neg k2, show f_X11_meets 1 (am_fnd u 1) = some (-3, am_mts (am_fnd u 1) 1) from meets_eq (f := 1) (by omega) _]
  have hT : u (2 * r + 40) 1 = nI n := by rw [hrow.1, k1]
  have hR : ∀ i, i < 60 → u (2 * r + 41) i = u 63 (60 * r + i) := hrow.2.2
  have eF : ∀ f, f < 6 → f_X10_find (nI f) u = some (-3, am_fnd u f) := fun f hf => find_eq hf u
  have hE0 : f_X10_seats B a1 a2 a3 u = (f_X10_isWithin (nI n) 1 6).bind (fun q4 => if ¬ q4 = 0 then (if ¬ m_aw (u (2 * r + 41)) 0 99 n 0 = 0 then (if ¬ (lg_cmp (m_sm (u (2 * r + 41)) n 0 0) (0 : Int64)) = 0 then (f_X10_share (am_nx B) a1 (2 * r + 40) (2 * t + 40) u).bind (fun q8 => some (q8.1, am_of (am_mk B 12 n) q8.2)) else some (-3, am_of B (am_fnd u 4))) else some (-3, am_of B (am_fnd u 3))) else some (-3, am_of B (am_fnd u 5))) := by
    unfold f_X10_seats; rw [show f_X10_isWithin a1 0 99 = some 1 from w1, show f_X10_isWithin a3 0 5 = some 1 from w3, e]
    simp only [obs, jn_eq, i10, i11, iT, iN, am_ck_t hix, am_ck_t hix3, hcl, hcl3, hT, nI_clamp (show n < 2 ^ 31 by omega), caw_eq hT hn, csm_eq hT hn, show f_X10_find 3 u = some (-3, am_fnd u 3) from eF 3 (by omega), show f_X10_find 4 u = some (-3, am_fnd u 4) from eF 4 (by omega), show f_X10_find 5 u = some (-3, am_fnd u 5) from eF 5 (by omega)]
  have hM0 : ∀ v : am_U, v 62 r = nI n → f_X11_seats a1 a2 a3 v = (f_X10_isWithin (nI n) 1 6).bind (fun q5 => if ¬ q5 = 0 then f_X11_seats_79 (nI N) (nI r) (nI t) (nI n) (fun (c16v5 : Int32) (c16v6 : Int32) (c16u : am_U) =>
              if ¬ c16v5 = 0 then (
                if ¬ c16v6 = 0 then (
                  f_X11_seats_188 (nI N) (nI t) (nI n) (fun (c22u : am_U) =>
                    f_X11_seats_290 (nI t) (nI n) 20000 0 0 (am_w c22u 62 t (nI n))) 20000 0 c16u)
                else some (-3, am_mts c16u 4))
              else some (-3, am_mts c16u 3)) 20000 1 0 0 v else some (-3, am_mts v 5)) := fun v hv => by
    have em3 : ∀ x, f_X11_meets 3 x = some (-3, am_mts x 3) := fun x => meets_eq (f := 3) (by omega) x
    have em4 : ∀ x, f_X11_meets 4 x = some (-3, am_mts x 4) := fun x => meets_eq (f := 4) (by omega) x
    unfold f_X11_seats; rw [in_eq, show f_X10_isWithin a1 0 99 = some 1 from w1, isRow_eq, isRow_eq, show f_X10_isWithin a2 0 5 = some 1 from w, show f_X10_isWithin a3 0 5 = some 1 from w3]
    simp only [obs, i10, i11, iT, iN, am_ck_t hix, am_ck_t hix3, hcl, hcl3, hv, in_eq, if_pos (show (0 : Int32) ≤ nI n from nI_pos' (by omega)), em3, em4, show f_X11_meets 5 v = some (-3, am_mts v 5) from meets_eq (f := 5) (by omega) v]
    rw [ha, hb, hc]
  rcases wi_cs (nI n) 1 6 (by omega) (by omega) with w6 | ⟨n', hn1, hn6, hnn, w6⟩
  · refine ⟨-3, B, am_fnd u 5, am_mts (am_fnd u 5) 5, Or.inl rfl, ?_, ?_, (inv_find hp hI 5).1, fun a h _ => (inv_find hp hI 5).2 a h⟩
    · rw [hE0, show f_X10_isWithin (nI n) 1 6 = some 0 from w6]; simp only [obs, iN]
    · rw [hM0 _ (by rw [fnd_n (by omega)]; exact k1), show f_X10_isWithin (nI n) 1 6 = some 0 from w6]; simp only [obs, iN]
  have hnn' : n = n' := (nI_eq (by omega) (by omega)).mp hnn
  subst hnn'
  have hE1 : f_X10_seats B a1 a2 a3 u = if ¬ m_aw (u (2 * r + 41)) 0 99 n 0 = 0 then (if ¬ (lg_cmp (m_sm (u (2 * r + 41)) n 0 0) (0 : Int64)) = 0 then (f_X10_share (am_nx B) a1 (2 * r + 40) (2 * t + 40) u).bind (fun q8 => some (q8.1, am_of (am_mk B 12 n) q8.2)) else some (-3, am_of B (am_fnd u 4))) else some (-3, am_of B (am_fnd u 3)) := by
    rw [hE0, show f_X10_isWithin (nI n) 1 6 = some 1 from w6]; simp only [obs, i11]
  have hM1 := fun (v : am_U) (hv : v 62 r = nI n) => (hM0 v hv).trans (show _ = f_X11_seats_79 (nI N) (nI r) (nI t) (nI n) (fun (c16v5 : Int32) (c16v6 : Int32) (c16u : am_U) =>
              if ¬ c16v5 = 0 then (
                if ¬ c16v6 = 0 then (
                  f_X11_seats_188 (nI N) (nI t) (nI n) (fun (c22u : am_U) =>
                    f_X11_seats_290 (nI t) (nI n) 20000 0 0 (am_w c22u 62 t (nI n))) 20000 0 c16u)
                else some (-3, am_mts c16u 4))
              else some (-3, am_mts c16u 3)) 20000 1 0 0 v by rw [show f_X10_isWithin (nI n) 1 6 = some 1 from w6]; simp only [obs, i11])
  obtain ⟨R, hRR⟩ : ∃ R : Nat → Int32, ∀ j, R j = u 63 (60 * r + j) := ⟨_, fun _ => rfl⟩
  have hawR : m_aw (u (2 * r + 41)) 0 99 n 0 = m_aw R 0 99 n 0 := aw_c n 0 (fun j _ h => by rw [hR j (by omega), hRR])
  have fin : ∀ f, f < 6 → ∀ v0 : am_U, am_Inv pl (am_mts (am_sl9 (am_fnd u f) r 0 n) f) ∧ ∀ a, 91 ≤ a → am_mts (am_sl9 (am_fnd u f) r 0 n) f a = u a := fun f hf _ => by
    have hT := inv_find hp hI f
    have eo : ∀ a b, a ≠ 89 → a ≠ 90 → am_mts (am_sl9 (am_fnd u f) r 0 n) f a b = am_mts (am_fnd u f) f a b := fun a b z1 z2 => by
      unfold am_mts
      simp only [am_w_ap, am_sl9_n z1 z2, am_sl9_n (u := am_fnd u f) (r := r) (i := 0) (n := n) (a := 61) (b := f) (by omega) (by omega)]
    refine ⟨fr_all hp hT.1 (fun a b q => ?_), fun a ha => ?_⟩
    · unfold c_msg c_rows c_txts c_plan c_vs c_scene c_deeds c_kept c_burn at q
      exact eo a b (by omega) (by omega)
    · rw [← hT.2 a ha]; exact funext fun b => eo a b (by omega) (by omega)
  rcases aw_01 R 0 99 n 0 with c2 | c2
  · have hfi := fin 3 (by omega) u
    refine ⟨-3, B, am_fnd u 3, am_mts (am_sl9 (am_fnd u 3) r 0 n) 3, Or.inl rfl, ?_, ?_, hfi.1, fun a h _ => hfi.2 a h⟩
    · rw [hE1, hawR, c2, if_neg (fun q => q rfl)]
    · rw [hM1 _ (by rw [fnd_n (by omega)]; exact k1)]
      obtain ⟨y, hy⟩ := (m79_1 (R := R) (X := fun _ => 0) hr hn6 (nI N) (nI t) _ 20000 0 0 (am_fnd u 3) (fun j hj => by rw [fnd_n (by omega), hRR]) (by omega) (by omega)).1 (by rw [Nat.sub_zero]; exact c2)
      refine hy.trans ?_
      rw [if_neg (fun q => q rfl)]
  have hall := aw_all n 0 c2
  obtain ⟨X, hX⟩ : ∃ X : Nat → Nat, ∀ j, X j = (R j).toNatClampNeg := ⟨_, fun _ => rfl⟩
  have hXX : ∀ j, j < n → R j = nI (X j) ∧ X j ≤ 99 := fun j hj => by rw [hX]; exact hall j (by omega) (by omega)
  obtain ⟨S, s1, s2, s3⟩ := su_l n 0 0 (R := R) (X := X) (fun j _ hj => hXX j (by omega)) (by omega)
  have hsm : m_sm (u (2 * r + 41)) n 0 0 = lN S := by
    rw [← s2]
    exact m_sm_eq n 0 _ (fun j _ h => by rw [hR j (by omega), hRR])
  have hcmp : (lg_cmp (lN S) (0 : Int64) = 0) ↔ S = 0 := by
    cases S with
    | zero => exact ⟨fun _ => rfl, fun _ => by decide⟩
    | succ S =>
      refine ⟨fun h => ?_, fun h => by omega⟩
      unfold lg_cmp at h
      rw [if_pos (show lN (S + 1) > (0 : Int64) from (lN_lt (a := 0) (by omega) (by omega)).mpr (by omega))] at h
      exact absurd h (by decide)
  have h79 : ∀ (v : am_U) K, (∀ b, v 63 b = u 63 b) → f_X11_seats_79 (nI N) (nI r) (nI t) (nI n) K 20000 1 0 0 v = K 1 (nI S) (am_sl9 v r 0 n) := fun v K hv => by
    have h := (m79_1 (R := R) (X := X) hr hn6 (nI N) (nI t) K 20000 0 0 v (fun j hj => by rw [hv, hRR]) (by omega) (by omega)).2 (fun j _ hj => hXX j hj)
    rw [Nat.sub_zero, s1] at h
    exact h
  by_cases hS : S = 0
  · have hfi := fin 4 (by omega) u
    refine ⟨-3, B, am_fnd u 4, am_mts (am_sl9 (am_fnd u 4) r 0 n) 4, Or.inl rfl, ?_, ?_, hfi.1, fun a h _ => hfi.2 a h⟩
    · rw [hE1, hawR, c2, if_pos ne10, hsm, if_neg (fun q => q (hcmp.mpr hS))]
    · rw [hM1 _ (by rw [fnd_n (by omega)]; exact k1), h79 _ _ (fun b => fnd_n (by omega)), if_pos ne10, hS, if_neg (fun q => q rfl)]
  · have hS0 : ¬ nI S = 0 := nI_ne0 (by omega) (by omega)
    obtain ⟨z, hz⟩ : ∃ z, am_nx B = z := ⟨_, rfl⟩
    obtain ⟨P, hP⟩ : ∃ P : Nat → Nat, m_sr X n N (fun _ => 0) = P := ⟨_, rfl⟩
    have mx0 : ∀ m, m_mxx (fun _ => 0) m = 0 := fun m => by
      induction m with
      | zero => rfl
      | succ m ih => rw [m_mxx, ih]; rfl
    obtain ⟨w, q1, q2, q3⟩ := c16_lp (T := 2 * r + 40) (z := z) (n := n) (N := N) (X := X) hn6 (by omega) hNN (by omega) (2 * t + 40) (fun (c10v5 : Int32) (c10u : am_U) => (f_X8_makeAnew (2 * t + 40) (nI n) 0 c10u).bind (fun q11 => am_ck (am_cp 0 0 (nI n) n 60) (some (c10v5, am_rw q11 (2 * t + 40 + 1) (va_cpy (q11 z) (q11 (2 * t + 40 + 1)) 0 0 n))))) 20000 0 (fun _ => 0) (am_rw u z (fun _ => 0)) (fun j hj => by rw [am_rw_n (by omega), ← (hXX j hj).1, hRR, ← hR j (by omega)]; exact ⟨rfl, (hXX j hj).2⟩) (fun j hj => by rw [am_rw_s]; exact ⟨rfl, Nat.le_refl 0⟩) (by rw [mx0]; omega) (by omega) (by omega)
    rw [Nat.sub_zero, hP, mx0] at q1
    rw [Nat.sub_zero, hP] at q2
    obtain ⟨W, hW⟩ : ∃ W, am_fl (am_w w (2 * t + 40) 1 (nI n)) (2 * t + 40 + 1) 0 60 0 = W := ⟨_, rfl⟩
    obtain ⟨Y, hY⟩ : ∃ Y, am_rw W (2 * t + 40 + 1) (va_cpy (W z) (W (2 * t + 40 + 1)) 0 0 n) = Y := ⟨_, rfl⟩
    have hshare : f_X10_share z a1 (2 * r + 40) (2 * t + 40) u = some (nI (m_mxx P n), Y) := by
      unfold f_X10_share
      rw [hT, am_ck_t (am_ix_nI (show n < 61 by omega) (by omega)), nI_clamp (by omega), ha]
      refine q1.trans ?_
      rw [make_eq, obs, hW, am_ck_t (show am_cp 0 0 (nI n) n 60 = true from cp_ok (a := 0) (b := 0) (by omega) (by omega) (by omega) (by omega)), hY]
    have gW : ∀ a b, a ≠ z → a ≠ 2 * t + 40 → a ≠ 2 * t + 40 + 1 → W a b = u a b := fun a b z1 z2 z3 => by
      rw [← hW, am_fl_n (by omega), am_w_n (by omega), q3 a b z1, am_rw_n z1]
    have gWz : ∀ j, j < n → W z j = nI (P j) := fun j hj => by
      rw [← hW, am_fl_n (by omega), am_w_n (by omega), q2 j hj]
    have gY : ∀ a b, Y a b = if a = 2 * t + 40 + 1 ∧ 0 ≤ b ∧ b < 0 + n then W z (0 + (b - 0)) else W a b := fun a b => by rw [← hY, rw_cpy]
    have gYn : ∀ a b, a ≠ z → a ≠ 2 * t + 40 → a ≠ 2 * t + 40 + 1 → Y a b = u a b := fun a b z1 z2 z3 => by rw [gY, if_neg (by omega), gW a b z1 z2 z3]
    have gYt : Y (2 * t + 40) 1 = nI n := by rw [gY, if_neg (by omega), ← hW, am_fl_n (by omega), am_w_s]
    have gYp : ∀ i, i < 60 → Y (2 * t + 40 + 1) i = if i < n then nI (P i) else 0 := fun i hi => by
      rw [gY]
      by_cases c : i < n
      · rw [if_pos (by omega), if_pos c, show 0 + (i - 0) = i by omega, gWz i c]
      · rw [if_neg (by omega), if_neg c, ← hW, am_fl_s (by omega)]
    obtain ⟨w9, hw9⟩ : ∃ w9, am_sl9 Y r 0 n = w9 := ⟨_, rfl⟩
    obtain ⟨x, p1, p2, p3⟩ := m188_lp (n := n) (N := N) (X := X) hn6 (by omega) hNN (nI t) (fun (c22u : am_U) => f_X11_seats_290 (nI t) (nI n) 20000 0 0 (am_w c22u 62 t (nI n))) 20000 0 (fun _ => 0) w9 (fun j hj => by
      rw [← hw9]
      unfold am_sl9
      rw [if_neg (by omega), if_pos (by omega), gYn 63 _ (by omega) (by omega) (by omega), ← hRR]
      exact hXX j hj) (fun j hj => by
      rw [← hw9]
      unfold am_sl9
      rw [if_pos (by omega)]
      exact ⟨rfl, Nat.le_refl 0⟩) (by omega) (by omega)
    rw [Nat.sub_zero, hP] at p2
    have hPb : ∀ j, j < n → P j ≤ 99 := fun j _ => by
      have := sr_le (X := X) (n := n) N (fun _ => 0) 0 (fun _ => Nat.le_refl 0) j
      rw [hP] at this
      omega
    have hfin := m290_lp (t := t) (n := n) (P := P) (by omega) hn6 hPb 20000 0 0 (am_w x 62 t (nI n)) (fun j hj => by rw [am_w_n (by omega)]; exact p2 j hj) (by omega) (by omega) (by omega)
    rw [Nat.sub_zero, show m_mr P n 0 0 = m_mxx P n from (mr_mxx P n 0).trans (by rw [Nat.zero_add])] at hfin
    obtain ⟨Z, hZ⟩ : ∃ Z, am_sy (am_w x 62 t (nI n)) t n 0 = Z := ⟨_, rfl⟩
    have gx : ∀ a b, a ≠ 89 → a ≠ 90 → x a b = Y a b := fun a b z1 z2 => by rw [p3 a b z1, ← hw9, am_sl9_n z1 z2]
    have gZ : ∀ a b, a ≠ 89 → a ≠ 90 → ¬ (a = 62 ∧ b = t) → ¬ (a = 63 ∧ 60 * t ≤ b ∧ b < 60 * t + 60) → Z a b = Y a b := fun a b z1 z2 z3 z4 => by
      rw [← hZ, am_sy_n (by omega), am_w_n z3, gx a b z1 z2]
    refine ⟨nI (m_mxx P n), am_mk B 12 n, Y, Z, Or.inr ⟨n, hn6, rfl⟩, ?_, ?_, ?_, fun a h1 h2 => ?_⟩
    · rw [hE1, hawR, c2, if_pos ne10, hsm, if_pos (fun q => hS (hcmp.mp q)), hz, hshare, obs]
    · rw [hM1 Y (by rw [gYn 62 r (by omega) (by omega) (by omega)]; exact k1), h79 Y _ (fun b => gYn 63 b (by omega) (by omega) (by omega)), if_pos ne10, if_pos hS0, hw9]
      refine p1.trans ?_
      rw [← hZ]
      exact hfin
    · refine fr_mrt hp hI (fr_msg hI.1 (fun a b q => ?_)) (fun r' hr' => ?_) (fr_txts hI.2.2.1 (fun a b q => ?_)) (fun a b q => ?_)
      · unfold c_msg at q; rw [gZ a b (by omega) (by omega) (by omega) (by omega), gYn a b (by omega) (by omega) (by omega)]
      · obtain ⟨y1, y2, y3⟩ := hI.2.1 r' hr'
        by_cases q : r' = t
        · subst q
          have h62 : Z 62 r' = nI n := by rw [← hZ, am_sy_n (by omega), am_w_s]
          refine ⟨?_, ?_, fun i hi => ?_⟩
          · rw [h62, gZ _ 1 (by omega) (by omega) (by omega) (by omega), gYt]
          · rw [h62]; exact Or.inr ⟨n, hn, rfl⟩
          · rw [gZ _ i (by omega) (by omega) (by omega) (by omega), gYp i hi, ← hZ]
            unfold am_sy
            rw [if_pos (show 63 = 63 ∧ 60 * r' + 0 ≤ 60 * r' + i ∧ 60 * r' + i < 60 * r' + 60 by omega), show 60 * r' + i - 60 * r' = i by omega]
            by_cases c : i < n
            · rw [if_pos c, if_pos c, am_w_n (by omega), p2 i c]
            · rw [if_neg c, if_neg c]
        · refine ⟨?_, ?_, fun i hi => ?_⟩
          · rw [gZ _ 1 (by omega) (by omega) (by omega) (by omega), gZ 62 r' (by omega) (by omega) (by omega) (by omega), gYn _ 1 (by omega) (by omega) (by omega), gYn 62 r' (by omega) (by omega) (by omega)]; exact y1
          · rw [gZ 62 r' (by omega) (by omega) (by omega) (by omega), gYn 62 r' (by omega) (by omega) (by omega)]; exact y2
          · rw [gZ _ i (by omega) (by omega) (by omega) (by omega), gZ 63 _ (by omega) (by omega) (by omega) (by omega), gYn _ i (by omega) (by omega) (by omega), gYn 63 _ (by omega) (by omega) (by omega)]; exact y3 i hi
      · unfold c_txts at q; rw [gZ a b (by omega) (by omega) (by omega) (by omega), gYn a b (by omega) (by omega) (by omega)]
      · have := c_rest_of q; rw [gZ a b (by omega) (by omega) (by omega) (by omega), gYn a b (by omega) (by omega) (by omega)]
    · rw [hz] at h2
      funext b
      rw [gZ a b (by omega) (by omega) (by omega) (by omega), gYn a b h2 (by omega) (by omega)]
theorem pz_mk {i n : Nat} {B : am_M} {u u2 : am_U} (hN : 91 ≤ am_nx B) (h : am_pz i B u) (e : ∀ a, 91 ≤ a → a ≠ am_nx B → u2 a = u a) : am_pz i (am_mk B 12 n) u2 ∧ (am_ro (am_mk B 12 n) 4 = am_ro B 4) := by
  have key : ∀ j, j < am_nx B → am_sh (am_mk B 12 n) j = am_sh B j ∧ am_ro (am_mk B 12 n) j = am_ro B j := fun j hj => (okp_mk (k := 12) (n := n) (am_okp0 (B := B) (i := j) hj)).2
  refine ⟨?_, (key 4 (by omega)).2⟩
  rcases h with h | ⟨pz, a1, a2, a3, a4, st, a5, a6, a7⟩
  · exact Or.inl (by rw [(key 4 (by omega)).2]; exact h)
  · refine Or.inr ⟨pz, by rw [(key 4 (by omega)).2]; exact a1, a2, Nat.lt_succ_of_lt a3, ?_, st, a5, by rw [e pz a2 (by omega)]; exact a6, fun s hs => by rw [e (pz + 3) (by omega) (by omega)]; exact a7 s hs⟩
    unfold am_isPour at a4 ⊢
    rw [(key pz (by omega)).1, (key pz (by omega)).2, (key (pz + 1) (by omega)).1, (key (pz + 2) (by omega)).1, (key (pz + 3) (by omega)).1, (key (pz + 4) (by omega)).1, (key (pz + 5) (by omega)).1]
    exact a4
theorem ok_seats {l : Launch} {g : am_G} (a1 a2 a3 : Int32) : am_ok l g d_X10_seats d_X11_seats [.int a1, .int a2, .int a3] am_isI := by
  intro i M _ hJ
  obtain ⟨B, pl, dr, u, rfl, h2, h3, h4, h5, h6, h7⟩ := hJ
  obtain ⟨v, B', u1, u2, hB, e1, e2, e3, e4⟩ := seats_two a1 a2 a3 h3 h2.1.2.2.2.1 h4
  have h49 := am_L49 h2.1
  have b1 := s_X10_seats (l := l) (g := g) h2.1 h3 a1 a2 a3 u
  rw [e1] at b1
  rcases hB with rfl | ⟨n, hn, rfl⟩
  · have b2 := s_X11_seats (l := l) (g := g) h2.1 a1 a2 a3 u1
    rw [e2] at b2
    refine ⟨am_of B' u2, .int v, ⟨v, rfl⟩, ⟨h49.1, am_of B' u1, b1, h49.2, b2⟩, B', pl, dr, u2, rfl, h2, h3, e3, ?_, by omega, by omega⟩
    rcases h5 with h | ⟨pz, a1, a2, a3, a4, st, a5, a6, a7⟩
    · exact Or.inl h
    · exact Or.inr ⟨pz, a1, a2, a3, a4, st, by omega, by rw [e4 pz a2 (by omega)]; exact a6, fun s hs => by rw [e4 (pz + 3) (by omega) (by omega)]; exact a7 s hs⟩
  · have hL' : am_Lay (am_mk B 12 n) pl := am_LayK h2.1 h3
    have b2 := s_X11_seats (l := l) (g := g) hL' a1 a2 a3 u1
    rw [e2] at b2
    have h49' := am_L49 hL'
    obtain ⟨p1, p2⟩ := pz_mk (n := n) h3 h5 e4
    refine ⟨am_of (am_mk B 12 n) u2, .int v, ⟨v, rfl⟩, ⟨h49.1, am_of (am_mk B 12 n) u1, b1, h49'.2, b2⟩, am_mk B 12 n, pl, dr, u2, rfl, ⟨hL', by rw [p2]; exact h2.2.1, h2.2.2⟩, Nat.le_succ_of_le h3, e3, am_pz_up p1 (by omega), ?_, ?_⟩
    · rw [p2]
      show am_nx B + 1 + _ ≤ _
      omega
    · rw [p2]
      show am_sl B + n + _ ≤ _
      omega
