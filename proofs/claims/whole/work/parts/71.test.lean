/-! sure -/
theorem jn_eq {τ α : Type} (t : τ) (k : τ → Option α) : am_jn t k = k t := Eq.trans rfl (Eq.refl _)
theorem cia_lp {w : am_U} {l : List Nat} (h : g_L w l) (hl : l.length ≤ 64) : ∀ (f i v : Nat), i ≤ l.length → l.length < i + f → f_X0_inAll_9 w f (nI v) (nI i) = some (nI ((l.drop i).foldl (fun a b => a &&& b) v)) := by
  intro f
  induction f with
  | zero => intro i v h1 h2; omega
  | succ f ih =>
    intro i v h1 h2
    rw [f_X0_inAll_9, h.1]
    rcases Nat.lt_or_ge i l.length with q | q
    · rw [if_neg (nI_ge q (by omega)), am_ck_t (am_ix_nI (show i < 64 by omega) (by omega)), nI_clamp (by omega), h.2 i q, nI_and, nI_1, dr_c l i q]
      exact ih (i + 1) _ (by omega) (by omega)
    · rw [if_pos (nI_le (show l.length ≤ i by omega) (by omega)), show i = l.length by omega, List.drop_length]; rfl
theorem cin_lp {w : am_U} {l : List Nat} (h : g_L w l) (hl : l.length ≤ 64) : ∀ (f i v : Nat), i ≤ l.length → l.length < i + f → f_X0_inAny_4 w f (nI v) (nI i) = some (nI ((l.drop i).foldl (fun a b => a ||| b) v)) := by
  intro f
  induction f with
  | zero => intro i v h1 h2; omega
  | succ f ih =>
    intro i v h1 h2
    rw [f_X0_inAny_4, h.1]
    rcases Nat.lt_or_ge i l.length with q | q
    · rw [if_neg (nI_ge q (by omega)), am_ck_t (am_ix_nI (show i < 64 by omega) (by omega)), nI_clamp (by omega), h.2 i q, nI_or, nI_1, dr_c l i q]
      exact ih (i + 1) _ (by omega) (by omega)
    · rw [if_pos (nI_le (show l.length ≤ i by omega) (by omega)), show i = l.length by omega, List.drop_length]; rfl
theorem or_step : ∀ n, n < 7 → ∀ a, a < 2 ^ n → ∀ s, s < 2 ^ n → nI (2 ^ n - 1 - a) &&& (nI s ^^^ (-1)) = nI (2 ^ n - 1 - (a ||| s)) := by decide +kernel
theorem msu_lp {n z : Nat} {F X Y : Nat → Int32} {u : am_U} (h : b_M n z F X Y u) (hn : n ≤ 6) (hz : z ≤ 8) (G : Nat → Bool) (hG : ∀ s, G s = m_fi F X Y n (nI s) z 0) (K : Int32 → Int32 → Int32 → Option (Int32 × am_U)) : ∀ (f s c bo an : Nat), an < 2 ^ n → s ≤ 2 ^ n → 2 ^ n < s + f → f_X11_sure_29 u (nI (2 ^ n - 1)) K f (nI bo) (nI (2 ^ n - 1 - an)) (nI c) (nI s) = K (nI ((m_gt G (2 ^ n - s) s).foldl (fun a b => a &&& b) bo)) (nI (2 ^ n - 1 - (m_gt G (2 ^ n - s) s).foldl (fun a b => a ||| b) an)) (nI (c + (m_gt G (2 ^ n - s) s).length)) := by
  have hpw := pow_le hn
  intro f
  induction f with
  | zero => intro s c bo an _ h1 h2; omega
  | succ f ih =>
    intro s c bo an ha h1 h2
    rw [f_X11_sure_29]
    rcases Nat.lt_or_ge s (2 ^ n) with q | q
    · rw [if_neg (nI_nlt (show s ≤ 2 ^ n - 1 by omega) (by omega)), nI_1, nI_1, mfi_eq h hn hz, ← hG s, obs, show 2 ^ n - s = (2 ^ n - (s + 1)) + 1 by omega, m_gt]
      by_cases g : G s = true
      · rw [b1_t g, if_neg ne10, if_pos g, List.length_cons, List.foldl_cons, List.foldl_cons, show c + ((m_gt G (2 ^ n - (s + 1)) (s + 1)).length + 1) = c + 1 + (m_gt G (2 ^ n - (s + 1)) (s + 1)).length by omega]
        show f_X11_sure_29 u (nI (2 ^ n - 1)) K f (nI bo &&& nI s) (nI (2 ^ n - 1 - an) &&& (nI s ^^^ (-1))) (nI (c + 1)) (nI (s + 1)) = _
        rw [or_step n (by omega) an ha s q, nI_and]
        exact ih (s + 1) (c + 1) _ _ (Nat.or_lt_two_pow ha q) (by omega) (by omega)
      · rw [b1_f g, if_pos rfl, if_neg g]
        exact ih (s + 1) c bo an ha (by omega) (by omega)
    · rw [if_pos (nI_lt (show 2 ^ n - 1 < s by omega) (by omega)), show 2 ^ n - s = 0 by omega]; rfl
theorem fo_lt {n : Nat} : ∀ (l : List Nat) (v : Nat), v < 2 ^ n → (∀ x, x ∈ l → x < 2 ^ n) → l.foldl (fun a b => a ||| b) v < 2 ^ n := by
  intro l
  induction l with
  | nil => intro v hv _; exact hv
  | cons x l ih =>
    intro v hv h
    rw [List.foldl_cons]
    exact ih _ (Nat.or_lt_two_pow hv (h x (List.mem_cons_self))) (fun y hy => h y (List.mem_cons_of_mem x hy))
theorem and_all : ∀ n, n < 7 → ∀ x, x < 2 ^ n → (2 ^ n - 1) &&& x = x := by decide
theorem two_sure : am_two (fun pl u => f_X10_sure pl u) (fun _ u => f_X11_sure u) := by
  intro pl hp u hI
  show ∃ v u1 u2, f_X10_sure pl u = _ ∧ f_X11_sure u1 = _ ∧ _
  obtain ⟨n', z, hn, hz, e1, e2, hC, hM, -⟩ := burn_env hI
  have hpw := pow_le hn
  have hp0 : 0 < 2 ^ n' := Nat.two_pow_pos n'
  by_cases hn0 : n' = 0
  · subst hn0
    refine ⟨-4, u, u, ?_, ?_, hI, fun _ _ => rfl⟩
    · unfold f_X10_sure; rw [e1, if_neg (fun q => q rfl)]
    · unfold f_X11_sure; rw [e2, if_neg (fun q => q rfl)]
  · have hne : ¬ nI n' = 0 := nI_ne0 (by omega) (by omega)
    obtain ⟨G, hG⟩ : ∃ G : Nat → Bool, ∀ s, G s = m_fi (u 70) (u 86) (u 87) n' (nI s) z 0 := ⟨_, fun _ => rfl⟩
    obtain ⟨l, hl⟩ : ∃ l, m_gt G (2 ^ n') 0 = l := ⟨_, rfl⟩
    have hlen := gt_len G (2 ^ n') 0
    have hlt := gt_lt G (2 ^ n') 0
    obtain ⟨w, k1, k2, k3⟩ := cga_eq hp hn hz G hG hC
    rw [hl] at k1 k2 hlen hlt
    have hall : nI (2 ^ n') - 1 = nI (2 ^ n' - 1) := nI_sub (b := 1) hp0
    have hany : l.foldl (fun a b => a ||| b) 0 < 2 ^ n' := fo_lt l 0 hp0 (fun x hx => by have := hlt x hx; omega)
    have hMt : ∀ v : am_U, (∀ a b, 60 ≤ a → v a b = u a b) → f_X11_sure v = if ¬ nI l.length = 0 then some (nI (l.foldl (fun a b => a &&& b) (2 ^ n' - 1)), am_w v 60 2 (nI (2 ^ n' - 1 - l.foldl (fun a b => a ||| b) 0))) else some (-3, am_mts v 4) := fun v hv => by
      unfold f_X11_sure
      rw [hv 60 12 (by omega), e2, if_pos hne, shl_n n' (by omega), hall]
      simp only [tell_m, obs, show f_X11_meets 4 v = some (-3, am_mts v 4) from meets_eq (f := 4) (by omega) v]
      refine (msu_lp (b_M_fr hM (fun a b z1 _ => hv a b z1)) hn hz G hG _ 20000 0 0 (2 ^ n' - 1) 0 hp0 (Nat.zero_le _) (by omega)).trans ?_
      rw [Nat.sub_zero, hl, Nat.zero_add]
    have hE : f_X10_sure pl u = if ¬ nI l.length = 0 then (f_X0_inAll w).bind (fun q2 => some (q2, am_w w 4 13 (nI (2 ^ n' - 1 - l.foldl (fun a b => a ||| b) 0)))) else some (-3, am_fnd w 4) := by
      have hA : f_X0_inAny w = some (nI (l.foldl (fun a b => a ||| b) 0)) := cin_lp k2 (by omega) 20000 0 0 (by omega) (by omega)
      unfold f_X10_sure
      rw [e1, if_pos hne, k1]
      simp only [tell_c, obs, hA, k3 pl 2 (by omega) (by omega), e1, shl_n n' (show n' < 7 by omega), hall, nI_sub (show l.foldl (fun a b => a ||| b) 0 ≤ 2 ^ n' - 1 by omega), show f_X10_find 4 w = some (-3, am_fnd w 4) from find_eq (f := 4) (by omega) w]
    cases l with
    | nil =>
      have hT := inv_find hp hI 4
      have eo : ∀ a b, a ≠ 24 → ¬ (a = 21 ∧ b = 5) → am_mts (am_fnd w 4) 4 a b = am_mts (am_fnd u 4) 4 a b := fun a b z1 z2 => by
        unfold am_mts am_fnd
        simp only [am_w_ap, k3 a b z1 z2, k3 29 4 (by omega) (by omega), k3 61 4 (by omega) (by omega)]
      refine ⟨-3, am_fnd w 4, am_mts (am_fnd w 4) 4, ?_, ?_, fr_free hp hT.1 (fun a b z1 z2 z3 z4 => eo a b z1 z3), fun a ha => ?_⟩
      · rw [hE, if_neg (fun q => q rfl)]
      · rw [hMt _ (fun a b z1 => by rw [fnd_n (by omega)]; exact k3 a b (by omega) (by omega)), if_neg (fun q => q rfl)]
      · rw [← hT.2 a ha]; exact funext fun b => eo a b (by omega) (by omega)
    | cons x l =>
      have hn0 : ¬ nI (x :: l).length = 0 := nI_ne0 (by rw [List.length_cons]; omega) (by omega)
      have hw : w 24 0 = nI x := k2.2 0 (by rw [List.length_cons]; omega)
      obtain ⟨y, hy⟩ : ∃ y, nI (2 ^ n' - 1 - (x :: l).foldl (fun a b => a ||| b) 0) = y := ⟨_, rfl⟩
      have hx : x < 2 ^ n' := by have := hlt x List.mem_cons_self; omega
      have hIA : f_X0_inAll w = some (nI ((x :: l).foldl (fun a b => a &&& b) (2 ^ n' - 1))) := by
        unfold f_X0_inAll
        rw [hw, List.foldl_cons, and_all n' (by omega) x hx]
        exact cia_lp k2 (by omega) 20000 1 x (by rw [List.length_cons]; omega) (by omega)
      have hT := inv_tell hp hI y
      have eo : ∀ a b, a ≠ 24 → ¬ (a = 21 ∧ b = 5) → am_w (am_w w 4 13 y) 60 2 y a b = am_w (am_w u 4 13 y) 60 2 y a b := fun a b z1 z2 => by
        simp only [am_w_ap, k3 a b z1 z2]
      refine ⟨nI ((x :: l).foldl (fun a b => a &&& b) (2 ^ n' - 1)), am_w w 4 13 y, am_w (am_w w 4 13 y) 60 2 y, ?_, ?_, fr_free hp hT.1 (fun a b z1 z2 z3 z4 => eo a b z1 z3), fun a ha => ?_⟩
      · rw [hE, if_pos hn0, hIA, obs, hy]
      · rw [hMt _ (fun a b z1 => by rw [am_w_n (by omega)]; exact k3 a b (by omega) (by omega)), if_pos hn0, hy]
      · rw [← hT.2 a ha]; exact funext fun b => eo a b (by omega) (by omega)
theorem ok_sure {l : Launch} {g : am_G} : am_ok l g d_X10_sure d_X11_sure [] am_isI := ok_II (fun B pl hL u => s_X10_sure hL u) (fun B pl hL u => s_X11_sure hL u) two_sure
/-! test -/
def m_ml (t : Nat → Nat) : List Nat → (Nat → Nat) → Nat → Nat
  | [], _, mo => mo
  | w :: l, T, mo => m_ml t l (fun x => if x = t w then T x + 1 else T x) (if mo < T (t w) + 1 then T (t w) + 1 else mo)
theorem ml_le (t : Nat → Nat) : ∀ (l : List Nat) (T : Nat → Nat) (mo c : Nat), mo ≤ c → (∀ x, T x ≤ c) → m_ml t l T mo ≤ c + l.length := by
  intro l
  induction l with
  | nil => intro T mo c h _; exact h
  | cons w l ih =>
    intro T mo c h hT
    rw [m_ml, List.length_cons]
    have := hT (t w)
    have := ih (fun x => if x = t w then T x + 1 else T x) (if mo < T (t w) + 1 then T (t w) + 1 else mo) (c + 1) (by split <;> omega) (fun x => by
      have := hT x
      show (if x = t w then T x + 1 else T x) ≤ c + 1
      split <;> omega)
    omega
theorem ml_ge (t : Nat → Nat) : ∀ (l : List Nat) (T : Nat → Nat) (mo : Nat), mo ≤ m_ml t l T mo := by
  intro l
  induction l with
  | nil => intro T mo; exact Nat.le_refl _
  | cons w l ih =>
    intro T mo
    rw [m_ml]
    exact Nat.le_trans (by split <;> omega) (ih _ (if mo < T (t w) + 1 then T (t w) + 1 else mo))
theorem max_c {a b : Nat} (ha : a < 2 ^ 31) (hb : b < 2 ^ 31) : f_J9_max_7cf53 (nI a) (nI b) = some (nI (if a < b then b else a)) := by
  unfold f_J9_max_7cf53
  by_cases h : a < b
  · rw [if_pos h, if_pos (nI_lt h hb)]
  · rw [if_neg h, if_neg (nI_nlt (by omega) ha)]
theorem max_m {a b : Nat} (ha : a < 2 ^ 31) (hb : b < 2 ^ 31) : f_X11_greater (nI a) (nI b) = some (nI (if a < b then b else a)) := by
  unfold f_X11_greater
  by_cases h : a < b
  · rw [if_pos h, if_pos (nI_le (by omega) hb)]
  · rw [if_neg h]
    by_cases h2 : a = b
    · rw [if_pos (nI_le (by omega) hb), h2]
    · rw [if_neg (nI_ge (by omega) ha)]
theorem cml_lp {pl n z : Nat} {F X Y : Nat → Int32} (hp : pl = 30 ∨ pl = 35) (hn : n ≤ 6) {s : Int32} {t : Nat → Nat} (ht : ∀ w, m_bu F s (nI w) n 0 0 = nI (t w) ∧ t w ≤ 120) {l : List Nat} (hl : l.length ≤ 64) : ∀ (f i mo : Nat) (T : Nat → Nat) (u : am_U), b_C pl n z F X Y u → g_L u l → (∀ x, x < 121 → u 25 x = nI (T x)) → mo ≤ i → (∀ x, T x ≤ i) → i ≤ l.length → l.length < i + f → ∃ w, f_X0_mostLeft_13 s pl f (nI mo) (nI i) u = some (nI (m_ml t (l.drop i) T mo), w) ∧ ∀ a b, a ≠ 25 → w a b = u a b := by
  intro f
  induction f with
  | zero => intro i mo T u _ _ _ _ _ h1 h2; omega
  | succ f ih =>
    intro i mo T u hb hg hT hmo hTi h1 h2
    rw [f_X0_mostLeft_13, hg.1]
    rcases Nat.lt_or_ge i l.length with q | q
    · obtain ⟨x, hx⟩ : ∃ x, l.getD i 0 = x := ⟨_, rfl⟩
      have hTx := hTi (t x)
      have ht2 := (ht x).2
      obtain ⟨w, k1, k2⟩ := ih (i + 1) (if mo < T (t x) + 1 then T (t x) + 1 else mo) (fun y => if y = t x then T y + 1 else T y) (am_w u 25 (t x) (nI (T (t x) + 1))) (b_C_fr hp hb (fun a b z1 z2 z3 => am_w_n (by omega))) ⟨by rw [am_w_n (by omega)]; exact hg.1, fun j hj => by rw [am_w_n (by omega)]; exact hg.2 j hj⟩ (fun y hy => by
          rw [am_w_ap]
          by_cases c : y = t x
          · rw [if_pos ⟨rfl, c⟩]
            show _ = nI (if y = t x then T y + 1 else T y)
            rw [if_pos c, c]
          · rw [if_neg (by omega)]
            show _ = nI (if y = t x then T y + 1 else T y)
            rw [if_neg c]; exact hT y hy) (by split <;> omega) (fun y => by
          have := hTi y
          show (if y = t x then T y + 1 else T y) ≤ i + 1
          split <;> omega) (by omega) (by omega)
      refine ⟨w, ?_, fun a b z => by rw [k2 a b z, am_w_n (by omega)]⟩
      rw [if_neg (nI_ge q (by omega)), am_ck_t (am_ix_nI (show i < 64 by omega) (by omega)), nI_clamp (by omega), hg.2 i q, hx, cbu_eq hb hn, (ht x).1, obs, am_ck_t (am_ix_nI (show t x < 121 by omega) (by omega)), nI_clamp (by omega), hT (t x) (by omega), nI_1]
      show (f_J9_max_7cf53 (nI mo) (am_w u 25 (t x) (nI (T (t x) + 1)) 25 (t x))).bind (fun q6 => f_X0_mostLeft_13 s pl f q6 (nI i + 1) (am_w u 25 (t x) (nI (T (t x) + 1)))) = _
      rw [am_w_s, max_c (by omega) (by omega), obs, nI_1, k1, dr_c l i q, hx, m_ml]
    · rw [if_pos (nI_le (show l.length ≤ i by omega) (by omega)), show i = l.length by omega, List.drop_length]
      exact ⟨u, rfl, fun _ _ _ => rfl⟩
theorem cml_eq {pl n z : Nat} {F X Y : Nat → Int32} (hp : pl = 30 ∨ pl = 35) (hn : n ≤ 6) {s : Int32} {t : Nat → Nat} (ht : ∀ w, m_bu F s (nI w) n 0 0 = nI (t w) ∧ t w ≤ 120) {l : List Nat} (hl : l.length ≤ 64) {u : am_U} (hb : b_C pl n z F X Y u) (hg : g_L u l) : ∃ w, f_X0_mostLeft s pl u = some (nI (m_ml t l (fun _ => 0) 0), w) ∧ ∀ a b, a ≠ 25 → w a b = u a b := by
  obtain ⟨w, k1, k2⟩ := cml_lp hp hn ht hl 20000 0 0 (fun _ => 0) (am_fl u 25 0 121 0) (b_C_fr hp hb (fun a b z1 z2 z3 => am_fl_n (by omega))) ⟨by rw [am_fl_n (by omega)]; exact hg.1, fun j hj => by rw [am_fl_n (by omega)]; exact hg.2 j hj⟩ (fun x hx => am_fl_s (by omega)) (by omega) (fun _ => by omega) (by omega) (by omega)
  refine ⟨w, ?_, fun a b z => by rw [k2 a b z, am_fl_n (by omega)]⟩
  unfold f_X0_mostLeft
  rw [fill_eq 25 121 0 u (by omega), obs]
  exact k1
theorem mlb_lp {n z : Nat} {F X Y : Nat → Int32} (hn : n ≤ 6) (hz : z ≤ 8) (G : Nat → Bool) (hG : ∀ s, G s = m_fi F X Y n (nI s) z 0) {s : Int32} {t : Nat → Nat} (ht : ∀ w, m_bu F s (nI w) n 0 0 = nI (t w) ∧ t w ≤ 120) : ∀ (f i mo : Nat) (T : Nat → Nat) (u : am_U), b_M n z F X Y u → (∀ x, x < 121 → u 88 x = nI (T x)) → mo ≤ i → (∀ x, T x ≤ i) → i ≤ 2 ^ n → 2 ^ n < i + f → ∃ w, f_X11_leftBy_25 s f (nI mo) (nI i) u = some (nI (m_ml t (m_gt G (2 ^ n - i) i) T mo), w) ∧ ∀ a b, a ≠ 88 → w a b = u a b := by
  have hpw := pow_le hn
  intro f
  induction f with
  | zero => intro i mo T u _ _ _ _ h1 h2; omega
  | succ f ih =>
    intro i mo T u hb hT hmo hTi h1 h2
    rw [f_X11_leftBy_25, hb.1, shl_n n (by omega)]
    rcases Nat.lt_or_ge i (2 ^ n) with q | q
    · rw [if_neg (nI_ge q (by omega)), nI_1, mfi_eq hb hn hz, ← hG i, obs, show 2 ^ n - i = (2 ^ n - (i + 1)) + 1 by omega, m_gt]
      by_cases g : G i = true
      · have hTx := hTi (t i)
        have ht2 := (ht i).2
        obtain ⟨w, k1, k2⟩ := ih (i + 1) (if mo < T (t i) + 1 then T (t i) + 1 else mo) (fun y => if y = t i then T y + 1 else T y) (am_w u 88 (t i) (nI (T (t i) + 1))) (b_M_fr hb (fun a b z1 z2 => am_w_n (by omega))) (fun y hy => by
          rw [am_w_ap]
          by_cases c : y = t i
          · rw [if_pos ⟨rfl, c⟩]
            show _ = nI (if y = t i then T y + 1 else T y)
            rw [if_pos c, c]
          · rw [if_neg (by omega)]
            show _ = nI (if y = t i then T y + 1 else T y)
            rw [if_neg c]; exact hT y hy) (by split <;> omega) (fun y => by
          have := hTi y
          show (if y = t i then T y + 1 else T y) ≤ i + 1
          split <;> omega) (by omega) (by omega)
        refine ⟨w, ?_, fun a b z => by rw [k2 a b z, am_w_n (by omega)]⟩
        rw [b1_t g, if_neg ne10, if_pos g, mbu_eq hb hn, (ht i).1, obs, am_ck_t (am_ix_nI (show t i < 121 by omega) (by omega)), nI_clamp (by omega), hT (t i) (by omega), nI_1]
        show (f_X11_greater (nI mo) (am_w u 88 (t i) (nI (T (t i) + 1)) 88 (t i))).bind (fun q8 => f_X11_leftBy_25 s f q8 (nI (i + 1)) (am_w u 88 (t i) (nI (T (t i) + 1)))) = _
        rw [am_w_s, max_m (by omega) (by omega), obs, k1, m_ml]
      · rw [b1_f g, if_pos rfl, if_neg g]
        exact ih (i + 1) mo T u hb hT (by omega) (fun x => by have := hTi x; omega) (by omega) (by omega)
    · rw [if_pos (nI_le (show 2 ^ n ≤ i by omega) (by omega)), show 2 ^ n - i = 0 by omega]
      exact ⟨u, rfl, fun _ _ _ => rfl⟩
theorem lb2_lp (v1 : Int32) (K : am_U → Option (Int32 × am_U)) : ∀ (f i : Nat) (u : am_U), i ≤ 121 → 121 < i + f → f_X11_leftBy_2 v1 K f (nI i) u = K (am_fl u 88 i 121 0) := by
  intro f
  induction f with
  | zero => intro i u h1 h2; omega
  | succ f ih =>
    intro i u h1 h2
    rw [f_X11_leftBy_2]
    rcases Nat.lt_or_ge i 121 with q | q
    · rw [if_neg (show ¬ (121 : Int32) ≤ nI i from nI_ge (b := 121) q (by omega)), am_ck_t (am_ix_nI q (by omega)), nI_clamp (by omega), nI_1]
      show f_X11_leftBy_2 v1 K f (nI (i + 1)) (am_w u 88 i 0) = _
      rw [ih (i + 1) _ (by omega) (by omega), am_fl_w q]
    · have : i = 121 := by omega
      subst this
      rw [if_pos (show (121 : Int32) ≤ nI 121 by decide), am_fl_e]
theorem mlf_eq {n z : Nat} {F X Y : Nat → Int32} (hn : n ≤ 6) (hz : z ≤ 8) (G : Nat → Bool) (hG : ∀ s, G s = m_fi F X Y n (nI s) z 0) {s : Int32} {t : Nat → Nat} (ht : ∀ w, m_bu F s (nI w) n 0 0 = nI (t w) ∧ t w ≤ 120) {u : am_U} (hb : b_M n z F X Y u) : ∃ w, f_X11_leftBy s u = some (nI (m_ml t (m_gt G (2 ^ n) 0) (fun _ => 0) 0), w) ∧ ∀ a b, a ≠ 88 → w a b = u a b := by
  have hpw := pow_le hn
  obtain ⟨w, k1, k2⟩ := mlb_lp hn hz G hG ht 20000 0 0 (fun _ => 0) (am_fl u 88 0 121 0) (b_M_fr hb (fun a b z1 z2 => am_fl_n (by omega))) (fun x hx => am_fl_s (by omega)) (by omega) (fun _ => by omega) (Nat.zero_le _) (by omega)
  refine ⟨w, ?_, fun a b z => by rw [k2 a b z, am_fl_n (by omega)]⟩
  unfold f_X11_leftBy
  exact (lb2_lp s _ 20000 0 u (by omega) (by omega)).trans k1
def m_nx (M : Nat → Nat) : Nat → Nat → Nat → Nat
  | 0, _, b => b
  | m + 1, s, b => m_nx M m (s + 1) (if M s < M b ∨ (M s = M b ∧ m_bc s < m_bc b) then s else b)
theorem nx_lt (M : Nat → Nat) : ∀ (m s b : Nat), b < s → m_nx M m s b < s + m := by
  intro m
  induction m with
  | zero => intro s b h; exact h
  | succ m ih =>
    intro s b h
    rw [m_nx]
    have := ih (s + 1) (if M s < M b ∨ (M s = M b ∧ m_bc s < m_bc b) then s else b) (by split <;> omega)
    omega
theorem cnx_lp {pl n z : Nat} {F X Y : Nat → Int32} (hp : pl = 30 ∨ pl = 35) (hn : n ≤ 6) {l : List Nat} (hl : l.length ≤ 64) (M : Nat → Nat) (hM : ∀ s, M s ≤ 64) (hc : ∀ s, s < 2 ^ n → ∀ u, b_C pl n z F X Y u → g_L u l → ∃ w, f_X0_mostLeft (nI s) pl u = some (nI (M s), w) ∧ ∀ a b, a ≠ 25 → w a b = u a b) : ∀ (f s b : Nat) (u : am_U), b_C pl n z F X Y u → g_L u l → b < s → s ≤ 2 ^ n → 2 ^ n < s + f → ∃ w, f_X0_nextToBurn_12 pl f (nI b) (nI (M b)) (nI s) u = some (nI (m_nx M (2 ^ n - s) s b), w) ∧ ∀ a b, a ≠ 25 → w a b = u a b := by
  have hpw := pow_le hn
  intro f
  induction f with
  | zero => intro s b u _ _ _ h1 h2; omega
  | succ f ih =>
    intro s b u hb hg hbs h1 h2
    rw [f_X0_nextToBurn_12, hb.1, shl_n n (by omega)]
    rcases Nat.lt_or_ge s (2 ^ n) with q | q
    · obtain ⟨w, k1, k2⟩ := hc s q u hb hg
      have hb' : b_C pl n z F X Y w := b_C_fr hp hb (fun a b z1 z2 z3 => k2 a b z2)
      have hg' : g_L w l := ⟨by rw [k2 21 5 (by omega)]; exact hg.1, fun j hj => by rw [k2 24 j (by omega)]; exact hg.2 j hj⟩
      have b1 := bc_le s
      have b2 := bc_le b
      have m1 := hM s
      have m2 := hM b
      rw [if_neg (nI_ge q (by omega)), nI_1, k1, obs, cbc_eq s (by omega), obs, cbc_eq b (by omega), obs, show 2 ^ n - s = (2 ^ n - (s + 1)) + 1 by omega, m_nx]
      dsimp only [am_jn]
      obtain ⟨w1, y1, y2⟩ := ih (s + 1) s w hb' hg' (by omega) (by omega) (by omega)
      obtain ⟨w2, x1, x2⟩ := ih (s + 1) b w hb' hg' (by omega) (by omega) (by omega)
      by_cases c1 : M s < M b
      · refine ⟨w1, ?_, fun a b z => by rw [y2 a b z, k2 a b z]⟩
        rw [if_pos (Or.inl c1), if_pos (nI_lt c1 (by omega)), if_pos (nI_lt c1 (by omega)), y1]
        split <;> rfl
      · by_cases c2 : M s = M b
        · by_cases c3 : m_bc b ≤ m_bc s
          · refine ⟨w2, ?_, fun a b z => by rw [x2 a b z, k2 a b z]⟩
            rw [if_neg (show ¬ (M s < M b ∨ (M s = M b ∧ m_bc s < m_bc b)) by omega), if_pos (nI_le c3 (by omega)), if_neg (nI_nlt (by omega) (by omega)), if_neg (fun z => z (by rw [c2])), if_pos rfl, x1]
          · refine ⟨w1, ?_, fun a b z => by rw [y2 a b z, k2 a b z]⟩
            rw [if_pos (Or.inr ⟨c2, by omega⟩), if_neg (nI_ge (show m_bc s < m_bc b by omega) (by omega)), if_neg (nI_nlt (by omega) (by omega)), if_neg (fun z => z (by rw [c2])), if_neg ne10, y1]
        · refine ⟨w2, ?_, fun a b z => by rw [x2 a b z, k2 a b z]⟩
          have hne : ¬ nI (M s) = nI (M b) := fun z => c2 ((nI_eq (by omega) (by omega)).mp z)
          rw [if_neg (show ¬ (M s < M b ∨ (M s = M b ∧ m_bc s < m_bc b)) by omega), if_neg (nI_nlt (show M b ≤ M s by omega) (by omega)), if_neg (nI_nlt (show M b ≤ M s by omega) (by omega)), if_pos hne, if_pos hne, x1]
          split <;> rfl
    · rw [if_pos (nI_le (show 2 ^ n ≤ s by omega) (by omega)), show 2 ^ n - s = 0 by omega]
      exact ⟨u, rfl, fun _ _ _ => rfl⟩
theorem mnx_lp {n z : Nat} {F X Y : Nat → Int32} (hn : n ≤ 6) (M : Nat → Nat) (hM : ∀ s, M s ≤ 64) (hc : ∀ s, s < 2 ^ n → ∀ u, b_M n z F X Y u → ∃ w, f_X11_leftBy (nI s) u = some (nI (M s), w) ∧ ∀ a b, a ≠ 88 → w a b = u a b) (K : Int32 → Int32 → am_U → Option (Int32 × am_U)) : ∀ (f s b : Nat) (u : am_U), b_M n z F X Y u → b < s → s ≤ 2 ^ n → 2 ^ n < s + f → ∃ w, f_X11_test_17 K f (nI b) (nI (M b)) (nI s) u = K (nI (m_nx M (2 ^ n - s) s b)) (nI (M (m_nx M (2 ^ n - s) s b))) w ∧ ∀ a b, a ≠ 88 → w a b = u a b := by
  have hpw := pow_le hn
  intro f
  induction f with
  | zero => intro s b u _ _ h1 h2; omega
  | succ f ih =>
    intro s b u hb hbs h1 h2
    rw [f_X11_test_17, hb.1, shl_n n (by omega)]
    rcases Nat.lt_or_ge s (2 ^ n) with q | q
    · obtain ⟨w, k1, k2⟩ := hc s q u hb
      have hb' : b_M n z F X Y w := b_M_fr hb (fun a b z1 z2 => k2 a b z2)
      have b1 := bc_le s
      have b2 := bc_le b
      have m1 := hM s
      have m2 := hM b
      rw [if_neg (nI_ge q (by omega)), nI_1, k1, obs, show 2 ^ n - s = (2 ^ n - (s + 1)) + 1 by omega, m_nx]
      dsimp only [am_jn]
      rw [if_neg (nI_m9 (show b < 2 ^ 31 by omega))]
      obtain ⟨w1, y1, y2⟩ := ih (s + 1) s w hb' (by omega) (by omega) (by omega)
      obtain ⟨w2, x1, x2⟩ := ih (s + 1) b w hb' (by omega) (by omega) (by omega)
      by_cases c1 : M s < M b
      · refine ⟨w1, ?_, fun a b z => by rw [y2 a b z, k2 a b z]⟩
        rw [if_pos (Or.inl c1), if_pos (nI_lt c1 (by omega)), y1]
      · by_cases c2 : M s = M b
        · rw [if_neg (nI_nlt (show M b ≤ M s by omega) (by omega)), if_neg (show ¬ ¬ nI (M s) = nI (M b) from fun z => z (by rw [c2])), mbc_eq (by omega), obs, mbc_eq (by omega), obs]
          by_cases c3 : m_bc b ≤ m_bc s
          · refine ⟨w2, ?_, fun a b z => by rw [x2 a b z, k2 a b z]⟩
            rw [if_neg (show ¬ (M s < M b ∨ (M s = M b ∧ m_bc s < m_bc b)) by omega), if_pos (nI_le c3 (by omega)), x1]
          · refine ⟨w1, ?_, fun a b z => by rw [y2 a b z, k2 a b z]⟩
            rw [if_pos (Or.inr ⟨c2, by omega⟩), if_neg (nI_ge (show m_bc s < m_bc b by omega) (by omega)), y1]
        · refine ⟨w2, ?_, fun a b z => by rw [x2 a b z, k2 a b z]⟩
          have hne : ¬ nI (M s) = nI (M b) := fun z => c2 ((nI_eq (by omega) (by omega)).mp z)
          rw [if_neg (show ¬ (M s < M b ∨ (M s = M b ∧ m_bc s < m_bc b)) by omega), if_neg (nI_nlt (show M b ≤ M s by omega) (by omega)), if_pos hne, x1]
    · rw [if_pos (nI_le (show 2 ^ n ≤ s by omega) (by omega)), show 2 ^ n - s = 0 by omega]
      exact ⟨u, rfl, fun _ _ _ => rfl⟩
theorem two_test : am_two (fun pl u => f_X10_test pl u) (fun _ u => f_X11_test u) := by
  intro pl hp u hI
  show ∃ v u1 u2, f_X10_test pl u = _ ∧ f_X11_test u1 = _ ∧ _
  obtain ⟨n, z, hn, hz, e1, e2, hC, hM, hF⟩ := burn_env hI
  have hpw := pow_le hn
  by_cases hn0 : n = 0
  · subst hn0
    refine ⟨-4, u, u, ?_, ?_, hI, fun _ _ => rfl⟩
    · unfold f_X10_test; rw [e1, if_neg (fun q => q rfl)]
    · unfold f_X11_test; rw [e2, if_neg (fun q => q rfl)]
  have h2n : 2 ≤ 2 ^ n := by
    have : 2 ^ 1 ≤ 2 ^ n := Nat.pow_le_pow_right (by omega) (by omega)
    omega
  have hne : ¬ nI n = 0 := nI_ne0 (by omega) (by omega)
  obtain ⟨G, hG⟩ : ∃ G : Nat → Bool, ∀ s, G s = m_fi (u 70) (u 86) (u 87) n (nI s) z 0 := ⟨_, fun _ => rfl⟩
  obtain ⟨l, hl⟩ : ∃ l, m_gt G (2 ^ n) 0 = l := ⟨_, rfl⟩
  have hlen := gt_len G (2 ^ n) 0
  obtain ⟨w, k1, k2, k3⟩ := cga_eq hp hn hz G hG hC
  rw [hl] at k1 k2 hlen
  have htt : ∀ s : Nat, ∃ t : Nat → Nat, ∀ w, m_bu (u 70) (nI s) (nI w) n 0 0 = nI (t w) ∧ t w ≤ 120 := fun s => by
    refine ⟨fun w => (m_bu (u 70) (nI s) (nI w) n 0 0).toNatClampNeg, fun w => ?_⟩
    obtain ⟨A, h1, h2⟩ := bu_nI (nI s) (nI w) n 0 0 (F := u 70) (fun j _ hj => hF j (by omega))
    have h3 : m_bu (u 70) (nI s) (nI w) n 0 0 = nI A := h2
    show m_bu (u 70) (nI s) (nI w) n 0 0 = nI (m_bu (u 70) (nI s) (nI w) n 0 0).toNatClampNeg ∧ (m_bu (u 70) (nI s) (nI w) n 0 0).toNatClampNeg ≤ 120
    rw [h3, nI_clamp (by omega)]
    exact ⟨rfl, by omega⟩
  obtain ⟨t, ht⟩ : ∃ t : Nat → Nat → Nat, ∀ s w, m_bu (u 70) (nI s) (nI w) n 0 0 = nI (t s w) ∧ t s w ≤ 120 := ⟨fun s => Classical.choose (htt s), fun s => Classical.choose_spec (htt s)⟩
  obtain ⟨M, hMM⟩ : ∃ M : Nat → Nat, ∀ s, M s = m_ml (t s) l (fun _ => 0) 0 := ⟨_, fun _ => rfl⟩
  have hM64 : ∀ s, M s ≤ 64 := fun s => by
    have := ml_le (t s) l (fun _ => 0) 0 0 (Nat.le_refl 0) (fun _ => Nat.le_refl 0)
    rw [hMM]; omega
  have hcC : ∀ s, s < 2 ^ n → ∀ v, b_C pl n z (u 70) (u 86) (u 87) v → g_L v l → ∃ w, f_X0_mostLeft (nI s) pl v = some (nI (M s), w) ∧ ∀ a b, a ≠ 25 → w a b = v a b := fun s _ v h1 h2 => by
    rw [hMM]; exact cml_eq hp hn (ht s) (by omega) h1 h2
  have hcM : ∀ s, s < 2 ^ n → ∀ v, b_M n z (u 70) (u 86) (u 87) v → ∃ w, f_X11_leftBy (nI s) v = some (nI (M s), w) ∧ ∀ a b, a ≠ 88 → w a b = v a b := fun s _ v h1 => by
    rw [hMM, ← hl]; exact mlf_eq hn hz G hG (ht s) h1
  obtain ⟨nx, hnx⟩ : ∃ nx, m_nx M (2 ^ n - 2) 2 1 = nx := ⟨_, rfl⟩
  have hnxl : nx < 2 ^ n := by have := nx_lt M (2 ^ n - 2) 2 1 (by omega); omega
  have hMt : ∀ v : am_U, (∀ a b, 60 ≤ a → v a b = u a b) → ∃ y, f_X11_test v = (if ¬ nI (M nx) = 0 then some (nI nx, am_w y 60 2 (nI (M nx))) else some (-3, am_mts y 4)) ∧ ∀ a b, a ≠ 88 → y a b = v a b := fun v hv => by
    have hbv : b_M n z (u 70) (u 86) (u 87) v := b_M_fr hM (fun a b z1 _ => hv a b z1)
    obtain ⟨w1, p1, p2⟩ := hcM 1 (by omega) v hbv
    have hbw : b_M n z (u 70) (u 86) (u 87) w1 := b_M_fr hbv (fun a b z1 z2 => p2 a b z2)
    obtain ⟨y, q1, q2⟩ := mnx_lp hn M hM64 hcM (fun (c5v1 : Int32) (c5v2 : Int32) (c5u : am_U) => if ¬ c5v2 = 0 then some (c5v1, am_w c5u 60 2 c5v2) else some (-3, am_mts c5u 4)) 19999 2 1 w1 hbw (by omega) (by omega) (by omega)
    refine ⟨y, ?_, fun a b z => by rw [q2 a b z, p2 a b z]⟩
    rw [hnx] at q1
    unfold f_X11_test
    rw [hv 60 12 (by omega), e2, if_pos hne]
    have hmee : ∀ x, f_X11_meets 4 x = some (-3, am_mts x 4) := fun x => meets_eq (f := 4) (by omega) x
    simp only [tell_m, obs, hmee]
    rw [f_X11_test_17, hv 60 12 (by omega), e2, shl_n n (by omega), if_neg (show ¬ nI (2 ^ n) ≤ (1 : Int32) from nI_ge (a := 1) (by omega) (by omega)), show f_X11_leftBy 1 v = some (nI (M 1), w1) from p1, obs, jn_eq, if_pos rfl]
    exact q1
  have hE : ∃ w3, f_X10_test pl u = (if ¬ nI l.length = 0 then some (nI nx, am_w w3 4 13 (nI (M nx))) else some (-3, am_fnd w 4)) ∧ ∀ a b, a ≠ 25 → w3 a b = w a b := by
    have hbw : b_C pl n z (u 70) (u 86) (u 87) w := b_C_fr hp hC (fun a b z1 z2 z3 => k3 a b z1 z3)
    obtain ⟨w1, p1, p2⟩ := hcC 1 (by omega) w hbw k2
    have hfr : ∀ x : am_U, (∀ a b, a ≠ 25 → x a b = w a b) → b_C pl n z (u 70) (u 86) (u 87) x ∧ g_L x l := fun x hx => ⟨b_C_fr hp hbw (fun a b z1 z2 z3 => hx a b z2), by rw [hx 21 5 (by omega)]; exact k2.1, fun j hj => by rw [hx 24 j (by omega)]; exact k2.2 j hj⟩
    obtain ⟨w2, q1, q2⟩ := cnx_lp hp hn (by omega) M hM64 hcC 20000 2 1 w1 (hfr w1 p2).1 (hfr w1 p2).2 (by omega) (by omega) (by omega)
    have g2 : ∀ a b, a ≠ 25 → w2 a b = w a b := fun a b z => by rw [q2 a b z, p2 a b z]
    rw [hnx] at q1
    obtain ⟨w3, r1, r2⟩ := hcC nx hnxl w2 (hfr w2 g2).1 (hfr w2 g2).2
    refine ⟨w3, ?_, fun a b z => by rw [r2 a b z, g2 a b z]⟩
    have hN : f_X0_nextToBurn pl w = some (nI nx, w2) := by
      unfold f_X0_nextToBurn
      rw [show f_X0_mostLeft 1 pl w = some (nI (M 1), w1) from p1, obs]
      exact q1
    unfold f_X10_test
    rw [e1, if_pos hne, k1]
    simp only [tell_c, obs, hN, r1, show f_X10_find 4 w = some (-3, am_fnd w 4) from find_eq (f := 4) (by omega) w]
  obtain ⟨w3, hE, g3⟩ := hE
  have gu : ∀ a b, a ≠ 24 → a ≠ 25 → ¬ (a = 21 ∧ b = 5) → w3 a b = u a b := fun a b z1 z2 z3 => by rw [g3 a b z2, k3 a b z1 z3]
  cases hlc : l with
  | nil =>
    have hM0 : M nx = 0 := by rw [hMM, hlc]; rfl
    obtain ⟨y, m1, m2⟩ := hMt (am_fnd w 4) (fun a b z1 => by rw [fnd_n (by omega)]; exact k3 a b (by omega) (by omega))
    have hT := inv_find hp hI 4
    have eo : ∀ a b, a ≠ 24 → ¬ (a = 21 ∧ b = 5) → a ≠ 88 → am_mts y 4 a b = am_mts (am_fnd u 4) 4 a b := fun a b z1 z2 z3 => by
      unfold am_mts
      simp only [am_w_ap, m2 a b z3, m2 61 4 (by omega)]
      unfold am_fnd
      simp only [am_w_ap, k3 a b z1 z2, k3 29 4 (by omega) (by omega), k3 61 4 (by omega) (by omega)]
    refine ⟨-3, am_fnd w 4, am_mts y 4, ?_, ?_, fr_free hp hT.1 (fun a b z1 z2 z3 z4 => eo a b z1 z3 z4), fun a ha => ?_⟩
    · rw [hE, hlc, if_neg (fun q => q rfl)]
    · rw [m1, hM0, if_neg (fun q => q rfl)]
    · rw [← hT.2 a ha]; exact funext fun b => eo a b (by omega) (by omega) (by omega)
  | cons x l' =>
    have hlen0 : ¬ nI l.length = 0 := nI_ne0 (by rw [hlc, List.length_cons]; omega) (by omega)
    have hM1 : 1 ≤ M nx := by
      rw [hMM, hlc, m_ml]
      exact Nat.le_trans (by split <;> omega) (ml_ge (t nx) l' _ _)
    have hm64 := hM64 nx
    obtain ⟨y, m1, m2⟩ := hMt (am_w w3 4 13 (nI (M nx))) (fun a b z1 => by rw [am_w_n (by omega)]; exact gu a b (by omega) (by omega) (by omega))
    have hT := inv_tell hp hI (nI (M nx))
    have eo : ∀ a b, a ≠ 24 → a ≠ 25 → ¬ (a = 21 ∧ b = 5) → a ≠ 88 → am_w y 60 2 (nI (M nx)) a b = am_w (am_w u 4 13 (nI (M nx))) 60 2 (nI (M nx)) a b := fun a b z1 z2 z3 z4 => by
      simp only [am_w_ap, m2 a b z4, gu a b z1 z2 z3]
    refine ⟨nI nx, am_w w3 4 13 (nI (M nx)), am_w y 60 2 (nI (M nx)), ?_, ?_, fr_free hp hT.1 (fun a b z1 z2 z3 z4 => eo a b z1 z2 z3 z4), fun a ha => ?_⟩
    · rw [hE, if_pos hlen0]
    · rw [m1, if_pos (nI_ne0 (by omega) (by omega))]
    · rw [← hT.2 a ha]; exact funext fun b => eo a b (by omega) (by omega) (by omega) (by omega)
theorem ok_test {l : Launch} {g : am_G} : am_ok l g d_X10_test d_X11_test [] am_isI := ok_II (fun B pl hL u => s_X10_test hL u) (fun B pl hL u => s_X11_test hL u) two_test
