/-! digest -/
def m_fo (W : Nat → Int64 → Int64) : Nat → Nat → Int64 → Int64
  | 0, _, h => h
  | m + 1, i, h => m_fo W m (i + 1) (W i h)
theorem fo_c {W V : Nat → Int64 → Int64} : ∀ (m i : Nat) (h : Int64), (∀ j h, i ≤ j → j < i + m → W j h = V j h) → m_fo W m i h = m_fo V m i h := by
  intro m
  induction m with
  | zero => intro i h _; rfl
  | succ m ih =>
    intro i h hh
    rw [m_fo, m_fo, hh i h (by omega) (by omega)]
    exact ih (i + 1) _ (fun j h z1 z2 => hh j h (by omega) (by omega))
/-- a loop that does a step at each of its places, and then goes on -/
theorem lp_fo {N : Nat} (hN : N < 2 ^ 31) (W : Nat → Int64 → Int64) (K : Int64 → Option Int64) (L : Nat → Nat → Int64 → Option Int64) (hs : ∀ f i h, i < N → L (f + 1) i h = L f (i + 1) (W i h)) (he : ∀ f i h, N ≤ i → i ≤ N → L (f + 1) i h = K h) : ∀ (f i : Nat) (h : Int64), i ≤ N → N < i + f → L f i h = K (m_fo W (N - i) i h) := by
  intro f
  induction f with
  | zero => intro i h h1 h2; omega
  | succ f ih =>
    intro i h h1 h2
    rcases Nat.lt_or_ge i N with q | q
    · rw [hs f i h q, show N - i = (N - (i + 1)) + 1 by omega, m_fo]
      exact ih (i + 1) _ (by omega) (by omega)
    · rw [he f i h q h1, show N - i = 0 by omega]; rfl
theorem lp_0 {N : Nat} (hN : N < 20000) (W : Nat → Int64 → Int64) (K : Int64 → Option Int64) (L : Nat → Nat → Int64 → Option Int64) (hs : ∀ f i h, i < N → L (f + 1) i h = L f (i + 1) (W i h)) (he : ∀ f i h, N ≤ i → i ≤ N → L (f + 1) i h = K h) (h : Int64) : L 20000 0 h = K (m_fo W N 0 h) := lp_fo (by omega) W K L hs he 20000 0 h (by omega) (by omega)
theorem mix_eq (a : Int64) (u : am_U) (h : Int64) : f_X11_mix a u h = some (31 * h + a) := Eq.trans rfl (Eq.refl _)
def w_ct (u : am_U) (n : Nat) (j : Nat) (h : Int64) : Int64 := 31 * h + (m_ct u n (nI j)).toInt64
theorem cd6 {pl n : Nat} {u : am_U} (hI : am_Inv pl u) (e1 : u pl 2 = nI n) (e : u 60 12 = nI n) (hn : n ≤ 6) (K : Int64 → Option Int64) (h : Int64) : f_X10_digest_6 pl u K 20000 h 0 = K (m_fo (w_ct u n) 10 0 h) :=
  lp_0 (by omega) (w_ct u n) K (fun f i h => f_X10_digest_6 pl u K f h (nI i)) (fun f i h q => by
    rw [f_X10_digest_6, if_neg (show ¬ (10 : Int32) ≤ nI i from nI_ge (b := 10) q (by omega)), cct_eq hI e1 e hn (by omega), obs, nI_1]; rfl) (fun f i h q q2 => by
    rw [f_X10_digest_6, if_pos (show (10 : Int32) ≤ nI i from nI_le (a := 10) q (by omega))]) h
theorem md9 {n : Nat} {u : am_U} (e : u 60 12 = nI n) (hn : n ≤ 6) (K : Int64 → Option Int64) (h : Int64) : f_X11_digest_9 u K 20000 0 h = K (m_fo (w_ct u n) 10 0 h) :=
  lp_0 (by omega) (w_ct u n) K (fun f i h => f_X11_digest_9 u K f (nI i) h) (fun f i h q => by
    rw [f_X11_digest_9, if_neg (show ¬ (10 : Int32) ≤ nI i from nI_ge (b := 10) q (by omega)), mct_eq _ e hn, obs, mix_eq, obs, nI_1]; rfl) (fun f i h q q2 => by
    rw [f_X11_digest_9, if_pos (show (10 : Int32) ≤ nI i from nI_le (a := 10) q (by omega))]) h
def w_jt (u : am_U) (k : Nat) (j : Nat) (h : Int64) : Int64 := 31 * h + (m_jt (u 69) (u 70) (u 75) k (nI j)).toInt64
theorem cd47 {pl n k : Nat} {u : am_U} (hI : am_Inv pl u) (e : u 60 12 = nI n) (hn : n ≤ 6) (hk : k < n) (K : Int64 → Option Int64) (h : Int64) : f_X10_digest_47 pl u (nI k) K 20000 h 0 = K (m_fo (w_jt u k) 5 0 h) :=
  lp_0 (by omega) (w_jt u k) K (fun f i h => f_X10_digest_47 pl u (nI k) K f h (nI i)) (fun f i h q => by
    rw [f_X10_digest_47, if_neg (show ¬ (5 : Int32) ≤ nI i from nI_ge (b := 5) q (by omega)), cjt_eq hI.2.2.2.1 hI.2.2.2.2.1 e hn hk, obs, nI_1]; rfl) (fun f i h q q2 => by
    rw [f_X10_digest_47, if_pos (show (5 : Int32) ≤ nI i from nI_le (a := 5) q (by omega))]) h
theorem md12 {k : Nat} {u : am_U} (hk : k < 6) (K : Int64 → Option Int64) (h : Int64) : f_X11_mixLand_12 u (nI k) K 20000 0 h = K (m_fo (w_jt u k) 5 0 h) :=
  lp_0 (by omega) (w_jt u k) K (fun f i h => f_X11_mixLand_12 u (nI k) K f (nI i) h) (fun f i h q => by
    rw [f_X11_mixLand_12, if_neg (show ¬ (5 : Int32) ≤ nI i from nI_ge (b := 5) q (by omega)), mjt_eq hk, obs, mix_eq, obs, nI_1]; rfl) (fun f i h q q2 => by
    rw [f_X11_mixLand_12, if_pos (show (5 : Int32) ≤ nI i from nI_le (a := 5) q (by omega))]) h
def w_js (u : am_U) (k : Nat) (h : Int64) : Int64 := m_fo (w_jt u k) 5 0 h
theorem cd33 {pl n : Nat} {u : am_U} (hI : am_Inv pl u) (e1 : u pl 2 = nI n) (e : u 60 12 = nI n) (hn : n ≤ 6) (K : Int64 → Option Int64) (h : Int64) : f_X10_digest_33 pl u K 20000 h 0 = K (m_fo (w_js u) n 0 h) :=
  lp_0 (by omega) (w_js u) K (fun f i h => f_X10_digest_33 pl u K f h (nI i)) (fun f i h q => by
    rw [f_X10_digest_33, e1, if_neg (nI_ge q (by omega)), cd47 hI e hn q, nI_1]; rfl) (fun f i h q q2 => by
    rw [f_X10_digest_33, e1, if_pos (nI_le q (by omega))]) h
theorem md2 {n : Nat} {u : am_U} (e : u 60 12 = nI n) (hn : n ≤ 6) (K : Int64 → Option Int64) (h : Int64) : f_X11_mixLand_2 u K 20000 0 h = K (m_fo (w_js u) n 0 h) :=
  lp_0 (by omega) (w_js u) K (fun f i h => f_X11_mixLand_2 u K f (nI i) h) (fun f i h q => by
    rw [f_X11_mixLand_2, e, if_neg (nI_ge q (by omega)), md12 (by omega), nI_1]; rfl) (fun f i h q q2 => by
    rw [f_X11_mixLand_2, e, if_pos (nI_le q (by omega))]) h
def w_pt (u : am_U) (n p : Nat) (j : Nat) (h : Int64) : Int64 := 31 * h + (m_pt (u 68) (u 75) n p (nI j)).toInt64
theorem cd90 {pl n p : Nat} {u : am_U} (hI : am_Inv pl u) (e1 : u pl 2 = nI n) (hn : n ≤ 6) (hp : p < 5) (K : Int64 → Option Int64) (h : Int64) : f_X10_digest_90 pl u (nI p) K 20000 h 0 = K (m_fo (w_pt u n p) 4 0 h) :=
  lp_0 (by omega) (w_pt u n p) K (fun f i h => f_X10_digest_90 pl u (nI p) K f h (nI i)) (fun f i h q => by
    rw [f_X10_digest_90, if_neg (show ¬ (4 : Int32) ≤ nI i from nI_ge (b := 4) q (by omega)), cpt_eq hI.2.2.2.1 hI.2.2.2.2.1 e1 hn hp, obs, nI_1]; rfl) (fun f i h q q2 => by
    rw [f_X10_digest_90, if_pos (show (4 : Int32) ≤ nI i from nI_le (a := 4) q (by omega))]) h
theorem md49 {n p : Nat} {u : am_U} (e : u 60 12 = nI n) (hn : n ≤ 6) (hp : p < 5) (K : Int64 → Option Int64) (h : Int64) : f_X11_mixLand_49 u (nI p) K 20000 0 h = K (m_fo (w_pt u n p) 4 0 h) :=
  lp_0 (by omega) (w_pt u n p) K (fun f i h => f_X11_mixLand_49 u (nI p) K f (nI i) h) (fun f i h q => by
    rw [f_X11_mixLand_49, if_neg (show ¬ (4 : Int32) ≤ nI i from nI_ge (b := 4) q (by omega)), mpt_eq e hn hp, obs, mix_eq, obs, nI_1]; rfl) (fun f i h q q2 => by
    rw [f_X11_mixLand_49, if_pos (show (4 : Int32) ≤ nI i from nI_le (a := 4) q (by omega))]) h
def w_ps (u : am_U) (n p : Nat) (h : Int64) : Int64 := m_fo (w_pt u n p) 4 0 h
theorem cd82 {pl n : Nat} {u : am_U} (hI : am_Inv pl u) (e1 : u pl 2 = nI n) (hn : n ≤ 6) (K : Int64 → Option Int64) (h : Int64) : f_X10_digest_82 pl u K 20000 h 0 = K (m_fo (w_ps u n) 5 0 h) :=
  lp_0 (by omega) (w_ps u n) K (fun f i h => f_X10_digest_82 pl u K f h (nI i)) (fun f i h q => by
    rw [f_X10_digest_82, if_neg (show ¬ (5 : Int32) ≤ nI i from nI_ge (b := 5) q (by omega)), cd90 hI e1 hn q, nI_1]; rfl) (fun f i h q q2 => by
    rw [f_X10_digest_82, if_pos (show (5 : Int32) ≤ nI i from nI_le (a := 5) q (by omega))]) h
theorem md42 {n : Nat} {u : am_U} (e : u 60 12 = nI n) (hn : n ≤ 6) (K : Int64 → Option Int64) (h : Int64) : f_X11_mixLand_42 u K 20000 0 h = K (m_fo (w_ps u n) 5 0 h) :=
  lp_0 (by omega) (w_ps u n) K (fun f i h => f_X11_mixLand_42 u K f (nI i) h) (fun f i h q => by
    rw [f_X11_mixLand_42, if_neg (show ¬ (5 : Int32) ≤ nI i from nI_ge (b := 5) q (by omega)), md49 e hn q, nI_1]; rfl) (fun f i h q q2 => by
    rw [f_X11_mixLand_42, if_pos (show (5 : Int32) ≤ nI i from nI_le (a := 5) q (by omega))]) h
def w_bn (u : am_U) (b : Nat) (h : Int64) : Int64 := 31 * (31 * h + (u 86 b).toInt64) + (u 87 b).toInt64
theorem cd125 {pl z : Nat} {u : am_U} (hz : z ≤ 8) (z1 : u 21 4 = nI z) (z3 : ∀ b, b < z → u 22 b = u 86 b ∧ u 23 b = u 87 b) (K : Int64 → Option Int64) (h : Int64) : f_X10_digest_125 pl u K 20000 h 0 = K (m_fo (w_bn u) z 0 h) :=
  lp_0 (by omega) (w_bn u) K (fun f i h => f_X10_digest_125 pl u K f h (nI i)) (fun f i h q => by
    rw [f_X10_digest_125, z1, if_neg (nI_ge q (by omega)), am_ck_t (am_ix_nI (show i < 8 by omega) (by omega)), nI_clamp (by omega), (z3 i q).1, (z3 i q).2, nI_1]; rfl) (fun f i h q q2 => by
    rw [f_X10_digest_125, z1, if_pos (nI_le q (by omega))]) h
theorem md79 {z : Nat} {u : am_U} (hz : z ≤ 8) (z2 : u 60 40 = nI z) (K : Int64 → Option Int64) (h : Int64) : f_X11_mixLand_79 u K 20000 0 h = K (m_fo (w_bn u) z 0 h) :=
  lp_0 (by omega) (w_bn u) K (fun f i h => f_X11_mixLand_79 u K f (nI i) h) (fun f i h q => by
    rw [f_X11_mixLand_79, z2, if_neg (nI_ge q (by omega)), am_ck_t (am_ix_nI (show i < 8 by omega) (by omega)), nI_clamp (by omega), mix_eq, obs, mix_eq, obs, nI_1]; rfl) (fun f i h q q2 => by
    rw [f_X11_mixLand_79, z2, if_pos (nI_le q (by omega))]) h
def w_kp (u : am_U) (k : Nat) (h : Int64) : Int64 := 31 * h + (u 20 k).toInt64
theorem cd178 {pl : Nat} {u : am_U} (K : Int64 → Option Int64) (h : Int64) : f_X10_digest_178 pl u K 20000 h 0 = K (m_fo (w_kp u) 3 0 h) :=
  lp_0 (by omega) (w_kp u) K (fun f i h => f_X10_digest_178 pl u K f h (nI i)) (fun f i h q => by
    rw [f_X10_digest_178, if_neg (show ¬ (3 : Int32) ≤ nI i from nI_ge (b := 3) q (by omega)), am_ck_t (am_ix_nI q (by omega)), nI_clamp (by omega), nI_1]; rfl) (fun f i h q q2 => by
    rw [f_X10_digest_178, if_pos (show (3 : Int32) ≤ nI i from nI_le (a := 3) q (by omega))]) h
theorem md117 {u : am_U} (hk : i_kept u) (h : Int64) : f_X11_mixLand_117 u 20000 0 h = some (m_fo (w_kp u) 3 0 h) :=
  lp_0 (by omega) (w_kp u) some (fun f i h => f_X11_mixLand_117 u f (nI i) h) (fun f i h q => by
    rw [f_X11_mixLand_117, if_neg (show ¬ (3 : Int32) ≤ nI i from nI_ge (b := 3) q (by omega)), am_ck_t (am_ix_nI q (by omega)), nI_clamp (by omega), nI_1, jn_eq]
    dsimp only
    rcases hk i q with ⟨k1, k2⟩ | ⟨k1, k2, -, -⟩
    · rw [if_pos k2, mix_eq, obs]
      unfold w_kp
      rw [k1]; rfl
    · rw [if_neg (by rw [k1]; decide), show (30 : Int32) * nI i = nI (30 * i) from nI_mul 30 i, show nI (30 * i) + 28 = nI (30 * i + 28) from nI_add _ 28, am_ck_t (am_ix_nI (by omega) (by omega)), nI_clamp (by omega), mix_eq, obs, ← k2]; rfl) (fun f i h q q2 => by
    rw [f_X11_mixLand_117, if_pos (show (3 : Int32) ≤ nI i from nI_le (a := 3) q (by omega))]) h
/-! the rows -/
def m_sz (x : Int32) : Nat := if x < 0 then 0 else x.toNatClampNeg
def w_ri (R : Nat → Int32) (j : Nat) (h : Int64) : Int64 := 31 * h + (R j).toInt64
theorem row_sz {u : am_U} {t s q m : Nat} (h : i_row u t s q m) : m_sz (u s m) ≤ 60 ∧ ∀ i, i ≤ 60 → ((u s m ≤ nI i) ↔ m_sz (u s m) ≤ i) := by
  unfold m_sz
  rcases h.2.1 with k | ⟨n, hn, k⟩
  · rw [k, if_pos neg1_lt]
    exact ⟨by omega, fun i hi => ⟨fun _ => Nat.zero_le i, fun _ => Int32.le_trans (show (-1 : Int32) ≤ 0 by decide) (nI_pos' (by omega))⟩⟩
  · rw [k, if_neg (nI_pos (by omega)), nI_clamp (by omega)]
    exact ⟨hn, fun i hi => nI_leI (by omega) (by omega)⟩
theorem cdr30 (c N t s q : Nat) (hc : (c = 5 ∧ N = 6 ∧ t = 40) ∨ (c = 6 ∧ N = 4 ∧ t = 52)) {u : am_U} {r : Nat} (hr : r < N) (h : i_row u (2 * r + t) s q r) (K : Int64 → Option Int64) (x : Int64) : f_X10_digestRows_30 u c (nI r) K 20000 x 0 = K (m_fo (w_ri (fun i => u q (60 * r + i))) (m_sz (u s r)) 0 x) := by
  have hln : am_rln c = N := by
    unfold am_rln
    rcases hc with ⟨rfl, rfl, rfl⟩ | ⟨rfl, rfl, rfl⟩ <;> rfl
  have hid : am_rid c r = 2 * r + t := by
    unfold am_rid
    rcases hc with ⟨rfl, rfl, rfl⟩ | ⟨rfl, rfl, rfl⟩ <;> rfl
  obtain ⟨h1, h2⟩ := row_sz h
  exact lp_0 (by omega) (w_ri (fun i => u q (60 * r + i))) K (fun f i x => f_X10_digestRows_30 u c (nI r) K f x (nI i)) (fun f i x z => by
    rw [f_X10_digestRows_30, hln, am_ck_t (am_ix_nI hr (by omega)), nI_clamp (show r < 2 ^ 31 by omega), hid, h.1, if_neg (fun z2 => by have := (h2 i (by omega)).mp z2; omega), am_ck_t (am_ix_nI (show i < 60 by omega) (by omega)), nI_clamp (show i < 2 ^ 31 by omega), h.2.2 i (by omega), nI_1]; rfl) (fun f i x z z2 => by
    rw [f_X10_digestRows_30, hln, am_ck_t (am_ix_nI hr (by omega)), nI_clamp (show r < 2 ^ 31 by omega), hid, h.1, if_pos ((h2 i (by omega)).mpr z)]) x
def w_rw (u : am_U) (s q r : Nat) (h : Int64) : Int64 := m_fo (w_ri (fun i => u q (60 * r + i))) (m_sz (u s r)) 0 (31 * h + (u s r).toInt64)
theorem cdr5 (c N t s q : Nat) (hc : (c = 5 ∧ N = 6 ∧ t = 40) ∨ (c = 6 ∧ N = 4 ∧ t = 52)) {u : am_U} (hr : ∀ r, r < N → i_row u (2 * r + t) s q r) (x : Int64) : f_X10_digestRows x c u = some (m_fo (w_rw u s q) N 0 x) := by
  have hln : am_rln c = N := by
    unfold am_rln
    rcases hc with ⟨rfl, rfl, rfl⟩ | ⟨rfl, rfl, rfl⟩ <;> rfl
  have hid : ∀ r, am_rid c r = 2 * r + t := fun r => by
    unfold am_rid
    rcases hc with ⟨rfl, rfl, rfl⟩ | ⟨rfl, rfl, rfl⟩ <;> rfl
  exact lp_0 (by omega) (w_rw u s q) some (fun f i x => f_X10_digestRows_5 u c f x (nI i)) (fun f i x z => by
    rw [f_X10_digestRows_5, hln, if_neg (nI_ge z (by omega)), am_ck_t (am_ix_nI z (by omega)), nI_clamp (by omega), hid, (hr i z).1, cdr30 c N t s q hc z (hr i z), nI_1]; rfl) (fun f i x z z2 => by
    rw [f_X10_digestRows_5, hln, if_pos (nI_le z (by omega))]) x
theorem md56 {u : am_U} {r : Nat} (hr : r < 6) (h : i_row u (2 * r + 40) 62 63 r) (K : Int64 → Option Int64) (x : Int64) : f_X11_digest_56 u (nI r) K 20000 0 x = K (m_fo (w_ri (fun i => u 63 (60 * r + i))) (m_sz (u 62 r)) 0 x) := by
  obtain ⟨h1, h2⟩ := row_sz h
  exact lp_0 (by omega) (w_ri (fun i => u 63 (60 * r + i))) K (fun f i x => f_X11_digest_56 u (nI r) K f (nI i) x) (fun f i x z => by
    rw [f_X11_digest_56, am_ck_t (am_ix_nI hr (by omega)), nI_clamp (show r < 2 ^ 31 by omega), if_neg (fun z2 => by have := (h2 i (by omega)).mp z2; omega), rowAt_eq hr (by omega), obs, mix_eq, obs, nI_1]; rfl) (fun f i x z z2 => by
    rw [f_X11_digest_56, am_ck_t (am_ix_nI hr (by omega)), nI_clamp (show r < 2 ^ 31 by omega), if_pos ((h2 i (by omega)).mpr z)]) x
theorem md37 {u : am_U} (hr : i_rows u) (K : Int64 → Option Int64) (x : Int64) : f_X11_digest_37 u K 20000 0 x = K (m_fo (w_rw u 62 63) 6 0 x) :=
  lp_0 (by omega) (w_rw u 62 63) K (fun f i x => f_X11_digest_37 u K f (nI i) x) (fun f i x z => by
    rw [f_X11_digest_37, if_neg (show ¬ (6 : Int32) ≤ nI i from nI_ge (b := 6) z (by omega)), am_ck_t (am_ix_nI z (by omega)), nI_clamp (by omega), mix_eq, obs, md56 z (hr i z), nI_1]; rfl) (fun f i x z z2 => by
    rw [f_X11_digest_37, if_pos (show (6 : Int32) ≤ nI i from nI_le (a := 6) z (by omega))]) x
theorem byteAt_eq {u : am_U} {r i : Nat} (hr : r < 4) (hi : i < 60) (h : ¬ u 65 r ≤ nI i) : f_X11_byteAt (nI r) (nI i) u = some (u 66 (60 * r + i)) := by
  unfold f_X11_byteAt
  rw [am_ck_t (am_ix_nI hr (by omega)), nI_clamp (show r < 2 ^ 31 by omega), if_neg h, nI_60, am_ck_t (am_ix_nI (by omega) (by omega)), nI_clamp (by omega)]
theorem md109 {u : am_U} {r : Nat} (hr : r < 4) (h : i_row u (2 * r + 52) 65 66 r) (K : Int64 → Option Int64) (x : Int64) : f_X11_digest_109 u (nI r) K 20000 0 x = K (m_fo (w_ri (fun i => u 66 (60 * r + i))) (m_sz (u 65 r)) 0 x) := by
  obtain ⟨h1, h2⟩ := row_sz h
  exact lp_0 (by omega) (w_ri (fun i => u 66 (60 * r + i))) K (fun f i x => f_X11_digest_109 u (nI r) K f (nI i) x) (fun f i x z => by
    have hnot : ¬ u 65 r ≤ nI i := fun z2 => by have := (h2 i (by omega)).mp z2; omega
    rw [f_X11_digest_109, am_ck_t (am_ix_nI hr (by omega)), nI_clamp (show r < 2 ^ 31 by omega), if_neg hnot, byteAt_eq hr (by omega) hnot, obs, mix_eq, obs, nI_1]; rfl) (fun f i x z z2 => by
    rw [f_X11_digest_109, am_ck_t (am_ix_nI hr (by omega)), nI_clamp (show r < 2 ^ 31 by omega), if_pos ((h2 i (by omega)).mpr z)]) x
theorem md91 {u : am_U} (hr : i_txts u) (x : Int64) : f_X11_digest_91 u 20000 0 x = some (m_fo (w_rw u 65 66) 4 0 x) :=
  lp_0 (by omega) (w_rw u 65 66) some (fun f i x => f_X11_digest_91 u f (nI i) x) (fun f i x z => by
    rw [f_X11_digest_91, if_neg (show ¬ (4 : Int32) ≤ nI i from nI_ge (b := 4) z (by omega)), am_ck_t (am_ix_nI z (by omega)), nI_clamp (by omega), mix_eq, obs, md109 z (hr i z), nI_1]; rfl) (fun f i x z z2 => by
    rw [f_X11_digest_91, if_pos (show (4 : Int32) ≤ nI i from nI_le (a := 4) z (by omega))]) x
theorem digest_two {pl : Nat} {u : am_U} (hI : am_Inv pl u) (h : Int64) : ∃ v, f_X10_digest pl u = some v ∧ f_X11_digest u h = some v := by
  obtain ⟨n, hn, e1, e2⟩ := plan_n hI.2.2.2.1
  obtain ⟨z, hz, z1, z2, z3⟩ := hI.2.2.2.2.2.2.2
  refine ⟨m_fo (w_rw u 65 66) 4 0 (m_fo (w_rw u 62 63) 6 0 (m_fo (w_kp u) 3 0 (m_fo (w_bn u) z 0 (m_fo (w_ps u n) 5 0 (m_fo (w_js u) n 0 (m_fo (w_ct u n) 10 0 17)))))), ?_, ?_⟩
  · unfold f_X10_digest
    rw [cd6 hI e1 e2 hn, cd33 hI e1 e2 hn, cd82 hI e1 hn, cd125 hz z1 z3, cd178, cdr5 5 6 40 62 63 (by omega) hI.2.1, obs, cdr5 6 4 52 65 66 (by omega) hI.2.2.1, obs]
  · unfold f_X11_digest f_X11_mixLand
    rw [md9 e2 hn, md2 e2 hn, md42 e2 hn, md79 hz z2, md117 hI.2.2.2.2.2.2.1, obs, md37 hI.2.1, md91 hI.2.2.1]
theorem hs_self (B : am_M) : am_hs B (am_lg B 60 46) = B := by
  have e : am_rw B.2.2.2.2.1 60 (vp_updL (B.2.2.2.2.1 60) 46 (B.2.2.2.2.1 60 46)) = B.2.2.2.2.1 := funext fun a => by
    unfold am_rw
    by_cases ha : a = 60
    · rw [if_pos ha, ha]
      funext b
      unfold vp_updL
      by_cases hb : b = 46
      · rw [if_pos hb, hb]
      · rw [if_neg hb]
    · rw [if_neg ha]
  exact congrArg (fun z => ((B.1, B.2.1, B.2.2.1, B.2.2.2.1, z, B.2.2.2.2.2) : am_M)) e
theorem ok_digest {l : Launch} {g : am_G} : am_ok l g d_X10_digest d_X11_digest [] am_isL := by
  intro i M _ hJ
  obtain ⟨B, pl, dr, u, rfl, h2, h3, h4, h5, h6, h7⟩ := hJ
  obtain ⟨v, d1, d2⟩ := digest_two h4 (am_lg B 60 46)
  have h49 := am_L49 h2.1
  have a1 := s_X10_digest (l := l) (g := g) h2.1 u
  have a2 := s_X11_digest (l := l) (g := g) h2.1 u (am_lg B 60 46)
  rw [d1] at a1
  rw [d2, hs_self] at a2
  exact ⟨am_of (am_hs B v) u, .long v, ⟨v, rfl⟩, ⟨h49.1, am_of B u, a1, h49.2, a2⟩, am_hs B v, pl, dr, u, rfl, h2, h3, h4, am_pz_up h5 (by omega), Nat.le_trans h6 (by omega), Nat.le_trans h7 (by omega)⟩
