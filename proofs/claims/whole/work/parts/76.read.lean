/-! the two readers -/
def tC (T : Nat) (b : Nat → Int32) (s : Nat) (u : am_U) : Prop := u T 1 = nI s ∧ ∀ i, i < s → u (T + 1) i = b i
def tM (t : Nat) (b : Nat → Int32) (s : Nat) (u : am_U) : Prop := u 65 t = nI s ∧ ∀ i, i < s → u 66 (60 * t + i) = b i
theorem tC_fr {T s : Nat} {b : Nat → Int32} {u w : am_U} (h : tC T b s u) (e1 : w T 1 = u T 1) (e2 : ∀ i, w (T + 1) i = u (T + 1) i) : tC T b s w := ⟨e1.trans h.1, fun i hi => (e2 i).trans (h.2 i hi)⟩
theorem tM_fr {t s : Nat} {b : Nat → Int32} {u w : am_U} (h : tM t b s u) (e : ∀ a c, a = 65 ∨ a = 66 → w a c = u a c) : tM t b s w := ⟨(e _ _ (by omega)).trans h.1, fun i hi => (e _ _ (by omega)).trans (h.2 i hi)⟩
def m_sg (b : Nat → Int32) (s p : Nat) : Int32 := if p < s then b p else 1000
def m_bz (b : Nat → Int32) (s p : Nat) : Int32 := if p < s then b p else 0
def m_fg (x : Int32) : Int32 := if f_X10_isWithin x 48 57 = some 0 then -9 else x - 48
theorem sign_eq {T s p : Nat} {b : Nat → Int32} {u : am_U} (h : tC T b s u) (hs : s ≤ 60) (hp : u 7 1 = nI p) (hp60 : p ≤ 100) : f_X7_sign T u = some (m_sg b s p) := by
  unfold f_X7_sign f_X8_has m_sg
  rw [hp, h.1, if_neg (nI_pos (by omega))]
  by_cases c : p < s
  · rw [if_neg (nI_ge c (by omega)), obs, if_neg ne10, if_pos c, am_ck_t (am_ix_nI (show p < 60 by omega) (by omega)), nI_clamp (by omega), h.2 p c]
  · rw [if_pos (nI_le (by omega) (by omega)), obs, if_pos rfl, if_neg c]
theorem fg_eq {T s p : Nat} {b : Nat → Int32} {u : am_U} (h : tC T b s u) (hs : s ≤ 60) (hp : u 7 1 = nI p) (hp60 : p ≤ 100) : f_X7_figure T u = some (m_fg (m_sg b s p)) := by
  unfold f_X7_figure m_fg
  rw [sign_eq h hs hp hp60, obs, obs]
  rcases wi_01 (m_sg b s p) 48 57 with w | w
  · rw [w, obs, if_pos rfl, if_pos rfl]
  · rw [w, obs, if_neg ne10, if_neg (show ¬ (some (1 : Int32) = some 0) by decide)]
theorem bz_eq {t s p : Nat} {b : Nat → Int32} {u : am_U} (h : tM t b s u) (ht : t < 4) (hs : s ≤ 60) (hp : p ≤ 100) : f_X11_byteAt (nI t) (nI p) u = some (m_bz b s p) := by
  unfold f_X11_byteAt m_bz
  rw [am_ck_t (am_ix_nI ht (by omega)), nI_clamp (show t < 2 ^ 31 by omega), h.1]
  by_cases c : p < s
  · rw [if_neg (nI_ge c (by omega)), if_pos c, nI_60, am_ck_t (am_ix_nI (by omega) (by omega)), nI_clamp (by omega), h.2 p c]
  · rw [if_pos (nI_le (by omega) (by omega)), if_neg c]
theorem sub48 {x : Int32} {d : Nat} (h : x - 48 = nI d) : x = nI (48 + d) := by
  have : x = x - 48 + 48 := (Int32.sub_add_cancel x 48).symm
  rw [this, h, show nI d + 48 = nI (d + 48) from nI_add d 48, Nat.add_comm]
/-- a figure, or none: both see it alike -/
theorem dg_cs (b : Nat → Int32) (s p : Nat) : (m_fg (m_sg b s p) = -9 ∧ f_X10_isWithin (m_bz b s p) 48 57 = some 0 ∧ ∀ lo hi, lo ≤ 9 → hi ≤ 9 → f_X10_isWithin (m_bz b s p - 48) (nI lo) (nI hi) = some 0) ∨ ∃ d, d ≤ 9 ∧ p < s ∧ m_fg (m_sg b s p) = nI d ∧ m_bz b s p = nI (48 + d) ∧ m_bz b s p - 48 = nI d ∧ f_X10_isWithin (m_bz b s p) 48 57 = some 1 := by
  have yes : ∀ r, r ≤ 9 → f_X10_isWithin (nI (48 + r)) 48 57 = some 1 := fun r hr => wi_yes (show ¬ nI (48 + r) < 48 from nI_nlt (b := 48) (by omega) (by omega)) (show ¬ 57 < nI (48 + r) from nI_nlt (a := 57) (by omega) (by omega))
  have key : ∀ x : Int32, f_X10_isWithin x 48 57 = some 0 → ∀ lo hi, lo ≤ 9 → hi ≤ 9 → f_X10_isWithin (x - 48) (nI lo) (nI hi) = some 0 := fun x hx lo hi h8 h9 => by
    rcases wi_cs (x - 48) lo hi (by omega) (by omega) with w | ⟨r, h1, h2, h3, -⟩
    · exact w
    · rw [sub48 h3, yes r (by omega)] at hx
      exact absurd hx (by decide)
  unfold m_sg m_bz
  by_cases c : p < s
  · rw [if_pos c, if_pos c]
    rcases wi_cs (b p) 48 57 (by omega) (by omega) with w | ⟨r, h1, h2, h3, w⟩
    · exact Or.inl ⟨if_pos w, w, key _ w⟩
    · have h48 : b p - 48 = nI (r - 48) := by rw [h3]; exact nI_sub (b := 48) h1
      refine Or.inr ⟨r - 48, by omega, c, ?_, ?_, h48, w⟩
      · unfold m_fg
        rw [show f_X10_isWithin (b p) 48 57 = some 1 from w, if_neg (show ¬ (some (1 : Int32) = some 0) by decide)]; exact h48
      · rw [h3, show 48 + (r - 48) = r by omega]
  · rw [if_neg c, if_neg c]
    exact Or.inl ⟨rfl, rfl, key 0 rfl⟩
theorem ww {u : am_U} {i j : Nat} {x y : Int32} : am_w (am_w u i j x) i j y = am_w u i j y := funext fun a => funext fun c => by
  simp only [am_w_ap]
  split <;> rfl
theorem w_id {u : am_U} {i j : Nat} {x : Int32} (h : u i j = x) : am_w u i j x = u := funext fun a => funext fun c => by
  rw [am_w_ap]
  split
  · next q => rw [q.1, q.2, h]
  · rfl
/-! the reference's figure and sign -/
theorem mfig_y {t s p d lo hi : Nat} {b : Nat → Int32} {u : am_U} (h : tM t b s u) (ht : t < 4) (hs : s ≤ 60) (hp : u 60 15 = nI p) (hp60 : p ≤ 100) (hd : m_bz b s p - 48 = nI d) (h1 : lo ≤ d) (h2 : d ≤ hi) (h3 : hi ≤ 9) : f_X11_figure (nI t) (nI lo) (nI hi) u = some (1, am_w (am_w u 60 16 (nI d)) 60 15 (nI (p + 1))) := by
  unfold f_X11_figure
  rw [hp, bz_eq h ht hs hp60, obs]
  show (f_X11_in (am_w u 60 16 (m_bz b s p - 48) 60 16) (nI lo) (nI hi)).bind _ = _
  rw [am_w_s, hd, in_eq, wi_yes (nI_nlt h1 (by omega)) (nI_nlt h2 (by omega)), obs, if_neg ne10]
  show am_ck true (some ((1 : Int32), am_w (am_w u 60 16 (nI d)) 60 15 (am_w u 60 16 (nI d) 60 15 + 1))) = _
  rw [am_ck_t rfl, am_w_n (show ¬ (60 = 60 ∧ 15 = 16) by omega), hp, nI_1]
theorem mfig_n {t s p lo hi : Nat} {b : Nat → Int32} {u : am_U} (h : tM t b s u) (ht : t < 4) (hs : s ≤ 60) (hp : u 60 15 = nI p) (hp60 : p ≤ 100) (hn : f_X10_isWithin (m_bz b s p - 48) (nI lo) (nI hi) = some 0) : f_X11_figure (nI t) (nI lo) (nI hi) u = some (0, am_w u 60 16 (m_bz b s p - 48)) := by
  unfold f_X11_figure
  rw [hp, bz_eq h ht hs hp60, obs]
  show (f_X11_in (am_w u 60 16 (m_bz b s p - 48) 60 16) (nI lo) (nI hi)).bind _ = _
  rw [am_w_s, in_eq, hn, obs, if_pos rfl]
  show am_ck true (some ((0 : Int32), am_w (am_w u 60 16 (m_bz b s p - 48)) 60 15 (am_w u 60 16 (m_bz b s p - 48) 60 15 + 0))) = _
  rw [am_ck_t rfl, Int32.add_zero, w_id rfl]
theorem msig_y {t s p : Nat} {b : Nat → Int32} {u : am_U} (h : tM t b s u) (ht : t < 4) (hs : s ≤ 60) (hp : u 60 15 = nI p) (hps : p < s) (x : Int32) (hx : b p = x) : f_X11_isSign (nI t) x u = some (1, am_w u 60 15 (nI (p + 1))) := by
  unfold f_X11_isSign
  rw [hp, bz_eq h ht hs (by omega), obs, jn_eq]
  unfold m_bz
  rw [if_pos hps, if_neg (fun z => z hx)]
  dsimp only
  rw [if_neg ne10, nI_1]; rfl
theorem msig_n {t s p : Nat} {b : Nat → Int32} {u : am_U} (h : tM t b s u) (ht : t < 4) (hs : s ≤ 60) (hp : u 60 15 = nI p) (hps : p < s) (x : Int32) (hx : ¬ b p = x) : f_X11_isSign (nI t) x u = some (0, u) := by
  unfold f_X11_isSign
  rw [hp, bz_eq h ht hs (by omega), obs, jn_eq]
  unfold m_bz
  rw [if_pos hps, if_pos hx]
  dsimp only
  rw [if_pos rfl, Int32.add_zero]
  show am_ck true (some ((0 : Int32), am_w u 60 15 (nI p))) = _
  rw [am_ck_t rfl, w_id hp]
/-- blanks: how far both go -/
theorem skip_c {T s : Nat} {b : Nat → Int32} (hT : 7 < T) (hs : s ≤ 60) : ∀ (N f p : Nat) (u : am_U), s - p < N → N ≤ f → p ≤ s → tC T b s u → u 7 1 = nI p → ∃ q, p ≤ q ∧ q ≤ s ∧ (q < s → ¬ b q = 32) ∧ (∀ j, p ≤ j → j < q → b j = 32) ∧ f_X7_skipBlanks_0 T f u = some (am_w u 7 1 (nI q)) := by
  intro N
  induction N with
  | zero => intro f p u h; omega
  | succ N ih =>
    intro f p u hN hf hps h hp
    cases f with
    | zero => omega
    | succ f =>
      rw [f_X7_skipBlanks_0, hp]
      by_cases c : p < s
      · rw [if_neg (show ¬ (60 : Int32) ≤ nI p from nI_ge (b := 60) (by omega) (by omega)), sign_eq h hs hp (by omega), obs, show m_sg b s p = b p from if_pos c]
        by_cases c2 : b p = 32
        · rw [if_neg (fun z => z c2), nI_1]
          obtain ⟨q, q1, q2, q3, q4, q5⟩ := ih f (p + 1) (am_w u 7 1 (nI (p + 1))) (by omega) (by omega) (by omega) (tC_fr h (am_w_n (by omega)) (fun i => am_w_n (by omega))) (am_w_s _ _ _ _)
          refine ⟨q, by omega, q2, q3, fun j z1 z2 => ?_, ?_⟩
          · by_cases z : j = p
            · rw [z]; exact c2
            · exact q4 j (by omega) z2
          · show f_X7_skipBlanks_0 T f (am_w u 7 1 (nI (p + 1))) = _
            rw [q5, ww]
        · rw [if_pos c2]
          exact ⟨p, by omega, hps, fun _ => c2, fun j z1 z2 => by omega, by rw [w_id hp]⟩
      · have : p = s := by omega
        refine ⟨p, by omega, hps, fun z => absurd z c, fun j z1 z2 => by omega, ?_⟩
        rw [w_id hp]
        by_cases c3 : 60 ≤ p
        · rw [if_pos (show (60 : Int32) ≤ nI p from nI_le (a := 60) c3 (by omega))]
        · rw [if_neg (show ¬ (60 : Int32) ≤ nI p from nI_ge (b := 60) (by omega) (by omega)), sign_eq h hs hp (by omega), obs, show m_sg b s p = 1000 from if_neg c, if_pos (by decide)]
theorem skip_m {t s : Nat} {b : Nat → Int32} (ht : t < 4) (hs : s ≤ 60) (K : am_U → Option (Int32 × am_U)) : ∀ (j p f : Nat) (u : am_U), p + j ≤ s → (∀ i, p ≤ i → i < p + j → b i = 32) → tM t b s u → u 60 15 = nI p → f_X11_faultOf_25 (nI t) K (f + j) u = f_X11_faultOf_25 (nI t) K f (am_w u 60 15 (nI (p + j))) := by
  intro j
  induction j with
  | zero => intro p f u _ _ _ hp; rw [Nat.add_zero, Nat.add_zero, w_id hp]
  | succ j ih =>
    intro p f u hj hb h hp
    have hbp := hb p (by omega) (by omega)
    rw [show f + (j + 1) = (f + j) + 1 by omega, f_X11_faultOf_25, am_ck_t (am_ix_nI ht (by omega)), nI_clamp (show t < 2 ^ 31 by omega), h.1, hp, if_neg (nI_ge (show p < s by omega) (by omega)), bz_eq h ht hs (by omega), obs, show m_bz b s p = b p from if_pos (by omega), if_neg (fun z => z hbp), nI_1]
    show f_X11_faultOf_25 (nI t) K (f + j) (am_w u 60 15 (nI (p + 1))) = _
    rw [ih (p + 1) f _ (by omega) (fun i z1 z2 => hb i (by omega) (by omega)) (tM_fr h (fun a c z => am_w_n (by omega))) (am_w_s _ _ _ _), ww, show p + 1 + j = p + (j + 1) by omega]
