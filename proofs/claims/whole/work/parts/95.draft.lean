/-! the two readers -/
def tC (T : Nat) (b : Nat → Int32) (s : Nat) (u : am_U) : Prop := u T 1 = nI s ∧ ∀ i, i < s → u (T + 1) i = b i
def tM (t : Nat) (b : Nat → Int32) (s : Nat) (u : am_U) : Prop := u 65 t = nI s ∧ ∀ i, i < s → u 66 (60 * t + i) = b i
theorem tC_fr {T s : Nat} {b : Nat → Int32} {u w : am_U} (h : tC T b s u) (e1 : w T 1 = u T 1) (e2 : ∀ i, w (T + 1) i = u (T + 1) i) : tC T b s w := ⟨e1.trans h.1, fun i hi => (e2 i).trans (h.2 i hi)⟩
theorem tM_fr {t s : Nat} {b : Nat → Int32} {u w : am_U} (h : tM t b s u) (e : ∀ a c, a = 65 ∨ a = 66 → w a c = u a c) : tM t b s w := ⟨(e _ _ (by omega)).trans h.1, fun i hi => (e _ _ (by omega)).trans (h.2 i hi)⟩
def m_sg (b : Nat → Int32) (s p : Nat) : Int32 := if p < s then b p else 1000
def m_bz (b : Nat → Int32) (s p : Nat) : Int32 := if p < s then b p else 0
def m_fg (x : Int32) : Int32 := if f_X10_isWithin x 48 57 = some 0 then -9 else x - 48
theorem sign_eq {T s p : Nat} {b : Nat → Int32} {u : am_U} (h : tC T b s u) (hs : s ≤ 60) (hp : u 7 1 = nI p) (hp60 : p ≤ 100) : f_X7_sign T u = some (m_sg b s p) := by
  unfold f_X7_sign f_X8_has m_sg
  rw [hp, h.1, if_neg (nI_pos (by omega))]
  by_cases c : p < s
  · rw [if_neg (nI_ge c (by omega)), obs, if_neg ne10, if_pos c, am_ck_t (am_ix_nI (show p < 60 by omega) (by omega)), nI_clamp (by omega), h.2 p c]
  · rw [if_pos (nI_le (by omega) (by omega)), obs, if_pos rfl, if_neg c]
theorem fg_eq {T s p : Nat} {b : Nat → Int32} {u : am_U} (h : tC T b s u) (hs : s ≤ 60) (hp : u 7 1 = nI p) (hp60 : p ≤ 100) : f_X7_figure T u = some (m_fg (m_sg b s p)) := by
  unfold f_X7_figure m_fg
  rw [sign_eq h hs hp hp60, obs, obs]
  rcases wi_01 (m_sg b s p) 48 57 with w | w
  · rw [w, obs, if_pos rfl, if_pos rfl]
  · rw [w, obs, if_neg ne10, if_neg (show ¬ (some (1 : Int32) = some 0) by decide)]
theorem bz_eq {t s p : Nat} {b : Nat → Int32} {u : am_U} (h : tM t b s u) (ht : t < 4) (hs : s ≤ 60) (hp : p ≤ 100) : f_X11_byteAt (nI t) (nI p) u = some (m_bz b s p) := by
  unfold f_X11_byteAt m_bz
  rw [am_ck_t (am_ix_nI ht (by omega)), nI_clamp (show t < 2 ^ 31 by omega), h.1]
  by_cases c : p < s
  · rw [if_neg (nI_ge c (by omega)), if_pos c, nI_60, am_ck_t (am_ix_nI (by omega) (by omega)), nI_clamp (by omega), h.2 p c]
  · rw [if_pos (nI_le (by omega) (by omega)), if_neg c]
theorem sub48 {x : Int32} {d : Nat} (h : x - 48 = nI d) : x = nI (48 + d) := by
  have : x = x - 48 + 48 := (Int32.sub_add_cancel x 48).symm
  rw [this, h, show nI d + 48 = nI (d + 48) from nI_add d 48, Nat.add_comm]
/-- a figure, or none: both see it alike -/
theorem dg_cs (b : Nat → Int32) (s p : Nat) : (m_fg (m_sg b s p) = -9 ∧ f_X10_isWithin (m_bz b s p) 48 57 = some 0 ∧ ∀ lo hi, lo ≤ 9 → hi ≤ 9 → f_X10_isWithin (m_bz b s p - 48) (nI lo) (nI hi) = some 0) ∨ ∃ d, d ≤ 9 ∧ p < s ∧ m_fg (m_sg b s p) = nI d ∧ m_bz b s p = nI (48 + d) ∧ m_bz b s p - 48 = nI d ∧ f_X10_isWithin (m_bz b s p) 48 57 = some 1 := by
  have yes : ∀ r, r ≤ 9 → f_X10_isWithin (nI (48 + r)) 48 57 = some 1 := fun r hr => wi_yes (show ¬ nI (48 + r) < 48 from nI_nlt (b := 48) (by omega) (by omega)) (show ¬ 57 < nI (48 + r) from nI_nlt (a := 57) (by omega) (by omega))
  have key : ∀ x : Int32, f_X10_isWithin x 48 57 = some 0 → ∀ lo hi, lo ≤ 9 → hi ≤ 9 → f_X10_isWithin (x - 48) (nI lo) (nI hi) = some 0 := fun x hx lo hi h8 h9 => by
    rcases wi_cs (x - 48) lo hi (by omega) (by omega) with w | ⟨r, h1, h2, h3, -⟩
    · exact w
    · rw [sub48 h3, yes r (by omega)] at hx
      exact absurd hx (by decide)
  unfold m_sg m_bz
  by_cases c : p < s
  · rw [if_pos c, if_pos c]
    rcases wi_cs (b p) 48 57 (by omega) (by omega) with w | ⟨r, h1, h2, h3, w⟩
    · exact Or.inl ⟨if_pos w, w, key _ w⟩
    · have h48 : b p - 48 = nI (r - 48) := by rw [h3]; exact nI_sub (b := 48) h1
      refine Or.inr ⟨r - 48, by omega, c, ?_, ?_, h48, w⟩
      · unfold m_fg
        rw [show f_X10_isWithin (b p) 48 57 = some 1 from w, if_neg (show ¬ (some (1 : Int32) = some 0) by decide)]; exact h48
      · rw [h3, show 48 + (r - 48) = r by omega]
  · rw [if_neg c, if_neg c]
    exact Or.inl ⟨rfl, rfl, key 0 rfl⟩
theorem ww {u : am_U} {i j : Nat} {x y : Int32} : am_w (am_w u i j x) i j y = am_w u i j y := funext fun a => funext fun c => by
  simp only [am_w_ap]
  split <;> rfl
theorem w_id {u : am_U} {i j : Nat} {x : Int32} (h : u i j = x) : am_w u i j x = u := funext fun a => funext fun c => by
  rw [am_w_ap]
  split
  · next q => rw [q.1, q.2, h]
  · rfl
/-! the reference's figure and sign -/
theorem mfig_y {t s p d lo hi : Nat} {b : Nat → Int32} {u : am_U} (h : tM t b s u) (ht : t < 4) (hs : s ≤ 60) (hp : u 60 15 = nI p) (hp60 : p ≤ 100) (hd : m_bz b s p - 48 = nI d) (h1 : lo ≤ d) (h2 : d ≤ hi) (h3 : hi ≤ 9) : f_X11_figure (nI t) (nI lo) (nI hi) u = some (1, am_w (am_w u 60 16 (nI d)) 60 15 (nI (p + 1))) := by
  unfold f_X11_figure
  rw [hp, bz_eq h ht hs hp60, obs]
  show (f_X11_in (am_w u 60 16 (m_bz b s p - 48) 60 16) (nI lo) (nI hi)).bind _ = _
  rw [am_w_s, hd, in_eq, wi_yes (nI_nlt h1 (by omega)) (nI_nlt h2 (by omega)), obs, if_neg ne10]
  show am_ck true (some ((1 : Int32), am_w (am_w u 60 16 (nI d)) 60 15 (am_w u 60 16 (nI d) 60 15 + 1))) = _
  rw [am_ck_t rfl, am_w_n (show ¬ (60 = 60 ∧ 15 = 16) by omega), hp, nI_1]
theorem mfig_n {t s p lo hi : Nat} {b : Nat → Int32} {u : am_U} (h : tM t b s u) (ht : t < 4) (hs : s ≤ 60) (hp : u 60 15 = nI p) (hp60 : p ≤ 100) (hn : f_X10_isWithin (m_bz b s p - 48) (nI lo) (nI hi) = some 0) : f_X11_figure (nI t) (nI lo) (nI hi) u = some (0, am_w u 60 16 (m_bz b s p - 48)) := by
  unfold f_X11_figure
  rw [hp, bz_eq h ht hs hp60, obs]
  show (f_X11_in (am_w u 60 16 (m_bz b s p - 48) 60 16) (nI lo) (nI hi)).bind _ = _
  rw [am_w_s, in_eq, hn, obs, if_pos rfl]
  show am_ck true (some ((0 : Int32), am_w (am_w u 60 16 (m_bz b s p - 48)) 60 15 (am_w u 60 16 (m_bz b s p - 48) 60 15 + 0))) = _
  rw [am_ck_t rfl, Int32.add_zero, w_id rfl]
theorem msig_y {t s p : Nat} {b : Nat → Int32} {u : am_U} (h : tM t b s u) (ht : t < 4) (hs : s ≤ 60) (hp : u 60 15 = nI p) (hps : p < s) (x : Int32) (hx : b p = x) : f_X11_isSign (nI t) x u = some (1, am_w u 60 15 (nI (p + 1))) := by
  unfold f_X11_isSign
  rw [hp, bz_eq h ht hs (by omega), obs, jn_eq]
  unfold m_bz
  rw [if_pos hps, if_neg (fun z => z hx)]
  dsimp only
  rw [if_neg ne10, nI_1]; rfl
theorem msig_n {t s p : Nat} {b : Nat → Int32} {u : am_U} (h : tM t b s u) (ht : t < 4) (hs : s ≤ 60) (hp : u 60 15 = nI p) (hps : p < s) (x : Int32) (hx : ¬ b p = x) : f_X11_isSign (nI t) x u = some (0, u) := by
  unfold f_X11_isSign
  rw [hp, bz_eq h ht hs (by omega), obs, jn_eq]
  unfold m_bz
  rw [if_pos hps, if_pos hx]
  dsimp only
  rw [if_pos rfl, Int32.add_zero]
  show am_ck true (some ((0 : Int32), am_w u 60 15 (nI p))) = _
  rw [am_ck_t rfl, w_id hp]
/-- blanks: how far both go -/
theorem skip_c {T s : Nat} {b : Nat → Int32} (hT : 7 < T) (hs : s ≤ 60) : ∀ (N f p : Nat) (u : am_U), s - p < N → N ≤ f → p ≤ s → tC T b s u → u 7 1 = nI p → ∃ q, p ≤ q ∧ q ≤ s ∧ (q < s → ¬ b q = 32) ∧ (∀ j, p ≤ j → j < q → b j = 32) ∧ f_X7_skipBlanks_0 T f u = some (am_w u 7 1 (nI q)) := by
  intro N
  induction N with
  | zero => intro f p u h; omega
  | succ N ih =>
    intro f p u hN hf hps h hp
    cases f with
    | zero => omega
    | succ f =>
      rw [f_X7_skipBlanks_0, hp]
      by_cases c : p < s
      · rw [if_neg (show ¬ (60 : Int32) ≤ nI p from nI_ge (b := 60) (by omega) (by omega)), sign_eq h hs hp (by omega), obs, show m_sg b s p = b p from if_pos c]
        by_cases c2 : b p = 32
        · rw [if_neg (fun z => z c2), nI_1]
          obtain ⟨q, q1, q2, q3, q4, q5⟩ := ih f (p + 1) (am_w u 7 1 (nI (p + 1))) (by omega) (by omega) (by omega) (tC_fr h (am_w_n (by omega)) (fun i => am_w_n (by omega))) (am_w_s _ _ _ _)
          refine ⟨q, by omega, q2, q3, fun j z1 z2 => ?_, ?_⟩
          · by_cases z : j = p
            · rw [z]; exact c2
            · exact q4 j (by omega) z2
          · show f_X7_skipBlanks_0 T f (am_w u 7 1 (nI (p + 1))) = _
            rw [q5, ww]
        · rw [if_pos c2]
          exact ⟨p, by omega, hps, fun _ => c2, fun j z1 z2 => by omega, by rw [w_id hp]⟩
      · have : p = s := by omega
        refine ⟨p, by omega, hps, fun z => absurd z c, fun j z1 z2 => by omega, ?_⟩
        rw [w_id hp]
        by_cases c3 : 60 ≤ p
        · rw [if_pos (show (60 : Int32) ≤ nI p from nI_le (a := 60) c3 (by omega))]
        · rw [if_neg (show ¬ (60 : Int32) ≤ nI p from nI_ge (b := 60) (by omega) (by omega)), sign_eq h hs hp (by omega), obs, show m_sg b s p = 1000 from if_neg c, if_pos (by decide)]
theorem skip_m {t s : Nat} {b : Nat → Int32} (ht : t < 4) (hs : s ≤ 60) (K : am_U → Option (Int32 × am_U)) : ∀ (j p f : Nat) (u : am_U), p + j ≤ s → (∀ i, p ≤ i → i < p + j → b i = 32) → tM t b s u → u 60 15 = nI p → f_X11_faultOf_25 (nI t) K (f + j) u = f_X11_faultOf_25 (nI t) K f (am_w u 60 15 (nI (p + j))) := by
  intro j
  induction j with
  | zero => intro p f u _ _ _ hp; rw [Nat.add_zero, Nat.add_zero, w_id hp]
  | succ j ih =>
    intro p f u hj hb h hp
    have hbp := hb p (by omega) (by omega)
    rw [show f + (j + 1) = (f + j) + 1 by omega, f_X11_faultOf_25, am_ck_t (am_ix_nI ht (by omega)), nI_clamp (show t < 2 ^ 31 by omega), h.1, hp, if_neg (nI_ge (show p < s by omega) (by omega)), bz_eq h ht hs (by omega), obs, show m_bz b s p = b p from if_pos (by omega), if_neg (fun z => z hbp), nI_1]
    show f_X11_faultOf_25 (nI t) K (f + j) (am_w u 60 15 (nI (p + 1))) = _
    rw [ih (p + 1) f _ (by omega) (fun i z1 z2 => hb i (by omega) (by omega)) (tM_fr h (fun a c z => am_w_n (by omega))) (am_w_s _ _ _ _), ww, show p + 1 + j = p + (j + 1) by omega]
/-! section by section -/
def D1 (dr : Nat) (uc um : am_U) : Prop := uc dr 0 = um 60 17
def D2 (dr : Nat) (uc um : am_U) : Prop := ∃ c, c ≤ 8 ∧ uc dr 1 = nI c ∧ um 60 18 = nI c ∧ ∀ k, k < c → uc (dr + 1) k = um 71 k
def D3 (dr : Nat) (uc um : am_U) : Prop := ∀ v, 1 ≤ v → v < 5 → uc (dr + 2) v = um 72 v ∧ am_le (um 72 v) 9
def D4 (dr c : Nat) (uc um : am_U) : Prop := c ≤ 6 ∧ uc dr 2 = nI c ∧ um 60 20 = nI c ∧ ∀ k, k < c → (uc (dr + 3) k = um 73 k ∧ am_le (um 73 k) 5) ∧ uc (dr + 4) k = um 74 k ∧ am_le (um 74 k) 20 ∧ ¬ um 74 k = 0
/-- what the jars' reading leaves -/
def jC (dr : Nat) (uc uc' : am_U) : Prop := ∀ a c, a ≠ 7 → a ≠ dr + 3 → a ≠ dr + 4 → ¬ (a = dr ∧ c = 2) → uc' a c = uc a c
def jM (um um' : am_U) : Prop := ∀ a c, ¬ (a = 60 ∧ c = 15) → ¬ (a = 60 ∧ c = 20) → a ≠ 73 → a ≠ 74 → um' a c = um a c
theorem kd_eq (x : Int32) : ∃ k, f_X2_byLetter x = some k ∧ f_X11_kindOf x = some k ∧ (k = -9 ∨ (¬ k = -9 ∧ am_le k 5)) := by
  have h : f_X2_byLetter x = if ¬ (106 : Int32) = x then (if ¬ (99 : Int32) = x then (if ¬ (101 : Int32) = x then (if ¬ (100 : Int32) = x then (if ¬ (108 : Int32) = x then (if ¬ (117 : Int32) = x then some (-9) else some 5) else some 4) else some 3) else some 2) else some 1) else some 0 := by
    unfold f_X2_byLetter
    rw [f_X2_byLetter_2, f_X2_byLetter_2, f_X2_byLetter_2, f_X2_byLetter_2, f_X2_byLetter_2, f_X2_byLetter_2, f_X2_byLetter_2]
    rfl
  rw [h]
  unfold f_X11_kindOf
  by_cases c1 : x = 106
  · subst c1; exact ⟨0, rfl, rfl, Or.inr ⟨by decide, 0, by omega, rfl⟩⟩
  · by_cases c2 : x = 99
    · subst c2; exact ⟨1, rfl, rfl, Or.inr ⟨by decide, 1, by omega, rfl⟩⟩
    · by_cases c3 : x = 101
      · subst c3; exact ⟨2, rfl, rfl, Or.inr ⟨by decide, 2, by omega, rfl⟩⟩
      · by_cases c4 : x = 100
        · subst c4; exact ⟨3, rfl, rfl, Or.inr ⟨by decide, 3, by omega, rfl⟩⟩
        · by_cases c5 : x = 108
          · subst c5; exact ⟨4, rfl, rfl, Or.inr ⟨by decide, 4, by omega, rfl⟩⟩
          · by_cases c6 : x = 117
            · subst c6; exact ⟨5, rfl, rfl, Or.inr ⟨by decide, 5, by omega, rfl⟩⟩
            · refine ⟨-9, ?_, ?_, Or.inl rfl⟩
              · rw [if_pos (fun q => c1 q.symm), if_pos (fun q => c2 q.symm), if_pos (fun q => c3 q.symm), if_pos (fun q => c4 q.symm), if_pos (fun q => c5 q.symm), if_pos (fun q => c6 q.symm)]
              · rw [if_neg c2, if_neg c4, if_neg c3, if_neg c1, if_neg c5, if_neg c6]
/-- a jar is written down -/
def w_jc (dr c : Nat) (k v : Int32) (u : am_U) : am_U := am_w (am_w (am_w u (dr + 3) c k) (dr + 4) c v) dr 2 (nI (c + 1))
def w_jm (c : Nat) (k v : Int32) (u : am_U) : am_U := am_w (am_w (am_w u 73 c k) 74 c v) 60 20 (nI (c + 1))
theorem cjw {dr c : Nat} {k : Int32} {v : Nat} {u : am_U} (hc : u dr 2 = nI c) (hc6 : c < 6) : (f_X10_isWithin (nI v) 1 20).bind (fun q8 => if ¬ q8 = 0 then am_ck (am_ix (u dr 2) 6) (am_ck (am_ix (am_w u (dr + 3) (u dr 2).toNatClampNeg k dr 2) 6) (some ((1 : Int32), am_w (am_w (am_w u (dr + 3) (u dr 2).toNatClampNeg k) (dr + 4) (am_w u (dr + 3) (u dr 2).toNatClampNeg k dr 2).toNatClampNeg (nI v)) dr 2 (am_w (am_w u (dr + 3) (u dr 2).toNatClampNeg k) (dr + 4) (am_w u (dr + 3) (u dr 2).toNatClampNeg k dr 2).toNatClampNeg (nI v) dr 2 + 1)))) else some (0, u)) = if f_X10_isWithin (nI v) 1 20 = some 0 then some (0, u) else some (1, w_jc dr c k (nI v) u) := by
  rcases wi_01 (nI v) 1 20 with w | w
  · rw [w, obs, if_neg (fun z => z rfl), if_pos rfl]
  · rw [w, obs, if_pos ne10, if_neg (show ¬ (some (1 : Int32) = some 0) by decide), hc, nI_clamp (by omega), am_w_n (show ¬ (dr = dr + 3 ∧ 2 = c) by omega), hc, am_ck_t (am_ix_nI hc6 (by omega)), am_ck_t (am_ix_nI hc6 (by omega)), nI_clamp (by omega), am_w_n (show ¬ (dr = dr + 4 ∧ 2 = c) by omega), am_w_n (show ¬ (dr = dr + 3 ∧ 2 = c) by omega), hc, nI_1]
    rfl
theorem mjw {c : Nat} {k : Int32} {v : Nat} {u : am_U} (hc : u 60 20 = nI c) (hc6 : c < 6) : (f_X10_isWithin (nI v) 1 20).bind (fun q9 => if ¬ q9 = 0 then am_ck (am_ix (u 60 20) 6) (am_ck (am_ix (am_w u 73 (u 60 20).toNatClampNeg k 60 20) 6) (some ((1 : Int32), am_w (am_w (am_w u 73 (u 60 20).toNatClampNeg k) 74 (am_w u 73 (u 60 20).toNatClampNeg k 60 20).toNatClampNeg (nI v)) 60 20 (am_w (am_w u 73 (u 60 20).toNatClampNeg k) 74 (am_w u 73 (u 60 20).toNatClampNeg k 60 20).toNatClampNeg (nI v) 60 20 + 1)))) else some (0, u)) = if f_X10_isWithin (nI v) 1 20 = some 0 then some (0, u) else some (1, w_jm c k (nI v) u) := by
  rcases wi_01 (nI v) 1 20 with w | w
  · rw [w, obs, if_neg (fun z => z rfl), if_pos rfl]
  · rw [w, obs, if_pos ne10, if_neg (show ¬ (some (1 : Int32) = some 0) by decide), hc, nI_clamp (by omega), am_w_n (show ¬ (60 = 73 ∧ 20 = c) by omega), hc, am_ck_t (am_ix_nI hc6 (by omega)), am_ck_t (am_ix_nI hc6 (by omega)), nI_clamp (by omega), am_w_n (show ¬ (60 = 74 ∧ 20 = c) by omega), am_w_n (show ¬ (60 = 73 ∧ 20 = c) by omega), hc, nI_1]
    rfl
theorem D4_add {dr c v : Nat} {k : Int32} {uc um uc' um' : am_U} (h : D4 dr c uc um) (hc : c < 6) (hk : am_le k 5) (hv : 1 ≤ v ∧ v ≤ 20) (e1 : ∀ a b, a ≠ 7 → uc' a b = w_jc dr c k (nI v) uc a b) (e2 : ∀ a b, ¬ (a = 60 ∧ b = 15) → um' a b = w_jm c k (nI v) um a b) (hdr : dr = 30 ∨ dr = 35) : D4 dr (c + 1) uc' um' ∧ jC dr uc uc' ∧ jM um um' := by
  obtain ⟨h1, h2, h3, h4⟩ := h
  refine ⟨⟨by omega, ?_, ?_, fun j hj => ?_⟩, fun a b z1 z2 z3 z4 => ?_, fun a b z1 z2 z3 z4 => ?_⟩
  · rw [e1 _ _ (by omega)]; unfold w_jc; rw [am_w_s]
  · rw [e2 _ _ (by omega)]; unfold w_jm; rw [am_w_s]
  · rw [e1 _ _ (by omega), e1 _ _ (by omega), e2 _ _ (by omega), e2 _ _ (by omega)]
    unfold w_jc w_jm
    rw [am_w_n (by omega), am_w_n (by omega), am_w_n (show ¬ (73 = 60 ∧ j = 20) by omega), am_w_n (show ¬ (73 = 74 ∧ j = c) by omega), am_w_n (show ¬ (dr + 4 = dr ∧ j = 2) by omega), am_w_n (show ¬ (74 = 60 ∧ j = 20) by omega)]
    by_cases q : j = c
    · subst q
      rw [am_w_s, am_w_s, am_w_s, am_w_s]
      exact ⟨⟨rfl, hk⟩, rfl, ⟨v, hv.2, rfl⟩, nI_ne0 (by omega) (by omega)⟩
    · rw [am_w_n (by omega), am_w_n (by omega), am_w_n (by omega), am_w_n (by omega), am_w_n (by omega), am_w_n (by omega)]
      exact h4 j (by omega)
  · rw [e1 a b z1]; unfold w_jc; rw [am_w_n (by omega), am_w_n (by omega), am_w_n (by omega)]
  · rw [e2 a b z1]; unfold w_jm; rw [am_w_n (by omega), am_w_n (by omega), am_w_n (by omega)]
theorem jar_rel {T t s dr q c : Nat} {b : Nat → Int32} {uc um : am_U} (hdr : dr = 30 ∨ dr = 35) (hT : 39 < T) (ht : t < 4) (hs : s ≤ 60) (h : tC T b s uc) (hm : tM t b s um) (hq : q < s) (hcp : uc 7 1 = nI q) (hmp : um 60 15 = nI q) (hc : c < 6) (hD : D4 dr c uc um) : ∃ ok p' uc' um', q ≤ p' ∧ p' ≤ s ∧ f_X7_readJar T dr uc = some (ok, uc') ∧ uc' 7 1 = nI p' ∧ f_X11_readsJar (nI t) um = some (ok, um') ∧ um' 60 15 = nI p' ∧ jC dr uc uc' ∧ jM um um' ∧ (ok = 0 ∨ (ok = 1 ∧ q < p' ∧ D4 dr (c + 1) uc' um')) := by
  obtain ⟨k, k1, k2, k3⟩ := kd_eq (b q)
  have hsg : m_sg b s q = b q := if_pos hq
  have hbz : m_bz b s q = b q := if_pos hq
  have h6 : ¬ nI c = 6 := fun z => absurd ((nI_eq (by omega) (by omega)).mp (show nI c = nI 6 from z)) (by omega)
  rcases k3 with k3 | ⟨k3, k4⟩
  · refine ⟨0, q, uc, um, by omega, by omega, ?_, hcp, ?_, hmp, fun _ _ _ _ _ _ => rfl, fun _ _ _ _ _ _ => rfl, Or.inl rfl⟩
    · unfold f_X7_readJar
      rw [sign_eq h hs hcp (by omega), obs, hsg, k1, obs, if_neg (fun z => z k3)]
    · unfold f_X11_readsJar
      rw [hmp, bz_eq hm ht hs (by omega), obs, hbz, k2, obs, if_pos k3]
  have hC : ∀ x : Int32, tC T b s (am_w uc 7 1 x) := fun x => tC_fr h (am_w_n (by omega)) (fun i => am_w_n (by omega))
  have hMm : ∀ x : Int32, tM t b s (am_w um 60 15 x) := fun x => tM_fr hm (fun a c z => am_w_n (by omega))
  have hE : f_X7_readJar T dr uc = if ¬ m_fg (m_sg b s (q + 1)) = -9 then (if m_fg (m_sg b s (q + 2)) = -9 then (f_X10_isWithin (m_fg (m_sg b s (q + 1))) 1 20).bind (fun q8 => if ¬ q8 = 0 then am_ck (am_ix (am_w uc 7 1 (nI (q + 2)) dr 2) 6) (am_ck (am_ix (am_w (am_w uc 7 1 (nI (q + 2))) (dr + 3) (am_w uc 7 1 (nI (q + 2)) dr 2).toNatClampNeg k dr 2) 6) (some ((1 : Int32), am_w (am_w (am_w (am_w uc 7 1 (nI (q + 2))) (dr + 3) (am_w uc 7 1 (nI (q + 2)) dr 2).toNatClampNeg k) (dr + 4) (am_w (am_w uc 7 1 (nI (q + 2))) (dr + 3) (am_w uc 7 1 (nI (q + 2)) dr 2).toNatClampNeg k dr 2).toNatClampNeg (m_fg (m_sg b s (q + 1)))) dr 2 (am_w (am_w (am_w uc 7 1 (nI (q + 2))) (dr + 3) (am_w uc 7 1 (nI (q + 2)) dr 2).toNatClampNeg k) (dr + 4) (am_w (am_w uc 7 1 (nI (q + 2))) (dr + 3) (am_w uc 7 1 (nI (q + 2)) dr 2).toNatClampNeg k dr 2).toNatClampNeg (m_fg (m_sg b s (q + 1))) dr 2 + 1)))) else some (0, am_w uc 7 1 (nI (q + 2)))) else (f_X10_isWithin (10 * m_fg (m_sg b s (q + 1)) + m_fg (m_sg b s (q + 2))) 1 20).bind (fun q8 => if ¬ q8 = 0 then am_ck (am_ix (am_w uc 7 1 (nI (q + 3)) dr 2) 6) (am_ck (am_ix (am_w (am_w uc 7 1 (nI (q + 3))) (dr + 3) (am_w uc 7 1 (nI (q + 3)) dr 2).toNatClampNeg k dr 2) 6) (some ((1 : Int32), am_w (am_w (am_w (am_w uc 7 1 (nI (q + 3))) (dr + 3) (am_w uc 7 1 (nI (q + 3)) dr 2).toNatClampNeg k) (dr + 4) (am_w (am_w uc 7 1 (nI (q + 3))) (dr + 3) (am_w uc 7 1 (nI (q + 3)) dr 2).toNatClampNeg k dr 2).toNatClampNeg (10 * m_fg (m_sg b s (q + 1)) + m_fg (m_sg b s (q + 2)))) dr 2 (am_w (am_w (am_w uc 7 1 (nI (q + 3))) (dr + 3) (am_w uc 7 1 (nI (q + 3)) dr 2).toNatClampNeg k) (dr + 4) (am_w (am_w uc 7 1 (nI (q + 3))) (dr + 3) (am_w uc 7 1 (nI (q + 3)) dr 2).toNatClampNeg k dr 2).toNatClampNeg (10 * m_fg (m_sg b s (q + 1)) + m_fg (m_sg b s (q + 2))) dr 2 + 1)))) else some (0, am_w uc 7 1 (nI (q + 3))))) else some (0, am_w uc 7 1 (nI (q + 1))) := by
    have f1 : f_X7_figure T (am_w uc 7 1 (nI (q + 1))) = some (m_fg (m_sg b s (q + 1))) := fg_eq (hC _) hs (am_w_s _ _ _ _) (by omega)
    have f2 : f_X7_figure T (am_w uc 7 1 (nI (q + 2))) = some (m_fg (m_sg b s (q + 2))) := fg_eq (hC _) hs (am_w_s _ _ _ _) (by omega)
    unfold f_X7_readJar
    rw [sign_eq h hs hcp (by omega), obs, hsg, k1, obs, if_pos k3]
    simp only [hcp, nI_1, f1, obs, am_w_s, ww, show q + 1 + 1 = q + 2 from rfl, f2, jn_eq, show q + 2 + 1 = q + 3 from rfl]
  have hMr : f_X11_readsJar (nI t) um = f_X11_readsJar_45 (nI t) k (fun (c8v3 : Int32) (c8v4 : Int32) (c8u : am_U) =>
        if c8v4 = 0 then (
          some (0, c8u))
        else (
          (f_X10_isWithin c8v3 1 20).bind (fun q9 => if ¬ q9 = 0 then am_ck (am_ix (c8u 60 20) 6) (am_ck (am_ix (am_w c8u 73 (c8u 60 20).toNatClampNeg k 60 20) 6) (some ((1 : Int32), am_w (am_w (am_w c8u 73 (c8u 60 20).toNatClampNeg k) 74 (am_w c8u 73 (c8u 60 20).toNatClampNeg k 60 20).toNatClampNeg c8v3) 60 20 (am_w (am_w c8u 73 (c8u 60 20).toNatClampNeg k) 74 (am_w c8u 73 (c8u 60 20).toNatClampNeg k 60 20).toNatClampNeg c8v3 60 20 + 1)))) else some (0, c8u)))) 20000 0 0 (am_w um 60 15 (nI (q + 1))) := by
    unfold f_X11_readsJar
    rw [hmp, bz_eq hm ht hs (by omega), obs, hbz, k2, obs, if_neg k3, hD.2.2.1, if_pos h6, nI_1]
    rfl
  have b1 := bz_eq (hMm (nI (q + 1))) ht hs (show q + 1 ≤ 100 by omega)
  have b2 := bz_eq (hMm (nI (q + 2))) ht hs (show q + 2 ≤ 100 by omega)
  rcases dg_cs b s (q + 1) with ⟨g1, g2, -⟩ | ⟨d, hd, hps, g1, g2, -, g4⟩
  · refine ⟨0, q + 1, am_w uc 7 1 (nI (q + 1)), am_w um 60 15 (nI (q + 1)), by omega, by omega, ?_, am_w_s _ _ _ _, ?_, am_w_s _ _ _ _, fun a c z1 _ _ _ => am_w_n (by omega), fun a c z1 _ _ _ => am_w_n (by omega), Or.inl rfl⟩
    · rw [hE, g1, if_neg (fun z => z rfl)]
    · rw [hMr, f_X11_readsJar_45, if_neg (by decide), am_w_s, b1, obs, in_eq, g2, obs, if_pos rfl, if_pos rfl]
  · have g1n : ¬ nI d = -9 := nI_m9 (by omega)
    rw [g1, if_pos g1n] at hE
    have e48 : (10 : Int32) * 0 + nI (48 + d) - 48 = nI d := by
      rw [show (10 : Int32) * 0 = nI 0 from rfl, nI_add, Nat.zero_add, show nI (48 + d) - 48 = nI (48 + d - 48) from nI_sub (b := 48) (by omega), Nat.add_sub_cancel_left]
    rcases dg_cs b s (q + 2) with ⟨y1, y2, -⟩ | ⟨d2, hd2, hps2, y1, y2, -, y4⟩
    · rw [y1, if_pos rfl, cjw (dr := dr) (c := c) (u := am_w uc 7 1 (nI (q + 2))) (by rw [am_w_n (by omega)]; exact hD.2.1) hc] at hE
      have hMe : f_X11_readsJar (nI t) um = if f_X10_isWithin (nI d) 1 20 = some 0 then some (0, am_w um 60 15 (nI (q + 2))) else some (1, w_jm c k (nI d) (am_w um 60 15 (nI (q + 2)))) := by
        rw [hMr, f_X11_readsJar_45, if_neg (by decide), am_w_s, b1, obs, in_eq, g4, obs, if_neg ne10, obs, g2, e48, nI_1, ww, show q + 1 + 1 = q + 2 from rfl, f_X11_readsJar_45, if_neg (by decide), am_w_s, b2, obs, in_eq, y2, obs, if_pos rfl, if_neg (by decide), mjw (c := c) (u := am_w um 60 15 (nI (q + 2))) (by rw [am_w_n (by omega)]; exact hD.2.2.1) hc]
      rcases wi_cs (nI d) 1 20 (by omega) (by omega) with w | ⟨r, r1, r2, r3, w⟩
      · rw [if_pos (show f_X10_isWithin (nI d) 1 20 = some 0 from w)] at hE hMe
        exact ⟨0, q + 2, _, _, by omega, by omega, hE, am_w_s _ _ _ _, hMe, am_w_s _ _ _ _, fun a c z1 _ _ _ => am_w_n (by omega), fun a c z1 _ _ _ => am_w_n (by omega), Or.inl rfl⟩
      · have hdr' : d = r := (nI_eq (by omega) (by omega)).mp r3
        rw [show f_X10_isWithin (nI d) 1 20 = some 1 from w, if_neg (show ¬ (some (1 : Int32) = some 0) by decide)] at hE hMe
        obtain ⟨x1, x2, x3⟩ := D4_add (uc' := w_jc dr c k (nI d) (am_w uc 7 1 (nI (q + 2)))) (um' := w_jm c k (nI d) (am_w um 60 15 (nI (q + 2)))) hD hc k4 (v := d) (by omega) (fun a e z => by unfold w_jc; simp only [am_w_ap]; simp [z]) (fun a e z => by unfold w_jm; simp only [am_w_ap]; simp [z]) hdr
        refine ⟨1, q + 2, _, _, by omega, by omega, hE, ?_, hMe, ?_, x2, x3, Or.inr ⟨rfl, by omega, x1⟩⟩
        · unfold w_jc; rw [am_w_n (by omega), am_w_n (by omega), am_w_n (by omega), am_w_s]
        · unfold w_jm; rw [am_w_n (by omega), am_w_n (by omega), am_w_n (by omega), am_w_s]
    · have ev : (10 : Int32) * nI d + nI d2 = nI (10 * d + d2) := by rw [show (10 : Int32) * nI d = nI (10 * d) from nI_mul 10 d, nI_add]
      have ev2 : (10 : Int32) * nI d + nI (48 + d2) - 48 = nI (10 * d + d2) := by
        rw [show (10 : Int32) * nI d = nI (10 * d) from nI_mul 10 d, nI_add, show nI (10 * d + (48 + d2)) - 48 = nI (10 * d + (48 + d2) - 48) from nI_sub (b := 48) (by omega), show 10 * d + (48 + d2) - 48 = 10 * d + d2 by omega]
      rw [y1, if_neg (nI_m9 (show d2 < 2 ^ 31 by omega)), ev, cjw (dr := dr) (c := c) (u := am_w uc 7 1 (nI (q + 3))) (by rw [am_w_n (by omega)]; exact hD.2.1) hc] at hE
      have hMe : f_X11_readsJar (nI t) um = if f_X10_isWithin (nI (10 * d + d2)) 1 20 = some 0 then some (0, am_w um 60 15 (nI (q + 3))) else some (1, w_jm c k (nI (10 * d + d2)) (am_w um 60 15 (nI (q + 3)))) := by
        rw [hMr, f_X11_readsJar_45, if_neg (by decide), am_w_s, b1, obs, in_eq, g4, obs, if_neg ne10, obs, g2, e48, nI_1, ww, show q + 1 + 1 = q + 2 from rfl, f_X11_readsJar_45, if_neg (by decide), am_w_s, b2, obs, in_eq, y4, obs, if_neg ne10, obs, y2, ev2, nI_1, ww, show q + 2 + 1 = q + 3 from rfl, f_X11_readsJar_45, if_pos (by decide), if_neg (by decide), mjw (c := c) (u := am_w um 60 15 (nI (q + 3))) (by rw [am_w_n (by omega)]; exact hD.2.2.1) hc]
      rcases wi_cs (nI (10 * d + d2)) 1 20 (by omega) (by omega) with w | ⟨r, r1, r2, r3, w⟩
      · rw [if_pos (show f_X10_isWithin (nI (10 * d + d2)) 1 20 = some 0 from w)] at hE hMe
        exact ⟨0, q + 3, _, _, by omega, by omega, hE, am_w_s _ _ _ _, hMe, am_w_s _ _ _ _, fun a c z1 _ _ _ => am_w_n (by omega), fun a c z1 _ _ _ => am_w_n (by omega), Or.inl rfl⟩
      · have hdr' : 10 * d + d2 = r := (nI_eq (by omega) (by omega)).mp r3
        rw [show f_X10_isWithin (nI (10 * d + d2)) 1 20 = some 1 from w, if_neg (show ¬ (some (1 : Int32) = some 0) by decide)] at hE hMe
        obtain ⟨x1, x2, x3⟩ := D4_add (uc' := w_jc dr c k (nI (10 * d + d2)) (am_w uc 7 1 (nI (q + 3)))) (um' := w_jm c k (nI (10 * d + d2)) (am_w um 60 15 (nI (q + 3)))) hD hc k4 (v := 10 * d + d2) (by omega) (fun a e z => by unfold w_jc; simp only [am_w_ap]; simp [z]) (fun a e z => by unfold w_jm; simp only [am_w_ap]; simp [z]) hdr
        refine ⟨1, q + 3, _, _, by omega, by omega, hE, ?_, hMe, ?_, x2, x3, Or.inr ⟨rfl, by omega, x1⟩⟩
        · unfold w_jc; rw [am_w_n (by omega), am_w_n (by omega), am_w_n (by omega), am_w_s]
        · unfold w_jm; rw [am_w_n (by omega), am_w_n (by omega), am_w_n (by omega), am_w_s]
/-! the jars, the needs, the suns, the mules -/
def KC (T : Nat) : am_U → Option (Int32 × am_U) := fun c6u => (f_X7_sign T c6u).bind (fun q7 => if ¬ q7 = 1000 then some (0, c6u) else some (1, c6u))
def KF (t : Nat) : am_U → Option (Int32 × am_U) := fun c13u => if (c13u 60 19) = 0 then am_ck (am_ix (nI t) 4) (some (c13u 65 (nI t).toNatClampNeg, c13u)) else some (-9, c13u)
theorem jC_t {dr : Nat} {u v w : am_U} (h : jC dr u v) (h2 : jC dr v w) : jC dr u w := fun a c z1 z2 z3 z4 => (h2 a c z1 z2 z3 z4).trans (h a c z1 z2 z3 z4)
theorem jM_t {u v w : am_U} (h : jM u v) (h2 : jM v w) : jM u w := fun a c z1 z2 z3 z4 => (h2 a c z1 z2 z3 z4).trans (h a c z1 z2 z3 z4)
theorem D4_fr {dr c : Nat} {uc um uc' um' : am_U} (h : D4 dr c uc um) (e1 : ∀ a x, a ≠ 7 → uc' a x = uc a x) (e2 : ∀ a x, ¬ (a = 60 ∧ x = 15) → um' a x = um a x) (hdr : dr = 30 ∨ dr = 35) : D4 dr c uc' um' := by
  obtain ⟨h1, h2, h3, h4⟩ := h
  refine ⟨h1, by rw [e1 _ _ (by omega)]; exact h2, by rw [e2 _ _ (by omega)]; exact h3, fun k hk => ?_⟩
  rw [e1 _ _ (by omega), e1 _ _ (by omega), e2 _ _ (by omega), e2 _ _ (by omega)]
  exact h4 k hk
theorem disp_m {t s q f : Nat} {b : Nat → Int32} {um : am_U} (ht : t < 4) (hs : s ≤ 60) (hm : tM t b s um) (hq : q < s) (hmp : um 60 15 = nI q) (hb32 : ¬ b q = 32) : f_X11_faultOf_25 (nI t) (KF t) (f + 1) um = if ¬ (um 60 17) = 0 then (if ¬ (um 60 18) = 0 then (if ¬ (um 60 19) = 0 then (f_X11_readsJar (nI t) um).bind (fun q8 => if ¬ q8.1 = 0 then f_X11_faultOf_25 (nI t) (KF t) f q8.2 else some (q8.2 60 15, q8.2)) else (f_X11_readsNeeds (nI t) um).bind (fun q9 => if q9.1 = 0 then some (q9.2 60 15, q9.2) else f_X11_faultOf_25 (nI t) (KF t) f q9.2)) else (f_X11_readsSuns (nI t) um).bind (fun q10 => if q10.1 = 0 then some (q10.2 60 15, q10.2) else f_X11_faultOf_25 (nI t) (KF t) f q10.2)) else (f_X11_readsMules (nI t) um).bind (fun q11 => if q11.1 = 0 then some (q11.2 60 15, q11.2) else f_X11_faultOf_25 (nI t) (KF t) f q11.2) := by
  rw [f_X11_faultOf_25, am_ck_t (am_ix_nI ht (by omega)), nI_clamp (show t < 2 ^ 31 by omega), hm.1, hmp, if_neg (nI_ge hq (by omega)), bz_eq hm ht hs (by omega), obs, show m_bz b s q = b q from if_pos hq, if_pos hb32]
theorem end_m {t s q f : Nat} {b : Nat → Int32} {um : am_U} (ht : t < 4) (hs : s ≤ 60) (hm : tM t b s um) (hq : s ≤ q) (hq2 : q ≤ 100) (hmp : um 60 15 = nI q) : f_X11_faultOf_25 (nI t) (KF t) (f + 1) um = KF t um := by
  rw [f_X11_faultOf_25, am_ck_t (am_ix_nI ht (by omega)), nI_clamp (show t < 2 ^ 31 by omega), hm.1, hmp, if_pos (nI_le hq (by omega))]
theorem jars_rel {T t s dr : Nat} {b : Nat → Int32} (hdr : dr = 30 ∨ dr = 35) (hT : 39 < T) (ht : t < 4) (hs : s ≤ 60) (hb : ∀ i, i < s → ¬ b i = 1000) : ∀ (N q c fC fM : Nat) (uc um : am_U), s - q < N → q ≤ s → (q < s → ¬ b q = 32) → tC T b s uc → tM t b s um → uc 7 1 = nI q → um 60 15 = nI q → D4 dr c uc um → ¬ um 60 17 = 0 → ¬ um 60 18 = 0 → ¬ um 60 19 = 0 → 6 < c + fC → s + 1 < q + fM → ∃ ok res uc' um', f_X7_readJars_9 T dr (KC T) fC uc = some (ok, uc') ∧ f_X11_faultOf_25 (nI t) (KF t) fM um = some (res, um') ∧ jC dr uc uc' ∧ jM um um' ∧ ((ok = 0 ∧ ¬ res = -9 ∧ uc' 7 1 = res) ∨ (ok = 1 ∧ res = -9 ∧ ∃ c', D4 dr c' uc' um')) := by
  intro N
  induction N with
  | zero => intro q c fC fM uc um h; omega
  | succ N ih =>
    intro q c fC fM uc um hN hqs hb32 h hm hcp hmp hD f17 f18 f19 hfC hfM
    obtain ⟨fC, rfl⟩ : ∃ x, fC = x + 1 := ⟨fC - 1, by have := hD.1; omega⟩
    obtain ⟨fM, rfl⟩ : ∃ x, fM = x + 1 := ⟨fM - 1, by omega⟩
    have hc6 := hD.1
    by_cases c0 : q < s
    · have hsg : m_sg b s q = b q := if_pos c0
      rw [disp_m ht hs hm c0 hmp (hb32 c0), if_pos f17, if_pos f18, if_pos f19, f_X7_readJars_9, hD.2.1]
      by_cases c1 : c = 6
      · subst c1
        refine ⟨0, nI q, uc, um, ?_, ?_, fun _ _ _ _ _ _ => rfl, fun _ _ _ _ _ _ => rfl, Or.inl ⟨rfl, nI_m9 (by omega), hcp⟩⟩
        · rw [if_pos (show (6 : Int32) ≤ nI 6 by decide)]
          unfold KC
          rw [sign_eq h hs hcp (by omega), obs, hsg, if_pos (hb q c0)]
        · obtain ⟨k, -, k2, k3⟩ := kd_eq (b q)
          have hR : f_X11_readsJar (nI t) um = some (0, um) := by
            unfold f_X11_readsJar
            rw [hmp, bz_eq hm ht hs (by omega), obs, show m_bz b s q = b q from if_pos c0, k2, obs]
            rcases k3 with k3 | ⟨k3, -⟩
            · rw [if_pos k3]
            · rw [if_neg k3, hD.2.2.1, if_neg (fun z => z rfl)]
          rw [hR, obs, if_neg (fun z => z rfl)]
          show some (um 60 15, um) = _
          rw [hmp]
      · obtain ⟨ok, p', uc1, um1, g1, g2, g3, g4, g5, g6, g7, g8, g9⟩ := jar_rel hdr hT ht hs h hm c0 hcp hmp (by omega) hD
        rw [if_neg (show ¬ (6 : Int32) ≤ nI c from nI_ge (b := 6) (by omega) (by omega)), sign_eq h hs hcp (by omega), obs, hsg, if_neg (hb q c0), g3, obs, g5, obs]
        rcases g9 with g9 | ⟨g9, g10, g11⟩
        · subst g9
          exact ⟨0, nI p', uc1, um1, if_neg (fun z => z rfl), (if_neg (fun z => z rfl)).trans (by show some (um1 60 15, um1) = _; rw [g6]), g7, g8, Or.inl ⟨rfl, nI_m9 (by omega), g4⟩⟩
        · subst g9
          have h1 : tC T b s uc1 := tC_fr h (g7 _ _ (by omega) (by omega) (by omega) (by omega)) (fun i => g7 _ _ (by omega) (by omega) (by omega) (by omega))
          have hm1 : tM t b s um1 := tM_fr hm (fun a e z => g8 _ _ (by omega) (by omega) (by omega) (by omega))
          obtain ⟨q2, y1, y2, y3, y4, y5⟩ := skip_c (by omega) hs 100 20000 p' uc1 (by omega) (by omega) g2 h1 g4
          have hfm : fM = (fM - (q2 - p')) + (q2 - p') := by omega
          have y6 := skip_m ht hs (KF t) (q2 - p') p' (fM - (q2 - p')) um1 (by omega) (fun i z1 z2 => y4 i z1 (by omega)) hm1 g6
          rw [← hfm, show p' + (q2 - p') = q2 by omega] at y6
          have e17 : am_w um1 60 15 (nI q2) 60 17 = um 60 17 := by rw [am_w_n (by omega), g8 _ _ (by omega) (by omega) (by omega) (by omega)]
          have e18 : am_w um1 60 15 (nI q2) 60 18 = um 60 18 := by rw [am_w_n (by omega), g8 _ _ (by omega) (by omega) (by omega) (by omega)]
          have e19 : am_w um1 60 15 (nI q2) 60 19 = um 60 19 := by rw [am_w_n (by omega), g8 _ _ (by omega) (by omega) (by omega) (by omega)]
          obtain ⟨ok, res, uc', um', x1, x2, x3, x4, x5⟩ := ih q2 (c + 1) fC (fM - (q2 - p')) (am_w uc1 7 1 (nI q2)) (am_w um1 60 15 (nI q2)) (by omega) y2 y3 (tC_fr h1 (am_w_n (by omega)) (fun i => am_w_n (by omega))) (tM_fr hm1 (fun a e z => am_w_n (by omega))) (am_w_s _ _ _ _) (am_w_s _ _ _ _) (D4_fr g11 (fun a x z => am_w_n (by omega)) (fun a x z => am_w_n z) hdr) (by rw [e17]; exact f17) (by rw [e18]; exact f18) (by rw [e19]; exact f19) (by omega) (by omega)
          refine ⟨ok, res, uc', um', ?_, ?_, jC_t g7 (jC_t (fun a e z1 _ _ _ => am_w_n (by omega)) x3), jM_t g8 (jM_t (fun a e z1 _ _ _ => am_w_n z1) x4), x5⟩
          · refine (if_pos ne10).trans ?_
            rw [show f_X7_skipBlanks T uc1 = some (am_w uc1 7 1 (nI q2)) from y5, obs]
            exact x1
          · refine (if_pos ne10).trans ?_
            exact y6.trans x2
    · refine ⟨1, -9, uc, um, ?_, ?_, fun _ _ _ _ _ _ => rfl, fun _ _ _ _ _ _ => rfl, Or.inr ⟨rfl, rfl, c, hD⟩⟩
      · have hK : KC T uc = some (1, uc) := by
          unfold KC
          rw [sign_eq h hs hcp (by omega), obs, show m_sg b s q = 1000 from if_neg c0, if_neg (fun z => z rfl)]
        rw [f_X7_readJars_9, sign_eq h hs hcp (by omega), obs, show m_sg b s q = 1000 from if_neg c0, if_pos rfl, hK]
        split <;> rfl
      · rw [end_m ht hs hm (by omega) (by omega) hmp]
        unfold KF
        rw [if_neg f19]
/-! how the class goes on -/
def cJ (T dr : Nat) (u : am_U) : Option (Int32 × am_U) := (f_X7_readJars T dr u).bind (fun q7 => if q7.1 = 0 then some (q7.2 7 1, q7.2) else some (-9, q7.2))
def cN (T dr : Nat) (u : am_U) : Option (Int32 × am_U) := (f_X7_readNeeds T dr u).bind (fun q6 => if q6.1 = 0 then some (q6.2 7 1, q6.2) else cJ T dr q6.2)
def cS (T dr : Nat) (u : am_U) : Option (Int32 × am_U) := (f_X7_readSuns T dr u).bind (fun q5 => if q5.1 = 0 then some (q5.2 7 1, q5.2) else cN T dr q5.2)
def cM (T dr : Nat) (u : am_U) : Option (Int32 × am_U) := (f_X7_readMules T dr u).bind (fun q2 => if q2.1 = 0 then some (q2.2 7 1, q2.2) else cS T dr q2.2)
theorem read_eq (T dr : Nat) (u : am_U) : f_X7_read T dr u = cM T dr (am_w u 7 1 0) := by
  unfold f_X7_read cM cS cN cJ
  simp only [jn_eq, iT, i10]
def gC (dr : Nat) (uc uc' : am_U) : Prop := ∀ a c, a ≠ 7 → ¬ (dr ≤ a ∧ a ≤ dr + 4 ∧ ¬ (a = dr + 2 ∧ c = 0)) → uc' a c = uc a c
def gM (um um' : am_U) : Prop := ∀ a c, ¬ (a = 60 ∧ 15 ≤ c ∧ c ≤ 20) → ¬ (71 ≤ a ∧ a ≤ 74) → um' a c = um a c
/-- what a section gives -/
def sR (T t dr : Nat) (c : am_U → Option (Int32 × am_U)) (f : Nat) (uc um : am_U) : Prop := ∃ res uc' um', c uc = some (res, uc') ∧ f_X11_faultOf_25 (nI t) (KF t) f um = some (res, um') ∧ gC dr uc uc' ∧ gM um um' ∧ (res = -9 → D1 dr uc' um' ∧ D2 dr uc' um' ∧ D3 dr uc' um' ∧ ∃ c', D4 dr c' uc' um')
theorem sR_fr {T t dr f f2 : Nat} {c c2 : am_U → Option (Int32 × am_U)} {uc um uc2 um2 : am_U} (h : sR T t dr c2 f2 uc2 um2) (e1 : c uc = c2 uc2) (e2 : f_X11_faultOf_25 (nI t) (KF t) f um = f_X11_faultOf_25 (nI t) (KF t) f2 um2) (g1 : gC dr uc uc2) (g2 : gM um um2) : sR T t dr c f uc um := by
  obtain ⟨res, uc', um', h1, h2, h3, h4, h5⟩ := h
  exact ⟨res, uc', um', e1.trans h1, e2.trans h2, fun a x z1 z2 => (h3 a x z1 z2).trans (g1 a x z1 z2), fun a x z1 z2 => (h4 a x z1 z2).trans (g2 a x z1 z2), h5⟩
theorem stJ {T t s dr p f : Nat} {b : Nat → Int32} {uc um : am_U} (hdr : dr = 30 ∨ dr = 35) (hT : 39 < T) (ht : t < 4) (hs : s ≤ 60) (hb : ∀ i, i < s → ¬ b i = 1000) (hps : p ≤ s) (h : tC T b s uc) (hm : tM t b s um) (hcp : uc 7 1 = nI p) (hmp : um 60 15 = nI p) (f17 : ¬ um 60 17 = 0) (f18 : ¬ um 60 18 = 0) (f19 : ¬ um 60 19 = 0) (f20 : um 60 20 = nI 0) (d1 : D1 dr uc um) (d2 : D2 dr uc um) (d3 : D3 dr uc um) (hf : 200 ≤ f) : sR T t dr (cJ T dr) f uc um := by
  have h1 : tC T b s (am_w uc dr 2 0) := tC_fr h (am_w_n (by omega)) (fun i => am_w_n (by omega))
  obtain ⟨q, y1, y2, y3, y4, y5⟩ := skip_c (by omega) hs 100 20000 p (am_w uc dr 2 0) (by omega) (by omega) hps h1 (by rw [am_w_n (by omega)]; exact hcp)
  have hfm : f = (f - (q - p)) + (q - p) := by omega
  have y6 := skip_m ht hs (KF t) (q - p) p (f - (q - p)) um (by omega) (fun i z1 z2 => y4 i z1 (by omega)) hm hmp
  rw [← hfm, show p + (q - p) = q by omega] at y6
  obtain ⟨ok, res, uc', um', x1, x2, x3, x4, x5⟩ := jars_rel hdr hT ht hs hb 100 q 0 20000 (f - (q - p)) (am_w (am_w uc dr 2 0) 7 1 (nI q)) (am_w um 60 15 (nI q)) (by omega) y2 y3 (tC_fr h1 (am_w_n (by omega)) (fun i => am_w_n (by omega))) (tM_fr hm (fun a e z => am_w_n (by omega))) (am_w_s _ _ _ _) (am_w_s _ _ _ _) ⟨by omega, by rw [am_w_n (by omega), am_w_s]; rfl, by rw [am_w_n (by omega)]; exact f20, fun k hk => absurd hk (Nat.not_lt_zero k)⟩ (by rw [am_w_n (by omega)]; exact f17) (by rw [am_w_n (by omega)]; exact f18) (by rw [am_w_n (by omega)]; exact f19) (by omega) (by omega)
  have eC : ∀ a e, a ≠ 7 → a ≠ dr + 3 → a ≠ dr + 4 → ¬ (a = dr ∧ e = 2) → uc' a e = uc a e := fun a e z1 z2 z3 z4 => by rw [x3 a e z1 z2 z3 z4, am_w_n (by omega), am_w_n z4]
  have eM : ∀ a e, ¬ (a = 60 ∧ e = 15) → ¬ (a = 60 ∧ e = 20) → a ≠ 73 → a ≠ 74 → um' a e = um a e := fun a e z1 z2 z3 z4 => by rw [x4 a e z1 z2 z3 z4, am_w_n z1]
  have hE : f_X7_readJars T dr uc = some (ok, uc') := by
    unfold f_X7_readJars
    show (f_X7_skipBlanks T (am_w uc dr 2 0)).bind (fun q2 => f_X7_readJars_9 T dr (KC T) 20000 q2) = _
    rw [show f_X7_skipBlanks T (am_w uc dr 2 0) = some (am_w (am_w uc dr 2 0) 7 1 (nI q)) from y5, obs]
    exact x1
  refine ⟨res, uc', um', ?_, y6.trans x2, fun a e z1 z2 => eC a e z1 (by omega) (by omega) (by omega), fun a e z1 z2 => eM a e (by omega) (by omega) (by omega) (by omega), fun hr => ?_⟩
  · unfold cJ
    rw [hE, obs]
    rcases x5 with ⟨z1, z2, z3⟩ | ⟨z1, z2, z3⟩
    · rw [z1]; exact (if_pos rfl).trans (by show some (uc' 7 1, uc') = _; rw [z3])
    · rw [z1, z2]; exact if_neg ne10
  · rcases x5 with ⟨z1, z2, z3⟩ | ⟨z1, z2, z3⟩
    · exact absurd hr z2
    · refine ⟨?_, ?_, fun v v1 v2 => ?_, z3⟩
      · unfold D1; rw [eC _ _ (by omega) (by omega) (by omega) (by omega), eM _ _ (by omega) (by omega) (by omega) (by omega)]; exact d1
      · obtain ⟨c, k1, k2, k3, k4⟩ := d2
        refine ⟨c, k1, by rw [eC _ _ (by omega) (by omega) (by omega) (by omega)]; exact k2, by rw [eM _ _ (by omega) (by omega) (by omega) (by omega)]; exact k3, fun k hk => ?_⟩
        rw [eC _ _ (by omega) (by omega) (by omega) (by omega), eM _ _ (by omega) (by omega) (by omega) (by omega)]; exact k4 k hk
      · rw [eC _ _ (by omega) (by omega) (by omega) (by omega), eM _ _ (by omega) (by omega) (by omega) (by omega)]; exact d3 v v1 v2
/-! the needs -/
theorem needs_rel {T t s dr : Nat} {b : Nat → Int32} (hdr : dr = 30 ∨ dr = 35) (hT : 39 < T) (ht : t < 4) (hs : s ≤ 60) : ∀ (f v p : Nat) (uc um : am_U), v ≤ 5 → 1 ≤ v → 5 < v + f → p ≤ s → tC T b s uc → tM t b s um → uc 7 1 = nI p → um 60 15 = nI p → (∀ w, 1 ≤ w → w < v → uc (dr + 2) w = um 72 w ∧ am_le (um 72 w) 9) → ∃ ok p' uc' um', p' ≤ s ∧ f_X7_readNeeds_13 T dr f (nI v) uc = some (ok, uc') ∧ f_X11_readsNeeds_14 (nI t) f (nI v) um = some (ok, um') ∧ uc' 7 1 = nI p' ∧ um' 60 15 = nI p' ∧ (∀ a e, a ≠ 7 → ¬ (a = dr + 2 ∧ ¬ e = 0) → uc' a e = uc a e) ∧ (∀ a e, ¬ (a = 60 ∧ (e = 15 ∨ e = 16 ∨ e = 19)) → a ≠ 72 → um' a e = um a e) ∧ (ok = 0 ∨ (ok = 1 ∧ um' 60 19 = 1 ∧ D3 dr uc' um')) := by
  intro f
  induction f with
  | zero => intro v p uc um h1 h2 h3; omega
  | succ f ih =>
    intro v p uc um hv5 hv1 hf hps h hm hcp hmp hD
    rw [f_X7_readNeeds_13, f_X11_readsNeeds_14]
    by_cases c : v < 5
    · rw [if_neg (show ¬ (5 : Int32) ≤ nI v from nI_ge (b := 5) c (by omega)), if_neg (show ¬ (5 : Int32) ≤ nI v from nI_ge (b := 5) c (by omega)), fg_eq h hs hcp (by omega), obs, obs]
      rcases dg_cs b s p with ⟨g1, g2, g3⟩ | ⟨d, hd, hpl, g1, g2, g3, g4⟩
      · rw [g1, if_neg (fun z => z rfl), show f_X11_figure (nI t) 0 9 um = some (0, am_w um 60 16 (m_bz b s p - 48)) from mfig_n (lo := 0) (hi := 9) hm ht hs hmp (by omega) (g3 0 9 (by omega) (by omega)), obs]
        exact ⟨0, p, uc, am_w um 60 16 (m_bz b s p - 48), hps, rfl, if_neg (fun z => z rfl), hcp, by rw [am_w_n (by omega)]; exact hmp, fun _ _ _ _ => rfl, fun a e z1 z2 => am_w_n (by omega), Or.inl rfl⟩
      · rw [g1, if_pos (nI_m9 (show d < 2 ^ 31 by omega)), show f_X11_figure (nI t) 0 9 um = some (1, am_w (am_w um 60 16 (nI d)) 60 15 (nI (p + 1))) from mfig_y (lo := 0) (hi := 9) hm ht hs hmp (by omega) g3 (by omega) (by omega) (by omega), obs, am_ck_t (am_ix_nI c (by omega)), am_ck_t (am_ix_nI c (by omega)), nI_clamp (by omega), nI_1]
        have e1 : am_w uc (dr + 2) v (nI d) 7 1 = nI p := by rw [am_w_n (by omega)]; exact hcp
        have e2 : am_w (am_w um 60 16 (nI d)) 60 15 (nI (p + 1)) 60 16 = nI d := by rw [am_w_n (by omega), am_w_s]
        obtain ⟨ok, p', uc', um', x1, x2, x3, x4, x5, x6, x7, x8⟩ := ih (v + 1) (p + 1) (am_w (am_w uc (dr + 2) v (nI d)) 7 1 (nI (p + 1))) (am_w (am_w (am_w um 60 16 (nI d)) 60 15 (nI (p + 1))) 72 v (nI d)) (by omega) (by omega) (by omega) (by omega) (tC_fr h (by rw [am_w_n (by omega), am_w_n (by omega)]) (fun i => by rw [am_w_n (by omega), am_w_n (by omega)])) (tM_fr hm (fun a e z => by rw [am_w_n (by omega), am_w_n (by omega), am_w_n (by omega)])) (am_w_s _ _ _ _) (by rw [am_w_n (by omega), am_w_s]) (fun w w1 w2 => by
          rw [am_w_n (by omega)]
          by_cases q : w = v
          · subst q
            rw [am_w_s, am_w_s]; exact ⟨rfl, d, hd, rfl⟩
          · rw [am_w_n (by omega), am_w_n (by omega), am_w_n (by omega), am_w_n (by omega)]; exact hD w w1 (by omega))
        refine ⟨ok, p', uc', um', x1, ?_, ?_, x4, x5, fun a e z1 z2 => ?_, fun a e z1 z2 => ?_, x8⟩
        · show f_X7_readNeeds_13 T dr f (nI (v + 1)) (am_w (am_w uc (dr + 2) v (nI d)) 7 1 (am_w uc (dr + 2) v (nI d) 7 1 + 1)) = _
          rw [e1, nI_1]; exact x2
        · refine (if_pos ne10).trans ?_
          show f_X11_readsNeeds_14 (nI t) f (nI (v + 1)) (am_w (am_w (am_w um 60 16 (nI d)) 60 15 (nI (p + 1))) 72 v (am_w (am_w um 60 16 (nI d)) 60 15 (nI (p + 1)) 60 16)) = _
          rw [e2]; exact x3
        · rw [x6 a e z1 z2, am_w_n (by omega), am_w_n (by omega)]
        · rw [x7 a e z1 z2, am_w_n (by omega), am_w_n (by omega), am_w_n (by omega)]
    · have : v = 5 := by omega
      subst this
      rw [if_pos (show (5 : Int32) ≤ nI 5 by decide), if_pos (show (5 : Int32) ≤ nI 5 by decide)]
      exact ⟨1, p, uc, am_w um 60 19 1, hps, rfl, rfl, hcp, by rw [am_w_n (by omega)]; exact hmp, fun _ _ _ _ => rfl, fun a e z1 z2 => am_w_n (by omega), Or.inr ⟨rfl, am_w_s _ _ _ _, fun w w1 w2 => by rw [am_w_n (by omega)]; exact hD w w1 w2⟩⟩
/-- a letter that both look for, behind blanks -/
theorem letter_c {T s p : Nat} {b : Nat → Int32} {uc : am_U} (hT : 39 < T) (hs : s ≤ 60) (hb : ∀ i, i < s → ¬ b i = 1000) (hps : p ≤ s) (h : tC T b s uc) (hcp : uc 7 1 = nI p) (x : Int32) (hx : ¬ x = 1000) : ∃ q, p ≤ q ∧ q ≤ s ∧ (q < s → ¬ b q = 32) ∧ (∀ j, p ≤ j → j < q → b j = 32) ∧ ((¬ (q < s ∧ b q = x) ∧ f_X7_readLetter T x uc = some (0, am_w uc 7 1 (nI q))) ∨ (q < s ∧ b q = x ∧ f_X7_readLetter T x uc = some (1, am_w uc 7 1 (nI (q + 1))))) := by
  obtain ⟨q, y1, y2, y3, y4, y5⟩ := skip_c (by omega) hs 100 20000 p uc (by omega) (by omega) hps h hcp
  refine ⟨q, y1, y2, y3, y4, ?_⟩
  have h1 : tC T b s (am_w uc 7 1 (nI q)) := tC_fr h (am_w_n (by omega)) (fun i => am_w_n (by omega))
  have hE : f_X7_readLetter T x uc = if m_sg b s q = x then some (1, am_w uc 7 1 (nI (q + 1))) else some (0, am_w uc 7 1 (nI q)) := by
    unfold f_X7_readLetter
    rw [show f_X7_skipBlanks T uc = some (am_w uc 7 1 (nI q)) from y5, obs, sign_eq h1 hs (am_w_s _ _ _ _) (by omega), obs]
    simp only [am_w_s, nI_1, ww]
  rw [hE]
  unfold m_sg
  by_cases c : q < s
  · rw [if_pos c]
    by_cases c2 : b q = x
    · exact Or.inr ⟨c, c2, if_pos c2⟩
    · exact Or.inl ⟨fun z => c2 z.2, if_neg c2⟩
  · rw [if_neg c]
    exact Or.inl ⟨fun z => c z.1, if_neg (fun z => hx z.symm)⟩
theorem stN {T t s dr p f : Nat} {b : Nat → Int32} {uc um : am_U} (hdr : dr = 30 ∨ dr = 35) (hT : 39 < T) (ht : t < 4) (hs : s ≤ 60) (hb : ∀ i, i < s → ¬ b i = 1000) (hps : p ≤ s) (h : tC T b s uc) (hm : tM t b s um) (hcp : uc 7 1 = nI p) (hmp : um 60 15 = nI p) (f17 : ¬ um 60 17 = 0) (f18 : ¬ um 60 18 = 0) (f19 : um 60 19 = 0) (f20 : um 60 20 = nI 0) (d1 : D1 dr uc um) (d2 : D2 dr uc um) (hf : 400 ≤ f) : sR T t dr (cN T dr) f uc um := by
  obtain ⟨q, y1, y2, y3, y4, y5⟩ := letter_c hT hs hb hps h hcp 118 (by decide)
  have hfm : f = (f - (q - p) - 1 + 1) + (q - p) := by omega
  obtain ⟨f1, hf1⟩ : ∃ f1, f - (q - p) - 1 = f1 := ⟨_, rfl⟩
  have y6 := skip_m ht hs (KF t) (q - p) p (f1 + 1) um (by omega) (fun i z1 z2 => y4 i z1 (by omega)) hm hmp
  rw [← hf1, ← hfm, show p + (q - p) = q by omega, hf1] at y6
  have hm1 : tM t b s (am_w um 60 15 (nI q)) := tM_fr hm (fun a e z => am_w_n (by omega))
  have e17 : am_w um 60 15 (nI q) 60 17 = um 60 17 := am_w_n (by omega)
  have e18 : am_w um 60 15 (nI q) 60 18 = um 60 18 := am_w_n (by omega)
  have e19 : am_w um 60 15 (nI q) 60 19 = um 60 19 := am_w_n (by omega)
  rcases y5 with ⟨y5, yE⟩ | ⟨hq, hx, yE⟩
  · refine ⟨nI q, am_w uc 7 1 (nI q), am_w um 60 15 (nI q), ?_, ?_, fun a e z1 z2 => am_w_n (by omega), fun a e z1 z2 => am_w_n (by omega), fun z => absurd z (nI_m9 (by omega))⟩
    · have hN : f_X7_readNeeds T dr uc = some (0, am_w uc 7 1 (nI q)) := by
        unfold f_X7_readNeeds
        rw [yE, obs]; exact if_neg (fun z => z rfl)
      unfold cN
      rw [hN, obs]
      refine (if_pos rfl).trans ?_
      show some (am_w uc 7 1 (nI q) 7 1, am_w uc 7 1 (nI q)) = _
      rw [am_w_s]
    · rw [y6]
      by_cases c : q < s
      · rw [disp_m ht hs hm1 c (am_w_s _ _ _ _) (y3 c), e17, e18, e19, if_pos f17, if_pos f18, if_neg (fun z => z f19)]
        have hR : f_X11_readsNeeds (nI t) (am_w um 60 15 (nI q)) = some (0, am_w um 60 15 (nI q)) := by
          unfold f_X11_readsNeeds
          rw [msig_n hm1 ht hs (am_w_s _ _ _ _) c 118 (fun z => y5 ⟨c, z⟩), obs]; exact if_neg (fun z => z rfl)
        rw [hR, obs]
        refine (if_pos rfl).trans ?_
        show some (am_w um 60 15 (nI q) 60 15, am_w um 60 15 (nI q)) = _
        rw [am_w_s]
      · rw [end_m ht hs hm1 (by omega) (by omega) (am_w_s _ _ _ _)]
        unfold KF
        rw [e19, if_pos f19, am_ck_t (am_ix_nI ht (by omega)), nI_clamp (by omega), hm1.1, show s = q by omega]
  · obtain ⟨ok, p', uc', um', x1, x2, x3, x4, x5, x6, x7, x8⟩ := needs_rel (b := b) (s := s) hdr hT ht hs 20000 1 (q + 1) (am_w uc 7 1 (nI (q + 1))) (am_w um 60 15 (nI (q + 1))) (by omega) (by omega) (by omega) (by omega) (tC_fr h (am_w_n (by omega)) (fun i => am_w_n (by omega))) (tM_fr hm (fun a e z => am_w_n (by omega))) (am_w_s _ _ _ _) (am_w_s _ _ _ _) (fun w w1 w2 => by omega)
    have eC : ∀ a e, a ≠ 7 → ¬ (a = dr + 2 ∧ ¬ e = 0) → uc' a e = uc a e := fun a e z1 z2 => by rw [x6 a e z1 z2, am_w_n (by omega)]
    have eM : ∀ a e, ¬ (a = 60 ∧ (e = 15 ∨ e = 16 ∨ e = 19)) → a ≠ 72 → um' a e = um a e := fun a e z1 z2 => by rw [x7 a e z1 z2, am_w_n (by omega)]
    have hN : f_X7_readNeeds T dr uc = some (ok, uc') := by
      unfold f_X7_readNeeds
      rw [yE, obs]
      exact (if_pos ne10).trans x2
    have hR : f_X11_readsNeeds (nI t) (am_w um 60 15 (nI q)) = some (ok, um') := by
      unfold f_X11_readsNeeds
      rw [msig_y hm1 ht hs (am_w_s _ _ _ _) hq 118 hx, obs, ww]
      exact (if_pos ne10).trans x3
    have hF : f_X11_faultOf_25 (nI t) (KF t) f um = if ok = 0 then some (um' 60 15, um') else f_X11_faultOf_25 (nI t) (KF t) f1 um' := by
      rw [y6, disp_m ht hs hm1 hq (am_w_s _ _ _ _) (y3 hq), e17, e18, e19, if_pos f17, if_pos f18, if_neg (fun z => z f19), hR, obs]
    have hCc : cN T dr uc = if ok = 0 then some (uc' 7 1, uc') else cJ T dr uc' := by
      unfold cN; rw [hN, obs]
    have gC1 : gC dr uc uc' := fun a e z1 z2 => eC a e z1 (by omega)
    have gM1 : gM um um' := fun a e z1 z2 => eM a e (by omega) (by omega)
    rcases x8 with x8 | ⟨x8, x9, x10⟩
    · rw [x8, if_pos rfl] at hF hCc
      exact ⟨nI p', uc', um', by rw [hCc, x4], by rw [hF, x5], gC1, gM1, fun z => absurd z (nI_m9 (by omega))⟩
    · rw [x8, if_neg ne10] at hF hCc
      refine sR_fr (stJ (uc := uc') (um := um') hdr hT ht hs hb x1 (tC_fr h (eC _ _ (by omega) (by omega)) (fun i => eC _ _ (by omega) (by omega))) (tM_fr hm (fun a e z => eM _ _ (by omega) (by omega))) x4 x5 (by rw [eM _ _ (by omega) (by omega)]; exact f17) (by rw [eM _ _ (by omega) (by omega)]; exact f18) (by rw [x9]; exact ne10) (by rw [eM _ _ (by omega) (by omega)]; exact f20) ?_ ?_ x10 (f := f1) (by omega)) hCc hF gC1 gM1
      · unfold D1; rw [eC _ _ (by omega) (by omega), eM _ _ (by omega) (by omega)]; exact d1
      · obtain ⟨c, k1, k2, k3, k4⟩ := d2
        refine ⟨c, k1, by rw [eC _ _ (by omega) (by omega)]; exact k2, by rw [eM _ _ (by omega) (by omega)]; exact k3, fun k hk => ?_⟩
        rw [eC _ _ (by omega) (by omega), eM _ _ (by omega) (by omega)]; exact k4 k hk
/-! the suns -/
theorem suns_rel {T t s dr : Nat} {b : Nat → Int32} (hdr : dr = 30 ∨ dr = 35) (hT : 39 < T) (ht : t < 4) (hs : s ≤ 60) (K K' : am_U → Option (Int32 × am_U)) : ∀ (f c p : Nat) (uc um : am_U), c ≤ 8 → 8 < c + f → p ≤ s → tC T b s uc → tM t b s um → uc 7 1 = nI p → um 60 15 = nI p → uc dr 1 = nI c → um 60 18 = nI c → (∀ k, k < c → uc (dr + 1) k = um 71 k) → ∃ p' uc' um', p' ≤ s ∧ f_X7_readSuns_16 T dr K f uc = K uc' ∧ f_X11_readsSuns_12 (nI t) K' f um = K' um' ∧ uc' 7 1 = nI p' ∧ um' 60 15 = nI p' ∧ (∀ a e, a ≠ 7 → a ≠ dr + 1 → ¬ (a = dr ∧ e = 1) → uc' a e = uc a e) ∧ (∀ a e, ¬ (a = 60 ∧ (e = 15 ∨ e = 16 ∨ e = 18)) → a ≠ 71 → um' a e = um a e) ∧ D2 dr uc' um' := by
  intro f
  induction f with
  | zero => intro c p uc um h1 h2; omega
  | succ f ih =>
    intro c p uc um hc hf hps h hm hcp hmp hc1 hm1 hD
    rw [f_X7_readSuns_16, f_X11_readsSuns_12, hc1, hm1]
    by_cases c8 : c < 8
    · rw [if_neg (show ¬ (8 : Int32) ≤ nI c from nI_ge (b := 8) c8 (by omega)), if_neg (show ¬ (8 : Int32) ≤ nI c from nI_ge (b := 8) c8 (by omega)), fg_eq h hs hcp (by omega), obs, obs]
      have no : f_X10_isWithin (m_fg (m_sg b s p)) 0 1 = some 0 → f_X10_isWithin (m_bz b s p - 48) (nI 0) (nI 1) = some 0 → ∃ p' uc' um', p' ≤ s ∧ (f_X10_isWithin (m_fg (m_sg b s p)) 0 1).bind (fun q4 => if q4 = 0 then K uc else am_ck (am_ix (nI c) 8) (f_X7_readSuns_16 T dr K f (am_w (am_w (am_w uc (dr + 1) (nI c).toNatClampNeg (m_fg (m_sg b s p))) dr 1 (am_w uc (dr + 1) (nI c).toNatClampNeg (m_fg (m_sg b s p)) dr 1 + 1)) 7 1 (am_w (am_w uc (dr + 1) (nI c).toNatClampNeg (m_fg (m_sg b s p))) dr 1 (am_w uc (dr + 1) (nI c).toNatClampNeg (m_fg (m_sg b s p)) dr 1 + 1) 7 1 + 1)))) = K uc' ∧ (f_X11_figure (nI t) 0 1 um).bind (fun q2 => if q2.1 = 0 then K' q2.2 else am_ck (am_ix (q2.2 60 18) 8) (f_X11_readsSuns_12 (nI t) K' f (am_w (am_w q2.2 71 (q2.2 60 18).toNatClampNeg (q2.2 60 16)) 60 18 (am_w q2.2 71 (q2.2 60 18).toNatClampNeg (q2.2 60 16) 60 18 + 1)))) = K' um' ∧ uc' 7 1 = nI p' ∧ um' 60 15 = nI p' ∧ (∀ a e, a ≠ 7 → a ≠ dr + 1 → ¬ (a = dr ∧ e = 1) → uc' a e = uc a e) ∧ (∀ a e, ¬ (a = 60 ∧ (e = 15 ∨ e = 16 ∨ e = 18)) → a ≠ 71 → um' a e = um a e) ∧ D2 dr uc' um' := fun w1 w2 => by
        refine ⟨p, uc, am_w um 60 16 (m_bz b s p - 48), hps, ?_, ?_, hcp, by rw [am_w_n (by omega)]; exact hmp, fun _ _ _ _ _ => rfl, fun a e z1 z2 => am_w_n (by omega), c, hc, hc1, by rw [am_w_n (by omega)]; exact hm1, fun k hk => by rw [am_w_n (by omega)]; exact hD k hk⟩
        · rw [w1, obs, if_pos rfl]
        · rw [show f_X11_figure (nI t) 0 1 um = some (0, am_w um 60 16 (m_bz b s p - 48)) from mfig_n (lo := 0) (hi := 1) hm ht hs hmp (by omega) w2, obs]
          exact if_pos rfl
      rcases dg_cs b s p with ⟨g1, g2, g3⟩ | ⟨d, hd, hpl, g1, g2, g3, g4⟩
      · exact no (by rw [g1]; rfl) (g3 0 1 (by omega) (by omega))
      · by_cases d1 : d ≤ 1
        · have w1 : f_X10_isWithin (nI d) 0 1 = some 1 := wi_yes (nI_pos (by omega)) (show ¬ (1 : Int32) < nI d from Int32.not_lt.mpr (nI_le (b := 1) d1 (by omega)))
          rw [g1, w1, obs, if_neg ne10, am_ck_t (am_ix_nI c8 (by omega)), nI_clamp (by omega), show f_X11_figure (nI t) 0 1 um = some (1, am_w (am_w um 60 16 (nI d)) 60 15 (nI (p + 1))) from mfig_y (lo := 0) (hi := 1) hm ht hs hmp (by omega) g3 (by omega) d1 (by omega), obs]
          have e1 : am_w uc (dr + 1) c (nI d) dr 1 = nI c := by rw [am_w_n (by omega)]; exact hc1
          have e2 : am_w (am_w uc (dr + 1) c (nI d)) dr 1 (nI (c + 1)) 7 1 = nI p := by rw [am_w_n (by omega), am_w_n (by omega)]; exact hcp
          have e3 : am_w (am_w um 60 16 (nI d)) 60 15 (nI (p + 1)) 60 18 = nI c := by rw [am_w_n (by omega), am_w_n (by omega)]; exact hm1
          have e4 : am_w (am_w um 60 16 (nI d)) 60 15 (nI (p + 1)) 60 16 = nI d := by rw [am_w_n (by omega), am_w_s]
          obtain ⟨p', uc', um', x1, x2, x3, x4, x5, x6, x7, x8⟩ := ih (c + 1) (p + 1) (am_w (am_w (am_w uc (dr + 1) c (nI d)) dr 1 (nI (c + 1))) 7 1 (nI (p + 1))) (am_w (am_w (am_w (am_w um 60 16 (nI d)) 60 15 (nI (p + 1))) 71 c (nI d)) 60 18 (nI (c + 1))) (by omega) (by omega) (by omega) (tC_fr h (by rw [am_w_n (by omega), am_w_n (by omega), am_w_n (by omega)]) (fun i => by rw [am_w_n (by omega), am_w_n (by omega), am_w_n (by omega)])) (tM_fr hm (fun a e z => by rw [am_w_n (by omega), am_w_n (by omega), am_w_n (by omega), am_w_n (by omega)])) (am_w_s _ _ _ _) (by rw [am_w_n (by omega), am_w_n (by omega), am_w_s]) (by rw [am_w_n (by omega), am_w_s]) (am_w_s _ _ _ _) (fun k hk => by
            rw [am_w_n (by omega), am_w_n (by omega), am_w_n (show ¬ (71 = 60 ∧ k = 18) by omega)]
            by_cases q : k = c
            · subst q; rw [am_w_s, am_w_s]
            · rw [am_w_n (by omega), am_w_n (by omega), am_w_n (by omega), am_w_n (by omega)]; exact hD k (by omega))
          refine ⟨p', uc', um', x1, ?_, ?_, x4, x5, fun a e z1 z2 z3 => ?_, fun a e z1 z2 => ?_, x8⟩
          · show f_X7_readSuns_16 T dr K f (am_w (am_w (am_w uc (dr + 1) c (nI d)) dr 1 (am_w uc (dr + 1) c (nI d) dr 1 + 1)) 7 1 (am_w (am_w uc (dr + 1) c (nI d)) dr 1 (am_w uc (dr + 1) c (nI d) dr 1 + 1) 7 1 + 1)) = _
            rw [e1, nI_1, e2, nI_1]; exact x2
          · refine (if_neg ne10).trans ?_
            show am_ck (am_ix (am_w (am_w um 60 16 (nI d)) 60 15 (nI (p + 1)) 60 18) 8) (f_X11_readsSuns_12 (nI t) K' f (am_w (am_w (am_w (am_w um 60 16 (nI d)) 60 15 (nI (p + 1))) 71 (am_w (am_w um 60 16 (nI d)) 60 15 (nI (p + 1)) 60 18).toNatClampNeg (am_w (am_w um 60 16 (nI d)) 60 15 (nI (p + 1)) 60 16)) 60 18 (am_w (am_w (am_w um 60 16 (nI d)) 60 15 (nI (p + 1))) 71 (am_w (am_w um 60 16 (nI d)) 60 15 (nI (p + 1)) 60 18).toNatClampNeg (am_w (am_w um 60 16 (nI d)) 60 15 (nI (p + 1)) 60 16) 60 18 + 1))) = _
            rw [e3, e4, am_ck_t (am_ix_nI c8 (by omega)), nI_clamp (by omega), am_w_n (show ¬ (60 = 71 ∧ 18 = c) by omega), e3, nI_1]; exact x3
          · rw [x6 a e z1 z2 z3, am_w_n (by omega), am_w_n (by omega), am_w_n (by omega)]
          · rw [x7 a e z1 z2, am_w_n (by omega), am_w_n (by omega), am_w_n (by omega), am_w_n (by omega)]
        · have w0 : f_X10_isWithin (nI d) 0 1 = some 0 := wi_no (Or.inr (show (1 : Int32) < nI d from nI_lt (a := 1) (by omega) (by omega)))
          exact no (by rw [g1]; exact w0) (by rw [g3]; exact w0)
    · have : c = 8 := by omega
      subst this
      rw [if_pos (show (8 : Int32) ≤ nI 8 by decide), if_pos (show (8 : Int32) ≤ nI 8 by decide)]
      exact ⟨p, uc, um, hps, rfl, rfl, hcp, hmp, fun _ _ _ _ _ => rfl, fun _ _ _ _ => rfl, 8, by omega, hc1, hm1, hD⟩
/-! the suns' and the mules' sections -/
theorem stS {T t s dr p f : Nat} {b : Nat → Int32} {uc um : am_U} (hdr : dr = 30 ∨ dr = 35) (hT : 39 < T) (ht : t < 4) (hs : s ≤ 60) (hb : ∀ i, i < s → ¬ b i = 1000) (hps : p ≤ s) (h : tC T b s uc) (hm : tM t b s um) (hcp : uc 7 1 = nI p) (hmp : um 60 15 = nI p) (f17 : ¬ um 60 17 = 0) (f18 : um 60 18 = nI 0) (f19 : um 60 19 = 0) (f20 : um 60 20 = nI 0) (d1 : D1 dr uc um) (hf : 600 ≤ f) : sR T t dr (cS T dr) f uc um := by
  obtain ⟨q, y1, y2, y3, y4, y5⟩ := letter_c hT hs hb hps h hcp 115 (by decide)
  have hfm : f = (f - (q - p) - 1 + 1) + (q - p) := by omega
  obtain ⟨f1, hf1⟩ : ∃ f1, f - (q - p) - 1 = f1 := ⟨_, rfl⟩
  have y6 := skip_m ht hs (KF t) (q - p) p (f1 + 1) um (by omega) (fun i z1 z2 => y4 i z1 (by omega)) hm hmp
  rw [← hf1, ← hfm, show p + (q - p) = q by omega, hf1] at y6
  have hm1 : tM t b s (am_w um 60 15 (nI q)) := tM_fr hm (fun a e z => am_w_n (by omega))
  have e17 : am_w um 60 15 (nI q) 60 17 = um 60 17 := am_w_n (by omega)
  have e18 : am_w um 60 15 (nI q) 60 18 = 0 := (am_w_n (by omega)).trans f18
  have e19 : am_w um 60 15 (nI q) 60 19 = um 60 19 := am_w_n (by omega)
  rcases y5 with ⟨y5, yE⟩ | ⟨hq, hx, yE⟩
  · refine ⟨nI q, am_w uc 7 1 (nI q), am_w um 60 15 (nI q), ?_, ?_, fun a e z1 z2 => am_w_n (by omega), fun a e z1 z2 => am_w_n (by omega), fun z => absurd z (nI_m9 (by omega))⟩
    · have hN : f_X7_readSuns T dr uc = some (0, am_w uc 7 1 (nI q)) := by
        unfold f_X7_readSuns
        rw [yE, obs]; exact if_neg (fun z => z rfl)
      unfold cS
      rw [hN, obs]
      refine (if_pos rfl).trans ?_
      show some (am_w uc 7 1 (nI q) 7 1, am_w uc 7 1 (nI q)) = _
      rw [am_w_s]
    · rw [y6]
      by_cases c : q < s
      · rw [disp_m ht hs hm1 c (am_w_s _ _ _ _) (y3 c), e17, e18, if_pos f17, if_neg (fun z => z rfl)]
        have hR : f_X11_readsSuns (nI t) (am_w um 60 15 (nI q)) = some (0, am_w um 60 15 (nI q)) := by
          unfold f_X11_readsSuns
          rw [msig_n hm1 ht hs (am_w_s _ _ _ _) c 115 (fun z => y5 ⟨c, z⟩), obs]; exact if_neg (fun z => z rfl)
        rw [hR, obs]
        refine (if_pos rfl).trans ?_
        show some (am_w um 60 15 (nI q) 60 15, am_w um 60 15 (nI q)) = _
        rw [am_w_s]
      · rw [end_m ht hs hm1 (by omega) (by omega) (am_w_s _ _ _ _)]
        unfold KF
        rw [e19, if_pos f19, am_ck_t (am_ix_nI ht (by omega)), nI_clamp (by omega), hm1.1, show s = q by omega]
  · obtain ⟨p', uc', um', x1, x2, x3, x4, x5, x6, x7, x8⟩ := suns_rel (b := b) (s := s) hdr hT ht hs (fun (c10u : am_U) => if (c10u dr 1) ≤ 0 then some (0, c10u) else some (1, c10u)) (fun (c6u : am_U) => if (c6u 60 18) ≤ 0 then some (0, c6u) else some (1, c6u)) 20000 0 (q + 1) (am_w (am_w uc 7 1 (nI (q + 1))) dr 1 0) (am_w um 60 15 (nI (q + 1))) (by omega) (by omega) (by omega) (tC_fr h (by rw [am_w_n (by omega), am_w_n (by omega)]) (fun i => by rw [am_w_n (by omega), am_w_n (by omega)])) (tM_fr hm (fun a e z => am_w_n (by omega))) (by rw [am_w_n (by omega), am_w_s]) (am_w_s _ _ _ _) (am_w_s _ _ _ _) (by rw [am_w_n (by omega)]; exact f18) (fun k hk => absurd hk (Nat.not_lt_zero k))
    have eC : ∀ a e, a ≠ 7 → a ≠ dr + 1 → ¬ (a = dr ∧ e = 1) → uc' a e = uc a e := fun a e z1 z2 z3 => by rw [x6 a e z1 z2 z3, am_w_n z3, am_w_n (by omega)]
    have eM : ∀ a e, ¬ (a = 60 ∧ (e = 15 ∨ e = 16 ∨ e = 18)) → a ≠ 71 → um' a e = um a e := fun a e z1 z2 => by rw [x7 a e z1 z2, am_w_n (by omega)]
    obtain ⟨c, k1, k2, k3, k4⟩ := x8
    have hN : f_X7_readSuns T dr uc = if nI c ≤ 0 then some (0, uc') else some (1, uc') := by
      unfold f_X7_readSuns
      rw [yE, obs]
      refine (if_pos ne10).trans (x2.trans ?_)
      rw [k2]
    have hR : f_X11_readsSuns (nI t) (am_w um 60 15 (nI q)) = if nI c ≤ 0 then some (0, um') else some (1, um') := by
      unfold f_X11_readsSuns
      rw [msig_y hm1 ht hs (am_w_s _ _ _ _) hq 115 hx, obs, ww]
      refine (if_pos ne10).trans (x3.trans ?_)
      rw [k3]
    have gC1 : gC dr uc uc' := fun a e z1 z2 => eC a e z1 (by omega) (by omega)
    have gM1 : gM um um' := fun a e z1 z2 => eM a e (by omega) (by omega)
    have hF : f_X11_faultOf_25 (nI t) (KF t) f um = (f_X11_readsSuns (nI t) (am_w um 60 15 (nI q))).bind (fun q10 => if q10.1 = 0 then some (q10.2 60 15, q10.2) else f_X11_faultOf_25 (nI t) (KF t) f1 q10.2) := by
      rw [y6, disp_m ht hs hm1 hq (am_w_s _ _ _ _) (y3 hq), e17, e18, if_pos f17, if_neg (fun z => z rfl)]
    have hCc : cS T dr uc = (f_X7_readSuns T dr uc).bind (fun q5 => if q5.1 = 0 then some (q5.2 7 1, q5.2) else cN T dr q5.2) := rfl
    cases c with
    | zero =>
      rw [if_pos (show nI 0 ≤ (0 : Int32) by decide)] at hN hR
      rw [hN, obs] at hCc
      rw [hR, obs] at hF
      refine ⟨nI p', uc', um', hCc.trans ((if_pos rfl).trans ?_), hF.trans ((if_pos rfl).trans ?_), gC1, gM1, fun z => absurd z (nI_m9 (by omega))⟩
      · show some (uc' 7 1, uc') = _; rw [x4]
      · show some (um' 60 15, um') = _; rw [x5]
    | succ c =>
      rw [if_neg (nI_nle (show 0 < c + 1 by omega) (by omega))] at hN hR
      rw [hN, obs] at hCc
      rw [hR, obs] at hF
      refine sR_fr (stN (uc := uc') (um := um') hdr hT ht hs hb x1 (tC_fr h (eC _ _ (by omega) (by omega) (by omega)) (fun i => eC _ _ (by omega) (by omega) (by omega))) (tM_fr hm (fun a e z => eM _ _ (by omega) (by omega))) x4 x5 (by rw [eM _ _ (by omega) (by omega)]; exact f17) (by rw [k3]; exact nI_ne0 (by omega) (by omega)) (by rw [eM _ _ (by omega) (by omega)]; exact f19) (by rw [eM _ _ (by omega) (by omega)]; exact f20) ?_ ⟨c + 1, k1, k2, k3, k4⟩ (f := f1) (by omega)) (hCc.trans (if_neg ne10)) (hF.trans (if_neg ne10)) gC1 gM1
      unfold D1; rw [eC _ _ (by omega) (by omega) (by omega), eM _ _ (by omega) (by omega)]; exact d1
theorem stM {T t s dr p f : Nat} {b : Nat → Int32} {uc um : am_U} (hdr : dr = 30 ∨ dr = 35) (hT : 39 < T) (ht : t < 4) (hs : s ≤ 60) (hb : ∀ i, i < s → ¬ b i = 1000) (hps : p ≤ s) (h : tC T b s uc) (hm : tM t b s um) (hcp : uc 7 1 = nI p) (hmp : um 60 15 = nI p) (f17 : um 60 17 = 0) (f18 : um 60 18 = nI 0) (f19 : um 60 19 = 0) (f20 : um 60 20 = nI 0) (hf : 800 ≤ f) : sR T t dr (cM T dr) f uc um := by
  obtain ⟨q, y1, y2, y3, y4, y5⟩ := letter_c hT hs hb hps h hcp 121 (by decide)
  have hfm : f = (f - (q - p) - 1 + 1) + (q - p) := by omega
  obtain ⟨f1, hf1⟩ : ∃ f1, f - (q - p) - 1 = f1 := ⟨_, rfl⟩
  have y6 := skip_m ht hs (KF t) (q - p) p (f1 + 1) um (by omega) (fun i z1 z2 => y4 i z1 (by omega)) hm hmp
  rw [← hf1, ← hfm, show p + (q - p) = q by omega, hf1] at y6
  have hm1 : tM t b s (am_w um 60 15 (nI q)) := tM_fr hm (fun a e z => am_w_n (by omega))
  have e17 : am_w um 60 15 (nI q) 60 17 = 0 := (am_w_n (by omega)).trans f17
  have e19 : am_w um 60 15 (nI q) 60 19 = um 60 19 := am_w_n (by omega)
  rcases y5 with ⟨y5, yE⟩ | ⟨hq, hx, yE⟩
  · refine ⟨nI q, am_w uc 7 1 (nI q), am_w um 60 15 (nI q), ?_, ?_, fun a e z1 z2 => am_w_n (by omega), fun a e z1 z2 => am_w_n (by omega), fun z => absurd z (nI_m9 (by omega))⟩
    · have hN : f_X7_readMules T dr uc = some (0, am_w uc 7 1 (nI q)) := by
        unfold f_X7_readMules
        rw [yE, obs]; exact if_pos rfl
      unfold cM
      rw [hN, obs]
      refine (if_pos rfl).trans ?_
      show some (am_w uc 7 1 (nI q) 7 1, am_w uc 7 1 (nI q)) = _
      rw [am_w_s]
    · rw [y6]
      by_cases c : q < s
      · rw [disp_m ht hs hm1 c (am_w_s _ _ _ _) (y3 c), e17, if_neg (fun z => z rfl)]
        have hR : f_X11_readsMules (nI t) (am_w um 60 15 (nI q)) = some (0, am_w um 60 15 (nI q)) := by
          unfold f_X11_readsMules
          rw [msig_n hm1 ht hs (am_w_s _ _ _ _) c 121 (fun z => y5 ⟨c, z⟩), obs]; exact if_pos rfl
        rw [hR, obs]
        refine (if_pos rfl).trans ?_
        show some (am_w um 60 15 (nI q) 60 15, am_w um 60 15 (nI q)) = _
        rw [am_w_s]
      · rw [end_m ht hs hm1 (by omega) (by omega) (am_w_s _ _ _ _)]
        unfold KF
        rw [e19, if_pos f19, am_ck_t (am_ix_nI ht (by omega)), nI_clamp (by omega), hm1.1, show s = q by omega]
  · have h1 : tC T b s (am_w uc 7 1 (nI (q + 1))) := tC_fr h (am_w_n (by omega)) (fun i => am_w_n (by omega))
    have hm2 : tM t b s (am_w um 60 15 (nI (q + 1))) := tM_fr hm (fun a e z => am_w_n (by omega))
    have hCc : cM T dr uc = (f_X7_readMules T dr uc).bind (fun q2 => if q2.1 = 0 then some (q2.2 7 1, q2.2) else cS T dr q2.2) := rfl
    have hF : f_X11_faultOf_25 (nI t) (KF t) f um = (f_X11_readsMules (nI t) (am_w um 60 15 (nI q))).bind (fun q11 => if q11.1 = 0 then some (q11.2 60 15, q11.2) else f_X11_faultOf_25 (nI t) (KF t) f1 q11.2) := by
      rw [y6, disp_m ht hs hm1 hq (am_w_s _ _ _ _) (y3 hq), e17, if_neg (fun z => z rfl)]
    have hN0 : f_X7_readMules T dr uc = (f_X10_isWithin (m_fg (m_sg b s (q + 1))) 1 6).bind (fun q3 => if ¬ q3 = 0 then some (1, am_w (am_w (am_w uc 7 1 (nI (q + 1))) dr 0 (m_fg (m_sg b s (q + 1)))) 7 1 (am_w (am_w uc 7 1 (nI (q + 1))) dr 0 (m_fg (m_sg b s (q + 1))) 7 1 + 1)) else some (0, am_w uc 7 1 (nI (q + 1)))) := by
      unfold f_X7_readMules
      rw [yE, obs]
      refine (if_neg ne10).trans ?_
      show (f_X7_figure T (am_w uc 7 1 (nI (q + 1)))).bind _ = _
      rw [fg_eq h1 hs (am_w_s _ _ _ _) (by omega), obs]
      simp only [obs]
    have hR0 : f_X11_readsMules (nI t) (am_w um 60 15 (nI q)) = (f_X11_figure (nI t) 1 6 (am_w um 60 15 (nI (q + 1)))).bind (fun q2 => if ¬ q2.1 = 0 then some (1, am_w q2.2 60 17 (q2.2 60 16)) else some (0, q2.2)) := by
      unfold f_X11_readsMules
      rw [msig_y hm1 ht hs (am_w_s _ _ _ _) hq 121 hx, obs, ww]
      exact if_neg ne10
    have no : f_X10_isWithin (m_fg (m_sg b s (q + 1))) 1 6 = some 0 → f_X10_isWithin (m_bz b s (q + 1) - 48) (nI 1) (nI 6) = some 0 → sR T t dr (cM T dr) f uc um := fun w1 w2 => by
      rw [w1, obs] at hN0
      rw [show f_X11_figure (nI t) 1 6 (am_w um 60 15 (nI (q + 1))) = some (0, am_w (am_w um 60 15 (nI (q + 1))) 60 16 (m_bz b s (q + 1) - 48)) from mfig_n (lo := 1) (hi := 6) hm2 ht hs (am_w_s _ _ _ _) (by omega) w2, obs] at hR0
      have hN1 := hN0.trans (if_neg (fun z => z rfl))
      have hR1 : f_X11_readsMules (nI t) (am_w um 60 15 (nI q)) = some (0, am_w (am_w um 60 15 (nI (q + 1))) 60 16 (m_bz b s (q + 1) - 48)) := hR0.trans (if_neg (fun z => z rfl))
      rw [hN1, obs] at hCc
      rw [hR1, obs] at hF
      refine ⟨nI (q + 1), am_w uc 7 1 (nI (q + 1)), am_w (am_w um 60 15 (nI (q + 1))) 60 16 (m_bz b s (q + 1) - 48), hCc.trans ((if_pos rfl).trans ?_), hF.trans ((if_pos rfl).trans ?_), fun a e z1 z2 => am_w_n (by omega), fun a e z1 z2 => ?_, fun z => absurd z (nI_m9 (by omega))⟩
      · show some (am_w uc 7 1 (nI (q + 1)) 7 1, am_w uc 7 1 (nI (q + 1))) = _
        rw [am_w_s]
      · show some (am_w (am_w um 60 15 (nI (q + 1))) 60 16 (m_bz b s (q + 1) - 48) 60 15, _) = _
        rw [am_w_n (by omega), am_w_s]
      · show am_w (am_w um 60 15 (nI (q + 1))) 60 16 (m_bz b s (q + 1) - 48) a e = _
        rw [am_w_n (by omega), am_w_n (by omega)]
    rcases dg_cs b s (q + 1) with ⟨g1, g2, g3⟩ | ⟨d, hd, hpl, g1, g2, g3, g4⟩
    · exact no (by rw [g1]; rfl) (g3 1 6 (by omega) (by omega))
    · by_cases d16 : 1 ≤ d ∧ d ≤ 6
      · have w1 : f_X10_isWithin (nI d) 1 6 = some 1 := wi_yes (show ¬ nI d < (1 : Int32) from nI_nlt (b := 1) d16.1 (by omega)) (show ¬ (6 : Int32) < nI d from nI_nlt (a := 6) d16.2 (by omega))
        rw [g1, w1, obs] at hN0
        rw [show f_X11_figure (nI t) 1 6 (am_w um 60 15 (nI (q + 1))) = some (1, am_w (am_w (am_w um 60 15 (nI (q + 1))) 60 16 (nI d)) 60 15 (nI (q + 1 + 1))) from mfig_y (lo := 1) (hi := 6) hm2 ht hs (am_w_s _ _ _ _) (by omega) g3 d16.1 d16.2 (by omega), obs] at hR0
        have e7 : am_w (am_w uc 7 1 (nI (q + 1))) dr 0 (nI d) 7 1 = nI (q + 1) := by rw [am_w_n (by omega), am_w_s]
        have e16 : am_w (am_w (am_w um 60 15 (nI (q + 1))) 60 16 (nI d)) 60 15 (nI (q + 1 + 1)) 60 16 = nI d := by rw [am_w_n (by omega), am_w_s]
        obtain ⟨uc', huc⟩ : ∃ uc', am_w (am_w (am_w uc 7 1 (nI (q + 1))) dr 0 (nI d)) 7 1 (nI (q + 1 + 1)) = uc' := ⟨_, rfl⟩
        obtain ⟨um', hum⟩ : ∃ um', am_w (am_w (am_w (am_w um 60 15 (nI (q + 1))) 60 16 (nI d)) 60 15 (nI (q + 1 + 1))) 60 17 (nI d) = um' := ⟨_, rfl⟩
        have hN1 : f_X7_readMules T dr uc = some (1, uc') := hN0.trans ((if_pos ne10).trans (by rw [e7, nI_1, huc]))
        have hR1 : f_X11_readsMules (nI t) (am_w um 60 15 (nI q)) = some (1, um') := hR0.trans ((if_pos ne10).trans (by
          show some ((1 : Int32), am_w (am_w (am_w (am_w um 60 15 (nI (q + 1))) 60 16 (nI d)) 60 15 (nI (q + 1 + 1))) 60 17 (am_w (am_w (am_w um 60 15 (nI (q + 1))) 60 16 (nI d)) 60 15 (nI (q + 1 + 1)) 60 16)) = _
          rw [e16, hum]))
        rw [hN1, obs] at hCc
        rw [hR1, obs] at hF
        have eC : ∀ a e, a ≠ 7 → ¬ (a = dr ∧ e = 0) → uc' a e = uc a e := fun a e z1 z2 => by rw [← huc, am_w_n (by omega), am_w_n z2, am_w_n (by omega)]
        have eM : ∀ a e, ¬ (a = 60 ∧ (e = 15 ∨ e = 16 ∨ e = 17)) → um' a e = um a e := fun a e z1 => by rw [← hum, am_w_n (by omega), am_w_n (by omega), am_w_n (by omega), am_w_n (by omega)]
        have k17 : um' 60 17 = nI d := by rw [← hum, am_w_s]
        refine sR_fr (stS (uc := uc') (um := um') (p := q + 1 + 1) hdr hT ht hs hb (by omega) (tC_fr h (eC _ _ (by omega) (by omega)) (fun i => eC _ _ (by omega) (by omega))) (tM_fr hm (fun a e z => eM _ _ (by omega))) (by rw [← huc, am_w_s]) (by rw [← hum, am_w_n (by omega), am_w_s]) (by rw [k17]; exact nI_ne0 (by omega) (by omega)) (by rw [eM _ _ (by omega)]; exact f18) (by rw [eM _ _ (by omega)]; exact f19) (by rw [eM _ _ (by omega)]; exact f20) ?_ (f := f1) (by omega)) (hCc.trans (if_neg ne10)) (hF.trans (if_neg ne10)) (fun a e z1 z2 => eC a e z1 (by omega)) (fun a e z1 z2 => eM a e (by omega))
        unfold D1; rw [k17, ← huc, am_w_n (by omega), am_w_s]
      · have w0 : f_X10_isWithin (nI d) 1 6 = some 0 := by
          rcases Nat.lt_or_ge d 1 with z | z
          · exact wi_no (Or.inl (show nI d < (1 : Int32) from nI_lt (b := 1) z (by omega)))
          · exact wi_no (Or.inr (show (6 : Int32) < nI d from nI_lt (a := 6) (by omega) (by omega)))
        exact no (by rw [g1]; exact w0) (by rw [g3]; exact w0)
