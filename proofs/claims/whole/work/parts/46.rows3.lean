/-! places lo up to hi of a cell are v -/
def am_fl (u : am_U) (c lo hi : Nat) (v : Int32) : am_U := fun a b => if a = c ∧ lo ≤ b ∧ b < hi then v else u a b
theorem am_fl_n {u : am_U} {c lo hi a b : Nat} {v : Int32} (h : ¬ (a = c ∧ lo ≤ b ∧ b < hi)) : am_fl u c lo hi v a b = u a b := if_neg h
theorem am_fl_s {u : am_U} {c lo hi b : Nat} {v : Int32} (h : lo ≤ b ∧ b < hi) : am_fl u c lo hi v c b = v := if_pos ⟨rfl, h⟩
theorem am_fl_c {u : am_U} {c lo hi a : Nat} {v : Int32} (h : a ≠ c) : am_fl u c lo hi v a = u a := funext fun b => am_fl_n (by omega)
theorem am_fl_e (u : am_U) (c lo : Nat) (v : Int32) : am_fl u c lo lo v = u := funext fun a => funext fun b => am_fl_n (by omega)
theorem am_fl_w {u : am_U} {c lo hi : Nat} {v : Int32} (h : lo < hi) : am_fl (am_w u c lo v) c (lo + 1) hi v = am_fl u c lo hi v := funext fun a => funext fun b => by
  unfold am_fl
  rw [am_w_ap]
  by_cases h1 : a = c ∧ lo + 1 ≤ b ∧ b < hi
  · rw [if_pos h1, if_pos (by omega)]
  · rw [if_neg h1]
    by_cases h2 : a = c ∧ b = lo
    · rw [if_pos h2, if_pos (by omega)]
    · rw [if_neg h2, if_neg (by omega)]
theorem fill_lp (c N : Nat) (v : Int32) (hN : N < 2 ^ 31) : ∀ (n k : Nat) (u : am_U), k ≤ N → N < k + n → f_J7_fill_53178_5 c N v (nI N) n (nI k) u = some (am_fl u c k N v) := by
  intro n
  induction n with
  | zero => intro k u h1 h2; omega
  | succ n ih =>
    intro k u h1 h2
    rw [f_J7_fill_53178_5]
    rcases Nat.lt_or_ge k N with q | q
    · rw [if_neg (nI_ge q hN), am_ix_nI q hN, nI_clamp (by omega)]
      show f_J7_fill_53178_5 c N v (nI N) n (nI k + 1) (am_w u c k v) = _
      rw [nI_1, ih (k + 1) _ (by omega) (by omega), am_fl_w q]
    · have : k = N := by omega
      subst this
      rw [if_pos (nI_le (Nat.le_refl k) hN), am_fl_e]
theorem fill_eq (c N : Nat) (v : Int32) (u : am_U) (hN : N < 20000) : f_J7_fill_53178 c N v u = some (am_fl u c 0 N v) := by
  unfold f_J7_fill_53178
  exact fill_lp c N v (by omega) 20000 0 u (by omega) (by omega)
theorem make_eq (t : Nat) (a v : Int32) (u : am_U) : f_X8_makeAnew t a v u = some (am_fl (am_w u t 1 a) (t + 1) 0 60 v) := by
  unfold f_X8_makeAnew
  show (f_J7_fill_53178 (t + 1) 60 v (am_w u t 1 a)).bind (fun q2 => some q2) = _
  rw [fill_eq _ _ _ _ (by omega)]; rfl
theorem row34_lp (r : Nat) (hr : r < 6) (v2 : Int32) : ∀ (n k : Nat) (u : am_U), k ≤ 60 → 60 < k + n → f_X11_row_34 (nI r) v2 n (nI k) u = some (v2, am_fl u 63 (60 * r + k) (60 * r + 60) 0) := by
  intro n
  induction n with
  | zero => intro k u h1 h2; omega
  | succ n ih =>
    intro k u h1 h2
    rw [f_X11_row_34]
    rcases Nat.lt_or_ge k 60 with q | q
    · rw [if_neg (show ¬ (60 : Int32) ≤ nI k from nI_ge (b := 60) q (by decide)), nI_60, am_ix_nI (by omega) (by omega), nI_clamp (by omega)]
      show f_X11_row_34 (nI r) v2 n (nI k + 1) (am_w u 63 (60 * r + k) 0) = _
      rw [nI_1, ih (k + 1) _ (by omega) (by omega), show 60 * r + (k + 1) = 60 * r + k + 1 by omega, am_fl_w (by omega)]
    · have : k = 60 := by omega
      subst this
      rw [if_pos (show (60 : Int32) ≤ nI 60 from nI_le (Nat.le_refl _) (by omega)), am_fl_e]
theorem text34_lp (r : Nat) (hr : r < 4) (v2 : Int32) : ∀ (n k : Nat) (u : am_U), k ≤ 60 → 60 < k + n → f_X11_text_34 (nI r) v2 n (nI k) u = some (v2, am_fl u 66 (60 * r + k) (60 * r + 60) 32) := by
  intro n
  induction n with
  | zero => intro k u h1 h2; omega
  | succ n ih =>
    intro k u h1 h2
    rw [f_X11_text_34]
    rcases Nat.lt_or_ge k 60 with q | q
    · rw [if_neg (show ¬ (60 : Int32) ≤ nI k from nI_ge (b := 60) q (by decide)), nI_60, am_ix_nI (by omega) (by omega), nI_clamp (by omega)]
      show f_X11_text_34 (nI r) v2 n (nI k + 1) (am_w u 66 (60 * r + k) 32) = _
      rw [nI_1, ih (k + 1) _ (by omega) (by omega), show 60 * r + (k + 1) = 60 * r + k + 1 by omega, am_fl_w (by omega)]
    · have : k = 60 := by omega
      subst this
      rw [if_pos (show (60 : Int32) ≤ nI 60 from nI_le (Nat.le_refl _) (by omega)), am_fl_e]
theorem row34_eq (r : Nat) (hr : r < 6) (v2 : Int32) (u : am_U) : f_X11_row_34 (nI r) v2 20000 0 u = some (v2, am_fl u 63 (60 * r) (60 * r + 60) 0) := row34_lp r hr v2 20000 0 u (by omega) (by omega)
theorem text34_eq (r : Nat) (hr : r < 4) (v2 : Int32) (u : am_U) : f_X11_text_34 (nI r) v2 20000 0 u = some (v2, am_fl u 66 (60 * r) (60 * r + 60) 32) := text34_lp r hr v2 20000 0 u (by omega) (by omega)
/-- a row is made anew, of both alike -/
def am_mkR (u : am_U) (T s q r : Nat) (a v : Int32) : am_U := am_fl (am_w (am_fl (am_w u T 1 a) (T + 1) 0 60 v) s r a) q (60 * r) (60 * r + 60) v
theorem mkR_row {u : am_U} {t s q N r n : Nat} (v : Int32) (hn : n ≤ 60) (hsq : s ≠ q ∧ (∀ m, m < N → 2 * m + t ≠ s ∧ 2 * m + t ≠ q ∧ 2 * m + t + 1 ≠ s ∧ 2 * m + t + 1 ≠ q)) (h : ∀ m, m < N → i_row u (2 * m + t) s q m) (hr : r < N) : ∀ m, m < N → i_row (am_mkR u (2 * r + t) s q r (nI n) v) (2 * m + t) s q m := by
  intro m hm
  obtain ⟨h1, h2⟩ := hsq
  have h2m := h2 m hm
  have h2r := h2 r hr
  obtain ⟨m1, m2, m3⟩ := h m hm
  unfold am_mkR
  by_cases hq : m = r
  · subst hq
    refine ⟨?_, Or.inr ⟨n, hn, ?_⟩, fun i hi => ?_⟩
    · rw [am_fl_n (by omega), am_w_n (by omega), am_fl_n (by omega), am_w_s, am_fl_n (by omega), am_w_s]
    · rw [am_fl_n (by omega), am_w_s]
    · rw [am_fl_n (by omega), am_w_n (by omega), am_fl_s (by omega), am_fl_s (by omega)]
  · refine ⟨?_, ?_, fun i hi => ?_⟩
    · rw [am_fl_n (by omega), am_w_n (by omega), am_fl_n (by omega), am_w_n (by omega), am_fl_n (by omega), am_w_n (by omega), am_fl_n (by omega), am_w_n (by omega)]; exact m1
    · rw [am_fl_n (by omega), am_w_n (by omega), am_fl_n (by omega), am_w_n (by omega)]; exact m2
    · rw [am_fl_n (by omega), am_w_n (by omega), am_fl_n (by omega), am_w_n (by omega), am_fl_n (by omega), am_w_n (by omega), am_fl_n (by omega), am_w_n (by omega)]; exact m3 i hi
theorem mkR_n {u : am_U} {T s q r a b : Nat} {x v : Int32} (h : a ≠ T ∧ a ≠ T + 1 ∧ a ≠ s ∧ a ≠ q) : am_mkR u T s q r x v a b = u a b := by
  unfold am_mkR
  rw [am_fl_n (by omega), am_w_n (by omega), am_fl_n (by omega), am_w_n (by omega)]
theorem inv_mkR {pl : Nat} (hp : pl = 30 ∨ pl = 35) {u : am_U} (hI : am_Inv pl u) {r n : Nat} (hr : r < 6) (hn : n ≤ 60) (v : Int32) : am_Inv pl (am_mkR u (2 * r + 40) 62 63 r (nI n) v) ∧ ∀ a, 91 ≤ a → am_mkR u (2 * r + 40) 62 63 r (nI n) v a = u a := by
  refine ⟨fr_mrt hp hI (fr_msg hI.1 fun a b q => ?_) (mkR_row v hn ⟨by omega, fun m hm => by omega⟩ hI.2.1 hr) (fr_txts hI.2.2.1 fun a b q => ?_) fun a b q => ?_, fun a ha => funext fun b => mkR_n (by omega)⟩
  · unfold c_msg at q; exact mkR_n (by omega)
  · unfold c_txts at q; exact mkR_n (by omega)
  · have q := c_rest_of q; exact mkR_n (by omega)
theorem inv_mkT {pl : Nat} (hp : pl = 30 ∨ pl = 35) {u : am_U} (hI : am_Inv pl u) {r n : Nat} (hr : r < 4) (hn : n ≤ 60) (v : Int32) (hv : ¬ v = 1000) : am_Inv pl (am_mkR u (2 * r + 52) 65 66 r (nI n) v) ∧ ∀ a, 91 ≤ a → am_mkR u (2 * r + 52) 65 66 r (nI n) v a = u a := by
  refine ⟨fr_mrt hp hI ⟨?_, ?_, fun k hk => ?_, fun k => ?_⟩ (fr_rows hI.2.1 fun a b q => ?_) (mkR_row v hn ⟨by omega, fun m hm => by omega⟩ hI.2.2.1 hr) fun a b q => ?_, fun a ha => funext fun b => mkR_n (by omega)⟩
  · rw [mkR_n (by omega), mkR_n (by omega)]; exact hI.1.1
  · rw [mkR_n (by omega), mkR_n (by omega)]; exact hI.1.2.1
  · rw [mkR_n (by omega), mkR_n (by omega)]; exact hI.1.2.2.1 k hk
  · unfold am_mkR am_fl
    split
    · exact hv
    · rw [am_w_n (by omega)]
      split
      · omega
      · rw [am_w_n (by omega)]; exact hI.1.2.2.2 k
  · unfold c_rows at q; exact mkR_n (by omega)
  · have q := c_rest_of q; exact mkR_n (by omega)
theorem mkrow_cs (T : Nat) (a v : Int32) (u : am_U) : (¬ a ≤ 60 ∧ f_X10_makeRow T a v u = some (-1, u)) ∨ (a ≤ 60 ∧ ¬ 0 ≤ a ∧ f_X10_makeRow T a v u = some (-3, am_fnd u 5)) ∨ ∃ n, n ≤ 60 ∧ a = nI n ∧ a ≤ 60 ∧ 0 ≤ a ∧ f_X10_makeRow T a v u = some (a, am_fl (am_w u T 1 a) (T + 1) 0 60 v) := by
  unfold f_X10_makeRow
  by_cases h : a ≤ 60
  · by_cases h2 : 0 ≤ a
    · obtain ⟨n, hn, rfl⟩ := nI_ex (hi := 60) (Int32.not_lt.mpr h2) (Int32.not_lt.mpr h) (by omega)
      refine Or.inr (Or.inr ⟨n, hn, rfl, h, h2, ?_⟩)
      rw [if_pos h, if_pos h2, make_eq]; rfl
    · refine Or.inr (Or.inl ⟨h, h2, ?_⟩)
      rw [if_pos h, if_neg h2]
      show (f_X10_find (nI 5) u).bind _ = _
      rw [find_eq (by omega)]; rfl
  · exact Or.inl ⟨h, by rw [if_neg h]⟩
theorem two_row (a1 a2 : Int32) : am_two (fun _ u => f_X10_row a1 a2 u) (fun _ u => f_X11_row a1 a2 u) := by
  intro pl hp u hI
  show ∃ v u1 u2, f_X10_row a1 a2 u = _ ∧ f_X11_row a1 a2 u1 = _ ∧ _
  rcases wi_cs a1 0 5 (by omega) (by omega) with w | ⟨r, -, hr, ha, w⟩
  · refine ⟨-1, u, u, ?_, ?_, hI, fun _ _ => rfl⟩
    · unfold f_X10_row; rw [show f_X10_isWithin a1 0 5 = some 0 from w]; rfl
    · unfold f_X11_row; rw [isRow_eq, show f_X10_isWithin a1 0 5 = some 0 from w]; rfl
  · have hix : am_ix a1 6 = true := by rw [ha]; exact am_ix_nI (by omega) (by omega)
    have hcl : a1.toNatClampNeg = r := by rw [ha]; exact nI_clamp (by omega)
    have hE : f_X10_row a1 a2 u = (f_X10_makeRow (2 * r + 40) a2 0 u).bind (fun q3 => some (q3.1, q3.2)) := by
      unfold f_X10_row; rw [show f_X10_isWithin a1 0 5 = some 1 from w]
      show am_ck (am_ix a1 6) ((f_X10_makeRow (2 * a1.toNatClampNeg + 40) a2 0 u).bind _) = _
      rw [hix, hcl]; rfl
    have hM : ∀ u1, f_X11_row a1 a2 u1 = if a2 ≤ 60 then (if 0 ≤ a2 then f_X11_row_34 (nI r) a2 20000 0 (am_w u1 62 r a2) else (f_X11_meets (nI 5) u1).bind (fun q6 => some (q6.1, q6.2))) else some (-1, u1) := fun u1 => by
      unfold f_X11_row; rw [isRow_eq, show f_X10_isWithin a1 0 5 = some 1 from w]
      show (if a2 ≤ 60 then (if 0 ≤ a2 then am_ck (am_ix a1 6) (f_X11_row_34 a1 a2 20000 0 (am_w u1 62 a1.toNatClampNeg a2)) else _) else _) = _
      rw [am_ck_t hix, hcl, ← ha]; rfl
    rcases mkrow_cs (2 * r + 40) a2 0 u with ⟨k, e⟩ | ⟨k, k2, e⟩ | ⟨n, hn, hb, k, k2, e⟩
    · exact ⟨-1, u, u, by rw [hE, e]; rfl, by rw [hM, if_neg k], hI, fun _ _ => rfl⟩
    · exact ⟨-3, am_fnd u 5, am_mts (am_fnd u 5) 5, by rw [hE, e]; rfl, by rw [hM, if_pos k, if_neg k2, meets_eq (by omega)]; rfl, inv_find hp hI 5⟩
    · refine ⟨a2, am_fl (am_w u (2 * r + 40) 1 a2) (2 * r + 40 + 1) 0 60 0, am_mkR u (2 * r + 40) 62 63 r a2 0, by rw [hE, e]; rfl, ?_, by rw [hb]; exact inv_mkR hp hI (by omega) hn 0⟩
      rw [hM, if_pos k, if_pos k2, row34_eq r (by omega)]; rfl
theorem ok_row {l : Launch} {g : am_G} (a1 a2 : Int32) : am_ok l g d_X10_row d_X11_row [.int a1, .int a2] am_isI := ok_II (fun B pl hL u => s_X10_row hL a1 a2 u) (fun B pl hL u => s_X11_row hL a1 a2 u) (two_row a1 a2)
theorem two_text (a1 a2 : Int32) : am_two (fun _ u => f_X10_text a1 a2 u) (fun _ u => f_X11_text a1 a2 u) := by
  intro pl hp u hI
  show ∃ v u1 u2, f_X10_text a1 a2 u = _ ∧ f_X11_text a1 a2 u1 = _ ∧ _
  rcases wi_cs a1 0 3 (by omega) (by omega) with w | ⟨r, -, hr, ha, w⟩
  · refine ⟨-1, u, u, ?_, ?_, hI, fun _ _ => rfl⟩
    · unfold f_X10_text; rw [show f_X10_isWithin a1 0 3 = some 0 from w]; rfl
    · unfold f_X11_text; rw [isText_eq, show f_X10_isWithin a1 0 3 = some 0 from w]; rfl
  · have hix : am_ix a1 4 = true := by rw [ha]; exact am_ix_nI (by omega) (by omega)
    have hcl : a1.toNatClampNeg = r := by rw [ha]; exact nI_clamp (by omega)
    have hE : f_X10_text a1 a2 u = (f_X10_makeRow (2 * r + 52) a2 32 u).bind (fun q3 => some (q3.1, q3.2)) := by
      unfold f_X10_text; rw [show f_X10_isWithin a1 0 3 = some 1 from w]
      show am_ck (am_ix a1 4) ((f_X10_makeRow (2 * a1.toNatClampNeg + 52) a2 32 u).bind _) = _
      rw [hix, hcl]; rfl
    have hM : ∀ u1, f_X11_text a1 a2 u1 = if a2 ≤ 60 then (if 0 ≤ a2 then f_X11_text_34 (nI r) a2 20000 0 (am_w u1 65 r a2) else (f_X11_meets (nI 5) u1).bind (fun q6 => some (q6.1, q6.2))) else some (-1, u1) := fun u1 => by
      unfold f_X11_text; rw [isText_eq, show f_X10_isWithin a1 0 3 = some 1 from w]
      show (if a2 ≤ 60 then (if 0 ≤ a2 then am_ck (am_ix a1 4) (f_X11_text_34 a1 a2 20000 0 (am_w u1 65 a1.toNatClampNeg a2)) else _) else _) = _
      rw [am_ck_t hix, hcl, ← ha]; rfl
    rcases mkrow_cs (2 * r + 52) a2 32 u with ⟨k, e⟩ | ⟨k, k2, e⟩ | ⟨n, hn, hb, k, k2, e⟩
    · exact ⟨-1, u, u, by rw [hE, e]; rfl, by rw [hM, if_neg k], hI, fun _ _ => rfl⟩
    · exact ⟨-3, am_fnd u 5, am_mts (am_fnd u 5) 5, by rw [hE, e]; rfl, by rw [hM, if_pos k, if_neg k2, meets_eq (by omega)]; rfl, inv_find hp hI 5⟩
    · refine ⟨a2, am_fl (am_w u (2 * r + 52) 1 a2) (2 * r + 52 + 1) 0 60 32, am_mkR u (2 * r + 52) 65 66 r a2 32, by rw [hE, e]; rfl, ?_, by rw [hb]; exact inv_mkT hp hI (by omega) hn 32 (by decide)⟩
      rw [hM, if_pos k, if_pos k2, text34_eq r (by omega)]; rfl
theorem ok_text {l : Launch} {g : am_G} (a1 a2 : Int32) : am_ok l g d_X10_text d_X11_text [.int a1, .int a2] am_isI := ok_II (fun B pl hL u => s_X10_text hL a1 a2 u) (fun B pl hL u => s_X11_text hL a1 a2 u) (two_text a1 a2)
