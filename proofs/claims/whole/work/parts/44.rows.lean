/-! findings, what is told, rows -/
def am_fnd (u : am_U) (f : Nat) : am_U := am_w (am_w u 4 14 (nI f)) 29 f (u 29 f + 1)
def am_mts (u : am_U) (f : Nat) : am_U := am_w (am_w u 60 0 (nI f)) 61 f (u 61 f + 1)
theorem find_eq {f : Nat} (hf : f < 6) (u : am_U) : f_X10_find (nI f) u = some (-3, am_fnd u f) := by
  unfold f_X10_find
  rw [am_ix_nI hf (by omega), nI_clamp (by omega)]
  show some ((-3 : Int32), am_w (am_w u 4 14 (nI f)) 29 f (am_w u 4 14 (nI f) 29 f + 1)) = _
  rw [am_w_n (by omega)]
  rfl
theorem meets_eq {f : Nat} (hf : f < 6) (u : am_U) : f_X11_meets (nI f) u = some (-3, am_mts u f) := by
  unfold f_X11_meets
  rw [am_ix_nI hf (by omega), nI_clamp (by omega)]
  show some ((-3 : Int32), am_w (am_w u 60 0 (nI f)) 61 f (am_w u 60 0 (nI f) 61 f + 1)) = _
  rw [am_w_n (by omega)]
  rfl
def c_rest (a b : Nat) : Prop := c_plan a b ∨ c_vs a b ∨ c_scene a ∨ c_deeds a b ∨ c_kept a ∨ c_burn a b
theorem fr_mrt {pl : Nat} (hp : pl = 30 ∨ pl = 35) {u w : am_U} (h : am_Inv pl u) (h1 : i_msg w) (h2 : i_rows w) (h3 : i_txts w) (e : ∀ a b, c_rest a b → w a b = u a b) : am_Inv pl w := by
  unfold c_rest at e
  obtain ⟨-, -, -, h4, h5, h6, h7, h8⟩ := h
  have e2 : ∀ a b, c_vs a b → w a b = u a b := fun a b q => e a b (by simp [q])
  exact ⟨h1, h2, h3, fr_plan hp h4 (fun a b q => e a b (by simp [q])), fr_scene h5 (fun a b q => e a b (by simp [q])) e2, fr_deeds h6 (fun a b q => e a b (by simp [q])) e2, fr_kept h7 (fun a b q => e a b (by simp [q])) e2, fr_burn h8 (fun a b q => e a b (by simp [q]))⟩
theorem c_rest_of {a b : Nat} (h : c_rest a b) : (30 ≤ a ∧ a < 40) ∨ (a = 60 ∧ (b = 8 ∨ b = 9 ∨ b = 12 ∨ b = 26 ∨ b = 40)) ∨ (67 ≤ a ∧ a ≤ 70) ∨ (8 ≤ a ∧ a ≤ 13) ∨ a = 75 ∨ (a = 14 ∧ (b = 2 ∨ b = 3)) ∨ (16 ≤ a ∧ a ≤ 23 ∧ a ≠ 18) ∨ (76 ≤ a ∧ a ≤ 78) ∨ a = 86 ∨ a = 87 := by
  unfold c_rest c_plan c_vs c_scene c_deeds c_kept c_burn at h
  omega
/-- only what is told, found -/
theorem fr_m {pl : Nat} (hp : pl = 30 ∨ pl = 35) {u w : am_U} (h : am_Inv pl u) (h1 : i_msg w) (e : ∀ a b, ¬ (a = 4) → ¬ (a = 29) → ¬ (a = 61) → ¬ (a = 60 ∧ (b = 0 ∨ b = 2)) → a < 91 → w a b = u a b) : am_Inv pl w := by
  refine fr_mrt hp h h1 (fr_rows h.2.1 fun a b q => ?_) (fr_txts h.2.2.1 fun a b q => ?_) fun a b q => ?_
  · unfold c_rows at q
    exact e a b (by omega) (by omega) (by omega) (by omega) (by omega)
  · unfold c_txts at q
    exact e a b (by omega) (by omega) (by omega) (by omega) (by omega)
  · have q := c_rest_of q
    exact e a b (by omega) (by omega) (by omega) (by omega) (by omega)
theorem inv_find {pl : Nat} (hp : pl = 30 ∨ pl = 35) {u : am_U} (h : am_Inv pl u) (f : Nat) : am_Inv pl (am_mts (am_fnd u f) f) ∧ ∀ a, 91 ≤ a → am_mts (am_fnd u f) f a = u a := by
  unfold am_mts am_fnd
  refine ⟨fr_m hp h ?_ (fun a b q1 q2 q3 q4 _ => ?_), fun a ha => ?_⟩
  · obtain ⟨h1, h2, h3, h4⟩ := h.1
    refine ⟨?_, ?_, fun i hi => ?_, fun k => by simp only [am_w_ap]; simpa using h4 k⟩
    · simp only [am_w_ap]; simpa using h1
    · simp only [am_w_ap]; simp
    · simp only [am_w_ap]
      by_cases hq : i = f
      · subst hq; simp [h3 i hi]
      · simp [hq, h3 i hi]
  · rw [am_w_n (by omega), am_w_n (by omega), am_w_n (by omega), am_w_n (by omega)]
  · rw [am_w_c (by omega), am_w_c (by omega), am_w_c (by omega), am_w_c (by omega)]
theorem inv_tell {pl : Nat} (hp : pl = 30 ∨ pl = 35) {u : am_U} (h : am_Inv pl u) (x : Int32) : am_Inv pl (am_w (am_w u 4 13 x) 60 2 x) ∧ ∀ a, 91 ≤ a → am_w (am_w u 4 13 x) 60 2 x a = u a := by
  refine ⟨fr_m hp h ?_ (fun a b q1 q2 q3 q4 _ => ?_), fun a ha => ?_⟩
  · obtain ⟨h1, h2, h3, h4⟩ := h.1
    refine ⟨?_, ?_, fun i hi => ?_, fun k => by simp only [am_w_ap]; simpa using h4 k⟩
    · simp only [am_w_ap]; simp
    · simp only [am_w_ap]; simpa using h2
    · simp only [am_w_ap]; simpa using h3 i hi
  · rw [am_w_n (by omega), am_w_n (by omega)]
  · rw [am_w_c (by omega), am_w_c (by omega)]
/-! a row (c = 5, t = 40, N = 6) or a text (c = 6, t = 52, N = 4) is there, or not -/
theorem neg1_lt : (-1 : Int32) < 0 := by decide
theorem refuse_cs {pl : Nat} (c N t s q : Nat) (hc : (c = 5 ∧ N = 6 ∧ t = 40) ∨ (c = 6 ∧ N = 4 ∧ t = 52)) (a : Int32) (u : am_U) (hr : ∀ r, r < N → i_row u (2 * r + t) s q r) :
    (f_X10_isWithin a 0 (nI (N - 1)) = some 0 ∧ f_X10_refuseRow c a u = some (-1, u)) ∨
    ∃ r, r < N ∧ a = nI r ∧ f_X10_isWithin a 0 (nI (N - 1)) = some 1 ∧ am_ix a N = true ∧ a.toNatClampNeg = r ∧ i_row u (2 * r + t) s q r ∧ am_rid c r = 2 * r + t ∧
      ((u s r = -1 ∧ ¬ 0 ≤ u s r ∧ f_X10_refuseRow c a u = some (-3, am_fnd u 1)) ∨ (∃ n, n ≤ 60 ∧ u s r = nI n ∧ 0 ≤ u s r ∧ f_X10_refuseRow c a u = some (0, u))) := by
  have hln : am_rln c = N := by
    unfold am_rln
    rcases hc with ⟨rfl, rfl, rfl⟩ | ⟨rfl, rfl, rfl⟩ <;> rfl
  have hsub : nI N - 1 = nI (N - 1) := by rcases hc with ⟨rfl, rfl, rfl⟩ | ⟨rfl, rfl, rfl⟩ <;> rfl
  have hid : ∀ r, am_rid c r = 2 * r + t := fun r => by
    unfold am_rid
    rcases hc with ⟨rfl, rfl, rfl⟩ | ⟨rfl, rfl, rfl⟩ <;> rfl
  rcases wi_cs a 0 (N - 1) (by omega) (by omega) with h | ⟨r, -, h2, rfl, h⟩
  · refine Or.inl ⟨h, ?_⟩
    unfold f_X10_refuseRow
    rw [hln, hsub, show f_X10_isWithin a 0 (nI (N - 1)) = some 0 from h]
    rfl
  · have hrN : r < N := by omega
    have hix : am_ix (nI r) N = true := am_ix_nI hrN (by omega)
    have hcl : (nI r).toNatClampNeg = r := nI_clamp (by omega)
    refine Or.inr ⟨r, hrN, rfl, h, hix, hcl, hr r hrN, hid r, ?_⟩
    obtain ⟨k1, k2, k3⟩ := hr r hrN
    have hE : f_X10_refuseRow c (nI r) u = (f_X8_isThere (2 * r + t) u).bind (fun q3 => if q3 = 0 then (f_X10_find 1 u).bind (fun q4 => some (q4.1, q4.2)) else some (0, u)) := by
      unfold f_X10_refuseRow
      rw [hln, hsub, show f_X10_isWithin (nI r) 0 (nI (N - 1)) = some 1 from h, hix, hcl, hid]
      rfl
    rcases k2 with k2 | ⟨n, hn, k2⟩
    · refine Or.inl ⟨k2, by rw [k2]; decide, ?_⟩
      rw [hE]
      unfold f_X8_isThere
      rw [k1, k2, if_pos rfl]
      show (f_X10_find (nI 1) u).bind _ = _
      rw [find_eq (by omega)]
      rfl
    · refine Or.inr ⟨n, hn, k2, by rw [k2]; exact nI_pos' (by omega), ?_⟩
      rw [hE]
      unfold f_X8_isThere
      rw [k1, k2, if_neg (fun q => by
        have h1 : ¬ nI n < 0 := nI_pos (by omega)
        rw [q] at h1
        exact h1 neg1_lt)]
      rfl
theorem isRow_eq (a : Int32) : f_X11_isRow a = f_X10_isWithin a 0 5 := by
  unfold f_X11_isRow
  rw [in_eq]
  unfold f_X10_isWithin
  split
  · rfl
  · split <;> rfl
theorem isText_eq (a : Int32) : f_X11_isText a = f_X10_isWithin a 0 3 := by
  unfold f_X11_isText
  rw [in_eq]
  unfold f_X10_isWithin
  split
  · rfl
  · split <;> rfl
theorem two_tear (a1 : Int32) : am_two (fun _ u => f_X10_tear a1 u) (fun _ u => f_X11_tear a1 u) := by
  intro pl hp u hI
  show ∃ v u1 u2, f_X10_tear a1 u = _ ∧ f_X11_tear a1 u1 = _ ∧ _
  rcases refuse_cs (pl := pl) 5 6 40 62 63 (Or.inl ⟨rfl, rfl, rfl⟩) a1 u hI.2.1 with ⟨w, e⟩ | ⟨r, hr, ha, w, hix, hcl, hrow, hid, ⟨k1, k2, e⟩ | ⟨n, hn, k1, k2, e⟩⟩
  · refine ⟨-1, u, u, ?_, ?_, hI, fun _ _ => rfl⟩
    · unfold f_X10_tear; rw [e]; rfl
    · unfold f_X11_tear; rw [isRow_eq, show f_X10_isWithin a1 0 5 = some 0 from w]; rfl
  · refine ⟨-3, am_fnd u 1, am_mts (am_fnd u 1) 1, ?_, ?_, inv_find hp hI 1⟩
    · unfold f_X10_tear; rw [e]; rfl
    · have e62 : am_fnd u 1 62 r = u 62 r := by unfold am_fnd; rw [am_w_n (by omega), am_w_n (by omega)]
      unfold f_X11_tear; rw [isRow_eq, show f_X10_isWithin a1 0 5 = some 1 from w]
      show am_ck (am_ix a1 6) (if 0 ≤ am_fnd u 1 62 a1.toNatClampNeg then _ else (f_X11_meets (nI 1) (am_fnd u 1)).bind _) = _
      rw [hix, hcl, e62, if_neg k2, meets_eq (by omega)]; rfl
  · refine ⟨1, am_w u (2 * r + 40) 1 (-1), am_w (am_w u (2 * r + 40) 1 (-1)) 62 r (-1), ?_, ?_, ?_, fun a ha => ?_⟩
    · unfold f_X10_tear; rw [e]
      show am_ck (am_ix a1 6) (some ((1 : Int32), am_w u (2 * a1.toNatClampNeg + 40) 1 (-1))) = _
      rw [hix, hcl]; rfl
    · unfold f_X11_tear; rw [isRow_eq, show f_X10_isWithin a1 0 5 = some 1 from w]
      show am_ck (am_ix a1 6) (if 0 ≤ am_w u (2 * r + 40) 1 (-1) 62 a1.toNatClampNeg then some ((1 : Int32), am_w (am_w u (2 * r + 40) 1 (-1)) 62 a1.toNatClampNeg (-1)) else _) = _
      rw [hix, hcl, am_w_n (by omega), if_pos k2]; rfl
    · refine fr_mrt hp hI (fr_msg hI.1 fun a b q => ?_) (fun m hm => ?_) (fr_txts hI.2.2.1 fun a b q => ?_) fun a b q => ?_
      · unfold c_msg at q; rw [am_w_n (by omega), am_w_n (by omega)]
      · obtain ⟨m1, m2, m3⟩ := hI.2.1 m hm
        by_cases hmr : m = r
        · subst hmr
          refine ⟨?_, Or.inl ?_, fun i hi => ?_⟩
          · rw [am_w_n (by omega), am_w_s, am_w_s]
          · rw [am_w_s]
          · rw [am_w_n (by omega), am_w_n (by omega), am_w_n (by omega), am_w_n (by omega)]; exact m3 i hi
        · refine ⟨?_, ?_, fun i hi => ?_⟩
          · rw [am_w_n (by omega), am_w_n (by omega), am_w_n (by omega), am_w_n (by omega)]; exact m1
          · rw [am_w_n (by omega), am_w_n (by omega)]; exact m2
          · rw [am_w_n (by omega), am_w_n (by omega), am_w_n (by omega), am_w_n (by omega)]; exact m3 i hi
      · unfold c_txts at q; rw [am_w_n (by omega), am_w_n (by omega)]
      · have q := c_rest_of q; rw [am_w_n (by omega), am_w_n (by omega)]
    · rw [am_w_c (by omega), am_w_c (by omega)]
theorem ok_tear {l : Launch} {g : am_G} (a1 : Int32) : am_ok l g d_X10_tear d_X11_tear [.int a1] am_isI := ok_II (fun B pl hL u => s_X10_tear hL a1 u) (fun B pl hL u => s_X11_tear hL a1 u) (two_tear a1)
