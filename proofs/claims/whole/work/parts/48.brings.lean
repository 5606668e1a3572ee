/-! suns, what was burnt -/
theorem sun_eq {pl : Nat} {u w : am_U} (hP : i_plan pl u) {d : Nat} (hd : d < 2 ^ 31) (e9 : w 60 9 = u 60 9) (e67 : w 67 = u 67) : f_X11_shines (nI d) w = f_X5_isBright pl (nI d) u ∧ (f_X5_isBright pl (nI d) u = some 0 ∨ f_X5_isBright pl (nI d) u = some 1) := by
  obtain ⟨-, ⟨h1, s, hs, h2⟩, -, h3, -⟩ := hP
  unfold f_X11_shines f_X5_isBright
  rw [h1, e9, e67, h2]
  cases s with
  | zero => exact ⟨by rw [if_pos (show nI 0 ≤ (0 : Int32) by decide), if_pos (show nI 0 ≤ (0 : Int32) by decide)], Or.inl (by rw [if_pos (show nI 0 ≤ (0 : Int32) by decide)])⟩
  | succ s =>
    have hlt : d % (s + 1) < s + 1 := Nat.mod_lt _ (by omega)
    have h5 : u (pl + 1) (d % (s + 1)) = u 67 (d % (s + 1)) := h3 _ (by omega) (by rw [h2]; exact nI_lt hlt (by omega))
    rw [if_neg (nI_nle (by omega) (by omega)), if_neg (nI_nle (by omega) (by omega)), pk_rem hd (by omega) (by omega), nI_clamp (by omega), h5]
    refine ⟨rfl, ?_⟩
    rw [am_ck_t (by rw [Bool.not_eq_true', beq_eq_false_iff_ne]; exact nI_ne0 (by omega) (by omega)), am_ck_t (am_ix_nI (by omega) (by omega))]
    by_cases q : u 67 (d % (s + 1)) = 1
    · exact Or.inr (by rw [if_neg (fun z => z q)])
    · exact Or.inl (by rw [if_pos q])
theorem ok_sun {l : Launch} {g : am_G} (a1 : Int32) : am_ok l g d_X10_sun d_X11_sun [.int a1] am_isI :=
  ok_PP (F := fun pl u => f_X10_sun pl a1 u) (G := fun _ u => f_X11_sun a1 u) (fun B pl hL u => s_X10_sun hL a1 u) (fun B pl hL u => s_X11_sun hL a1 u) (fun pl hp u hI => by
    unfold f_X10_sun f_X11_sun
    rw [in_eq]
    rcases wi_cs a1 0 999 (by omega) (by omega) with w | ⟨d, -, hd, ha, w⟩
    · rw [show f_X10_isWithin a1 0 999 = some 0 from w]
      exact ⟨-1, rfl, rfl⟩
    · rw [show f_X10_isWithin a1 0 999 = some 1 from w, ha]
      obtain ⟨h1, h2⟩ := sun_eq (w := u) hI.2.2.2.1 (d := d) (by omega) rfl rfl
      rw [h1]
      rcases h2 with h2 | h2
      · rw [h2]; exact ⟨0, rfl, rfl⟩
      · rw [h2]; exact ⟨1, rfl, rfl⟩)
theorem fr_b {pl : Nat} (hp : pl = 30 ∨ pl = 35) {u w : am_U} (h : am_Inv pl u) (h1 : i_burn w) (e : ∀ a b, ¬ (a = 21) → ¬ (a = 22) → ¬ (a = 23) → ¬ (a = 86) → ¬ (a = 87) → ¬ (a = 60 ∧ b = 40) → w a b = u a b) : am_Inv pl w := by
  obtain ⟨g1, g2, g3, g4, g5, g6, g7, g8⟩ := h
  have e2 : ∀ a b, c_vs a b → w a b = u a b := fun a b q => by unfold c_vs at q; exact e a b (by omega) (by omega) (by omega) (by omega) (by omega) (by omega)
  refine ⟨fr_msg g1 fun a b q => ?_, fr_rows g2 fun a b q => ?_, fr_txts g3 fun a b q => ?_, fr_plan hp g4 fun a b q => ?_, fr_scene g5 (fun a b q => ?_) e2, fr_deeds g6 (fun a b q => ?_) e2, fr_kept g7 (fun a b q => ?_) e2, h1⟩
  · unfold c_msg at q; exact e a b (by omega) (by omega) (by omega) (by omega) (by omega) (by omega)
  · unfold c_rows at q; exact e a b (by omega) (by omega) (by omega) (by omega) (by omega) (by omega)
  · unfold c_txts at q; exact e a b (by omega) (by omega) (by omega) (by omega) (by omega) (by omega)
  · unfold c_plan at q; exact e a b (by omega) (by omega) (by omega) (by omega) (by omega) (by omega)
  · unfold c_scene at q; exact e a b (by omega) (by omega) (by omega) (by omega) (by omega) (by omega)
  · unfold c_deeds at q; exact e a b (by omega) (by omega) (by omega) (by omega) (by omega) (by omega)
  · unfold c_kept at q; exact e a b (by omega) (by omega) (by omega) (by omega) (by omega) (by omega)
theorem two_forget (a1 : Int32) : am_two (fun _ u => f_X10_forget a1 u) (fun _ u => f_X11_forget a1 u) := by
  intro pl hp u hI
  show ∃ v u1 u2, f_X10_forget a1 u = _ ∧ f_X11_forget a1 u1 = _ ∧ _
  obtain ⟨s, hs, b1, b2, b3⟩ := hI.2.2.2.2.2.2.2
  rcases wi_cs a1 0 s (by omega) (by omega) with w | ⟨d, -, hd, ha, w⟩
  · refine ⟨-1, u, u, ?_, ?_, hI, fun _ _ => rfl⟩
    · unfold f_X10_forget; rw [b1, show f_X10_isWithin a1 0 (nI s) = some 0 from w]; rfl
    · unfold f_X11_forget; rw [b2, in_eq, show f_X10_isWithin a1 0 (nI s) = some 0 from w]; rfl
  · refine ⟨nI s - a1, am_w u 21 4 a1, am_w (am_w u 21 4 a1) 60 40 a1, ?_, ?_, fr_b hp hI ⟨d, by omega, ?_, ?_, fun b hb => ?_⟩ (fun a b q1 q2 q3 q4 q5 q6 => ?_), fun a ha => ?_⟩
    · unfold f_X10_forget; rw [b1, show f_X10_isWithin a1 0 (nI s) = some 1 from w]; rfl
    · have e : am_w u 21 4 a1 60 40 = nI s := by rw [am_w_n (by omega)]; exact b2
      unfold f_X11_forget; rw [e, in_eq, show f_X10_isWithin a1 0 (nI s) = some 1 from w]; rfl
    · rw [am_w_n (by omega), am_w_s, ha]
    · rw [am_w_s, ha]
    · rw [am_w_n (by omega), am_w_n (by omega), am_w_n (by omega), am_w_n (by omega), am_w_n (by omega), am_w_n (by omega), am_w_n (by omega), am_w_n (by omega)]; exact b3 b (by omega)
    · rw [am_w_n (by omega), am_w_n (by omega)]
    · rw [am_w_c (by omega), am_w_c (by omega)]
theorem ok_forget {l : Launch} {g : am_G} (a1 : Int32) : am_ok l g d_X10_forget d_X11_forget [.int a1] am_isI := ok_II (fun B pl hL u => s_X10_forget hL a1 u) (fun B pl hL u => s_X11_forget hL a1 u) (two_forget a1)
theorem two_burnt (a1 a2 : Int32) : am_two (fun pl u => f_X10_burnt pl a1 a2 u) (fun _ u => f_X11_burnt a1 a2 u) := by
  intro pl hp u hI
  show ∃ v u1 u2, f_X10_burnt pl a1 a2 u = _ ∧ f_X11_burnt a1 a2 u1 = _ ∧ _
  obtain ⟨s, hs, b1, b2, b3⟩ := hI.2.2.2.2.2.2.2
  obtain ⟨n, hn, e1, e2⟩ := plan_n hI.2.2.2.1
  have hw : ∀ (a lo hi : Int32), f_X10_isWithin a lo hi = some 0 ∨ f_X10_isWithin a lo hi = some 1 := fun a lo hi => by
    unfold f_X10_isWithin
    split
    · exact Or.inl rfl
    · split
      · exact Or.inl rfl
      · exact Or.inr rfl
  rcases hw a1 1 ((1 <<< (nI n &&& 31)) - 1) with w | w
  · refine ⟨-1, u, u, ?_, ?_, hI, fun _ _ => rfl⟩
    · unfold f_X10_burnt; rw [e1, w]; rfl
    · unfold f_X11_burnt; rw [e2, in_eq, w]; rfl
  · rcases hw a2 0 120 with w2 | w2
    · refine ⟨-1, u, u, ?_, ?_, hI, fun _ _ => rfl⟩
      · unfold f_X10_burnt; rw [e1, w, w2]; rfl
      · unfold f_X11_burnt; rw [e2, in_eq, w, in_eq, w2]; rfl
    · by_cases h8 : s = 8
      · refine ⟨-2, u, u, ?_, ?_, hI, fun _ _ => rfl⟩
        · unfold f_X10_burnt; rw [e1, w, w2, b1, h8]; rfl
        · unfold f_X11_burnt; rw [e2, in_eq, w, in_eq, w2, b2, h8]; rfl
      · have hne : ¬ nI s = 8 := fun q => h8 ((nI_eq (b := 8) (by omega) (by omega)).mp q)
        refine ⟨nI (s + 1) - 1, am_w (am_w (am_w u 22 s a1) 23 s a2) 21 4 (nI (s + 1)), am_w (am_w (am_w (am_w (am_w (am_w u 22 s a1) 23 s a2) 21 4 (nI (s + 1))) 86 s a1) 87 s a2) 60 40 (nI (s + 1)), ?_, ?_, fr_b hp hI ⟨s + 1, by omega, ?_, ?_, fun b hb => ?_⟩ (fun a b q1 q2 q3 q4 q5 q6 => ?_), fun a ha => ?_⟩
        · have g1 : am_w u 22 s a1 21 4 = nI s := by rw [am_w_n (by omega)]; exact b1
          have g2 : am_w (am_w u 22 s a1) 23 s a2 21 4 = nI s := by rw [am_w_n (by omega)]; exact g1
          unfold f_X10_burnt f_X0_add
          rw [e1, w, w2]
          show (if ¬ u 21 4 = 8 then (am_ck (am_ix (u 21 4) 8) (am_ck (am_ix (am_w u 22 (u 21 4).toNatClampNeg a1 21 4) 8) (some (am_w (am_w (am_w u 22 (u 21 4).toNatClampNeg a1) 23 (am_w u 22 (u 21 4).toNatClampNeg a1 21 4).toNatClampNeg a2) 21 4 (am_w (am_w u 22 (u 21 4).toNatClampNeg a1) 23 (am_w u 22 (u 21 4).toNatClampNeg a1 21 4).toNatClampNeg a2 21 4 + 1) 21 4 - 1, am_w (am_w (am_w u 22 (u 21 4).toNatClampNeg a1) 23 (am_w u 22 (u 21 4).toNatClampNeg a1 21 4).toNatClampNeg a2) 21 4 (am_w (am_w u 22 (u 21 4).toNatClampNeg a1) 23 (am_w u 22 (u 21 4).toNatClampNeg a1 21 4).toNatClampNeg a2 21 4 + 1))))).bind _ else _) = _
          rw [b1, if_pos hne, nI_clamp (by omega), g1, nI_clamp (by omega), g2, am_ck_t (am_ix_nI (by omega) (by omega)), am_ck_t (am_ix_nI (by omega) (by omega)), am_w_s, nI_1]; rfl
        · generalize hu1 : am_w (am_w (am_w u 22 s a1) 23 s a2) 21 4 (nI (s + 1)) = u1
          have g0 : u1 60 40 = nI s := by rw [← hu1, am_w_n (by omega), am_w_n (by omega), am_w_n (by omega)]; exact b2
          have g00 : u1 60 12 = nI n := by rw [← hu1, am_w_n (by omega), am_w_n (by omega), am_w_n (by omega)]; exact e2
          have g1 : am_w u1 86 s a1 60 40 = nI s := by rw [am_w_n (by omega)]; exact g0
          have g2 : am_w (am_w u1 86 s a1) 87 s a2 60 40 = nI s := by rw [am_w_n (by omega)]; exact g1
          unfold f_X11_burnt
          rw [g00, in_eq, w, in_eq, w2]
          show (if ¬ u1 60 40 = 8 then (am_ck (am_ix (u1 60 40) 8) (am_ck (am_ix (am_w u1 86 (u1 60 40).toNatClampNeg a1 60 40) 8) (some (am_w (am_w (am_w u1 86 (u1 60 40).toNatClampNeg a1) 87 (am_w u1 86 (u1 60 40).toNatClampNeg a1 60 40).toNatClampNeg a2) 60 40 (am_w (am_w u1 86 (u1 60 40).toNatClampNeg a1) 87 (am_w u1 86 (u1 60 40).toNatClampNeg a1 60 40).toNatClampNeg a2 60 40 + 1) 60 40 - 1, am_w (am_w (am_w u1 86 (u1 60 40).toNatClampNeg a1) 87 (am_w u1 86 (u1 60 40).toNatClampNeg a1 60 40).toNatClampNeg a2) 60 40 (am_w (am_w u1 86 (u1 60 40).toNatClampNeg a1) 87 (am_w u1 86 (u1 60 40).toNatClampNeg a1 60 40).toNatClampNeg a2 60 40 + 1))))) else _) = _
          rw [g0, if_pos hne, nI_clamp (by omega), g1, nI_clamp (by omega), g2, am_ck_t (am_ix_nI (by omega) (by omega)), am_ck_t (am_ix_nI (by omega) (by omega)), am_w_s, nI_1]
        · rw [am_w_n (by omega), am_w_n (by omega), am_w_n (by omega), am_w_s]
        · rw [am_w_s]
        · simp only [am_w_ap]
          by_cases hb2 : b = s
          · subst hb2; simp
          · have := b3 b (by omega)
            simp [hb2, this]
        · rw [am_w_n (by omega), am_w_n (by omega), am_w_n (by omega), am_w_n (by omega), am_w_n (by omega), am_w_n (by omega)]
        · rw [am_w_c (by omega), am_w_c (by omega), am_w_c (by omega), am_w_c (by omega), am_w_c (by omega), am_w_c (by omega)]
theorem ok_burnt {l : Launch} {g : am_G} (a1 a2 : Int32) : am_ok l g d_X10_burnt d_X11_burnt [.int a1, .int a2] am_isI := ok_II (fun B pl hL u => s_X10_burnt hL a1 a2 u) (fun B pl hL u => s_X11_burnt hL a1 a2 u) (two_burnt a1 a2)
/-! what leaks, what an hour costs, what a jar brings -/
def m_lk (k x o : Int32) : Int32 := if k = 4 then 0 else if k = 2 ∧ o = 0 then 0 else if k = 1 then (2 * x + 9) / 10 else (x + 9) / 10
def m_co (k : Int32) : Int32 := if k = 5 then 3 else if k = 3 then 2 else 1
theorem clk_eq (k x o : Int32) : f_X2_leaked k x o = some (m_lk k x o) := by
  unfold f_X2_leaked m_lk am_jn f_X2_tenthsUp
  by_cases h4 : k = 4
  · simp [h4]
  · by_cases h2 : k = 2
    · by_cases ho : o = 0
      · simp [h2, ho]
      · simp [h2, ho]
    · by_cases h1 : k = 1
      · simp [h1]
      · simp [h4, h2, h1]
theorem mlk_eq (k x o : Int32) : f_X11_leakOf k x o = some (m_lk k x o) := by
  unfold f_X11_leakOf m_lk f_X11_tenth
  by_cases h4 : k = 4
  · simp [h4]
  · by_cases h2 : k = 2
    · by_cases ho : o = 0
      · simp [h2, ho]
      · simp [h2, ho]
    · by_cases h1 : k = 1
      · simp [h1]
      · simp [h4, h2, h1]
theorem cco_eq (k : Int32) : f_X2_anHour k = some (m_co k) := by
  unfold f_X2_anHour m_co
  by_cases h5 : k = 5
  · simp [h5]
  · by_cases h3 : k = 3
    · simp [h3]
    · simp [h5, h3]
theorem mco_eq (k : Int32) : f_X11_costOf k = some (m_co k) := by
  unfold f_X11_costOf m_co
  by_cases h5 : k = 5
  · simp [h5]
  · by_cases h3 : k = 3
    · simp [h3]
    · simp [h5, h3]
theorem mco_ne (k : Int32) : (!(m_co k == 0)) = true := by
  unfold m_co
  split
  · rfl
  · split <;> rfl
def m_br (k : Int32) : Nat → Int32 → Int32
  | 0, v => v
  | m + 1, v => m_br k m (v - m_lk k v 0)
theorem cbr_lp {pl k p : Nat} {u : am_U} (hk : k < 6) (hp : p < 5) : ∀ (f i : Nat) (v : Int32), i ≤ p → p < i + f → f_X5_lightBrought_10 u pl (nI k) (nI p) f v (nI i) = some (m_br (u (pl + 3) k) (p - i) v) := by
  intro f
  induction f with
  | zero => intro i v h1 h2; omega
  | succ f ih =>
    intro i v h1 h2
    rw [f_X5_lightBrought_10]
    rcases Nat.lt_or_ge i p with q | q
    · rw [if_neg (nI_ge q (by omega)), am_ck_t (am_ix_nI hk (by omega)), nI_clamp (by omega), clk_eq, nI_1, show p - i = (p - (i + 1)) + 1 by omega, m_br]
      exact ih (i + 1) _ (by omega) (by omega)
    · have : i = p := by omega
      subst this
      rw [if_pos (nI_le (Nat.le_refl i) (by omega)), Nat.sub_self]; rfl
theorem mbr_lp {k p : Nat} {u : am_U} (hk : k < 6) (hp : p < 5) : ∀ (f i : Nat) (v : Int32), i ≤ p → p < i + f → f_X11_broughtTo_10 u (nI k) (nI p) f v (nI i) = some (m_br (u 69 k) (p - i) v) := by
  intro f
  induction f with
  | zero => intro i v h1 h2; omega
  | succ f ih =>
    intro i v h1 h2
    rw [f_X11_broughtTo_10]
    rcases Nat.lt_or_ge i p with q | q
    · rw [if_neg (nI_ge q (by omega)), am_ck_t (am_ix_nI hk (by omega)), nI_clamp (by omega), mlk_eq, nI_1, show p - i = (p - (i + 1)) + 1 by omega, m_br]
      exact ih (i + 1) _ (by omega) (by omega)
    · have : i = p := by omega
      subst this
      rw [if_pos (nI_le (Nat.le_refl i) (by omega)), Nat.sub_self]; rfl
def m_lb (K F : Nat → Int32) (k p : Nat) : Int32 := m_br (K k) p (F k)
def m_hb (K F : Nat → Int32) (k p : Nat) : Int32 := m_lb K F k p / m_co (K k)
theorem clb_eq {pl k p n : Nat} {u : am_U} (hP : i_plan pl u) (e : u 60 12 = nI n) (hn : n ≤ 6) (hk : k < n) (hp : p < 5) : f_X5_lightBrought pl (nI k) (nI p) u = some (m_lb (u 69) (u 70) k p) := by
  obtain ⟨p1, -, p2, -⟩ := plan_k hP e hn hk
  unfold f_X5_lightBrought
  rw [am_ck_t (am_ix_nI (by omega) (by omega)), nI_clamp (by omega), p2]
  have := cbr_lp (pl := pl) (u := u) (k := k) (p := p) (by omega) hp 20000 0 (u 70 k) (by omega) (by omega)
  rw [p1] at this
  exact this
theorem mlb_eq {k p : Nat} {u : am_U} (hk : k < 6) (hp : p < 5) : f_X11_broughtTo (nI k) (nI p) u = some (m_lb (u 69) (u 70) k p) := by
  unfold f_X11_broughtTo
  rw [am_ck_t (am_ix_nI (by omega) (by omega)), nI_clamp (by omega)]
  exact mbr_lp (u := u) (k := k) (p := p) (by omega) hp 20000 0 (u 70 k) (by omega) (by omega)
theorem chb_eq {pl k p n : Nat} {u : am_U} (hP : i_plan pl u) (e : u 60 12 = nI n) (hn : n ≤ 6) (hk : k < n) (hp : p < 5) : f_X5_hoursBrought pl (nI k) (nI p) u = some (m_hb (u 69) (u 70) k p) := by
  obtain ⟨p1, -, p2, -⟩ := plan_k hP e hn hk
  unfold f_X5_hoursBrought f_X2_hours
  rw [am_ck_t (am_ix_nI (by omega) (by omega)), nI_clamp (by omega), p1, clb_eq hP e hn hk hp, cco_eq]
  show ((am_ck (!(m_co (u 69 k) == 0)) (some (m_lb (u 69) (u 70) k p / m_co (u 69 k)))).bind fun q3 => some q3) = _
  rw [am_ck_t (mco_ne _)]; rfl
theorem mhb_eq {k p : Nat} {u : am_U} (hk : k < 6) (hp : p < 5) : f_X11_hoursAt (nI k) (nI p) u = some (m_hb (u 69) (u 70) k p) := by
  unfold f_X11_hoursAt
  rw [mlb_eq hk hp, nI_clamp (by omega), mco_eq]
  show am_ck (am_ix (nI k) 6) (am_ck (!(m_co (u 69 k) == 0)) (some (m_lb (u 69) (u 70) k p / m_co (u 69 k)))) = _
  rw [am_ck_t (am_ix_nI (by omega) (by omega)), am_ck_t (mco_ne _)]; rfl
theorem two_brings (a1 a2 : Int32) : am_two (fun pl u => f_X10_brings pl a1 a2 u) (fun _ u => f_X11_brings a1 a2 u) := by
  intro pl hp u hI
  show ∃ v u1 u2, f_X10_brings pl a1 a2 u = _ ∧ f_X11_brings a1 a2 u1 = _ ∧ _
  obtain ⟨n, hn, e1, e2⟩ := plan_n hI.2.2.2.1
  rcases win_cs a1 (n := n) (by omega) with w | ⟨k, hk, ha, w⟩
  · refine ⟨-1, u, u, ?_, ?_, hI, fun _ _ => rfl⟩
    · unfold f_X10_brings; rw [cjar_eq a1 e1, w]; rfl
    · unfold f_X11_brings; rw [mjar_eq a1 e2, w]; rfl
  · rcases wi_cs a2 0 4 (by omega) (by omega) with w2 | ⟨j, -, hj, hb, w2⟩
    · refine ⟨-1, u, u, ?_, ?_, hI, fun _ _ => rfl⟩
      · unfold f_X10_brings; rw [cjar_eq a1 e1, w, cplace_eq, show f_X10_isWithin a2 0 4 = some 0 from w2]; rfl
      · unfold f_X11_brings; rw [mjar_eq a1 e2, w, mplace_eq, show f_X10_isWithin a2 0 4 = some 0 from w2]; rfl
    · obtain ⟨x, hx⟩ : ∃ x, m_hb (u 69) (u 70) k j = x := ⟨_, rfl⟩
      refine ⟨m_lb (u 69) (u 70) k j, am_w u 4 13 x, am_w (am_w u 4 13 x) 60 2 x, ?_, ?_, inv_tell hp hI x⟩
      · unfold f_X10_brings; rw [cjar_eq a1 e1, w, cplace_eq, show f_X10_isWithin a2 0 4 = some 1 from w2, ha, hb, clb_eq hI.2.2.2.1 e2 hn hk (by omega), chb_eq hI.2.2.2.1 e2 hn hk (by omega), hx]; rfl
      · unfold f_X11_brings; rw [mjar_eq (n := n) a1 (by rw [am_w_c (by omega)]; exact e2), w, mplace_eq, show f_X10_isWithin a2 0 4 = some 1 from w2, ha, hb, mlb_eq (by omega) (by omega), mhb_eq (by omega) (by omega), am_w_c (by omega), am_w_c (by omega), hx]; rfl
theorem ok_brings {l : Launch} {g : am_G} (a1 a2 : Int32) : am_ok l g d_X10_brings d_X11_brings [.int a1, .int a2] am_isI := ok_II (fun B pl hL u => s_X10_brings hL a1 a2 u) (fun B pl hL u => s_X11_brings hL a1 a2 u) (two_brings a1 a2)
