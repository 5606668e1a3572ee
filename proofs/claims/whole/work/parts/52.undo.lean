/-! on, undo -/
theorem fr_sd {pl : Nat} (hp : pl = 30 ∨ pl = 35) {u w : am_U} (h : am_Inv pl u) (hs : i_scene w) (hd : i_deeds w) (e : ∀ a b, ¬ c_scene a → ¬ (a = 14) → ¬ (a = 16) → ¬ (a = 17) → ¬ (a = 76) → ¬ (a = 60 ∧ b = 26) → w a b = u a b) : am_Inv pl w := by
  obtain ⟨g1, g2, g3, g4, g5, g6, g7, g8⟩ := h
  unfold c_scene at e
  have e2 : ∀ a b, c_vs a b → w a b = u a b := fun a b q => by unfold c_vs at q; exact e a b (by omega) (by omega) (by omega) (by omega) (by omega) (by omega)
  refine ⟨fr_msg g1 fun a b q => ?_, fr_rows g2 fun a b q => ?_, fr_txts g3 fun a b q => ?_, fr_plan hp g4 fun a b q => ?_, hs, hd, fr_kept g7 (fun a b q => ?_) e2, fr_burn g8 fun a b q => ?_⟩
  · unfold c_msg at q; exact e a b (by omega) (by omega) (by omega) (by omega) (by omega) (by omega)
  · unfold c_rows at q; exact e a b (by omega) (by omega) (by omega) (by omega) (by omega) (by omega)
  · unfold c_txts at q; exact e a b (by omega) (by omega) (by omega) (by omega) (by omega) (by omega)
  · unfold c_plan at q; exact e a b (by omega) (by omega) (by omega) (by omega) (by omega) (by omega)
  · unfold c_kept at q; exact e a b (by omega) (by omega) (by omega) (by omega) (by omega) (by omega)
  · unfold c_burn at q; exact e a b (by omega) (by omega) (by omega) (by omega) (by omega) (by omega)
theorem am_pt_eq {u v : am_U} {S T : Nat → Int32} {a b : Nat} (h : ∀ i, i < 30 → S i = T i) (hb : u a b = v a b) : am_pt u S a b = am_pt v T a b := by
  unfold am_pt
  split
  · exact h _ (by omega)
  · split
    · exact h _ (by omega)
    · split
      · exact h _ (by omega)
      · split
        · exact h _ (by omega)
        · split
          · exact h _ (by omega)
          · split
            · exact h _ (by omega)
            · split
              · exact h _ (by omega)
              · exact hb
theorem am_pt_85 (u : am_U) (S : Nat → Int32) : am_pt u S 8 5 = S 28 := by unfold am_pt; simp
theorem two_on (a1 : Int32) : am_two (fun _ u => f_X10_on a1 u) (fun _ u => f_X11_on a1 u) := by
  intro pl hp u hI
  show ∃ v u1 u2, f_X10_on a1 u = _ ∧ f_X11_on a1 u1 = _ ∧ _
  rcases wi_cs a1 0 2 (by omega) (by omega) with w | ⟨k, -, hk, ha, w⟩
  · refine ⟨-1, u, u, ?_, ?_, hI, fun _ _ => rfl⟩
    · unfold f_X10_on; rw [show f_X10_isWithin a1 0 2 = some 0 from w]; rfl
    · unfold f_X11_on; rw [in_eq, show f_X10_isWithin a1 0 2 = some 0 from w]; rfl
  · have hix : am_ix a1 3 = true := by rw [ha]; exact am_ix_nI (by omega) (by omega)
    have hcl : a1.toNatClampNeg = k := by rw [ha]; exact nI_clamp (by omega)
    rcases hI.2.2.2.2.2.2.1 k (by omega) with ⟨z1, z2⟩ | ⟨z1, z2, z3, z4⟩
    · refine ⟨-3, am_fnd u 1, am_mts (am_fnd u 1) 1, ?_, ?_, inv_find hp hI 1⟩
      · unfold f_X10_on; rw [show f_X10_isWithin a1 0 2 = some 1 from w]
        show am_ck (am_ix a1 3) (if ¬ (u 20 a1.toNatClampNeg) = (-1) then _ else (f_X10_find (nI 1) u).bind (fun q5 => some (q5.1, q5.2))) = _
        rw [am_ck_t hix, hcl, z1, if_neg (fun q => q rfl), find_eq (by omega)]; rfl
      · unfold f_X11_on; rw [in_eq, show f_X10_isWithin a1 0 2 = some 1 from w]
        show am_ck (am_ix a1 3) (if ¬ (am_fnd u 1 77 a1.toNatClampNeg) = 0 then _ else (f_X11_meets (nI 1) (am_fnd u 1)).bind (fun q5 => some (q5.1, q5.2))) = _
        rw [am_ck_t hix, hcl, fnd_n (by omega), z2, if_neg (fun q => q rfl), meets_eq (by omega)]; rfl
    · have hne : ¬ u 20 k = -1 := by
        rw [z2]
        obtain ⟨d, hd, e⟩ := z4.2
        rw [show u 78 (30 * k + 28) = nI d from e]
        intro q
        have h1 : ¬ nI d < 0 := nI_pos (by omega)
        rw [q] at h1
        exact h1 neg1_lt
      obtain ⟨W, hW⟩ : ∃ W, am_w (am_pt u (fun i => u 19 (30 * k + i))) 14 3 0 = W := ⟨_, rfl⟩
      have wo : ∀ a b, ¬ (8 ≤ a ∧ a ≤ 13) → a ≠ 14 → W a b = u a b := fun a b q1 q2 => by
        rw [← hW, am_w_n (by omega), am_pt_n q1]
      have ws : ∀ a b, (8 ≤ a ∧ a ≤ 13) → W a b = am_pt u (fun i => u 78 (30 * k + i)) a b := fun a b q => by
        rw [← hW, am_w_n (by omega)]
        exact am_pt_eq (fun i hi => z3 i hi) rfl
      refine ⟨u 78 (30 * k + 28), W, am_w (am_cy W 75 0 78 (30 * k) 0 30) 60 26 0, ?_, ?_, ?_, fun a ha => ?_⟩
      · unfold f_X10_on; rw [show f_X10_isWithin a1 0 2 = some 1 from w]
        show am_ck (am_ix a1 3) (if ¬ (u 20 a1.toNatClampNeg) = (-1) then (f_X4_recall 18 90 a1 u).bind (fun q3 => (f_X1_clear q3).bind (fun q4 => some (q4 8 5, q4))) else _) = _
        rw [am_ck_t hix, hcl, if_pos hne, ha, recall_eq (by omega) (by omega) (by omega)]
        show some (am_w (am_pt u (fun i => u 19 (30 * k + i))) 14 3 0 8 5, am_w (am_pt u (fun i => u 19 (30 * k + i))) 14 3 0) = _
        rw [hW, ws 8 5 (by omega), am_pt_85]
      · unfold f_X11_on; rw [in_eq, show f_X10_isWithin a1 0 2 = some 1 from w]
        show am_ck (am_ix a1 3) (if ¬ (W 77 a1.toNatClampNeg) = 0 then f_X11_on_28 a1 (fun c6u => some (am_w c6u 60 26 0 75 28, am_w c6u 60 26 0)) 20000 (nI 0) W else _) = _
        rw [am_ck_t hix, hcl, wo 77 k (by omega) (by omega), z1, if_pos (by decide), ha, on_lp (by omega) _ 20000 0 W (by omega) (by omega), am_w_n (by omega), show am_cy W 75 0 78 (30 * k) 0 30 75 28 = W 78 (30 * k + 28) from am_cy_s (o := 0) (j := 28) (by omega), wo 78 _ (by omega) (by omega)]
      · have eo : ∀ a b, ¬ (8 ≤ a ∧ a ≤ 13) → a ≠ 14 → a ≠ 75 → ¬ (a = 60 ∧ b = 26) → am_w (am_cy W 75 0 78 (30 * k) 0 30) 60 26 0 a b = u a b := fun a b q1 q2 q3 q4 => by
          rw [am_w_n q4, am_cy_n (by omega), wo a b q1 q2]
        have ev : ∀ a b, c_vs a b → am_w (am_cy W 75 0 78 (30 * k) 0 30) 60 26 0 a b = u a b := fun a b q => by unfold c_vs at q; exact eo a b (by omega) (by omega) (by omega) (by omega)
        refine fr_sd hp hI (scene_pt (u := u) z4 ev (fun i hi => ?_) (fun a b q => ?_)) ?_ (fun a b q1 q2 q3 q4 q5 q6 => ?_)
        · rw [am_w_n (by omega), show am_cy W 75 0 78 (30 * k) 0 30 75 i = W 78 (30 * k + i) from by
            have := am_cy_s (u := W) (c := 75) (o := 0) (s := 78) (p := 30 * k) (i := 0) (n := 30) (j := i) (by omega)
            rwa [Nat.zero_add] at this, wo 78 _ (by omega) (by omega)]
        · rw [am_w_n (by omega), am_cy_n (by omega), ws a b q]
        · obtain ⟨f, s, f1, f2, f3, f4, f5, f6⟩ := hI.2.2.2.2.2.1
          refine ⟨f, 0, f1, by omega, ?_, ?_, ?_, fun j hj => absurd hj (by omega)⟩
          · rw [am_w_n (by omega), am_cy_n (by omega), ← hW, am_w_n (by omega), am_pt_n (by omega)]; exact f3
          · rw [am_w_n (by omega), am_cy_n (by omega), ← hW, am_w_s]; rfl
          · rw [am_w_s]; rfl
        · unfold c_scene at q1; exact eo a b (by omega) q2 (by omega) q6
      · funext b
        rw [am_w_n (by omega), am_cy_n (by omega), wo a b (by omega) (by omega)]
theorem ok_on {l : Launch} {g : am_G} (a1 : Int32) : am_ok l g d_X10_on d_X11_on [.int a1] am_isI := ok_II (fun B pl hL u => s_X10_on hL a1 u) (fun B pl hL u => s_X11_on hL a1 u) (two_on a1)
theorem two_undo : am_two (fun _ u => f_X10_undo u) (fun _ u => f_X11_undo u) := by
  intro pl hp u hI
  show ∃ v u1 u2, f_X10_undo u = _ ∧ f_X11_undo u1 = _ ∧ _
  obtain ⟨f, s, f1, f2, f3, f4, f5, f6⟩ := hI.2.2.2.2.2.1
  cases s with
  | zero =>
    refine ⟨-4, u, u, ?_, ?_, hI, fun _ _ => rfl⟩
    · unfold f_X10_undo; rw [f4]; rfl
    · unfold f_X11_undo; rw [f5]; rfl
  | succ s =>
    have hne : ¬ nI (s + 1) = 0 := nI_ne0 (by omega) (by omega)
    obtain ⟨x, hx⟩ : ∃ x, (f + s) % 60 = x := ⟨_, rfl⟩
    have hx60 : x < 60 := by omega
    obtain ⟨z3, z5, z4⟩ := f6 s (by omega)
    rw [hx] at z3 z5
    obtain ⟨W, hW⟩ : ∃ W, am_pt (am_w u 14 3 (nI s)) (fun i => am_w u 14 3 (nI s) 16 (30 * x + i)) = W := ⟨_, rfl⟩
    have wo : ∀ a b, ¬ (8 ≤ a ∧ a ≤ 13) → a ≠ 14 → W a b = u a b := fun a b q1 q2 => by
      rw [← hW, am_pt_n q1, am_w_n (by omega)]
    have ws : ∀ a b, (8 ≤ a ∧ a ≤ 13) → W a b = am_pt u (fun i => u 76 (31 * s + i)) a b := fun a b q => by
      rw [← hW]
      exact am_pt_eq (fun i hi => by rw [am_w_n (by omega)]; exact z3 i hi) (by rw [am_w_n (by omega)])
    refine ⟨u 76 (31 * s + 30), W, am_cy (am_w W 60 26 (nI s)) 75 0 76 (31 * s) 0 30, ?_, ?_, ?_, fun a ha => ?_⟩
    · have e2 : am_w u 14 3 (nI s) 14 2 = nI f := by rw [am_w_n (by omega)]; exact f3
      unfold f_X10_undo f_X1_takeBack
      rw [f4, if_pos hne, nI_pred]
      show ((f_X4_recall 15 1800 ((am_w u 14 3 (nI s) 14 2 + am_w u 14 3 (nI s) 14 3) - (am_w u 14 3 (nI s) 14 2 + am_w u 14 3 (nI s) 14 3) / 60 * 60) (am_w u 14 3 (nI s))).bind (fun q3 => am_ck (am_ix ((am_w u 14 3 (nI s) 14 2 + am_w u 14 3 (nI s) 14 3) - (am_w u 14 3 (nI s) 14 2 + am_w u 14 3 (nI s) 14 3) / 60 * 60) 60) (some (q3 17 ((am_w u 14 3 (nI s) 14 2 + am_w u 14 3 (nI s) 14 3) - (am_w u 14 3 (nI s) 14 2 + am_w u 14 3 (nI s) 14 3) / 60 * 60).toNatClampNeg, q3)))).bind _ = _
      rw [am_w_s, e2, nI_add, show (60 : Int32) = nI 60 from rfl, pk_rem (by omega) (by omega) (by omega), hx, recall_eq (by omega) (by omega) (by omega)]
      show (am_ck (am_ix (nI x) 60) (some (am_pt (am_w u 14 3 (nI s)) (fun i => am_w u 14 3 (nI s) 16 (30 * x + i)) 17 (nI x).toNatClampNeg, am_pt (am_w u 14 3 (nI s)) (fun i => am_w u 14 3 (nI s) 16 (30 * x + i))))).bind _ = _
      rw [am_ck_t (am_ix_nI hx60 (by omega)), nI_clamp (by omega), hW, wo 17 x (by omega) (by omega), z5]; rfl
    · have e1 : W 60 26 = nI (s + 1) := by rw [wo 60 26 (by omega) (by omega)]; exact f5
      unfold f_X11_undo
      rw [e1, if_pos hne, nI_pred]
      show f_X11_undo_30 (31 * (am_w W 60 26 (nI s) 60 26)) (fun c5u => am_ck (am_ix ((31 * (am_w W 60 26 (nI s) 60 26)) + 30) 1860) (some (c5u 76 ((31 * (am_w W 60 26 (nI s) 60 26)) + 30).toNatClampNeg, c5u))) 20000 (nI 0) (am_w W 60 26 (nI s)) = _
      rw [am_w_s, show (31 : Int32) * nI s = nI (31 * s) from nI_mul 31 s, show nI (31 * s) + 30 = nI (31 * s + 30) from nI_add _ 30, undo_lp (by omega) _ 20000 0 _ (by omega) (by omega), am_ck_t (am_ix_nI (by omega) (by omega)), nI_clamp (by omega), am_cy_n (by omega), am_w_n (by omega), wo 76 _ (by omega) (by omega)]
    · have eo : ∀ a b, ¬ (8 ≤ a ∧ a ≤ 13) → a ≠ 14 → a ≠ 75 → ¬ (a = 60 ∧ b = 26) → am_cy (am_w W 60 26 (nI s)) 75 0 76 (31 * s) 0 30 a b = u a b := fun a b q1 q2 q3 q4 => by
        rw [am_cy_n (by omega), am_w_n q4, wo a b q1 q2]
      have ev : ∀ a b, c_vs a b → am_cy (am_w W 60 26 (nI s)) 75 0 76 (31 * s) 0 30 a b = u a b := fun a b q => by unfold c_vs at q; exact eo a b (by omega) (by omega) (by omega) (by omega)
      refine fr_sd hp hI (scene_pt (u := u) z4 ev (fun i hi => ?_) (fun a b q => ?_)) ?_ (fun a b q1 q2 q3 q4 q5 q6 => ?_)
      · have := am_cy_s (u := am_w W 60 26 (nI s)) (c := 75) (o := 0) (s := 76) (p := 31 * s) (i := 0) (n := 30) (j := i) (by omega)
        rw [Nat.zero_add] at this
        rw [this, am_w_n (by omega), wo 76 _ (by omega) (by omega)]
      · rw [am_cy_n (by omega), am_w_n (by omega), ws a b q]
      · refine ⟨f, s, f1, by omega, ?_, ?_, ?_, fun j hj => ?_⟩
        · rw [am_cy_n (by omega), am_w_n (by omega), ← hW, am_pt_n (by omega), am_w_n (by omega)]; exact f3
        · rw [am_cy_n (by omega), am_w_n (by omega), ← hW, am_pt_n (by omega), am_w_s]
        · rw [am_cy_n (by omega), am_w_s]
        · obtain ⟨y1, y2, y3⟩ := f6 j (by omega)
          refine ⟨fun i hi => ?_, ?_, fr_vs y3 ev (fun i hi => eo 76 _ (by omega) (by omega) (by omega) (by omega))⟩
          · rw [eo 16 _ (by omega) (by omega) (by omega) (by omega), eo 76 _ (by omega) (by omega) (by omega) (by omega)]; exact y1 i hi
          · rw [eo 17 _ (by omega) (by omega) (by omega) (by omega), eo 76 _ (by omega) (by omega) (by omega) (by omega)]; exact y2
      · unfold c_scene at q1; exact eo a b (by omega) q2 (by omega) q6
    · funext b
      rw [am_cy_n (by omega), am_w_n (by omega), wo a b (by omega) (by omega)]
theorem ok_undo {l : Launch} {g : am_G} : am_ok l g d_X10_undo d_X11_undo [] am_isI := ok_II (fun B pl hL u => s_X10_undo hL u) (fun B pl hL u => s_X11_undo hL u) two_undo
