/-! a scene is taken back -/
def am_pt (u : am_U) (S : Nat → Int32) : am_U := fun a b => if a = 9 ∧ b < 6 then S b else if a = 10 ∧ b < 6 then S (6 + b) else if a = 11 ∧ b < 6 then S (12 + b) else if a = 12 ∧ b < 5 then S (18 + b) else if a = 13 ∧ b < 5 then S (23 + b) else if a = 8 ∧ b = 5 then S 28 else if a = 8 ∧ b = 6 then S 29 else u a b
theorem am_pt_n {u : am_U} {S : Nat → Int32} {a b : Nat} (h : ¬ (8 ≤ a ∧ a ≤ 13)) : am_pt u S a b = u a b := by
  unfold am_pt
  rw [if_neg (by omega), if_neg (by omega), if_neg (by omega), if_neg (by omega), if_neg (by omega), if_neg (by omega), if_neg (by omega)]
theorem recall_eq {t N s : Nat} (ht : 13 < t) (hs : 30 * s + 30 ≤ N) (hN : N < 2 ^ 30) (u : am_U) : f_X4_recall t N (nI s) u = some (am_pt u (fun i => u (t + 1) (30 * s + i))) := by
  have e0 : nI s * 30 = nI (30 * s) := by
    show nI s * nI 30 = _
    rw [nI_mul, Nat.mul_comm]
  have hsl : f_X4_isSlot t N (nI (30 * s)) u = some 1 := by
    unfold f_X4_isSlot
    rw [if_neg (nI_pos (by omega)), show nI (30 * s) + 30 = nI (30 * s + 30) from nI_add _ 30, if_neg (nI_nlt (by omega) (by omega))]
  unfold f_X4_recall
  rw [e0, hsl]
  have k6 : (6 : Int32).toNatClampNeg = 6 := rfl
  have k5 : (5 : Int32).toNatClampNeg = 5 := rfl
  have k0 : (0 : Int32).toNatClampNeg = 0 := rfl
  have c0 : (nI (30 * s) + 0).toNatClampNeg = 30 * s := by rw [show nI (30 * s) + 0 = nI (30 * s + 0) from nI_add _ 0, nI_clamp (by omega)]; rfl
  have c6 : (nI (30 * s) + 6).toNatClampNeg = 30 * s + 6 := by rw [show nI (30 * s) + 6 = nI (30 * s + 6) from nI_add _ 6, nI_clamp (by omega)]
  have c12 : (nI (30 * s) + 12).toNatClampNeg = 30 * s + 12 := by rw [show nI (30 * s) + 12 = nI (30 * s + 12) from nI_add _ 12, nI_clamp (by omega)]
  have c18 : (nI (30 * s) + 18).toNatClampNeg = 30 * s + 18 := by rw [show nI (30 * s) + 18 = nI (30 * s + 18) from nI_add _ 18, nI_clamp (by omega)]
  have c23 : (nI (30 * s) + 23).toNatClampNeg = 30 * s + 23 := by rw [show nI (30 * s) + 23 = nI (30 * s + 23) from nI_add _ 23, nI_clamp (by omega)]
  have c28 : (nI (30 * s) + 28).toNatClampNeg = 30 * s + 28 := by rw [show nI (30 * s) + 28 = nI (30 * s + 28) from nI_add _ 28, nI_clamp (by omega)]
  have c29 : (nI (30 * s) + 29).toNatClampNeg = 30 * s + 29 := by rw [show nI (30 * s) + 29 = nI (30 * s + 29) from nI_add _ 29, nI_clamp (by omega)]
  have g0 : am_cp (nI (30 * s) + 0) 0 6 N 6 = true := by rw [show nI (30 * s) + 0 = nI (30 * s + 0) from nI_add _ 0]; exact cp_ok (b := 0) (n := 6) (by omega) (by omega) (by omega) (by omega)
  have g6 : am_cp (nI (30 * s) + 6) 0 6 N 6 = true := by rw [show nI (30 * s) + 6 = nI (30 * s + 6) from nI_add _ 6]; exact cp_ok (b := 0) (n := 6) (by omega) (by omega) (by omega) (by omega)
  have g12 : am_cp (nI (30 * s) + 12) 0 6 N 6 = true := by rw [show nI (30 * s) + 12 = nI (30 * s + 12) from nI_add _ 12]; exact cp_ok (b := 0) (n := 6) (by omega) (by omega) (by omega) (by omega)
  have g18 : am_cp (nI (30 * s) + 18) 0 5 N 5 = true := by rw [show nI (30 * s) + 18 = nI (30 * s + 18) from nI_add _ 18]; exact cp_ok (b := 0) (n := 5) (by omega) (by omega) (by omega) (by omega)
  have g23 : am_cp (nI (30 * s) + 23) 0 5 N 5 = true := by rw [show nI (30 * s) + 23 = nI (30 * s + 23) from nI_add _ 23]; exact cp_ok (b := 0) (n := 5) (by omega) (by omega) (by omega) (by omega)
  have g28 : am_ix (nI (30 * s) + 28) N = true := by rw [show nI (30 * s) + 28 = nI (30 * s + 28) from nI_add _ 28]; exact am_ix_nI (by omega) (by omega)
  have g29 : am_ix (nI (30 * s) + 29) N = true := by rw [show nI (30 * s) + 29 = nI (30 * s + 29) from nI_add _ 29]; exact am_ix_nI (by omega) (by omega)
  rw [g0, g6, g12, g18, g23, g28, g29, c0, c6, c12, c18, c23, c28, c29, k0, k5, k6]
  show some _ = some _
  congr 1
  funext a b
  unfold am_pt
  simp only [am_w_ap, rw_cpy]
  have n8 : ¬ (t + 1 = 8) := by omega
  have n9 : ¬ (t + 1 = 9) := by omega
  have n10 : ¬ (t + 1 = 10) := by omega
  have n11 : ¬ (t + 1 = 11) := by omega
  have n12 : ¬ (t + 1 = 12) := by omega
  have n13 : ¬ (t + 1 = 13) := by omega
  simp only [n8, n9, n10, n11, n12, n13, false_and, if_false]
  by_cases q1 : a = 8
  · subst q1
    by_cases q2 : b = 6
    · subst q2; simp
    · by_cases q3 : b = 5
      · subst q3; simp
      · simp [q2, q3]
  · by_cases q9 : a = 9
    · subst q9; by_cases q : b < 6 <;> simp [q]
    · by_cases q10 : a = 10
      · subst q10; by_cases q : b < 6 <;> simp [q, Nat.add_assoc]
      · by_cases q11 : a = 11
        · subst q11; by_cases q : b < 6 <;> simp [q, Nat.add_assoc]
        · by_cases q12 : a = 12
          · subst q12; by_cases q : b < 5 <;> simp [q, Nat.add_assoc]
          · by_cases q13 : a = 13
            · subst q13; by_cases q : b < 5 <;> simp [q, Nat.add_assoc]
            · simp [q1, q9, q10, q11, q12, q13]
/-- the scene is one that is kept -/
theorem scene_pt {u w : am_U} {S : Nat → Int32} (hv : i_vs u S) (e2 : ∀ a b, c_vs a b → w a b = u a b) (e75 : ∀ i, i < 30 → w 75 i = S i) (ew : ∀ a b, (8 ≤ a ∧ a ≤ 13) → w a b = am_pt u S a b) : i_scene w := by
  refine ⟨fun k hk => ⟨?_, ?_, ?_⟩, fun p hp => ⟨?_, ?_⟩, ?_, ?_, fr_vs hv e2 e75⟩
  · rw [ew 9 k (by omega), e75 k (by omega)]; unfold am_pt; simp [hk]
  · rw [ew 10 k (by omega), e75 (6 + k) (by omega)]; unfold am_pt; simp [hk]
  · rw [ew 11 k (by omega), e75 (12 + k) (by omega)]; unfold am_pt; simp [hk]
  · rw [ew 12 p (by omega), e75 (18 + p) (by omega)]; unfold am_pt; simp [hp]
  · rw [ew 13 p (by omega), e75 (23 + p) (by omega)]; unfold am_pt; simp [hp]
  · rw [ew 8 5 (by omega), e75 28 (by omega)]; unfold am_pt; simp
  · rw [ew 8 6 (by omega), e75 29 (by omega)]; unfold am_pt; simp
theorem two_keep (a1 : Int32) : am_two (fun pl u => f_X10_keep pl a1 u) (fun _ u => f_X11_keep a1 u) := by
  intro pl hp u hI
  show ∃ v u1 u2, f_X10_keep pl a1 u = _ ∧ f_X11_keep a1 u1 = _ ∧ _
  obtain ⟨n, hn, e1, e2⟩ := plan_n hI.2.2.2.1
  rcases wi_cs a1 0 2 (by omega) (by omega) with w | ⟨k, -, hk, ha, w⟩
  · refine ⟨-1, u, u, ?_, ?_, hI, fun _ _ => rfl⟩
    · unfold f_X10_keep; rw [show f_X10_isWithin a1 0 2 = some 0 from w]; rfl
    · unfold f_X11_keep; rw [in_eq, show f_X10_isWithin a1 0 2 = some 0 from w]; rfl
  · by_cases h0 : n = 0
    · subst h0
      refine ⟨-4, u, u, ?_, ?_, hI, fun _ _ => rfl⟩
      · unfold f_X10_keep; rw [show f_X10_isWithin a1 0 2 = some 1 from w, e1]; rfl
      · unfold f_X11_keep; rw [in_eq, show f_X10_isWithin a1 0 2 = some 1 from w, e2]; rfl
    · have hne : ¬ nI n = 0 := nI_ne0 (by omega) (by omega)
      have hS := hI.2.2.2.2.1
      have hsc := scn_eq hS
      obtain ⟨W, hW⟩ : ∃ W, am_w (am_sv u 19 (30 * k) (m_sc u)) 20 k (u 8 5) = W := ⟨_, rfl⟩
      have w20 : ∀ b, W 20 b = if b = k then u 8 5 else u 20 b := fun b => by
        rw [← hW, am_w_ap]
        by_cases q : b = k
        · rw [if_pos (by omega), if_pos q]
        · rw [if_neg (by omega), if_neg q]; exact if_neg (by omega)
      have w19 : ∀ b, W 19 b = if 30 * k ≤ b ∧ b < 30 * k + 30 then m_sc u (b - 30 * k) else u 19 b := fun b => by
        rw [← hW, am_w_n (by omega)]
        unfold am_sv
        by_cases q : 30 * k ≤ b ∧ b < 30 * k + 30
        · rw [if_pos ⟨rfl, q⟩, if_pos q]
        · rw [if_neg (fun z => q z.2), if_neg q]
      have wo : ∀ a b, a ≠ 19 → a ≠ 20 → W a b = u a b := fun a b q1 q2 => by
        rw [← hW, am_w_n (by omega)]; exact if_neg (by omega)
      refine ⟨u 8 5, W, am_w (am_cy W 78 (30 * k) 75 0 0 30) 77 k 1, ?_, ?_, ?_, fun a ha => ?_⟩
      · unfold f_X10_keep; rw [show f_X10_isWithin a1 0 2 = some 1 from w, e1]
        show (if ¬ nI n = 0 then (f_X4_save 18 90 a1 u).bind (fun q2 => am_ck (am_ix a1 3) (some (am_w q2 20 a1.toNatClampNeg (q2 8 5) 8 5, am_w q2 20 a1.toNatClampNeg (q2 8 5)))) else _) = _
        rw [if_pos hne, ha, save_eq (by omega) (by omega) (by omega)]
        show am_ck (am_ix (nI k) 3) (some (am_w (am_sv u 19 (30 * k) (m_sc u)) 20 (nI k).toNatClampNeg (am_sv u 19 (30 * k) (m_sc u) 8 5) 8 5, am_w (am_sv u 19 (30 * k) (m_sc u)) 20 (nI k).toNatClampNeg (am_sv u 19 (30 * k) (m_sc u) 8 5))) = _
        rw [am_ck_t (am_ix_nI (by omega) (by omega)), nI_clamp (by omega), show am_sv u 19 (30 * k) (m_sc u) 8 5 = u 8 5 from if_neg (by omega), hW, wo 8 5 (by omega) (by omega)]
      · unfold f_X11_keep; rw [in_eq, show f_X10_isWithin a1 0 2 = some 1 from w, wo 60 12 (by omega) (by omega), e2]
        show (if ¬ nI n = 0 then f_X11_keep_23 a1 (fun c5u => am_ck (am_ix a1 3) (some (am_w c5u 77 a1.toNatClampNeg 1 75 28, am_w c5u 77 a1.toNatClampNeg 1))) 20000 (nI 0) W else _) = _
        rw [if_pos hne, ha, keep_lp (by omega) _ 20000 0 W (by omega) (by omega), am_ck_t (am_ix_nI (by omega) (by omega)), nI_clamp (by omega), am_w_n (by omega), am_cy_n (by omega), wo 75 28 (by omega) (by omega), hS.2.2.1]
      · have eo : ∀ a b, ¬ c_kept a → am_w (am_cy W 78 (30 * k) 75 0 0 30) 77 k 1 a b = u a b := fun a b q => by
          unfold c_kept at q
          rw [am_w_n (by omega), am_cy_n (by omega), wo a b (by omega) (by omega)]
        have ev : ∀ a b, c_vs a b → am_w (am_cy W 78 (30 * k) 75 0 0 30) 77 k 1 a b = u a b := fun a b q => eo a b (by unfold c_vs at q; unfold c_kept; omega)
        obtain ⟨g1, g2, g3, g4, g5, g6, g7, g8⟩ := hI
        refine ⟨fr_msg g1 fun a b q => ?_, fr_rows g2 fun a b q => ?_, fr_txts g3 fun a b q => ?_, fr_plan hp g4 fun a b q => ?_, fr_scene g5 (fun a b q => ?_) ev, fr_deeds g6 (fun a b q => ?_) ev, fun m hm => ?_, fr_burn g8 fun a b q => ?_⟩
        · exact eo a b (by unfold c_msg at q; unfold c_kept; omega)
        · exact eo a b (by unfold c_rows at q; unfold c_kept; omega)
        · exact eo a b (by unfold c_txts at q; unfold c_kept; omega)
        · exact eo a b (by unfold c_plan at q; unfold c_kept; omega)
        · exact eo a b (by unfold c_scene at q; unfold c_kept; omega)
        · exact eo a b (by unfold c_deeds at q; unfold c_kept; omega)
        · by_cases hmk : m = k
          · subst hmk
            have h78 : ∀ i, i < 30 → am_w (am_cy W 78 (30 * m) 75 0 0 30) 77 m 1 78 (30 * m + i) = u 75 i := fun i hi => by
              rw [am_w_n (by omega), am_cy_s (by omega), wo 75 _ (by omega) (by omega), Nat.zero_add]
            refine Or.inr ⟨am_w_s _ _ _ _, ?_, fun i hi => ?_, fr_vs g5.2.2.2.2 ev (fun i hi => h78 i hi)⟩
            · rw [am_w_n (by omega), am_cy_n (by omega), w20, if_pos rfl, h78 28 (by omega), g5.2.2.1]
            · rw [am_w_n (by omega), am_cy_n (by omega), w19, if_pos (by omega), h78 i hi, show 30 * m + i - 30 * m = i by omega, hsc i hi]
          · have h78 : ∀ i, i < 30 → am_w (am_cy W 78 (30 * k) 75 0 0 30) 77 k 1 78 (30 * m + i) = u 78 (30 * m + i) := fun i hi => by
              rw [am_w_n (by omega), am_cy_n (by omega), wo 78 _ (by omega) (by omega)]
            have h77 : am_w (am_cy W 78 (30 * k) 75 0 0 30) 77 k 1 77 m = u 77 m := by rw [am_w_n (by omega), am_cy_n (by omega), wo 77 _ (by omega) (by omega)]
            have h20 : am_w (am_cy W 78 (30 * k) 75 0 0 30) 77 k 1 20 m = u 20 m := by rw [am_w_n (by omega), am_cy_n (by omega), w20, if_neg hmk]
            rcases g7 m hm with ⟨z1, z2⟩ | ⟨z1, z2, z3, z4⟩
            · exact Or.inl ⟨by rw [h20]; exact z1, by rw [h77]; exact z2⟩
            · refine Or.inr ⟨by rw [h77]; exact z1, by rw [h20, h78 28 (by omega)]; exact z2, fun i hi => ?_, fr_vs z4 ev (fun i hi => h78 i hi)⟩
              rw [am_w_n (by omega), am_cy_n (by omega), w19, if_neg (by omega), h78 i hi]; exact z3 i hi
        · exact eo a b (by unfold c_burn at q; unfold c_kept; omega)
      · funext b
        rw [am_w_n (by omega), am_cy_n (by omega), wo a b (by omega) (by omega)]
theorem ok_keep {l : Launch} {g : am_G} (a1 : Int32) : am_ok l g d_X10_keep d_X11_keep [.int a1] am_isI := ok_II (fun B pl hL u => s_X10_keep hL a1 u) (fun B pl hL u => s_X11_keep hL a1 u) (two_keep a1)
