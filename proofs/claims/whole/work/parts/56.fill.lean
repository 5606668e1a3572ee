/-! fill, carry -/
theorem two_fill (a1 : Int32) : am_two (fun pl u => f_X10_fill pl a1 u) (fun _ u => f_X11_fill a1 u) := by
  intro pl hp u hI
  show ∃ v u1 u2, f_X10_fill pl a1 u = _ ∧ f_X11_fill a1 u1 = _ ∧ _
  obtain ⟨n, hn, e1, e2⟩ := plan_n hI.2.2.2.1
  rcases win_cs a1 (n := n) (by omega) with w | ⟨k, hk, ha, w⟩
  · refine ⟨-1, u, u, ?_, ?_, hI, fun _ _ => rfl⟩
    · unfold f_X10_fill; rw [cjar_eq a1 e1, w]; rfl
    · unfold f_X11_fill; rw [mjar_eq a1 e2, w]; rfl
  · have hS := hI.2.2.2.2.1
    obtain ⟨-, -, p2, p3, -⟩ := plan_k hI.2.2.2.1 e2 hn hk
    obtain ⟨s1, s2, s3⟩ := hS.1 k (by omega)
    obtain ⟨d, hd, ed⟩ := hS.2.2.2.2.2
    have hix : am_ix a1 6 = true := by rw [ha]; exact am_ix_nI (by omega) (by omega)
    have hcl : a1.toNatClampNeg = k := by rw [ha]; exact nI_clamp (by omega)
    have h0k : (0 : Int32) + a1 = nI k := by rw [ha]; exact (nI_add 0 k).trans (by rw [Nat.zero_add])
    have hix0 : am_ix ((0 : Int32) + a1) 30 = true := by rw [h0k]; exact am_ix_nI (by omega) (by omega)
    have hcl0 : ((0 : Int32) + a1).toNatClampNeg = k := by rw [h0k]; exact nI_clamp (by omega)
    have h6k : (6 : Int32) + a1 = nI (6 + k) := by rw [ha]; exact nI_add 6 k
    have hix6 : am_ix ((6 : Int32) + a1) 30 = true := by rw [h6k]; exact am_ix_nI (by omega) (by omega)
    have hcl6 : ((6 : Int32) + a1).toNatClampNeg = 6 + k := by rw [h6k]; exact nI_clamp (by omega)
    have h12k : (12 : Int32) + a1 = nI (12 + k) := by rw [ha]; exact nI_add 12 k
    have hix12 : am_ix ((12 : Int32) + a1) 30 = true := by rw [h12k]; exact am_ix_nI (by omega) (by omega)
    have hcl12 : ((12 : Int32) + a1).toNatClampNeg = 12 + k := by rw [h12k]; exact nI_clamp (by omega)
    have hE : f_X10_fill pl a1 u = if ¬ u 75 (6 + k) = 0 then some (-4, u) else (f_X5_isBright pl (nI d) u).bind (fun q3 => if ¬ q3 = 0 then (f_X1_remember 0 u).bind (fun q4 => some (q4 (pl + 4) k - q4 9 k, am_w (am_w q4 9 k (q4 (pl + 4) k)) 11 k 0)) else some (-4, u)) := by
      unfold f_X10_fill; rw [cjar_eq a1 e1, w]
      show am_ck (am_ix a1 6) (if ¬ u 10 a1.toNatClampNeg = 0 then some (-4, u) else (f_X5_isBright pl (u 8 5) u).bind (fun q3 => if ¬ q3 = 0 then (f_X1_remember 0 u).bind (fun q4 => some (q4 (pl + 4) a1.toNatClampNeg - q4 9 a1.toNatClampNeg, am_w (am_w q4 9 a1.toNatClampNeg (q4 (pl + 4) a1.toNatClampNeg)) 11 a1.toNatClampNeg 0)) else some (-4, u))) = _
      rw [am_ck_t hix, hcl, s2, hS.2.2.1, ed]
    have hM : ∀ v : am_U, v 60 12 = nI n → v 75 28 = nI d → f_X11_fill a1 v = if ¬ v 75 (6 + k) = 0 then some (-4, v) else (f_X11_shines (nI d) v).bind (fun q3 => if ¬ q3 = 0 then (f_X11_remembers 0 v).bind (fun q4 => some (q4 70 k - q4 75 k, am_w (am_w q4 75 k (q4 70 k)) 75 (12 + k) 0)) else some (-4, v)) := fun v hv hv2 => by
      unfold f_X11_fill; rw [mjar_eq a1 hv, w]
      show am_ck (am_ix (6 + a1) 30) (if ¬ v 75 (6 + a1).toNatClampNeg = 0 then some (-4, v) else (f_X11_shines (v 75 28) v).bind (fun q3 => if ¬ q3 = 0 then (f_X11_remembers 0 v).bind (fun q4 => am_ck (am_ix a1 6) (am_ck (am_ix (0 + a1) 30) (am_ck (am_ix (12 + a1) 30) (some (q4 70 a1.toNatClampNeg - q4 75 (0 + a1).toNatClampNeg, am_w (am_w q4 75 (0 + a1).toNatClampNeg (q4 70 a1.toNatClampNeg)) 75 (12 + a1).toNatClampNeg 0))))) else some (-4, v))) = _
      rw [hix, hix0, hix6, hix12, hcl, hcl0, hcl6, hcl12, hv2]
      rfl
    by_cases c1 : ¬ u 75 (6 + k) = 0
    · exact ⟨-4, u, u, by rw [hE, if_pos c1], by rw [hM u e2 ed, if_pos c1], hI, fun _ _ => rfl⟩
    · obtain ⟨hb, -⟩ := sun_eq (w := u) hI.2.2.2.1 (d := d) (by omega) rfl rfl
      rcases (sun_eq (w := u) hI.2.2.2.1 (d := d) (by omega) rfl rfl).2 with c2 | c2
      · exact ⟨-4, u, u, by rw [hE, if_neg c1, c2]; rfl, by rw [hM u e2 ed, if_neg c1, hb, c2]; rfl, hI, fun _ _ => rfl⟩
      · have hv' : i_vs u (m_pu (m_pu (u 75) k (u 70 k)) (12 + k) 0) := vs_op (vs_li hS.2.2.2.2 (by omega) p3 (fun _ => Int32.le_refl _)) (by omega) am_le0
        obtain ⟨w1, r1, o1, K1⟩ := deed_two hp hI 0 hv'
        have q9 : w1 9 k = u 75 k := by rw [o1 9 k (by omega) (by omega) (by omega), s1]
        have q4 : w1 (pl + 4) k = u 70 k := by rw [o1 (pl + 4) k (by omega) (by omega) (by omega), p2]
        obtain ⟨u1, hu1⟩ : ∃ u1, am_w (am_w w1 9 k (u 70 k)) 11 k 0 = u1 := ⟨_, rfl⟩
        have g : ∀ a b, ¬ (8 ≤ a ∧ a ≤ 13) → a ≠ 14 → a ≠ 16 → a ≠ 17 → u1 a b = u a b := fun a b z1 z2 z3 z4 => by rw [← hu1, am_w_n (by omega), am_w_n (by omega), o1 a b z2 z3 z4]
        obtain ⟨w2', r2, o2, K2⟩ := K1 u1 (fun a b z1 z2 => by rw [← hu1, am_w_n (by omega), am_w_n (by omega)]) (fun i hi => by
          rw [← hu1, sc_w11 _ (by omega), sc_w9 _ (by omega), sc_fr (u := u) (fun a b q => o1 a b (by omega) (by omega) (by omega))]
          exact pu_eq (pu_eq (scn_eq hS)) i hi)
        have g75 : w2' 75 = u 75 := funext fun b => by rw [o2 75 b (by omega) (by omega), g 75 b (by omega) (by omega) (by omega) (by omega)]
        have g70 : w2' 70 k = u 70 k := by rw [o2 70 k (by omega) (by omega), g 70 k (by omega) (by omega) (by omega) (by omega)]
        refine ⟨u 70 k - u 75 k, u1, am_w (am_w w2' 75 k (u 70 k)) 75 (12 + k) 0, ?_, ?_, K2 _ (fun a b z1 z2 => by rw [am_w_n (by omega), am_w_n (by omega)]) (fun i hi => by rw [w75, w75, g75]) ?_⟩
        · rw [hE, if_neg c1, c2, r1]
          show some (w1 (pl + 4) k - w1 9 k, am_w (am_w w1 9 k (w1 (pl + 4) k)) 11 k 0) = _
          rw [q9, q4, hu1]
        · obtain ⟨hb2, -⟩ := sun_eq (w := u1) hI.2.2.2.1 (d := d) (by omega) (g 60 9 (by omega) (by omega) (by omega) (by omega)) (funext fun b => g 67 b (by omega) (by omega) (by omega) (by omega))
          rw [hM u1 ((g 60 12 (by omega) (by omega) (by omega) (by omega)).trans e2) ((g 75 28 (by omega) (by omega) (by omega) (by omega)).trans ed), g 75 (6 + k) (by omega) (by omega) (by omega) (by omega), if_neg c1, hb2, c2, r2]
          show some (w2' 70 k - w2' 75 k, am_w (am_w w2' 75 k (w2' 70 k)) 75 (12 + k) 0) = _
          rw [g70, g75]
        · refine fr_msg hI.1 (fun a b q => ?_)
          unfold c_msg at q
          rw [am_w_n (by omega), am_w_n (by omega), o2 a b (by omega) (by omega), g a b (by omega) (by omega) (by omega) (by omega)]
theorem ok_fill {l : Launch} {g : am_G} (a1 : Int32) : am_ok l g d_X10_fill d_X11_fill [.int a1] am_isI := ok_II (fun B pl hL u => s_X10_fill hL a1 u) (fun B pl hL u => s_X11_fill hL a1 u) (two_fill a1)
theorem two_carry (a1 a2 : Int32) : am_two (fun pl u => f_X10_carry pl a1 a2 u) (fun _ u => f_X11_carry a1 a2 u) := by
  intro pl hp u hI
  show ∃ v u1 u2, f_X10_carry pl a1 a2 u = _ ∧ f_X11_carry a1 a2 u1 = _ ∧ _
  obtain ⟨n, hn, e1, e2⟩ := plan_n hI.2.2.2.1
  rcases win_cs a1 (n := n) (by omega) with w | ⟨k, hk, ha, w⟩
  · refine ⟨-1, u, u, ?_, ?_, hI, fun _ _ => rfl⟩
    · unfold f_X10_carry; rw [cjar_eq a1 e1, w]; rfl
    · unfold f_X11_carry; rw [mjar_eq a1 e2, w]; rfl
  · rcases wi_cs a2 0 1 (by omega) (by omega) with w2 | ⟨j, -, hj, hb, w2⟩
    · refine ⟨-1, u, u, ?_, ?_, hI, fun _ _ => rfl⟩
      · unfold f_X10_carry; rw [cjar_eq a1 e1, w, show f_X10_isWithin a2 0 1 = some 0 from w2]; rfl
      · unfold f_X11_carry; rw [mjar_eq a1 e2, w, in_eq, show f_X10_isWithin a2 0 1 = some 0 from w2]; rfl
    · have hS := hI.2.2.2.2.1
      obtain ⟨s1, s2, s3⟩ := hS.1 k (by omega)
      have hix : am_ix a1 6 = true := by rw [ha]; exact am_ix_nI (by omega) (by omega)
      have hcl : a1.toNatClampNeg = k := by rw [ha]; exact nI_clamp (by omega)
      have h6k : (6 : Int32) + a1 = nI (6 + k) := by rw [ha]; exact nI_add 6 k
      have hix6 : am_ix ((6 : Int32) + a1) 30 = true := by rw [h6k]; exact am_ix_nI (by omega) (by omega)
      have hcl6 : ((6 : Int32) + a1).toNatClampNeg = 6 + k := by rw [h6k]; exact nI_clamp (by omega)
      obtain ⟨x, hx⟩ : ∃ x, u 75 (6 + k) + (if ¬ a2 = 1 then -1 else 1) = x := ⟨_, rfl⟩
      have hE : f_X10_carry pl a1 a2 u = (f_X10_isWithin x 0 4).bind (fun q6 => if q6 = 0 then some (-4, u) else if u 75 29 < u 60 8 then (f_X1_remember 1 u).bind (fun q7 => some (x, am_w (am_w q7 10 k x) 8 6 (am_w q7 10 k x 8 6 + 1))) else some (-4, u)) := by
        unfold f_X10_carry; rw [cjar_eq a1 e1, w, show f_X10_isWithin a2 0 1 = some 1 from w2]
        show am_ck (am_ix a1 6) (am_jn (fun (j4s0 : Int32) => (f_X10_isPlace (u 10 a1.toNatClampNeg + j4s0)).bind (fun q6 => if q6 = 0 then some (-4, u) else if u 8 6 < u pl 0 then (f_X1_remember 1 u).bind (fun q7 => some (u 10 a1.toNatClampNeg + j4s0, am_w (am_w q7 10 a1.toNatClampNeg (u 10 a1.toNatClampNeg + j4s0)) 8 6 (am_w q7 10 a1.toNatClampNeg (u 10 a1.toNatClampNeg + j4s0) 8 6 + 1))) else some (-4, u))) (fun j4 => if ¬ a2 = 1 then j4 (-1) else j4 1)) = _
        rw [am_ck_t hix, hcl, s2, hS.2.2.2.1, hI.2.2.2.1.1]
        unfold am_jn
        dsimp only
        by_cases q : ¬ a2 = 1
        · rw [if_pos q] at hx; rw [if_pos q]; rw [hx, cplace_eq]
        · rw [if_neg q] at hx; rw [if_neg q]; rw [hx, cplace_eq]
      have hM : ∀ v : am_U, v 60 12 = nI n → v 75 (6 + k) = u 75 (6 + k) → f_X11_carry a1 a2 v = (f_X10_isWithin x 0 4).bind (fun q6 => if q6 = 0 then some (-4, v) else if v 75 29 < v 60 8 then (f_X11_remembers 1 v).bind (fun q7 => some (x, am_w (am_w q7 75 (6 + k) x) 75 29 (am_w q7 75 (6 + k) x 75 29 + 1))) else some (-4, v)) := fun v hv hv2 => by
        unfold f_X11_carry; rw [mjar_eq a1 hv, w, in_eq, show f_X10_isWithin a2 0 1 = some 1 from w2]
        show am_ck (am_ix (6 + a1) 30) (am_jn (fun (j4s0 : Int32) => (f_X11_isPlace (v 75 (6 + a1).toNatClampNeg + j4s0)).bind (fun q6 => if q6 = 0 then some (-4, v) else if v 75 29 < v 60 8 then (f_X11_remembers 1 v).bind (fun q7 => some (v 75 (6 + a1).toNatClampNeg + j4s0, am_w (am_w q7 75 (6 + a1).toNatClampNeg (v 75 (6 + a1).toNatClampNeg + j4s0)) 75 29 (am_w q7 75 (6 + a1).toNatClampNeg (v 75 (6 + a1).toNatClampNeg + j4s0) 75 29 + 1))) else some (-4, v))) (fun j4 => if ¬ a2 = 1 then j4 (-1) else j4 1)) = _
        rw [am_ck_t hix6, hcl6, hv2]
        unfold am_jn
        dsimp only
        by_cases q : ¬ a2 = 1
        · rw [if_pos q] at hx; rw [if_pos q]; rw [hx, mplace_eq]
        · rw [if_neg q] at hx; rw [if_neg q]; rw [hx, mplace_eq]
      rcases wi_cs x 0 4 (by omega) (by omega) with w3 | ⟨p, -, hpp, hxp, w3⟩
      · have w3 : f_X10_isWithin x 0 4 = some 0 := w3
        exact ⟨-4, u, u, by rw [hE, w3]; rfl, by rw [hM u e2 rfl, w3]; rfl, hI, fun _ _ => rfl⟩
      · have w3 : f_X10_isWithin x 0 4 = some 1 := w3
        by_cases c1 : u 75 29 < u 60 8
        · obtain ⟨y, hy⟩ : ∃ y, u 75 29 + 1 = y := ⟨_, rfl⟩
          have hv' : i_vs u (m_pu (m_pu (u 75) (6 + k) x) 29 y) := vs_an (vs_pl hS.2.2.2.2 (by omega) ⟨p, by omega, hxp⟩) (by omega) (by omega)
          obtain ⟨w1, r1, o1, K1⟩ := deed_two hp hI 1 hv'
          have q86 : am_w w1 10 k x 8 6 = u 75 29 := by rw [am_w_n (by omega), o1 8 6 (by omega) (by omega) (by omega), hS.2.2.2.1]
          obtain ⟨u1, hu1⟩ : ∃ u1, am_w (am_w w1 10 k x) 8 6 y = u1 := ⟨_, rfl⟩
          have g : ∀ a b, ¬ (8 ≤ a ∧ a ≤ 13) → a ≠ 14 → a ≠ 16 → a ≠ 17 → u1 a b = u a b := fun a b z1 z2 z3 z4 => by rw [← hu1, am_w_n (by omega), am_w_n (by omega), o1 a b z2 z3 z4]
          obtain ⟨w2', r2, o2, K2⟩ := K1 u1 (fun a b z1 z2 => by rw [← hu1, am_w_n (by omega), am_w_n (by omega)]) (fun i hi => by
            rw [← hu1, sc_w86 _ i hi, sc_w10 _ (by omega), sc_fr (u := u) (fun a b q => o1 a b (by omega) (by omega) (by omega))]
            exact pu_eq (pu_eq (scn_eq hS)) i hi)
          have g75 : w2' 75 = u 75 := funext fun b => by rw [o2 75 b (by omega) (by omega), g 75 b (by omega) (by omega) (by omega) (by omega)]
          refine ⟨x, u1, am_w (am_w w2' 75 (6 + k) x) 75 29 y, ?_, ?_, K2 _ (fun a b z1 z2 => by rw [am_w_n (by omega), am_w_n (by omega)]) (fun i hi => by rw [w75, w75, g75]) ?_⟩
          · rw [hE, w3]
            show (if u 75 29 < u 60 8 then (f_X1_remember 1 u).bind (fun q7 => some (x, am_w (am_w q7 10 k x) 8 6 (am_w q7 10 k x 8 6 + 1))) else some (-4, u)) = _
            rw [if_pos c1, r1]
            show some (x, am_w (am_w w1 10 k x) 8 6 (am_w w1 10 k x 8 6 + 1)) = _
            rw [q86, hy, hu1]
          · rw [hM u1 ((g 60 12 (by omega) (by omega) (by omega) (by omega)).trans e2) (g 75 _ (by omega) (by omega) (by omega) (by omega)), w3, g 75 29 (by omega) (by omega) (by omega) (by omega), g 60 8 (by omega) (by omega) (by omega) (by omega)]
            show (if u 75 29 < u 60 8 then (f_X11_remembers 1 u1).bind (fun q7 => some (x, am_w (am_w q7 75 (6 + k) x) 75 29 (am_w q7 75 (6 + k) x 75 29 + 1))) else some (-4, u1)) = _
            rw [if_pos c1, r2]
            show some (x, am_w (am_w w2' 75 (6 + k) x) 75 29 (am_w w2' 75 (6 + k) x 75 29 + 1)) = _
            rw [am_w_n (show ¬ (75 = 75 ∧ 29 = 6 + k) by omega), g75, hy]
          · refine fr_msg hI.1 (fun a b q => ?_)
            unfold c_msg at q
            rw [am_w_n (by omega), am_w_n (by omega), o2 a b (by omega) (by omega), g a b (by omega) (by omega) (by omega) (by omega)]
        · refine ⟨-4, u, u, ?_, ?_, hI, fun _ _ => rfl⟩
          · rw [hE, w3]
            exact if_neg c1
          · rw [hM u e2 rfl, w3]
            exact if_neg c1
theorem ok_carry {l : Launch} {g : am_G} (a1 a2 : Int32) : am_ok l g d_X10_carry d_X11_carry [.int a1, .int a2] am_isI := ok_II (fun B pl hL u => s_X10_carry hL a1 a2 u) (fun B pl hL u => s_X11_carry hL a1 a2 u) (two_carry a1 a2)
