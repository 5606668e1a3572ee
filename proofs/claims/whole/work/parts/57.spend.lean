/-! spend -/
theorem co_nI (k : Int32) : ∃ c, 0 < c ∧ c ≤ 3 ∧ m_co k = nI c := by
  unfold m_co
  split
  · exact ⟨3, by omega, by omega, rfl⟩
  · split
    · exact ⟨2, by omega, by omega, rfl⟩
    · exact ⟨1, by omega, by omega, rfl⟩
def m_sp (k : Nat) (a2 q7 : Int32) (q6 : am_U) : Option (Int32 × am_U) :=
        let u8 : am_U := am_w q6 9 k ((q6 9 k) - (a2 * q7))
        let u9 : am_U := am_w u8 11 k 1
        am_ck (am_ix (u9 10 k) 5) (
        let u11 : am_U := am_w u9 12 (u9 10 k).toNatClampNeg ((u9 12 (u9 10 k).toNatClampNeg) + a2)
        some (u11 9 k, u11))
theorem two_spend (a1 a2 : Int32) : am_two (fun pl u => f_X10_spend pl a1 a2 u) (fun _ u => f_X11_spend a1 a2 u) := by
  intro pl hp u hI
  show ∃ v u1 u2, f_X10_spend pl a1 a2 u = _ ∧ f_X11_spend a1 a2 u1 = _ ∧ _
  obtain ⟨n, hn, e1, e2⟩ := plan_n hI.2.2.2.1
  rcases win_cs a1 (n := n) (by omega) with w | ⟨k, hk, ha, w⟩
  · refine ⟨-1, u, u, ?_, ?_, hI, fun _ _ => rfl⟩
    · unfold f_X10_spend; rw [cjar_eq a1 e1, w]; rfl
    · unfold f_X11_spend; rw [mjar_eq a1 e2, w]; rfl
  · rcases wi_cs a2 1 20 (by omega) (by omega) with w2 | ⟨j, hj1, hj, hb, w2⟩
    · refine ⟨-1, u, u, ?_, ?_, hI, fun _ _ => rfl⟩
      · unfold f_X10_spend; rw [cjar_eq a1 e1, w, show f_X10_isWithin a2 1 20 = some 0 from w2]; rfl
      · unfold f_X11_spend; rw [mjar_eq a1 e2, w, in_eq, show f_X10_isWithin a2 1 20 = some 0 from w2]; rfl
    · have hS := hI.2.2.2.2.1
      obtain ⟨p1, -, p2, -⟩ := plan_k hI.2.2.2.1 e2 hn hk
      obtain ⟨s1, s2, s3⟩ := hS.1 k (by omega)
      obtain ⟨⟨m, hm, em⟩, hle, ⟨p, hpp, ep⟩, -⟩ := hS.2.2.2.2.1 k (by omega)
      obtain ⟨c, hc0, hc3, ec⟩ := co_nI (u 69 k)
      have hix : am_ix a1 6 = true := by rw [ha]; exact am_ix_nI (by omega) (by omega)
      have hcl : a1.toNatClampNeg = k := by rw [ha]; exact nI_clamp (by omega)
      have h0k : (0 : Int32) + a1 = nI k := by rw [ha]; exact (nI_add 0 k).trans (by rw [Nat.zero_add])
      have hix0 : am_ix ((0 : Int32) + a1) 30 = true := by rw [h0k]; exact am_ix_nI (by omega) (by omega)
      have hcl0 : ((0 : Int32) + a1).toNatClampNeg = k := by rw [h0k]; exact nI_clamp (by omega)
      have h6k : (6 : Int32) + a1 = nI (6 + k) := by rw [ha]; exact nI_add 6 k
      have hix6 : am_ix ((6 : Int32) + a1) 30 = true := by rw [h6k]; exact am_ix_nI (by omega) (by omega)
      have hcl6 : ((6 : Int32) + a1).toNatClampNeg = 6 + k := by rw [h6k]; exact nI_clamp (by omega)
      have h12k : (12 : Int32) + a1 = nI (12 + k) := by rw [ha]; exact nI_add 12 k
      have hix12 : am_ix ((12 : Int32) + a1) 30 = true := by rw [h12k]; exact am_ix_nI (by omega) (by omega)
      have hcl12 : ((12 : Int32) + a1).toNatClampNeg = 12 + k := by rw [h12k]; exact nI_clamp (by omega)
      have hdiv : (!(nI c == 0)) = true := by rw [← ec]; exact mco_ne _
      have hE : f_X10_spend pl a1 a2 u = if a2 ≤ nI (m / c) then (f_X1_remember 3 u).bind (m_sp k a2 (nI c)) else some (-4, u) := by
        unfold f_X10_spend; rw [cjar_eq a1 e1, w, show f_X10_isWithin a2 1 20 = some 1 from w2]
        refine Eq.trans (b := am_ck (am_ix a1 6) ((f_X2_hours (u (pl + 3) a1.toNatClampNeg) (u 9 a1.toNatClampNeg)).bind (fun q5 => if a2 ≤ q5 then (f_X1_remember 3 u).bind (fun q6 => (f_X2_anHour (u (pl + 3) a1.toNatClampNeg)).bind (fun q7 => m_sp a1.toNatClampNeg a2 q7 q6)) else some (-4, u)))) rfl ?_
        unfold f_X2_hours
        rw [am_ck_t hix, hcl, p1, s1, em, cco_eq, ec]
        show (am_ck (!(nI c == 0)) (some (nI m / nI c))).bind _ = _
        rw [am_ck_t hdiv, pk_div (by omega) hc0 (by omega)]
        rfl
      have hM : ∀ v : am_U, v 60 12 = nI n → v 69 k = u 69 k → f_X11_spend a1 a2 v = if nI (c * j) ≤ v 75 k then (f_X11_remembers 3 v).bind (fun q6 => am_ck (am_ix (18 + am_w (am_w q6 75 k (q6 75 k - nI (c * j))) 75 (12 + k) 1 75 (6 + k)) 30) (some (am_w (am_w (am_w q6 75 k (q6 75 k - nI (c * j))) 75 (12 + k) 1) 75 (18 + am_w (am_w q6 75 k (q6 75 k - nI (c * j))) 75 (12 + k) 1 75 (6 + k)).toNatClampNeg (am_w (am_w q6 75 k (q6 75 k - nI (c * j))) 75 (12 + k) 1 75 (18 + am_w (am_w q6 75 k (q6 75 k - nI (c * j))) 75 (12 + k) 1 75 (6 + k)).toNatClampNeg + a2) 75 k, am_w (am_w (am_w q6 75 k (q6 75 k - nI (c * j))) 75 (12 + k) 1) 75 (18 + am_w (am_w q6 75 k (q6 75 k - nI (c * j))) 75 (12 + k) 1 75 (6 + k)).toNatClampNeg (am_w (am_w q6 75 k (q6 75 k - nI (c * j))) 75 (12 + k) 1 75 (18 + am_w (am_w q6 75 k (q6 75 k - nI (c * j))) 75 (12 + k) 1 75 (6 + k)).toNatClampNeg + a2)))) else some (-4, v) := fun v hv hv2 => by
        unfold f_X11_spend; rw [mjar_eq a1 hv, w, in_eq, show f_X10_isWithin a2 1 20 = some 1 from w2, hcl, hv2, mco_eq, ec, hcl0, hcl6, hcl12, hix, hix0, hix6, hix12]
        have hcj : nI c * a2 = nI (c * j) := by rw [hb, nI_mul]
        rw [← hcj]
        rfl
      by_cases c1 : c * j ≤ m
      · have hjc : j ≤ m / c := (Nat.le_div_iff_mul_le hc0).mpr (by rw [Nat.mul_comm]; exact c1)
        have hx : u 75 k - nI (c * j) = nI (m - c * j) := by rw [em, nI_sub c1]
        obtain ⟨x, hxx⟩ : ∃ x, u 75 k - nI (c * j) = x := ⟨_, rfl⟩
        obtain ⟨y, hy⟩ : ∃ y, u 75 (18 + p) + a2 = y := ⟨_, rfl⟩
        have hjc2 : a2 * nI c = nI (c * j) := by rw [hb, nI_mul, Nat.mul_comm]
        have hv' : i_vs u (m_pu (m_pu (m_pu (u 75) k x) (12 + k) 1) (18 + p) y) := vs_an (vs_op (vs_li hS.2.2.2.2 (by omega) (by rw [← hxx, hx]; exact ⟨m - c * j, by omega, rfl⟩) (fun q => by
          have := hle q
          rw [em] at this
          rw [← hxx, hx]
          exact Int32.le_trans (nI_le (show m - c * j ≤ m by omega) (by omega)) this)) (by omega) ⟨1, by omega, rfl⟩) (by omega) (by omega)
        obtain ⟨w1, r1, o1, K1⟩ := deed_two hp hI 3 hv'
        have q9 : w1 9 k = u 75 k := by rw [o1 9 k (by omega) (by omega) (by omega), s1]
        have q10 : am_w (am_w w1 9 k x) 11 k 1 10 k = nI p := by rw [am_w_n (by omega), am_w_n (by omega), o1 10 k (by omega) (by omega) (by omega), s2, ep]
        have q12 : am_w (am_w w1 9 k x) 11 k 1 12 p = u 75 (18 + p) := by rw [am_w_n (by omega), am_w_n (by omega), o1 12 p (by omega) (by omega) (by omega), (hS.2.1 p (by omega)).1]
        obtain ⟨u1, hu1⟩ : ∃ u1, am_w (am_w (am_w w1 9 k x) 11 k 1) 12 p y = u1 := ⟨_, rfl⟩
        have g : ∀ a b, ¬ (8 ≤ a ∧ a ≤ 13) → a ≠ 14 → a ≠ 16 → a ≠ 17 → u1 a b = u a b := fun a b z1 z2 z3 z4 => by rw [← hu1, am_w_n (by omega), am_w_n (by omega), am_w_n (by omega), o1 a b z2 z3 z4]
        obtain ⟨w2', r2, o2, K2⟩ := K1 u1 (fun a b z1 z2 => by rw [← hu1, am_w_n (by omega), am_w_n (by omega), am_w_n (by omega)]) (fun i hi => by
          rw [← hu1, sc_w12 _ (by omega), sc_w11 _ (by omega), sc_w9 _ (by omega), sc_fr (u := u) (fun a b q => o1 a b (by omega) (by omega) (by omega))]
          exact pu_eq (pu_eq (pu_eq (scn_eq hS))) i hi)
        have g75 : w2' 75 = u 75 := funext fun b => by rw [o2 75 b (by omega) (by omega), g 75 b (by omega) (by omega) (by omega) (by omega)]
        have q6 : am_w (am_w w2' 75 k x) 75 (12 + k) 1 75 (6 + k) = nI p := by rw [am_w_n (by omega), am_w_n (by omega), g75, ep]
        have q18 : am_w (am_w w2' 75 k x) 75 (12 + k) 1 75 (18 + p) = u 75 (18 + p) := by rw [am_w_n (by omega), am_w_n (by omega), g75]
        refine ⟨x, u1, am_w (am_w (am_w w2' 75 k x) 75 (12 + k) 1) 75 (18 + p) y, ?_, ?_, K2 _ (fun a b z1 z2 => by rw [am_w_n (by omega), am_w_n (by omega), am_w_n (by omega)]) (fun i hi => by rw [w75, w75, w75, g75]) ?_⟩
        · rw [hE, if_pos (by rw [hb]; exact nI_le hjc (Nat.lt_of_le_of_lt (Nat.div_le_self m c) (by omega))), r1]
          show m_sp k a2 (nI c) w1 = _
          unfold m_sp
          rw [hjc2, q9, hxx]
          show am_ck (am_ix (am_w (am_w w1 9 k x) 11 k 1 10 k) 5) (some (am_w (am_w (am_w w1 9 k x) 11 k 1) 12 (am_w (am_w w1 9 k x) 11 k 1 10 k).toNatClampNeg (am_w (am_w w1 9 k x) 11 k 1 12 (am_w (am_w w1 9 k x) 11 k 1 10 k).toNatClampNeg + a2) 9 k, am_w (am_w (am_w w1 9 k x) 11 k 1) 12 (am_w (am_w w1 9 k x) 11 k 1 10 k).toNatClampNeg (am_w (am_w w1 9 k x) 11 k 1 12 (am_w (am_w w1 9 k x) 11 k 1 10 k).toNatClampNeg + a2))) = _
          rw [q10, am_ck_t (am_ix_nI (by omega) (by omega)), nI_clamp (by omega), q12, hy, hu1, show u1 9 k = x from by rw [← hu1, am_w_n (by omega), am_w_n (by omega), am_w_s]]
        · rw [hM u1 ((g 60 12 (by omega) (by omega) (by omega) (by omega)).trans e2) (g 69 k (by omega) (by omega) (by omega) (by omega)), g 75 k (by omega) (by omega) (by omega) (by omega), if_pos (by rw [em]; exact nI_le c1 (by omega)), r2]
          dsimp only [Option.bind]
          rw [g75, hxx, q6, show (18 : Int32) + nI p = nI (18 + p) from nI_add 18 p, am_ck_t (am_ix_nI (by omega) (by omega)), nI_clamp (by omega), q18, hy, am_w_n (show ¬ (75 = 75 ∧ k = 18 + p) by omega), am_w_n (show ¬ (75 = 75 ∧ k = 12 + k) by omega), am_w_s]
        · refine fr_msg hI.1 (fun a b q => ?_)
          unfold c_msg at q
          rw [am_w_n (by omega), am_w_n (by omega), am_w_n (by omega), o2 a b (by omega) (by omega), g a b (by omega) (by omega) (by omega) (by omega)]
      · have hjc : ¬ j ≤ m / c := fun q => c1 (by
          have := (Nat.le_div_iff_mul_le hc0).mp q
          rw [Nat.mul_comm]; exact this)
        have hmc : m / c ≤ m := Nat.div_le_self m c
        have hcj60 : c * j ≤ 60 := Nat.mul_le_mul hc3 hj
        refine ⟨-4, u, u, ?_, ?_, hI, fun _ _ => rfl⟩
        · rw [hE, if_neg (by rw [hb]; exact nI_ge (by omega) (by omega))]
        · rw [hM u e2 rfl, if_neg (by rw [em]; exact nI_ge (by omega) (by omega))]
theorem ok_spend {l : Launch} {g : am_G} (a1 a2 : Int32) : am_ok l g d_X10_spend d_X11_spend [.int a1, .int a2] am_isI := ok_II (fun B pl hL u => s_X10_spend hL a1 a2 u) (fun B pl hL u => s_X11_spend hL a1 a2 u) (two_spend a1 a2)
