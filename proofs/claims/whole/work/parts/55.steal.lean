/-! the scene as a row: one place of it changes -/
def m_pu (S : Nat → Int32) (k : Nat) (x : Int32) : Nat → Int32 := fun i => if i = k then x else S i
theorem sc_w9 {u : am_U} {k : Nat} (x : Int32) (hk : k < 6) : m_sc (am_w u 9 k x) = m_pu (m_sc u) k x := funext fun i => by
  unfold m_pu m_sc
  simp only [am_w_ap]
  by_cases q : i = k
  · subst q; simp [hk]
  · simp [q]
theorem sc_w10 {u : am_U} {k : Nat} (x : Int32) (hk : k < 6) : m_sc (am_w u 10 k x) = m_pu (m_sc u) (6 + k) x := funext fun i => by
  unfold m_pu m_sc
  simp only [am_w_ap]
  by_cases q : i = 6 + k
  · subst q
    simp [show ¬ (6 + k < 6) by omega, show 6 + k < 12 by omega]
  · rw [if_neg q]
    by_cases q1 : i < 6
    · simp [q1]
    · by_cases q2 : i < 12
      · simp [q1, q2, show ¬ (i - 6 = k) by omega]
      · simp [q1, q2]
theorem sc_w11 {u : am_U} {k : Nat} (x : Int32) (hk : k < 6) : m_sc (am_w u 11 k x) = m_pu (m_sc u) (12 + k) x := funext fun i => by
  unfold m_pu m_sc
  simp only [am_w_ap]
  by_cases q : i = 12 + k
  · subst q
    simp [show ¬ (12 + k < 6) by omega, show ¬ (12 + k < 12) by omega, show 12 + k < 18 by omega]
  · rw [if_neg q]
    by_cases q1 : i < 6
    · simp [q1]
    · by_cases q2 : i < 12
      · simp [q1, q2]
      · by_cases q3 : i < 18
        · simp [q1, q2, q3, show ¬ (i - 12 = k) by omega]
        · simp [q1, q2, q3]
theorem sc_w12 {u : am_U} {k : Nat} (x : Int32) (hk : k < 5) : m_sc (am_w u 12 k x) = m_pu (m_sc u) (18 + k) x := funext fun i => by
  unfold m_pu m_sc
  simp only [am_w_ap]
  by_cases q : i = 18 + k
  · subst q
    simp [show ¬ (18 + k < 6) by omega, show ¬ (18 + k < 12) by omega, show ¬ (18 + k < 18) by omega, show 18 + k < 23 by omega]
  · rw [if_neg q]
    by_cases q1 : i < 6
    · simp [q1]
    · by_cases q2 : i < 12
      · simp [q1, q2]
      · by_cases q3 : i < 18
        · simp [q1, q2, q3]
        · by_cases q4 : i < 23
          · simp [q1, q2, q3, q4, show ¬ (i - 18 = k) by omega]
          · simp [q1, q2, q3, q4]
theorem sc_w86 {u : am_U} (x : Int32) : ∀ i, i < 30 → m_sc (am_w u 8 6 x) i = m_pu (m_sc u) 29 x i := fun i hi => by
  unfold m_pu m_sc
  simp only [am_w_ap]
  by_cases q : i = 29
  · subst q; simp
  · by_cases q1 : i < 28
    · simp [q, q1]
    · simp [q, show i = 28 by omega]
theorem pu_eq {S T : Nat → Int32} {k : Nat} {x : Int32} (h : ∀ i, i < 30 → S i = T i) : ∀ i, i < 30 → m_pu S k x i = m_pu T k x i := fun i hi => by
  unfold m_pu
  rw [h i hi]
theorem w75 (u : am_U) (k : Nat) (x : Int32) : am_w u 75 k x 75 = m_pu (u 75) k x := funext fun b => by
  unfold m_pu
  rw [am_w_ap]
  by_cases q : b = k
  · rw [if_pos ⟨rfl, q⟩, if_pos q]
  · rw [if_neg (by omega), if_neg q]
theorem scene_of {w : am_U} (h : ∀ i, i < 30 → m_sc w i = w 75 i) (hv : i_vs w (w 75)) : i_scene w := by
  refine ⟨fun k hk => ⟨?_, ?_, ?_⟩, fun p hp => ⟨?_, ?_⟩, ?_, ?_, hv⟩
  · rw [← h k (by omega)]; unfold m_sc; simp [hk]
  · rw [← h (6 + k) (by omega)]; unfold m_sc; rw [if_neg (by omega), if_pos (by omega), show 6 + k - 6 = k by omega]
  · rw [← h (12 + k) (by omega)]; unfold m_sc; rw [if_neg (by omega), if_neg (by omega), if_pos (by omega), show 12 + k - 12 = k by omega]
  · rw [← h (18 + p) (by omega)]; unfold m_sc; rw [if_neg (by omega), if_neg (by omega), if_neg (by omega), if_pos (by omega), show 18 + p - 18 = p by omega]
  · rw [← h (23 + p) (by omega)]; unfold m_sc; rw [if_neg (by omega), if_neg (by omega), if_neg (by omega), if_neg (by omega), if_pos (by omega), show 23 + p - 23 = p by omega]
  · rw [← h 28 (by omega)]; unfold m_sc; simp
  · rw [← h 29 (by omega)]; unfold m_sc; simp
theorem pu_n {S : Nat → Int32} {k i : Nat} {x : Int32} (h : i ≠ k) : m_pu S k x i = S i := if_neg h
theorem pu_s {S : Nat → Int32} {k : Nat} {x : Int32} : m_pu S k x k = x := if_pos rfl
theorem vs_li {u : am_U} {S : Nat → Int32} {k : Nat} {x : Int32} (h : i_vs u S) (hk : k < 6) (h1 : am_le x 20) (h2 : nI k < u 60 12 → x ≤ u 70 k) : i_vs u (m_pu S k x) := by
  refine ⟨fun j hj => ?_, ?_⟩
  · obtain ⟨a1, a2, a3, a4⟩ := h.1 j hj
    rw [pu_n (show 6 + j ≠ k by omega), pu_n (show 12 + j ≠ k by omega)]
    by_cases q : j = k
    · subst q; rw [pu_s]; exact ⟨h1, h2, a3, a4⟩
    · rw [pu_n q]; exact ⟨a1, a2, a3, a4⟩
  · rw [pu_n (by omega)]; exact h.2
theorem vs_pl {u : am_U} {S : Nat → Int32} {k : Nat} {x : Int32} (h : i_vs u S) (hk : k < 6) (h1 : am_le x 4) : i_vs u (m_pu S (6 + k) x) := by
  refine ⟨fun j hj => ?_, ?_⟩
  · obtain ⟨a1, a2, a3, a4⟩ := h.1 j hj
    rw [pu_n (show j ≠ 6 + k by omega), pu_n (show 12 + j ≠ 6 + k by omega)]
    by_cases q : j = k
    · subst q; rw [pu_s]; exact ⟨a1, a2, h1, a4⟩
    · rw [pu_n (show 6 + j ≠ 6 + k by omega)]; exact ⟨a1, a2, a3, a4⟩
  · rw [pu_n (by omega)]; exact h.2
theorem vs_op {u : am_U} {S : Nat → Int32} {k : Nat} {x : Int32} (h : i_vs u S) (hk : k < 6) (h1 : am_le x 1) : i_vs u (m_pu S (12 + k) x) := by
  refine ⟨fun j hj => ?_, ?_⟩
  · obtain ⟨a1, a2, a3, a4⟩ := h.1 j hj
    rw [pu_n (show j ≠ 12 + k by omega), pu_n (show 6 + j ≠ 12 + k by omega)]
    by_cases q : j = k
    · subst q; rw [pu_s]; exact ⟨a1, a2, a3, h1⟩
    · rw [pu_n (show 12 + j ≠ 12 + k by omega)]; exact ⟨a1, a2, a3, a4⟩
  · rw [pu_n (by omega)]; exact h.2
theorem vs_an {u : am_U} {S : Nat → Int32} {k : Nat} {x : Int32} (h : i_vs u S) (hk : 18 ≤ k) (hk2 : k ≠ 28) : i_vs u (m_pu S k x) := by
  refine ⟨fun j hj => ?_, ?_⟩
  · rw [pu_n (show j ≠ k by omega), pu_n (show 6 + j ≠ k by omega), pu_n (show 12 + j ≠ k by omega)]; exact h.1 j hj
  · rw [pu_n (by omega)]; exact h.2
theorem nI_sub {a b : Nat} (h : b ≤ a) : nI a - nI b = nI (a - b) := by
  have : nI a = nI (a - b) + nI b := by rw [nI_add, show a - b + b = a by omega]
  rw [this]
  exact Int32.add_sub_cancel (a := nI (a - b)) (b := nI b)
/-- a deed that both do: from the rememberings to the law's pair -/
theorem deed_two {pl : Nat} (hp : pl = 30 ∨ pl = 35) {u : am_U} (hI : am_Inv pl u) (c : Int32) {S' : Nat → Int32} (hv' : i_vs u S') :
    ∃ w1, f_X1_remember c u = some w1 ∧ (∀ a b, a ≠ 14 → a ≠ 16 → a ≠ 17 → w1 a b = u a b) ∧ ∀ u1, (∀ a b, ¬ (8 ≤ a ∧ a ≤ 13) → ¬ (a = 4 ∧ b = 13) → u1 a b = w1 a b) → (∀ i, i < 30 → m_sc u1 i = S' i) →
      ∃ w2, f_X11_remembers c u1 = some w2 ∧ (∀ a b, a ≠ 76 → ¬ (a = 60 ∧ b = 26) → w2 a b = u1 a b) ∧ ∀ u2, (∀ a b, a ≠ 75 → ¬ (a = 60 ∧ b = 2) → u2 a b = w2 a b) → (∀ i, i < 30 → u2 75 i = S' i) → i_msg u2 → am_Inv pl u2 ∧ ∀ a, 91 ≤ a → u2 a = u a := by
  obtain ⟨s, L, hs, hC, hM, hv⟩ := deeds_to hI.2.2.2.2.2.1
  obtain ⟨w1, e1, d1, o1⟩ := rem_c c hs hC
  refine ⟨w1, e1, o1, fun u1 p1 p2 => ?_⟩
  have hM1 : d_M u1 s L := d_M_fr hM (fun a b q => by rw [p1 a b (by omega) (by omega), o1 a b (by omega) (by omega) (by omega)])
  obtain ⟨w2, e2, d2, o2⟩ := rem_m c hs hM1
  refine ⟨w2, e2, o2, fun u2 p3 p4 hm => ?_⟩
  have q75 : u1 75 = u 75 := funext fun b => by rw [p1 75 b (by omega) (by omega), o1 75 b (by omega) (by omega) (by omega)]
  rw [q75] at d2
  have hC2 : d_C u2 (d_s s) (d_p s L (fun i => if i < 30 then m_sc u i else c)) := d_C_fr d1 (fun a b q => by rw [p3 a b (by omega) (by omega), o2 a b (by omega) (by omega), p1 a b (by omega) (by omega)])
  have hM2 : d_M u2 (d_s s) (d_p s L (fun i => if i < 30 then u 75 i else c)) := d_M_fr d2 (fun a b q => p3 a b (by omega) (by omega))
  have eo : ∀ a b, ¬ (8 ≤ a ∧ a ≤ 13) → ¬ (a = 4 ∧ b = 13) → a ≠ 14 → a ≠ 16 → a ≠ 17 → a ≠ 75 → a ≠ 76 → ¬ (a = 60 ∧ (b = 2 ∨ b = 26)) → u2 a b = u a b := fun a b q1 q2 q3 q4 q5 q6 q7 q8 => by
    rw [p3 a b q6 (by omega), o2 a b q7 (by omega), p1 a b q1 q2, o1 a b q3 q4 q5]
  have ev : ∀ a b, c_vs a b → u2 a b = u a b := fun a b q => by unfold c_vs at q; exact eo a b (by omega) (by omega) (by omega) (by omega) (by omega) (by omega) (by omega) (by omega)
  have hS2 : i_scene u2 := scene_of (fun i hi => by
    rw [p4 i hi, ← p2 i hi, sc_fr (u := u1) (fun a b q => by rw [p3 a b (by omega) (by omega), o2 a b (by omega) (by omega)])]) (fr_vs hv' ev p4)
  refine ⟨deed_inv hp hI hs hv hC2 hM2 hS2 hm (fun a b q1 q2 q3 q4 q5 q6 q7 => ?_), fun a ha => funext fun b => eo a b (by omega) (by omega) (by omega) (by omega) (by omega) (by omega) (by omega) (by omega)⟩
  unfold c_scene at q1
  unfold c_msg at q2
  exact eo a b (by omega) (by omega) (by omega) (by omega) (by omega) (by omega) (by omega) (by omega)
theorem two_steal (a1 a2 : Int32) : am_two (fun pl u => f_X10_steal pl a1 a2 u) (fun _ u => f_X11_steal a1 a2 u) := by
  intro pl hp u hI
  show ∃ v u1 u2, f_X10_steal pl a1 a2 u = _ ∧ f_X11_steal a1 a2 u1 = _ ∧ _
  obtain ⟨n, hn, e1, e2⟩ := plan_n hI.2.2.2.1
  rcases win_cs a1 (n := n) (by omega) with w | ⟨k, hk, ha, w⟩
  · refine ⟨-1, u, u, ?_, ?_, hI, fun _ _ => rfl⟩
    · unfold f_X10_steal; rw [cjar_eq a1 e1, w]; rfl
    · unfold f_X11_steal; rw [mjar_eq a1 e2, w]; rfl
  · rcases wi_cs a2 1 20 (by omega) (by omega) with w2 | ⟨j, hj1, hj, hb, w2⟩
    · refine ⟨-1, u, u, ?_, ?_, hI, fun _ _ => rfl⟩
      · unfold f_X10_steal; rw [cjar_eq a1 e1, w, show f_X10_isWithin a2 1 20 = some 0 from w2]; rfl
      · unfold f_X11_steal; rw [mjar_eq a1 e2, w, in_eq, show f_X10_isWithin a2 1 20 = some 0 from w2]; rfl
    · have hS := hI.2.2.2.2.1
      obtain ⟨p1, -, p2, -⟩ := plan_k hI.2.2.2.1 e2 hn hk
      obtain ⟨s1, s2, s3⟩ := hS.1 k (by omega)
      obtain ⟨⟨m, hm, em⟩, hle, -, -⟩ := hS.2.2.2.2.1 k (by omega)
      have hix : am_ix a1 6 = true := by rw [ha]; exact am_ix_nI (by omega) (by omega)
      have hcl : a1.toNatClampNeg = k := by rw [ha]; exact nI_clamp (by omega)
      have h0k : (0 : Int32) + a1 = nI k := by rw [ha]; exact (nI_add 0 k).trans (by rw [Nat.zero_add])
      have hix0 : am_ix ((0 : Int32) + a1) 30 = true := by rw [h0k]; exact am_ix_nI (by omega) (by omega)
      have hcl0 : ((0 : Int32) + a1).toNatClampNeg = k := by rw [h0k]; exact nI_clamp (by omega)
      have hE : f_X10_steal pl a1 a2 u = if u 75 k < a2 then some (-4, u) else if ¬ u 69 k = 4 then (f_X1_remember 4 u).bind (fun q4 => some (am_w q4 9 k (q4 9 k - a2) 9 k, am_w q4 9 k (q4 9 k - a2))) else some (-4, u) := by
        unfold f_X10_steal; rw [cjar_eq a1 e1, w, show f_X10_isWithin a2 1 20 = some 1 from w2]
        show am_ck (am_ix a1 6) (if u 9 a1.toNatClampNeg < a2 then some (-4, u) else if ¬ u (pl + 3) a1.toNatClampNeg = 4 then (f_X1_remember 4 u).bind (fun q4 => some (am_w q4 9 a1.toNatClampNeg (q4 9 a1.toNatClampNeg - a2) 9 a1.toNatClampNeg, am_w q4 9 a1.toNatClampNeg (q4 9 a1.toNatClampNeg - a2))) else some (-4, u)) = _
        rw [am_ck_t hix, hcl, p1, s1]
      have hM : ∀ v : am_U, v 60 12 = nI n → f_X11_steal a1 a2 v = if v 75 k < a2 then some (-4, v) else if ¬ v 69 k = 4 then (f_X11_remembers 4 v).bind (fun q5 => some (am_w q5 75 k (q5 75 k - a2) 75 k, am_w q5 75 k (q5 75 k - a2))) else some (-4, v) := fun v hv => by
        unfold f_X11_steal; rw [mjar_eq a1 hv, w, in_eq, show f_X10_isWithin a2 1 20 = some 1 from w2]
        show am_ck (am_ix (0 + a1) 30) (if v 75 (0 + a1).toNatClampNeg < a2 then some (-4, v) else am_ck (am_ix a1 6) (if ¬ v 69 a1.toNatClampNeg = 4 then (f_X11_remembers 4 v).bind (fun q5 => some (am_w q5 75 (0 + a1).toNatClampNeg (q5 75 (0 + a1).toNatClampNeg - a2) 75 (0 + a1).toNatClampNeg, am_w q5 75 (0 + a1).toNatClampNeg (q5 75 (0 + a1).toNatClampNeg - a2))) else some (-4, v))) = _
        rw [am_ck_t hix0, am_ck_t hix, hcl, hcl0]
      by_cases c1 : u 75 k < a2
      · exact ⟨-4, u, u, by rw [hE, if_pos c1], by rw [hM u e2, if_pos c1], hI, fun _ _ => rfl⟩
      · by_cases c2 : ¬ u 69 k = 4
        · have hjm : j ≤ m := by
            rcases Nat.lt_or_ge m j with q | q
            · exact absurd (show u 75 k < a2 by rw [em, hb]; exact nI_lt q (by omega)) c1
            · exact q
          have hx : u 75 k - a2 = nI (m - j) := by rw [em, hb, nI_sub hjm]
          have hv' : i_vs u (m_pu (u 75) k (u 75 k - a2)) := vs_li hS.2.2.2.2 (by omega) (by rw [hx]; exact ⟨m - j, by omega, rfl⟩) (fun q => by
            have := hle q
            rw [em] at this
            rw [hx]
            exact Int32.le_trans (nI_le (show m - j ≤ m by omega) (by omega)) this)
          obtain ⟨w1, r1, o1, K1⟩ := deed_two hp hI 4 hv'
          have q9 : w1 9 k = u 75 k := by rw [o1 9 k (by omega) (by omega) (by omega), s1]
          obtain ⟨w2', r2, o2, K2⟩ := K1 (am_w w1 9 k (u 75 k - a2)) (fun a b z1 z2 => am_w_n (by omega)) (fun i hi => by
            rw [sc_w9 _ (by omega), sc_fr (u := u) (fun a b q => o1 a b (by omega) (by omega) (by omega))]
            exact pu_eq (scn_eq hS) i hi)
          have g75 : w2' 75 = u 75 := funext fun b => by rw [o2 75 b (by omega) (by omega), am_w_n (by omega), o1 75 b (by omega) (by omega) (by omega)]
          have g69 : am_w w1 9 k (u 75 k - a2) 69 k = u 69 k := by rw [am_w_n (by omega), o1 69 k (by omega) (by omega) (by omega)]
          have g75b : am_w w1 9 k (u 75 k - a2) 75 k = u 75 k := by rw [am_w_n (by omega), o1 75 k (by omega) (by omega) (by omega)]
          refine ⟨u 75 k - a2, am_w w1 9 k (u 75 k - a2), am_w w2' 75 k (u 75 k - a2), ?_, ?_, K2 _ (fun a b z1 z2 => am_w_n (by omega)) (fun i hi => by rw [w75, g75]) ?_⟩
          · rw [hE, if_neg c1, if_pos c2, r1]
            show some (am_w w1 9 k (w1 9 k - a2) 9 k, am_w w1 9 k (w1 9 k - a2)) = _
            rw [q9, am_w_s]
          · rw [hM _ (by rw [am_w_n (by omega), o1 60 12 (by omega) (by omega) (by omega)]; exact e2), g75b, g69, if_neg c1, if_pos c2, r2]
            show some (am_w w2' 75 k (w2' 75 k - a2) 75 k, am_w w2' 75 k (w2' 75 k - a2)) = _
            rw [g75, am_w_s]
          · refine fr_msg hI.1 (fun a b q => ?_)
            unfold c_msg at q
            rw [am_w_n (by omega), o2 a b (by omega) (by omega), am_w_n (by omega), o1 a b (by omega) (by omega) (by omega)]
        · exact ⟨-4, u, u, by rw [hE, if_neg c1, if_neg c2], by rw [hM u e2, if_neg c1, if_neg c2], hI, fun _ _ => rfl⟩
theorem ok_steal {l : Launch} {g : am_G} (a1 a2 : Int32) : am_ok l g d_X10_steal d_X11_steal [.int a1, .int a2] am_isI := ok_II (fun B pl hL u => s_X10_steal hL a1 a2 u) (fun B pl hL u => s_X11_steal hL a1 a2 u) (two_steal a1 a2)
