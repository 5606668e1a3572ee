/-! land -/
def cl_1 (u : am_U) : am_U := am_fl (am_w (am_w (am_w (am_w (am_fl (am_fl (am_fl (am_fl (am_fl u 9 0 6 0) 10 0 6 0) 11 0 6 0) 12 0 5 0) 13 0 5 0) 8 5 0) 8 6 0) 14 3 0) 21 4 0) 20 0 3 (-1)
theorem clear_eq (u : am_U) : (f_X9_clear u).bind (fun q4 => (f_X1_clear q4).bind (fun q5 => f_J7_fill_53178 20 3 (-1) (am_w q5 21 4 0))) = some (cl_1 u) := by
  unfold f_X9_clear f_X1_clear
  rw [fill_eq 9 6 0 u (by omega), obs, fill_eq 10 6 0 _ (by omega), obs, fill_eq 11 6 0 _ (by omega), obs, fill_eq 12 5 0 _ (by omega), obs, fill_eq 13 5 0 _ (by omega), obs]
  simp only [obs]
  rw [fill_eq 20 3 (-1) _ (by omega)]
  rfl
theorem cl_n {u : am_U} {a c : Nat} (h : ¬ (8 ≤ a ∧ a ≤ 13)) (h2 : ¬ (a = 14 ∧ c = 3)) (h3 : ¬ (a = 21 ∧ c = 4)) (h4 : a ≠ 20) : cl_1 u a c = u a c := by
  unfold cl_1
  rw [am_fl_n (by omega), am_w_n h3, am_w_n h2, am_w_n (by omega), am_w_n (by omega), am_fl_n (by omega), am_fl_n (by omega), am_fl_n (by omega), am_fl_n (by omega), am_fl_n (by omega)]
theorem cl_s {u : am_U} : ∀ i, i < 30 → m_sc (cl_1 u) i = 0 := by
  intro i hi
  unfold m_sc cl_1
  split
  · rw [am_fl_n (by omega), am_w_n (by omega), am_w_n (by omega), am_w_n (by omega), am_w_n (by omega), am_fl_n (by omega), am_fl_n (by omega), am_fl_n (by omega), am_fl_n (by omega), am_fl_s (by omega)]
  · split
    · rw [am_fl_n (by omega), am_w_n (by omega), am_w_n (by omega), am_w_n (by omega), am_w_n (by omega), am_fl_n (by omega), am_fl_n (by omega), am_fl_n (by omega), am_fl_s (by omega)]
    · split
      · rw [am_fl_n (by omega), am_w_n (by omega), am_w_n (by omega), am_w_n (by omega), am_w_n (by omega), am_fl_n (by omega), am_fl_n (by omega), am_fl_s (by omega)]
      · split
        · rw [am_fl_n (by omega), am_w_n (by omega), am_w_n (by omega), am_w_n (by omega), am_w_n (by omega), am_fl_n (by omega), am_fl_s (by omega)]
        · split
          · rw [am_fl_n (by omega), am_w_n (by omega), am_w_n (by omega), am_w_n (by omega), am_w_n (by omega), am_fl_s (by omega)]
          · split
            · rw [am_fl_n (by omega), am_w_n (by omega), am_w_n (by omega), am_w_n (by omega), am_w_s]
            · rw [am_fl_n (by omega), am_w_n (by omega), am_w_n (by omega), am_w_s]
theorem cl_14 {u : am_U} : cl_1 u 14 3 = 0 := by
  unfold cl_1; rw [am_fl_n (by omega), am_w_n (by omega), am_w_s]
theorem cl_21 {u : am_U} : cl_1 u 21 4 = 0 := by
  unfold cl_1; rw [am_fl_n (by omega), am_w_s]
theorem cl_20 {u : am_U} {k : Nat} (hk : k < 3) : cl_1 u 20 k = -1 := by
  unfold cl_1; rw [am_fl_s (by omega)]
/-- the reference lays a land that was read -/
theorem mland_eq {c : Nat} {v : am_U} (hc : c ≤ 6) (h20 : v 60 20 = nI c) : ∃ w, f_X11_land_63 (fun (c9u : am_U) => f_X11_land_89 (fun (c12u : am_U) => f_X11_land_114 (fun (c16u : am_U) => f_X11_land_154 (fun (c19u : am_U) => f_X11_land_175 (fun (c21u : am_U) => some (am_w (am_w c21u 60 26 0) 60 40 0 60 12, am_w (am_w c21u 60 26 0) 60 40 0)) 20000 0 c19u) 20000 0 c16u) 20000 0 c12u) 20000 1 c9u) 20000 0 (am_w (am_w (am_w v 60 8 (v 60 17)) 60 9 (am_w v 60 8 (v 60 17) 60 18)) 60 12 (am_w (am_w v 60 8 (v 60 17)) 60 9 (am_w v 60 8 (v 60 17) 60 18) 60 20)) = some (nI c, w) ∧ w 60 8 = v 60 17 ∧ w 60 9 = v 60 18 ∧ w 60 12 = nI c ∧ w 60 26 = 0 ∧ w 60 40 = 0 ∧ (∀ k, k < 8 → w 67 k = v 71 k) ∧ (∀ k, 1 ≤ k → k < 5 → w 68 k = v 72 k) ∧ w 68 0 = v 68 0 ∧ (∀ k, k < c → w 69 k = v 73 k ∧ w 70 k = v 74 k) ∧ (∀ k, k < 30 → w 75 k = 0) ∧ (∀ k, k < 3 → w 77 k = 0) ∧ ∀ a e, ¬ (a = 60 ∧ (e = 8 ∨ e = 9 ∨ e = 12 ∨ e = 26 ∨ e = 40)) → ¬ (67 ≤ a ∧ a ≤ 70) → a ≠ 75 → a ≠ 77 → w a e = v a e := by
  obtain ⟨y0, hy0⟩ : ∃ y0, am_w (am_w (am_w v 60 8 (v 60 17)) 60 9 (v 60 18)) 60 12 (nI c) = y0 := ⟨_, rfl⟩
  have h18 : am_w v 60 8 (v 60 17) 60 18 = v 60 18 := am_w_n (by omega)
  have h20' : am_w (am_w v 60 8 (v 60 17)) 60 9 (v 60 18) 60 20 = nI c := by rw [am_w_n (by omega), am_w_n (by omega)]; exact h20
  rw [h18, h20', hy0]
  have g0 : ∀ a e, ¬ (a = 60 ∧ (e = 8 ∨ e = 9 ∨ e = 12)) → y0 a e = v a e := fun a e z => by rw [← hy0, am_w_n (by omega), am_w_n (by omega), am_w_n (by omega)]
  obtain ⟨y1, hy1⟩ : ∃ y1, am_cy y0 67 0 71 0 0 8 = y1 := ⟨_, rfl⟩
  obtain ⟨y2, hy2⟩ : ∃ y2, am_cy y1 68 0 72 0 1 5 = y2 := ⟨_, rfl⟩
  have g1 : ∀ a e, a ≠ 67 → y1 a e = y0 a e := fun a e z => by rw [← hy1, am_cy_n (by omega)]
  have g2 : ∀ a e, ¬ (a = 68 ∧ 1 ≤ e) → y2 a e = y1 a e := fun a e z => by rw [← hy2, am_cy_n (by omega)]
  obtain ⟨y3, k1, k2, -, k4⟩ := l114_lp hc (fun (c16u : am_U) => f_X11_land_154 (fun (c19u : am_U) => f_X11_land_175 (fun (c21u : am_U) => some (am_w (am_w c21u 60 26 0) 60 40 0 60 12, am_w (am_w c21u 60 26 0) 60 40 0)) 20000 0 c19u) 20000 0 c16u) 20000 0 y2 (by rw [g2 _ _ (by omega), g1 _ _ (by omega), ← hy0, am_w_s]) (by omega) (by omega)
  obtain ⟨y5, hy5⟩ : ∃ y5, am_fl (am_fl y3 75 0 30 0) 77 0 3 0 = y5 := ⟨_, rfl⟩
  have g5 : ∀ a e, a ≠ 75 → a ≠ 77 → y5 a e = y3 a e := fun a e z1 z2 => by rw [← hy5, am_fl_n (by omega), am_fl_n (by omega)]
  have gy : ∀ a e, ¬ (a = 60 ∧ (e = 8 ∨ e = 9 ∨ e = 12)) → ¬ (67 ≤ a ∧ a ≤ 70) → a ≠ 75 → a ≠ 77 → y5 a e = v a e := fun a e z1 z2 z3 z4 => by rw [g5 a e z3 z4, k4 a e (by omega) (by omega), g2 a e (by omega), g1 a e (by omega), g0 a e z1]
  have gz : ∀ e, y5 60 e = y0 60 e := fun e => by rw [g5 _ _ (by omega) (by omega), k4 _ _ (by omega) (by omega), g2 _ _ (by omega), g1 _ _ (by omega)]
  have z12 : am_w (am_w y5 60 26 0) 60 40 0 60 12 = nI c := by rw [am_w_n (by omega), am_w_n (by omega), gz, ← hy0, am_w_s]
  refine ⟨am_w (am_w y5 60 26 0) 60 40 0, ?_, ?_, ?_, z12, ?_, am_w_s _ _ _ _, fun k hk => ?_, fun k q1 q2 => ?_, ?_, fun k hk => ?_, fun k hk => ?_, fun k hk => ?_, fun a e q1 q2 q3 q4 => ?_⟩
  · refine (l63_lp _ 20000 0 y0 (by omega) (by omega)).trans ?_
    rw [hy1]
    refine (l89_lp _ 20000 1 y1 (by omega) (by omega)).trans ?_
    rw [hy2]
    refine Eq.trans k1 ?_
    refine (l154_lp _ 20000 0 y3 (by omega) (by omega)).trans ?_
    refine (l175_lp _ 20000 0 _ (by omega) (by omega)).trans ?_
    rw [hy5, z12]
  · rw [am_w_n (by omega), am_w_n (by omega), gz, ← hy0, am_w_n (by omega), am_w_n (by omega), am_w_s]
  · rw [am_w_n (by omega), am_w_n (by omega), gz, ← hy0, am_w_n (by omega), am_w_s]
  · rw [am_w_n (by omega), am_w_s]
  · rw [am_w_n (by omega), am_w_n (by omega), g5 _ _ (by omega) (by omega), k4 _ _ (by omega) (by omega), g2 _ _ (by omega), ← hy1]
    have := am_cy_s (u := y0) (c := 67) (o := 0) (s := 71) (p := 0) (i := 0) (n := 8) (j := k) (by omega)
    rw [Nat.zero_add] at this
    rw [this, g0 _ _ (by omega)]
  · rw [am_w_n (by omega), am_w_n (by omega), g5 _ _ (by omega) (by omega), k4 _ _ (by omega) (by omega), ← hy2]
    have := am_cy_s (u := y1) (c := 68) (o := 0) (s := 72) (p := 0) (i := 1) (n := 5) (j := k) (by omega)
    rw [Nat.zero_add] at this
    rw [this, g1 _ _ (by omega), g0 _ _ (by omega)]
  · rw [am_w_n (by omega), am_w_n (by omega), g5 _ _ (by omega) (by omega), k4 _ _ (by omega) (by omega), g2 _ _ (by omega), g1 _ _ (by omega), g0 _ _ (by omega)]
  · rw [am_w_n (by omega), am_w_n (by omega), am_w_n (by omega), am_w_n (by omega), g5 _ _ (by omega) (by omega), g5 _ _ (by omega) (by omega), (k2 k (by omega) hk).1, (k2 k (by omega) hk).2, g2 _ _ (by omega), g1 _ _ (by omega), g0 _ _ (by omega), g2 _ _ (by omega), g1 _ _ (by omega), g0 _ _ (by omega)]
    exact ⟨rfl, rfl⟩
  · rw [am_w_n (by omega), am_w_n (by omega), ← hy5, am_fl_n (by omega), am_fl_s (by omega)]
  · rw [am_w_n (by omega), am_w_n (by omega), ← hy5, am_fl_s (by omega)]
  · rw [am_w_n (by omega), am_w_n (by omega), gy a e (by omega) q2 q3 q4]
theorem ok_land {l : Launch} {g : am_G} (a1 : Int32) : am_ok l g d_X10_land d_X11_land [.int a1] am_isI := by
  intro i M _ hJ
  obtain ⟨B, pl, dr, u, rfl, h2, h3, h4, h5, h6, h7⟩ := hJ
  have hp := h2.1.2.2.2.1
  have h49 := am_L49 h2.1
  have b1 := s_X10_land (l := l) (g := g) h2.1 h2 a1 u
  have n3 : ¬ (-3 : Int32) = 0 := by decide
  have n1 : ¬ (-1 : Int32) = 0 := by decide
  rcases refuse_cs (pl := 30) 6 4 52 65 66 (by omega) a1 u h4.2.2.1 with ⟨w, e⟩ | ⟨t, ht, ha, w, hix, hcl, hrow, hid, ⟨k1, k2, e⟩ | ⟨n, hn, k1, k2, e⟩⟩
  · have c1 : f_X10_land B dr pl a1 u = some (-1, am_of B u) := by
      unfold f_X10_land; rw [e, obs]; exact if_neg n1
    have c2 : f_X11_land a1 u = some (-1, u) := by
      unfold f_X11_land; rw [isText_eq, show f_X10_isWithin a1 0 3 = some 0 from w, obs]; exact if_neg (fun z => z rfl)
    have b2 := s_X11_land (l := l) (g := g) h2.1 a1 u
    rw [c1] at b1
    rw [c2] at b2
    exact ⟨am_of B u, .int (-1), ⟨_, rfl⟩, ⟨h49.1, am_of B u, b1, h49.2, b2⟩, B, pl, dr, u, rfl, h2, h3, h4, am_pz_up h5 (by omega), by omega, by omega⟩
  · have c1 : f_X10_land B dr pl a1 u = some (-3, am_of B (am_fnd u 1)) := by
      unfold f_X10_land; rw [e, obs]; exact if_neg n3
    have c2 : f_X11_land a1 (am_fnd u 1) = some (-3, am_mts (am_fnd u 1) 1) := by
      unfold f_X11_land; rw [isText_eq, show f_X10_isWithin a1 0 3 = some 1 from w, obs]
      refine (if_pos ne10).trans ?_
      rw [am_ck_t hix, hcl, fnd_n (by omega), if_neg k2]
      show (f_X11_meets (nI 1) (am_fnd u 1)).bind _ = _
      rw [meets_eq (by omega), obs]
    have b2 := s_X11_land (l := l) (g := g) h2.1 a1 (am_fnd u 1)
    rw [c1] at b1
    rw [c2] at b2
    have hf := inv_find hp h4 1
    exact ⟨am_of B _, .int (-3), ⟨_, rfl⟩, ⟨h49.1, am_of B (am_fnd u 1), b1, h49.2, b2⟩, B, pl, dr, _, rfl, h2, h3, hf.1, am_pz_up (am_pz_w h5 hf.2) (by omega), by omega, by omega⟩
  · obtain ⟨res, u1, r1, r3, r6⟩ := read_two hp h2.2.2 h4 ht hn hrow k1
    have hdr := am_dr2 h2
    have hpd := h2.2.2
    have hL' : am_Lay (am_wR B 7 0 (2 * t + 52)) pl := am_LayW h2.1 (Or.inl ⟨rfl, rfl⟩)
    have c10 : f_X10_land B dr pl a1 u = if res = -9 then (f_X9_clear u1).bind (fun q4 => (f_X1_clear q4).bind (fun q5 => (f_J7_fill_53178 20 3 (-1) (am_w q5 21 4 0)).bind (fun q7 => some (q7 dr 2, am_of (am_wR (am_wR (am_wR B 7 0 (2 * t + 52)) 4 10 dr) 4 11 pl) q7)))) else some (-4, am_of (am_wR B 7 0 (2 * t + 52)) u1) := by
      unfold f_X10_land; rw [e, obs]
      refine (if_pos rfl).trans ?_
      rw [am_ck_t hix, hcl, r1, obs]
    by_cases hres : res = -9
    · obtain ⟨y, hy⟩ : ∃ y, cl_1 u1 = y := ⟨_, rfl⟩
      have gy : ∀ a c, a ≠ 7 → ¬ (dr ≤ a ∧ a ≤ dr + 4 ∧ ¬ (a = dr + 2 ∧ c = 0)) → ¬ (8 ≤ a ∧ a ≤ 13) → ¬ (a = 14 ∧ c = 3) → ¬ (a = 21 ∧ c = 4) → a ≠ 20 → y a c = u a c := fun a c z1 z2 z3 z4 z5 z6 => by rw [← hy, cl_n z3 z4 z5 z6, r3 a c z1 z2]
      obtain ⟨u2, r2, r4, r5⟩ := r6 y (fun a c z => gy a c (by omega) (by omega) (by omega) (by omega) (by omega) (by omega))
      obtain ⟨d1, ⟨sc, d2a, d2b, d2c, d2d⟩, d3, c, d4a, d4b, d4c, d4d⟩ := r5 hres
      have hyc : ∀ a x, dr ≤ a → a ≤ dr + 4 → y a x = u1 a x := fun a x z1 z2 => by rw [← hy, cl_n (by omega) (by omega) (by omega) (by omega)]
      have c1 : f_X10_land B dr pl a1 u = some (nI c, am_of (am_wR (am_wR (am_wR B 7 0 (2 * t + 52)) 4 10 dr) 4 11 pl) y) := by
        rw [c10, if_pos hres]
        have h8 : ∀ (Z : am_U → Option (Int32 × am_M)), (f_X9_clear u1).bind (fun q4 => (f_X1_clear q4).bind (fun q5 => (f_J7_fill_53178 20 3 (-1) (am_w q5 21 4 0)).bind Z)) = ((f_X9_clear u1).bind (fun q4 => (f_X1_clear q4).bind (fun q5 => f_J7_fill_53178 20 3 (-1) (am_w q5 21 4 0)))).bind Z := fun Z => by
          cases f_X9_clear u1 with
          | none => rfl
          | some q4 =>
            simp only [obs]
            cases f_X1_clear q4 with
            | none => rfl
            | some q5 => simp only [obs]
        rw [h8, clear_eq u1, obs, hy, show y dr 2 = nI c from by rw [hyc _ _ (by omega) (by omega)]; exact d4b]
      obtain ⟨w2, m1, m2, m3, m4, m5, m6, m7, m8, m9, m10, m11, m12, m13⟩ := mland_eq d4a d4c
      have k2' : 0 ≤ y 65 t := by rw [gy 65 t (by omega) (by omega) (by omega) (by omega) (by omega) (by omega)]; exact k2
      have c2 : f_X11_land a1 y = some (nI c, w2) := by
        unfold f_X11_land; rw [isText_eq, show f_X10_isWithin a1 0 3 = some 1 from w, obs]
        refine (if_pos ne10).trans ?_
        rw [am_ck_t hix, hcl, if_pos k2', ha, r2, obs]
        exact (if_pos hres).trans m1
      obtain ⟨B', hB'⟩ : ∃ B', am_wR (am_wR (am_wR B 7 0 (2 * t + 52)) 4 10 dr) 4 11 pl = B' := ⟨_, rfl⟩
      have hLd : am_Lay B' dr := by rw [← hB']; exact am_LayW (am_LayP hL' hdr) (Or.inr (Or.inl ⟨rfl, rfl⟩))
      have b2 := s_X11_land (l := l) (g := g) hLd a1 y
      rw [c1, hB'] at b1
      rw [c2] at b2
      have ew : ∀ a x, ¬ (a = 60 ∧ (x = 8 ∨ x = 9 ∨ x = 12 ∨ x = 26 ∨ x = 40)) → ¬ (67 ≤ a ∧ a ≤ 70) → a ≠ 75 → a ≠ 77 → ¬ (a = 60 ∧ 15 ≤ x ∧ x ≤ 20) → ¬ (71 ≤ a ∧ a ≤ 74) → w2 a x = y a x := fun a x z1 z2 z3 z4 z5 z6 => by rw [m13 a x z1 z2 z3 z4, r4 a x z5 z6]
      have eu : ∀ a x, ¬ (a = 60 ∧ (x = 8 ∨ x = 9 ∨ x = 12 ∨ x = 26 ∨ x = 40)) → ¬ (67 ≤ a ∧ a ≤ 70) → a ≠ 75 → a ≠ 77 → ¬ (a = 60 ∧ 15 ≤ x ∧ x ≤ 20) → ¬ (71 ≤ a ∧ a ≤ 74) → a ≠ 7 → ¬ (dr ≤ a ∧ a ≤ dr + 4 ∧ ¬ (a = dr + 2 ∧ x = 0)) → ¬ (8 ≤ a ∧ a ≤ 13) → ¬ (a = 14 ∧ x = 3) → ¬ (a = 21 ∧ x = 4) → a ≠ 20 → w2 a x = u a x := fun a x z1 z2 z3 z4 z5 z6 z7 z8 z9 z10 z11 z12 => by rw [ew a x z1 z2 z3 z4 z5 z6, gy a x z7 z8 z9 z10 z11 z12]
      have ed : ∀ a x, dr ≤ a → a ≤ dr + 4 → w2 a x = u1 a x := fun a x z1 z2 => by rw [ew a x (by omega) (by omega) (by omega) (by omega) (by omega) (by omega), hyc a x z1 z2]
      have hP := h4.2.2.2.1
      have h680 : w2 68 0 = 0 := by rw [m9, r4 _ _ (by omega) (by omega), gy 68 0 (by omega) (by omega) (by omega) (by omega) (by omega) (by omega)]; exact hP.2.2.2.2.2.2.1
      have h320 : w2 32 0 = 0 := by rw [eu 32 0 (by omega) (by omega) (by omega) (by omega) (by omega) (by omega) (by omega) (by omega) (by omega) (by omega) (by omega) (by omega)]; exact hP.2.2.2.2.2.2.2.1
      have h370 : w2 37 0 = 0 := by rw [eu 37 0 (by omega) (by omega) (by omega) (by omega) (by omega) (by omega) (by omega) (by omega) (by omega) (by omega) (by omega) (by omega)]; exact hP.2.2.2.2.2.2.2.2
      have hsz : ∀ k, k < c → am_le (w2 70 k) 20 := fun k hk => by rw [(m10 k hk).2]; exact (d4d k hk).2.2.1
      have kk : ∀ k, k < 6 → nI k < nI c → k < c := fun k z1 z2 => (nI_ltI (by omega) (by omega)).mp z2
      have hvs : i_vs w2 (w2 75) := by
        refine ⟨fun k hk => ⟨⟨0, by omega, m11 k (by omega)⟩, fun q => ?_, ⟨0, by omega, m11 _ (by omega)⟩, ⟨0, by omega, m11 _ (by omega)⟩⟩, ⟨0, by omega, m11 28 (by omega)⟩⟩
        rw [m4] at q
        obtain ⟨x, hx, ex⟩ := hsz k (kk k hk q)
        rw [m11 k (by omega), ex]; exact nI_pos' (by omega)
      have hInv : am_Inv dr w2 := by
        refine ⟨fr_msg h4.1 (fun a x q => ?_), fr_rows h4.2.1 (fun a x q => ?_), fr_txts h4.2.2.1 (fun a x q => ?_), ⟨?_, ⟨?_, ?_⟩, ⟨?_, ?_⟩, fun k hk q => ?_, fun k hk q => ?_, fun p hpp => ?_, h680, h320, h370⟩, scene_of (fun i hi => ?_) hvs, ?_, fun k hk => Or.inl ⟨?_, m12 k hk⟩, ⟨0, by omega, ?_, m6, fun b hb => absurd hb (Nat.not_lt_zero b)⟩⟩
        · unfold c_msg at q; exact eu a x (by omega) (by omega) (by omega) (by omega) (by omega) (by omega) (by omega) (by omega) (by omega) (by omega) (by omega) (by omega)
        · unfold c_rows at q; exact eu a x (by omega) (by omega) (by omega) (by omega) (by omega) (by omega) (by omega) (by omega) (by omega) (by omega) (by omega) (by omega)
        · unfold c_txts at q; exact eu a x (by omega) (by omega) (by omega) (by omega) (by omega) (by omega) (by omega) (by omega) (by omega) (by omega) (by omega) (by omega)
        · rw [ed _ _ (by omega) (by omega), m2]; exact d1
        · rw [ed _ _ (by omega) (by omega), m3, d2b, d2c]
        · rw [m3, d2c]; exact ⟨sc, d2a, rfl⟩
        · rw [ed _ _ (by omega) (by omega), m4, d4b]
        · rw [m4]; exact ⟨c, d4a, rfl⟩
        · rw [m3, d2c] at q
          rw [ed _ _ (by omega) (by omega), m7 k hk]; exact d2d k ((nI_ltI (by omega) (by omega)).mp q)
        · rw [m4] at q
          have hkc := kk k hk q
          rw [ed (dr + 3) k (by omega) (by omega), ed (dr + 4) k (by omega) (by omega), (m10 k hkc).1, (m10 k hkc).2]
          exact d4d k hkc
        · by_cases z : p = 0
          · subst z
            rw [h680, ed _ _ (by omega) (by omega), r3 _ _ (by omega) (by omega)]
            refine ⟨?_, 0, by omega, rfl⟩
            rcases hdr with z | z
            · rw [z]; exact hP.2.2.2.2.2.2.2.1
            · rw [z]; exact hP.2.2.2.2.2.2.2.2
          · rw [ed _ _ (by omega) (by omega), m8 p (by omega) hpp]; exact d3 p (by omega) hpp
        · rw [m11 i hi, sc_fr (u := y) (fun a x q => ew a x (by omega) (by omega) (by omega) (by omega) (by omega) (by omega)), ← hy]; exact cl_s i hi
        · obtain ⟨f, s, f1, f2, f3, -, -, -⟩ := h4.2.2.2.2.2.1
          refine ⟨f, 0, f1, by omega, ?_, ?_, m5, fun j hj => absurd hj (Nat.not_lt_zero j)⟩
          · rw [eu 14 2 (by omega) (by omega) (by omega) (by omega) (by omega) (by omega) (by omega) (by omega) (by omega) (by omega) (by omega) (by omega)]; exact f3
          · rw [ew 14 3 (by omega) (by omega) (by omega) (by omega) (by omega) (by omega), ← hy]; exact cl_14
        · rw [ew 20 k (by omega) (by omega) (by omega) (by omega) (by omega) (by omega), ← hy]; exact cl_20 hk
        · rw [ew 21 4 (by omega) (by omega) (by omega) (by omega) (by omega) (by omega), ← hy]; exact cl_21
      have e12 : am_ro B' 4 12 = am_ro B 4 12 := by rw [← hB', am_wR_ro (by omega), am_wR_ro (by omega), am_wR_ro (by omega)]
      refine ⟨am_of B' w2, .int (nI c), ⟨_, rfl⟩, ⟨h49.1, am_of B' y, b1, (am_L49 hLd).2, b2⟩, B', dr, pl, w2, rfl, ⟨hLd, by rw [← hB']; exact am_ro_s, by omega⟩, by rw [← hB']; exact h3, hInv, ?_, ?_, ?_⟩
      · have p1 := pz_wR (v := 2 * t + 52) (u2 := w2) (Or.inl ⟨rfl, rfl⟩) h5 (fun a ha => funext fun x => eu a x (by omega) (by omega) (by omega) (by omega) (by omega) (by omega) (by omega) (by omega) (by omega) (by omega) (by omega) (by omega))
        have p2 := pz_wR (v := dr) (u2 := w2) (Or.inr (Or.inl ⟨rfl, rfl⟩)) p1 (fun _ _ => rfl)
        have p3 := pz_wR (v := pl) (u2 := w2) (Or.inr (Or.inr ⟨rfl, rfl⟩)) p2 (fun _ _ => rfl)
        rw [hB'] at p3
        exact am_pz_up p3 (by omega)
      · rw [e12, ← hB']
        show am_nx B + _ ≤ _
        omega
      · rw [e12, ← hB']
        show am_sl B + _ ≤ _
        omega
    · obtain ⟨u2, r2, r4, -⟩ := r6 u1 (fun a c z => r3 a c (by omega) (by omega))
      have eo : ∀ a c, a ≠ 7 → ¬ (dr ≤ a ∧ a ≤ dr + 4 ∧ ¬ (a = dr + 2 ∧ c = 0)) → ¬ (a = 60 ∧ 15 ≤ c ∧ c ≤ 20) → ¬ (71 ≤ a ∧ a ≤ 74) → u2 a c = u a c := fun a c z1 z2 z3 z4 => by rw [r4 a c z3 z4, r3 a c z1 z2]
      have c1 := c10.trans (if_neg hres)
      have k2' : 0 ≤ u1 65 t := by rw [r3 65 t (by omega) (by omega)]; exact k2
      have c2 : f_X11_land a1 u1 = some (-4, u2) := by
        unfold f_X11_land; rw [isText_eq, show f_X10_isWithin a1 0 3 = some 1 from w, obs]
        refine (if_pos ne10).trans ?_
        rw [am_ck_t hix, hcl, if_pos k2', ha, r2, obs]
        exact if_neg hres
      have b2 := s_X11_land (l := l) (g := g) hL' a1 u1
      rw [c1] at b1
      rw [c2] at b2
      refine ⟨am_of (am_wR B 7 0 (2 * t + 52)) u2, .int (-4), ⟨_, rfl⟩, ⟨h49.1, am_of (am_wR B 7 0 (2 * t + 52)) u1, b1, (am_L49 hL').2, b2⟩, am_wR B 7 0 (2 * t + 52), pl, dr, u2, rfl, ⟨hL', by rw [am_wR_ro (by omega)]; exact h2.2.1, h2.2.2⟩, h3, fr_read hp h2.2.2 h4 eo, am_pz_up (pz_wR (Or.inl ⟨rfl, rfl⟩) h5 (fun a ha => funext fun c => eo a c (by omega) (by omega) (by omega) (by omega))) (by omega), ?_, ?_⟩
      · rw [am_wR_ro (by omega)]
        show am_nx B + _ ≤ _
        omega
      · rw [am_wR_ro (by omega)]
        show am_sl B + _ ≤ _
        omega
