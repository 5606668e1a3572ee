/-! way: both sides -/
theorem inv_way {pl : Nat} (hp : pl = 30 ∨ pl = 35) {u w : am_U} {r d : Nat} (R : Nat → Int32) (h : am_Inv pl u) (hr : r < 6) (hd : d ≤ 60) (e1 : w (2 * r + 40) 1 = nI d) (e2 : w 62 r = nI d) (e3 : ∀ b, b < 60 → w (2 * r + 41) b = R b) (e4 : ∀ b, b < 60 → w 63 (60 * r + b) = R b) (e : ∀ a b, a < 91 → ¬ (80 ≤ a ∧ a ≤ 85) → ¬ (a = 60 ∧ (b = 32 ∨ b = 39)) → ¬ (a = 2 * r + 40 ∧ b = 1) → a ≠ 2 * r + 41 → ¬ (a = 62 ∧ b = r) → ¬ (a = 63 ∧ 60 * r ≤ b ∧ b < 60 * r + 60) → w a b = u a b) : am_Inv pl w := by
  refine fr_mrt hp h (fr_msg h.1 (fun a b q => ?_)) (fun r' hr' => ?_) (fr_txts h.2.2.1 (fun a b q => ?_)) (fun a b q => ?_)
  · unfold c_msg at q
    exact e a b (by omega) (by omega) (by omega) (by omega) (by omega) (by omega) (by omega)
  · by_cases c : r' = r
    · subst c
      refine ⟨by rw [e1, e2], Or.inr ⟨d, hd, e2⟩, fun i hi => ?_⟩
      rw [e4 i hi]
      exact e3 i hi
    · obtain ⟨z1, z2, z3⟩ := h.2.1 r' hr'
      have y62 : w 62 r' = u 62 r' := e _ _ (by omega) (by omega) (by omega) (by omega) (by omega) (by omega) (by omega)
      refine ⟨?_, ?_, fun i hi => ?_⟩
      · rw [y62, ← z1]
        exact e _ _ (by omega) (by omega) (by omega) (by omega) (by omega) (by omega) (by omega)
      · rw [y62]; exact z2
      · rw [e 63 (60 * r' + i) (by omega) (by omega) (by omega) (by omega) (by omega) (by omega) (by omega), ← z3 i hi]
        exact e _ _ (by omega) (by omega) (by omega) (by omega) (by omega) (by omega) (by omega)
  · unfold c_txts at q
    exact e a b (by omega) (by omega) (by omega) (by omega) (by omega) (by omega) (by omega)
  · unfold c_rest c_plan c_vs c_scene c_deeds c_kept c_burn at q
    exact e a b (by omega) (by omega) (by omega) (by omega) (by omega) (by omega) (by omega)
def way_b (a1 a2 a3 : Int32) (q3 : Int32 × am_U) : Option (Int32 × am_U) :=
    if 0 ≤ q3.1 then (
      (f_X11_firstState a1 a2 q3.2).bind (fun q4 =>
      if ¬ q4.1 = ((-9) : Int32) then (
        am_ck (am_ix q4.1 9261) (
        if q4.2 82 q4.1.toNatClampNeg ≤ 60 then (
          am_ck (am_ix a3 6) (
          f_X11_way_85 a3 q4.1 (q4.2 82 q4.1.toNatClampNeg) (fun (c11u : am_U) =>
            f_X11_way_117 a3 (q4.2 82 q4.1.toNatClampNeg) 20000 q4.1 ((q4.2 82 q4.1.toNatClampNeg) - 1) c11u) 20000 0 (am_w q4.2 62 a3.toNatClampNeg (q4.2 82 q4.1.toNatClampNeg))))
        else (
          some (((-6) : Int32), q4.2))))
      else (
        some (((-9) : Int32), q4.2))))
    else (
      some (q3.1, q3.2))
theorem way_0 {a1 a2 a3 : Int32} {u : am_U} (w : f_X10_isWithin a3 0 5 = some 0) : f_X11_way a1 a2 a3 u = (f_X11_needStates 0 a1 u).bind (way_b a1 a2 a3) := by
  unfold f_X11_way
  rw [isRow_eq, w, obs, jn_eq]
  dsimp only
  rw [jn_eq, if_pos rfl]
  rfl
theorem way_1 {a1 a2 a3 q : Int32} {u : am_U} (w : f_X10_isWithin a3 0 5 = some 1) (w2 : f_X10_isWithin a2 0 20 = some q) (hq : q = 0 ∨ q = 1) : f_X11_way a1 a2 a3 u = (f_X11_needStates q a1 u).bind (way_b a1 a2 a3) := by
  unfold f_X11_way
  rw [isRow_eq, w, obs, jn_eq]
  dsimp only
  rw [jn_eq, if_neg ne10, in_eq, w2, obs]
  rcases hq with rfl | rfl
  · rw [if_pos rfl]; rfl
  · rw [if_neg ne10]; rfl
theorem ok_way {l : Launch} {g : am_G} (a1 a2 a3 : Int32) : am_ok l g d_X10_way d_X11_way [.int a1, .int a2, .int a3] am_isI := by
  intro i M hi5 hJ
  obtain ⟨B, pl, dr, u, rfl, h2, h3, h4, h5, h6, h7⟩ := hJ
  have hp := h2.1.2.2.2.1
  obtain ⟨pz, B1, u0, ho, -, E, -⟩ := pf_open (l := l) (g := g) h2 h3 h5 h6 h7
  have hpz := ho.1
  have wm1 : ∀ x : am_U, way_b a1 a2 a3 (-1, x) = some (-1, x) := fun x => if_neg g16
  rcases wi_cs a3 0 5 (by omega) (by omega) with w3 | ⟨r, -, hr, hb3, w3⟩
  · have c1 : g_way (g_pf pz pl a1 u0) pz B B1 pl a1 a2 a3 u = some (-1, am_of B u) := by
      unfold g_way
      rw [show f_X10_isWithin a3 0 5 = some 0 from w3, obs, jn_eq, if_pos rfl]
      exact if_neg m16
    have c2 : f_X11_way a1 a2 a3 u = some (-1, u) := by
      rw [way_0 w3]
      unfold f_X11_needStates
      rw [if_pos rfl, obs, wm1]
    exact cls0 h2 h3 h5 h6 h7 (E a1 a2 a3) (by rw [c1]; rfl) (s_X11_way (l := l) (g := g) h2.1 a1 a2 a3 u) (by rw [c2]; rfl) h4 (fun _ _ => rfl)
  have w3 : f_X10_isWithin a3 0 5 = some 1 := w3
  have hcl : ∀ v, f_X10_refusePouring pl a1 a2 u = some v → g_way (g_pf pz pl a1 u0) pz B B1 pl a1 a2 a3 u = if v = 0 then ((g_pf pz pl a1 u0).bind (fun q3 =>
      (f_X6_firstWith pz a1 a2 q3).bind (fun q4 =>
      if ¬ q4 = ((-9) : Int32) then (
        (f_X6_steps pz q4 q3).bind (fun q5 =>
        if q5 ≤ 60 then (
          am_ck (am_ix a3 6) (
          (f_X6_writeWay pz q4 q5 (2 * a3.toNatClampNeg + 40) q3).bind (fun q7 =>
          some (q5, am_of B1 q7))))
        else (
          some (((-6) : Int32), am_of B1 q3))))
      else (
        some (((-9) : Int32), am_of B1 q3))))) else some (v, am_of B u) := fun v hv => by
    unfold g_way
    rw [w3, obs, jn_eq, if_neg ne10, hv, obs]
  have bad : f_X10_refusePouring pl a1 a2 u = some (-1) → (∀ q, f_X10_isWithin a2 0 20 = some q → f_X11_needStates q a1 u = some (-1, u)) → ∃ M2 v, am_isI v ∧ am_pair l g d_X10_way d_X11_way [.int a1, .int a2, .int a3] (am_of B u) M2 v ∧ am_J (i + 6) M2 := fun r1 r2 => by
    have c1 : g_way (g_pf pz pl a1 u0) pz B B1 pl a1 a2 a3 u = some (-1, am_of B u) := by
      rw [hcl _ r1, if_neg m16]
    have c2 : f_X11_way a1 a2 a3 u = some (-1, u) := by
      rcases wi_01 a2 0 20 with z | z
      · rw [way_1 w3 z (Or.inl rfl), r2 0 z, obs, wm1]
      · rw [way_1 w3 z (Or.inr rfl), r2 1 z, obs, wm1]
    exact cls0 h2 h3 h5 h6 h7 (E a1 a2 a3) (by rw [c1]; rfl) (s_X11_way (l := l) (g := g) h2.1 a1 a2 a3 u) (by rw [c2]; rfl) h4 (fun _ _ => rfl)
  obtain ⟨n, hn, e1, e2, w | ⟨k0, hk, rfl, w⟩⟩ := ref_two h4 a1
  · exact bad (nb e1 w a2) (fun q _ => nbm e2 w q)
  obtain ⟨H, Zs, Q, hH, ⟨a0, ha0, hk0, hu0⟩, hJ6, hM, hC⟩ := srch hp h4 ho hi5 hn e1 e2 hk w
  have hrp := crp_eq e1 hn hk w hH a2
  rcases wi_cs a2 0 20 (by omega) (by omega) with w2 | ⟨v, -, hv, hb, w2⟩
  · rw [show f_X10_isWithin a2 0 20 = some 0 from w2, obs, if_neg (fun z => z rfl)] at hrp
    refine bad hrp (fun q hq => ?_)
    rw [show f_X10_isWithin a2 0 20 = some 0 from w2] at hq
    cases hq
    unfold f_X11_needStates
    rw [if_pos rfl]
  have w2 : f_X10_isWithin a2 0 20 = some 1 := w2
  rw [w2, obs, if_pos ne10] at hrp
  by_cases hl : H.length ≤ 3
  · rw [if_pos hl] at hrp
    obtain ⟨uc, st, c1, c2, c3, c4, c5⟩ := hC hl
    have hQn := wf_n c3
    obtain ⟨j, hj⟩ : ∃ j, m_fs Q a0 v Q.1 0 = j := ⟨_, rfl⟩
    have hslot : f_X6_slotOf pz (nI k0) uc = some (nI a0) := slot_lp hl c2.2.1 (fun a ha => (c2.2.2.2.1 a ha).1) hJ6 ha0 hk0 hu0 20000 0 (by omega) (by omega)
    have hfw : f_X6_firstWith pz (nI k0) a2 uc = some (m_ro j) := by
      unfold f_X6_firstWith
      rw [hslot, obs, hb]
      refine (fw_lp c2 c3 (show a0 < 3 by omega) hv 20000 0 (by omega) (by omega)).trans ?_
      rw [Nat.sub_zero, hj]
    have cc0 : g_way (g_pf pz pl (nI k0) u0) pz B B1 pl (nI k0) a2 a3 u = if ¬ m_ro j = -9 then (f_X6_steps pz (m_ro j) uc).bind (fun q5 => if q5 ≤ 60 then am_ck (am_ix a3 6) ((f_X6_writeWay pz (m_ro j) q5 (2 * a3.toNatClampNeg + 40) uc).bind (fun q7 => some (q5, am_of B1 q7))) else some (-6, am_of B1 uc)) else some (-9, am_of B1 uc) := by
      rw [hcl _ hrp, if_pos rfl, c1, obs, hfw, obs]
    have mm : ∀ v1 : am_U, (∀ x b, 60 ≤ x → x < 80 → ¬ (x = 60 ∧ (b = 2 ∨ b = 32 ∨ b = 39)) → v1 x b = u x b) → ∃ y, rM H.length (fun a => H.getD a 0) (fun a => Zs (H.getD a 0)) Q y ∧ (∀ x b, ¬ (80 ≤ x ∧ x ≤ 85) → ¬ (x = 60 ∧ (b = 32 ∨ b = 39)) → y x b = v1 x b) ∧ ∀ ms, j.elim (-9) (fun j => nI (Q.2.1 j)) = ms → f_X11_way (nI k0) a2 a3 v1 = if ¬ ms = -9 then am_ck (am_ix ms 9261) (if y 82 ms.toNatClampNeg ≤ 60 then am_ck (am_ix a3 6) (f_X11_way_85 a3 ms (y 82 ms.toNatClampNeg) (fun (c11u : am_U) => f_X11_way_117 a3 (y 82 ms.toNatClampNeg) 20000 ms ((y 82 ms.toNatClampNeg) - 1) c11u) 20000 0 (am_w y 62 a3.toNatClampNeg (y 82 ms.toNatClampNeg))) else some (-6, y)) else some (-9, y) := fun v1 hv1 => by
      obtain ⟨y, y1, y2, y3⟩ := (hM v1 hv1 1 ne10).1 hl
      obtain ⟨x, x1, x2, x3⟩ := fst_lp hl c3 hJ6 ha0 hk0 hu0 hv 20000 0 y y2 (by omega) (by omega)
      rw [Nat.sub_zero, hj] at x1
      refine ⟨x, x2, fun a b z1 z2 => by rw [x3 a b (by omega), y3 a b z1 z2], fun ms hms => ?_⟩
      rw [hms] at x1
      rw [way_1 w3 w2 (Or.inr rfl), y1, obs]
      refine (if_pos (show (0 : Int32) ≤ 0 by decide)).trans ?_
      show (f_X11_firstState (nI k0) a2 y).bind _ = _
      rw [hb, show f_X11_firstState (nI k0) (nI v) y = _ from x1, obs]
    cases j with
    | none =>
      obtain ⟨y, m1, m2, m3⟩ := mm uc (fun x b z1 z2 _ => lt91 c5 (by omega) b)
      have cm : f_X11_way (nI k0) a2 a3 uc = some (-9, y) := (m3 (-9) rfl).trans (if_neg (fun z => z rfl))
      refine cls1 (st := st) (u2 := y) h2 ho (E (nI k0) a2 a3) (by rw [cc0, if_neg (fun z => z rfl)]; rfl) (s_X11_way (l := l) (g := g) ho.2.1.1 (nI k0) a2 a3 _) (by rw [cm]; rfl) (fr_80 hp h4 (fun a b z1 z2 z3 => by rw [m2 a b z2 z3, lt91 c5 z1])) c4 ?_ (fun c hc => ?_)
      · rw [m2 _ _ (by omega) (by omega)]; exact c2.1
      · rw [m2 _ _ (by omega) (by omega)]; exact c2.2.2.2.2.2.2 c hc
    | some j =>
      have hjl := (fs_lt _ _ _ hj).2
      have hjn : j < Q.1 := by omega
      obtain ⟨q1, -, -, q4, -⟩ := c3.1 j hjn
      have hstep := stp_eq c2 c3 hjn
      rw [show m_ro (some j) = nI j from rfl, if_pos (nI_m9 (by omega)), hstep, obs] at cc0
      obtain ⟨d, hdd⟩ : ∃ d, Q.2.2.2 j = d := ⟨_, rfl⟩
      rw [hdd] at cc0 q4
      by_cases hd : d ≤ 60
      · rw [if_pos (show nI d ≤ (60 : Int32) from nI_le (b := 60) hd (by omega)), hb3, am_ck_t (am_ix_nI (show r < 6 by omega) (by omega)), nI_clamp (show r < 2 ^ 31 by omega)] at cc0
        obtain ⟨x, x1, x2, x3⟩ := cwy_lp (T := 2 * r + 40) hpz (by omega) c3 d 20000 j (am_fl (am_w uc (2 * r + 40) 1 (nI d)) (2 * r + 40 + 1) 0 60 0) (fun j' hj' => by rw [am_fl_n (by omega), am_w_n (by omega)]; exact (c2.2.2.2.2.1 j' hj').2) hjn hdd hd (by omega)
        have hww : f_X6_writeWay pz (nI j) (nI d) (2 * r + 40) uc = some x := by
          unfold f_X6_writeWay
          rw [make_eq, obs]
          exact x1
        rw [hww, obs] at cc0
        have x4 : ∀ b, b < 60 → x (2 * r + 41) b = m_wy Q d j (fun _ => 0) b := fun b hb => by
          have := x2 b
          rw [show 2 * r + 40 + 1 = 2 * r + 41 by omega] at this
          rw [this]
          exact wy_c d j _ _ (fun c hc => am_fl_s (by omega)) b hb
        have x5 : ∀ a b, a ≠ 2 * r + 41 → ¬ (a = 2 * r + 40 ∧ b = 1) → x a b = uc a b := fun a b z1 z2 => by
          rw [x3 a b (by omega), am_fl_n (by omega), am_w_n z2]
        have x6 : x (2 * r + 40) 1 = nI d := by rw [x3 _ _ (by omega), am_fl_n (by omega), am_w_s]
        obtain ⟨y, m1, m2, m3⟩ := mm x (fun a b z1 z2 _ => by rw [x5 a b (by omega) (by omega), lt91 c5 (by omega)])
        obtain ⟨z, t1, t2, t3⟩ := mwy_lp (r := r) (J := fun a => H.getD a 0) (by omega) (nI d) c3 d 20000 j (am_fl (am_w y 62 r (nI d)) 63 (60 * r + 0) (60 * r + 60) 0) (fun j' z0 z1 => by
          rw [am_fl_n (by omega), am_fl_n (by omega), am_w_n (by omega), am_w_n (by omega)]
          exact (m1.2.2.2.1 j' z1).2.2 z0) hjn hdd hd (by omega)
        have cm : f_X11_way (nI k0) a2 a3 x = some (nI d, z) := by
          refine (m3 (nI (Q.2.1 j)) rfl).trans ((if_pos (nI_m9 (show Q.2.1 j < 2 ^ 31 by omega))).trans ?_)
          rw [am_ck_t (am_ix_nI q1 (by omega)), nI_clamp (show Q.2.1 j < 2 ^ 31 by omega), (m1.2.2.2.1 j hjn).2.1, hdd, if_pos (show nI d ≤ (60 : Int32) from nI_le (b := 60) hd (by omega)), hb3, am_ck_t (am_ix_nI (show r < 6 by omega) (by omega)), nI_clamp (show r < 2 ^ 31 by omega)]
          exact (w85_lp (by omega) _ _ _ 20000 0 _ (by omega) (by omega)).trans t1
        have fr : ∀ a b, ¬ (80 ≤ a ∧ a ≤ 85) → ¬ (a = 60 ∧ (b = 32 ∨ b = 39)) → ¬ (a = 2 * r + 40 ∧ b = 1) → a ≠ 2 * r + 41 → ¬ (a = 62 ∧ b = r) → ¬ (a = 63 ∧ 60 * r ≤ b ∧ b < 60 * r + 60) → z a b = uc a b := fun a b z1 z2 z3 z4 z5 z6 => by
          rw [t3 a b z6, am_fl_n (by omega), am_w_n z5, m2 a b z1 z2, x5 a b z4 z3]
        refine cls1 (st := st) (u1 := x) (u2 := z) (v := nI d) h2 ho (E (nI k0) a2 a3) (by rw [hb3, cc0]; rfl) (s_X11_way (l := l) (g := g) ho.2.1.1 (nI k0) a2 a3 _) (by rw [cm]; rfl) (inv_way hp (r := r) (d := d) (m_wy Q d j (fun _ => 0)) h4 (by omega) hd ?_ ?_ (fun b hb => ?_) (fun b hb => ?_) (fun a b z0 z1 z2 z3 z4 z5 z6 => by rw [fr a b z1 z2 z3 z4 z5 z6, lt91 c5 z0])) c4 ?_ (fun c hc => ?_)
        · rw [t3 _ _ (by omega), am_fl_n (by omega), am_w_n (by omega), m2 _ _ (by omega) (by omega), x6]
        · rw [t3 _ _ (by omega), am_fl_n (by omega), am_w_s]
        · rw [t3 _ _ (by omega), am_fl_n (by omega), am_w_n (by omega), m2 _ _ (by omega) (by omega), x4 b hb]
        · rw [t2 b hb]
          exact wy_c d j _ _ (fun c hc => am_fl_s (by omega)) b hb
        · rw [fr _ _ (by omega) (by omega) (by omega) (by omega) (by omega) (by omega)]; exact c2.1
        · rw [fr _ _ (by omega) (by omega) (by omega) (by omega) (by omega) (by omega)]; exact c2.2.2.2.2.2.2 c hc
      · rw [if_neg (show ¬ nI d ≤ (60 : Int32) from nI_ge (a := 60) (by omega) (by omega))] at cc0
        obtain ⟨y, m1, m2, m3⟩ := mm uc (fun x b z1 z2 _ => lt91 c5 (by omega) b)
        have cm : f_X11_way (nI k0) a2 a3 uc = some (-6, y) := by
          refine (m3 (nI (Q.2.1 j)) rfl).trans ((if_pos (nI_m9 (show Q.2.1 j < 2 ^ 31 by omega))).trans ?_)
          rw [am_ck_t (am_ix_nI q1 (by omega)), nI_clamp (show Q.2.1 j < 2 ^ 31 by omega), (m1.2.2.2.1 j hjn).2.1, hdd, if_neg (show ¬ nI d ≤ (60 : Int32) from nI_ge (a := 60) (by omega) (by omega))]
        refine cls1 (st := st) (u2 := y) h2 ho (E (nI k0) a2 a3) (by rw [cc0]; rfl) (s_X11_way (l := l) (g := g) ho.2.1.1 (nI k0) a2 a3 _) (by rw [cm]; rfl) (fr_80 hp h4 (fun a b z1 z2 z3 => by rw [m2 a b z2 z3, lt91 c5 z1])) c4 ?_ (fun c hc => ?_)
        · rw [m2 _ _ (by omega) (by omega)]; exact c2.1
        · rw [m2 _ _ (by omega) (by omega)]; exact c2.2.2.2.2.2.2 c hc
  · rw [if_neg hl] at hrp
    have cc : g_way (g_pf pz pl (nI k0) u0) pz B B1 pl (nI k0) a2 a3 u = some (-6, am_of B u) := by
      rw [hcl _ hrp, if_neg m66]
    obtain ⟨y, y1, y2⟩ := (hM u (fun _ _ _ _ _ => rfl) 1 ne10).2 hl
    have cm : f_X11_way (nI k0) a2 a3 u = some (-6, y) := by
      rw [way_1 w3 w2 (Or.inr rfl), y1, obs]; exact if_neg g66
    exact cls0 h2 h3 h5 h6 h7 (E (nI k0) a2 a3) (by rw [cc]; rfl) (s_X11_way (l := l) (g := g) h2.1 (nI k0) a2 a3 u) (by rw [cm]; rfl) (fr_80 hp h4 (fun a b z1 z2 z3 => y2 a b z2 z3)) (fun a ha => funext fun b => y2 a b (by omega) (by omega))
