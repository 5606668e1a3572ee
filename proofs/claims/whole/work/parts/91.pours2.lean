/-! the four pairs -/
theorem lt91 {u uc : am_U} (h : ∀ a, a < 91 → uc a = u a) {a : Nat} (ha : a < 91) (b : Nat) : uc a b = u a b := by rw [h a ha]
/-- told, and nothing else that counts -/
theorem inv_t80 {pl : Nat} (hp : pl = 30 ∨ pl = 35) {u uc w : am_U} (x : Int32) (hI : am_Inv pl u) (hc : ∀ a, a < 91 → uc a = u a) (e : ∀ a b, ¬ (80 ≤ a ∧ a ≤ 85) → ¬ (a = 60 ∧ (b = 2 ∨ b = 32 ∨ b = 39)) → ¬ (a = 4 ∧ b = 13) → w a b = uc a b) (e1 : w 4 13 = x) (e2 : w 60 2 = x) : am_Inv pl w := by
  refine fr_80 hp (inv_tell hp hI x).1 (fun a b z1 z2 z3 => ?_)
  rw [am_w_ap, am_w_ap]
  by_cases c1 : a = 60 ∧ b = 2
  · rw [if_pos c1, c1.1, c1.2, e2]
  · rw [if_neg c1]
    by_cases c2 : a = 4 ∧ b = 13
    · rw [if_pos c2, c2.1, c2.2, e1]
    · rw [if_neg c2, e a b z2 (by omega) c2, lt91 hc z1]
theorem nb {pl n : Nat} {u : am_U} {a1 : Int32} (e1 : u pl 2 = nI n) (w : f_X10_isWithin a1 0 (nI n - 1) = some 0) (a2 : Int32) : f_X10_refusePouring pl a1 a2 u = some (-1) := by
  unfold f_X10_refusePouring
  rw [cjar_eq a1 e1, w, obs, if_pos rfl]
theorem nbm {n : Nat} {u : am_U} {a1 : Int32} (e2 : u 60 12 = nI n) (w : f_X10_isWithin a1 0 (nI n - 1) = some 0) (a : Int32) : f_X11_needStates a a1 u = some (-1, u) := by
  unfold f_X11_needStates
  by_cases c : a = 0
  · rw [if_pos c]
  · rw [if_neg c, mjar_eq a1 e2, w, obs, if_neg (fun z => z rfl)]
theorem m16 : ¬ (-1 : Int32) = 0 := by decide
theorem m66 : ¬ (-6 : Int32) = 0 := by decide
theorem g16 : ¬ (0 : Int32) ≤ -1 := by decide
theorem g66 : ¬ (0 : Int32) ≤ -6 := by decide
theorem ok_most {l : Launch} {g : am_G} (a1 : Int32) : am_ok l g d_X10_most d_X11_most [.int a1] am_isI := by
  intro i M hi5 hJ
  obtain ⟨B, pl, dr, u, rfl, h2, h3, h4, h5, h6, h7⟩ := hJ
  have hp := h2.1.2.2.2.1
  obtain ⟨pz, B1, u0, ho, -, -, -, E⟩ := pf_open (l := l) (g := g) h2 h3 h5 h6 h7
  obtain ⟨n, hn, e1, e2, w | ⟨k0, hk, rfl, w⟩⟩ := ref_two h4 a1
  · have c1 : g_most (g_pf pz pl a1 u0) pz B B1 pl a1 u = some (-1, am_of B u) := by
      unfold g_most; rw [nb e1 w, obs, if_neg m16]
    have c2 : f_X11_most a1 u = some (-1, u) := by
      unfold f_X11_most; rw [nbm e2 w, obs]; exact if_neg g16
    exact cls0 h2 h3 h5 h6 h7 (E a1) (by rw [c1]; rfl) (s_X11_most (l := l) (g := g) h2.1 a1 u) (by rw [c2]; rfl) h4 (fun _ _ => rfl)
  obtain ⟨H, Zs, Q, hH, ⟨a0, ha0, hk0, hu0⟩, hJ6, hM, hC⟩ := srch hp h4 ho hi5 hn e1 e2 hk w
  have hrp := crp_eq e1 hn hk w hH 0
  rw [show f_X10_isWithin 0 0 20 = some 1 from rfl, obs, if_pos ne10] at hrp
  by_cases hl : H.length ≤ 3
  · rw [if_pos hl] at hrp
    obtain ⟨uc, st, c1, c2, c3, c4, c5⟩ := hC hl
    have hQn := wf_n c3
    obtain ⟨mo, hmo⟩ : ∃ mo, m_mo Q a0 Q.1 0 0 = mo := ⟨_, rfl⟩
    have hslot : f_X6_slotOf pz (nI k0) uc = some (nI a0) := slot_lp hl c2.2.1 (fun a ha => (c2.2.2.2.1 a ha).1) hJ6 ha0 hk0 hu0 20000 0 (by omega) (by omega)
    have hmost : f_X6_mostIn pz (nI k0) uc = some (nI mo) := by
      unfold f_X6_mostIn
      rw [hslot, obs]
      refine (cmo_lp c2 c3 (show a0 < 3 by omega) 20000 0 0 (by omega) (by omega) (by omega)).trans ?_
      rw [Nat.sub_zero, hmo]
    have cc : g_most (g_pf pz pl (nI k0) u0) pz B B1 pl (nI k0) u = some (nI mo, am_of B1 (am_w uc 4 13 (nI Q.1))) := by
      unfold g_most
      rw [hrp, obs, if_pos rfl, c1, obs, hmost, obs, c2.2.2.1, tell_c, obs]
    obtain ⟨y, y1, y2, y3⟩ := (hM (am_w uc 4 13 (nI Q.1)) (fun x b z1 z2 _ => by rw [am_w_n (by omega), lt91 c5 (by omega)]) 1 ne10).1 hl
    obtain ⟨x, x1, x2, x3⟩ := mmo_lp hl c3 hJ6 ha0 hk0 hu0 (fun (c8v3 : Int32) (c8u : am_U) => some (c8v3, am_w c8u 60 2 (c8u 60 39))) 20000 0 0 y (by omega) y2 (by omega) (by omega)
    rw [Nat.sub_zero, hmo, x2.2.1] at x1
    have cm : f_X11_most (nI k0) (am_w uc 4 13 (nI Q.1)) = some (nI mo, am_w x 60 2 (nI Q.1)) := by
      unfold f_X11_most
      rw [y1, obs]
      refine (if_pos (show (0 : Int32) ≤ 0 by decide)).trans ?_
      simp only [tell_m, obs]
      exact x1
    have fr : ∀ a b, ¬ (80 ≤ a ∧ a ≤ 85) → ¬ (a = 60 ∧ (b = 2 ∨ b = 32 ∨ b = 39)) → ¬ (a = 4 ∧ b = 13) → am_w x 60 2 (nI Q.1) a b = uc a b := fun a b z1 z2 z3 => by
      rw [am_w_n (by omega), x3 a b (by omega), y3 a b z1 (by omega), am_w_n z3]
    refine cls1 (st := st) h2 ho (E (nI k0)) (by rw [cc]; rfl) (s_X11_most (l := l) (g := g) ho.2.1.1 (nI k0) _) (by rw [cm]; rfl) (inv_t80 hp (nI Q.1) h4 c5 fr ?_ (am_w_s _ _ _ _)) c4 ?_ (fun c hc => ?_)
    · rw [am_w_n (by omega), x3 _ _ (by omega), y3 _ _ (by omega) (by omega), am_w_s]
    · have := ho.1
      rw [fr _ _ (by omega) (by omega) (by omega)]; exact c2.1
    · have := ho.1
      rw [fr _ _ (by omega) (by omega) (by omega)]; exact c2.2.2.2.2.2.2 c hc
  · rw [if_neg hl] at hrp
    have cc : g_most (g_pf pz pl (nI k0) u0) pz B B1 pl (nI k0) u = some (-6, am_of B u) := by
      unfold g_most; rw [hrp, obs, if_neg m66]
    obtain ⟨y, y1, y2⟩ := (hM u (fun _ _ _ _ _ => rfl) 1 ne10).2 hl
    have cm : f_X11_most (nI k0) u = some (-6, y) := by
      unfold f_X11_most; rw [y1, obs]; exact if_neg g66
    exact cls0 h2 h3 h5 h6 h7 (E (nI k0)) (by rw [cc]; rfl) (s_X11_most (l := l) (g := g) h2.1 (nI k0) u) (by rw [cm]; rfl) (fr_80 hp h4 (fun a b z1 z2 z3 => y2 a b z2 z3)) (fun a ha => funext fun b => y2 a b (by omega) (by omega))
theorem ok_loss {l : Launch} {g : am_G} (a1 a2 : Int32) : am_ok l g d_X10_loss d_X11_loss [.int a1, .int a2] am_isI := by
  intro i M hi5 hJ
  obtain ⟨B, pl, dr, u, rfl, h2, h3, h4, h5, h6, h7⟩ := hJ
  have hp := h2.1.2.2.2.1
  obtain ⟨pz, B1, u0, ho, -, -, E, -⟩ := pf_open (l := l) (g := g) h2 h3 h5 h6 h7
  have bad : f_X10_refusePouring pl a1 a2 u = some (-1) → (∀ q, f_X10_isWithin a2 0 20 = some q → f_X11_needStates q a1 u = some (-1, u)) → ∃ M2 v, am_isI v ∧ am_pair l g d_X10_loss d_X11_loss [.int a1, .int a2] (am_of B u) M2 v ∧ am_J (i + 6) M2 := fun r1 r2 => by
    have c1 : g_loss (g_pf pz pl a1 u0) pz B B1 pl a1 a2 u = some (-1, am_of B u) := by
      unfold g_loss; rw [r1, obs, if_neg m16]
    have c2 : f_X11_loss a1 a2 u = some (-1, u) := by
      unfold f_X11_loss
      rw [in_eq]
      rcases wi_01 a2 0 20 with z | z
      · rw [z, obs, r2 0 z, obs]; exact if_neg g16
      · rw [z, obs, r2 1 z, obs]; exact if_neg g16
    exact cls0 h2 h3 h5 h6 h7 (E a1 a2) (by rw [c1]; rfl) (s_X11_loss (l := l) (g := g) h2.1 a1 a2 u) (by rw [c2]; rfl) h4 (fun _ _ => rfl)
  obtain ⟨n, hn, e1, e2, w | ⟨k0, hk, rfl, w⟩⟩ := ref_two h4 a1
  · exact bad (nb e1 w a2) (fun q _ => nbm e2 w q)
  obtain ⟨H, Zs, Q, hH, ⟨a0, ha0, hk0, hu0⟩, hJ6, hM, hC⟩ := srch hp h4 ho hi5 hn e1 e2 hk w
  have hrp := crp_eq e1 hn hk w hH a2
  rcases wi_cs a2 0 20 (by omega) (by omega) with w2 | ⟨v, -, hv, hb, w2⟩
  · rw [show f_X10_isWithin a2 0 20 = some 0 from w2, obs, if_neg (fun z => z rfl)] at hrp
    refine bad hrp (fun q hq => ?_)
    rw [show f_X10_isWithin a2 0 20 = some 0 from w2] at hq
    cases hq
    unfold f_X11_needStates
    rw [if_pos rfl]
  rw [show f_X10_isWithin a2 0 20 = some 1 from w2, obs, if_pos ne10] at hrp
  have hE0 : ∀ x : am_U, f_X11_loss (nI k0) a2 x = (f_X11_needStates 1 (nI k0) x).bind (fun q2 => if 0 ≤ q2.1 then (f_X11_sumOf (q2.2 83 0) q2.2).bind (fun q3 => f_X11_loss_38 (nI k0) a2 q3.1 20000 (-9) 0 q3.2) else some (q2.1, q2.2)) := fun x => by
    unfold f_X11_loss
    rw [in_eq, show f_X10_isWithin a2 0 20 = some 1 from w2, obs]
  by_cases hl : H.length ≤ 3
  · rw [if_pos hl] at hrp
    obtain ⟨uc, st, c1, c2, c3, c4, c5⟩ := hC hl
    have hQn := wf_n c3
    obtain ⟨z, hz⟩ : ∃ z, m_ll Q a0 v Q.1 0 (-9) = z := ⟨_, rfl⟩
    have hslot : f_X6_slotOf pz (nI k0) uc = some (nI a0) := slot_lp hl c2.2.1 (fun a ha => (c2.2.2.2.1 a ha).1) hJ6 ha0 hk0 hu0 20000 0 (by omega) (by omega)
    have hls : f_X6_leastSpilt pz (nI k0) a2 uc = some z := by
      unfold f_X6_leastSpilt
      rw [hslot, obs, hb]
      refine (cll_lp c2 c3 (show a0 < 3 by omega) hv 20000 0 (-9) (by omega) (by omega)).trans ?_
      rw [Nat.sub_zero, hz]
    have cc : g_loss (g_pf pz pl (nI k0) u0) pz B B1 pl (nI k0) a2 u = some (z, am_of B1 uc) := by
      unfold g_loss
      rw [hrp, obs, if_pos rfl, c1, obs, hls, obs]
    obtain ⟨y, y1, y2, y3⟩ := (hM uc (fun x b z1 z2 _ => lt91 c5 (by omega) b) 1 ne10).1 hl
    obtain ⟨s, s1, s2, s3⟩ := sum_eq (j := 0) hl (by omega) y2 c3 c3.2.2.2
    obtain ⟨x, x1, x2, x3⟩ := mll_lp hl (by omega) c3 hJ6 ha0 hk0 hu0 hv 20000 0 (-9) s s2 (by omega) (by omega)
    rw [Nat.sub_zero, hz] at x1
    have cm : f_X11_loss (nI k0) a2 uc = some (z, x) := by
      rw [hE0, y1, obs]
      refine (if_pos (show (0 : Int32) ≤ 0 by decide)).trans ?_
      show (f_X11_sumOf (y 83 0) y).bind _ = _
      rw [(y2.2.2.2.1 0 c3.2.2.2).1, s1, obs, hb]
      exact x1
    have fr : ∀ a b, ¬ (80 ≤ a ∧ a ≤ 85) → ¬ (a = 60 ∧ (b = 32 ∨ b = 39)) → x a b = uc a b := fun a b z1 z2 => by
      rw [x3 a b (by omega), s3 a b (by omega), y3 a b z1 z2]
    have := ho.1
    refine cls1 (st := st) (u2 := x) h2 ho (E (nI k0) a2) (by rw [cc]; rfl) (s_X11_loss (l := l) (g := g) ho.2.1.1 (nI k0) a2 _) (by rw [cm]; rfl) (fr_80 hp h4 (fun a b z1 z2 z3 => by rw [fr a b z2 z3, lt91 c5 z1])) c4 ?_ (fun c hc => ?_)
    · rw [fr _ _ (by omega) (by omega)]; exact c2.1
    · rw [fr _ _ (by omega) (by omega)]; exact c2.2.2.2.2.2.2 c hc
  · rw [if_neg hl] at hrp
    have cc : g_loss (g_pf pz pl (nI k0) u0) pz B B1 pl (nI k0) a2 u = some (-6, am_of B u) := by
      unfold g_loss; rw [hrp, obs, if_neg m66]
    obtain ⟨y, y1, y2⟩ := (hM u (fun _ _ _ _ _ => rfl) 1 ne10).2 hl
    have cm : f_X11_loss (nI k0) a2 u = some (-6, y) := by
      rw [hE0, y1, obs]; exact if_neg g66
    exact cls0 h2 h3 h5 h6 h7 (E (nI k0) a2) (by rw [cc]; rfl) (s_X11_loss (l := l) (g := g) h2.1 (nI k0) a2 u) (by rw [cm]; rfl) (fr_80 hp h4 (fun a b z1 z2 z3 => y2 a b z2 z3)) (fun a ha => funext fun b => y2 a b (by omega) (by omega))
theorem ok_pours {l : Launch} {g : am_G} (a1 a2 : Int32) : am_ok l g d_X10_pours d_X11_pours [.int a1, .int a2] am_isI := by
  intro i M hi5 hJ
  obtain ⟨B, pl, dr, u, rfl, h2, h3, h4, h5, h6, h7⟩ := hJ
  have hp := h2.1.2.2.2.1
  obtain ⟨pz, B1, u0, ho, E, -⟩ := pf_open (l := l) (g := g) h2 h3 h5 h6 h7
  have hpz := ho.1
  have bad : f_X10_refusePouring pl a1 a2 u = some (-1) → (∀ q, f_X10_isWithin a2 0 20 = some q → f_X11_needStates q a1 u = some (-1, u)) → ∃ M2 v, am_isI v ∧ am_pair l g d_X10_pours d_X11_pours [.int a1, .int a2] (am_of B u) M2 v ∧ am_J (i + 6) M2 := fun r1 r2 => by
    have c1 : g_pours (g_pf pz pl a1 u0) pz B B1 pl a1 a2 u = some (-1, am_of B u) := by
      unfold g_pours; rw [r1, obs, if_neg m16]
    have c2 : f_X11_pours a1 a2 u = some (-1, u) := by
      unfold f_X11_pours
      rw [in_eq]
      rcases wi_01 a2 0 20 with z | z
      · rw [z, obs, r2 0 z, obs]; exact if_neg g16
      · rw [z, obs, r2 1 z, obs]; exact if_neg g16
    exact cls0 h2 h3 h5 h6 h7 (E a1 a2) (by rw [c1]; rfl) (s_X11_pours (l := l) (g := g) h2.1 a1 a2 u) (by rw [c2]; rfl) h4 (fun _ _ => rfl)
  obtain ⟨n, hn, e1, e2, w | ⟨k0, hk, rfl, w⟩⟩ := ref_two h4 a1
  · exact bad (nb e1 w a2) (fun q _ => nbm e2 w q)
  obtain ⟨H, Zs, Q, hH, ⟨a0, ha0, hk0, hu0⟩, hJ6, hM, hC⟩ := srch hp h4 ho hi5 hn e1 e2 hk w
  have hrp := crp_eq e1 hn hk w hH a2
  rcases wi_cs a2 0 20 (by omega) (by omega) with w2 | ⟨v, -, hv, hb, w2⟩
  · rw [show f_X10_isWithin a2 0 20 = some 0 from w2, obs, if_neg (fun z => z rfl)] at hrp
    refine bad hrp (fun q hq => ?_)
    rw [show f_X10_isWithin a2 0 20 = some 0 from w2] at hq
    cases hq
    unfold f_X11_needStates
    rw [if_pos rfl]
  rw [show f_X10_isWithin a2 0 20 = some 1 from w2, obs, if_pos ne10] at hrp
  by_cases hl : H.length ≤ 3
  · rw [if_pos hl] at hrp
    obtain ⟨uc, st, c1, c2, c3, c4, c5⟩ := hC hl
    have hQn := wf_n c3
    obtain ⟨j, hj⟩ : ∃ j, m_fs Q a0 v Q.1 0 = j := ⟨_, rfl⟩
    have hslot : f_X6_slotOf pz (nI k0) uc = some (nI a0) := slot_lp hl c2.2.1 (fun a ha => (c2.2.2.2.1 a ha).1) hJ6 ha0 hk0 hu0 20000 0 (by omega) (by omega)
    have hfw : f_X6_firstWith pz (nI k0) a2 uc = some (m_ro j) := by
      unfold f_X6_firstWith
      rw [hslot, obs, hb]
      refine (fw_lp c2 c3 (show a0 < 3 by omega) hv 20000 0 (by omega) (by omega)).trans ?_
      rw [Nat.sub_zero, hj]
    have cc0 : g_pours (g_pf pz pl (nI k0) u0) pz B B1 pl (nI k0) a2 u = if ¬ m_ro j = -9 then (f_X6_steps pz (m_ro j) uc).bind (fun q4 => if q4 ≤ 60 then (f_X6_spilt pz (m_ro j) uc).bind (fun q5 => some (q4, am_of B1 (am_w uc 4 13 q5))) else some (-6, am_of B1 uc)) else some (-9, am_of B1 uc) := by
      unfold g_pours
      rw [hrp, obs, if_pos rfl, c1, obs, hfw, obs]
      simp only [tell_c, obs]
    have mm : ∀ v1 : am_U, (∀ x b, 60 ≤ x → x < 80 → ¬ (x = 60 ∧ (b = 2 ∨ b = 32 ∨ b = 39)) → v1 x b = u x b) → ∃ y, rM H.length (fun a => H.getD a 0) (fun a => Zs (H.getD a 0)) Q y ∧ (∀ x b, ¬ (80 ≤ x ∧ x ≤ 85) → ¬ (x = 60 ∧ (b = 32 ∨ b = 39)) → y x b = v1 x b) ∧ f_X11_pours (nI k0) a2 v1 = if ¬ j.elim (-9) (fun j => nI (Q.2.1 j)) = -9 then am_ck (am_ix (j.elim (-9) (fun j => nI (Q.2.1 j))) 9261) (if y 82 (j.elim (-9) (fun j => nI (Q.2.1 j))).toNatClampNeg ≤ 60 then (f_X11_sumOf (y 83 0) y).bind (fun q5 => (f_X11_sumOf (j.elim (-9) (fun j => nI (Q.2.1 j))) q5.2).bind (fun q6 => some (q6.2 82 (j.elim (-9) (fun j => nI (Q.2.1 j))).toNatClampNeg, am_w q6.2 60 2 (q5.1 - q6.1)))) else some (-6, y)) else some (-9, y) := fun v1 hv1 => by
      obtain ⟨y, y1, y2, y3⟩ := (hM v1 hv1 1 ne10).1 hl
      obtain ⟨x, x1, x2, x3⟩ := fst_lp hl c3 hJ6 ha0 hk0 hu0 hv 20000 0 y y2 (by omega) (by omega)
      rw [Nat.sub_zero, hj] at x1
      refine ⟨x, x2, fun a b z1 z2 => by rw [x3 a b (by omega), y3 a b z1 z2], ?_⟩
      unfold f_X11_pours
      rw [in_eq, show f_X10_isWithin a2 0 20 = some 1 from w2, obs, y1, obs]
      refine (if_pos (show (0 : Int32) ≤ 0 by decide)).trans ?_
      show (f_X11_firstState (nI k0) a2 y).bind _ = _
      rw [hb, show f_X11_firstState (nI k0) (nI v) y = _ from x1, obs]
      simp only [tell_m, obs]
    cases j with
    | none =>
      obtain ⟨y, m1, m2, m3⟩ := mm uc (fun x b z1 z2 _ => lt91 c5 (by omega) b)
      have cm : f_X11_pours (nI k0) a2 uc = some (-9, y) := m3.trans (if_neg (fun z => z rfl))
      refine cls1 (st := st) (u2 := y) h2 ho (E (nI k0) a2) (by rw [cc0, if_neg (fun z => z rfl)]; rfl) (s_X11_pours (l := l) (g := g) ho.2.1.1 (nI k0) a2 _) (by rw [cm]; rfl) (fr_80 hp h4 (fun a b z1 z2 z3 => by rw [m2 a b z2 z3, lt91 c5 z1])) c4 ?_ (fun c hc => ?_)
      · rw [m2 _ _ (by omega) (by omega)]; exact c2.1
      · rw [m2 _ _ (by omega) (by omega)]; exact c2.2.2.2.2.2.2 c hc
    | some j =>
      have hjl := (fs_lt _ _ _ hj).2
      have hjn : j < Q.1 := by omega
      obtain ⟨q1, -, -, q4, -⟩ := c3.1 j hjn
      have hstep := stp_eq c2 c3 hjn
      rw [show m_ro (some j) = nI j from rfl, if_pos (nI_m9 (by omega)), hstep, obs] at cc0
      by_cases hd : Q.2.2.2 j ≤ 60
      · rw [if_pos (show nI (Q.2.2.2 j) ≤ (60 : Int32) from nI_le (b := 60) hd (by omega)), spl_eq c2 c3 hjn, obs] at cc0
        obtain ⟨z, hz⟩ : ∃ z, nI (m_to (Q.2.1 0)) - nI (m_to (Q.2.1 j)) = z := ⟨_, rfl⟩
        rw [hz] at cc0
        obtain ⟨y, m1, m2, m3⟩ := mm (am_w uc 4 13 z) (fun x b z1 z2 _ => by rw [am_w_n (by omega), lt91 c5 (by omega)])
        obtain ⟨s, s1, s2, s3⟩ := sum_eq (j := 0) hl (by omega) m1 c3 c3.2.2.2
        obtain ⟨r, r1, r2, r3⟩ := sum_eq (j := j) hl (by omega) s2 c3 hjn
        have cm : f_X11_pours (nI k0) a2 (am_w uc 4 13 z) = some (nI (Q.2.2.2 j), am_w r 60 2 z) := by
          refine m3.trans ((if_pos (show ¬ nI (Q.2.1 j) = -9 from nI_m9 (by omega))).trans ?_)
          show am_ck (am_ix (nI (Q.2.1 j)) 9261) (if y 82 (nI (Q.2.1 j)).toNatClampNeg ≤ 60 then (f_X11_sumOf (y 83 0) y).bind (fun q5 => (f_X11_sumOf (nI (Q.2.1 j)) q5.2).bind (fun q6 => some (q6.2 82 (nI (Q.2.1 j)).toNatClampNeg, am_w q6.2 60 2 (q5.1 - q6.1)))) else some (-6, y)) = _
          rw [am_ck_t (am_ix_nI q1 (by omega)), nI_clamp (by omega), (m1.2.2.2.1 j hjn).2.1, if_pos (show nI (Q.2.2.2 j) ≤ (60 : Int32) from nI_le (b := 60) hd (by omega)), (m1.2.2.2.1 0 c3.2.2.2).1, s1, obs]
          show (f_X11_sumOf (nI (Q.2.1 j)) s).bind (fun q6 => some (q6.2 82 (Q.2.1 j), am_w q6.2 60 2 (nI (m_to (Q.2.1 0)) - q6.1))) = _
          rw [r1, obs]
          show some (r 82 (Q.2.1 j), am_w r 60 2 (nI (m_to (Q.2.1 0)) - nI (m_to (Q.2.1 j)))) = _
          rw [(r2.2.2.2.1 j hjn).2.1, hz]
        have fr : ∀ a b, ¬ (80 ≤ a ∧ a ≤ 85) → ¬ (a = 60 ∧ (b = 2 ∨ b = 32 ∨ b = 39)) → ¬ (a = 4 ∧ b = 13) → am_w r 60 2 z a b = uc a b := fun a b z1 z2 z3 => by
          rw [am_w_n (by omega), r3 a b (by omega), s3 a b (by omega), m2 a b z1 (by omega), am_w_n z3]
        refine cls1 (st := st) h2 ho (E (nI k0) a2) (by rw [cc0]; rfl) (s_X11_pours (l := l) (g := g) ho.2.1.1 (nI k0) a2 _) (by rw [cm]; rfl) (inv_t80 hp z h4 c5 fr ?_ (am_w_s _ _ _ _)) c4 ?_ (fun c hc => ?_)
        · rw [am_w_n (by omega), r3 _ _ (by omega), s3 _ _ (by omega), m2 _ _ (by omega) (by omega), am_w_s]
        · rw [fr _ _ (by omega) (by omega) (by omega)]; exact c2.1
        · rw [fr _ _ (by omega) (by omega) (by omega)]; exact c2.2.2.2.2.2.2 c hc
      · rw [if_neg (show ¬ nI (Q.2.2.2 j) ≤ (60 : Int32) from nI_ge (a := 60) (by omega) (by omega))] at cc0
        obtain ⟨y, m1, m2, m3⟩ := mm uc (fun x b z1 z2 _ => lt91 c5 (by omega) b)
        have cm : f_X11_pours (nI k0) a2 uc = some (-6, y) := by
          refine m3.trans ((if_pos (show ¬ nI (Q.2.1 j) = -9 from nI_m9 (by omega))).trans ?_)
          show am_ck (am_ix (nI (Q.2.1 j)) 9261) (if y 82 (nI (Q.2.1 j)).toNatClampNeg ≤ 60 then _ else some (-6, y)) = _
          rw [am_ck_t (am_ix_nI q1 (by omega)), nI_clamp (by omega), (m1.2.2.2.1 j hjn).2.1, if_neg (show ¬ nI (Q.2.2.2 j) ≤ (60 : Int32) from nI_ge (a := 60) (by omega) (by omega))]
        refine cls1 (st := st) (u2 := y) h2 ho (E (nI k0) a2) (by rw [cc0]; rfl) (s_X11_pours (l := l) (g := g) ho.2.1.1 (nI k0) a2 _) (by rw [cm]; rfl) (fr_80 hp h4 (fun a b z1 z2 z3 => by rw [m2 a b z2 z3, lt91 c5 z1])) c4 ?_ (fun c hc => ?_)
        · rw [m2 _ _ (by omega) (by omega)]; exact c2.1
        · rw [m2 _ _ (by omega) (by omega)]; exact c2.2.2.2.2.2.2 c hc
  · rw [if_neg hl] at hrp
    have cc : g_pours (g_pf pz pl (nI k0) u0) pz B B1 pl (nI k0) a2 u = some (-6, am_of B u) := by
      unfold g_pours; rw [hrp, obs, if_neg m66]
    obtain ⟨y, y1, y2⟩ := (hM u (fun _ _ _ _ _ => rfl) 1 ne10).2 hl
    have cm : f_X11_pours (nI k0) a2 u = some (-6, y) := by
      unfold f_X11_pours
      rw [in_eq, show f_X10_isWithin a2 0 20 = some 1 from w2, obs, y1, obs]; exact if_neg g66
    exact cls0 h2 h3 h5 h6 h7 (E (nI k0) a2) (by rw [cc]; rfl) (s_X11_pours (l := l) (g := g) h2.1 (nI k0) a2 u) (by rw [cm]; rfl) (fr_80 hp h4 (fun a b z1 z2 z3 => y2 a b z2 z3)) (fun a ha => funext fun b => y2 a b (by omega) (by omega))
