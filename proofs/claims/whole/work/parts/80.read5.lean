/-! the suns' and the mules' sections -/
theorem stS {T t s dr p f : Nat} {b : Nat → Int32} {uc um : am_U} (hdr : dr = 30 ∨ dr = 35) (hT : 39 < T) (ht : t < 4) (hs : s ≤ 60) (hb : ∀ i, i < s → ¬ b i = 1000) (hps : p ≤ s) (h : tC T b s uc) (hm : tM t b s um) (hcp : uc 7 1 = nI p) (hmp : um 60 15 = nI p) (f17 : ¬ um 60 17 = 0) (f18 : um 60 18 = nI 0) (f19 : um 60 19 = 0) (f20 : um 60 20 = nI 0) (d1 : D1 dr uc um) (hf : 600 ≤ f) : sR T t dr (cS T dr) f uc um := by
  obtain ⟨q, y1, y2, y3, y4, y5⟩ := letter_c hT hs hb hps h hcp 115 (by decide)
  have hfm : f = (f - (q - p) - 1 + 1) + (q - p) := by omega
  obtain ⟨f1, hf1⟩ : ∃ f1, f - (q - p) - 1 = f1 := ⟨_, rfl⟩
  have y6 := skip_m ht hs (KF t) (q - p) p (f1 + 1) um (by omega) (fun i z1 z2 => y4 i z1 (by omega)) hm hmp
  rw [← hf1, ← hfm, show p + (q - p) = q by omega, hf1] at y6
  have hm1 : tM t b s (am_w um 60 15 (nI q)) := tM_fr hm (fun a e z => am_w_n (by omega))
  have e17 : am_w um 60 15 (nI q) 60 17 = um 60 17 := am_w_n (by omega)
  have e18 : am_w um 60 15 (nI q) 60 18 = 0 := (am_w_n (by omega)).trans f18
  have e19 : am_w um 60 15 (nI q) 60 19 = um 60 19 := am_w_n (by omega)
  rcases y5 with ⟨y5, yE⟩ | ⟨hq, hx, yE⟩
  · refine ⟨nI q, am_w uc 7 1 (nI q), am_w um 60 15 (nI q), ?_, ?_, fun a e z1 z2 => am_w_n (by omega), fun a e z1 z2 => am_w_n (by omega), fun z => absurd z (nI_m9 (by omega))⟩
    · have hN : f_X7_readSuns T dr uc = some (0, am_w uc 7 1 (nI q)) := by
        unfold f_X7_readSuns
        rw [yE, obs]; exact if_neg (fun z => z rfl)
      unfold cS
      rw [hN, obs]
      refine (if_pos rfl).trans ?_
      show some (am_w uc 7 1 (nI q) 7 1, am_w uc 7 1 (nI q)) = _
      rw [am_w_s]
    · rw [y6]
      by_cases c : q < s
      · rw [disp_m ht hs hm1 c (am_w_s _ _ _ _) (y3 c), e17, e18, if_pos f17, if_neg (fun z => z rfl)]
        have hR : f_X11_readsSuns (nI t) (am_w um 60 15 (nI q)) = some (0, am_w um 60 15 (nI q)) := by
          unfold f_X11_readsSuns
          rw [msig_n hm1 ht hs (am_w_s _ _ _ _) c 115 (fun z => y5 ⟨c, z⟩), obs]; exact if_neg (fun z => z rfl)
        rw [hR, obs]
        refine (if_pos rfl).trans ?_
        show some (am_w um 60 15 (nI q) 60 15, am_w um 60 15 (nI q)) = _
        rw [am_w_s]
      · rw [end_m ht hs hm1 (by omega) (by omega) (am_w_s _ _ _ _)]
        unfold KF
        rw [e19, if_pos f19, am_ck_t (am_ix_nI ht (by omega)), nI_clamp (by omega), hm1.1, show s = q by omega]
  · obtain ⟨p', uc', um', x1, x2, x3, x4, x5, x6, x7, x8⟩ := suns_rel (b := b) (s := s) hdr hT ht hs (fun (c10u : am_U) => if (c10u dr 1) ≤ 0 then some (0, c10u) else some (1, c10u)) (fun (c6u : am_U) => if (c6u 60 18) ≤ 0 then some (0, c6u) else some (1, c6u)) 20000 0 (q + 1) (am_w (am_w uc 7 1 (nI (q + 1))) dr 1 0) (am_w um 60 15 (nI (q + 1))) (by omega) (by omega) (by omega) (tC_fr h (by rw [am_w_n (by omega), am_w_n (by omega)]) (fun i => by rw [am_w_n (by omega), am_w_n (by omega)])) (tM_fr hm (fun a e z => am_w_n (by omega))) (by rw [am_w_n (by omega), am_w_s]) (am_w_s _ _ _ _) (am_w_s _ _ _ _) (by rw [am_w_n (by omega)]; exact f18) (fun k hk => absurd hk (Nat.not_lt_zero k))
    have eC : ∀ a e, a ≠ 7 → a ≠ dr + 1 → ¬ (a = dr ∧ e = 1) → uc' a e = uc a e := fun a e z1 z2 z3 => by rw [x6 a e z1 z2 z3, am_w_n z3, am_w_n (by omega)]
    have eM : ∀ a e, ¬ (a = 60 ∧ (e = 15 ∨ e = 16 ∨ e = 18)) → a ≠ 71 → um' a e = um a e := fun a e z1 z2 => by rw [x7 a e z1 z2, am_w_n (by omega)]
    obtain ⟨c, k1, k2, k3, k4⟩ := x8
    have hN : f_X7_readSuns T dr uc = if nI c ≤ 0 then some (0, uc') else some (1, uc') := by
      unfold f_X7_readSuns
      rw [yE, obs]
      refine (if_pos ne10).trans (x2.trans ?_)
      rw [k2]
    have hR : f_X11_readsSuns (nI t) (am_w um 60 15 (nI q)) = if nI c ≤ 0 then some (0, um') else some (1, um') := by
      unfold f_X11_readsSuns
      rw [msig_y hm1 ht hs (am_w_s _ _ _ _) hq 115 hx, obs, ww]
      refine (if_pos ne10).trans (x3.trans ?_)
      rw [k3]
    have gC1 : gC dr uc uc' := fun a e z1 z2 => eC a e z1 (by omega) (by omega)
    have gM1 : gM um um' := fun a e z1 z2 => eM a e (by omega) (by omega)
    have hF : f_X11_faultOf_25 (nI t) (KF t) f um = (f_X11_readsSuns (nI t) (am_w um 60 15 (nI q))).bind (fun q10 => if q10.1 = 0 then some (q10.2 60 15, q10.2) else f_X11_faultOf_25 (nI t) (KF t) f1 q10.2) := by
      rw [y6, disp_m ht hs hm1 hq (am_w_s _ _ _ _) (y3 hq), e17, e18, if_pos f17, if_neg (fun z => z rfl)]
    have hCc : cS T dr uc = (f_X7_readSuns T dr uc).bind (fun q5 => if q5.1 = 0 then some (q5.2 7 1, q5.2) else cN T dr q5.2) := rfl
    cases c with
    | zero =>
      rw [if_pos (show nI 0 ≤ (0 : Int32) by decide)] at hN hR
      rw [hN, obs] at hCc
      rw [hR, obs] at hF
      refine ⟨nI p', uc', um', hCc.trans ((if_pos rfl).trans ?_), hF.trans ((if_pos rfl).trans ?_), gC1, gM1, fun z => absurd z (nI_m9 (by omega))⟩
      · show some (uc' 7 1, uc') = _; rw [x4]
      · show some (um' 60 15, um') = _; rw [x5]
    | succ c =>
      rw [if_neg (nI_nle (show 0 < c + 1 by omega) (by omega))] at hN hR
      rw [hN, obs] at hCc
      rw [hR, obs] at hF
      refine sR_fr (stN (uc := uc') (um := um') hdr hT ht hs hb x1 (tC_fr h (eC _ _ (by omega) (by omega) (by omega)) (fun i => eC _ _ (by omega) (by omega) (by omega))) (tM_fr hm (fun a e z => eM _ _ (by omega) (by omega))) x4 x5 (by rw [eM _ _ (by omega) (by omega)]; exact f17) (by rw [k3]; exact nI_ne0 (by omega) (by omega)) (by rw [eM _ _ (by omega) (by omega)]; exact f19) (by rw [eM _ _ (by omega) (by omega)]; exact f20) ?_ ⟨c + 1, k1, k2, k3, k4⟩ (f := f1) (by omega)) (hCc.trans (if_neg ne10)) (hF.trans (if_neg ne10)) gC1 gM1
      unfold D1; rw [eC _ _ (by omega) (by omega) (by omega), eM _ _ (by omega) (by omega)]; exact d1
theorem stM {T t s dr p f : Nat} {b : Nat → Int32} {uc um : am_U} (hdr : dr = 30 ∨ dr = 35) (hT : 39 < T) (ht : t < 4) (hs : s ≤ 60) (hb : ∀ i, i < s → ¬ b i = 1000) (hps : p ≤ s) (h : tC T b s uc) (hm : tM t b s um) (hcp : uc 7 1 = nI p) (hmp : um 60 15 = nI p) (f17 : um 60 17 = 0) (f18 : um 60 18 = nI 0) (f19 : um 60 19 = 0) (f20 : um 60 20 = nI 0) (hf : 800 ≤ f) : sR T t dr (cM T dr) f uc um := by
  obtain ⟨q, y1, y2, y3, y4, y5⟩ := letter_c hT hs hb hps h hcp 121 (by decide)
  have hfm : f = (f - (q - p) - 1 + 1) + (q - p) := by omega
  obtain ⟨f1, hf1⟩ : ∃ f1, f - (q - p) - 1 = f1 := ⟨_, rfl⟩
  have y6 := skip_m ht hs (KF t) (q - p) p (f1 + 1) um (by omega) (fun i z1 z2 => y4 i z1 (by omega)) hm hmp
  rw [← hf1, ← hfm, show p + (q - p) = q by omega, hf1] at y6
  have hm1 : tM t b s (am_w um 60 15 (nI q)) := tM_fr hm (fun a e z => am_w_n (by omega))
  have e17 : am_w um 60 15 (nI q) 60 17 = 0 := (am_w_n (by omega)).trans f17
  have e19 : am_w um 60 15 (nI q) 60 19 = um 60 19 := am_w_n (by omega)
  rcases y5 with ⟨y5, yE⟩ | ⟨hq, hx, yE⟩
  · refine ⟨nI q, am_w uc 7 1 (nI q), am_w um 60 15 (nI q), ?_, ?_, fun a e z1 z2 => am_w_n (by omega), fun a e z1 z2 => am_w_n (by omega), fun z => absurd z (nI_m9 (by omega))⟩
    · have hN : f_X7_readMules T dr uc = some (0, am_w uc 7 1 (nI q)) := by
        unfold f_X7_readMules
        rw [yE, obs]; exact if_pos rfl
      unfold cM
      rw [hN, obs]
      refine (if_pos rfl).trans ?_
      show some (am_w uc 7 1 (nI q) 7 1, am_w uc 7 1 (nI q)) = _
      rw [am_w_s]
    · rw [y6]
      by_cases c : q < s
      · rw [disp_m ht hs hm1 c (am_w_s _ _ _ _) (y3 c), e17, if_neg (fun z => z rfl)]
        have hR : f_X11_readsMules (nI t) (am_w um 60 15 (nI q)) = some (0, am_w um 60 15 (nI q)) := by
          unfold f_X11_readsMules
          rw [msig_n hm1 ht hs (am_w_s _ _ _ _) c 121 (fun z => y5 ⟨c, z⟩), obs]; exact if_pos rfl
        rw [hR, obs]
        refine (if_pos rfl).trans ?_
        show some (am_w um 60 15 (nI q) 60 15, am_w um 60 15 (nI q)) = _
        rw [am_w_s]
      · rw [end_m ht hs hm1 (by omega) (by omega) (am_w_s _ _ _ _)]
        unfold KF
        rw [e19, if_pos f19, am_ck_t (am_ix_nI ht (by omega)), nI_clamp (by omega), hm1.1, show s = q by omega]
  · have h1 : tC T b s (am_w uc 7 1 (nI (q + 1))) := tC_fr h (am_w_n (by omega)) (fun i => am_w_n (by omega))
    have hm2 : tM t b s (am_w um 60 15 (nI (q + 1))) := tM_fr hm (fun a e z => am_w_n (by omega))
    have hCc : cM T dr uc = (f_X7_readMules T dr uc).bind (fun q2 => if q2.1 = 0 then some (q2.2 7 1, q2.2) else cS T dr q2.2) := rfl
    have hF : f_X11_faultOf_25 (nI t) (KF t) f um = (f_X11_readsMules (nI t) (am_w um 60 15 (nI q))).bind (fun q11 => if q11.1 = 0 then some (q11.2 60 15, q11.2) else f_X11_faultOf_25 (nI t) (KF t) f1 q11.2) := by
      rw [y6, disp_m ht hs hm1 hq (am_w_s _ _ _ _) (y3 hq), e17, if_neg (fun z => z rfl)]
    have hN0 : f_X7_readMules T dr uc = (f_X10_isWithin (m_fg (m_sg b s (q + 1))) 1 6).bind (fun q3 => if ¬ q3 = 0 then some (1, am_w (am_w (am_w uc 7 1 (nI (q + 1))) dr 0 (m_fg (m_sg b s (q + 1)))) 7 1 (am_w (am_w uc 7 1 (nI (q + 1))) dr 0 (m_fg (m_sg b s (q + 1))) 7 1 + 1)) else some (0, am_w uc 7 1 (nI (q + 1)))) := by
      unfold f_X7_readMules
      rw [yE, obs]
      refine (if_neg ne10).trans ?_
      show (f_X7_figure T (am_w uc 7 1 (nI (q + 1)))).bind _ = _
      rw [fg_eq h1 hs (am_w_s _ _ _ _) (by omega), obs]
      simp only [obs]
    have hR0 : f_X11_readsMules (nI t) (am_w um 60 15 (nI q)) = (f_X11_figure (nI t) 1 6 (am_w um 60 15 (nI (q + 1)))).bind (fun q2 => if ¬ q2.1 = 0 then some (1, am_w q2.2 60 17 (q2.2 60 16)) else some (0, q2.2)) := by
      unfold f_X11_readsMules
      rw [msig_y hm1 ht hs (am_w_s _ _ _ _) hq 121 hx, obs, ww]
      exact if_neg ne10
    have no : f_X10_isWithin (m_fg (m_sg b s (q + 1))) 1 6 = some 0 → f_X10_isWithin (m_bz b s (q + 1) - 48) (nI 1) (nI 6) = some 0 → sR T t dr (cM T dr) f uc um := fun w1 w2 => by
      rw [w1, obs] at hN0
      rw [show f_X11_figure (nI t) 1 6 (am_w um 60 15 (nI (q + 1))) = some (0, am_w (am_w um 60 15 (nI (q + 1))) 60 16 (m_bz b s (q + 1) - 48)) from mfig_n (lo := 1) (hi := 6) hm2 ht hs (am_w_s _ _ _ _) (by omega) w2, obs] at hR0
      have hN1 := hN0.trans (if_neg (fun z => z rfl))
      have hR1 : f_X11_readsMules (nI t) (am_w um 60 15 (nI q)) = some (0, am_w (am_w um 60 15 (nI (q + 1))) 60 16 (m_bz b s (q + 1) - 48)) := hR0.trans (if_neg (fun z => z rfl))
      rw [hN1, obs] at hCc
      rw [hR1, obs] at hF
      refine ⟨nI (q + 1), am_w uc 7 1 (nI (q + 1)), am_w (am_w um 60 15 (nI (q + 1))) 60 16 (m_bz b s (q + 1) - 48), hCc.trans ((if_pos rfl).trans ?_), hF.trans ((if_pos rfl).trans ?_), fun a e z1 z2 => am_w_n (by omega), fun a e z1 z2 => ?_, fun z => absurd z (nI_m9 (by omega))⟩
      · show some (am_w uc 7 1 (nI (q + 1)) 7 1, am_w uc 7 1 (nI (q + 1))) = _
        rw [am_w_s]
      · show some (am_w (am_w um 60 15 (nI (q + 1))) 60 16 (m_bz b s (q + 1) - 48) 60 15, _) = _
        rw [am_w_n (by omega), am_w_s]
      · show am_w (am_w um 60 15 (nI (q + 1))) 60 16 (m_bz b s (q + 1) - 48) a e = _
        rw [am_w_n (by omega), am_w_n (by omega)]
    rcases dg_cs b s (q + 1) with ⟨g1, g2, g3⟩ | ⟨d, hd, hpl, g1, g2, g3, g4⟩
    · exact no (by rw [g1]; rfl) (g3 1 6 (by omega) (by omega))
    · by_cases d16 : 1 ≤ d ∧ d ≤ 6
      · have w1 : f_X10_isWithin (nI d) 1 6 = some 1 := wi_yes (show ¬ nI d < (1 : Int32) from nI_nlt (b := 1) d16.1 (by omega)) (show ¬ (6 : Int32) < nI d from nI_nlt (a := 6) d16.2 (by omega))
        rw [g1, w1, obs] at hN0
        rw [show f_X11_figure (nI t) 1 6 (am_w um 60 15 (nI (q + 1))) = some (1, am_w (am_w (am_w um 60 15 (nI (q + 1))) 60 16 (nI d)) 60 15 (nI (q + 1 + 1))) from mfig_y (lo := 1) (hi := 6) hm2 ht hs (am_w_s _ _ _ _) (by omega) g3 d16.1 d16.2 (by omega), obs] at hR0
        have e7 : am_w (am_w uc 7 1 (nI (q + 1))) dr 0 (nI d) 7 1 = nI (q + 1) := by rw [am_w_n (by omega), am_w_s]
        have e16 : am_w (am_w (am_w um 60 15 (nI (q + 1))) 60 16 (nI d)) 60 15 (nI (q + 1 + 1)) 60 16 = nI d := by rw [am_w_n (by omega), am_w_s]
        obtain ⟨uc', huc⟩ : ∃ uc', am_w (am_w (am_w uc 7 1 (nI (q + 1))) dr 0 (nI d)) 7 1 (nI (q + 1 + 1)) = uc' := ⟨_, rfl⟩
        obtain ⟨um', hum⟩ : ∃ um', am_w (am_w (am_w (am_w um 60 15 (nI (q + 1))) 60 16 (nI d)) 60 15 (nI (q + 1 + 1))) 60 17 (nI d) = um' := ⟨_, rfl⟩
        have hN1 : f_X7_readMules T dr uc = some (1, uc') := hN0.trans ((if_pos ne10).trans (by rw [e7, nI_1, huc]))
        have hR1 : f_X11_readsMules (nI t) (am_w um 60 15 (nI q)) = some (1, um') := hR0.trans ((if_pos ne10).trans (by
          show some ((1 : Int32), am_w (am_w (am_w (am_w um 60 15 (nI (q + 1))) 60 16 (nI d)) 60 15 (nI (q + 1 + 1))) 60 17 (am_w (am_w (am_w um 60 15 (nI (q + 1))) 60 16 (nI d)) 60 15 (nI (q + 1 + 1)) 60 16)) = _
          rw [e16, hum]))
        rw [hN1, obs] at hCc
        rw [hR1, obs] at hF
        have eC : ∀ a e, a ≠ 7 → ¬ (a = dr ∧ e = 0) → uc' a e = uc a e := fun a e z1 z2 => by rw [← huc, am_w_n (by omega), am_w_n z2, am_w_n (by omega)]
        have eM : ∀ a e, ¬ (a = 60 ∧ (e = 15 ∨ e = 16 ∨ e = 17)) → um' a e = um a e := fun a e z1 => by rw [← hum, am_w_n (by omega), am_w_n (by omega), am_w_n (by omega), am_w_n (by omega)]
        have k17 : um' 60 17 = nI d := by rw [← hum, am_w_s]
        refine sR_fr (stS (uc := uc') (um := um') (p := q + 1 + 1) hdr hT ht hs hb (by omega) (tC_fr h (eC _ _ (by omega) (by omega)) (fun i => eC _ _ (by omega) (by omega))) (tM_fr hm (fun a e z => eM _ _ (by omega))) (by rw [← huc, am_w_s]) (by rw [← hum, am_w_n (by omega), am_w_s]) (by rw [k17]; exact nI_ne0 (by omega) (by omega)) (by rw [eM _ _ (by omega)]; exact f18) (by rw [eM _ _ (by omega)]; exact f19) (by rw [eM _ _ (by omega)]; exact f20) ?_ (f := f1) (by omega)) (hCc.trans (if_neg ne10)) (hF.trans (if_neg ne10)) (fun a e z1 z2 => eC a e z1 (by omega)) (fun a e z1 z2 => eM a e (by omega))
        unfold D1; rw [k17, ← huc, am_w_n (by omega), am_w_s]
      · have w0 : f_X10_isWithin (nI d) 1 6 = some 0 := by
          rcases Nat.lt_or_ge d 1 with z | z
          · exact wi_no (Or.inl (show nI d < (1 : Int32) from nI_lt (b := 1) z (by omega)))
          · exact wi_no (Or.inr (show (6 : Int32) < nI d from nI_lt (a := 6) (by omega) (by omega)))
        exact no (by rw [g1]; exact w0) (by rw [g3]; exact w0)
