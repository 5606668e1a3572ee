/-! the needs -/
theorem needs_rel {T t s dr : Nat} {b : Nat → Int32} (hdr : dr = 30 ∨ dr = 35) (hT : 39 < T) (ht : t < 4) (hs : s ≤ 60) : ∀ (f v p : Nat) (uc um : am_U), v ≤ 5 → 1 ≤ v → 5 < v + f → p ≤ s → tC T b s uc → tM t b s um → uc 7 1 = nI p → um 60 15 = nI p → (∀ w, 1 ≤ w → w < v → uc (dr + 2) w = um 72 w ∧ am_le (um 72 w) 9) → ∃ ok p' uc' um', p' ≤ s ∧ f_X7_readNeeds_13 T dr f (nI v) uc = some (ok, uc') ∧ f_X11_readsNeeds_14 (nI t) f (nI v) um = some (ok, um') ∧ uc' 7 1 = nI p' ∧ um' 60 15 = nI p' ∧ (∀ a e, a ≠ 7 → ¬ (a = dr + 2 ∧ ¬ e = 0) → uc' a e = uc a e) ∧ (∀ a e, ¬ (a = 60 ∧ (e = 15 ∨ e = 16 ∨ e = 19)) → a ≠ 72 → um' a e = um a e) ∧ (ok = 0 ∨ (ok = 1 ∧ um' 60 19 = 1 ∧ D3 dr uc' um')) := by
  intro f
  induction f with
  | zero => intro v p uc um h1 h2 h3; omega
  | succ f ih =>
    intro v p uc um hv5 hv1 hf hps h hm hcp hmp hD
    rw [f_X7_readNeeds_13, f_X11_readsNeeds_14]
    by_cases c : v < 5
    · rw [if_neg (show ¬ (5 : Int32) ≤ nI v from nI_ge (b := 5) c (by omega)), if_neg (show ¬ (5 : Int32) ≤ nI v from nI_ge (b := 5) c (by omega)), fg_eq h hs hcp (by omega), obs, obs]
      rcases dg_cs b s p with ⟨g1, g2, g3⟩ | ⟨d, hd, hpl, g1, g2, g3, g4⟩
      · rw [g1, if_neg (fun z => z rfl), show f_X11_figure (nI t) 0 9 um = some (0, am_w um 60 16 (m_bz b s p - 48)) from mfig_n (lo := 0) (hi := 9) hm ht hs hmp (by omega) (g3 0 9 (by omega) (by omega)), obs]
        exact ⟨0, p, uc, am_w um 60 16 (m_bz b s p - 48), hps, rfl, if_neg (fun z => z rfl), hcp, by rw [am_w_n (by omega)]; exact hmp, fun _ _ _ _ => rfl, fun a e z1 z2 => am_w_n (by omega), Or.inl rfl⟩
      · rw [g1, if_pos (nI_m9 (show d < 2 ^ 31 by omega)), show f_X11_figure (nI t) 0 9 um = some (1, am_w (am_w um 60 16 (nI d)) 60 15 (nI (p + 1))) from mfig_y (lo := 0) (hi := 9) hm ht hs hmp (by omega) g3 (by omega) (by omega) (by omega), obs, am_ck_t (am_ix_nI c (by omega)), am_ck_t (am_ix_nI c (by omega)), nI_clamp (by omega), nI_1]
        have e1 : am_w uc (dr + 2) v (nI d) 7 1 = nI p := by rw [am_w_n (by omega)]; exact hcp
        have e2 : am_w (am_w um 60 16 (nI d)) 60 15 (nI (p + 1)) 60 16 = nI d := by rw [am_w_n (by omega), am_w_s]
        obtain ⟨ok, p', uc', um', x1, x2, x3, x4, x5, x6, x7, x8⟩ := ih (v + 1) (p + 1) (am_w (am_w uc (dr + 2) v (nI d)) 7 1 (nI (p + 1))) (am_w (am_w (am_w um 60 16 (nI d)) 60 15 (nI (p + 1))) 72 v (nI d)) (by omega) (by omega) (by omega) (by omega) (tC_fr h (by rw [am_w_n (by omega), am_w_n (by omega)]) (fun i => by rw [am_w_n (by omega), am_w_n (by omega)])) (tM_fr hm (fun a e z => by rw [am_w_n (by omega), am_w_n (by omega), am_w_n (by omega)])) (am_w_s _ _ _ _) (by rw [am_w_n (by omega), am_w_s]) (fun w w1 w2 => by
          rw [am_w_n (by omega)]
          by_cases q : w = v
          · subst q
            rw [am_w_s, am_w_s]; exact ⟨rfl, d, hd, rfl⟩
          · rw [am_w_n (by omega), am_w_n (by omega), am_w_n (by omega), am_w_n (by omega)]; exact hD w w1 (by omega))
        refine ⟨ok, p', uc', um', x1, ?_, ?_, x4, x5, fun a e z1 z2 => ?_, fun a e z1 z2 => ?_, x8⟩
        · show f_X7_readNeeds_13 T dr f (nI (v + 1)) (am_w (am_w uc (dr + 2) v (nI d)) 7 1 (am_w uc (dr + 2) v (nI d) 7 1 + 1)) = _
          rw [e1, nI_1]; exact x2
        · refine (if_pos ne10).trans ?_
          show f_X11_readsNeeds_14 (nI t) f (nI (v + 1)) (am_w (am_w (am_w um 60 16 (nI d)) 60 15 (nI (p + 1))) 72 v (am_w (am_w um 60 16 (nI d)) 60 15 (nI (p + 1)) 60 16)) = _
          rw [e2]; exact x3
        · rw [x6 a e z1 z2, am_w_n (by omega), am_w_n (by omega)]
        · rw [x7 a e z1 z2, am_w_n (by omega), am_w_n (by omega), am_w_n (by omega)]
    · have : v = 5 := by omega
      subst this
      rw [if_pos (show (5 : Int32) ≤ nI 5 by decide), if_pos (show (5 : Int32) ≤ nI 5 by decide)]
      exact ⟨1, p, uc, am_w um 60 19 1, hps, rfl, rfl, hcp, by rw [am_w_n (by omega)]; exact hmp, fun _ _ _ _ => rfl, fun a e z1 z2 => am_w_n (by omega), Or.inr ⟨rfl, am_w_s _ _ _ _, fun w w1 w2 => by rw [am_w_n (by omega)]; exact hD w w1 w2⟩⟩
/-- a letter that both look for, behind blanks -/
theorem letter_c {T s p : Nat} {b : Nat → Int32} {uc : am_U} (hT : 39 < T) (hs : s ≤ 60) (hb : ∀ i, i < s → ¬ b i = 1000) (hps : p ≤ s) (h : tC T b s uc) (hcp : uc 7 1 = nI p) (x : Int32) (hx : ¬ x = 1000) : ∃ q, p ≤ q ∧ q ≤ s ∧ (q < s → ¬ b q = 32) ∧ (∀ j, p ≤ j → j < q → b j = 32) ∧ ((¬ (q < s ∧ b q = x) ∧ f_X7_readLetter T x uc = some (0, am_w uc 7 1 (nI q))) ∨ (q < s ∧ b q = x ∧ f_X7_readLetter T x uc = some (1, am_w uc 7 1 (nI (q + 1))))) := by
  obtain ⟨q, y1, y2, y3, y4, y5⟩ := skip_c (by omega) hs 100 20000 p uc (by omega) (by omega) hps h hcp
  refine ⟨q, y1, y2, y3, y4, ?_⟩
  have h1 : tC T b s (am_w uc 7 1 (nI q)) := tC_fr h (am_w_n (by omega)) (fun i => am_w_n (by omega))
  have hE : f_X7_readLetter T x uc = if m_sg b s q = x then some (1, am_w uc 7 1 (nI (q + 1))) else some (0, am_w uc 7 1 (nI q)) := by
    unfold f_X7_readLetter
    rw [show f_X7_skipBlanks T uc = some (am_w uc 7 1 (nI q)) from y5, obs, sign_eq h1 hs (am_w_s _ _ _ _) (by omega), obs]
    simp only [am_w_s, nI_1, ww]
  rw [hE]
  unfold m_sg
  by_cases c : q < s
  · rw [if_pos c]
    by_cases c2 : b q = x
    · exact Or.inr ⟨c, c2, if_pos c2⟩
    · exact Or.inl ⟨fun z => c2 z.2, if_neg c2⟩
  · rw [if_neg c]
    exact Or.inl ⟨fun z => c z.1, if_neg (fun z => hx z.symm)⟩
theorem stN {T t s dr p f : Nat} {b : Nat → Int32} {uc um : am_U} (hdr : dr = 30 ∨ dr = 35) (hT : 39 < T) (ht : t < 4) (hs : s ≤ 60) (hb : ∀ i, i < s → ¬ b i = 1000) (hps : p ≤ s) (h : tC T b s uc) (hm : tM t b s um) (hcp : uc 7 1 = nI p) (hmp : um 60 15 = nI p) (f17 : ¬ um 60 17 = 0) (f18 : ¬ um 60 18 = 0) (f19 : um 60 19 = 0) (f20 : um 60 20 = nI 0) (d1 : D1 dr uc um) (d2 : D2 dr uc um) (hf : 400 ≤ f) : sR T t dr (cN T dr) f uc um := by
  obtain ⟨q, y1, y2, y3, y4, y5⟩ := letter_c hT hs hb hps h hcp 118 (by decide)
  have hfm : f = (f - (q - p) - 1 + 1) + (q - p) := by omega
  obtain ⟨f1, hf1⟩ : ∃ f1, f - (q - p) - 1 = f1 := ⟨_, rfl⟩
  have y6 := skip_m ht hs (KF t) (q - p) p (f1 + 1) um (by omega) (fun i z1 z2 => y4 i z1 (by omega)) hm hmp
  rw [← hf1, ← hfm, show p + (q - p) = q by omega, hf1] at y6
  have hm1 : tM t b s (am_w um 60 15 (nI q)) := tM_fr hm (fun a e z => am_w_n (by omega))
  have e17 : am_w um 60 15 (nI q) 60 17 = um 60 17 := am_w_n (by omega)
  have e18 : am_w um 60 15 (nI q) 60 18 = um 60 18 := am_w_n (by omega)
  have e19 : am_w um 60 15 (nI q) 60 19 = um 60 19 := am_w_n (by omega)
  rcases y5 with ⟨y5, yE⟩ | ⟨hq, hx, yE⟩
  · refine ⟨nI q, am_w uc 7 1 (nI q), am_w um 60 15 (nI q), ?_, ?_, fun a e z1 z2 => am_w_n (by omega), fun a e z1 z2 => am_w_n (by omega), fun z => absurd z (nI_m9 (by omega))⟩
    · have hN : f_X7_readNeeds T dr uc = some (0, am_w uc 7 1 (nI q)) := by
        unfold f_X7_readNeeds
        rw [yE, obs]; exact if_neg (fun z => z rfl)
      unfold cN
      rw [hN, obs]
      refine (if_pos rfl).trans ?_
      show some (am_w uc 7 1 (nI q) 7 1, am_w uc 7 1 (nI q)) = _
      rw [am_w_s]
    · rw [y6]
      by_cases c : q < s
      · rw [disp_m ht hs hm1 c (am_w_s _ _ _ _) (y3 c), e17, e18, e19, if_pos f17, if_pos f18, if_neg (fun z => z f19)]
        have hR : f_X11_readsNeeds (nI t) (am_w um 60 15 (nI q)) = some (0, am_w um 60 15 (nI q)) := by
          unfold f_X11_readsNeeds
          rw [msig_n hm1 ht hs (am_w_s _ _ _ _) c 118 (fun z => y5 ⟨c, z⟩), obs]; exact if_neg (fun z => z rfl)
        rw [hR, obs]
        refine (if_pos rfl).trans ?_
        show some (am_w um 60 15 (nI q) 60 15, am_w um 60 15 (nI q)) = _
        rw [am_w_s]
      · rw [end_m ht hs hm1 (by omega) (by omega) (am_w_s _ _ _ _)]
        unfold KF
        rw [e19, if_pos f19, am_ck_t (am_ix_nI ht (by omega)), nI_clamp (by omega), hm1.1, show s = q by omega]
  · obtain ⟨ok, p', uc', um', x1, x2, x3, x4, x5, x6, x7, x8⟩ := needs_rel (b := b) (s := s) hdr hT ht hs 20000 1 (q + 1) (am_w uc 7 1 (nI (q + 1))) (am_w um 60 15 (nI (q + 1))) (by omega) (by omega) (by omega) (by omega) (tC_fr h (am_w_n (by omega)) (fun i => am_w_n (by omega))) (tM_fr hm (fun a e z => am_w_n (by omega))) (am_w_s _ _ _ _) (am_w_s _ _ _ _) (fun w w1 w2 => by omega)
    have eC : ∀ a e, a ≠ 7 → ¬ (a = dr + 2 ∧ ¬ e = 0) → uc' a e = uc a e := fun a e z1 z2 => by rw [x6 a e z1 z2, am_w_n (by omega)]
    have eM : ∀ a e, ¬ (a = 60 ∧ (e = 15 ∨ e = 16 ∨ e = 19)) → a ≠ 72 → um' a e = um a e := fun a e z1 z2 => by rw [x7 a e z1 z2, am_w_n (by omega)]
    have hN : f_X7_readNeeds T dr uc = some (ok, uc') := by
      unfold f_X7_readNeeds
      rw [yE, obs]
      exact (if_pos ne10).trans x2
    have hR : f_X11_readsNeeds (nI t) (am_w um 60 15 (nI q)) = some (ok, um') := by
      unfold f_X11_readsNeeds
      rw [msig_y hm1 ht hs (am_w_s _ _ _ _) hq 118 hx, obs, ww]
      exact (if_pos ne10).trans x3
    have hF : f_X11_faultOf_25 (nI t) (KF t) f um = if ok = 0 then some (um' 60 15, um') else f_X11_faultOf_25 (nI t) (KF t) f1 um' := by
      rw [y6, disp_m ht hs hm1 hq (am_w_s _ _ _ _) (y3 hq), e17, e18, e19, if_pos f17, if_pos f18, if_neg (fun z => z f19), hR, obs]
    have hCc : cN T dr uc = if ok = 0 then some (uc' 7 1, uc') else cJ T dr uc' := by
      unfold cN; rw [hN, obs]
    have gC1 : gC dr uc uc' := fun a e z1 z2 => eC a e z1 (by omega)
    have gM1 : gM um um' := fun a e z1 z2 => eM a e (by omega) (by omega)
    rcases x8 with x8 | ⟨x8, x9, x10⟩
    · rw [x8, if_pos rfl] at hF hCc
      exact ⟨nI p', uc', um', by rw [hCc, x4], by rw [hF, x5], gC1, gM1, fun z => absurd z (nI_m9 (by omega))⟩
    · rw [x8, if_neg ne10] at hF hCc
      refine sR_fr (stJ (uc := uc') (um := um') hdr hT ht hs hb x1 (tC_fr h (eC _ _ (by omega) (by omega)) (fun i => eC _ _ (by omega) (by omega))) (tM_fr hm (fun a e z => eM _ _ (by omega) (by omega))) x4 x5 (by rw [eM _ _ (by omega) (by omega)]; exact f17) (by rw [eM _ _ (by omega) (by omega)]; exact f18) (by rw [x9]; exact ne10) (by rw [eM _ _ (by omega) (by omega)]; exact f20) ?_ ?_ x10 (f := f1) (by omega)) hCc hF gC1 gM1
      · unfold D1; rw [eC _ _ (by omega) (by omega), eM _ _ (by omega) (by omega)]; exact d1
      · obtain ⟨c, k1, k2, k3, k4⟩ := d2
        refine ⟨c, k1, by rw [eC _ _ (by omega) (by omega)]; exact k2, by rw [eM _ _ (by omega) (by omega)]; exact k3, fun k hk => ?_⟩
        rw [eC _ _ (by omega) (by omega), eM _ _ (by omega) (by omega)]; exact k4 k hk
/-! the suns -/
theorem suns_rel {T t s dr : Nat} {b : Nat → Int32} (hdr : dr = 30 ∨ dr = 35) (hT : 39 < T) (ht : t < 4) (hs : s ≤ 60) (K K' : am_U → Option (Int32 × am_U)) : ∀ (f c p : Nat) (uc um : am_U), c ≤ 8 → 8 < c + f → p ≤ s → tC T b s uc → tM t b s um → uc 7 1 = nI p → um 60 15 = nI p → uc dr 1 = nI c → um 60 18 = nI c → (∀ k, k < c → uc (dr + 1) k = um 71 k) → ∃ p' uc' um', p' ≤ s ∧ f_X7_readSuns_16 T dr K f uc = K uc' ∧ f_X11_readsSuns_12 (nI t) K' f um = K' um' ∧ uc' 7 1 = nI p' ∧ um' 60 15 = nI p' ∧ (∀ a e, a ≠ 7 → a ≠ dr + 1 → ¬ (a = dr ∧ e = 1) → uc' a e = uc a e) ∧ (∀ a e, ¬ (a = 60 ∧ (e = 15 ∨ e = 16 ∨ e = 18)) → a ≠ 71 → um' a e = um a e) ∧ D2 dr uc' um' := by
  intro f
  induction f with
  | zero => intro c p uc um h1 h2; omega
  | succ f ih =>
    intro c p uc um hc hf hps h hm hcp hmp hc1 hm1 hD
    rw [f_X7_readSuns_16, f_X11_readsSuns_12, hc1, hm1]
    by_cases c8 : c < 8
    · rw [if_neg (show ¬ (8 : Int32) ≤ nI c from nI_ge (b := 8) c8 (by omega)), if_neg (show ¬ (8 : Int32) ≤ nI c from nI_ge (b := 8) c8 (by omega)), fg_eq h hs hcp (by omega), obs, obs]
      have no : f_X10_isWithin (m_fg (m_sg b s p)) 0 1 = some 0 → f_X10_isWithin (m_bz b s p - 48) (nI 0) (nI 1) = some 0 → ∃ p' uc' um', p' ≤ s ∧ (f_X10_isWithin (m_fg (m_sg b s p)) 0 1).bind (fun q4 => if q4 = 0 then K uc else am_ck (am_ix (nI c) 8) (f_X7_readSuns_16 T dr K f (am_w (am_w (am_w uc (dr + 1) (nI c).toNatClampNeg (m_fg (m_sg b s p))) dr 1 (am_w uc (dr + 1) (nI c).toNatClampNeg (m_fg (m_sg b s p)) dr 1 + 1)) 7 1 (am_w (am_w uc (dr + 1) (nI c).toNatClampNeg (m_fg (m_sg b s p))) dr 1 (am_w uc (dr + 1) (nI c).toNatClampNeg (m_fg (m_sg b s p)) dr 1 + 1) 7 1 + 1)))) = K uc' ∧ (f_X11_figure (nI t) 0 1 um).bind (fun q2 => if q2.1 = 0 then K' q2.2 else am_ck (am_ix (q2.2 60 18) 8) (f_X11_readsSuns_12 (nI t) K' f (am_w (am_w q2.2 71 (q2.2 60 18).toNatClampNeg (q2.2 60 16)) 60 18 (am_w q2.2 71 (q2.2 60 18).toNatClampNeg (q2.2 60 16) 60 18 + 1)))) = K' um' ∧ uc' 7 1 = nI p' ∧ um' 60 15 = nI p' ∧ (∀ a e, a ≠ 7 → a ≠ dr + 1 → ¬ (a = dr ∧ e = 1) → uc' a e = uc a e) ∧ (∀ a e, ¬ (a = 60 ∧ (e = 15 ∨ e = 16 ∨ e = 18)) → a ≠ 71 → um' a e = um a e) ∧ D2 dr uc' um' := fun w1 w2 => by
        refine ⟨p, uc, am_w um 60 16 (m_bz b s p - 48), hps, ?_, ?_, hcp, by rw [am_w_n (by omega)]; exact hmp, fun _ _ _ _ _ => rfl, fun a e z1 z2 => am_w_n (by omega), c, hc, hc1, by rw [am_w_n (by omega)]; exact hm1, fun k hk => by rw [am_w_n (by omega)]; exact hD k hk⟩
        · rw [w1, obs, if_pos rfl]
        · rw [show f_X11_figure (nI t) 0 1 um = some (0, am_w um 60 16 (m_bz b s p - 48)) from mfig_n (lo := 0) (hi := 1) hm ht hs hmp (by omega) w2, obs]
          exact if_pos rfl
      rcases dg_cs b s p with ⟨g1, g2, g3⟩ | ⟨d, hd, hpl, g1, g2, g3, g4⟩
      · exact no (by rw [g1]; rfl) (g3 0 1 (by omega) (by omega))
      · by_cases d1 : d ≤ 1
        · have w1 : f_X10_isWithin (nI d) 0 1 = some 1 := wi_yes (nI_pos (by omega)) (show ¬ (1 : Int32) < nI d from Int32.not_lt.mpr (nI_le (b := 1) d1 (by omega)))
          rw [g1, w1, obs, if_neg ne10, am_ck_t (am_ix_nI c8 (by omega)), nI_clamp (by omega), show f_X11_figure (nI t) 0 1 um = some (1, am_w (am_w um 60 16 (nI d)) 60 15 (nI (p + 1))) from mfig_y (lo := 0) (hi := 1) hm ht hs hmp (by omega) g3 (by omega) d1 (by omega), obs]
          have e1 : am_w uc (dr + 1) c (nI d) dr 1 = nI c := by rw [am_w_n (by omega)]; exact hc1
          have e2 : am_w (am_w uc (dr + 1) c (nI d)) dr 1 (nI (c + 1)) 7 1 = nI p := by rw [am_w_n (by omega), am_w_n (by omega)]; exact hcp
          have e3 : am_w (am_w um 60 16 (nI d)) 60 15 (nI (p + 1)) 60 18 = nI c := by rw [am_w_n (by omega), am_w_n (by omega)]; exact hm1
          have e4 : am_w (am_w um 60 16 (nI d)) 60 15 (nI (p + 1)) 60 16 = nI d := by rw [am_w_n (by omega), am_w_s]
          obtain ⟨p', uc', um', x1, x2, x3, x4, x5, x6, x7, x8⟩ := ih (c + 1) (p + 1) (am_w (am_w (am_w uc (dr + 1) c (nI d)) dr 1 (nI (c + 1))) 7 1 (nI (p + 1))) (am_w (am_w (am_w (am_w um 60 16 (nI d)) 60 15 (nI (p + 1))) 71 c (nI d)) 60 18 (nI (c + 1))) (by omega) (by omega) (by omega) (tC_fr h (by rw [am_w_n (by omega), am_w_n (by omega), am_w_n (by omega)]) (fun i => by rw [am_w_n (by omega), am_w_n (by omega), am_w_n (by omega)])) (tM_fr hm (fun a e z => by rw [am_w_n (by omega), am_w_n (by omega), am_w_n (by omega), am_w_n (by omega)])) (am_w_s _ _ _ _) (by rw [am_w_n (by omega), am_w_n (by omega), am_w_s]) (by rw [am_w_n (by omega), am_w_s]) (am_w_s _ _ _ _) (fun k hk => by
            rw [am_w_n (by omega), am_w_n (by omega), am_w_n (show ¬ (71 = 60 ∧ k = 18) by omega)]
            by_cases q : k = c
            · subst q; rw [am_w_s, am_w_s]
            · rw [am_w_n (by omega), am_w_n (by omega), am_w_n (by omega), am_w_n (by omega)]; exact hD k (by omega))
          refine ⟨p', uc', um', x1, ?_, ?_, x4, x5, fun a e z1 z2 z3 => ?_, fun a e z1 z2 => ?_, x8⟩
          · show f_X7_readSuns_16 T dr K f (am_w (am_w (am_w uc (dr + 1) c (nI d)) dr 1 (am_w uc (dr + 1) c (nI d) dr 1 + 1)) 7 1 (am_w (am_w uc (dr + 1) c (nI d)) dr 1 (am_w uc (dr + 1) c (nI d) dr 1 + 1) 7 1 + 1)) = _
            rw [e1, nI_1, e2, nI_1]; exact x2
          · refine (if_neg ne10).trans ?_
            show am_ck (am_ix (am_w (am_w um 60 16 (nI d)) 60 15 (nI (p + 1)) 60 18) 8) (f_X11_readsSuns_12 (nI t) K' f (am_w (am_w (am_w (am_w um 60 16 (nI d)) 60 15 (nI (p + 1))) 71 (am_w (am_w um 60 16 (nI d)) 60 15 (nI (p + 1)) 60 18).toNatClampNeg (am_w (am_w um 60 16 (nI d)) 60 15 (nI (p + 1)) 60 16)) 60 18 (am_w (am_w (am_w um 60 16 (nI d)) 60 15 (nI (p + 1))) 71 (am_w (am_w um 60 16 (nI d)) 60 15 (nI (p + 1)) 60 18).toNatClampNeg (am_w (am_w um 60 16 (nI d)) 60 15 (nI (p + 1)) 60 16) 60 18 + 1))) = _
            rw [e3, e4, am_ck_t (am_ix_nI c8 (by omega)), nI_clamp (by omega), am_w_n (show ¬ (60 = 71 ∧ 18 = c) by omega), e3, nI_1]; exact x3
          · rw [x6 a e z1 z2 z3, am_w_n (by omega), am_w_n (by omega), am_w_n (by omega)]
          · rw [x7 a e z1 z2, am_w_n (by omega), am_w_n (by omega), am_w_n (by omega), am_w_n (by omega)]
        · have w0 : f_X10_isWithin (nI d) 0 1 = some 0 := wi_no (Or.inr (show (1 : Int32) < nI d from nI_lt (a := 1) (by omega) (by omega)))
          exact no (by rw [g1]; exact w0) (by rw [g3]; exact w0)
    · have : c = 8 := by omega
      subst this
      rw [if_pos (show (8 : Int32) ≤ nI 8 by decide), if_pos (show (8 : Int32) ≤ nI 8 by decide)]
      exact ⟨p, uc, um, hps, rfl, rfl, hcp, hmp, fun _ _ _ _ _ => rfl, fun _ _ _ _ => rfl, 8, by omega, hc1, hm1, hD⟩
