/-! the jars, the needs, the suns, the mules -/
def KC (T : Nat) : am_U → Option (Int32 × am_U) := fun c6u => (f_X7_sign T c6u).bind (fun q7 => if ¬ q7 = 1000 then some (0, c6u) else some (1, c6u))
def KF (t : Nat) : am_U → Option (Int32 × am_U) := fun c13u => if (c13u 60 19) = 0 then am_ck (am_ix (nI t) 4) (some (c13u 65 (nI t).toNatClampNeg, c13u)) else some (-9, c13u)
theorem jC_t {dr : Nat} {u v w : am_U} (h : jC dr u v) (h2 : jC dr v w) : jC dr u w := fun a c z1 z2 z3 z4 => (h2 a c z1 z2 z3 z4).trans (h a c z1 z2 z3 z4)
theorem jM_t {u v w : am_U} (h : jM u v) (h2 : jM v w) : jM u w := fun a c z1 z2 z3 z4 => (h2 a c z1 z2 z3 z4).trans (h a c z1 z2 z3 z4)
theorem D4_fr {dr c : Nat} {uc um uc' um' : am_U} (h : D4 dr c uc um) (e1 : ∀ a x, a ≠ 7 → uc' a x = uc a x) (e2 : ∀ a x, ¬ (a = 60 ∧ x = 15) → um' a x = um a x) (hdr : dr = 30 ∨ dr = 35) : D4 dr c uc' um' := by
  obtain ⟨h1, h2, h3, h4⟩ := h
  refine ⟨h1, by rw [e1 _ _ (by omega)]; exact h2, by rw [e2 _ _ (by omega)]; exact h3, fun k hk => ?_⟩
  rw [e1 _ _ (by omega), e1 _ _ (by omega), e2 _ _ (by omega), e2 _ _ (by omega)]
  exact h4 k hk
theorem disp_m {t s q f : Nat} {b : Nat → Int32} {um : am_U} (ht : t < 4) (hs : s ≤ 60) (hm : tM t b s um) (hq : q < s) (hmp : um 60 15 = nI q) (hb32 : ¬ b q = 32) : f_X11_faultOf_25 (nI t) (KF t) (f + 1) um = if ¬ (um 60 17) = 0 then (if ¬ (um 60 18) = 0 then (if ¬ (um 60 19) = 0 then (f_X11_readsJar (nI t) um).bind (fun q8 => if ¬ q8.1 = 0 then f_X11_faultOf_25 (nI t) (KF t) f q8.2 else some (q8.2 60 15, q8.2)) else (f_X11_readsNeeds (nI t) um).bind (fun q9 => if q9.1 = 0 then some (q9.2 60 15, q9.2) else f_X11_faultOf_25 (nI t) (KF t) f q9.2)) else (f_X11_readsSuns (nI t) um).bind (fun q10 => if q10.1 = 0 then some (q10.2 60 15, q10.2) else f_X11_faultOf_25 (nI t) (KF t) f q10.2)) else (f_X11_readsMules (nI t) um).bind (fun q11 => if q11.1 = 0 then some (q11.2 60 15, q11.2) else f_X11_faultOf_25 (nI t) (KF t) f q11.2) := by
  rw [f_X11_faultOf_25, am_ck_t (am_ix_nI ht (by omega)), nI_clamp (show t < 2 ^ 31 by omega), hm.1, hmp, if_neg (nI_ge hq (by omega)), bz_eq hm ht hs (by omega), obs, show m_bz b s q = b q from if_pos hq, if_pos hb32]
theorem end_m {t s q f : Nat} {b : Nat → Int32} {um : am_U} (ht : t < 4) (hs : s ≤ 60) (hm : tM t b s um) (hq : s ≤ q) (hq2 : q ≤ 100) (hmp : um 60 15 = nI q) : f_X11_faultOf_25 (nI t) (KF t) (f + 1) um = KF t um := by
  rw [f_X11_faultOf_25, am_ck_t (am_ix_nI ht (by omega)), nI_clamp (show t < 2 ^ 31 by omega), hm.1, hmp, if_pos (nI_le hq (by omega))]
theorem jars_step (T dr c f : Nat) (u : am_U) : f_X7_readJars_11 T dr (KC T) (f + 1) (nI c) u = if 6 ≤ nI c then KC T u else (f_X7_sign T u).bind (fun q3 => if q3 = 1000 then KC T u else (rJ T dr c u).bind (fun q4 => if ¬ q4.1 = 0 then (f_X7_skipBlanks T q4.2).bind (fun q6 => f_X7_readJars_11 T dr (KC T) f (nI (c + 1)) q6) else some (0, q4.2))) := by
  have e := rJ_bind T dr c u (fun w => (f_X7_skipBlanks T w).bind (fun q6 => f_X7_readJars_11 T dr (KC T) f (nI c + 1) q6))
  rw [f_X7_readJars_11]
  by_cases h6 : 6 ≤ nI c
  · rw [if_pos h6, if_pos h6]
  · rw [if_neg h6, if_neg h6]
    cases f_X7_sign T u with
    | none => rfl
    | some q3 =>
      rw [obs, obs]
      by_cases h : q3 = 1000
      · rw [if_pos h, if_pos h]
      · rw [if_neg h, if_neg h, ← nI_1]
        exact e
theorem jars_rel {T t s dr : Nat} {b : Nat → Int32} (hdr : dr = 30 ∨ dr = 35) (hT : 39 < T) (ht : t < 4) (hs : s ≤ 60) (hb : ∀ i, i < s → ¬ b i = 1000) : ∀ (N q c fC fM : Nat) (uc um : am_U), s - q < N → q ≤ s → (q < s → ¬ b q = 32) → tC T b s uc → tM t b s um → uc 7 1 = nI q → um 60 15 = nI q → D4 dr c uc um → ¬ um 60 17 = 0 → ¬ um 60 18 = 0 → ¬ um 60 19 = 0 → 6 < c + fC → s + 1 < q + fM → ∃ ok res uc' um', f_X7_readJars_11 T dr (KC T) fC (nI c) uc = some (ok, uc') ∧ f_X11_faultOf_25 (nI t) (KF t) fM um = some (res, um') ∧ jC dr uc uc' ∧ jM um um' ∧ ((ok = 0 ∧ ¬ res = -9 ∧ uc' 7 1 = res) ∨ (ok = 1 ∧ res = -9 ∧ ∃ c', D4 dr c' uc' um')) := by
  intro N
  induction N with
  | zero => intro q c fC fM uc um h; omega
  | succ N ih =>
    intro q c fC fM uc um hN hqs hb32 h hm hcp hmp hD f17 f18 f19 hfC hfM
    obtain ⟨fC, rfl⟩ : ∃ x, fC = x + 1 := ⟨fC - 1, by have := hD.1; omega⟩
    obtain ⟨fM, rfl⟩ : ∃ x, fM = x + 1 := ⟨fM - 1, by omega⟩
    have hc6 := hD.1
    by_cases c0 : q < s
    · have hsg : m_sg b s q = b q := if_pos c0
      rw [disp_m ht hs hm c0 hmp (hb32 c0), if_pos f17, if_pos f18, if_pos f19, jars_step]
      by_cases c1 : c = 6
      · subst c1
        refine ⟨0, nI q, uc, um, ?_, ?_, fun _ _ _ _ _ _ => rfl, fun _ _ _ _ _ _ => rfl, Or.inl ⟨rfl, nI_m9 (by omega), hcp⟩⟩
        · rw [if_pos (show (6 : Int32) ≤ nI 6 by decide)]
          unfold KC
          rw [sign_eq h hs hcp (by omega), obs, hsg, if_pos (hb q c0)]
        · obtain ⟨k, -, k2, k3⟩ := kd_eq (b q)
          have hR : f_X11_readsJar (nI t) um = some (0, um) := by
            unfold f_X11_readsJar
            rw [hmp, bz_eq hm ht hs (by omega), obs, show m_bz b s q = b q from if_pos c0, k2, obs]
            rcases k3 with k3 | ⟨k3, -⟩
            · rw [if_pos k3]
            · rw [if_neg k3, hD.2.2.1, if_neg (fun z => z rfl)]
          rw [hR, obs, if_neg (fun z => z rfl)]
          show some (um 60 15, um) = _
          rw [hmp]
      · obtain ⟨ok, p', uc1, um1, g1, g2, g3, g4, g5, g6, g7, g8, g9⟩ := jar_rel hdr hT ht hs h hm c0 hcp hmp (by omega) hD
        rw [if_neg (show ¬ (6 : Int32) ≤ nI c from nI_ge (b := 6) (by omega) (by omega)), sign_eq h hs hcp (by omega), obs, hsg, if_neg (hb q c0), g3, obs, g5, obs]
        rcases g9 with g9 | ⟨g9, g10, g11⟩
        · subst g9
          exact ⟨0, nI p', uc1, um1, if_neg (fun z => z rfl), (if_neg (fun z => z rfl)).trans (by show some (um1 60 15, um1) = _; rw [g6]), g7, g8, Or.inl ⟨rfl, nI_m9 (by omega), g4⟩⟩
        · subst g9
          have h1 : tC T b s uc1 := tC_fr h (g7 _ _ (by omega) (by omega) (by omega) (by omega)) (fun i => g7 _ _ (by omega) (by omega) (by omega) (by omega))
          have hm1 : tM t b s um1 := tM_fr hm (fun a e z => g8 _ _ (by omega) (by omega) (by omega) (by omega))
          obtain ⟨q2, y1, y2, y3, y4, y5⟩ := skip_c (by omega) hs 100 20000 p' uc1 (by omega) (by omega) g2 h1 g4
          have hfm : fM = (fM - (q2 - p')) + (q2 - p') := by omega
          have y6 := skip_m ht hs (KF t) (q2 - p') p' (fM - (q2 - p')) um1 (by omega) (fun i z1 z2 => y4 i z1 (by omega)) hm1 g6
          rw [← hfm, show p' + (q2 - p') = q2 by omega] at y6
          have e17 : am_w um1 60 15 (nI q2) 60 17 = um 60 17 := by rw [am_w_n (by omega), g8 _ _ (by omega) (by omega) (by omega) (by omega)]
          have e18 : am_w um1 60 15 (nI q2) 60 18 = um 60 18 := by rw [am_w_n (by omega), g8 _ _ (by omega) (by omega) (by omega) (by omega)]
          have e19 : am_w um1 60 15 (nI q2) 60 19 = um 60 19 := by rw [am_w_n (by omega), g8 _ _ (by omega) (by omega) (by omega) (by omega)]
          obtain ⟨ok, res, uc', um', x1, x2, x3, x4, x5⟩ := ih q2 (c + 1) fC (fM - (q2 - p')) (am_w uc1 7 1 (nI q2)) (am_w um1 60 15 (nI q2)) (by omega) y2 y3 (tC_fr h1 (am_w_n (by omega)) (fun i => am_w_n (by omega))) (tM_fr hm1 (fun a e z => am_w_n (by omega))) (am_w_s _ _ _ _) (am_w_s _ _ _ _) (D4_fr g11 (fun a x z => am_w_n (by omega)) (fun a x z => am_w_n z) hdr) (by rw [e17]; exact f17) (by rw [e18]; exact f18) (by rw [e19]; exact f19) (by omega) (by omega)
          refine ⟨ok, res, uc', um', ?_, ?_, jC_t g7 (jC_t (fun a e z1 _ _ _ => am_w_n (by omega)) x3), jM_t g8 (jM_t (fun a e z1 _ _ _ => am_w_n z1) x4), x5⟩
          · refine (if_pos ne10).trans ?_
            rw [show f_X7_skipBlanks T uc1 = some (am_w uc1 7 1 (nI q2)) from y5, obs]
            exact x1
          · refine (if_pos ne10).trans ?_
            exact y6.trans x2
    · refine ⟨1, -9, uc, um, ?_, ?_, fun _ _ _ _ _ _ => rfl, fun _ _ _ _ _ _ => rfl, Or.inr ⟨rfl, rfl, c, hD⟩⟩
      · have hK : KC T uc = some (1, uc) := by
          unfold KC
          rw [sign_eq h hs hcp (by omega), obs, show m_sg b s q = 1000 from if_neg c0, if_neg (fun z => z rfl)]
        rw [jars_step, sign_eq h hs hcp (by omega), obs, show m_sg b s q = 1000 from if_neg c0, if_pos rfl, hK]
        split <;> rfl
      · rw [end_m ht hs hm (by omega) (by omega) hmp]
        unfold KF
        rw [if_neg f19]
/-! how the class goes on -/
def cJ (T dr : Nat) (u : am_U) : Option (Int32 × am_U) := (f_X7_readJars T dr u).bind (fun q7 => if q7.1 = 0 then some (q7.2 7 1, q7.2) else some (-9, q7.2))
def cN (T dr : Nat) (u : am_U) : Option (Int32 × am_U) := (f_X7_readNeeds T dr u).bind (fun q6 => if q6.1 = 0 then some (q6.2 7 1, q6.2) else cJ T dr q6.2)
def cS (T dr : Nat) (u : am_U) : Option (Int32 × am_U) := (f_X7_readSuns T dr u).bind (fun q5 => if q5.1 = 0 then some (q5.2 7 1, q5.2) else cN T dr q5.2)
def cM (T dr : Nat) (u : am_U) : Option (Int32 × am_U) := (f_X7_readMules T dr u).bind (fun q2 => if q2.1 = 0 then some (q2.2 7 1, q2.2) else cS T dr q2.2)
theorem read_eq (T dr : Nat) (u : am_U) : f_X7_read T dr u = cM T dr (am_w u 7 1 0) := by
  unfold f_X7_read cM cS cN cJ
  simp only [jn_eq, iT, i10]
def gC (dr : Nat) (uc uc' : am_U) : Prop := ∀ a c, a ≠ 7 → ¬ (dr ≤ a ∧ a ≤ dr + 4 ∧ ¬ (a = dr + 2 ∧ c = 0)) → uc' a c = uc a c
def gM (um um' : am_U) : Prop := ∀ a c, ¬ (a = 60 ∧ 15 ≤ c ∧ c ≤ 20) → ¬ (71 ≤ a ∧ a ≤ 74) → um' a c = um a c
/-- what a section gives -/
def sR (T t dr : Nat) (c : am_U → Option (Int32 × am_U)) (f : Nat) (uc um : am_U) : Prop := ∃ res uc' um', c uc = some (res, uc') ∧ f_X11_faultOf_25 (nI t) (KF t) f um = some (res, um') ∧ gC dr uc uc' ∧ gM um um' ∧ (res = -9 → D1 dr uc' um' ∧ D2 dr uc' um' ∧ D3 dr uc' um' ∧ ∃ c', D4 dr c' uc' um')
theorem sR_fr {T t dr f f2 : Nat} {c c2 : am_U → Option (Int32 × am_U)} {uc um uc2 um2 : am_U} (h : sR T t dr c2 f2 uc2 um2) (e1 : c uc = c2 uc2) (e2 : f_X11_faultOf_25 (nI t) (KF t) f um = f_X11_faultOf_25 (nI t) (KF t) f2 um2) (g1 : gC dr uc uc2) (g2 : gM um um2) : sR T t dr c f uc um := by
  obtain ⟨res, uc', um', h1, h2, h3, h4, h5⟩ := h
  exact ⟨res, uc', um', e1.trans h1, e2.trans h2, fun a x z1 z2 => (h3 a x z1 z2).trans (g1 a x z1 z2), fun a x z1 z2 => (h4 a x z1 z2).trans (g2 a x z1 z2), h5⟩
theorem stJ {T t s dr p f : Nat} {b : Nat → Int32} {uc um : am_U} (hdr : dr = 30 ∨ dr = 35) (hT : 39 < T) (ht : t < 4) (hs : s ≤ 60) (hb : ∀ i, i < s → ¬ b i = 1000) (hps : p ≤ s) (h : tC T b s uc) (hm : tM t b s um) (hcp : uc 7 1 = nI p) (hmp : um 60 15 = nI p) (f17 : ¬ um 60 17 = 0) (f18 : ¬ um 60 18 = 0) (f19 : ¬ um 60 19 = 0) (f20 : um 60 20 = nI 0) (d1 : D1 dr uc um) (d2 : D2 dr uc um) (d3 : D3 dr uc um) (hf : 200 ≤ f) : sR T t dr (cJ T dr) f uc um := by
  have h1 : tC T b s (am_w uc dr 2 0) := tC_fr h (am_w_n (by omega)) (fun i => am_w_n (by omega))
  obtain ⟨q, y1, y2, y3, y4, y5⟩ := skip_c (by omega) hs 100 20000 p (am_w uc dr 2 0) (by omega) (by omega) hps h1 (by rw [am_w_n (by omega)]; exact hcp)
  have hfm : f = (f - (q - p)) + (q - p) := by omega
  have y6 := skip_m ht hs (KF t) (q - p) p (f - (q - p)) um (by omega) (fun i z1 z2 => y4 i z1 (by omega)) hm hmp
  rw [← hfm, show p + (q - p) = q by omega] at y6
  obtain ⟨ok, res, uc', um', x1, x2, x3, x4, x5⟩ := jars_rel hdr hT ht hs hb 100 q 0 20000 (f - (q - p)) (am_w (am_w uc dr 2 0) 7 1 (nI q)) (am_w um 60 15 (nI q)) (by omega) y2 y3 (tC_fr h1 (am_w_n (by omega)) (fun i => am_w_n (by omega))) (tM_fr hm (fun a e z => am_w_n (by omega))) (am_w_s _ _ _ _) (am_w_s _ _ _ _) ⟨by omega, by rw [am_w_n (by omega), am_w_s]; rfl, by rw [am_w_n (by omega)]; exact f20, fun k hk => absurd hk (Nat.not_lt_zero k)⟩ (by rw [am_w_n (by omega)]; exact f17) (by rw [am_w_n (by omega)]; exact f18) (by rw [am_w_n (by omega)]; exact f19) (by omega) (by omega)
  have eC : ∀ a e, a ≠ 7 → a ≠ dr + 3 → a ≠ dr + 4 → ¬ (a = dr ∧ e = 2) → uc' a e = uc a e := fun a e z1 z2 z3 z4 => by rw [x3 a e z1 z2 z3 z4, am_w_n (by omega), am_w_n z4]
  have eM : ∀ a e, ¬ (a = 60 ∧ e = 15) → ¬ (a = 60 ∧ e = 20) → a ≠ 73 → a ≠ 74 → um' a e = um a e := fun a e z1 z2 z3 z4 => by rw [x4 a e z1 z2 z3 z4, am_w_n z1]
  have hE : f_X7_readJars T dr uc = some (ok, uc') := by
    unfold f_X7_readJars
    show (f_X7_skipBlanks T (am_w uc dr 2 0)).bind (fun q2 => f_X7_readJars_11 T dr (KC T) 20000 0 q2) = _
    rw [show f_X7_skipBlanks T (am_w uc dr 2 0) = some (am_w (am_w uc dr 2 0) 7 1 (nI q)) from y5, obs]
    exact x1
  refine ⟨res, uc', um', ?_, y6.trans x2, fun a e z1 z2 => eC a e z1 (by omega) (by omega) (by omega), fun a e z1 z2 => eM a e (by omega) (by omega) (by omega) (by omega), fun hr => ?_⟩
  · unfold cJ
    rw [hE, obs]
    rcases x5 with ⟨z1, z2, z3⟩ | ⟨z1, z2, z3⟩
    · rw [z1]; exact (if_pos rfl).trans (by show some (uc' 7 1, uc') = _; rw [z3])
    · rw [z1, z2]; exact if_neg ne10
  · rcases x5 with ⟨z1, z2, z3⟩ | ⟨z1, z2, z3⟩
    · exact absurd hr z2
    · refine ⟨?_, ?_, fun v v1 v2 => ?_, z3⟩
      · unfold D1; rw [eC _ _ (by omega) (by omega) (by omega) (by omega), eM _ _ (by omega) (by omega) (by omega) (by omega)]; exact d1
      · obtain ⟨c, k1, k2, k3, k4⟩ := d2
        refine ⟨c, k1, by rw [eC _ _ (by omega) (by omega) (by omega) (by omega)]; exact k2, by rw [eM _ _ (by omega) (by omega) (by omega) (by omega)]; exact k3, fun k hk => ?_⟩
        rw [eC _ _ (by omega) (by omega) (by omega) (by omega), eM _ _ (by omega) (by omega) (by omega) (by omega)]; exact k4 k hk
      · rw [eC _ _ (by omega) (by omega) (by omega) (by omega), eM _ _ (by omega) (by omega) (by omega) (by omega)]; exact d3 v v1 v2
