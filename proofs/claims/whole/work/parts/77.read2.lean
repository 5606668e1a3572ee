/-! section by section -/
def D1 (dr : Nat) (uc um : am_U) : Prop := uc dr 0 = um 60 17
def D2 (dr : Nat) (uc um : am_U) : Prop := ∃ c, c ≤ 8 ∧ uc dr 1 = nI c ∧ um 60 18 = nI c ∧ ∀ k, k < c → uc (dr + 1) k = um 71 k
def D3 (dr : Nat) (uc um : am_U) : Prop := ∀ v, 1 ≤ v → v < 5 → uc (dr + 2) v = um 72 v ∧ am_le (um 72 v) 9
def D4 (dr c : Nat) (uc um : am_U) : Prop := c ≤ 6 ∧ uc dr 2 = nI c ∧ um 60 20 = nI c ∧ ∀ k, k < c → (uc (dr + 3) k = um 73 k ∧ am_le (um 73 k) 5) ∧ uc (dr + 4) k = um 74 k ∧ am_le (um 74 k) 20 ∧ ¬ um 74 k = 0
/-- what the jars' reading leaves -/
def jC (dr : Nat) (uc uc' : am_U) : Prop := ∀ a c, a ≠ 7 → a ≠ dr + 3 → a ≠ dr + 4 → ¬ (a = dr ∧ c = 2) → uc' a c = uc a c
def jM (um um' : am_U) : Prop := ∀ a c, ¬ (a = 60 ∧ c = 15) → ¬ (a = 60 ∧ c = 20) → a ≠ 73 → a ≠ 74 → um' a c = um a c
theorem kd_eq (x : Int32) : ∃ k, f_X2_byLetter x = some k ∧ f_X11_kindOf x = some k ∧ (k = -9 ∨ (¬ k = -9 ∧ am_le k 5)) := by
  have h : f_X2_byLetter x = if ¬ (106 : Int32) = x then (if ¬ (99 : Int32) = x then (if ¬ (101 : Int32) = x then (if ¬ (100 : Int32) = x then (if ¬ (108 : Int32) = x then (if ¬ (117 : Int32) = x then some (-9) else some 5) else some 4) else some 3) else some 2) else some 1) else some 0 := by
    unfold f_X2_byLetter
    rw [f_X2_byLetter_2, f_X2_byLetter_2, f_X2_byLetter_2, f_X2_byLetter_2, f_X2_byLetter_2, f_X2_byLetter_2, f_X2_byLetter_2]
    rfl
  rw [h]
  unfold f_X11_kindOf
  by_cases c1 : x = 106
  · subst c1; exact ⟨0, rfl, rfl, Or.inr ⟨by decide, 0, by omega, rfl⟩⟩
  · by_cases c2 : x = 99
    · subst c2; exact ⟨1, rfl, rfl, Or.inr ⟨by decide, 1, by omega, rfl⟩⟩
    · by_cases c3 : x = 101
      · subst c3; exact ⟨2, rfl, rfl, Or.inr ⟨by decide, 2, by omega, rfl⟩⟩
      · by_cases c4 : x = 100
        · subst c4; exact ⟨3, rfl, rfl, Or.inr ⟨by decide, 3, by omega, rfl⟩⟩
        · by_cases c5 : x = 108
          · subst c5; exact ⟨4, rfl, rfl, Or.inr ⟨by decide, 4, by omega, rfl⟩⟩
          · by_cases c6 : x = 117
            · subst c6; exact ⟨5, rfl, rfl, Or.inr ⟨by decide, 5, by omega, rfl⟩⟩
            · refine ⟨-9, ?_, ?_, Or.inl rfl⟩
              · rw [if_pos (fun q => c1 q.symm), if_pos (fun q => c2 q.symm), if_pos (fun q => c3 q.symm), if_pos (fun q => c4 q.symm), if_pos (fun q => c5 q.symm), if_pos (fun q => c6 q.symm)]
              · rw [if_neg c2, if_neg c4, if_neg c3, if_neg c1, if_neg c5, if_neg c6]
/-- a jar is written down -/
def w_j0 (dr c : Nat) (k v : Int32) (u : am_U) : am_U := am_w (am_w u (dr + 3) c k) (dr + 4) c v
def w_jc (dr c : Nat) (k v : Int32) (u : am_U) : am_U := am_w (am_w (am_w u (dr + 3) c k) (dr + 4) c v) dr 2 (nI (c + 1))
def w_jm (c : Nat) (k v : Int32) (u : am_U) : am_U := am_w (am_w (am_w u 73 c k) 74 c v) 60 20 (nI (c + 1))
/-- a jar is read, and counted -/
def rJ (T dr c : Nat) (u : am_U) : Option (Int32 × am_U) := (f_X7_readJar T dr (nI c) u).bind (fun q => if ¬ q.1 = 0 then some (1, am_w q.2 dr 2 (q.2 dr 2 + 1)) else some (0, q.2))
theorem rJ_0 {T dr c : Nat} {u u0 : am_U} (h : f_X7_readJar T dr (nI c) u = some (0, u0)) : rJ T dr c u = some (0, u0) := by
  unfold rJ
  rw [h, obs]
  exact if_neg (fun z => z rfl)
theorem rJ_1 {T dr c : Nat} {k v : Int32} {u u0 : am_U} (h : f_X7_readJar T dr (nI c) u = some (1, w_j0 dr c k v u0)) (hc : u0 dr 2 = nI c) : rJ T dr c u = some (1, w_jc dr c k v u0) := by
  have e : w_j0 dr c k v u0 dr 2 = nI c := by
    unfold w_j0
    rw [am_w_n (show ¬ (dr = dr + 4 ∧ 2 = c) by omega), am_w_n (show ¬ (dr = dr + 3 ∧ 2 = c) by omega), hc]
  unfold rJ
  rw [h, obs]
  refine (if_pos ne10).trans ?_
  show some ((1 : Int32), am_w (w_j0 dr c k v u0) dr 2 (w_j0 dr c k v u0 dr 2 + 1)) = _
  rw [e, nI_1]
  rfl
theorem rJ_bind (T dr c : Nat) (u : am_U) (g : am_U → Option (Int32 × am_U)) : (f_X7_readJar T dr (nI c) u).bind (fun q4 => if ¬ q4.1 = 0 then g (am_w q4.2 dr 2 (q4.2 dr 2 + 1)) else some (0, q4.2)) = (rJ T dr c u).bind (fun q4 => if ¬ q4.1 = 0 then g q4.2 else some (0, q4.2)) := by
  unfold rJ
  cases f_X7_readJar T dr (nI c) u with
  | none => rfl
  | some q =>
    rw [obs, obs]
    by_cases h : q.1 = 0
    · rw [if_neg (fun z => z h), if_neg (fun z => z h), obs]
      exact (if_neg (fun z => z rfl)).symm
    · rw [if_pos h, if_pos h, obs]
      exact (if_pos ne10).symm
theorem cjw {dr c : Nat} {k : Int32} {v : Nat} {u : am_U} (hc6 : c < 6) : (f_X10_isWithin (nI v) 1 20).bind (fun q8 => if ¬ q8 = 0 then am_ck (am_ix (nI c) 6) (some ((1 : Int32), am_w (am_w u (dr + 3) (nI c).toNatClampNeg k) (dr + 4) (nI c).toNatClampNeg (nI v))) else some (0, u)) = if f_X10_isWithin (nI v) 1 20 = some 0 then some (0, u) else some (1, w_j0 dr c k (nI v) u) := by
  rcases wi_01 (nI v) 1 20 with w | w
  · rw [w, obs, if_neg (fun z => z rfl), if_pos rfl]
  · rw [w, obs, if_pos ne10, if_neg (show ¬ (some (1 : Int32) = some 0) by decide), am_ck_t (am_ix_nI hc6 (by omega)), nI_clamp (by omega)]
    rfl
theorem mjw {c : Nat} {k : Int32} {v : Nat} {u : am_U} (hc : u 60 20 = nI c) (hc6 : c < 6) : (f_X10_isWithin (nI v) 1 20).bind (fun q9 => if ¬ q9 = 0 then am_ck (am_ix (u 60 20) 6) (am_ck (am_ix (am_w u 73 (u 60 20).toNatClampNeg k 60 20) 6) (some ((1 : Int32), am_w (am_w (am_w u 73 (u 60 20).toNatClampNeg k) 74 (am_w u 73 (u 60 20).toNatClampNeg k 60 20).toNatClampNeg (nI v)) 60 20 (am_w (am_w u 73 (u 60 20).toNatClampNeg k) 74 (am_w u 73 (u 60 20).toNatClampNeg k 60 20).toNatClampNeg (nI v) 60 20 + 1)))) else some (0, u)) = if f_X10_isWithin (nI v) 1 20 = some 0 then some (0, u) else some (1, w_jm c k (nI v) u) := by
  rcases wi_01 (nI v) 1 20 with w | w
  · rw [w, obs, if_neg (fun z => z rfl), if_pos rfl]
  · rw [w, obs, if_pos ne10, if_neg (show ¬ (some (1 : Int32) = some 0) by decide), hc, nI_clamp (by omega), am_w_n (show ¬ (60 = 73 ∧ 20 = c) by omega), hc, am_ck_t (am_ix_nI hc6 (by omega)), am_ck_t (am_ix_nI hc6 (by omega)), nI_clamp (by omega), am_w_n (show ¬ (60 = 74 ∧ 20 = c) by omega), am_w_n (show ¬ (60 = 73 ∧ 20 = c) by omega), hc, nI_1]
    rfl
theorem D4_add {dr c v : Nat} {k : Int32} {uc um uc' um' : am_U} (h : D4 dr c uc um) (hc : c < 6) (hk : am_le k 5) (hv : 1 ≤ v ∧ v ≤ 20) (e1 : ∀ a b, a ≠ 7 → uc' a b = w_jc dr c k (nI v) uc a b) (e2 : ∀ a b, ¬ (a = 60 ∧ b = 15) → um' a b = w_jm c k (nI v) um a b) (hdr : dr = 30 ∨ dr = 35) : D4 dr (c + 1) uc' um' ∧ jC dr uc uc' ∧ jM um um' := by
  obtain ⟨h1, h2, h3, h4⟩ := h
  refine ⟨⟨by omega, ?_, ?_, fun j hj => ?_⟩, fun a b z1 z2 z3 z4 => ?_, fun a b z1 z2 z3 z4 => ?_⟩
  · rw [e1 _ _ (by omega)]; unfold w_jc; rw [am_w_s]
  · rw [e2 _ _ (by omega)]; unfold w_jm; rw [am_w_s]
  · rw [e1 _ _ (by omega), e1 _ _ (by omega), e2 _ _ (by omega), e2 _ _ (by omega)]
    unfold w_jc w_jm
    rw [am_w_n (by omega), am_w_n (by omega), am_w_n (show ¬ (73 = 60 ∧ j = 20) by omega), am_w_n (show ¬ (73 = 74 ∧ j = c) by omega), am_w_n (show ¬ (dr + 4 = dr ∧ j = 2) by omega), am_w_n (show ¬ (74 = 60 ∧ j = 20) by omega)]
    by_cases q : j = c
    · subst q
      rw [am_w_s, am_w_s, am_w_s, am_w_s]
      exact ⟨⟨rfl, hk⟩, rfl, ⟨v, hv.2, rfl⟩, nI_ne0 (by omega) (by omega)⟩
    · rw [am_w_n (by omega), am_w_n (by omega), am_w_n (by omega), am_w_n (by omega), am_w_n (by omega), am_w_n (by omega)]
      exact h4 j (by omega)
  · rw [e1 a b z1]; unfold w_jc; rw [am_w_n (by omega), am_w_n (by omega), am_w_n (by omega)]
  · rw [e2 a b z1]; unfold w_jm; rw [am_w_n (by omega), am_w_n (by omega), am_w_n (by omega)]
theorem jar_rel {T t s dr q c : Nat} {b : Nat → Int32} {uc um : am_U} (hdr : dr = 30 ∨ dr = 35) (hT : 39 < T) (ht : t < 4) (hs : s ≤ 60) (h : tC T b s uc) (hm : tM t b s um) (hq : q < s) (hcp : uc 7 1 = nI q) (hmp : um 60 15 = nI q) (hc : c < 6) (hD : D4 dr c uc um) : ∃ ok p' uc' um', q ≤ p' ∧ p' ≤ s ∧ rJ T dr c uc = some (ok, uc') ∧ uc' 7 1 = nI p' ∧ f_X11_readsJar (nI t) um = some (ok, um') ∧ um' 60 15 = nI p' ∧ jC dr uc uc' ∧ jM um um' ∧ (ok = 0 ∨ (ok = 1 ∧ q < p' ∧ D4 dr (c + 1) uc' um')) := by
  obtain ⟨k, k1, k2, k3⟩ := kd_eq (b q)
  have hsg : m_sg b s q = b q := if_pos hq
  have hbz : m_bz b s q = b q := if_pos hq
  have h6 : ¬ nI c = 6 := fun z => absurd ((nI_eq (by omega) (by omega)).mp (show nI c = nI 6 from z)) (by omega)
  rcases k3 with k3 | ⟨k3, k4⟩
  · refine ⟨0, q, uc, um, by omega, by omega, ?_, hcp, ?_, hmp, fun _ _ _ _ _ _ => rfl, fun _ _ _ _ _ _ => rfl, Or.inl rfl⟩
    · refine rJ_0 ?_
      unfold f_X7_readJar
      rw [sign_eq h hs hcp (by omega), obs, hsg, k1, obs, if_neg (fun z => z k3)]
    · unfold f_X11_readsJar
      rw [hmp, bz_eq hm ht hs (by omega), obs, hbz, k2, obs, if_pos k3]
  have hC : ∀ x : Int32, tC T b s (am_w uc 7 1 x) := fun x => tC_fr h (am_w_n (by omega)) (fun i => am_w_n (by omega))
  have hMm : ∀ x : Int32, tM t b s (am_w um 60 15 x) := fun x => tM_fr hm (fun a c z => am_w_n (by omega))
  have hE : f_X7_readJar T dr (nI c) uc = if ¬ m_fg (m_sg b s (q + 1)) = -9 then (if m_fg (m_sg b s (q + 2)) = -9 then (f_X10_isWithin (m_fg (m_sg b s (q + 1))) 1 20).bind (fun q8 => if ¬ q8 = 0 then am_ck (am_ix (nI c) 6) (some ((1 : Int32), am_w (am_w (am_w uc 7 1 (nI (q + 2))) (dr + 3) (nI c).toNatClampNeg k) (dr + 4) (nI c).toNatClampNeg (m_fg (m_sg b s (q + 1))))) else some (0, am_w uc 7 1 (nI (q + 2)))) else (f_X10_isWithin (10 * m_fg (m_sg b s (q + 1)) + m_fg (m_sg b s (q + 2))) 1 20).bind (fun q8 => if ¬ q8 = 0 then am_ck (am_ix (nI c) 6) (some ((1 : Int32), am_w (am_w (am_w uc 7 1 (nI (q + 3))) (dr + 3) (nI c).toNatClampNeg k) (dr + 4) (nI c).toNatClampNeg (10 * m_fg (m_sg b s (q + 1)) + m_fg (m_sg b s (q + 2))))) else some (0, am_w uc 7 1 (nI (q + 3))))) else some (0, am_w uc 7 1 (nI (q + 1))) := by
    have f1 : f_X7_figure T (am_w uc 7 1 (nI (q + 1))) = some (m_fg (m_sg b s (q + 1))) := fg_eq (hC _) hs (am_w_s _ _ _ _) (by omega)
    have f2 : f_X7_figure T (am_w uc 7 1 (nI (q + 2))) = some (m_fg (m_sg b s (q + 2))) := fg_eq (hC _) hs (am_w_s _ _ _ _) (by omega)
    unfold f_X7_readJar
    rw [sign_eq h hs hcp (by omega), obs, hsg, k1, obs, if_pos k3]
    simp only [hcp, nI_1, f1, obs, am_w_s, ww, show q + 1 + 1 = q + 2 from rfl, f2, jn_eq, show q + 2 + 1 = q + 3 from rfl]
  have hMr : f_X11_readsJar (nI t) um = f_X11_readsJar_45 (nI t) k (fun (c8v3 : Int32) (c8v4 : Int32) (c8u : am_U) =>
        if c8v4 = 0 then (
          some (0, c8u))
        else (
          (f_X10_isWithin c8v3 1 20).bind (fun q9 => if ¬ q9 = 0 then am_ck (am_ix (c8u 60 20) 6) (am_ck (am_ix (am_w c8u 73 (c8u 60 20).toNatClampNeg k 60 20) 6) (some ((1 : Int32), am_w (am_w (am_w c8u 73 (c8u 60 20).toNatClampNeg k) 74 (am_w c8u 73 (c8u 60 20).toNatClampNeg k 60 20).toNatClampNeg c8v3) 60 20 (am_w (am_w c8u 73 (c8u 60 20).toNatClampNeg k) 74 (am_w c8u 73 (c8u 60 20).toNatClampNeg k 60 20).toNatClampNeg c8v3 60 20 + 1)))) else some (0, c8u)))) 20000 0 0 (am_w um 60 15 (nI (q + 1))) := by
    unfold f_X11_readsJar
    rw [hmp, bz_eq hm ht hs (by omega), obs, hbz, k2, obs, if_neg k3, hD.2.2.1, if_pos h6, nI_1]
    rfl
  have b1 := bz_eq (hMm (nI (q + 1))) ht hs (show q + 1 ≤ 100 by omega)
  have b2 := bz_eq (hMm (nI (q + 2))) ht hs (show q + 2 ≤ 100 by omega)
  rcases dg_cs b s (q + 1) with ⟨g1, g2, -⟩ | ⟨d, hd, hps, g1, g2, -, g4⟩
  · refine ⟨0, q + 1, am_w uc 7 1 (nI (q + 1)), am_w um 60 15 (nI (q + 1)), by omega, by omega, ?_, am_w_s _ _ _ _, ?_, am_w_s _ _ _ _, fun a c z1 _ _ _ => am_w_n (by omega), fun a c z1 _ _ _ => am_w_n (by omega), Or.inl rfl⟩
    · refine rJ_0 ?_
      rw [hE, g1, if_neg (fun z => z rfl)]
    · rw [hMr, f_X11_readsJar_45, if_neg (by decide), am_w_s, b1, obs, in_eq, g2, obs, if_pos rfl, if_pos rfl]
  · have g1n : ¬ nI d = -9 := nI_m9 (by omega)
    rw [g1, if_pos g1n] at hE
    have e48 : (10 : Int32) * 0 + nI (48 + d) - 48 = nI d := by
      rw [show (10 : Int32) * 0 = nI 0 from rfl, nI_add, Nat.zero_add, show nI (48 + d) - 48 = nI (48 + d - 48) from nI_sub (b := 48) (by omega), Nat.add_sub_cancel_left]
    rcases dg_cs b s (q + 2) with ⟨y1, y2, -⟩ | ⟨d2, hd2, hps2, y1, y2, -, y4⟩
    · rw [y1, if_pos rfl, cjw (dr := dr) (c := c) (u := am_w uc 7 1 (nI (q + 2))) hc] at hE
      have hMe : f_X11_readsJar (nI t) um = if f_X10_isWithin (nI d) 1 20 = some 0 then some (0, am_w um 60 15 (nI (q + 2))) else some (1, w_jm c k (nI d) (am_w um 60 15 (nI (q + 2)))) := by
        rw [hMr, f_X11_readsJar_45, if_neg (by decide), am_w_s, b1, obs, in_eq, g4, obs, if_neg ne10, obs, g2, e48, nI_1, ww, show q + 1 + 1 = q + 2 from rfl, f_X11_readsJar_45, if_neg (by decide), am_w_s, b2, obs, in_eq, y2, obs, if_pos rfl, if_neg (by decide), mjw (c := c) (u := am_w um 60 15 (nI (q + 2))) (by rw [am_w_n (by omega)]; exact hD.2.2.1) hc]
      rcases wi_cs (nI d) 1 20 (by omega) (by omega) with w | ⟨r, r1, r2, r3, w⟩
      · rw [if_pos (show f_X10_isWithin (nI d) 1 20 = some 0 from w)] at hE hMe
        exact ⟨0, q + 2, _, _, by omega, by omega, rJ_0 hE, am_w_s _ _ _ _, hMe, am_w_s _ _ _ _, fun a c z1 _ _ _ => am_w_n (by omega), fun a c z1 _ _ _ => am_w_n (by omega), Or.inl rfl⟩
      · have hdr' : d = r := (nI_eq (by omega) (by omega)).mp r3
        rw [show f_X10_isWithin (nI d) 1 20 = some 1 from w, if_neg (show ¬ (some (1 : Int32) = some 0) by decide)] at hE hMe
        obtain ⟨x1, x2, x3⟩ := D4_add (uc' := w_jc dr c k (nI d) (am_w uc 7 1 (nI (q + 2)))) (um' := w_jm c k (nI d) (am_w um 60 15 (nI (q + 2)))) hD hc k4 (v := d) (by omega) (fun a e z => by unfold w_jc; simp only [am_w_ap]; simp [z]) (fun a e z => by unfold w_jm; simp only [am_w_ap]; simp [z]) hdr
        refine ⟨1, q + 2, _, _, by omega, by omega, rJ_1 hE (by rw [am_w_n (by omega)]; exact hD.2.1), ?_, hMe, ?_, x2, x3, Or.inr ⟨rfl, by omega, x1⟩⟩
        · unfold w_jc; rw [am_w_n (by omega), am_w_n (by omega), am_w_n (by omega), am_w_s]
        · unfold w_jm; rw [am_w_n (by omega), am_w_n (by omega), am_w_n (by omega), am_w_s]
    · have ev : (10 : Int32) * nI d + nI d2 = nI (10 * d + d2) := by rw [show (10 : Int32) * nI d = nI (10 * d) from nI_mul 10 d, nI_add]
      have ev2 : (10 : Int32) * nI d + nI (48 + d2) - 48 = nI (10 * d + d2) := by
        rw [show (10 : Int32) * nI d = nI (10 * d) from nI_mul 10 d, nI_add, show nI (10 * d + (48 + d2)) - 48 = nI (10 * d + (48 + d2) - 48) from nI_sub (b := 48) (by omega), show 10 * d + (48 + d2) - 48 = 10 * d + d2 by omega]
      rw [y1, if_neg (nI_m9 (show d2 < 2 ^ 31 by omega)), ev, cjw (dr := dr) (c := c) (u := am_w uc 7 1 (nI (q + 3))) hc] at hE
      have hMe : f_X11_readsJar (nI t) um = if f_X10_isWithin (nI (10 * d + d2)) 1 20 = some 0 then some (0, am_w um 60 15 (nI (q + 3))) else some (1, w_jm c k (nI (10 * d + d2)) (am_w um 60 15 (nI (q + 3)))) := by
        rw [hMr, f_X11_readsJar_45, if_neg (by decide), am_w_s, b1, obs, in_eq, g4, obs, if_neg ne10, obs, g2, e48, nI_1, ww, show q + 1 + 1 = q + 2 from rfl, f_X11_readsJar_45, if_neg (by decide), am_w_s, b2, obs, in_eq, y4, obs, if_neg ne10, obs, y2, ev2, nI_1, ww, show q + 2 + 1 = q + 3 from rfl, f_X11_readsJar_45, if_pos (by decide), if_neg (by decide), mjw (c := c) (u := am_w um 60 15 (nI (q + 3))) (by rw [am_w_n (by omega)]; exact hD.2.2.1) hc]
      rcases wi_cs (nI (10 * d + d2)) 1 20 (by omega) (by omega) with w | ⟨r, r1, r2, r3, w⟩
      · rw [if_pos (show f_X10_isWithin (nI (10 * d + d2)) 1 20 = some 0 from w)] at hE hMe
        exact ⟨0, q + 3, _, _, by omega, by omega, rJ_0 hE, am_w_s _ _ _ _, hMe, am_w_s _ _ _ _, fun a c z1 _ _ _ => am_w_n (by omega), fun a c z1 _ _ _ => am_w_n (by omega), Or.inl rfl⟩
      · have hdr' : 10 * d + d2 = r := (nI_eq (by omega) (by omega)).mp r3
        rw [show f_X10_isWithin (nI (10 * d + d2)) 1 20 = some 1 from w, if_neg (show ¬ (some (1 : Int32) = some 0) by decide)] at hE hMe
        obtain ⟨x1, x2, x3⟩ := D4_add (uc' := w_jc dr c k (nI (10 * d + d2)) (am_w uc 7 1 (nI (q + 3)))) (um' := w_jm c k (nI (10 * d + d2)) (am_w um 60 15 (nI (q + 3)))) hD hc k4 (v := 10 * d + d2) (by omega) (fun a e z => by unfold w_jc; simp only [am_w_ap]; simp [z]) (fun a e z => by unfold w_jm; simp only [am_w_ap]; simp [z]) hdr
        refine ⟨1, q + 3, _, _, by omega, by omega, rJ_1 hE (by rw [am_w_n (by omega)]; exact hD.2.1), ?_, hMe, ?_, x2, x3, Or.inr ⟨rfl, by omega, x1⟩⟩
        · unfold w_jc; rw [am_w_n (by omega), am_w_n (by omega), am_w_n (by omega), am_w_s]
        · unfold w_jm; rw [am_w_n (by omega), am_w_n (by omega), am_w_n (by omega), am_w_s]
