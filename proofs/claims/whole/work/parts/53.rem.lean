/-! what is remembered of a deed: of each side alone -/
def d_C (u : am_U) (s : Nat) (L : Nat → Nat → Int32) : Prop := ∃ f, f < 60 ∧ u 14 2 = nI f ∧ u 14 3 = nI s ∧ ∀ j, j < s → (∀ i, i < 30 → u 16 (30 * ((f + j) % 60) + i) = L j i) ∧ u 17 ((f + j) % 60) = L j 30
def d_M (u : am_U) (s : Nat) (L : Nat → Nat → Int32) : Prop := u 60 26 = nI s ∧ ∀ j, j < s → ∀ i, i < 31 → u 76 (31 * j + i) = L j i
def d_p (s : Nat) (L : Nat → Nat → Int32) (x : Nat → Int32) : Nat → Nat → Int32 := fun j => if s = 60 then (if j < 59 then L (j + 1) else x) else (if j < s then L j else x)
def d_s (s : Nat) : Nat := if s = 60 then 60 else s + 1
theorem deeds_to {u : am_U} (h : i_deeds u) : ∃ s L, s ≤ 60 ∧ d_C u s L ∧ d_M u s L ∧ ∀ j, j < s → i_vs u (L j) := by
  obtain ⟨f, s, h1, h2, h3, h4, h5, h6⟩ := h
  refine ⟨s, fun j i => u 76 (31 * j + i), h2, ⟨f, h1, h3, h4, fun j hj => ⟨(h6 j hj).1, (h6 j hj).2.1⟩⟩, ⟨h5, fun j hj i hi => rfl⟩, fun j hj => (h6 j hj).2.2⟩
theorem deeds_of {u : am_U} {s : Nat} {L : Nat → Nat → Int32} (hs : s ≤ 60) (hC : d_C u s L) (hM : d_M u s L) (hv : ∀ j, j < s → i_vs u (L j)) : i_deeds u := by
  obtain ⟨f, h1, h3, h4, h6⟩ := hC
  refine ⟨f, s, h1, hs, h3, h4, hM.1, fun j hj => ⟨fun i hi => ?_, ?_, fr_vs (hv j hj) (fun _ _ _ => rfl) (fun i hi => hM.2 j hj i (by omega))⟩⟩
  · rw [(h6 j hj).1 i hi, hM.2 j hj i (by omega)]
  · rw [(h6 j hj).2, hM.2 j hj 30 (by omega)]
theorem d_C_fr {u w : am_U} {s : Nat} {L : Nat → Nat → Int32} (h : d_C u s L) (e : ∀ a b, a = 14 ∨ a = 16 ∨ a = 17 → w a b = u a b) : d_C w s L := by
  obtain ⟨f, h1, h3, h4, h6⟩ := h
  refine ⟨f, h1, by rw [e 14 2 (by omega)]; exact h3, by rw [e 14 3 (by omega)]; exact h4, fun j hj => ⟨fun i hi => ?_, ?_⟩⟩
  · rw [e 16 _ (by omega)]; exact (h6 j hj).1 i hi
  · rw [e 17 _ (by omega)]; exact (h6 j hj).2
theorem d_M_fr {u w : am_U} {s : Nat} {L : Nat → Nat → Int32} (h : d_M u s L) (e : ∀ a b, (a = 60 ∧ b = 26) ∨ a = 76 → w a b = u a b) : d_M w s L :=
  ⟨by rw [e 60 26 (by omega)]; exact h.1, fun j hj i hi => by rw [e 76 _ (by omega)]; exact h.2 j hj i hi⟩
theorem sc_fr {u w : am_U} (e : ∀ a b, 8 ≤ a ∧ a ≤ 13 → w a b = u a b) : m_sc w = m_sc u := by
  funext i
  unfold m_sc
  rw [e 9 _ (by omega), e 10 _ (by omega), e 11 _ (by omega), e 12 _ (by omega), e 13 _ (by omega), e 8 5 (by omega), e 8 6 (by omega)]
/-- the ring's next slot -/
def m_rc (v : am_U) (f s : Nat) (c : Int32) : am_U := am_w (am_sv (am_w v 17 ((f + s) % 60) c) 16 (30 * ((f + s) % 60)) (m_sc v)) 14 3 (nI (s + 1))
def m_rj (c : Int32) (v : am_U) : Option am_U :=
    let x2 : Int32 := ((v 14 2) + (v 14 3)) - ((v 14 2) + (v 14 3)) / 60 * 60
    am_ck (am_ix x2 60) (
    let u3 : am_U := am_w v 17 x2.toNatClampNeg c
    (f_X4_save 15 1800 x2 u3).bind (fun q5 =>
    let u6 : am_U := am_w q5 14 3 ((q5 14 3) + 1)
    some u6))
theorem rem_unf (c : Int32) (u : am_U) : f_X1_remember c u = if ¬ u 14 3 = 60 then m_rj c u else m_rj c (am_w (am_w u 14 2 (u 14 2 + 1 - (u 14 2 + 1) / 60 * 60)) 14 3 (am_w u 14 2 (u 14 2 + 1 - (u 14 2 + 1) / 60 * 60) 14 3 - 1)) := rfl
theorem remj_eq {v : am_U} {f s : Nat} (c : Int32) (hf : f < 60) (hs : s < 60) (e2 : v 14 2 = nI f) (e3 : v 14 3 = nI s) : m_rj c v = some (m_rc v f s c) := by
  have hlt : (f + s) % 60 < 60 := by omega
  show am_ck (am_ix (((v 14 2) + (v 14 3)) - ((v 14 2) + (v 14 3)) / nI 60 * nI 60) 60) ((f_X4_save 15 1800 (((v 14 2) + (v 14 3)) - ((v 14 2) + (v 14 3)) / nI 60 * nI 60) (am_w v 17 (((v 14 2) + (v 14 3)) - ((v 14 2) + (v 14 3)) / nI 60 * nI 60).toNatClampNeg c)).bind (fun q5 => some (am_w q5 14 3 ((q5 14 3) + 1)))) = _
  rw [e2, e3, nI_add, pk_rem (by omega) (by omega) (by omega), am_ck_t (am_ix_nI hlt (by omega)), nI_clamp (by omega), save_eq (by omega) (by omega) (by omega), sc_fr (u := v) (fun a b q => am_w_n (by omega))]
  show some (am_w (am_sv (am_w v 17 ((f + s) % 60) c) 16 (30 * ((f + s) % 60)) (m_sc v)) 14 3 (am_sv (am_w v 17 ((f + s) % 60) c) 16 (30 * ((f + s) % 60)) (m_sc v) 14 3 + 1)) = _
  rw [show am_sv (am_w v 17 ((f + s) % 60) c) 16 (30 * ((f + s) % 60)) (m_sc v) 14 3 = nI s from (if_neg (by omega)).trans (by rw [am_w_n (by omega)]; exact e3), nI_1]
  rfl
theorem rc_o {v : am_U} {f s a b : Nat} {c : Int32} (h1 : a ≠ 14) (h2 : a ≠ 16) (h3 : a ≠ 17) : m_rc v f s c a b = v a b := by
  unfold m_rc
  rw [am_w_n (by omega)]
  exact (if_neg (by omega)).trans (am_w_n (by omega))
theorem rc_17 {v : am_U} {f s b : Nat} {c : Int32} : m_rc v f s c 17 b = if b = (f + s) % 60 then c else v 17 b := by
  unfold m_rc
  rw [am_w_n (by omega)]
  refine (if_neg (by omega)).trans ?_
  rw [am_w_ap]
  by_cases q : b = (f + s) % 60
  · rw [if_pos ⟨rfl, q⟩, if_pos q]
  · rw [if_neg (by omega), if_neg q]
theorem rc_16 {v : am_U} {f s b : Nat} {c : Int32} : m_rc v f s c 16 b = if 30 * ((f + s) % 60) ≤ b ∧ b < 30 * ((f + s) % 60) + 30 then m_sc v (b - 30 * ((f + s) % 60)) else v 16 b := by
  unfold m_rc
  rw [am_w_n (by omega)]
  unfold am_sv
  by_cases q : 30 * ((f + s) % 60) ≤ b ∧ b < 30 * ((f + s) % 60) + 30
  · rw [if_pos ⟨rfl, q⟩, if_pos q]
  · rw [if_neg (by omega), if_neg q, am_w_n (by omega)]
theorem rem_c {u : am_U} {s : Nat} {L : Nat → Nat → Int32} (c : Int32) (hs : s ≤ 60) (h : d_C u s L) : ∃ w, f_X1_remember c u = some w ∧ d_C w (d_s s) (d_p s L (fun i => if i < 30 then m_sc u i else c)) ∧ ∀ a b, a ≠ 14 → a ≠ 16 → a ≠ 17 → w a b = u a b := by
  obtain ⟨f, h1, h3, h4, h6⟩ := h
  by_cases h60 : s = 60
  · subst h60
    obtain ⟨g, hg⟩ : ∃ g, (f + 1) % 60 = g := ⟨_, rfl⟩
    have hg60 : g < 60 := by omega
    obtain ⟨v, hv⟩ : ∃ v, am_w (am_w u 14 2 (nI g)) 14 3 (nI 59) = v := ⟨_, rfl⟩
    have e2 : v 14 2 = nI g := by rw [← hv, am_w_n (by omega), am_w_s]
    have e3 : v 14 3 = nI 59 := by rw [← hv, am_w_s]
    have eo : ∀ a b, a ≠ 14 → v a b = u a b := fun a b q => by rw [← hv, am_w_n (by omega), am_w_n (by omega)]
    refine ⟨m_rc v g 59 c, ?_, ⟨g, hg60, ?_, ?_, fun j hj => ?_⟩, fun a b q1 q2 q3 => by rw [rc_o q1 q2 q3, eo a b q1]⟩
    · have e14 : u 14 2 + 1 - (u 14 2 + 1) / 60 * 60 = nI g := by
        rw [h3, nI_1, show (60 : Int32) = nI 60 from rfl, pk_rem (by omega) (by omega) (by omega), hg]
      have e59 : am_w u 14 2 (nI g) 14 3 - 1 = nI 59 := by
        rw [am_w_n (by omega), h4]; rfl
      rw [rem_unf, if_neg (fun q => q h4), e14, e59, hv]
      exact remj_eq c hg60 (by omega) e2 e3
    · unfold m_rc; rw [am_w_n (by omega)]; exact (if_neg (by omega)).trans ((am_w_n (by omega)).trans e2)
    · unfold m_rc; rw [am_w_s]; rfl
    · have hj : j < 60 := hj
      unfold d_p
      simp only [if_true]
      by_cases q : j < 59
      · simp only [q, if_true]
        obtain ⟨y1, y2⟩ := h6 (j + 1) (by omega)
        have hq : (g + j) % 60 = (f + (j + 1)) % 60 := by omega
        refine ⟨fun i hi => ?_, ?_⟩
        · rw [rc_16, if_neg (by omega), eo 16 _ (by omega), hq]; exact y1 i hi
        · rw [rc_17, if_neg (by omega), eo 17 _ (by omega), hq]; exact y2
      · simp only [q, if_false]
        have hj59 : j = 59 := by omega
        subst hj59
        refine ⟨fun i hi => ?_, ?_⟩
        · rw [rc_16, if_pos (by omega), show 30 * ((g + 59) % 60) + i - 30 * ((g + 59) % 60) = i by omega, sc_fr (u := u) (fun a b q => eo a b (by omega)), if_pos hi]
        · rw [rc_17, if_pos rfl, if_neg (by omega)]
  · have hs60 : s < 60 := by omega
    refine ⟨m_rc u f s c, ?_, ⟨f, h1, ?_, ?_, fun j hj => ?_⟩, fun a b q1 q2 q3 => rc_o q1 q2 q3⟩
    · rw [rem_unf, if_pos (show ¬ u 14 3 = 60 from fun q => by
        rw [h4] at q
        exact h60 ((nI_eq (b := 60) (by omega) (by omega)).mp q))]
      exact remj_eq c h1 hs60 h3 h4
    · unfold m_rc; rw [am_w_n (by omega)]; exact (if_neg (by omega)).trans ((am_w_n (by omega)).trans h3)
    · unfold m_rc d_s; rw [am_w_s, if_neg h60]
    · unfold d_s at hj
      rw [if_neg h60] at hj
      unfold d_p
      simp only [h60, if_false]
      by_cases q : j < s
      · simp only [q, if_true]
        obtain ⟨y1, y2⟩ := h6 j q
        refine ⟨fun i hi => ?_, ?_⟩
        · rw [rc_16, if_neg (by omega)]; exact y1 i hi
        · rw [rc_17, if_neg (by omega)]; exact y2
      · simp only [q, if_false]
        have hjs : j = s := by omega
        subst hjs
        refine ⟨fun i hi => ?_, ?_⟩
        · rw [rc_16, if_pos (by omega), show 30 * ((f + j) % 60) + i - 30 * ((f + j) % 60) = i by omega, if_pos hi]
        · rw [rc_17, if_pos rfl, if_neg (by omega)]
