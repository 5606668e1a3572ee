/-! the class's search -/
def rC (pz m st : Nat) (J Z : Nat → Nat) (Q : pQ) (u : am_U) : Prop := u pz 5 = nI st ∧ u pz 6 = nI m ∧ u pz 7 = nI Q.1 ∧ (∀ a, a < m → u (pz + 4) a = nI (J a) ∧ u (pz + 5) a = nI (Z a)) ∧ (∀ j, j < Q.1 → u (pz + 1) j = nI (Q.2.1 j) ∧ u (pz + 2) j = nI (Q.2.2.1 j)) ∧ (∀ c, c < 9261 → (u (pz + 3) c = nI st ↔ p_vis Q c)) ∧ ∀ c, c < 9261 → am_le (u (pz + 3) c) st
def pzf (pz : Nat) (u w : am_U) : Prop := ∀ a b, ¬ (pz ≤ a ∧ a ≤ pz + 5) → w a b = u a b
theorem pzf_t {pz : Nat} {u v w : am_U} (h : pzf pz u v) (h2 : pzf pz v w) : pzf pz u w := fun a b z => (h2 a b z).trans (h a b z)
theorem wi_nI {c : Nat} (hc : c < 9261) : f_X10_isWithin (nI c) 0 9260 = some 1 := wi_yes (nI_pos (by omega)) (show ¬ (9260 : Int32) < nI c from nI_nlt (a := 9260) (by omega) (by omega))
theorem come_c {pz m st c i mv d : Nat} {J Z : Nat → Nat} {Q : pQ} {u : am_U} (h : rC pz m st J Z Q u) (hQ : Q.1 ≤ 9261) (hn : ¬ p_vis Q c → Q.1 < 9261) (hc : c < 9261) (hst : st < 2 ^ 31) : ∃ w, f_X6_comeTo pz (nI c) (nI i) (nI mv) u = some w ∧ rC pz m st J Z (p_ct Q c (36 * i + mv) d) w ∧ pzf pz u w := by
  obtain ⟨h5, h6, h7, h8, h9, h10, h11⟩ := h
  unfold f_X6_comeTo
  rw [wi_nI hc, obs, if_neg ne10, am_ck_t (am_ix_nI hc (by omega)), nI_clamp (by omega), h5, h7]
  by_cases hv : p_vis Q c
  · rw [if_pos ((h10 c hc).mpr hv), ct_y hv]
    exact ⟨u, rfl, ⟨h5, h6, h7, h8, h9, h10, h11⟩, fun _ _ _ => rfl⟩
  · have hnn := hn hv
    rw [if_neg (fun z => hv ((h10 c hc).mp z)), if_neg (show ¬ (9261 : Int32) ≤ nI Q.1 from nI_ge (b := 9261) hnn (by omega)), ct_n hv]
    obtain ⟨w, hw⟩ : ∃ w, am_w (am_w (am_w (am_w u (pz + 3) c (nI st)) (pz + 1) Q.1 (nI c)) (pz + 2) Q.1 (nI (36 * i + mv))) pz 7 (nI (Q.1 + 1)) = w := ⟨_, rfl⟩
    have e7 : am_w u (pz + 3) c (nI st) pz 7 = nI Q.1 := by rw [am_w_n (by omega)]; exact h7
    have e8 : am_w (am_w u (pz + 3) c (nI st)) (pz + 1) Q.1 (nI c) pz 7 = nI Q.1 := by rw [am_w_n (by omega)]; exact e7
    have e9 : am_w (am_w (am_w u (pz + 3) c (nI st)) (pz + 1) Q.1 (nI c)) (pz + 2) Q.1 (nI (36 * i + mv)) pz 7 = nI Q.1 := by rw [am_w_n (by omega)]; exact e8
    have emv : (36 : Int32) * nI i + nI mv = nI (36 * i + mv) := by rw [show (36 : Int32) * nI i = nI (36 * i) from nI_mul 36 i, nI_add]
    refine ⟨w, ?_, ⟨?_, ?_, ?_, fun a ha => ?_, fun j hj => ?_, fun e he => ?_, fun e he => ?_⟩, fun a b z => ?_⟩
    · show am_ck (am_ix (am_w u (pz + 3) c (nI st) pz 7) 9261) (am_ck (am_ix (am_w (am_w u (pz + 3) c (nI st)) (pz + 1) (am_w u (pz + 3) c (nI st) pz 7).toNatClampNeg (nI c) pz 7) 9261) (some (am_w (am_w (am_w (am_w u (pz + 3) c (nI st)) (pz + 1) (am_w u (pz + 3) c (nI st) pz 7).toNatClampNeg (nI c)) (pz + 2) (am_w (am_w u (pz + 3) c (nI st)) (pz + 1) (am_w u (pz + 3) c (nI st) pz 7).toNatClampNeg (nI c) pz 7).toNatClampNeg ((36 * nI i) + nI mv)) pz 7 (am_w (am_w (am_w u (pz + 3) c (nI st)) (pz + 1) (am_w u (pz + 3) c (nI st) pz 7).toNatClampNeg (nI c)) (pz + 2) (am_w (am_w u (pz + 3) c (nI st)) (pz + 1) (am_w u (pz + 3) c (nI st) pz 7).toNatClampNeg (nI c) pz 7).toNatClampNeg ((36 * nI i) + nI mv) pz 7 + 1)))) = _
      rw [e7, am_ck_t (am_ix_nI hnn (by omega)), nI_clamp (by omega), e8, am_ck_t (am_ix_nI hnn (by omega)), nI_clamp (by omega), emv, e9, nI_1, hw]
    · rw [← hw, am_w_n (by omega), am_w_n (by omega), am_w_n (by omega), am_w_n (by omega)]; exact h5
    · rw [← hw, am_w_n (by omega), am_w_n (by omega), am_w_n (by omega), am_w_n (by omega)]; exact h6
    · rw [← hw, am_w_s]; rfl
    · rw [← hw, am_w_n (by omega), am_w_n (by omega), am_w_n (by omega), am_w_n (by omega), am_w_n (by omega), am_w_n (by omega), am_w_n (by omega), am_w_n (by omega)]; exact h8 a ha
    · have hj : j < Q.1 + 1 := hj
      show w (pz + 1) j = nI (if j = Q.1 then c else Q.2.1 j) ∧ w (pz + 2) j = nI (if j = Q.1 then 36 * i + mv else Q.2.2.1 j)
      rw [← hw, am_w_n (by omega), am_w_n (by omega), am_w_n (show ¬ (pz + 2 = pz ∧ j = 7) by omega)]
      by_cases z : j = Q.1
      · rw [if_pos z, if_pos z, z, am_w_s, am_w_s]; exact ⟨rfl, rfl⟩
      · rw [if_neg z, if_neg z, am_w_n (by omega), am_w_n (by omega), am_w_n (by omega), am_w_n (by omega), am_w_n (by omega)]; exact h9 j (by omega)
    · rw [← hw, am_w_n (by omega), am_w_n (by omega), am_w_n (by omega), am_w_ap]
      by_cases z : e = c
      · rw [if_pos ⟨rfl, z⟩]
        exact ⟨fun _ => ⟨Q.1, Nat.lt_succ_self _, (if_pos rfl).trans z.symm⟩, fun _ => rfl⟩
      · rw [if_neg (by omega)]
        refine Iff.trans (h10 e he) ⟨fun ⟨j, hj, hq⟩ => ⟨j, Nat.lt_succ_of_lt hj, (if_neg (by omega)).trans hq⟩, fun ⟨j, hj, hq⟩ => ?_⟩
        have hj : j < Q.1 + 1 := hj
        have hq : (if j = Q.1 then c else Q.2.1 j) = e := hq
        by_cases zz : j = Q.1
        · rw [if_pos zz] at hq; exact absurd hq.symm z
        · rw [if_neg zz] at hq; exact ⟨j, by omega, hq⟩
    · rw [← hw, am_w_n (by omega), am_w_n (by omega), am_w_n (by omega), am_w_ap]
      split
      · exact ⟨st, Nat.le_refl _, rfl⟩
      · exact h11 e he
    · rw [← hw, am_w_n (by omega), am_w_n (by omega), am_w_n (by omega), am_w_n (by omega)]
theorem c20_lp {pz m st i a S : Nat} {J Z : Nat → Nat} (hm : m ≤ 3) (hJ : ∀ a, a < m → J a < 6) (hZ : ∀ a, a < m → Z a ≤ 20) (ha : a < m) (hst : st < 2 ^ 31) (K : am_U → Option am_U) : ∀ (f b : Nat) (Q : pQ) (u : am_U), rC pz m st J Z Q u → p_wf m Z Q → i < Q.1 → Q.2.1 i = S → b ≤ m → m < b + f → ∃ w, f_X6_pourFrom_20 pz (nI i) (nI S) (nI a) K f (nI b) u = K w ∧ rC pz m st J Z (p_b J Z i a (m - b) b Q) w ∧ pzf pz u w := by
  intro f
  induction f with
  | zero => intro b Q u _ _ _ _ h1 h2; omega
  | succ f ih =>
    intro b Q u h hw hi hS h1 h2
    rw [f_X6_pourFrom_20, h.2.1]
    rcases Nat.lt_or_ge b m with q | q
    · obtain ⟨g1, g2, -⟩ := hw.1 i hi
      rw [hS] at g1 g2
      have hb2 := g2 b (by omega)
      rw [if_pos q] at hb2
      have ha2 := dgt_le S a
      have hZb := hZ b q
      obtain ⟨t, ht⟩ : ∃ t, m_tk (dgt S a) (Z b - dgt S b) = t := ⟨_, rfl⟩
      obtain ⟨o, ho⟩ : ∃ o, t - (t + 9) / 10 = o := ⟨_, rfl⟩
      have htb := (tk_bd (h := dgt S a) (r := Z b - dgt S b)).1
      rw [ht] at htb
      have step : ∀ Q' u', rC pz m st J Z Q' u' → p_wf m Z Q' → i < Q'.1 → Q'.2.1 i = S → p_st J Z Q i a b = Q' → pzf pz u u' → ∃ w, f_X6_pourFrom_20 pz (nI i) (nI S) (nI a) K f (nI (b + 1)) u' = K w ∧ rC pz m st J Z (p_b J Z i a (m - b) b Q) w ∧ pzf pz u w := fun Q' u' r1 r2 r3 r4 r5 r6 => by
        obtain ⟨w, w1, w2, w3⟩ := ih (b + 1) Q' u' r1 r2 r3 r4 (by omega) (by omega)
        refine ⟨w, w1, ?_, pzf_t r6 w3⟩
        rw [show m - b = (m - (b + 1)) + 1 by omega, p_b, r5]; exact w2
      rw [if_neg (nI_ge q (by omega)), held_eq g1 (show a < 3 by omega), obs, am_ck_t (am_ix_nI (show b < 3 by omega) (by omega)), held_eq g1 (show b < 3 by omega), obs, nI_clamp (by omega), (h.2.2.2.1 b q).2, nI_sub hb2, taken_eq ha2 (by omega), obs, ht, over_eq (by omega), obs, ho, nI_1]
      by_cases hab : a = b
      · rw [if_pos (by rw [hab])]
        exact step Q u h hw hi hS (if_pos hab) (fun _ _ _ => rfl)
      · rw [if_neg (fun z => hab ((nI_eq (by omega) (by omega)).mp z))]
        by_cases ho0 : o = 0
        · rw [if_pos (by rw [ho0]; decide)]
          refine step Q u h hw hi hS ?_ (fun _ _ _ => rfl)
          unfold p_st
          rw [if_neg hab, hS, ht, ho, if_pos ho0]
        · obtain ⟨k1, k2, k3, k4, k5, -, -, -, -⟩ := st_ok hw hm hZ hi ha q hab hS ht ho
          have hua := unt_pos a
          have hub := unt_pos b
          have ho20 : o ≤ 20 := by omega
          have hmul : o * unt b ≤ 20 * 441 := Nat.mul_le_mul ho20 hub.2
          have ex8 : nI S - nI t * nI (unt a) + nI o * nI (unt b) = nI (S - t * unt a + o * unt b) := by rw [nI_mul, nI_mul, nI_sub k4, nI_add]
          have emv : (6 : Int32) * nI (J a) + nI (J b) = nI (6 * J a + J b) := by rw [show (6 : Int32) * nI (J a) = nI (6 * J a) from nI_mul 6 _, nI_add]
          obtain ⟨w, w1, w2, w3⟩ := come_c (i := i) (mv := 6 * J a + J b) (d := Q.2.2.2 i + 1) h (wf_n hw) (fun hv => new_n hw hv k5) k5 hst
          have hpst : p_st J Z Q i a b = p_ct Q (S - t * unt a + o * unt b) (36 * i + (6 * J a + J b)) (Q.2.2.2 i + 1) := by
            unfold p_st
            rw [if_neg hab, hS, ht, ho, if_neg ho0]
          have hle := le_ct Q (S - t * unt a + o * unt b) (36 * i + (6 * J a + J b)) (Q.2.2.2 i + 1)
          have hwf := wf_st (J := J) hw hm hJ hZ hi ha q
          rw [hpst] at hwf
          rw [if_neg (nI_nle (by omega) (by omega)), am_ck_t (am_ix_nI (show a < 3 by omega) (by omega)), am_ck_t (am_ix_nI (show b < 3 by omega) (by omega)), am_ck_t (am_ix_nI (show a < 3 by omega) (by omega)), nI_clamp (show a < 2 ^ 31 by omega), uni_eq (show a < 3 by omega), uni_eq (show b < 3 by omega), (h.2.2.2.1 a ha).1, (h.2.2.2.1 b q).1, ex8, emv, w1, obs]
          exact step _ w w2 hwf (Nat.lt_of_lt_of_le hi hle.1) ((hle.2 i hi).1.trans hS) hpst w3
    · rw [if_pos (nI_le (show m ≤ b by omega) (by omega)), show m - b = 0 by omega]
      exact ⟨u, rfl, h, fun _ _ _ => rfl⟩
theorem c9_lp {pz m st i S : Nat} {J Z : Nat → Nat} (hm : m ≤ 3) (hJ : ∀ a, a < m → J a < 6) (hZ : ∀ a, a < m → Z a ≤ 20) (hst : st < 2 ^ 31) : ∀ (f a : Nat) (Q : pQ) (u : am_U), rC pz m st J Z Q u → p_wf m Z Q → i < Q.1 → Q.2.1 i = S → a ≤ m → m < a + f → ∃ w, f_X6_pourFrom_9 pz (nI i) (nI S) f (nI a) u = some w ∧ rC pz m st J Z (p_a J Z m i (m - a) a Q) w ∧ pzf pz u w := by
  intro f
  induction f with
  | zero => intro a Q u _ _ _ _ h1 h2; omega
  | succ f ih =>
    intro a Q u h hw hi hS h1 h2
    rw [f_X6_pourFrom_9, h.2.1]
    rcases Nat.lt_or_ge a m with q | q
    · obtain ⟨w, w1, w2, w3⟩ := c20_lp (S := S) hm hJ hZ q hst (fun (c11u : am_U) => f_X6_pourFrom_9 pz (nI i) (nI S) f (nI a + 1) c11u) 20000 0 Q u h hw hi hS (by omega) (by omega)
      rw [Nat.sub_zero] at w2
      obtain ⟨v1, v2⟩ := wf_b (i := i) hm hJ hZ q m 0 Q hw hi (by omega)
      obtain ⟨y, y1, y2, y3⟩ := ih (a + 1) _ w w2 v1 (Nat.lt_of_lt_of_le hi v2.1) ((v2.2 i hi).1.trans hS) (by omega) (by omega)
      refine ⟨y, ?_, ?_, pzf_t w3 y3⟩
      · rw [if_neg (nI_ge q (by omega))]
        refine Eq.trans w1 ?_
        rw [nI_1]; exact y1
      · rw [show m - a = (m - (a + 1)) + 1 by omega, p_a]; exact y2
    · rw [if_pos (nI_le (show m ≤ a by omega) (by omega)), show m - a = 0 by omega]
      exact ⟨u, rfl, h, fun _ _ _ => rfl⟩
theorem c31_lp {pz m st : Nat} {J Z : Nat → Nat} (hm : m ≤ 3) (hJ : ∀ a, a < m → J a < 6) (hZ : ∀ a, a < m → Z a ≤ 20) (hst : st < 2 ^ 31) : ∀ (f i : Nat) (Q : pQ) (u : am_U), rC pz m st J Z Q u → p_wf m Z Q → i ≤ Q.1 → 9261 < i + f → ∃ w, f_X6_explore_31 pz f (nI i) u = some w ∧ rC pz m st J Z (p_e J Z m f i Q) w ∧ pzf pz u w := by
  intro f
  induction f with
  | zero => intro i Q u _ hw h1 h2; have := wf_n hw; omega
  | succ f ih =>
    intro i Q u h hw hi h2
    have hn := wf_n hw
    rw [f_X6_explore_31, h.2.2.1, p_e]
    by_cases q : i < Q.1
    · rw [if_neg (nI_ge q (by omega)), if_neg (show ¬ (9261 : Int32) ≤ nI i from nI_ge (b := 9261) (by omega) (by omega)), if_pos q]
      obtain ⟨w, w1, w2, w3⟩ := c9_lp (S := Q.2.1 i) hm hJ hZ hst 20000 0 Q u h hw q rfl (by omega) (by omega)
      rw [Nat.sub_zero] at w2
      obtain ⟨v1, v2⟩ := wf_a (i := i) hm hJ hZ m 0 Q hw q (by omega)
      obtain ⟨y, y1, y2, y3⟩ := ih (i + 1) _ w w2 v1 (Nat.le_trans q v2.1) (by omega)
      refine ⟨y, ?_, y2, pzf_t w3 y3⟩
      have hP : f_X6_pourFrom pz (nI i) u = some w := by
        unfold f_X6_pourFrom
        rw [am_ck_t (am_ix_nI (show i < 9261 by omega) (by omega)), nI_clamp (by omega), (h.2.2.2.2.1 i q).1]
        exact w1
      rw [hP, obs, nI_1]; exact y1
    · rw [if_pos (nI_le (show Q.1 ≤ i by omega) (by omega)), if_neg q]
      exact ⟨u, rfl, h, fun _ _ _ => rfl⟩
