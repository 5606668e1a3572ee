/-! the reference's search -/
def rM (m : Nat) (J Z : Nat → Nat) (Q : pQ) (u : am_U) : Prop := u 60 32 = nI m ∧ u 60 39 = nI Q.1 ∧ (∀ a, a < m → u 80 a = nI (J a) ∧ u 70 (J a) = nI (Z a)) ∧ (∀ j, j < Q.1 → u 83 j = nI (Q.2.1 j) ∧ u 82 (Q.2.1 j) = nI (Q.2.2.2 j) ∧ (0 < j → u 84 (Q.2.1 j) = nI (Q.2.1 (Q.2.2.1 j / 36)) ∧ u 85 (Q.2.1 j) = nI (Q.2.2.1 j % 36))) ∧ ∀ c, c < 9261 → ¬ p_vis Q c → u 82 c = -9
def mf (u w : am_U) : Prop := ∀ a b, ¬ (81 ≤ a ∧ a ≤ 85) → ¬ (a = 60 ∧ b = 39) → w a b = u a b
theorem mf_t {u v w : am_U} (h : mf u v) (h2 : mf v w) : mf u w := fun a b z1 z2 => (h2 a b z1 z2).trans (h a b z1 z2)
theorem rM_81 {m : Nat} {J Z : Nat → Nat} {Q : pQ} {u w : am_U} (h : rM m J Z Q u) (e : ∀ a b, a ≠ 81 → w a b = u a b) : rM m J Z Q w := by
  obtain ⟨h1, h2, h3, h4, h5⟩ := h
  refine ⟨by rw [e _ _ (by omega)]; exact h1, by rw [e _ _ (by omega)]; exact h2, fun a ha => ?_, fun j hj => ?_, fun c hc hv => by rw [e _ _ (by omega)]; exact h5 c hc hv⟩
  · rw [e _ _ (by omega), e _ _ (by omega)]; exact h3 a ha
  · rw [e _ _ (by omega), e _ _ (by omega), e _ _ (by omega), e _ _ (by omega)]; exact h4 j hj
def hd21 (S i : Nat) : Nat := if i = 0 then S else if i = 1 then S / 21 else if i = 2 then S / 441 else S / 9261
theorem hd_s {S i : Nat} (hi : i < 3) : hd21 S i / 21 = hd21 S (i + 1) ∧ hd21 S i % 21 = dgt S i ∧ hd21 S i ≤ S := by
  rcases (show i = 0 ∨ i = 1 ∨ i = 2 by omega) with rfl | rfl | rfl
  · exact ⟨rfl, rfl, Nat.le_refl _⟩
  · refine ⟨?_, rfl, Nat.div_le_self _ _⟩
    show S / 21 / 21 = S / 441
    omega
  · refine ⟨?_, rfl, Nat.div_le_self _ _⟩
    show S / 441 / 21 = S / 9261
    omega
theorem look_lp {m S : Nat} (hm : m ≤ 3) (hS : S < 9261) : ∀ (f i : Nat) (u : am_U), u 60 32 = nI m → i ≤ m → m < i + f → ∃ w, f_X11_look_4 f (nI (hd21 S i)) (nI i) u = some w ∧ (∀ a, i ≤ a → a < m → w 81 a = nI (dgt S a)) ∧ (∀ a, a < i → w 81 a = u 81 a) ∧ ∀ a b, a ≠ 81 → w a b = u a b := by
  intro f
  induction f with
  | zero => intro i u _ h1 h2; omega
  | succ f ih =>
    intro i u e h1 h2
    rw [f_X11_look_4, e]
    rcases Nat.lt_or_ge i m with q | q
    · obtain ⟨d1, d2, d3⟩ := hd_s (S := S) (show i < 3 by omega)
      obtain ⟨w, w1, w2, w3, w4⟩ := ih (i + 1) (am_w u 81 i (nI (dgt S i))) (by rw [am_w_n (by omega)]; exact e) (by omega) (by omega)
      refine ⟨w, ?_, fun a z1 z2 => ?_, fun a z => ?_, fun a b z => by rw [w4 a b z, am_w_n (by omega)]⟩
      · rw [if_neg (nI_ge q (by omega)), am_ck_t (am_ix_nI (show i < 3 by omega) (by omega)), nI_clamp (by omega), show nI (hd21 S i) - nI (hd21 S i) / 21 * 21 = nI (hd21 S i % 21) from pk_rem (d := 21) (by omega) (by omega) (by omega), show nI (hd21 S i) / 21 = nI (hd21 S i / 21) from pk_div (d := 21) (by omega) (by omega) (by omega), d1, d2, nI_1]
        exact w1
      · by_cases z : a = i
        · rw [z, w3 i (by omega), am_w_s]
        · exact w2 a (by omega) z2
      · rw [w3 a (by omega), am_w_n (by omega)]
    · rw [if_pos (nI_le (show m ≤ i by omega) (by omega))]
      exact ⟨u, rfl, fun a z1 z2 => by omega, fun _ _ => rfl, fun _ _ _ => rfl⟩
theorem look_eq {m S : Nat} {u : am_U} (hm : m ≤ 3) (hS : S < 9261) (e : u 60 32 = nI m) : ∃ w, f_X11_look (nI S) u = some w ∧ (∀ a, a < m → w 81 a = nI (dgt S a)) ∧ ∀ a b, a ≠ 81 → w a b = u a b := by
  obtain ⟨w, w1, w2, -, w4⟩ := look_lp hm hS 20000 0 u e (by omega) (by omega)
  exact ⟨w, w1, fun a ha => w2 a (by omega) ha, w4⟩
theorem dgt_sum {S : Nat} (hS : S < 9261) : S = dgt S 0 + 21 * dgt S 1 + 441 * dgt S 2 := by
  show S = S % 21 + 21 * (S / 21 % 21) + 441 * (S / 441 % 21)
  omega
theorem code_eq {m S : Nat} {u : am_U} (hm : m ≤ 3) (hm0 : 0 < m) (hS : S < 9261) (e : u 60 32 = nI m) (h : ∀ a, a < m → u 81 a = nI (dgt S a)) (h0 : ∀ a, m ≤ a → a < 3 → dgt S a = 0) : f_X11_code u = some (nI S) := by
  have hs := dgt_sum hS
  have b0 := dgt_le S 0
  have b1 := dgt_le S 1
  have b2 := dgt_le S 2
  unfold f_X11_code
  rw [e]
  rcases (show m = 1 ∨ m = 2 ∨ m = 3 by omega) with rfl | rfl | rfl
  · rw [show nI 1 - 1 = nI 0 from rfl, f_X11_code_9, if_neg (show ¬ nI 0 < (0 : Int32) by decide), am_ck_t (by decide), nI_clamp (by omega), h 0 (by omega), f_X11_code_9, if_pos (by decide), show (21 : Int32) * 0 = nI 0 from rfl, nI_add]
    have := h0 1 (by omega) (by omega)
    have := h0 2 (by omega) (by omega)
    rw [show 0 + dgt S 0 = S by omega]
  · rw [show nI 2 - 1 = nI 1 from rfl, f_X11_code_9, if_neg (show ¬ nI 1 < (0 : Int32) by decide), am_ck_t (by decide), nI_clamp (by omega), h 1 (by omega), show nI 1 + -1 = nI 0 from rfl, f_X11_code_9, if_neg (show ¬ nI 0 < (0 : Int32) by decide), am_ck_t (by decide), nI_clamp (by omega), h 0 (by omega), f_X11_code_9, if_pos (by decide), show (21 : Int32) * 0 = nI 0 from rfl, nI_add, show (21 : Int32) * nI (0 + dgt S 1) = nI (21 * (0 + dgt S 1)) from nI_mul 21 _, nI_add]
    have := h0 2 (by omega) (by omega)
    rw [show 21 * (0 + dgt S 1) + dgt S 0 = S by omega]
  · rw [show nI 3 - 1 = nI 2 from rfl, f_X11_code_9, if_neg (show ¬ nI 2 < (0 : Int32) by decide), am_ck_t (by decide), nI_clamp (by omega), h 2 (by omega), show nI 2 + -1 = nI 1 from rfl, f_X11_code_9, if_neg (show ¬ nI 1 < (0 : Int32) by decide), am_ck_t (by decide), nI_clamp (by omega), h 1 (by omega), show nI 1 + -1 = nI 0 from rfl, f_X11_code_9, if_neg (show ¬ nI 0 < (0 : Int32) by decide), am_ck_t (by decide), nI_clamp (by omega), h 0 (by omega), f_X11_code_9, if_pos (by decide), show (21 : Int32) * 0 = nI 0 from rfl, nI_add, show (21 : Int32) * nI (0 + dgt S 2) = nI (21 * (0 + dgt S 2)) from nI_mul 21 _, nI_add, show (21 : Int32) * nI (21 * (0 + dgt S 2) + dgt S 1) = nI (21 * (21 * (0 + dgt S 2) + dgt S 1)) from nI_mul 21 _, nI_add]
    rw [show 21 * (21 * (0 + dgt S 2) + dgt S 1) + dgt S 0 = S by omega]
theorem come_m {m c i mv S : Nat} {J Z : Nat → Nat} {Q : pQ} {u : am_U} (hw : p_wf m Z Q) (h : rM m J Z Q u) (hi : i < Q.1) (hS : Q.2.1 i = S) (hc : c < 9261) (hv : ¬ p_vis Q c) (hmv : mv < 36) {w : am_U} (e82 : w 82 c = nI (Q.2.2.2 i + 1)) (e84 : w 84 c = nI S) (e85 : w 85 c = nI mv) (e83 : w 83 Q.1 = nI c) (e39 : w 60 39 = nI (Q.1 + 1)) (eo : ∀ a b, ¬ (a = 82 ∧ b = c) → ¬ (a = 84 ∧ b = c) → ¬ (a = 85 ∧ b = c) → ¬ (a = 83 ∧ b = Q.1) → ¬ (a = 60 ∧ b = 39) → a ≠ 81 → w a b = u a b) : rM m J Z (p_ct Q c (36 * i + mv) (Q.2.2.2 i + 1)) w := by
  obtain ⟨h1, h2, h3, h4, h5⟩ := h
  rw [ct_n hv]
  have hne : ∀ j, j < Q.1 → Q.2.1 j ≠ c := fun j hj z => hv ⟨j, hj, z⟩
  refine ⟨by rw [eo _ _ (by omega) (by omega) (by omega) (by omega) (by omega) (by omega)]; exact h1, e39, fun a ha => ?_, fun j hj => ?_, fun e he hve => ?_⟩
  · rw [eo _ _ (by omega) (by omega) (by omega) (by omega) (by omega) (by omega), eo _ _ (by omega) (by omega) (by omega) (by omega) (by omega) (by omega)]; exact h3 a ha
  · have hj : j < Q.1 + 1 := hj
    show w 83 j = nI (if j = Q.1 then c else Q.2.1 j) ∧ w 82 (if j = Q.1 then c else Q.2.1 j) = nI (if j = Q.1 then Q.2.2.2 i + 1 else Q.2.2.2 j) ∧ (0 < j → w 84 (if j = Q.1 then c else Q.2.1 j) = nI (if (if j = Q.1 then 36 * i + mv else Q.2.2.1 j) / 36 = Q.1 then c else Q.2.1 ((if j = Q.1 then 36 * i + mv else Q.2.2.1 j) / 36)) ∧ w 85 (if j = Q.1 then c else Q.2.1 j) = nI ((if j = Q.1 then 36 * i + mv else Q.2.2.1 j) % 36))
    by_cases z : j = Q.1
    · rw [if_pos z, if_pos z, if_pos z, show (36 * i + mv) / 36 = i by omega, show (36 * i + mv) % 36 = mv by omega, if_neg (show ¬ i = Q.1 by omega), hS]
      exact ⟨by rw [z]; exact e83, e82, fun _ => ⟨e84, e85⟩⟩
    · have hjj : j < Q.1 := by omega
      have hqj := hne j hjj
      rw [if_neg z, if_neg z, if_neg z, eo _ _ (by omega) (by omega) (by omega) (by omega) (by omega) (by omega), eo _ _ (by omega) (by omega) (by omega) (by omega) (by omega) (by omega), eo _ _ (by omega) (by omega) (by omega) (by omega) (by omega) (by omega), eo _ _ (by omega) (by omega) (by omega) (by omega) (by omega) (by omega)]
      obtain ⟨k1, k2, k3⟩ := h4 j hjj
      refine ⟨k1, k2, fun hj0 => ?_⟩
      have := ((hw.1 j hjj).2.2.2.2 hj0).1
      rw [if_neg (show ¬ Q.2.2.1 j / 36 = Q.1 by omega)]
      exact k3 hj0
  · have hec : e ≠ c := fun z => hve ⟨Q.1, Nat.lt_succ_self _, (if_pos rfl).trans z.symm⟩
    rw [eo _ _ (by omega) (by omega) (by omega) (by omega) (by omega) (by omega)]
    refine h5 e he (fun ⟨j, hj, hq⟩ => hve ⟨j, Nat.lt_succ_of_lt hj, (if_neg (by omega)).trans hq⟩)
theorem step_m {m i a b S : Nat} {J Z : Nat → Nat} {Q : pQ} {u : am_U} (hm : m ≤ 3) (hJ : ∀ a, a < m → J a < 6) (hZ : ∀ a, a < m → Z a ≤ 20) (ha : a < m) (hb : b < m) (hab : a ≠ b) (h : rM m J Z Q u) (hw : p_wf m Z Q) (hi : i < Q.1) (hS : Q.2.1 i = S) (h81 : ∀ c, c < m → u 81 c = nI (dgt S c)) : ∃ w, f_X11_step (nI S) (nI a) (nI b) u = some w ∧ rM m J Z (p_st J Z Q i a b) w ∧ mf u w := by
  obtain ⟨g1, g2, -⟩ := hw.1 i hi
  rw [hS] at g1 g2
  have hb2 := g2 b (by omega)
  rw [if_pos hb] at hb2
  have ha2 := dgt_le S a
  have hZb := hZ b hb
  have hJb := hJ b hb
  have hJa := hJ a ha
  obtain ⟨t, ht⟩ : ∃ t, m_tk (dgt S a) (Z b - dgt S b) = t := ⟨_, rfl⟩
  obtain ⟨o, ho⟩ : ∃ o, t - (t + 9) / 10 = o := ⟨_, rfl⟩
  have htb := (tk_bd (h := dgt S a) (r := Z b - dgt S b)).1
  rw [ht] at htb
  have hT : f_X11_pouredOf (nI (dgt S a)) (nI (Z b - dgt S b)) = some (nI t) := by rw [poured_eq ha2 (by omega), ht]
  have hN : f_X11_tenth (nI t) = some (nI ((t + 9) / 10)) := by unfold f_X11_tenth; rw [ten_nI (by omega)]
  have hd : nI t - nI ((t + 9) / 10) = nI o := by rw [nI_sub (by omega), ho]
  unfold f_X11_step
  rw [am_ck_t (am_ix_nI (show a < 3 by omega) (by omega)), am_ck_t (am_ix_nI (show b < 6 by omega) (by omega)), nI_clamp (show b < 2 ^ 31 by omega), nI_clamp (show a < 2 ^ 31 by omega), (h.2.2.1 b hb).1, am_ck_t (am_ix_nI hJb (by omega)), am_ck_t (am_ix_nI (show b < 3 by omega) (by omega)), nI_clamp (show J b < 2 ^ 31 by omega), (h.2.2.1 b hb).2, h81 a ha, h81 b hb, nI_sub hb2, hT, obs, hN, obs, hd]
  by_cases ho0 : o = 0
  · rw [if_pos (by rw [ho0]; decide)]
    refine ⟨u, rfl, ?_, fun _ _ _ _ => rfl⟩
    unfold p_st
    rw [if_neg hab, hS, ht, ho, if_pos ho0]; exact h
  · obtain ⟨k1, k2, k3, k4, k5, k6, k7, k8, k9⟩ := st_ok hw hm hZ hi ha hb hab hS ht ho
    have hpst : p_st J Z Q i a b = p_ct Q (S - t * unt a + o * unt b) (36 * i + (6 * J a + J b)) (Q.2.2.2 i + 1) := by
      unfold p_st
      rw [if_neg hab, hS, ht, ho, if_neg ho0]
    obtain ⟨S', hS'⟩ : ∃ S', S - t * unt a + o * unt b = S' := ⟨_, rfl⟩
    rw [hS'] at k5 k6 k7 k8 k9 hpst
    obtain ⟨v, hv8⟩ : ∃ v, am_w (am_w u 81 a (nI (dgt S a - t))) 81 b (nI (dgt S b + o)) = v := ⟨_, rfl⟩
    have gv : ∀ x y, x ≠ 81 → v x y = u x y := fun x y z => by rw [← hv8, am_w_n (by omega), am_w_n (by omega)]
    have v81 : ∀ c, c < m → v 81 c = nI (dgt S' c) := fun c hc => by
      rw [← hv8]
      by_cases z1 : c = b
      · rw [z1, am_w_s, k7]
      · rw [am_w_n (by omega)]
        by_cases z2 : c = a
        · rw [z2, am_w_s, k6]
        · rw [am_w_n (by omega), h81 c hc, k8 c (by omega) z2 z1]
    have hcode : f_X11_code v = some (nI S') := code_eq hm (by omega) k5 (by rw [gv _ _ (by omega)]; exact h.1) v81 (fun c z1 z2 => by have := k9 c z2; rw [if_neg (by omega)] at this; omega)
    have hrv : rM m J Z Q v := rM_81 h gv
    have eu7 : am_w u 81 a (nI (dgt S a) - nI t) = am_w u 81 a (nI (dgt S a - t)) := by rw [nI_sub htb]
    rw [if_neg (nI_nle (by omega) (by omega))]
    show ∃ w, (f_X11_code (am_w (am_w u 81 a (nI (dgt S a) - nI t)) 81 b (am_w u 81 a (nI (dgt S a) - nI t) 81 b + nI o))).bind (fun q9 => am_ck (am_ix q9 9261) (if ¬ (am_w (am_w u 81 a (nI (dgt S a) - nI t)) 81 b (am_w u 81 a (nI (dgt S a) - nI t) 81 b + nI o) 82 q9.toNatClampNeg) = -9 then some (am_w (am_w u 81 a (nI (dgt S a) - nI t)) 81 b (am_w u 81 a (nI (dgt S a) - nI t) 81 b + nI o)) else am_ck (am_ix (nI S) 9261) (_))) = some w ∧ _
    rw [eu7, show am_w u 81 a (nI (dgt S a - t)) 81 b = nI (dgt S b) from by rw [am_w_n (by omega)]; exact h81 b hb, nI_add, hv8, hcode, obs, am_ck_t (am_ix_nI k5 (by omega)), nI_clamp (show S' < 2 ^ 31 by omega)]
    by_cases hvis : p_vis Q S'
    · obtain ⟨j, hj, hq⟩ := hvis
      have h82 : v 82 S' = nI (Q.2.2.2 j) := by rw [← hq]; exact (hrv.2.2.2.1 j hj).2.1
      have hdp := (hw.1 j hj).2.2.2.1
      have := wf_n hw
      rw [h82, if_pos (nI_m9 (by omega)), hpst, ct_y ⟨j, hj, hq⟩]
      exact ⟨v, rfl, hrv, fun x y z1 z2 => gv x y (by omega)⟩
    · have hnn := new_n hw hvis k5
      have h82 : v 82 S' = -9 := hrv.2.2.2.2 S' k5 hvis
      have h82i : v 82 S = nI (Q.2.2.2 i) := by rw [← hS]; exact (hrv.2.2.2.1 i hi).2.1
      rw [h82, if_neg (fun z => z rfl), am_ck_t (am_ix_nI g1 (by omega)), hpst]
      obtain ⟨w, hww⟩ : ∃ w, am_w (am_w (am_w (am_w (am_w v 82 S' (nI (Q.2.2.2 i + 1))) 84 S' (nI S)) 85 S' (nI (6 * J a + J b))) 83 Q.1 (nI S')) 60 39 (nI (Q.1 + 1)) = w := ⟨_, rfl⟩
      have e80a : am_w (am_w v 82 S' (nI (Q.2.2.2 i + 1))) 84 S' (nI S) 80 a = nI (J a) := by rw [am_w_n (by omega), am_w_n (by omega), gv _ _ (by omega)]; exact (h.2.2.1 a ha).1
      have e80b : am_w (am_w v 82 S' (nI (Q.2.2.2 i + 1))) 84 S' (nI S) 80 b = nI (J b) := by rw [am_w_n (by omega), am_w_n (by omega), gv _ _ (by omega)]; exact (h.2.2.1 b hb).1
      have emv : (6 : Int32) * nI (J a) + nI (J b) = nI (6 * J a + J b) := by rw [show (6 : Int32) * nI (J a) = nI (6 * J a) from nI_mul 6 _, nI_add]
      have e39 : am_w (am_w (am_w v 82 S' (nI (Q.2.2.2 i + 1))) 84 S' (nI S)) 85 S' (nI (6 * J a + J b)) 60 39 = nI Q.1 := by rw [am_w_n (by omega), am_w_n (by omega), am_w_n (by omega), gv _ _ (by omega)]; exact h.2.1
      have e39b : am_w (am_w (am_w (am_w v 82 S' (nI (Q.2.2.2 i + 1))) 84 S' (nI S)) 85 S' (nI (6 * J a + J b))) 83 Q.1 (nI S') 60 39 = nI Q.1 := by rw [am_w_n (by omega)]; exact e39
      have eo : ∀ x y, ¬ (x = 82 ∧ y = S') → ¬ (x = 84 ∧ y = S') → ¬ (x = 85 ∧ y = S') → ¬ (x = 83 ∧ y = Q.1) → ¬ (x = 60 ∧ y = 39) → w x y = v x y := fun x y z1 z2 z3 z4 z5 => by rw [← hww, am_w_n z5, am_w_n z4, am_w_n z3, am_w_n z2, am_w_n z1]
      refine ⟨w, ?_, come_m hw hrv hi hS k5 hvis (by omega) ?_ ?_ ?_ ?_ ?_ (fun x y z1 z2 z3 z4 z5 _ => eo x y z1 z2 z3 z4 z5), fun x y z1 z2 => ?_⟩
      · rw [nI_clamp (show S < 2 ^ 31 by omega), h82i, nI_1, am_ck_t (am_ix_nI (show a < 6 by omega) (by omega)), e80a, e80b, emv]
        dsimp only
        rw [e39, am_ck_t (am_ix_nI hnn (by omega)), nI_clamp (by omega), e39b, nI_1, hww]
      · rw [← hww, am_w_n (by omega), am_w_n (by omega), am_w_n (by omega), am_w_n (by omega), am_w_s]
      · rw [← hww, am_w_n (by omega), am_w_n (by omega), am_w_n (by omega), am_w_s]
      · rw [← hww, am_w_n (by omega), am_w_n (by omega), am_w_s]
      · rw [← hww, am_w_n (by omega), am_w_s]
      · rw [← hww, am_w_s]
      · rw [eo x y (by omega) (by omega) (by omega) (by omega) (by omega), gv x y (by omega)]
theorem m107_lp {m i a S : Nat} {J Z : Nat → Nat} (hm : m ≤ 3) (hJ : ∀ a, a < m → J a < 6) (hZ : ∀ a, a < m → Z a ≤ 20) (ha : a < m) (K : am_U → Option am_U) : ∀ (f b : Nat) (Q : pQ) (u : am_U), rM m J Z Q u → p_wf m Z Q → i < Q.1 → Q.2.1 i = S → b ≤ m → m < b + f → ∃ w, f_X11_layStates_107 (nI i) (nI a) K f (nI b) u = K w ∧ rM m J Z (p_b J Z i a (m - b) b Q) w ∧ mf u w := by
  intro f
  induction f with
  | zero => intro b Q u _ _ _ _ h1 h2; omega
  | succ f ih =>
    intro b Q u h hw hi hS h1 h2
    have hn := wf_n hw
    rw [f_X11_layStates_107, h.1]
    rcases Nat.lt_or_ge b m with q | q
    · have hS9 : S < 9261 := by rw [← hS]; exact (hw.1 i hi).1
      obtain ⟨v, v1, v2, v3⟩ := look_eq (u := u) hm hS9 h.1
      have hrv : rM m J Z Q v := rM_81 h v3
      have hmv : mf u v := fun x y z1 z2 => v3 x y (by omega)
      have step : ∀ Q' u', rM m J Z Q' u' → p_wf m Z Q' → i < Q'.1 → Q'.2.1 i = S → p_st J Z Q i a b = Q' → mf u u' → ∃ w, f_X11_layStates_107 (nI i) (nI a) K f (nI (b + 1)) u' = K w ∧ rM m J Z (p_b J Z i a (m - b) b Q) w ∧ mf u w := fun Q' u' r1 r2 r3 r4 r5 r6 => by
        obtain ⟨w, w1, w2, w3⟩ := ih (b + 1) Q' u' r1 r2 r3 r4 (by omega) (by omega)
        refine ⟨w, w1, ?_, mf_t r6 w3⟩
        rw [show m - b = (m - (b + 1)) + 1 by omega, p_b, r5]; exact w2
      rw [if_neg (nI_ge q (by omega)), am_ck_t (am_ix_nI (show i < 9261 by omega) (by omega)), nI_clamp (by omega), (h.2.2.2.1 i hi).1, hS, v1, obs, nI_1]
      by_cases hab : a = b
      · rw [if_pos (by rw [hab])]
        exact step Q v hrv hw hi hS (if_pos hab) hmv
      · rw [if_neg (fun z => hab ((nI_eq (by omega) (by omega)).mp z)), (hrv.2.2.2.1 i hi).1, hS]
        obtain ⟨w, w1, w2, w3⟩ := step_m hm hJ hZ ha q hab hrv hw hi hS v2
        have hle := le_st J Z Q i a b
        rw [w1, obs]
        exact step _ w w2 (wf_st hw hm hJ hZ hi ha q) (Nat.lt_of_lt_of_le hi hle.1) ((hle.2 i hi).1.trans hS) rfl (mf_t hmv w3)
    · rw [if_pos (nI_le (show m ≤ b by omega) (by omega)), show m - b = 0 by omega]
      exact ⟨u, rfl, h, fun _ _ _ _ => rfl⟩
theorem m97_lp {m i : Nat} {J Z : Nat → Nat} (hm : m ≤ 3) (hJ : ∀ a, a < m → J a < 6) (hZ : ∀ a, a < m → Z a ≤ 20) (K : am_U → Option am_U) : ∀ (f a : Nat) (Q : pQ) (u : am_U), rM m J Z Q u → p_wf m Z Q → i < Q.1 → a ≤ m → m < a + f → ∃ w, f_X11_layStates_97 (nI i) K f (nI a) u = K w ∧ rM m J Z (p_a J Z m i (m - a) a Q) w ∧ mf u w := by
  intro f
  induction f with
  | zero => intro a Q u _ _ _ h1 h2; omega
  | succ f ih =>
    intro a Q u h hw hi h1 h2
    rw [f_X11_layStates_97, h.1]
    rcases Nat.lt_or_ge a m with q | q
    · obtain ⟨w, w1, w2, w3⟩ := m107_lp (S := Q.2.1 i) hm hJ hZ q (fun (c17u : am_U) => f_X11_layStates_97 (nI i) K f (nI a + 1) c17u) 20000 0 Q u h hw hi rfl (by omega) (by omega)
      rw [Nat.sub_zero] at w2
      obtain ⟨v1, v2⟩ := wf_b (i := i) hm hJ hZ q m 0 Q hw hi (by omega)
      obtain ⟨y, y1, y2, y3⟩ := ih (a + 1) _ w w2 v1 (Nat.lt_of_lt_of_le hi v2.1) (by omega) (by omega)
      refine ⟨y, ?_, ?_, mf_t w3 y3⟩
      · rw [if_neg (nI_ge q (by omega))]
        refine Eq.trans w1 ?_
        rw [nI_1]; exact y1
      · rw [show m - a = (m - (a + 1)) + 1 by omega, p_a]; exact y2
    · rw [if_pos (nI_le (show m ≤ a by omega) (by omega)), show m - a = 0 by omega]
      exact ⟨u, rfl, h, fun _ _ _ _ => rfl⟩
theorem m87_lp {m : Nat} {J Z : Nat → Nat} (hm : m ≤ 3) (hJ : ∀ a, a < m → J a < 6) (hZ : ∀ a, a < m → Z a ≤ 20) : ∀ (f i : Nat) (Q : pQ) (u : am_U), rM m J Z Q u → p_wf m Z Q → i ≤ Q.1 → 9261 < i + f → ∃ w, f_X11_layStates_87 f (nI i) u = some w ∧ rM m J Z (p_e J Z m f i Q) w ∧ mf u w := by
  intro f
  induction f with
  | zero => intro i Q u _ hw h1 h2; have := wf_n hw; omega
  | succ f ih =>
    intro i Q u h hw hi h2
    have hn := wf_n hw
    rw [f_X11_layStates_87, h.2.1, p_e]
    by_cases q : i < Q.1
    · rw [if_neg (nI_ge q (by omega)), if_pos q]
      obtain ⟨w, w1, w2, w3⟩ := m97_lp (i := i) hm hJ hZ (fun (c18u : am_U) => f_X11_layStates_87 f (nI i + 1) c18u) 20000 0 Q u h hw q (by omega) (by omega)
      rw [Nat.sub_zero] at w2
      obtain ⟨v1, v2⟩ := wf_a (i := i) hm hJ hZ m 0 Q hw q (by omega)
      obtain ⟨y, y1, y2, y3⟩ := ih (i + 1) _ w w2 v1 (Nat.le_trans q v2.1) (by omega)
      refine ⟨y, ?_, y2, mf_t w3 y3⟩
      refine Eq.trans w1 ?_
      rw [nI_1]; exact y1
    · rw [if_pos (nI_le (show Q.1 ≤ i by omega) (by omega)), if_neg q]
      exact ⟨u, rfl, h, fun _ _ _ _ => rfl⟩
