/-! pourings: states as numbers by 21, and a queue of them -/
def dgt (S a : Nat) : Nat := if a = 0 then S % 21 else if a = 1 then S / 21 % 21 else S / 441 % 21
def unt (a : Nat) : Nat := if a = 0 then 1 else if a = 1 then 21 else 441
theorem dgt_le (S a : Nat) : dgt S a ≤ 20 := by unfold dgt; split <;> (try split) <;> omega
theorem uni_eq {a : Nat} (ha : a < 3) : am_uni a = nI (unt a) := by
  rcases (show a = 0 ∨ a = 1 ∨ a = 2 by omega) with rfl | rfl | rfl <;> rfl
theorem unt_pos (a : Nat) : 0 < unt a ∧ unt a ≤ 441 := by unfold unt; split <;> (try split) <;> omega
theorem held_eq {S a : Nat} (hS : S < 9261) (ha : a < 3) (u : am_U) : f_X6_held (nI S) (nI a) u = some (nI (dgt S a)) := by
  have hu := unt_pos a
  unfold f_X6_held
  rw [am_ck_t (am_ix_nI ha (by omega)), nI_clamp (by omega), uni_eq ha, am_ck_t (nI_nz hu.1 (by omega)), pk_div (by omega) hu.1 (by omega)]
  have h1 : S / unt a ≤ S := Nat.div_le_self _ _
  rw [show nI (S / unt a) - nI (S / unt a) / 21 * 21 = nI (S / unt a % 21) from pk_rem (d := 21) (by omega) (by omega) (by omega)]
  rcases (show a = 0 ∨ a = 1 ∨ a = 2 by omega) with rfl | rfl | rfl
  · rw [show unt 0 = 1 from rfl, Nat.div_one]; rfl
  · rfl
  · rfl
theorem dgt_nx {S a b t o : Nat} (hS : S < 9261) (ha : a < 3) (hb : b < 3) (hab : a ≠ b) (ht : t ≤ dgt S a) (ho : dgt S b + o ≤ 20) : t * unt a ≤ S ∧ S - t * unt a + o * unt b < 9261 ∧ dgt (S - t * unt a + o * unt b) a = dgt S a - t ∧ dgt (S - t * unt a + o * unt b) b = dgt S b + o ∧ ∀ c, c < 3 → c ≠ a → c ≠ b → dgt (S - t * unt a + o * unt b) c = dgt S c := by
  obtain ⟨x, y, z, hx, hy, hz, rfl⟩ : ∃ x y z, x ≤ 20 ∧ y ≤ 20 ∧ z ≤ 20 ∧ S = x + 21 * y + 441 * z := ⟨S % 21, S / 21 % 21, S / 441, by omega, by omega, by omega, by omega⟩
  have d0 : dgt (x + 21 * y + 441 * z) 0 = x := by show (x + 21 * y + 441 * z) % 21 = x; omega
  have d1 : dgt (x + 21 * y + 441 * z) 1 = y := by show (x + 21 * y + 441 * z) / 21 % 21 = y; omega
  have d2 : dgt (x + 21 * y + 441 * z) 2 = z := by show (x + 21 * y + 441 * z) / 441 % 21 = z; omega
  have u0 : unt 0 = 1 := rfl
  have u1 : unt 1 = 21 := rfl
  have u2 : unt 2 = 441 := rfl
  have key : ∀ x' y' z', x' ≤ 20 → y' ≤ 20 → z' ≤ 20 → dgt (x' + 21 * y' + 441 * z') 0 = x' ∧ dgt (x' + 21 * y' + 441 * z') 1 = y' ∧ dgt (x' + 21 * y' + 441 * z') 2 = z' := fun x' y' z' h1 h2 h3 => ⟨by show (x' + 21 * y' + 441 * z') % 21 = x'; omega, by show (x' + 21 * y' + 441 * z') / 21 % 21 = y'; omega, by show (x' + 21 * y' + 441 * z') / 441 % 21 = z'; omega⟩
  rcases (show a = 0 ∨ a = 1 ∨ a = 2 by omega) with rfl | rfl | rfl <;> rcases (show b = 0 ∨ b = 1 ∨ b = 2 by omega) with rfl | rfl | rfl <;> (try exact absurd rfl hab) <;> simp only [u0, u1, u2, d0, d1, d2] at ht ho ⊢
  · rw [show x + 21 * y + 441 * z - t * 1 + o * 21 = (x - t) + 21 * (y + o) + 441 * z by omega]
    obtain ⟨k0, k1, k2⟩ := key (x - t) (y + o) z (by omega) (by omega) (by omega)
    exact ⟨by omega, by omega, k0, k1, fun c h1 h2 h3 => by rw [show c = 2 by omega, k2, d2]⟩
  · rw [show x + 21 * y + 441 * z - t * 1 + o * 441 = (x - t) + 21 * y + 441 * (z + o) by omega]
    obtain ⟨k0, k1, k2⟩ := key (x - t) y (z + o) (by omega) (by omega) (by omega)
    exact ⟨by omega, by omega, k0, k2, fun c h1 h2 h3 => by rw [show c = 1 by omega, k1, d1]⟩
  · rw [show x + 21 * y + 441 * z - t * 21 + o * 1 = (x + o) + 21 * (y - t) + 441 * z by omega]
    obtain ⟨k0, k1, k2⟩ := key (x + o) (y - t) z (by omega) (by omega) (by omega)
    exact ⟨by omega, by omega, k1, k0, fun c h1 h2 h3 => by rw [show c = 2 by omega, k2, d2]⟩
  · rw [show x + 21 * y + 441 * z - t * 21 + o * 441 = x + 21 * (y - t) + 441 * (z + o) by omega]
    obtain ⟨k0, k1, k2⟩ := key x (y - t) (z + o) (by omega) (by omega) (by omega)
    exact ⟨by omega, by omega, k1, k2, fun c h1 h2 h3 => by rw [show c = 0 by omega, k0, d0]⟩
  · rw [show x + 21 * y + 441 * z - t * 441 + o * 1 = (x + o) + 21 * y + 441 * (z - t) by omega]
    obtain ⟨k0, k1, k2⟩ := key (x + o) y (z - t) (by omega) (by omega) (by omega)
    exact ⟨by omega, by omega, k2, k0, fun c h1 h2 h3 => by rw [show c = 1 by omega, k1, d1]⟩
  · rw [show x + 21 * y + 441 * z - t * 441 + o * 21 = x + 21 * (y + o) + 441 * (z - t) by omega]
    obtain ⟨k0, k1, k2⟩ := key x (y + o) (z - t) (by omega) (by omega) (by omega)
    exact ⟨by omega, by omega, k2, k1, fun c h1 h2 h3 => by rw [show c = 0 by omega, k0, d0]⟩
/-- as many different numbers below N are at most N -/
theorem php : ∀ (N n : Nat) (q : Nat → Nat), (∀ j, j < n → q j < N) → (∀ i j, i < n → j < n → q i = q j → i = j) → n ≤ N := by
  intro N
  induction N with
  | zero =>
    intro n q h _
    rcases Nat.eq_zero_or_pos n with z | z
    · omega
    · exact absurd (h 0 z) (Nat.not_lt_zero _)
  | succ N ih =>
    intro n q h hi
    by_cases c : ∃ j, j < n ∧ q j = N
    · obtain ⟨j0, hj0, hq⟩ := c
      have := ih (n - 1) (fun j => if j = j0 then q (n - 1) else q j) (fun j hj => by
        show (if j = j0 then q (n - 1) else q j) < N
        split
        · next z =>
          have h1 := h (n - 1) (by omega)
          have h2 : q (n - 1) ≠ N := fun w => by
            have := hi (n - 1) j0 (by omega) hj0 (by rw [w, hq])
            omega
          omega
        · next z =>
          have h1 := h j (by omega)
          have h2 : q j ≠ N := fun w => z (hi j j0 (by omega) hj0 (by rw [w, hq]))
          omega) (fun i j h1 h2 hh => by
        have hh : (if i = j0 then q (n - 1) else q i) = (if j = j0 then q (n - 1) else q j) := hh
        split at hh
        · split at hh
          · omega
          · have := hi (n - 1) j (by omega) (by omega) hh; omega
        · split at hh
          · have := hi i (n - 1) (by omega) (by omega) hh; omega
          · exact hi i j (by omega) (by omega) hh)
      omega
    · have := ih n q (fun j hj => by
        have h1 := h j hj
        have h2 : q j ≠ N := fun w => c ⟨j, hj, w⟩
        omega) hi
      omega
abbrev pQ : Type := Nat × (Nat → Nat) × (Nat → Nat) × (Nat → Nat)
def p_vis (Q : pQ) (c : Nat) : Prop := ∃ j, j < Q.1 ∧ Q.2.1 j = c
def p_add (Q : pQ) (c x d : Nat) : pQ := (Q.1 + 1, fun j => if j = Q.1 then c else Q.2.1 j, fun j => if j = Q.1 then x else Q.2.2.1 j, fun j => if j = Q.1 then d else Q.2.2.2 j)
noncomputable def p_ct (Q : pQ) (c x d : Nat) : pQ := haveI := Classical.propDecidable (p_vis Q c); if p_vis Q c then Q else p_add Q c x d
theorem ct_y {Q : pQ} {c x d : Nat} (h : p_vis Q c) : p_ct Q c x d = Q := if_pos h
theorem ct_n {Q : pQ} {c x d : Nat} (h : ¬ p_vis Q c) : p_ct Q c x d = p_add Q c x d := if_neg h
def p_wf (m : Nat) (Z : Nat → Nat) (Q : pQ) : Prop := (∀ j, j < Q.1 → Q.2.1 j < 9261 ∧ (∀ a, a < 3 → dgt (Q.2.1 j) a ≤ if a < m then Z a else 0) ∧ Q.2.2.1 j < 400000 ∧ Q.2.2.2 j ≤ j ∧ (0 < j → Q.2.2.1 j / 36 < j ∧ Q.2.2.2 j = Q.2.2.2 (Q.2.2.1 j / 36) + 1)) ∧ (∀ i j, i < Q.1 → j < Q.1 → Q.2.1 i = Q.2.1 j → i = j) ∧ Q.2.2.2 0 = 0 ∧ 0 < Q.1
theorem wf_n {m : Nat} {Z : Nat → Nat} {Q : pQ} (h : p_wf m Z Q) : Q.1 ≤ 9261 := php 9261 Q.1 Q.2.1 (fun j hj => (h.1 j hj).1) h.2.1
theorem add_inj {m c x d : Nat} {Z : Nat → Nat} {Q : pQ} (h : p_wf m Z Q) (hv : ¬ p_vis Q c) : ∀ i j, i < Q.1 + 1 → j < Q.1 + 1 → (p_add Q c x d).2.1 i = (p_add Q c x d).2.1 j → i = j := fun i j h1 h2 hh => by
  have hh : (if i = Q.1 then c else Q.2.1 i) = (if j = Q.1 then c else Q.2.1 j) := hh
  split at hh
  · split at hh
    · omega
    · exact absurd ⟨j, by omega, hh.symm⟩ hv
  · split at hh
    · exact absurd ⟨i, by omega, hh⟩ hv
    · exact h.2.1 i j (by omega) (by omega) hh
theorem new_n {m c : Nat} {Z : Nat → Nat} {Q : pQ} (h : p_wf m Z Q) (hv : ¬ p_vis Q c) (hc : c < 9261) : Q.1 < 9261 := by
  have := php 9261 (Q.1 + 1) (p_add Q c 0 0).2.1 (fun j hj => by
    show (if j = Q.1 then c else Q.2.1 j) < 9261
    split
    · exact hc
    · exact (h.1 j (by omega)).1) (add_inj h hv)
  omega
theorem wf_ct {m c i mv : Nat} {Z : Nat → Nat} {Q : pQ} (h : p_wf m Z Q) (hc : c < 9261) (hd : ∀ a, a < 3 → dgt c a ≤ if a < m then Z a else 0) (hi : i < Q.1) (hmv : mv < 36) : p_wf m Z (p_ct Q c (36 * i + mv) (Q.2.2.2 i + 1)) := by
  by_cases hv : p_vis Q c
  · rw [ct_y hv]; exact h
  · rw [ct_n hv]
    have hn := wf_n h
    refine ⟨fun j hj => ?_, add_inj h hv, ?_, Nat.succ_pos _⟩
    · have hj : j < Q.1 + 1 := hj
      show (if j = Q.1 then c else Q.2.1 j) < 9261 ∧ (∀ a, a < 3 → dgt (if j = Q.1 then c else Q.2.1 j) a ≤ if a < m then Z a else 0) ∧ (if j = Q.1 then 36 * i + mv else Q.2.2.1 j) < 400000 ∧ (if j = Q.1 then Q.2.2.2 i + 1 else Q.2.2.2 j) ≤ j ∧ (0 < j → (if j = Q.1 then 36 * i + mv else Q.2.2.1 j) / 36 < j ∧ (if j = Q.1 then Q.2.2.2 i + 1 else Q.2.2.2 j) = (if (if j = Q.1 then 36 * i + mv else Q.2.2.1 j) / 36 = Q.1 then Q.2.2.2 i + 1 else Q.2.2.2 ((if j = Q.1 then 36 * i + mv else Q.2.2.1 j) / 36)) + 1)
      by_cases z : j = Q.1
      · rw [if_pos z, if_pos z, if_pos z]
        have hdi := (h.1 i hi).2.2.2.1
        have hq : (36 * i + mv) / 36 = i := by omega
        rw [hq, if_neg (show ¬ i = Q.1 by omega)]
        exact ⟨hc, hd, by omega, by omega, fun _ => ⟨by omega, rfl⟩⟩
      · rw [if_neg z, if_neg z, if_neg z]
        obtain ⟨g1, g2, g3, g4, g5⟩ := h.1 j (by omega)
        refine ⟨g1, g2, g3, g4, fun hj0 => ?_⟩
        obtain ⟨g6, g7⟩ := g5 hj0
        rw [if_neg (show ¬ Q.2.2.1 j / 36 = Q.1 by omega)]
        exact ⟨g6, g7⟩
    · show (if 0 = Q.1 then Q.2.2.2 i + 1 else Q.2.2.2 0) = 0
      rw [if_neg (by have := h.2.2.2; omega)]; exact h.2.2.1
/-- one pouring in the model -/
noncomputable def p_st (J Z : Nat → Nat) (Q : pQ) (i a b : Nat) : pQ := if a = b then Q else if m_tk (dgt (Q.2.1 i) a) (Z b - dgt (Q.2.1 i) b) - (m_tk (dgt (Q.2.1 i) a) (Z b - dgt (Q.2.1 i) b) + 9) / 10 = 0 then Q else p_ct Q (Q.2.1 i - m_tk (dgt (Q.2.1 i) a) (Z b - dgt (Q.2.1 i) b) * unt a + (m_tk (dgt (Q.2.1 i) a) (Z b - dgt (Q.2.1 i) b) - (m_tk (dgt (Q.2.1 i) a) (Z b - dgt (Q.2.1 i) b) + 9) / 10) * unt b) (36 * i + (6 * J a + J b)) (Q.2.2.2 i + 1)
noncomputable def p_b (J Z : Nat → Nat) (i a : Nat) : Nat → Nat → pQ → pQ
  | 0, _, Q => Q
  | k + 1, b, Q => p_b J Z i a k (b + 1) (p_st J Z Q i a b)
noncomputable def p_a (J Z : Nat → Nat) (m i : Nat) : Nat → Nat → pQ → pQ
  | 0, _, Q => Q
  | k + 1, a, Q => p_a J Z m i k (a + 1) (p_b J Z i a m 0 Q)
noncomputable def p_e (J Z : Nat → Nat) (m : Nat) : Nat → Nat → pQ → pQ
  | 0, _, Q => Q
  | f + 1, i, Q => if i < Q.1 then p_e J Z m f (i + 1) (p_a J Z m i m 0 Q) else Q
/-- the queue only grows -/
def p_le (Q R : pQ) : Prop := Q.1 ≤ R.1 ∧ ∀ j, j < Q.1 → R.2.1 j = Q.2.1 j ∧ R.2.2.1 j = Q.2.2.1 j ∧ R.2.2.2 j = Q.2.2.2 j
theorem le_r (Q : pQ) : p_le Q Q := ⟨Nat.le_refl _, fun _ _ => ⟨rfl, rfl, rfl⟩⟩
theorem le_t {Q R S : pQ} (h : p_le Q R) (h2 : p_le R S) : p_le Q S := ⟨Nat.le_trans h.1 h2.1, fun j hj => by
  obtain ⟨a1, a2, a3⟩ := h.2 j hj
  obtain ⟨b1, b2, b3⟩ := h2.2 j (Nat.lt_of_lt_of_le hj h.1)
  exact ⟨b1.trans a1, b2.trans a2, b3.trans a3⟩⟩
theorem le_ct (Q : pQ) (c x d : Nat) : p_le Q (p_ct Q c x d) := by
  by_cases hv : p_vis Q c
  · rw [ct_y hv]; exact le_r Q
  · rw [ct_n hv]
    exact ⟨Nat.le_succ _, fun j hj => ⟨if_neg (by omega), if_neg (by omega), if_neg (by omega)⟩⟩
theorem tk_bd {h r : Nat} : m_tk h r ≤ h ∧ m_tk h r - (m_tk h r + 9) / 10 ≤ r := by
  unfold m_tk; split <;> omega
theorem le_st (J Z : Nat → Nat) (Q : pQ) (i a b : Nat) : p_le Q (p_st J Z Q i a b) := by
  unfold p_st
  split
  · exact le_r Q
  · split
    · exact le_r Q
    · exact le_ct _ _ _ _
/-- where a pouring leads -/
theorem st_ok {m i a b : Nat} {Z : Nat → Nat} {Q : pQ} (h : p_wf m Z Q) (hm : m ≤ 3) (hZ : ∀ a, a < m → Z a ≤ 20) (hi : i < Q.1) (ha : a < m) (hb : b < m) (hab : a ≠ b) {S t o : Nat} (hS : Q.2.1 i = S) (ht : m_tk (dgt S a) (Z b - dgt S b) = t) (ho : t - (t + 9) / 10 = o) : S < 9261 ∧ t ≤ dgt S a ∧ dgt S b + o ≤ Z b ∧ t * unt a ≤ S ∧ S - t * unt a + o * unt b < 9261 ∧ dgt (S - t * unt a + o * unt b) a = dgt S a - t ∧ dgt (S - t * unt a + o * unt b) b = dgt S b + o ∧ (∀ c, c < 3 → c ≠ a → c ≠ b → dgt (S - t * unt a + o * unt b) c = dgt S c) ∧ ∀ c, c < 3 → dgt (S - t * unt a + o * unt b) c ≤ if c < m then Z c else 0 := by
  obtain ⟨g1, g2, -⟩ := h.1 i hi
  rw [hS] at g1 g2
  have hbd := tk_bd (h := dgt S a) (r := Z b - dgt S b)
  rw [ht, ho] at hbd
  have hb2 := g2 b (by omega)
  rw [if_pos hb] at hb2
  have ha2 := g2 a (by omega)
  rw [if_pos ha] at ha2
  have hZb := hZ b hb
  obtain ⟨k1, k2, k3, k4, k5⟩ := dgt_nx (t := t) (o := o) g1 (show a < 3 by omega) (show b < 3 by omega) hab hbd.1 (by omega)
  refine ⟨g1, hbd.1, by omega, k1, k2, k3, k4, k5, fun c hc => ?_⟩
  by_cases z1 : c = a
  · subst z1; rw [k3, if_pos ha]; omega
  · by_cases z2 : c = b
    · subst z2; rw [k4, if_pos hb]; omega
    · rw [k5 c hc z1 z2]; exact g2 c hc
theorem wf_st {m i a b : Nat} {J Z : Nat → Nat} {Q : pQ} (h : p_wf m Z Q) (hm : m ≤ 3) (hJ : ∀ a, a < m → J a < 6) (hZ : ∀ a, a < m → Z a ≤ 20) (hi : i < Q.1) (ha : a < m) (hb : b < m) : p_wf m Z (p_st J Z Q i a b) := by
  unfold p_st
  split
  · exact h
  · next hab =>
    split
    · exact h
    · obtain ⟨-, -, -, -, k5, -, -, -, k9⟩ := st_ok h hm hZ hi ha hb hab rfl rfl rfl
      have := hJ a ha
      have := hJ b hb
      exact wf_ct h k5 k9 hi (by omega)
theorem wf_b {m i a : Nat} {J Z : Nat → Nat} (hm : m ≤ 3) (hJ : ∀ a, a < m → J a < 6) (hZ : ∀ a, a < m → Z a ≤ 20) (ha : a < m) : ∀ (k b : Nat) (Q : pQ), p_wf m Z Q → i < Q.1 → b + k ≤ m → p_wf m Z (p_b J Z i a k b Q) ∧ p_le Q (p_b J Z i a k b Q) := by
  intro k
  induction k with
  | zero => intro b Q h _ _; exact ⟨h, le_r Q⟩
  | succ k ih =>
    intro b Q h hi hb
    rw [p_b]
    have hle := le_st J Z Q i a b
    obtain ⟨w1, w2⟩ := ih (b + 1) _ (wf_st h hm hJ hZ hi ha (by omega)) (Nat.lt_of_lt_of_le hi hle.1) (by omega)
    exact ⟨w1, le_t hle w2⟩
theorem wf_a {m i : Nat} {J Z : Nat → Nat} (hm : m ≤ 3) (hJ : ∀ a, a < m → J a < 6) (hZ : ∀ a, a < m → Z a ≤ 20) : ∀ (k a : Nat) (Q : pQ), p_wf m Z Q → i < Q.1 → a + k ≤ m → p_wf m Z (p_a J Z m i k a Q) ∧ p_le Q (p_a J Z m i k a Q) := by
  intro k
  induction k with
  | zero => intro a Q h _ _; exact ⟨h, le_r Q⟩
  | succ k ih =>
    intro a Q h hi ha
    rw [p_a]
    obtain ⟨v1, v2⟩ := wf_b (i := i) hm hJ hZ (show a < m by omega) m 0 Q h hi (by omega)
    obtain ⟨w1, w2⟩ := ih (a + 1) _ v1 (Nat.lt_of_lt_of_le hi v2.1) (by omega)
    exact ⟨w1, le_t v2 w2⟩
theorem wf_e {m : Nat} {J Z : Nat → Nat} (hm : m ≤ 3) (hJ : ∀ a, a < m → J a < 6) (hZ : ∀ a, a < m → Z a ≤ 20) : ∀ (f i : Nat) (Q : pQ), p_wf m Z Q → p_wf m Z (p_e J Z m f i Q) ∧ p_le Q (p_e J Z m f i Q) := by
  intro f
  induction f with
  | zero => intro i Q h; exact ⟨h, le_r Q⟩
  | succ f ih =>
    intro i Q h
    rw [p_e]
    split
    · next hi =>
      obtain ⟨v1, v2⟩ := wf_a (i := i) hm hJ hZ m 0 Q h hi (by omega)
      obtain ⟨w1, w2⟩ := ih (i + 1) _ v1
      exact ⟨w1, le_t v2 w2⟩
    · exact ⟨h, le_r Q⟩
