/-! what a deed of one side reads and writes is its own side's -/
def gl (u x : am_U) : am_U := fun a => if a < 60 then u a else x a
def lC (φ : am_U → am_U) : Prop := (∀ u a, a < 60 → φ u a = u a) ∧ (∀ u i r, i < 60 → am_rw (φ u) i r = φ (am_rw u i r)) ∧ ∀ u i j v, i < 60 → am_w (φ u) i j v = φ (am_w u i j v)
def lR (φ : am_U → am_U) : Prop := (∀ u a, 60 ≤ a → φ u a = u a) ∧ (∀ u i r, 60 ≤ i → am_rw (φ u) i r = φ (am_rw u i r)) ∧ ∀ u i j v, 60 ≤ i → am_w (φ u) i j v = φ (am_w u i j v)
theorem gl_C (x : am_U) : lC (fun u => gl u x) := by
  have h1 : ∀ u a, a < 60 → gl u x a = u a := fun u a h => if_pos h
  have h2 : ∀ u i r, i < 60 → am_rw (gl u x) i r = gl (am_rw u i r) x := fun u i r h => funext fun a => by
    unfold am_rw gl
    by_cases q : a = i
    · subst q; rw [if_pos rfl, if_pos h]; exact (if_pos rfl).symm
    · rw [if_neg q]
      by_cases q2 : a < 60
      · rw [if_pos q2, if_pos q2]; exact (if_neg q).symm
      · rw [if_neg q2, if_neg q2]
  exact ⟨h1, h2, fun u i j v h => by unfold am_w; dsimp only; rw [h1 u i h, h2 u i _ h]⟩
theorem gl_R (u : am_U) : lR (fun x => gl u x) := by
  have h1 : ∀ x a, 60 ≤ a → gl u x a = x a := fun x a h => if_neg (by omega)
  have h2 : ∀ x i r, 60 ≤ i → am_rw (gl u x) i r = gl u (am_rw x i r) := fun x i r h => funext fun a => by
    unfold am_rw gl
    by_cases q : a = i
    · subst q; rw [if_pos rfl, if_neg (by omega)]; exact (if_pos rfl).symm
    · rw [if_neg q]
      by_cases q2 : a < 60
      · rw [if_pos q2, if_pos q2]
      · rw [if_neg q2, if_neg q2]; exact (if_neg q).symm
  exact ⟨h1, h2, fun x i j v h => by unfold am_w; dsimp only; rw [h1 x i h, h2 x i _ h]⟩
theorem o_mb {α β γ : Type} (o : Option α) (h : α → β) (k : β → Option γ) : (o.map h).bind k = o.bind (fun a => k (h a)) := by cases o <;> rfl
theorem o_bm {α β γ : Type} (o : Option α) (k : α → Option β) (h : β → γ) : (o.bind k).map h = o.bind (fun a => (k a).map h) := by cases o <;> rfl
theorem o_im {α β : Type} (c : Prop) (d : Decidable c) (a b : Option α) (h : α → β) : (@ite _ c d a b).map h = @ite _ c d (a.map h) (b.map h) := by split <;> rfl
theorem o_cm {α β : Type} (c : Bool) (o : Option α) (h : α → β) : (am_ck c o).map h = am_ck c (o.map h) := by cases c <;> rfl
theorem o_sm {α β : Type} (a : α) (h : α → β) : (some a).map h = some (h a) := Eq.trans rfl (Eq.refl _)
theorem jar_lC {φ : am_U → am_U} (h : lC φ) {pl : Nat} (hp : pl = 30 ∨ pl = 35) (a : Int32) (u : am_U) : f_X10_isJar pl a (φ u) = f_X10_isJar pl a u := by
  unfold f_X10_isJar; rw [h.1 u pl (by omega)]
theorem bri_lC {φ : am_U → am_U} (h : lC φ) {pl : Nat} (hp : pl = 30 ∨ pl = 35) (a : Int32) (u : am_U) : f_X5_isBright pl a (φ u) = f_X5_isBright pl a u := by
  unfold f_X5_isBright; rw [h.1 u pl (by omega), h.1 u (pl + 1) (by omega)]
theorem save_lC {φ : am_U → am_U} (h : lC φ) (x : Int32) (u : am_U) : f_X4_save 15 1800 x (φ u) = (f_X4_save 15 1800 x u).map φ := by
  unfold f_X4_save
  rw [show f_X4_isSlot 15 1800 (x * 30) (φ u) = f_X4_isSlot 15 1800 (x * 30) u from rfl]
  simp (disch := omega) only [o_mb, o_bm, o_im, o_cm, o_sm, h.1, h.2.1, h.2.2]
theorem rem_lC {φ : am_U → am_U} (h : lC φ) (c : Int32) (u : am_U) : f_X1_remember c (φ u) = (f_X1_remember c u).map φ := by
  unfold f_X1_remember
  simp (disch := omega) only [jn_eq, o_mb, o_bm, o_im, o_cm, o_sm, h.1, h.2.1, h.2.2, save_lC h]
theorem fill_lC {φ : am_U → am_U} (h : lC φ) {pl : Nat} (hp : pl = 30 ∨ pl = 35) (a : Int32) (u : am_U) : f_X10_fill pl a (φ u) = (f_X10_fill pl a u).map (fun p => (p.1, φ p.2)) := by
  unfold f_X10_fill
  simp (disch := omega) only [jar_lC h hp, bri_lC h hp, rem_lC h, jn_eq, o_mb, o_bm, o_im, o_cm, o_sm, h.1, h.2.1, h.2.2]
theorem carry_lC {φ : am_U → am_U} (h : lC φ) {pl : Nat} (hp : pl = 30 ∨ pl = 35) (a b : Int32) (u : am_U) : f_X10_carry pl a b (φ u) = (f_X10_carry pl a b u).map (fun p => (p.1, φ p.2)) := by
  unfold f_X10_carry
  simp (disch := omega) only [jar_lC h hp, rem_lC h, jn_eq, o_mb, o_bm, o_im, o_cm, o_sm, h.1, h.2.1, h.2.2]
theorem spend_lC {φ : am_U → am_U} (h : lC φ) {pl : Nat} (hp : pl = 30 ∨ pl = 35) (a b : Int32) (u : am_U) : f_X10_spend pl a b (φ u) = (f_X10_spend pl a b u).map (fun p => (p.1, φ p.2)) := by
  unfold f_X10_spend
  simp (disch := omega) only [jar_lC h hp, rem_lC h, jn_eq, o_mb, o_bm, o_im, o_cm, o_sm, h.1, h.2.1, h.2.2]
theorem pour_lC {φ : am_U → am_U} (h : lC φ) {pl : Nat} (hp : pl = 30 ∨ pl = 35) (a b : Int32) (u : am_U) : f_X10_pour pl a b (φ u) = (f_X10_pour pl a b u).map (fun p => (p.1, φ p.2)) := by
  unfold f_X10_pour
  simp (disch := omega) only [jar_lC h hp, rem_lC h, tell_c, obs, jn_eq, o_mb, o_bm, o_im, o_cm, o_sm, h.1, h.2.1, h.2.2]
theorem leak_lC {φ : am_U → am_U} (h : lC φ) {pl : Nat} (hp : pl = 30 ∨ pl = 35) : ∀ (f : Nat) (v k : Int32) (u : am_U), f_X10_leakAll_4 pl f v k (φ u) = (f_X10_leakAll_4 pl f v k u).map (fun p => (p.1, φ p.2)) := by
  intro f
  induction f with
  | zero => intro v k u; rfl
  | succ f ih =>
    intro v k u
    simp (disch := omega) only [f_X10_leakAll_4, jn_eq, o_mb, o_bm, o_im, o_cm, o_sm, h.1, h.2.1, h.2.2, ih]
theorem dark_lC {φ : am_U → am_U} (h : lC φ) {pl : Nat} (hp : pl = 30 ∨ pl = 35) : ∀ (f : Nat) (v k : Int32) (u : am_U), f_X10_countDark_4 pl f v k (φ u) = (f_X10_countDark_4 pl f v k u).map (fun p => (p.1, φ p.2)) := by
  intro f
  induction f with
  | zero => intro v k u; rfl
  | succ f ih =>
    intro v k u
    simp (disch := omega) only [f_X10_countDark_4, jn_eq, o_mb, o_bm, o_im, o_cm, o_sm, h.1, h.2.1, h.2.2, ih]
theorem jf_lC {φ : am_U → am_U} (h : lC φ) {c : Nat} (hc : c < 60) (N : Nat) (v e : Int32) : ∀ (f : Nat) (k : Int32) (u : am_U), f_J7_fill_53178_5 c N v e f k (φ u) = (f_J7_fill_53178_5 c N v e f k u).map φ := by
  intro f
  induction f with
  | zero => intro k u; rfl
  | succ f ih =>
    intro k u
    simp (disch := omega) only [f_J7_fill_53178_5, jn_eq, o_mb, o_bm, o_im, o_cm, o_sm, h.1, h.2.1, h.2.2, ih]
theorem night_lC {φ : am_U → am_U} (h : lC φ) {pl : Nat} (hp : pl = 30 ∨ pl = 35) (u : am_U) : f_X10_night pl (φ u) = (f_X10_night pl u).map (fun p => (p.1, φ p.2)) := by
  have a1 : ∀ u, f_X10_leakAll pl (φ u) = (f_X10_leakAll pl u).map (fun p => (p.1, φ p.2)) := fun u => leak_lC h hp 20000 0 0 u
  have a2 : ∀ u, f_X10_countDark pl (φ u) = (f_X10_countDark pl u).map (fun p => (p.1, φ p.2)) := fun u => dark_lC h hp 20000 0 1 u
  have a3 : ∀ u, f_J7_fill_53178 12 5 0 (φ u) = (f_J7_fill_53178 12 5 0 u).map φ := fun u => jf_lC h (by omega) 5 0 (nI 5) 20000 0 u
  have a4 : ∀ u, f_X9_startDay (φ u) = (f_X9_startDay u).map φ := fun u => by
    unfold f_X9_startDay
    simp (disch := omega) only [a3, o_mb, o_bm, o_im, o_cm, o_sm, h.1, h.2.1, h.2.2]
  unfold f_X10_night
  simp (disch := omega) only [a1, a2, a4, rem_lC h, tell_c, obs, o_mb, o_bm, o_im, o_cm, o_sm, h.1, h.2.1, h.2.2]
/-! the reference's -/
theorem jar_lR {φ : am_U → am_U} (h : lR φ) (a : Int32) (u : am_U) : f_X11_isJar a (φ u) = f_X11_isJar a u := by
  unfold f_X11_isJar; rw [h.1 u 60 (by omega)]
theorem bri_lR {φ : am_U → am_U} (h : lR φ) (a : Int32) (u : am_U) : f_X11_shines a (φ u) = f_X11_shines a u := by
  unfold f_X11_shines; rw [h.1 u 60 (by omega), h.1 u 67 (by omega)]
theorem r54_lR {φ : am_U → am_U} (h : lR φ) (v1 v2 : Int32) {K' K : am_U → Option am_U} (hK : ∀ u, K' (φ u) = (K u).map φ) : ∀ (f : Nat) (k : Int32) (u : am_U), f_X11_remembers_54 v1 v2 K' f k (φ u) = (f_X11_remembers_54 v1 v2 K f k u).map φ := by
  intro f
  induction f with
  | zero => intro k u; rfl
  | succ f ih =>
    intro k u
    simp (disch := omega) only [f_X11_remembers_54, hK, o_mb, o_bm, o_im, o_cm, o_sm, h.1, h.2.1, h.2.2, ih]
theorem r14_lR {φ : am_U → am_U} (h : lR φ) (v1 v2 : Int32) {K' K : am_U → Option am_U} (hK : ∀ u, K' (φ u) = (K u).map φ) : ∀ (f : Nat) (k : Int32) (u : am_U), f_X11_remembers_14 v1 v2 K' f k (φ u) = (f_X11_remembers_14 v1 v2 K f k u).map φ := by
  intro f
  induction f with
  | zero => intro k u; rfl
  | succ f ih =>
    intro k u
    simp (disch := omega) only [f_X11_remembers_14, hK, o_mb, o_bm, o_im, o_cm, o_sm, h.1, h.2.1, h.2.2, ih]
theorem rk_lR {φ : am_U → am_U} (h : lR φ) (c : Int32) (u : am_U) : m_rk c (φ u) = (m_rk c u).map φ := by
  unfold m_rk
  refine r54_lR h c 31 (fun u => ?_) 20000 0 u
  simp (disch := omega) only [o_mb, o_bm, o_im, o_cm, o_sm, h.1, h.2.1, h.2.2]
theorem rem_lR {φ : am_U → am_U} (h : lR φ) (c : Int32) (u : am_U) : f_X11_remembers c (φ u) = (f_X11_remembers c u).map φ := by
  rw [remm_unf, remm_unf, o_im, h.1 u 60 (by omega), rk_lR h, r14_lR h c 31 (K' := fun c11u => m_rk c (am_w c11u 60 26 ((c11u 60 26) - 1))) (K := fun c11u => m_rk c (am_w c11u 60 26 ((c11u 60 26) - 1))) (fun u => ?_) 20000 0 u]
  simp (disch := omega) only [h.1, h.2.2, rk_lR h]
theorem fill_lR {φ : am_U → am_U} (h : lR φ) (a : Int32) (u : am_U) : f_X11_fill a (φ u) = (f_X11_fill a u).map (fun p => (p.1, φ p.2)) := by
  unfold f_X11_fill
  simp (disch := omega) only [jar_lR h, bri_lR h, rem_lR h, jn_eq, o_mb, o_bm, o_im, o_cm, o_sm, h.1, h.2.1, h.2.2]
theorem carry_lR {φ : am_U → am_U} (h : lR φ) (a b : Int32) (u : am_U) : f_X11_carry a b (φ u) = (f_X11_carry a b u).map (fun p => (p.1, φ p.2)) := by
  unfold f_X11_carry
  simp (disch := omega) only [jar_lR h, rem_lR h, jn_eq, o_mb, o_bm, o_im, o_cm, o_sm, h.1, h.2.1, h.2.2]
theorem spend_lR {φ : am_U → am_U} (h : lR φ) (a b : Int32) (u : am_U) : f_X11_spend a b (φ u) = (f_X11_spend a b u).map (fun p => (p.1, φ p.2)) := by
  unfold f_X11_spend
  simp (disch := omega) only [jar_lR h, rem_lR h, jn_eq, o_mb, o_bm, o_im, o_cm, o_sm, h.1, h.2.1, h.2.2]
theorem pour_lR {φ : am_U → am_U} (h : lR φ) (a b : Int32) (u : am_U) : f_X11_pour a b (φ u) = (f_X11_pour a b u).map (fun p => (p.1, φ p.2)) := by
  unfold f_X11_pour
  simp (disch := omega) only [jar_lR h, rem_lR h, tell_m, obs, jn_eq, o_mb, o_bm, o_im, o_cm, o_sm, h.1, h.2.1, h.2.2]
theorem lkn_lR {φ : am_U → am_U} (h : lR φ) (a : Int32) (u : am_U) : f_X11_leakNow a (φ u) = f_X11_leakNow a u := by
  unfold f_X11_leakNow; rw [h.1 u 69 (by omega), h.1 u 75 (by omega)]
theorem n25_lR {φ : am_U → am_U} (h : lR φ) {K' K : Int32 → am_U → Option (Int32 × am_U)} (hK : ∀ v u, K' v (φ u) = (K v u).map (fun p => (p.1, φ p.2))) : ∀ (f : Nat) (v k : Int32) (u : am_U), f_X11_night_25 K' f v k (φ u) = (f_X11_night_25 K f v k u).map (fun p => (p.1, φ p.2)) := by
  intro f
  induction f with
  | zero => intro v k u; rfl
  | succ f ih =>
    intro v k u
    simp (disch := omega) only [f_X11_night_25, hK, lkn_lR h, o_mb, o_bm, o_im, o_cm, o_sm, h.1, h.2.1, h.2.2, ih]
theorem n65_lR {φ : am_U → am_U} (h : lR φ) (v1 : Int32) {K' K : Int32 → am_U → Option (Int32 × am_U)} (hK : ∀ v u, K' v (φ u) = (K v u).map (fun p => (p.1, φ p.2))) : ∀ (f : Nat) (v k : Int32) (u : am_U), f_X11_night_65 v1 K' f v k (φ u) = (f_X11_night_65 v1 K f v k u).map (fun p => (p.1, φ p.2)) := by
  intro f
  induction f with
  | zero => intro v k u; rfl
  | succ f ih =>
    intro v k u
    simp (disch := omega) only [f_X11_night_65, hK, jn_eq, o_mb, o_bm, o_im, o_cm, o_sm, h.1, h.2.1, h.2.2, ih]
def m_nk (c5v1 : Int32) (c5u : am_U) : Option (Int32 × am_U) := f_X11_night_65 c5v1 (fun (c16v2 : Int32) (c16u : am_U) => some (c5v1, am_w (am_w (am_w c16u 75 28 ((c16u 75 28) + 1)) 75 29 0) 60 2 c16v2)) 20000 0 0 c5u
theorem night_unf (u : am_U) : f_X11_night u = if ¬ (u 75 28) = 999 then (f_X11_remembers 5 u).bind (fun q1 => f_X11_night_25 m_nk 20000 0 0 q1) else some (-2, u) := rfl
theorem night_lR {φ : am_U → am_U} (h : lR φ) (u : am_U) : f_X11_night (φ u) = (f_X11_night u).map (fun p => (p.1, φ p.2)) := by
  have hk : ∀ v u, m_nk v (φ u) = (m_nk v u).map (fun p => (p.1, φ p.2)) := fun v u => by
    unfold m_nk
    refine n65_lR h v (fun w u => ?_) 20000 0 0 u
    simp (disch := omega) only [o_sm, h.1, h.2.2]
  rw [night_unf, night_unf, o_im, h.1 u 75 (by omega), rem_lR h, o_mb, o_bm]
  simp only [n25_lR h hk, o_sm]
