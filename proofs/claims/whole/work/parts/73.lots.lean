/-! lots -/
/-- one deed of both, each on its own side -/
theorem lot_one {F G : Nat → am_U → Option (Int32 × am_U)} {pl : Nat} (hp : pl = 30 ∨ pl = 35) (h2 : am_two F G) (hF : ∀ φ, lC φ → ∀ u, F pl (φ u) = (F pl u).map (fun p => (p.1, φ p.2))) (hG : ∀ φ, lR φ → ∀ u, G pl (φ u) = (G pl u).map (fun p => (p.1, φ p.2))) {c m : am_U} (hI : am_Inv pl (gl c m)) : ∃ v c1 m1, F pl c = some (v, c1) ∧ G pl m = some (v, m1) ∧ am_Inv pl (gl c1 m1) ∧ (∀ a, 60 ≤ a → c1 a = c a) ∧ (∀ a, a < 60 → m1 a = m a) ∧ ∀ a, 91 ≤ a → m1 a = m a := by
  obtain ⟨v, g1, g2, e1, e2, e3, e4⟩ := h2 pl hp (gl c m) hI
  have hC := gl_C m
  have f1 : (F pl c).map (fun p => (p.1, gl p.2 m)) = some (v, g1) := (hF _ hC c).symm.trans e1
  obtain ⟨⟨v', c1⟩, w1, w2⟩ := Option.map_eq_some_iff.mp f1
  cases w2
  have f2 : (G pl m).map (fun p => (p.1, gl c1 p.2)) = some (v', g2) := (hG _ (gl_R c1) m).symm.trans e2
  obtain ⟨⟨v'', m1⟩, w3, w4⟩ := Option.map_eq_some_iff.mp f2
  cases w4
  have k1 : ∀ a, 60 ≤ a → c1 a = c a := fun a ha => by
    have hself : gl c c = c := funext fun a => by unfold gl; split <;> rfl
    have := hF _ (gl_C c) c
    rw [hself, w1] at this
    have h3 : c1 = gl c1 c := by
      have h4 := Option.some.inj this
      exact congrArg Prod.snd h4
    rw [h3]; exact if_neg (by omega)
  have k2 : ∀ a, a < 60 → m1 a = m a := fun a ha => by
    have hself : gl m m = m := funext fun a => by unfold gl; split <;> rfl
    have := hG _ (gl_R m) m
    rw [hself, w3] at this
    have h3 : m1 = gl m m1 := by
      have h4 := Option.some.inj this
      exact congrArg Prod.snd h4
    rw [h3]; exact if_pos ha
  refine ⟨v'', c1, m1, w1, w3, e3, k1, k2, fun a ha => ?_⟩
  have h5 := e4 a ha
  have h6 : gl c1 m1 a = m1 a := if_neg (by omega)
  have h7 : gl c m a = m a := if_neg (by omega)
  rw [h6, h7] at h5
  exact h5
def m_dl (k e : Nat) (n : Nat) (u : am_U) : Option (Int32 × am_U) := if e = 0 then f_X11_fill (nI k) u else if e = 1 then f_X11_carry (nI k) 1 u else if e = 2 then f_X11_spend (nI k) 1 u else if e = 3 then f_X11_pour (nI k) (nI ((k + 1) % n)) u else f_X11_night u
theorem o_et {α : Type} (o : Option (α × am_U)) : o.bind (fun q => some (q.1, q.2)) = o := by cases o <;> rfl
theorem dlot_eq {pl n k e : Nat} {u : am_U} (h : u pl 2 = nI n) (hn : n ≤ 6) (hk : k < n) (he : e < 5) : f_X10_doLot pl (nI k) (nI e) u = if e = 0 then f_X10_fill pl (nI k) u else if e = 1 then f_X10_carry pl (nI k) 1 u else if e = 2 then f_X10_spend pl (nI k) 1 u else if e = 3 then f_X10_pour pl (nI k) (nI ((k + 1) % n)) u else f_X10_night pl u := by
  have ne : ∀ j, j < 5 → (nI e = nI j) = (e = j) := fun j hj => propext (nI_eq (by omega) (by omega))
  unfold f_X10_doLot
  rw [show (0 : Int32) = nI 0 from rfl, show (2 : Int32) = nI 2 from rfl, show (3 : Int32) = nI 3 from rfl, o_et, o_et, o_et, o_et]
  by_cases c0 : e = 0
  · rw [if_pos c0, if_pos (by rw [c0])]
  · rw [if_neg c0, if_neg (by rw [ne 0 (by omega)]; exact c0)]
    by_cases c1 : e = 1
    · rw [if_pos c1, if_pos (show nI e = 1 by rw [c1]; rfl)]
    · rw [if_neg c1, if_neg (show ¬ nI e = 1 from fun q => c1 ((ne 1 (by omega)) ▸ (show nI e = nI 1 from q)))]
      by_cases c2 : e = 2
      · rw [if_pos c2, if_pos (by rw [c2])]
      · rw [if_neg c2, if_neg (by rw [ne 2 (by omega)]; exact c2)]
        by_cases c3 : e = 3
        · rw [if_pos c3, if_pos (by rw [c3]), jn_eq, h, nI_1]
          dsimp only
          rw [o_et, o_et]
          by_cases c4 : n ≤ k + 1
          · rw [if_pos (nI_le c4 (by omega)), show k + 1 = n by omega, Nat.mod_self]
          · rw [if_neg (nI_ge (by omega) (by omega)), Nat.mod_eq_of_lt (by omega)]
        · rw [if_neg c3, if_neg (by rw [ne 3 (by omega)]; exact c3)]
theorem lot_step {pl n k e : Nat} (hp : pl = 30 ∨ pl = 35) {c m : am_U} (hI : am_Inv pl (gl c m)) (h : c pl 2 = nI n) (hn : n ≤ 6) (hk : k < n) (he : e < 5) : ∃ v c1 m1, f_X10_doLot pl (nI k) (nI e) c = some (v, c1) ∧ m_dl k e n m = some (v, m1) ∧ am_Inv pl (gl c1 m1) ∧ (∀ a, 60 ≤ a → c1 a = c a) ∧ (∀ a, a < 60 → m1 a = m a) ∧ ∀ a, 91 ≤ a → m1 a = m a := by
  rw [dlot_eq h hn hk he]
  unfold m_dl
  by_cases c0 : e = 0
  · rw [if_pos c0, if_pos c0]
    exact lot_one (F := fun pl u => f_X10_fill pl (nI k) u) (G := fun _ u => f_X11_fill (nI k) u) hp (two_fill (nI k)) (fun φ hφ u => fill_lC hφ hp _ u) (fun φ hφ u => fill_lR hφ _ u) hI
  · rw [if_neg c0, if_neg c0]
    by_cases c1 : e = 1
    · rw [if_pos c1, if_pos c1]
      exact lot_one (F := fun pl u => f_X10_carry pl (nI k) 1 u) (G := fun _ u => f_X11_carry (nI k) 1 u) hp (two_carry (nI k) 1) (fun φ hφ u => carry_lC hφ hp _ _ u) (fun φ hφ u => carry_lR hφ _ _ u) hI
    · rw [if_neg c1, if_neg c1]
      by_cases c2 : e = 2
      · rw [if_pos c2, if_pos c2]
        exact lot_one (F := fun pl u => f_X10_spend pl (nI k) 1 u) (G := fun _ u => f_X11_spend (nI k) 1 u) hp (two_spend (nI k) 1) (fun φ hφ u => spend_lC hφ hp _ _ u) (fun φ hφ u => spend_lR hφ _ _ u) hI
      · rw [if_neg c2, if_neg c2]
        by_cases c3 : e = 3
        · rw [if_pos c3, if_pos c3]
          exact lot_one (F := fun pl u => f_X10_pour pl (nI k) (nI ((k + 1) % n)) u) (G := fun _ u => f_X11_pour (nI k) (nI ((k + 1) % n)) u) hp (two_pour (nI k) (nI ((k + 1) % n))) (fun φ hφ u => pour_lC hφ hp _ _ u) (fun φ hφ u => pour_lR hφ _ _ u) hI
        · rw [if_neg c3, if_neg c3]
          exact lot_one (F := fun pl u => f_X10_night pl u) (G := fun _ u => f_X11_night u) hp two_night (fun φ hφ u => night_lC hφ hp u) (fun φ hφ u => night_lR hφ u) hI
def m_lt (y : Nat) : Nat := y * 48271 % 2147483647
theorem clot_st {pl n N d y i : Nat} {u : am_U} (h : u pl 2 = nI n) (hn : n ≤ 6) (hn0 : 0 < n) (hy : y < 2 ^ 31) (hi : i < N) (hN : N ≤ 40) (f : Nat) : f_X10_lots_46 pl (nI N) (f + 1) (nI d) (lN y) (nI i) u = (f_X10_doLot pl (nI (m_lt y % n)) (nI (m_lt y / 64 % 5)) u).bind (fun q3 => if q3.1 < 0 then f_X10_lots_46 pl (nI N) f (nI d) (lN (m_lt y)) (nI (i + 1)) q3.2 else f_X10_lots_46 pl (nI N) f (nI (d + 1)) (lN (m_lt y)) (nI (i + 1)) q3.2) := by
  have hm : lN y * 48271 - lN y * 48271 / 2147483647 * 2147483647 = lN (m_lt y) := by
    rw [show (48271 : Int64) = lN 48271 from rfl, lN_mul, show (2147483647 : Int64) = lN 2147483647 from rfl, pk_lRem (by omega) (by omega) (by omega)]; rfl
  have hlt : m_lt y < 2147483647 := Nat.mod_lt _ (by omega)
  have hk : (lN (m_lt y) - lN (m_lt y) / lN n * lN n).toInt32 = nI (m_lt y % n) := by
    rw [pk_lRem (by omega) hn0 (by omega), lN_i]
  have he : (lN (m_lt y) / 64 - lN (m_lt y) / 64 / 5 * 5).toInt32 = nI (m_lt y / 64 % 5) := by
    rw [show lN (m_lt y) / 64 = lN (m_lt y / 64) from pk_lDiv (b := 64) (by omega) (by omega) (by omega), show lN (m_lt y / 64) - lN (m_lt y / 64) / 5 * 5 = lN (m_lt y / 64 % 5) from pk_lRem (b := 5) (by omega) (by omega) (by omega), lN_i]
  rw [f_X10_lots_46, if_neg (nI_ge hi (by omega)), h, am_ck_t (nIl_ne hn0 (by omega)), hm, nI_l (show n < 2 ^ 31 by omega), hk, he, nI_1, nI_1]
theorem mlot_st {n N d y i : Nat} {u : am_U} (h : u 60 12 = nI n) (hn : n ≤ 6) (hn0 : 0 < n) (hy : y < 2 ^ 31) (hi : i < N) (hN : N ≤ 40) (f : Nat) : f_X11_lots_43 (nI N) (f + 1) (lN y) (nI d) (nI i) u = (m_dl (m_lt y % n) (m_lt y / 64 % 5) n u).bind (fun q => if q.1 < 0 then f_X11_lots_43 (nI N) f (lN (m_lt y)) (nI d) (nI (i + 1)) q.2 else f_X11_lots_43 (nI N) f (lN (m_lt y)) (nI (d + 1)) (nI (i + 1)) q.2) := by
  have hm : 48271 * lN y - 48271 * lN y / 2147483647 * 2147483647 = lN (m_lt y) := by
    rw [show (48271 : Int64) = lN 48271 from rfl, lN_mul, show (2147483647 : Int64) = lN 2147483647 from rfl, pk_lRem (by omega) (by omega) (by omega), Nat.mul_comm]; rfl
  have hlt : m_lt y < 2147483647 := Nat.mod_lt _ (by omega)
  have hk : (lN (m_lt y) - lN (m_lt y) / lN n * lN n).toInt32 = nI (m_lt y % n) := by
    rw [pk_lRem (by omega) hn0 (by omega), lN_i]
  have he : (lN (m_lt y) / 64 - lN (m_lt y) / 64 / 5 * 5).toInt32 = nI (m_lt y / 64 % 5) := by
    rw [show lN (m_lt y) / 64 = lN (m_lt y / 64) from pk_lDiv (b := 64) (by omega) (by omega) (by omega), show lN (m_lt y / 64) - lN (m_lt y / 64) / 5 * 5 = lN (m_lt y / 64 % 5) from pk_lRem (b := 5) (by omega) (by omega) (by omega), lN_i]
  have hkn : m_lt y % n < n := Nat.mod_lt _ hn0
  have hp1 : nI (m_lt y % n) + 1 - (nI (m_lt y % n) + 1) / nI n * nI n = nI ((m_lt y % n + 1) % n) := by
    rw [nI_1, pk_rem (by omega) hn0 (by omega)]
  obtain ⟨e, hee⟩ : ∃ e, m_lt y / 64 % 5 = e := ⟨_, rfl⟩
  have he5 : e < 5 := by omega
  have ne : ∀ j, j < 5 → (nI e = nI j) = (e = j) := fun j hj => propext (nI_eq (by omega) (by omega))
  rw [f_X11_lots_43, if_neg (nI_ge hi (by omega)), h, am_ck_t (nIl_ne hn0 (by omega)), hm, nI_l (show n < 2 ^ 31 by omega), hk, he, hee]
  dsimp only
  rw [hp1, nI_1, nI_1, Int32.add_zero]
  unfold m_dl
  rw [jn_eq]
  dsimp only
  rw [am_ck_t (nI_nz hn0 (by omega))]
  by_cases c0 : e = 0
  · rw [if_pos c0, if_pos (show nI e = 0 by rw [c0]; rfl)]
  · rw [if_neg c0, if_neg (show ¬ nI e = 0 from fun q => c0 ((ne 0 (by omega)) ▸ (show nI e = nI 0 from q)))]
    by_cases c1 : e = 1
    · rw [if_pos c1, if_pos (show nI e = 1 by rw [c1]; rfl)]
    · rw [if_neg c1, if_neg (show ¬ nI e = 1 from fun q => c1 ((ne 1 (by omega)) ▸ (show nI e = nI 1 from q)))]
      by_cases c2 : e = 2
      · rw [if_pos c2, if_pos (show nI e = 2 by rw [c2]; rfl)]
      · rw [if_neg c2, if_neg (show ¬ nI e = 2 from fun q => c2 ((ne 2 (by omega)) ▸ (show nI e = nI 2 from q)))]
        by_cases c3 : e = 3
        · rw [if_pos c3, if_pos (show nI e = 3 by rw [c3]; rfl)]
        · rw [if_neg c3, if_neg (show ¬ nI e = 3 from fun q => c3 ((ne 3 (by omega)) ▸ (show nI e = nI 3 from q)))]
/-! the number of jars stays -/
def kp (x : Int32) (o : Option (Int32 × am_U)) : Prop := ∀ p, o = some p → p.2 60 12 = x
theorem kp_some {x : Int32} {p : Int32 × am_U} (h : p.2 60 12 = x) : kp x (some p) := fun q hq => by cases hq; exact h
theorem kp_ite {x : Int32} {c : Prop} {d : Decidable c} {a b : Option (Int32 × am_U)} (h1 : kp x a) (h2 : kp x b) : kp x (@ite _ c d a b) := by split <;> assumption
theorem kp_ck {x : Int32} {b : Bool} {o : Option (Int32 × am_U)} (h : kp x o) : kp x (am_ck b o) := by
  cases b
  · intro p hp; cases hp
  · exact h
theorem kp_bind {α : Type} {x : Int32} {o : Option α} {k : α → Option (Int32 × am_U)} (h : ∀ q, o = some q → kp x (k q)) : kp x (o.bind k) := by
  cases o with
  | none => intro p hp; cases hp
  | some q => exact h q rfl
theorem kp_none {x : Int32} : kp x none := fun p hp => by cases hp
theorem kw {u : am_U} {i j : Nat} {v x : Int32} (hi : ¬ (60 = i ∧ 12 = j)) (h : u 60 12 = x) : am_w u i j v 60 12 = x := by rw [am_w_n hi]; exact h
theorem kp_fill {x : Int32} {m : am_U} (hx : m 60 12 = x) (hr : ∀ c q, f_X11_remembers c m = some q → q 60 12 = x) (a : Int32) : kp x (f_X11_fill a m) := by
  unfold f_X11_fill
  dsimp only
  repeat' first | exact kp_some hx | apply kp_ite | apply kp_ck | refine kp_bind (fun q hq => ?_)
  all_goals (refine kp_some ?_; dsimp only; rw [am_w_n (by omega), am_w_n (by omega)]; exact hr _ _ hq)
theorem kp_carry {x : Int32} {m : am_U} (hx : m 60 12 = x) (hr : ∀ c q, f_X11_remembers c m = some q → q 60 12 = x) (a b : Int32) : kp x (f_X11_carry a b m) := by
  unfold f_X11_carry
  simp only [jn_eq]
  repeat' first | with_reducible exact kp_some hx | with_reducible apply kp_ite | with_reducible apply kp_ck | with_reducible refine kp_bind (fun q hq => ?_)
  all_goals (refine kp_some ?_; dsimp only; rw [am_w_n (by omega), am_w_n (by omega)]; exact hr _ _ hq)
theorem kp_spend {x : Int32} {m : am_U} (hx : m 60 12 = x) (hr : ∀ c q, f_X11_remembers c m = some q → q 60 12 = x) (a b : Int32) : kp x (f_X11_spend a b m) := by
  unfold f_X11_spend
  dsimp only
  repeat' first | exact kp_some hx | apply kp_ite | apply kp_ck | refine kp_bind (fun q hq => ?_)
  all_goals (refine kp_some ?_; dsimp only; rw [am_w_n (by omega), am_w_n (by omega), am_w_n (by omega)]; exact hr _ _ hq)
theorem kp_pour {x : Int32} {m : am_U} (hx : m 60 12 = x) (hr : ∀ c q, f_X11_remembers c m = some q → q 60 12 = x) (a b : Int32) : kp x (f_X11_pour a b m) := by
  unfold f_X11_pour
  simp only [tell_m, obs]
  repeat' first | exact kp_some hx | apply kp_ite | apply kp_ck | refine kp_bind (fun q hq => ?_)
  all_goals (refine kp_some ?_; dsimp only; rw [am_w_n (by omega), am_w_n (by omega), am_w_n (by omega), am_w_n (by omega), am_w_n (by omega)]; exact hr _ _ hq)
theorem kp_n25 {x : Int32} {K : Int32 → am_U → Option (Int32 × am_U)} (hK : ∀ v u, u 60 12 = x → kp x (K v u)) : ∀ (f : Nat) (v k : Int32) (u : am_U), u 60 12 = x → kp x (f_X11_night_25 K f v k u) := by
  intro f
  induction f with
  | zero => intro v k u _; exact kp_none
  | succ f ih =>
    intro v k u hu
    rw [f_X11_night_25]
    refine kp_ite (hK _ _ hu) (kp_bind (fun q hq => kp_ck (ih _ _ _ (kw (by omega) hu))))
theorem kp_n65 {x v1 : Int32} {K : Int32 → am_U → Option (Int32 × am_U)} (hK : ∀ v u, u 60 12 = x → kp x (K v u)) : ∀ (f : Nat) (v k : Int32) (u : am_U), u 60 12 = x → kp x (f_X11_night_65 v1 K f v k u) := by
  intro f
  induction f with
  | zero => intro v k u _; exact kp_none
  | succ f ih =>
    intro v k u hu
    rw [f_X11_night_65]
    simp only [jn_eq]
    repeat' first | exact hK _ _ hu | exact ih _ _ _ (kw (by omega) (kw (by omega) hu)) | apply kp_ite | apply kp_ck
theorem kp_night {x : Int32} {m : am_U} (hx : m 60 12 = x) (hr : ∀ c q, f_X11_remembers c m = some q → q 60 12 = x) : kp x (f_X11_night m) := by
  rw [night_unf]
  refine kp_ite (kp_bind (fun q hq => kp_n25 (fun v u hu => ?_) _ _ _ _ (hr _ _ hq))) (kp_some hx)
  unfold m_nk
  refine kp_n65 (fun w u hu => ?_) _ _ _ _ hu
  refine kp_some ?_
  dsimp only
  rw [am_w_n (by omega), am_w_n (by omega), am_w_n (by omega)]
  exact hu
theorem kp_dl {x : Int32} {m : am_U} (hx : m 60 12 = x) (hr : ∀ c q, f_X11_remembers c m = some q → q 60 12 = x) (k e n : Nat) : kp x (m_dl k e n m) := by
  unfold m_dl
  exact kp_ite (kp_fill hx hr _) (kp_ite (kp_carry hx hr _ _) (kp_ite (kp_spend hx hr _ _) (kp_ite (kp_pour hx hr _ _) (kp_night hx hr))))
theorem rem_gl {pl : Nat} {c m : am_U} (hI : am_Inv pl (gl c m)) (o : Int32) (q : am_U) (h : f_X11_remembers o m = some q) : q 60 12 = m 60 12 := by
  obtain ⟨s, L, hs, -, hM, -⟩ := deeds_to hI.2.2.2.2.2.1
  obtain ⟨w, e1, -, e3⟩ := rem_m o hs hM
  have := (rem_lR (gl_R c) o m).symm.trans e1
  rw [h] at this
  have h2 : gl c q = w := Option.some.inj this
  have h3 := e3 60 12 (by omega) (by omega)
  rw [← h2] at h3
  exact h3
theorem lots_lp {pl n N : Nat} (hp : pl = 30 ∨ pl = 35) (hn : n ≤ 6) (hn0 : 0 < n) (hN : N ≤ 40) : ∀ (f i d y : Nat) (c m : am_U), am_Inv pl (gl c m) → m 60 12 = nI n → y < 2 ^ 31 → i ≤ N → N < i + f → ∃ v c1 m1, f_X10_lots_46 pl (nI N) f (nI d) (lN y) (nI i) c = some (v, c1) ∧ f_X11_lots_43 (nI N) f (lN y) (nI d) (nI i) m = some (v, m1) ∧ am_Inv pl (gl c1 m1) ∧ (∀ a, 60 ≤ a → c1 a = c a) ∧ (∀ a, a < 60 → m1 a = m a) ∧ ∀ a, 91 ≤ a → m1 a = m a := by
  intro f
  induction f with
  | zero => intro i d y c m _ _ _ h1 h2; omega
  | succ f ih =>
    intro i d y c m hI hm hy h1 h2
    rcases Nat.lt_or_ge i N with q | q
    · have hlt : m_lt y < 2147483647 := Nat.mod_lt _ (by omega)
      have hc : c pl 2 = nI n := by
        have hpl0 : gl c m pl 2 = gl c m 60 12 := hI.2.2.2.1.2.2.1.1
        have h3 : gl c m pl = c pl := if_pos (by omega)
        have h4 : gl c m 60 = m 60 := if_neg (by omega)
        rw [h3, h4, hm] at hpl0
        exact hpl0
      obtain ⟨v, c1, m1, e1, e2, e3, e4, e5, e6⟩ := lot_step (k := m_lt y % n) (e := m_lt y / 64 % 5) hp hI hc hn (Nat.mod_lt _ hn0) (Nat.mod_lt _ (by omega))
      have hm1 : m1 60 12 = nI n := kp_dl hm (fun o q h => by rw [rem_gl hI o q h]; exact hm) _ _ _ _ e2
      rw [clot_st hc hn hn0 hy q hN, mlot_st hm hn hn0 hy q hN, e1, e2, obs, obs]
      have key : ∀ d', ∃ v c2 m2, f_X10_lots_46 pl (nI N) f (nI d') (lN (m_lt y)) (nI (i + 1)) c1 = some (v, c2) ∧ f_X11_lots_43 (nI N) f (lN (m_lt y)) (nI d') (nI (i + 1)) m1 = some (v, m2) ∧ am_Inv pl (gl c2 m2) ∧ (∀ a, 60 ≤ a → c2 a = c a) ∧ (∀ a, a < 60 → m2 a = m a) ∧ ∀ a, 91 ≤ a → m2 a = m a := fun d' => by
        obtain ⟨v2, c2, m2, x1, x2, x3, x4, x5, x6⟩ := ih (i + 1) d' (m_lt y) c1 m1 e3 hm1 (by omega) (by omega) (by omega)
        exact ⟨v2, c2, m2, x1, x2, x3, fun a ha => (x4 a ha).trans (e4 a ha), fun a ha => (x5 a ha).trans (e5 a ha), fun a ha => (x6 a ha).trans (e6 a ha)⟩
      by_cases hv : v < 0
      · obtain ⟨v2, c2, m2, x1, x2, x3⟩ := key d
        exact ⟨v2, c2, m2, (if_pos hv).trans x1, (if_pos hv).trans x2, x3⟩
      · obtain ⟨v2, c2, m2, x1, x2, x3⟩ := key (d + 1)
        exact ⟨v2, c2, m2, (if_neg hv).trans x1, (if_neg hv).trans x2, x3⟩
    · refine ⟨nI d, c, m, ?_, ?_, hI, fun _ _ => rfl, fun _ _ => rfl, fun _ _ => rfl⟩
      · rw [f_X10_lots_46, if_pos (nI_le (show N ≤ i by omega) (by omega))]
      · rw [f_X11_lots_43, if_pos (nI_le (show N ≤ i by omega) (by omega))]
theorem gl_self {c m : am_U} (h : ∀ a, 60 ≤ a → m a = c a) : gl c m = c := funext fun a => by
  unfold gl
  split
  · rfl
  · exact h a (by omega)
theorem gl_self2 {c m : am_U} (h : ∀ a, a < 60 → m a = c a) : gl c m = m := funext fun a => by
  unfold gl
  split
  · next q => exact (h a q).symm
  · rfl
theorem two_lots (a1 a2 : Int32) : am_two (fun pl u => f_X10_lots pl a1 a2 u) (fun _ u => f_X11_lots a1 a2 u) := by
  intro pl hp u hI
  show ∃ v u1 u2, f_X10_lots pl a1 a2 u = _ ∧ f_X11_lots a1 a2 u1 = _ ∧ _
  obtain ⟨n, hn, e1, e2⟩ := plan_n hI.2.2.2.1
  rcases wi_cs a1 1 40 (by omega) (by omega) with w | ⟨N, hN0, hN, ha, w⟩
  · refine ⟨-1, u, u, ?_, ?_, hI, fun _ _ => rfl⟩
    · unfold f_X10_lots; rw [show f_X10_isWithin a1 1 40 = some 0 from w]
      simp only [obs, i10, i11, iT, iN]
    · unfold f_X11_lots; rw [in_eq, show f_X10_isWithin a1 1 40 = some 0 from w]
      simp only [obs, i10, i11, iT, iN]
  rcases wi_cs a2 1 2147483646 (by omega) (by omega) with w2 | ⟨y, hy0, hy, hb, w2⟩
  · refine ⟨-1, u, u, ?_, ?_, hI, fun _ _ => rfl⟩
    · unfold f_X10_lots; rw [show f_X10_isWithin a1 1 40 = some 1 from w, show f_X10_isWithin a2 1 2147483646 = some 0 from w2]
      simp only [obs, i10, i11, iT, iN]
    · unfold f_X11_lots; rw [in_eq, in_eq, show f_X10_isWithin a1 1 40 = some 1 from w, show f_X10_isWithin a2 1 2147483646 = some 0 from w2]
      simp only [obs, i10, i11, iT, iN]
  have hE : f_X10_lots pl a1 a2 u = if 2 ≤ nI n then f_X10_lots_46 pl (nI N) 20000 0 (lN y) 0 u else some (-4, u) := by
    unfold f_X10_lots; rw [show f_X10_isWithin a1 1 40 = some 1 from w, show f_X10_isWithin a2 1 2147483646 = some 1 from w2]
    simp only [obs, i10, i11, iT, iN]
    rw [e1, hb, ha, nI_l (by omega)]
  have hM : ∀ v : am_U, v 60 12 = nI n → f_X11_lots a1 a2 v = if 2 ≤ nI n then f_X11_lots_43 (nI N) 20000 (lN y) 0 0 v else some (-4, v) := fun v hv => by
    unfold f_X11_lots; rw [in_eq, in_eq, show f_X10_isWithin a1 1 40 = some 1 from w, show f_X10_isWithin a2 1 2147483646 = some 1 from w2]
    simp only [obs, i10, i11, iT, iN]
    rw [hv, hb, ha, nI_l (by omega)]
  by_cases c : 2 ≤ n
  · have c' : (2 : Int32) ≤ nI n := nI_le (a := 2) c (by omega)
    have hs : gl u u = u := gl_self (fun _ _ => rfl)
    obtain ⟨v, c1, m1, x1, -, -, x4, -, -⟩ := lots_lp hp hn (by omega) hN 20000 0 0 y u u (by rw [hs]; exact hI) e2 (by omega) (by omega) (by omega)
    have hs2 : gl u c1 = u := gl_self x4
    obtain ⟨v2, c2, m2, y1, y2, y3, y4, y5, y6⟩ := lots_lp hp hn (by omega) hN 20000 0 0 y u c1 (by rw [hs2]; exact hI) (by rw [x4 60 (by omega)]; exact e2) (by omega) (by omega) (by omega)
    have hcc := Option.some.inj (x1.symm.trans y1)
    have hv : v = v2 := congrArg Prod.fst hcc
    have hc12 : c1 = c2 := congrArg Prod.snd hcc
    subst hv
    subst hc12
    rw [gl_self2 y5] at y3
    refine ⟨v, c1, m2, ?_, ?_, y3, fun a ha => (y6 a ha).trans (x4 a (by omega))⟩
    · rw [hE, if_pos c']; exact x1
    · rw [hM c1 (by rw [x4 60 (by omega)]; exact e2), if_pos c']; exact y2
  · have c' : ¬ (2 : Int32) ≤ nI n := nI_ge (b := 2) (by omega) (by omega)
    exact ⟨-4, u, u, by rw [hE, if_neg c'], by rw [hM u e2, if_neg c'], hI, fun _ _ => rfl⟩
theorem ok_lots {l : Launch} {g : am_G} (a1 a2 : Int32) : am_ok l g d_X10_lots d_X11_lots [.int a1, .int a2] am_isI := ok_II (fun B pl hL u => s_X10_lots hL a1 a2 u) (fun B pl hL u => s_X11_lots hL a1 a2 u) (two_lots a1 a2)
