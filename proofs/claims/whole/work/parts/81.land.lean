/-! fault and land -/
theorem fr_read {pl dr : Nat} (hp : pl = 30 ∨ pl = 35) (hd : pl + dr = 65) {u w : am_U} (h : am_Inv pl u) (e : ∀ a c, a ≠ 7 → ¬ (dr ≤ a ∧ a ≤ dr + 4 ∧ ¬ (a = dr + 2 ∧ c = 0)) → ¬ (a = 60 ∧ 15 ≤ c ∧ c ≤ 20) → ¬ (71 ≤ a ∧ a ≤ 74) → w a c = u a c) : am_Inv pl w := by
  obtain ⟨h1, h2, h3, h4, h5, h6, h7, h8⟩ := h
  have e2 : ∀ a c, c_vs a c → w a c = u a c := fun a c q => by unfold c_vs at q; exact e a c (by omega) (by omega) (by omega) (by omega)
  refine ⟨fr_msg h1 (fun a c q => ?_), fr_rows h2 (fun a c q => ?_), fr_txts h3 (fun a c q => ?_), ?_, fr_scene h5 (fun a c q => ?_) e2, fr_deeds h6 (fun a c q => ?_) e2, fr_kept h7 (fun a c q => ?_) e2, fr_burn h8 (fun a c q => ?_)⟩
  · unfold c_msg at q; exact e a c (by omega) (by omega) (by omega) (by omega)
  · unfold c_rows at q; exact e a c (by omega) (by omega) (by omega) (by omega)
  · unfold c_txts at q; exact e a c (by omega) (by omega) (by omega) (by omega)
  · obtain ⟨p1, ⟨p2, p3⟩, ⟨p4, p5⟩, p6, p7, p8, p9, p10, p11⟩ := h4
    have q0 : ∀ b, w pl b = u pl b := fun b => e _ b (by omega) (by omega) (by omega) (by omega)
    have q1 : ∀ b, w (pl + 1) b = u (pl + 1) b := fun b => e _ b (by omega) (by omega) (by omega) (by omega)
    have q2 : ∀ b, w (pl + 2) b = u (pl + 2) b := fun b => e _ b (by omega) (by omega) (by omega) (by omega)
    have q3 : ∀ b, w (pl + 3) b = u (pl + 3) b := fun b => e _ b (by omega) (by omega) (by omega) (by omega)
    have q4 : ∀ b, w (pl + 4) b = u (pl + 4) b := fun b => e _ b (by omega) (by omega) (by omega) (by omega)
    have q5 : ∀ b, w 67 b = u 67 b := fun b => e _ b (by omega) (by omega) (by omega) (by omega)
    have q6 : ∀ b, w 68 b = u 68 b := fun b => e _ b (by omega) (by omega) (by omega) (by omega)
    have q7 : ∀ b, w 69 b = u 69 b := fun b => e _ b (by omega) (by omega) (by omega) (by omega)
    have q8 : ∀ b, w 70 b = u 70 b := fun b => e _ b (by omega) (by omega) (by omega) (by omega)
    unfold i_plan
    rw [e 60 8 (by omega) (by omega) (by omega) (by omega), e 60 9 (by omega) (by omega) (by omega) (by omega), e 60 12 (by omega) (by omega) (by omega) (by omega), e 32 0 (by omega) (by omega) (by omega) (by omega), e 37 0 (by omega) (by omega) (by omega) (by omega)]
    simp only [q0, q1, q2, q3, q4, q5, q6, q7, q8]
    exact ⟨p1, ⟨p2, p3⟩, ⟨p4, p5⟩, p6, p7, p8, p9, p10, p11⟩
  · unfold c_scene at q; exact e a c (by omega) (by omega) (by omega) (by omega)
  · unfold c_deeds at q; exact e a c (by omega) (by omega) (by omega) (by omega)
  · unfold c_kept at q; exact e a c (by omega) (by omega) (by omega) (by omega)
  · unfold c_burn at q; exact e a c (by omega) (by omega) (by omega) (by omega)
def u_5 (u : am_U) : am_U := am_w (am_w (am_w (am_w (am_w u 60 15 0) 60 17 0) 60 18 0) 60 19 0) 60 20 0
theorem fo_eq (t : Nat) (u : am_U) : f_X11_faultOf (nI t) u = f_X11_faultOf_25 (nI t) (KF t) 20000 (u_5 u) := rfl
theorem read_two {pl dr t n : Nat} (hp : pl = 30 ∨ pl = 35) (hd : pl + dr = 65) {u : am_U} (hI : am_Inv pl u) (ht : t < 4) (hn : n ≤ 60) (hrow : i_row u (2 * t + 52) 65 66 t) (k1 : u 65 t = nI n) : ∃ res u1, f_X7_read (2 * t + 52) dr u = some (res, u1) ∧ gC dr u u1 ∧ ∀ v : am_U, (∀ a c, a = 65 ∨ a = 66 → v a c = u a c) → ∃ u2, f_X11_faultOf (nI t) v = some (res, u2) ∧ gM v u2 ∧ (res = -9 → D1 dr u1 u2 ∧ D2 dr u1 u2 ∧ D3 dr u1 u2 ∧ ∃ c', D4 dr c' u1 u2) := by
  have hdr : dr = 30 ∨ dr = 35 := by omega
  have hC : tC (2 * t + 52) (fun i => u 66 (60 * t + i)) n (am_w u 7 1 0) := ⟨by rw [am_w_n (by omega), hrow.1, k1], fun i hi => by rw [am_w_n (by omega)]; exact hrow.2.2 i (by omega)⟩
  have hb : ∀ i, i < n → ¬ (fun i => u 66 (60 * t + i)) i = 1000 := fun i _ => hI.1.2.2.2 _
  have go : ∀ v : am_U, (∀ a c, a = 65 ∨ a = 66 → v a c = u a c) → sR (2 * t + 52) t dr (cM (2 * t + 52) dr) 20000 (am_w u 7 1 0) (u_5 v) := fun v hv => by
    refine stM (p := 0) (s := n) hdr (by omega) ht hn hb (by omega) hC ⟨?_, fun i hi => ?_⟩ (am_w_s _ _ _ _) ?_ ?_ ?_ ?_ ?_ (by omega)
    · unfold u_5; rw [am_w_n (by omega), am_w_n (by omega), am_w_n (by omega), am_w_n (by omega), am_w_n (by omega), hv _ _ (by omega), k1]
    · unfold u_5; rw [am_w_n (by omega), am_w_n (by omega), am_w_n (by omega), am_w_n (by omega), am_w_n (by omega), hv _ _ (by omega)]
    · unfold u_5; rw [am_w_n (by omega), am_w_n (by omega), am_w_n (by omega), am_w_n (by omega), am_w_s]; rfl
    · unfold u_5; rw [am_w_n (by omega), am_w_n (by omega), am_w_n (by omega), am_w_s]
    · unfold u_5; rw [am_w_n (by omega), am_w_n (by omega), am_w_s]; rfl
    · unfold u_5; rw [am_w_n (by omega), am_w_s]
    · unfold u_5; rw [am_w_s]; rfl
  obtain ⟨r1, u1, -, a1, -, a3, -, -⟩ := go u (fun _ _ _ => rfl)
  have gu : gC dr u u1 := fun a c z1 z2 => by rw [a3 a c z1 z2, am_w_n (by omega)]
  refine ⟨r1, u1, by rw [read_eq]; exact a1, gu, fun v hv => ?_⟩
  obtain ⟨r2, v1, u2, b1, b2, -, b4, b5⟩ := go v hv
  have hh := Option.some.inj (a1.symm.trans b1)
  have hr : r1 = r2 := congrArg Prod.fst hh
  have hv1 : u1 = v1 := congrArg Prod.snd hh
  subst hr
  subst hv1
  refine ⟨u2, by rw [fo_eq]; exact b2, fun a c z1 z2 => ?_, b5⟩
  rw [b4 a c z1 z2]
  unfold u_5
  rw [am_w_n (by omega), am_w_n (by omega), am_w_n (by omega), am_w_n (by omega), am_w_n (by omega)]
theorem pz_wR {i v w f : Nat} {B : am_M} {u u2 : am_U} (hw : (w = 7 ∧ f = 0) ∨ (w = 4 ∧ f = 10) ∨ (w = 4 ∧ f = 11)) (h : am_pz i B u) (e : ∀ a, 91 ≤ a → u2 a = u a) : am_pz i (am_wR B w f v) u2 := by
  rcases h with h | ⟨pz, a1, a2, a3, a4, st, a5, a6, a7⟩
  · exact Or.inl (by rw [am_wR_ro (by omega)]; exact h)
  · refine Or.inr ⟨pz, by rw [am_wR_ro (by omega)]; exact a1, a2, a3, ?_, st, a5, by rw [e pz a2]; exact a6, fun s hs => by rw [e (pz + 3) (by omega)]; exact a7 s hs⟩
    unfold am_isPour at a4 ⊢
    rw [am_wR_ro (by omega), am_wR_ro (by omega), am_wR_ro (by omega), am_wR_ro (by omega), am_wR_ro (by omega)]
    exact a4
theorem ok_fault {l : Launch} {g : am_G} (a1 : Int32) : am_ok l g d_X10_fault d_X11_fault [.int a1] am_isI := by
  intro i M _ hJ
  obtain ⟨B, pl, dr, u, rfl, h2, h3, h4, h5, h6, h7⟩ := hJ
  have hp := h2.1.2.2.2.1
  have h49 := am_L49 h2.1
  have b1 := s_X10_fault (l := l) (g := g) h2.1 h2 a1 u
  have n3 : ¬ (-3 : Int32) = 0 := by decide
  have n1 : ¬ (-1 : Int32) = 0 := by decide
  rcases refuse_cs (pl := 30) 6 4 52 65 66 (by omega) a1 u h4.2.2.1 with ⟨w, e⟩ | ⟨t, ht, ha, w, hix, hcl, hrow, hid, ⟨k1, k2, e⟩ | ⟨n, hn, k1, k2, e⟩⟩
  · have c1 : f_X10_fault B dr a1 u = some (-1, am_of B u) := by
      unfold f_X10_fault; rw [e, obs]; exact if_neg n1
    have c2 : f_X11_fault a1 u = some (-1, u) := by
      unfold f_X11_fault; rw [isText_eq, show f_X10_isWithin a1 0 3 = some 0 from w, obs]; exact if_neg (fun z => z rfl)
    have b2 := s_X11_fault (l := l) (g := g) h2.1 a1 u
    rw [c1] at b1
    rw [c2] at b2
    exact ⟨am_of B u, .int (-1), ⟨_, rfl⟩, ⟨h49.1, am_of B u, b1, h49.2, b2⟩, B, pl, dr, u, rfl, h2, h3, h4, am_pz_up h5 (by omega), by omega, by omega⟩
  · have c1 : f_X10_fault B dr a1 u = some (-3, am_of B (am_fnd u 1)) := by
      unfold f_X10_fault; rw [e, obs]; exact if_neg n3
    have c2 : f_X11_fault a1 (am_fnd u 1) = some (-3, am_mts (am_fnd u 1) 1) := by
      unfold f_X11_fault; rw [isText_eq, show f_X10_isWithin a1 0 3 = some 1 from w, obs]
      refine (if_pos ne10).trans ?_
      rw [am_ck_t hix, hcl, fnd_n (by omega), if_neg k2]
      show (f_X11_meets (nI 1) (am_fnd u 1)).bind _ = _
      rw [meets_eq (by omega), obs]
    have b2 := s_X11_fault (l := l) (g := g) h2.1 a1 (am_fnd u 1)
    rw [c1] at b1
    rw [c2] at b2
    have hf := inv_find hp h4 1
    exact ⟨am_of B _, .int (-3), ⟨_, rfl⟩, ⟨h49.1, am_of B (am_fnd u 1), b1, h49.2, b2⟩, B, pl, dr, _, rfl, h2, h3, hf.1, am_pz_up (am_pz_w h5 hf.2) (by omega), by omega, by omega⟩
  · obtain ⟨res, u1, r1, r3, r6⟩ := read_two hp h2.2.2 h4 ht hn hrow k1
    have hdr := am_dr2 h2
    obtain ⟨u2, r2, r4, -⟩ := r6 u1 (fun a c z => r3 a c (by omega) (by omega))
    have k2' : 0 ≤ u1 65 t := by rw [r3 65 t (by omega) (by omega)]; exact k2
    have c1 : f_X10_fault B dr a1 u = some (res, am_of (am_wR B 7 0 (2 * t + 52)) u1) := by
      unfold f_X10_fault; rw [e, obs]
      refine (if_pos rfl).trans ?_
      rw [am_ck_t hix, hcl, r1, obs]
    have c2 : f_X11_fault a1 u1 = some (res, u2) := by
      unfold f_X11_fault; rw [isText_eq, show f_X10_isWithin a1 0 3 = some 1 from w, obs]
      refine (if_pos ne10).trans ?_
      rw [am_ck_t hix, hcl, if_pos k2', ha, r2, obs]
    have hL' : am_Lay (am_wR B 7 0 (2 * t + 52)) pl := am_LayW h2.1 (Or.inl ⟨rfl, rfl⟩)
    have b2 := s_X11_fault (l := l) (g := g) hL' a1 u1
    rw [c1] at b1
    rw [c2] at b2
    have eo : ∀ a c, a ≠ 7 → ¬ (dr ≤ a ∧ a ≤ dr + 4 ∧ ¬ (a = dr + 2 ∧ c = 0)) → ¬ (a = 60 ∧ 15 ≤ c ∧ c ≤ 20) → ¬ (71 ≤ a ∧ a ≤ 74) → u2 a c = u a c := fun a c z1 z2 z3 z4 => by rw [r4 a c z3 z4, r3 a c z1 z2]
    refine ⟨am_of (am_wR B 7 0 (2 * t + 52)) u2, .int res, ⟨_, rfl⟩, ⟨h49.1, am_of (am_wR B 7 0 (2 * t + 52)) u1, b1, (am_L49 hL').2, b2⟩, am_wR B 7 0 (2 * t + 52), pl, dr, u2, rfl, ⟨hL', by rw [am_wR_ro (by omega)]; exact h2.2.1, h2.2.2⟩, h3, fr_read hp h2.2.2 h4 eo, am_pz_up (pz_wR (Or.inl ⟨rfl, rfl⟩) h5 (fun a ha => funext fun c => eo a c (by omega) (by omega) (by omega) (by omega))) (by omega), ?_, ?_⟩
    · rw [am_wR_ro (by omega)]
      show am_nx B + _ ≤ _
      omega
    · rw [am_wR_ro (by omega)]
      show am_sl B + _ ≤ _
      omega
/-! the land is laid -/
theorem l63_lp (K : am_U → Option (Int32 × am_U)) : ∀ (f i : Nat) (u : am_U), i ≤ 8 → 8 < i + f → f_X11_land_63 K f (nI i) u = K (am_cy u 67 0 71 0 i 8) := by
  intro f
  induction f with
  | zero => intro i u h1 h2; omega
  | succ f ih =>
    intro i u h1 h2
    rw [f_X11_land_63]
    rcases Nat.lt_or_ge i 8 with q | q
    · rw [if_neg (show ¬ (8 : Int32) ≤ nI i from nI_ge (b := 8) q (by omega)), am_ck_t (am_ix_nI q (by omega)), nI_clamp (by omega), nI_1]
      show f_X11_land_63 K f (nI (i + 1)) (am_w u 67 i (u 71 i)) = _
      rw [ih (i + 1) _ (by omega) (by omega)]
      have := am_cy_w (u := u) (c := 67) (o := 0) (s := 71) (p := 0) (i := i) (n := 8) (by omega) q
      rw [Nat.zero_add] at this
      rw [this]
    · have : i = 8 := by omega
      subst this
      rw [if_pos (show (8 : Int32) ≤ nI 8 by decide), am_cy_e]
theorem l89_lp (K : am_U → Option (Int32 × am_U)) : ∀ (f i : Nat) (u : am_U), i ≤ 5 → 5 < i + f → f_X11_land_89 K f (nI i) u = K (am_cy u 68 0 72 0 i 5) := by
  intro f
  induction f with
  | zero => intro i u h1 h2; omega
  | succ f ih =>
    intro i u h1 h2
    rw [f_X11_land_89]
    rcases Nat.lt_or_ge i 5 with q | q
    · rw [if_neg (show ¬ (5 : Int32) ≤ nI i from nI_ge (b := 5) q (by omega)), am_ck_t (am_ix_nI q (by omega)), nI_clamp (by omega), nI_1]
      show f_X11_land_89 K f (nI (i + 1)) (am_w u 68 i (u 72 i)) = _
      rw [ih (i + 1) _ (by omega) (by omega)]
      have := am_cy_w (u := u) (c := 68) (o := 0) (s := 72) (p := 0) (i := i) (n := 5) (by omega) q
      rw [Nat.zero_add] at this
      rw [this]
    · have : i = 5 := by omega
      subst this
      rw [if_pos (show (5 : Int32) ≤ nI 5 by decide), am_cy_e]
theorem l114_lp {n : Nat} (hn : n ≤ 6) (K : am_U → Option (Int32 × am_U)) : ∀ (f i : Nat) (u : am_U), u 60 12 = nI n → i ≤ n → n < i + f → ∃ w, f_X11_land_114 K f (nI i) u = K w ∧ (∀ k, i ≤ k → k < n → w 69 k = u 73 k ∧ w 70 k = u 74 k) ∧ (∀ k, k < i → w 69 k = u 69 k ∧ w 70 k = u 70 k) ∧ ∀ a c, a ≠ 69 → a ≠ 70 → w a c = u a c := by
  intro f
  induction f with
  | zero => intro i u _ h1 h2; omega
  | succ f ih =>
    intro i u e h1 h2
    rw [f_X11_land_114, e]
    rcases Nat.lt_or_ge i n with q | q
    · obtain ⟨w, k1, k2, k3, k4⟩ := ih (i + 1) (am_w (am_w u 69 i (u 73 i)) 70 i (u 74 i)) (by rw [am_w_n (by omega), am_w_n (by omega)]; exact e) (by omega) (by omega)
      refine ⟨w, ?_, fun k z1 z2 => ?_, fun k z => ?_, fun a c z1 z2 => by rw [k4 a c z1 z2, am_w_n (by omega), am_w_n (by omega)]⟩
      · rw [if_neg (nI_ge q (by omega)), am_ck_t (am_ix_nI (show i < 6 by omega) (by omega)), nI_clamp (by omega), nI_1]
        show f_X11_land_114 K f (nI (i + 1)) (am_w (am_w u 69 i (u 73 i)) 70 i (am_w u 69 i (u 73 i) 74 i)) = _
        rw [am_w_n (show ¬ (74 = 69 ∧ i = i) by omega)]; exact k1
      · by_cases z : k = i
        · subst z
          rw [(k3 k (by omega)).1, (k3 k (by omega)).2, am_w_n (by omega), am_w_s, am_w_s]; exact ⟨rfl, rfl⟩
        · rw [(k2 k (by omega) z2).1, (k2 k (by omega) z2).2, am_w_n (by omega), am_w_n (by omega), am_w_n (by omega), am_w_n (by omega)]; exact ⟨rfl, rfl⟩
      · rw [(k3 k (by omega)).1, (k3 k (by omega)).2, am_w_n (by omega), am_w_n (by omega), am_w_n (by omega), am_w_n (by omega)]; exact ⟨rfl, rfl⟩
    · rw [if_pos (nI_le (show n ≤ i by omega) (by omega))]
      exact ⟨u, rfl, fun k z1 z2 => by omega, fun _ _ => ⟨rfl, rfl⟩, fun _ _ _ _ => rfl⟩
theorem l154_lp (K : am_U → Option (Int32 × am_U)) : ∀ (f i : Nat) (u : am_U), i ≤ 30 → 30 < i + f → f_X11_land_154 K f (nI i) u = K (am_fl u 75 i 30 0) := by
  intro f
  induction f with
  | zero => intro i u h1 h2; omega
  | succ f ih =>
    intro i u h1 h2
    rw [f_X11_land_154]
    rcases Nat.lt_or_ge i 30 with q | q
    · rw [if_neg (show ¬ (30 : Int32) ≤ nI i from nI_ge (b := 30) q (by omega)), am_ck_t (am_ix_nI q (by omega)), nI_clamp (by omega), nI_1]
      show f_X11_land_154 K f (nI (i + 1)) (am_w u 75 i 0) = _
      rw [ih (i + 1) _ (by omega) (by omega), am_fl_w q]
    · have : i = 30 := by omega
      subst this
      rw [if_pos (show (30 : Int32) ≤ nI 30 by decide), am_fl_e]
theorem l175_lp (K : am_U → Option (Int32 × am_U)) : ∀ (f i : Nat) (u : am_U), i ≤ 3 → 3 < i + f → f_X11_land_175 K f (nI i) u = K (am_fl u 77 i 3 0) := by
  intro f
  induction f with
  | zero => intro i u h1 h2; omega
  | succ f ih =>
    intro i u h1 h2
    rw [f_X11_land_175]
    rcases Nat.lt_or_ge i 3 with q | q
    · rw [if_neg (show ¬ (3 : Int32) ≤ nI i from nI_ge (b := 3) q (by omega)), am_ck_t (am_ix_nI q (by omega)), nI_clamp (by omega), nI_1]
      show f_X11_land_175 K f (nI (i + 1)) (am_w u 77 i 0) = _
      rw [ih (i + 1) _ (by omega) (by omega), am_fl_w q]
    · have : i = 3 := by omega
      subst this
      rw [if_pos (show (3 : Int32) ≤ nI 3 by decide), am_fl_e]
