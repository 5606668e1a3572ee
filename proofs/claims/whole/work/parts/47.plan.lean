/-! jars and places -/
theorem win_cs (a : Int32) {n : Nat} (hn : n ≤ 60) : f_X10_isWithin a 0 (nI n - 1) = some 0 ∨ ∃ k, k < n ∧ a = nI k ∧ f_X10_isWithin a 0 (nI n - 1) = some 1 := by
  rcases has_cs (u := fun _ _ => nI n) (T := 0) a hn rfl with ⟨-, h⟩ | ⟨i, h1, h2, -, h3⟩
  · exact Or.inl h
  · exact Or.inr ⟨i, h1, h2, h3⟩
theorem ck01 {a lo hi : Int32} : (f_X10_isWithin a lo hi).bind (fun q1 => am_ck (q1 == 0 || q1 == 1) (some q1)) = f_X10_isWithin a lo hi := by
  unfold f_X10_isWithin
  split
  · rfl
  · split <;> rfl
theorem cjar_eq {pl n : Nat} {u : am_U} (a : Int32) (e : u pl 2 = nI n) : f_X10_isJar pl a u = f_X10_isWithin a 0 (nI n - 1) := by
  unfold f_X10_isJar
  rw [e, ck01]
theorem mjar_eq {n : Nat} {u : am_U} (a : Int32) (e : u 60 12 = nI n) : f_X11_isJar a u = f_X10_isWithin a 0 (nI n - 1) := by
  unfold f_X11_isJar
  rw [e, in_eq, ck01]
theorem cplace_eq (a : Int32) : f_X10_isPlace a = f_X10_isWithin a 0 4 := by unfold f_X10_isPlace; rw [ck01]
theorem mplace_eq (a : Int32) : f_X11_isPlace a = f_X10_isWithin a 0 4 := by unfold f_X11_isPlace; rw [in_eq, ck01]
theorem plan_n {pl : Nat} {u : am_U} (h : i_plan pl u) : ∃ n, n ≤ 6 ∧ u pl 2 = nI n ∧ u 60 12 = nI n := by
  obtain ⟨k, hk, e⟩ := h.2.2.1.2
  exact ⟨k, hk, by rw [h.2.2.1.1, e], e⟩
theorem plan_k {pl n k : Nat} {u : am_U} (h : i_plan pl u) (e : u 60 12 = nI n) (hn : n ≤ 6) (hk : k < n) : u (pl + 3) k = u 69 k ∧ am_le (u 69 k) 5 ∧ u (pl + 4) k = u 70 k ∧ am_le (u 70 k) 20 ∧ u 70 k ≠ 0 := by
  have := h.2.2.2.2.1 k (by omega) (by rw [e]; exact nI_lt hk (by omega))
  exact ⟨this.1.1, this.1.2, this.2.1, this.2.2.1, this.2.2.2⟩
def m_jt (K F S : Nat → Int32) (k : Nat) (w : Int32) : Int32 := if w = 0 then K k else if w = 1 then F k else if w = 2 then S k else if w = 3 then S (6 + k) else S (12 + k)
theorem cjt_eq {pl n k : Nat} {u : am_U} (hP : i_plan pl u) (hS : i_scene u) (e : u 60 12 = nI n) (hn : n ≤ 6) (hk : k < n) (w : Int32) : f_X10_jarTells pl (nI k) w u = some (m_jt (u 69) (u 70) (u 75) k w) := by
  obtain ⟨p1, -, p2, -⟩ := plan_k hP e hn hk
  obtain ⟨s1, s2, s3⟩ := hS.1 k (by omega)
  unfold f_X10_jarTells m_jt
  rw [am_ix_nI (show k < 6 by omega) (by omega), nI_clamp (by omega), p1, p2, s1, s2, s3]
  split
  · rfl
  · split
    · rfl
    · split
      · rfl
      · split <;> rfl
theorem nI_c (c k : Nat) : nI c + nI k = nI (c + k) := nI_add c k
theorem mjt_eq {k : Nat} {u : am_U} (hk : k < 6) (w : Int32) : f_X11_jarTells (nI k) w u = some (m_jt (u 69) (u 70) (u 75) k w) := by
  unfold f_X11_jarTells m_jt
  rw [show (0 : Int32) + nI k = nI (0 + k) from nI_add 0 k, show (6 : Int32) + nI k = nI (6 + k) from nI_add 6 k, show (12 : Int32) + nI k = nI (12 + k) from nI_add 12 k, am_ix_nI (show k < 6 by omega) (by omega), am_ix_nI (show 0 + k < 30 by omega) (by omega), am_ix_nI (show 6 + k < 30 by omega) (by omega), am_ix_nI (show 12 + k < 30 by omega) (by omega), nI_clamp (show k < 2 ^ 31 by omega), nI_clamp (show 0 + k < 2 ^ 31 by omega), nI_clamp (show 6 + k < 2 ^ 31 by omega), nI_clamp (show 12 + k < 2 ^ 31 by omega), Nat.zero_add]
  split
  · rfl
  · split
    · rfl
    · split
      · rfl
      · split <;> rfl
theorem two_jar (a1 a2 : Int32) : am_two (fun pl u => f_X10_jar pl a1 a2 u) (fun _ u => f_X11_jar a1 a2 u) := by
  intro pl hp u hI
  show ∃ v u1 u2, f_X10_jar pl a1 a2 u = _ ∧ f_X11_jar a1 a2 u1 = _ ∧ _
  obtain ⟨n, hn, e1, e2⟩ := plan_n hI.2.2.2.1
  rcases win_cs a1 (n := n) (by omega) with w | ⟨k, hk, ha, w⟩
  · refine ⟨-1, u, u, ?_, ?_, hI, fun _ _ => rfl⟩
    · unfold f_X10_jar; rw [cjar_eq a1 e1, w]; rfl
    · unfold f_X11_jar; rw [mjar_eq a1 e2, w]; rfl
  · rcases wi_cs a2 0 4 (by omega) (by omega) with w2 | ⟨j, -, hj, hb, w2⟩
    · refine ⟨-1, u, u, ?_, ?_, hI, fun _ _ => rfl⟩
      · unfold f_X10_jar; rw [cjar_eq a1 e1, w, show f_X10_isWithin a2 0 4 = some 0 from w2]; rfl
      · unfold f_X11_jar; rw [mjar_eq a1 e2, w, in_eq, show f_X10_isWithin a2 0 4 = some 0 from w2]; rfl
    · obtain ⟨x, hx⟩ : ∃ x, m_jt (u 69) (u 70) (u 75) k a2 = x := ⟨_, rfl⟩
      refine ⟨1, am_w u 4 13 x, am_w (am_w u 4 13 x) 60 2 x, ?_, ?_, inv_tell hp hI x⟩
      · unfold f_X10_jar; rw [cjar_eq a1 e1, w, show f_X10_isWithin a2 0 4 = some 1 from w2, ha, cjt_eq hI.2.2.2.1 hI.2.2.2.2.1 e2 hn hk, hx]; rfl
      · unfold f_X11_jar; rw [mjar_eq (n := n) a1 (by rw [am_w_c (by omega)]; exact e2), w, in_eq, show f_X10_isWithin a2 0 4 = some 1 from w2, ha, mjt_eq (by omega), am_w_c (by omega), am_w_c (by omega), am_w_c (by omega), hx]; rfl
theorem ok_jar {l : Launch} {g : am_G} (a1 a2 : Int32) : am_ok l g d_X10_jar d_X11_jar [.int a1, .int a2] am_isI := ok_II (fun B pl hL u => s_X10_jar hL a1 a2 u) (fun B pl hL u => s_X11_jar hL a1 a2 u) (two_jar a1 a2)
/-! the light of a place -/
def m_la (S : Nat → Int32) (p : Int32) : Nat → Nat → Int32 → Int32
  | 0, _, v => v
  | m + 1, k, v => m_la S p m (k + 1) (if S (6 + k) = p then v + S k else v)
theorem cla_lp {pl n : Nat} {u : am_U} (p : Int32) (e : u pl 2 = nI n) (hn : n ≤ 6) (hS : i_scene u) : ∀ (f k : Nat) (v : Int32), k ≤ n → n < k + f → f_X10_lightAt_4 pl u p f v (nI k) = some (m_la (u 75) p (n - k) k v) := by
  intro f
  induction f with
  | zero => intro k v h1 h2; omega
  | succ f ih =>
    intro k v h1 h2
    rw [f_X10_lightAt_4, e]
    rcases Nat.lt_or_ge k n with q | q
    · obtain ⟨s1, s2, -⟩ := hS.1 k (by omega)
      rw [if_neg (nI_ge q (by omega)), am_ck_t (am_ix_nI (show k < 6 by omega) (by omega)), nI_clamp (by omega), s1, s2, nI_1, show n - k = (n - (k + 1)) + 1 by omega, m_la]
      by_cases h : u 75 (6 + k) = p
      · rw [if_neg (fun q => q h), if_pos h]; exact ih (k + 1) _ (by omega) (by omega)
      · rw [if_pos h, if_neg h]; exact ih (k + 1) _ (by omega) (by omega)
    · have : k = n := by omega
      subst this
      rw [if_pos (nI_le (Nat.le_refl k) (by omega)), Nat.sub_self]; rfl
theorem mla_lp {n : Nat} {u : am_U} (p : Int32) (e : u 60 12 = nI n) (hn : n ≤ 6) : ∀ (f k : Nat) (v : Int32), k ≤ n → n < k + f → f_X11_lightAt_4 u p f v (nI k) = some (m_la (u 75) p (n - k) k v) := by
  intro f
  induction f with
  | zero => intro k v h1 h2; omega
  | succ f ih =>
    intro k v h1 h2
    rw [f_X11_lightAt_4, e]
    rcases Nat.lt_or_ge k n with q | q
    · rw [if_neg (nI_ge q (by omega)), show (0 : Int32) + nI k = nI (0 + k) from nI_add 0 k, show (6 : Int32) + nI k = nI (6 + k) from nI_add 6 k, am_ck_t (am_ix_nI (show 6 + k < 30 by omega) (by omega)), am_ck_t (am_ix_nI (show 0 + k < 30 by omega) (by omega)), nI_clamp (show 6 + k < 2 ^ 31 by omega), nI_clamp (show 0 + k < 2 ^ 31 by omega), Nat.zero_add, nI_1, show n - k = (n - (k + 1)) + 1 by omega, m_la]
      by_cases h : u 75 (6 + k) = p
      · rw [if_neg (fun q => q h), if_pos h]; exact ih (k + 1) _ (by omega) (by omega)
      · rw [if_pos h, if_neg h, Int32.add_zero]; exact ih (k + 1) _ (by omega) (by omega)
    · have : k = n := by omega
      subst this
      rw [if_pos (nI_le (Nat.le_refl k) (by omega)), Nat.sub_self]; rfl
theorem cla_eq {pl n : Nat} {u : am_U} (p : Int32) (e : u pl 2 = nI n) (hn : n ≤ 6) (hS : i_scene u) : f_X10_lightAt pl p u = some (m_la (u 75) p n 0 0) := cla_lp p e hn hS 20000 0 0 (by omega) (by omega)
theorem mla_eq {n : Nat} {u : am_U} (p : Int32) (e : u 60 12 = nI n) (hn : n ≤ 6) : f_X11_lightAt p u = some (m_la (u 75) p n 0 0) := mla_lp p e hn 20000 0 0 (by omega) (by omega)
def m_pt (D S : Nat → Int32) (n p : Nat) (w : Int32) : Int32 := if w = 0 then D p else if w = 1 then S (18 + p) else if w = 2 then S (23 + p) else m_la S (nI p) n 0 0
theorem cpt_eq {pl n p : Nat} {u : am_U} (hP : i_plan pl u) (hS : i_scene u) (e : u pl 2 = nI n) (hn : n ≤ 6) (hp : p < 5) (w : Int32) : f_X10_placeTells pl (nI p) w u = some (m_pt (u 68) (u 75) n p w) := by
  obtain ⟨s1, s2⟩ := hS.2.1 p hp
  unfold f_X10_placeTells m_pt
  rw [am_ck_t (am_ix_nI (show p < 5 by omega) (by omega)), am_ck_t (am_ix_nI (show p < 5 by omega) (by omega)), am_ck_t (am_ix_nI (show p < 5 by omega) (by omega)), nI_clamp (by omega), (hP.2.2.2.2.2.1 p hp).1, s1, s2, cla_eq (nI p) e hn hS]
  split
  · rfl
  · split
    · rfl
    · split <;> rfl
theorem mpt_eq {n p : Nat} {u : am_U} (e : u 60 12 = nI n) (hn : n ≤ 6) (hp : p < 5) (w : Int32) : f_X11_placeTells (nI p) w u = some (m_pt (u 68) (u 75) n p w) := by
  unfold f_X11_placeTells m_pt
  rw [show (23 : Int32) + nI p = nI (23 + p) from nI_add 23 p, show (18 : Int32) + nI p = nI (18 + p) from nI_add 18 p, am_ck_t (am_ix_nI (show p < 5 by omega) (by omega)), am_ck_t (am_ix_nI (show 18 + p < 30 by omega) (by omega)), am_ck_t (am_ix_nI (show 23 + p < 30 by omega) (by omega)), nI_clamp (show p < 2 ^ 31 by omega), nI_clamp (show 18 + p < 2 ^ 31 by omega), nI_clamp (show 23 + p < 2 ^ 31 by omega), mla_eq (nI p) e hn]
  by_cases h0 : w = 0
  · rw [if_neg (fun q => q h0), if_pos h0]
  · rw [if_pos h0, if_neg h0]
    by_cases h1 : w = 1
    · rw [if_neg (fun q => q h1), if_pos h1]
    · rw [if_pos h1, if_neg h1]
      by_cases h2 : w = 2
      · rw [if_neg (fun q => q h2), if_pos h2]
      · rw [if_pos h2, if_neg h2]; rfl
theorem two_place (a1 a2 : Int32) : am_two (fun pl u => f_X10_place pl a1 a2 u) (fun _ u => f_X11_place a1 a2 u) := by
  intro pl hp u hI
  show ∃ v u1 u2, f_X10_place pl a1 a2 u = _ ∧ f_X11_place a1 a2 u1 = _ ∧ _
  obtain ⟨n, hn, e1, e2⟩ := plan_n hI.2.2.2.1
  rcases wi_cs a1 0 4 (by omega) (by omega) with w | ⟨k, -, hk, ha, w⟩
  · refine ⟨-1, u, u, ?_, ?_, hI, fun _ _ => rfl⟩
    · unfold f_X10_place; rw [cplace_eq, show f_X10_isWithin a1 0 4 = some 0 from w]; rfl
    · unfold f_X11_place; rw [mplace_eq, show f_X10_isWithin a1 0 4 = some 0 from w]; rfl
  · rcases wi_cs a2 0 3 (by omega) (by omega) with w2 | ⟨j, -, hj, hb, w2⟩
    · refine ⟨-1, u, u, ?_, ?_, hI, fun _ _ => rfl⟩
      · unfold f_X10_place; rw [cplace_eq, show f_X10_isWithin a1 0 4 = some 1 from w, show f_X10_isWithin a2 0 3 = some 0 from w2]; rfl
      · unfold f_X11_place; rw [mplace_eq, show f_X10_isWithin a1 0 4 = some 1 from w, in_eq, show f_X10_isWithin a2 0 3 = some 0 from w2]; rfl
    · obtain ⟨x, hx⟩ : ∃ x, m_pt (u 68) (u 75) n k a2 = x := ⟨_, rfl⟩
      refine ⟨1, am_w u 4 13 x, am_w (am_w u 4 13 x) 60 2 x, ?_, ?_, inv_tell hp hI x⟩
      · unfold f_X10_place; rw [cplace_eq, show f_X10_isWithin a1 0 4 = some 1 from w, show f_X10_isWithin a2 0 3 = some 1 from w2, ha, cpt_eq hI.2.2.2.1 hI.2.2.2.2.1 e1 hn (by omega), hx]; rfl
      · unfold f_X11_place; rw [mplace_eq, show f_X10_isWithin a1 0 4 = some 1 from w, in_eq, show f_X10_isWithin a2 0 3 = some 1 from w2, ha, mpt_eq (n := n) (by rw [am_w_c (by omega)]; exact e2) hn (by omega), am_w_c (by omega), am_w_c (by omega), hx]; rfl
theorem ok_place {l : Launch} {g : am_G} (a1 a2 : Int32) : am_ok l g d_X10_place d_X11_place [.int a1, .int a2] am_isI := ok_II (fun B pl hL u => s_X10_place hL a1 a2 u) (fun B pl hL u => s_X11_place hL a1 a2 u) (two_place a1 a2)
