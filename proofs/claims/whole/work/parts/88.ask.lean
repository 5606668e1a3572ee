/-! what is asked of all the states -/
theorem he_in (W : Nat → Int32) (p : Int32) : ∀ (k j x : Nat), j ≤ x → x < j + k → W x = p → x ∈ m_he W p k j := by
  intro k
  induction k with
  | zero => intro j x h1 h2; omega
  | succ k ih =>
    intro j x h1 h2 hw
    rw [m_he]
    by_cases z : x = j
    · subst z; rw [if_pos hw]; exact List.mem_cons_self
    · have := ih (j + 1) x (by omega) (by omega) hw
      split
      · exact List.mem_cons_of_mem j this
      · exact this
theorem mem_ix : ∀ (l : List Nat) (x : Nat), x ∈ l → ∃ a, a < l.length ∧ l.getD a 0 = x := by
  intro l
  induction l with
  | nil => intro x h; cases h
  | cons y l ih =>
    intro x h
    rcases List.mem_cons.mp h with h | h
    · exact ⟨0, by rw [List.length_cons]; omega, h.symm⟩
    · obtain ⟨a, h1, h2⟩ := ih x h
      exact ⟨a + 1, by rw [List.length_cons]; omega, h2⟩
theorem he_inj (W : Nat → Int32) (p : Int32) : ∀ (k j a b : Nat), a < (m_he W p k j).length → b < (m_he W p k j).length → (m_he W p k j).getD a 0 = (m_he W p k j).getD b 0 → a = b := by
  intro k
  induction k with
  | zero => intro j a b h; exact absurd h (Nat.not_lt_zero a)
  | succ k ih =>
    intro j a b h1 h2 hh
    rw [m_he] at h1 h2 hh
    by_cases c : W j = p
    · rw [if_pos c] at h1 h2 hh
      rw [List.length_cons] at h1 h2
      cases a with
      | zero =>
        cases b with
        | zero => rfl
        | succ b =>
          have h3 : (m_he W p k (j + 1)).getD b 0 = j := hh.symm
          have := (he_lt W p k (j + 1) _ (getD_mem _ b (by omega))).1
          omega
      | succ a =>
        cases b with
        | zero =>
          have h3 : (m_he W p k (j + 1)).getD a 0 = j := hh
          have := (he_lt W p k (j + 1) _ (getD_mem _ a (by omega))).1
          omega
        | succ b => rw [ih (j + 1) a b (by omega) (by omega) hh]
    · rw [if_neg c] at h1 h2 hh
      exact ih (j + 1) a b h1 h2 hh
theorem slot_lp {pz m k0 a0 : Nat} {J : Nat → Nat} {u : am_U} (hm : m ≤ 3) (h6 : u pz 6 = nI m) (h4 : ∀ a, a < m → u (pz + 4) a = nI (J a)) (hJ : ∀ a, a < m → J a < 6) (ha : a0 < m) (hk : J a0 = k0) (hu : ∀ a, a < m → J a = k0 → a = a0) : ∀ (f i : Nat), i ≤ a0 → a0 < i + f → f_X6_slotOf_2 u pz (nI k0) f (nI i) = some (nI a0) := by
  intro f
  induction f with
  | zero => intro i h1 h2; omega
  | succ f ih =>
    intro i h1 h2
    have hji := hJ i (by omega)
    have hk6 := hJ a0 ha
    rw [f_X6_slotOf_2, h6, if_neg (nI_ge (show i < m by omega) (by omega)), am_ck_t (am_ix_nI (show i < 3 by omega) (by omega)), nI_clamp (by omega), h4 i (by omega)]
    by_cases c : i = a0
    · subst c
      rw [if_neg (fun z => z (by rw [hk]))]
    · rw [if_pos (fun z => c (hu i (by omega) ((nI_eq (by omega) (by omega)).mp z))), nI_1]
      exact ih (i + 1) (by omega) (by omega)
def m_fs (Q : pQ) (a0 v : Nat) : Nat → Nat → Option Nat
  | 0, _ => none
  | k + 1, i => if dgt (Q.2.1 i) a0 = v then some i else m_fs Q a0 v k (i + 1)
theorem fs_lt {Q : pQ} {a0 v : Nat} : ∀ (k i j : Nat), m_fs Q a0 v k i = some j → i ≤ j ∧ j < i + k := by
  intro k
  induction k with
  | zero => intro i j h; cases h
  | succ k ih =>
    intro i j h
    rw [m_fs] at h
    split at h
    · cases h; omega
    · have := ih (i + 1) j h; omega
theorem fw_lp {pz m st a0 v : Nat} {J Z : Nat → Nat} {Q : pQ} {u : am_U} (h : rC pz m st J Z Q u) (hw : p_wf m Z Q) (ha : a0 < 3) (hv : v ≤ 20) : ∀ (f i : Nat), i ≤ Q.1 → Q.1 < i + f → f_X6_firstWith_9 u pz (nI v) (nI a0) f (nI i) = some (m_ro (m_fs Q a0 v (Q.1 - i) i)) := by
  have hn := wf_n hw
  intro f
  induction f with
  | zero => intro i h1 h2; omega
  | succ f ih =>
    intro i h1 h2
    rw [f_X6_firstWith_9, h.2.2.1]
    rcases Nat.lt_or_ge i Q.1 with q | q
    · have hd := dgt_le (Q.2.1 i) a0
      rw [if_neg (nI_ge q (by omega)), am_ck_t (am_ix_nI (show i < 9261 by omega) (by omega)), nI_clamp (by omega), (h.2.2.2.2.1 i q).1, held_eq (hw.1 i q).1 ha, obs, nI_1, show Q.1 - i = (Q.1 - (i + 1)) + 1 by omega, m_fs]
      by_cases c : dgt (Q.2.1 i) a0 = v
      · rw [if_pos c, if_neg (fun z => z (by rw [c]))]; rfl
      · rw [if_neg c, if_pos (fun z => c ((nI_eq (by omega) (by omega)).mp z))]
        exact ih (i + 1) (by omega) (by omega)
    · rw [if_pos (nI_le (show Q.1 ≤ i by omega) (by omega)), show Q.1 - i = 0 by omega]; rfl
/-- does a state hold so much in a jar -/
theorem hold_lp {m k0 a0 S v : Nat} {J : Nat → Nat} {u : am_U} (hm : m ≤ 3) (h32 : u 60 32 = nI m) (h80 : ∀ a, a < m → u 80 a = nI (J a)) (h81 : ∀ a, a < m → u 81 a = nI (dgt S a)) (hJ : ∀ a, a < m → J a < 6) (ha : a0 < m) (hk : J a0 = k0) (hu : ∀ a, a < m → J a = k0 → a = a0) (hv : v ≤ 20) : ∀ (f i : Nat), i ≤ m → m < i + f → f_X11_holds_11 u (nI k0) (nI v) f 1 (nI i) = some (1, u) ∧ f_X11_holds_11 u (nI k0) (nI v) f 0 (nI i) = some (if i ≤ a0 ∧ dgt S a0 = v then 1 else 0, u) := by
  intro f
  induction f with
  | zero => intro i h1 h2; omega
  | succ f ih =>
    intro i h1 h2
    rw [f_X11_holds_11, f_X11_holds_11, h32]
    rcases Nat.lt_or_ge i m with q | q
    · obtain ⟨I1, I2⟩ := ih (i + 1) (by omega) (by omega)
      have hji := hJ i q
      have hk6 := hJ a0 ha
      rw [if_neg (nI_ge q (by omega)), if_neg (nI_ge q (by omega)), jn_eq, jn_eq, if_pos ne10, if_neg (fun z => z rfl), nI_1, am_ck_t (am_ix_nI (show i < 6 by omega) (by omega)), am_ck_t (am_ix_nI (show i < 3 by omega) (by omega)), nI_clamp (by omega), h80 i q, h81 i q]
      refine ⟨I1, ?_⟩
      have hd := dgt_le S i
      by_cases c : i = a0
      · subst c
        rw [if_neg (fun z => z (by rw [hk]))]
        by_cases c2 : dgt S i = v
        · rw [if_neg (fun z => z (by rw [c2])), if_pos ⟨Nat.le_refl i, c2⟩]; exact I1
        · rw [if_pos (fun z => c2 ((nI_eq (by omega) (by omega)).mp z)), if_neg (fun z => c2 z.2), I2, if_neg (fun z => c2 z.2)]
      · rw [if_pos (fun z => c (hu i q ((nI_eq (by omega) (by omega)).mp z))), I2]
        by_cases c2 : i + 1 ≤ a0 ∧ dgt S a0 = v
        · rw [if_pos c2, if_pos (by omega)]
        · rw [if_neg c2, if_neg (by omega)]
    · rw [if_pos (nI_le (show m ≤ i by omega) (by omega)), if_pos (nI_le (show m ≤ i by omega) (by omega)), if_neg (by omega)]
      exact ⟨rfl, rfl⟩
theorem holds_eq {m k0 a0 S v : Nat} {J Z : Nat → Nat} {Q : pQ} {u : am_U} (hm : m ≤ 3) (h : rM m J Z Q u) (hS : S < 9261) (hJ : ∀ a, a < m → J a < 6) (ha : a0 < m) (hk : J a0 = k0) (hu : ∀ a, a < m → J a = k0 → a = a0) (hv : v ≤ 20) : ∃ w, f_X11_holds (nI S) (nI k0) (nI v) u = some (if dgt S a0 = v then 1 else 0, w) ∧ rM m J Z Q w ∧ ∀ a b, a ≠ 81 → w a b = u a b := by
  obtain ⟨w, w1, w2, w3⟩ := look_eq (u := u) hm hS h.1
  have hr := rM_81 h w3
  refine ⟨w, ?_, hr, w3⟩
  unfold f_X11_holds
  rw [w1, obs]
  refine (hold_lp hm hr.1 (fun a ha => (hr.2.2.1 a ha).1) w2 hJ ha hk hu hv 20000 0 (by omega) (by omega)).2.trans ?_
  by_cases c : dgt S a0 = v
  · rw [if_pos c, if_pos ⟨Nat.zero_le _, c⟩]
  · rw [if_neg c, if_neg (fun z => c z.2)]
theorem fst_lp {m k0 a0 v : Nat} {J Z : Nat → Nat} {Q : pQ} (hm : m ≤ 3) (hw : p_wf m Z Q) (hJ : ∀ a, a < m → J a < 6) (ha : a0 < m) (hk : J a0 = k0) (hu : ∀ a, a < m → J a = k0 → a = a0) (hv : v ≤ 20) : ∀ (f i : Nat) (u : am_U), rM m J Z Q u → i ≤ Q.1 → Q.1 < i + f → ∃ w, f_X11_firstState_2 (nI k0) (nI v) f (nI i) u = some ((m_fs Q a0 v (Q.1 - i) i).elim (-9) (fun j => nI (Q.2.1 j)), w) ∧ rM m J Z Q w ∧ ∀ a b, a ≠ 81 → w a b = u a b := by
  have hn := wf_n hw
  intro f
  induction f with
  | zero => intro i u _ h1 h2; omega
  | succ f ih =>
    intro i u h h1 h2
    rw [f_X11_firstState_2, h.2.1]
    rcases Nat.lt_or_ge i Q.1 with q | q
    · obtain ⟨w, w1, w2, w3⟩ := holds_eq (S := Q.2.1 i) hm h (hw.1 i q).1 hJ ha hk hu hv
      rw [if_neg (nI_ge q (by omega)), am_ck_t (am_ix_nI (show i < 9261 by omega) (by omega)), nI_clamp (by omega), (h.2.2.2.1 i q).1, w1, obs, nI_1, show Q.1 - i = (Q.1 - (i + 1)) + 1 by omega, m_fs]
      by_cases c : dgt (Q.2.1 i) a0 = v
      · rw [if_pos c, if_pos c]
        exact ⟨w, (if_neg ne10).trans (by show some (w 83 i, w) = _; rw [(w2.2.2.2.1 i q).1]; rfl), w2, w3⟩
      · rw [if_neg c, if_neg c]
        obtain ⟨y, y1, y2, y3⟩ := ih (i + 1) w w2 (by omega) (by omega)
        exact ⟨y, (if_pos rfl).trans y1, y2, fun a b z => (y3 a b z).trans (w3 a b z)⟩
    · rw [if_pos (nI_le (show Q.1 ≤ i by omega) (by omega)), show Q.1 - i = 0 by omega]
      exact ⟨u, rfl, h, fun _ _ _ => rfl⟩
theorem stp_lp {pz m st : Nat} {J Z : Nat → Nat} {Q : pQ} {u : am_U} (h : rC pz m st J Z Q u) (hw : p_wf m Z Q) : ∀ (f i c : Nat), i < Q.1 → c + Q.2.2.2 i < 9261 → Q.2.2.2 i < f → f_X6_steps_4 u pz f (nI c) (nI i) = some (nI (c + Q.2.2.2 i)) := by
  have hn := wf_n hw
  intro f
  induction f with
  | zero => intro i c _ _ h; omega
  | succ f ih =>
    intro i c hi hc hf
    rw [f_X6_steps_4]
    cases i with
    | zero => rw [if_pos (show nI 0 ≤ (0 : Int32) by decide), hw.2.2.1]; rfl
    | succ i =>
      obtain ⟨g1, g2, g3, g4, g5⟩ := hw.1 (i + 1) hi
      obtain ⟨g6, g7⟩ := g5 (by omega)
      rw [if_neg (nI_nle (by omega) (by omega)), if_neg (show ¬ (9261 : Int32) ≤ nI c from nI_ge (b := 9261) (by omega) (by omega)), am_ck_t (am_ix_nI (show i + 1 < 9261 by omega) (by omega)), nI_clamp (by omega), (h.2.2.2.2.1 (i + 1) hi).2, show nI (Q.2.2.1 (i + 1)) / 36 = nI (Q.2.2.1 (i + 1) / 36) from pk_div (d := 36) (by omega) (by omega) (by omega), nI_1]
      show f_X6_steps_4 u pz f (nI (c + 1)) (nI (Q.2.2.1 (i + 1) / 36)) = _
      rw [ih _ (c + 1) (by omega) (by omega) (by omega), g7, show c + 1 + Q.2.2.2 (Q.2.2.1 (i + 1) / 36) = c + (Q.2.2.2 (Q.2.2.1 (i + 1) / 36) + 1) by omega]
theorem stp_eq {pz m st j : Nat} {J Z : Nat → Nat} {Q : pQ} {u : am_U} (h : rC pz m st J Z Q u) (hw : p_wf m Z Q) (hj : j < Q.1) : f_X6_steps pz (nI j) u = some (nI (Q.2.2.2 j)) := by
  have hn := wf_n hw
  have hd := (hw.1 j hj).2.2.2.1
  have := stp_lp h hw 20000 j 0 hj (by omega) (by omega)
  rw [Nat.zero_add] at this
  exact this
def m_to (S : Nat) : Nat := dgt S 0 + dgt S 1 + dgt S 2
theorem to_le (S : Nat) : m_to S ≤ 60 := by
  have := dgt_le S 0
  have := dgt_le S 1
  have := dgt_le S 2
  unfold m_to; omega
theorem tot_eq {S : Nat} (hS : S < 9261) (u : am_U) : f_X6_total (nI S) u = some (nI (m_to S)) := by
  unfold f_X6_total
  rw [show f_X6_held (nI S) 0 u = some (nI (dgt S 0)) from held_eq (a := 0) hS (by omega) u, obs, show f_X6_held (nI S) 1 u = some (nI (dgt S 1)) from held_eq (a := 1) hS (by omega) u, obs, show f_X6_held (nI S) 2 u = some (nI (dgt S 2)) from held_eq (a := 2) hS (by omega) u, obs, nI_add, nI_add]; rfl
theorem spl_eq {pz m st j : Nat} {J Z : Nat → Nat} {Q : pQ} {u : am_U} (h : rC pz m st J Z Q u) (hw : p_wf m Z Q) (hj : j < Q.1) : f_X6_spilt pz (nI j) u = some (nI (m_to (Q.2.1 0)) - nI (m_to (Q.2.1 j))) := by
  have hn := wf_n hw
  unfold f_X6_spilt
  rw [(h.2.2.2.2.1 0 hw.2.2.2).1, tot_eq (hw.1 0 hw.2.2.2).1, obs, am_ck_t (am_ix_nI (show j < 9261 by omega) (by omega)), nI_clamp (by omega), (h.2.2.2.2.1 j hj).1, tot_eq (hw.1 j hj).1, obs]
theorem sum_eq {m j : Nat} {J Z : Nat → Nat} {Q : pQ} {u : am_U} (hm : m ≤ 3) (hm0 : 0 < m) (h : rM m J Z Q u) (hw : p_wf m Z Q) (hj : j < Q.1) : ∃ w, f_X11_sumOf (nI (Q.2.1 j)) u = some (nI (m_to (Q.2.1 j)), w) ∧ rM m J Z Q w ∧ ∀ a b, a ≠ 81 → w a b = u a b := by
  obtain ⟨g1, g2, -⟩ := hw.1 j hj
  obtain ⟨w, w1, w2, w3⟩ := look_eq (u := u) hm g1 h.1
  have hr := rM_81 h w3
  refine ⟨w, ?_, hr, w3⟩
  unfold f_X11_sumOf m_to
  rw [w1, obs]
  have z1 := g2 1 (by omega)
  have z2 := g2 2 (by omega)
  rcases (show m = 1 ∨ m = 2 ∨ m = 3 by omega) with rfl | rfl | rfl
  · rw [f_X11_sumOf_9, hr.1, if_neg (by decide), am_ck_t (by decide), show (0 : Int32).toNatClampNeg = 0 from rfl, w2 0 (by omega), f_X11_sumOf_9, hr.1, if_pos (by decide), show (0 : Int32) = nI 0 from rfl, nI_add]
    rw [if_neg (by omega)] at z1 z2
    rw [show 0 + dgt (Q.2.1 j) 0 = dgt (Q.2.1 j) 0 + dgt (Q.2.1 j) 1 + dgt (Q.2.1 j) 2 by omega]
  · rw [f_X11_sumOf_9, hr.1, if_neg (by decide), am_ck_t (by decide), show (0 : Int32).toNatClampNeg = 0 from rfl, w2 0 (by omega), f_X11_sumOf_9, hr.1, if_neg (by decide), am_ck_t (by decide), show ((0 : Int32) + 1).toNatClampNeg = 1 from rfl, w2 1 (by omega), f_X11_sumOf_9, hr.1, if_pos (by decide), show (0 : Int32) = nI 0 from rfl, nI_add, nI_add]
    rw [if_neg (by omega)] at z2
    rw [show 0 + dgt (Q.2.1 j) 0 + dgt (Q.2.1 j) 1 = dgt (Q.2.1 j) 0 + dgt (Q.2.1 j) 1 + dgt (Q.2.1 j) 2 by omega]
  · rw [f_X11_sumOf_9, hr.1, if_neg (by decide), am_ck_t (by decide), show (0 : Int32).toNatClampNeg = 0 from rfl, w2 0 (by omega), f_X11_sumOf_9, hr.1, if_neg (by decide), am_ck_t (by decide), show ((0 : Int32) + 1).toNatClampNeg = 1 from rfl, w2 1 (by omega), f_X11_sumOf_9, hr.1, if_neg (by decide), am_ck_t (by decide), show ((0 : Int32) + 1 + 1).toNatClampNeg = 2 from rfl, w2 2 (by omega), f_X11_sumOf_9, hr.1, if_pos (by decide), show (0 : Int32) = nI 0 from rfl, nI_add, nI_add, nI_add, Nat.zero_add]
/-! the most in a jar -/
def m_mo (Q : pQ) (a0 : Nat) : Nat → Nat → Nat → Nat
  | 0, _, v => v
  | k + 1, i, v => m_mo Q a0 k (i + 1) (if v < dgt (Q.2.1 i) a0 then dgt (Q.2.1 i) a0 else v)
theorem cmo_lp {pz m st a0 : Nat} {J Z : Nat → Nat} {Q : pQ} {u : am_U} (h : rC pz m st J Z Q u) (hw : p_wf m Z Q) (ha : a0 < 3) : ∀ (f i v : Nat), v ≤ 20 → i ≤ Q.1 → Q.1 < i + f → f_X6_mostIn_11 u pz (nI a0) f (nI v) (nI i) = some (nI (m_mo Q a0 (Q.1 - i) i v)) := by
  have hn := wf_n hw
  intro f
  induction f with
  | zero => intro i v _ h1 h2; omega
  | succ f ih =>
    intro i v hv h1 h2
    rw [f_X6_mostIn_11, h.2.2.1]
    rcases Nat.lt_or_ge i Q.1 with q | q
    · have hd := dgt_le (Q.2.1 i) a0
      rw [if_neg (nI_ge q (by omega)), am_ck_t (am_ix_nI (show i < 9261 by omega) (by omega)), nI_clamp (by omega), (h.2.2.2.2.1 i q).1, held_eq (hw.1 i q).1 ha, obs, max_c (by omega) (by omega), obs, nI_1, show Q.1 - i = (Q.1 - (i + 1)) + 1 by omega, m_mo]
      exact ih (i + 1) _ (by split <;> omega) (by omega) (by omega)
    · rw [if_pos (nI_le (show Q.1 ≤ i by omega) (by omega)), show Q.1 - i = 0 by omega]; rfl
theorem mo41_lp {m k0 a0 S : Nat} {J : Nat → Nat} {u : am_U} (hm : m ≤ 3) (h32 : u 60 32 = nI m) (h80 : ∀ a, a < m → u 80 a = nI (J a)) (h81 : ∀ a, a < m → u 81 a = nI (dgt S a)) (hJ : ∀ a, a < m → J a < 6) (ha : a0 < m) (hk : J a0 = k0) (hu : ∀ a, a < m → J a = k0 → a = a0) (v4 : Int32) (K : Int32 → Option (Int32 × am_U)) : ∀ (f i v : Nat), v ≤ 20 → i ≤ m → m < i + f → f_X11_most_41 u (nI k0) v4 K f (nI v) (nI i) = K (nI (if i ≤ a0 ∧ v < dgt S a0 then dgt S a0 else v)) := by
  intro f
  induction f with
  | zero => intro i v _ h1 h2; omega
  | succ f ih =>
    intro i v hv h1 h2
    rw [f_X11_most_41, h32]
    rcases Nat.lt_or_ge i m with q | q
    · have hji := hJ i q
      have hk6 := hJ a0 ha
      have hd := dgt_le S i
      rw [if_neg (nI_ge q (by omega)), nI_1, am_ck_t (am_ix_nI (show i < 6 by omega) (by omega)), am_ck_t (am_ix_nI (show i < 3 by omega) (by omega)), nI_clamp (by omega), h80 i q, h81 i q]
      by_cases c : i = a0
      · subst c
        rw [if_neg (fun z => z (by rw [hk])), max_m (by omega) (by omega), obs, ih (i + 1) _ (by split <;> omega) (by omega) (by omega), if_neg (by omega)]
        by_cases c2 : v < dgt S i
        · rw [if_pos c2, if_pos ⟨Nat.le_refl i, c2⟩]
        · rw [if_neg c2, if_neg (fun z => c2 z.2)]
      · rw [if_pos (fun z => c (hu i q ((nI_eq (by omega) (by omega)).mp z))), ih (i + 1) v hv (by omega) (by omega)]
        by_cases c2 : i + 1 ≤ a0 ∧ v < dgt S a0
        · rw [if_pos c2, if_pos (by omega)]
        · rw [if_neg c2, if_neg (by omega)]
    · rw [if_pos (nI_le (show m ≤ i by omega) (by omega)), if_neg (by omega)]
theorem mmo_lp {m k0 a0 : Nat} {J Z : Nat → Nat} {Q : pQ} (hm : m ≤ 3) (hw : p_wf m Z Q) (hJ : ∀ a, a < m → J a < 6) (ha : a0 < m) (hk : J a0 = k0) (hu : ∀ a, a < m → J a = k0 → a = a0) (K : Int32 → am_U → Option (Int32 × am_U)) : ∀ (f i v : Nat) (u : am_U), v ≤ 20 → rM m J Z Q u → i ≤ Q.1 → Q.1 < i + f → ∃ w, f_X11_most_18 (nI k0) K f (nI v) (nI i) u = K (nI (m_mo Q a0 (Q.1 - i) i v)) w ∧ rM m J Z Q w ∧ ∀ a b, a ≠ 81 → w a b = u a b := by
  have hn := wf_n hw
  intro f
  induction f with
  | zero => intro i v u _ _ h1 h2; omega
  | succ f ih =>
    intro i v u hv h h1 h2
    rw [f_X11_most_18, h.2.1]
    rcases Nat.lt_or_ge i Q.1 with q | q
    · have hd := dgt_le (Q.2.1 i) a0
      obtain ⟨w, w1, w2, w3⟩ := look_eq (u := u) hm (hw.1 i q).1 h.1
      have hr := rM_81 h w3
      obtain ⟨y, y1, y2, y3⟩ := ih (i + 1) (if v < dgt (Q.2.1 i) a0 then dgt (Q.2.1 i) a0 else v) w (by split <;> omega) hr (by omega) (by omega)
      refine ⟨y, ?_, ?_, fun a b z => (y3 a b z).trans (w3 a b z)⟩
      · rw [if_neg (nI_ge q (by omega)), am_ck_t (am_ix_nI (show i < 9261 by omega) (by omega)), nI_clamp (by omega), (h.2.2.2.1 i q).1, w1, obs]
        refine (mo41_lp hm hr.1 (fun a ha => (hr.2.2.1 a ha).1) w2 hJ ha hk hu _ _ 20000 0 v hv (by omega) (by omega)).trans ?_
        rw [nI_1, show Q.1 - i = (Q.1 - (i + 1)) + 1 by omega, m_mo, show (if 0 ≤ a0 ∧ v < dgt (Q.2.1 i) a0 then dgt (Q.2.1 i) a0 else v) = (if v < dgt (Q.2.1 i) a0 then dgt (Q.2.1 i) a0 else v) from by
          by_cases c : v < dgt (Q.2.1 i) a0
          · rw [if_pos c, if_pos ⟨Nat.zero_le _, c⟩]
          · rw [if_neg c, if_neg (fun z => c z.2)]]
        exact y1
      · exact y2
    · rw [if_pos (nI_le (show Q.1 ≤ i by omega) (by omega)), show Q.1 - i = 0 by omega]
      exact ⟨u, rfl, h, fun _ _ _ => rfl⟩
/-! the least loss -/
def m_ll (Q : pQ) (a0 v : Nat) : Nat → Nat → Int32 → Int32
  | 0, _, x => x
  | k + 1, i, x => m_ll Q a0 v k (i + 1) (if dgt (Q.2.1 i) a0 = v then (if x = -9 then nI (m_to (Q.2.1 0)) - nI (m_to (Q.2.1 i)) else if x ≤ nI (m_to (Q.2.1 0)) - nI (m_to (Q.2.1 i)) then x else nI (m_to (Q.2.1 0)) - nI (m_to (Q.2.1 i))) else x)
theorem cll_lp {pz m st a0 v : Nat} {J Z : Nat → Nat} {Q : pQ} {u : am_U} (h : rC pz m st J Z Q u) (hw : p_wf m Z Q) (ha : a0 < 3) (hv : v ≤ 20) : ∀ (f i : Nat) (x : Int32), i ≤ Q.1 → Q.1 < i + f → f_X6_leastSpilt_13 u pz (nI v) (nI a0) f x (nI i) = some (m_ll Q a0 v (Q.1 - i) i x) := by
  have hn := wf_n hw
  intro f
  induction f with
  | zero => intro i x h1 h2; omega
  | succ f ih =>
    intro i x h1 h2
    rw [f_X6_leastSpilt_13, h.2.2.1]
    rcases Nat.lt_or_ge i Q.1 with q | q
    · have hd := dgt_le (Q.2.1 i) a0
      rw [if_neg (nI_ge q (by omega)), am_ck_t (am_ix_nI (show i < 9261 by omega) (by omega)), nI_clamp (by omega), (h.2.2.2.2.1 i q).1, held_eq (hw.1 i q).1 ha, obs, nI_1, show Q.1 - i = (Q.1 - (i + 1)) + 1 by omega, m_ll]
      by_cases c : dgt (Q.2.1 i) a0 = v
      · rw [if_pos c, if_neg (fun z => z (by rw [c])), jn_eq, spl_eq h hw q, obs, obs]
        by_cases c2 : x = -9
        · rw [if_pos c2, if_pos c2]; exact ih (i + 1) _ (by omega) (by omega)
        · rw [if_neg c2, if_neg c2]
          by_cases c3 : x ≤ nI (m_to (Q.2.1 0)) - nI (m_to (Q.2.1 i))
          · rw [if_pos c3, if_pos c3]; exact ih (i + 1) _ (by omega) (by omega)
          · rw [if_neg c3, if_neg c3]; exact ih (i + 1) _ (by omega) (by omega)
      · rw [if_neg c, if_pos (fun z => c ((nI_eq (by omega) (by omega)).mp z))]
        exact ih (i + 1) x (by omega) (by omega)
    · rw [if_pos (nI_le (show Q.1 ≤ i by omega) (by omega)), show Q.1 - i = 0 by omega]; rfl
theorem mll_lp {m k0 a0 v : Nat} {J Z : Nat → Nat} {Q : pQ} (hm : m ≤ 3) (hm0 : 0 < m) (hw : p_wf m Z Q) (hJ : ∀ a, a < m → J a < 6) (ha : a0 < m) (hk : J a0 = k0) (hu : ∀ a, a < m → J a = k0 → a = a0) (hv : v ≤ 20) : ∀ (f i : Nat) (x : Int32) (u : am_U), rM m J Z Q u → i ≤ Q.1 → Q.1 < i + f → ∃ w, f_X11_loss_38 (nI k0) (nI v) (nI (m_to (Q.2.1 0))) f x (nI i) u = some (m_ll Q a0 v (Q.1 - i) i x, w) ∧ rM m J Z Q w ∧ ∀ a b, a ≠ 81 → w a b = u a b := by
  have hn := wf_n hw
  intro f
  induction f with
  | zero => intro i x u _ h1 h2; omega
  | succ f ih =>
    intro i x u h h1 h2
    rw [f_X11_loss_38, h.2.1]
    rcases Nat.lt_or_ge i Q.1 with q | q
    · obtain ⟨w, w1, w2, w3⟩ := holds_eq (S := Q.2.1 i) hm h (hw.1 i q).1 hJ ha hk hu hv
      rw [if_neg (nI_ge q (by omega)), am_ck_t (am_ix_nI (show i < 9261 by omega) (by omega)), nI_clamp (by omega), (h.2.2.2.1 i q).1, w1, obs, nI_1, show Q.1 - i = (Q.1 - (i + 1)) + 1 by omega, m_ll]
      by_cases c : dgt (Q.2.1 i) a0 = v
      · obtain ⟨y, y1, y2, y3⟩ := sum_eq (j := i) hm hm0 w2 hw q
        have fr : ∀ a b, a ≠ 81 → y a b = u a b := fun a b z => (y3 a b z).trans (w3 a b z)
        have step : ∀ x', ∃ z, f_X11_loss_38 (nI k0) (nI v) (nI (m_to (Q.2.1 0))) f x' (nI (i + 1)) y = some (m_ll Q a0 v (Q.1 - (i + 1)) (i + 1) x', z) ∧ rM m J Z Q z ∧ ∀ a b, a ≠ 81 → z a b = u a b := fun x' => by
          obtain ⟨z, z1, z2, z3⟩ := ih (i + 1) x' y y2 (by omega) (by omega)
          exact ⟨z, z1, z2, fun a b zz => (z3 a b zz).trans (fr a b zz)⟩
        have hE : (if ((if dgt (Q.2.1 i) a0 = v then (1 : Int32) else 0, w) : Int32 × am_U).1 = 0 then f_X11_loss_38 (nI k0) (nI v) (nI (m_to (Q.2.1 0))) f x (nI (i + 1)) w else (f_X11_sumOf (w 83 i) w).bind (fun q6 => am_jn (fun (j7z : Unit) => f_X11_loss_38 (nI k0) (nI v) (nI (m_to (Q.2.1 0))) f (nI (m_to (Q.2.1 0)) - q6.1) (nI (i + 1)) q6.2) (fun j7 => if x = -9 then j7 () else if x ≤ (nI (m_to (Q.2.1 0)) - q6.1) then f_X11_loss_38 (nI k0) (nI v) (nI (m_to (Q.2.1 0))) f x (nI (i + 1)) q6.2 else j7 ()))) = if x = -9 then f_X11_loss_38 (nI k0) (nI v) (nI (m_to (Q.2.1 0))) f (nI (m_to (Q.2.1 0)) - nI (m_to (Q.2.1 i))) (nI (i + 1)) y else if x ≤ nI (m_to (Q.2.1 0)) - nI (m_to (Q.2.1 i)) then f_X11_loss_38 (nI k0) (nI v) (nI (m_to (Q.2.1 0))) f x (nI (i + 1)) y else f_X11_loss_38 (nI k0) (nI v) (nI (m_to (Q.2.1 0))) f (nI (m_to (Q.2.1 0)) - nI (m_to (Q.2.1 i))) (nI (i + 1)) y := by
          rw [if_pos c]
          refine (if_neg ne10).trans ?_
          rw [(w2.2.2.2.1 i q).1, y1, obs, jn_eq]
        rw [if_pos c]
        rw [if_pos c] at hE
        by_cases c2 : x = -9
        · obtain ⟨z, z1, z2⟩ := step (nI (m_to (Q.2.1 0)) - nI (m_to (Q.2.1 i)))
          exact ⟨z, hE.trans ((if_pos c2).trans (by rw [if_pos c, if_pos c2]; exact z1)), z2⟩
        · by_cases c3 : x ≤ nI (m_to (Q.2.1 0)) - nI (m_to (Q.2.1 i))
          · obtain ⟨z, z1, z2⟩ := step x
            exact ⟨z, hE.trans ((if_neg c2).trans ((if_pos c3).trans (by rw [if_pos c, if_neg c2, if_pos c3]; exact z1))), z2⟩
          · obtain ⟨z, z1, z2⟩ := step (nI (m_to (Q.2.1 0)) - nI (m_to (Q.2.1 i)))
            exact ⟨z, hE.trans ((if_neg c2).trans ((if_neg c3).trans (by rw [if_pos c, if_neg c2, if_neg c3]; exact z1))), z2⟩
      · rw [if_neg c, if_neg c]
        obtain ⟨y, y1, y2, y3⟩ := ih (i + 1) x w w2 (by omega) (by omega)
        exact ⟨y, (if_pos rfl).trans y1, y2, fun a b z => (y3 a b z).trans (w3 a b z)⟩
    · rw [if_pos (nI_le (show Q.1 ≤ i by omega) (by omega)), show Q.1 - i = 0 by omega]
      exact ⟨u, rfl, h, fun _ _ _ => rfl⟩
