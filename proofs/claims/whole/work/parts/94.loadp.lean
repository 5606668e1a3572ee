/-! loads: the cheapest way by sets, valley by valley -/
abbrev l_bt (s k : Nat) : Prop := s / 2 ^ k % 2 = 1
def l_im (v p : Nat) (k : Nat) : Nat := if l_bt p k then v else 0
def l_ct (v : Nat) (E : Nat → Nat) (k : Nat) : Nat := if E k = v then 0 else E k
def l_in (v : Nat) (E : Nat → Nat) (k : Nat) : Nat := if E k = v then v else 0
theorem tl_0 {H : Nat → Nat → Int32} {D : Nat → Nat} {p : Nat} : ∀ n, (∀ k, k < n → D k ≠ p) → l_tl H D p n = 0 := by
  intro n
  induction n with
  | zero => intro _; rfl
  | succ n ih => intro h; rw [l_tl, ih (fun k hk => h k (by omega)), if_neg (h n (by omega))]; rfl
theorem tl_e {H : Nat → Nat → Int32} {D E : Nat → Nat} {p : Nat} : ∀ n, (∀ k, k < n → (D k = p ↔ E k = p)) → l_tl H D p n = l_tl H E p n := by
  intro n
  induction n with
  | zero => intro _; rfl
  | succ n ih =>
    intro h
    rw [l_tl, l_tl, ih (fun k hk => h k (by omega))]
    by_cases c : E n = p
    · rw [if_pos c, if_pos ((h n (by omega)).mpr c)]
    · rw [if_neg c, if_neg (fun z => c ((h n (by omega)).mp z))]
theorem ld_cut {v : Nat} {E : Nat → Nat} (hv : v ≠ 0) : ∀ n, l_ld E n = l_ld (l_ct v E) n + l_ld (l_in v E) n := by
  intro n
  induction n with
  | zero => rfl
  | succ n ih =>
    rw [l_ld, l_ld, l_ld, ih]
    unfold l_ct l_in
    by_cases c : E n = v
    · rw [if_pos c, if_pos c, if_pos rfl, if_neg hv, if_neg (by omega)]; omega
    · rw [if_neg c, if_neg c, if_pos (show (0 : Nat) = 0 from rfl)]; omega
theorem cd_cut {v : Nat} {E : Nat → Nat} : ∀ n, l_cd E n = l_cd (l_ct v E) n + l_cd (l_in v E) n := by
  intro n
  induction n with
  | zero => rfl
  | succ n ih =>
    rw [l_cd, l_cd, l_cd, ih]
    unfold l_ct l_in
    by_cases c : E n = v
    · rw [if_pos c, if_pos c]; omega
    · rw [if_neg c, if_neg c]; omega
theorem ld_pos {D : Nat → Nat} : ∀ n k, k < n → D k ≠ 0 → 1 ≤ l_ld D n := by
  intro n
  induction n with
  | zero => intro k hk; omega
  | succ n ih =>
    intro k hk h
    rw [l_ld]
    rcases Nat.lt_or_ge k n with q | q
    · have := ih k q h; omega
    · rw [show n = k by omega, if_neg h]; omega
theorem l1_0 {N T : Nat → Int32} {p : Nat} (h : T p = 0) : l_1 N T p = 0 := by
  unfold l_1
  by_cases c : N p ≤ 0
  · rw [if_pos c]
  · rw [if_neg c, h, if_pos (Int32.not_le.mp c)]
theorem l1_1 {N T : Nat → Int32} {p : Nat} : l_1 N T p = 1 ↔ ¬ N p ≤ 0 ∧ ¬ T p < N p := by
  unfold l_1
  by_cases c : N p ≤ 0
  · rw [if_pos c]; exact ⟨fun h => absurd h (by omega), fun h => absurd c h.1⟩
  · rw [if_neg c]
    by_cases d : T p < N p
    · rw [if_pos d]; exact ⟨fun h => absurd h (by omega), fun h => absurd d h.2⟩
    · rw [if_neg d]; exact ⟨fun _ => ⟨c, d⟩, fun _ => rfl⟩
theorem ls_up {N T S : Nat → Int32} {v : Nat} (h0 : 0 < v) (h5 : v < 5) (h : ∀ p, 0 < p → p < 5 → p ≠ v → T p = S p) : l_s N T 4 1 + l_1 N S v = l_s N S 4 1 + l_1 N T v := by
  rw [ls_4, ls_4]
  rcases (show v = 1 ∨ v = 2 ∨ v = 3 ∨ v = 4 by omega) with rfl | rfl | rfl | rfl
  · rw [l1_c (N := N) (h 2 (by omega) (by omega) (by omega)), l1_c (N := N) (h 3 (by omega) (by omega) (by omega)), l1_c (N := N) (h 4 (by omega) (by omega) (by omega))]; omega
  · rw [l1_c (N := N) (h 1 (by omega) (by omega) (by omega)), l1_c (N := N) (h 3 (by omega) (by omega) (by omega)), l1_c (N := N) (h 4 (by omega) (by omega) (by omega))]; omega
  · rw [l1_c (N := N) (h 1 (by omega) (by omega) (by omega)), l1_c (N := N) (h 2 (by omega) (by omega) (by omega)), l1_c (N := N) (h 4 (by omega) (by omega) (by omega))]; omega
  · rw [l1_c (N := N) (h 1 (by omega) (by omega) (by omega)), l1_c (N := N) (h 2 (by omega) (by omega) (by omega)), l1_c (N := N) (h 3 (by omega) (by omega) (by omega))]; omega
theorem ct_ne {H : Nat → Nat → Int32} {E : Nat → Nat} {v p : Nat} (n : Nat) (h0 : p ≠ 0) (h : p ≠ v) : l_tl H (l_ct v E) p n = l_tl H E p n := tl_e n (fun k _ => by
  unfold l_ct
  by_cases c : E k = v
  · rw [if_pos c]; exact ⟨fun z => absurd z.symm h0, fun z => absurd (z.symm.trans c) h⟩
  · rw [if_neg c])
theorem ct_eq {H : Nat → Nat → Int32} {E : Nat → Nat} {v : Nat} (n : Nat) (h0 : v ≠ 0) : l_tl H (l_ct v E) v n = 0 := tl_0 n (fun k _ => by
  unfold l_ct
  by_cases c : E k = v
  · rw [if_pos c]; exact h0.symm
  · rw [if_neg c]; exact c)
theorem in_tl {H : Nat → Nat → Int32} {E : Nat → Nat} {v : Nat} (n : Nat) (h0 : v ≠ 0) : l_tl H (l_in v E) v n = l_tl H E v n := tl_e n (fun k _ => by
  unfold l_in
  by_cases c : E k = v
  · rw [if_pos c]; exact ⟨fun _ => c, fun _ => rfl⟩
  · rw [if_neg c]; exact ⟨fun z => absurd z.symm h0, fun z => absurd z c⟩)
/-- each jar that is loaded helps -/
def l_gd (n : Nat) (H : Nat → Nat → Int32) (N : Nat → Int32) (D : Nat → Nat) : Prop := ∀ k, k < n → D k ≠ 0 → l_1 N (fun p => l_tl H D p n) (D k) = 1
theorem P_cut {n v : Nat} {H : Nat → Nat → Int32} {N : Nat → Int32} {E : Nat → Nat} (h0 : 0 < v) (h5 : v < 5) : l_P n H N E = l_P n H N (l_ct v E) + (15625 * (l_ld (l_in v E) n : Int) + (l_cd (l_in v E) n : Int) - 1000000 * (l_1 N (fun p => l_tl H E p n) v : Int)) := by
  have h1 := ls_up (N := N) (T := fun p => l_tl H E p n) (S := fun p => l_tl H (l_ct v E) p n) h0 h5 (fun p z0 _ z => (ct_ne n (by omega) z).symm)
  rw [l1_0 (N := N) (T := fun p => l_tl H (l_ct v E) p n) (p := v) (ct_eq n (by omega))] at h1
  have h2 := ld_cut (v := v) (E := E) (by omega) n
  have h3 := cd_cut (v := v) (E := E) n
  unfold l_P
  rw [h2, h3]
  omega
theorem opt_gd {n : Nat} {H : Nat → Nat → Int32} {N : Nat → Int32} {E : Nat → Nat} (h4 : ∀ j, E j ≤ 4) (hm : ∀ D : Nat → Nat, (∀ j, D j ≤ 4) → l_P n H N E ≤ l_P n H N D) : l_gd n H N E := fun k hk h => by
  have h1 := P_cut (n := n) (H := H) (N := N) (E := E) (v := E k) (by omega) (by have := h4 k; omega)
  have h2 := hm (l_ct (E k) E) (fun j => by unfold l_ct; split; (· omega); (· exact h4 j))
  have h3 := ld_pos (D := l_in (E k) E) n k hk (by unfold l_in; rw [if_pos rfl]; exact h)
  have h5 := l1_le N (fun p => l_tl H E p n) (E k)
  omega
theorem gd_ct {n v : Nat} {H : Nat → Nat → Int32} {N : Nat → Int32} {E : Nat → Nat} (h : l_gd n H N E) : l_gd n H N (l_ct v E) := fun k hk hne => by
  have h1 : l_ct v E k = if E k = v then 0 else E k := rfl
  by_cases c : E k = v
  · rw [if_pos c] at h1; exact absurd h1 hne
  · rw [if_neg c] at h1
    rw [h1] at hne ⊢
    have h2 := h k hk hne
    rw [← h2]
    exact l1_c (ct_ne n hne c)
theorem gd_up {n v : Nat} {H : Nat → Nat → Int32} {N : Nat → Int32} {E : Nat → Nat} (h : l_gd n H N (l_ct v E)) (hl : l_1 N (fun p => l_tl H E p n) v = 1) : l_gd n H N E := fun k hk hne => by
  by_cases c : E k = v
  · rw [c]; exact hl
  · have h1 : l_ct v E k = E k := if_neg c
    have h2 := h k hk (by rw [h1]; exact hne)
    rw [h1] at h2
    rw [← h2]
    exact l1_c (ct_ne n hne c).symm
theorem bt_c : ∀ s, s < 64 → ∀ p, p < 64 → (p &&& s = p ↔ ∀ k, k < 6 → l_bt p k → l_bt s k) := by decide +kernel
theorem bt_x1 : ∀ s, s < 64 → ∀ p, p < 64 → p &&& s = p → s ^^^ p ≤ s ∧ (0 < p → s ^^^ p < s) := by decide +kernel
theorem bt_x3 : ∀ k, k < 6 → ∀ s, s < 64 → ∀ p, p < 64 → p &&& s = p → (s ^^^ p) / 2 ^ k % 2 + p / 2 ^ k % 2 = s / 2 ^ k % 2 := by decide +kernel
theorem bt_x2 (k : Nat) (hk : k < 6) (s : Nat) (hs : s < 64) (p : Nat) (hp : p < 64) (h : p &&& s = p) : l_bt (s ^^^ p) k ↔ l_bt s k ∧ ¬ l_bt p k := by
  have h1 := bt_x3 k hk s hs p hp h
  unfold l_bt
  generalize (s ^^^ p) / 2 ^ k = a at h1 ⊢
  generalize p / 2 ^ k = b at h1 ⊢
  generalize s / 2 ^ k = c at h1 ⊢
  omega
theorem bt_x (s : Nat) (hs : s < 64) (p : Nat) (hp : p < 64) (h : p &&& s = p) : s ^^^ p ≤ s ∧ (0 < p → s ^^^ p < s) ∧ ∀ k, k < 6 → (l_bt (s ^^^ p) k ↔ l_bt s k ∧ ¬ l_bt p k) := ⟨(bt_x1 s hs p hp h).1, (bt_x1 s hs p hp h).2, fun k hk => bt_x2 k hk s hs p hp h⟩
theorem bt_0 : ∀ s, s < 64 → (∀ k, k < 6 → ¬ l_bt s k) → s = 0 := by decide +kernel
theorem bt_m1 : ∀ s, s < 64 → ∀ p, p < 64 → p &&& s = p → 0 < p → (p - 1) &&& s < p ∧ ((p - 1) &&& s) &&& s = (p - 1) &&& s := by decide +kernel
theorem bt_m2 : ∀ s, s < 64 → ∀ p, p < 64 → (¬ p &&& s = p ∨ ∀ x, x < p → (x &&& s = x → x ≤ (p - 1) &&& s)) := by decide +kernel
theorem bt_m (s : Nat) (hs : s < 64) (p : Nat) (hp : p < 64) (h : p &&& s = p) (h0 : 0 < p) : (p - 1) &&& s < p ∧ ((p - 1) &&& s) &&& s = (p - 1) &&& s ∧ ∀ x, x < p → x &&& s = x → x ≤ (p - 1) &&& s := ⟨(bt_m1 s hs p hp h h0).1, (bt_m1 s hs p hp h h0).2, (bt_m2 s hs p hp).elim (fun z => absurd h z) id⟩
theorem bt_n {s n k : Nat} (h : s < 2 ^ n) (hk : n ≤ k) : ¬ l_bt s k := by
  unfold l_bt
  rw [Nat.div_eq_of_lt (Nat.lt_of_lt_of_le h (Nat.pow_le_pow_right (by omega) hk))]
  omega
theorem bt_ex {n : Nat} (hn : n ≤ 6) (F : Nat → Nat) (hF : ∀ k, F k ≤ 1) : ∃ s, s < 2 ^ n ∧ ∀ k, k < n → (l_bt s k ↔ F k = 1) := by
  have f0 := hF 0
  have f1 := hF 1
  have f2 := hF 2
  have f3 := hF 3
  have f4 := hF 4
  have f5 := hF 5
  unfold l_bt
  rcases (show n = 0 ∨ n = 1 ∨ n = 2 ∨ n = 3 ∨ n = 4 ∨ n = 5 ∨ n = 6 by omega) with rfl | rfl | rfl | rfl | rfl | rfl | rfl
  · exact ⟨0, by omega, fun k hk => by omega⟩
  · refine ⟨F 0, by omega, fun k hk => ?_⟩
    rcases (show k = 0 by omega) with rfl
    omega
  · refine ⟨F 0 + 2 * F 1, by omega, fun k hk => ?_⟩
    rcases (show k = 0 ∨ k = 1 by omega) with rfl | rfl <;> omega
  · refine ⟨F 0 + 2 * F 1 + 4 * F 2, by omega, fun k hk => ?_⟩
    rcases (show k = 0 ∨ k = 1 ∨ k = 2 by omega) with rfl | rfl | rfl <;> omega
  · refine ⟨F 0 + 2 * F 1 + 4 * F 2 + 8 * F 3, by omega, fun k hk => ?_⟩
    rcases (show k = 0 ∨ k = 1 ∨ k = 2 ∨ k = 3 by omega) with rfl | rfl | rfl | rfl <;> omega
  · refine ⟨F 0 + 2 * F 1 + 4 * F 2 + 8 * F 3 + 16 * F 4, by omega, fun k hk => ?_⟩
    rcases (show k = 0 ∨ k = 1 ∨ k = 2 ∨ k = 3 ∨ k = 4 by omega) with rfl | rfl | rfl | rfl | rfl <;> omega
  · refine ⟨F 0 + 2 * F 1 + 4 * F 2 + 8 * F 3 + 16 * F 4 + 32 * F 5, by omega, fun k hk => ?_⟩
    rcases (show k = 0 ∨ k = 1 ∨ k = 2 ∨ k = 3 ∨ k = 4 ∨ k = 5 by omega) with rfl | rfl | rfl | rfl | rfl | rfl <;> omega
/-- what stands after the valleys before v -/
def l_DP (n v : Nat) (H : Nat → Nat → Int32) (N : Nat → Int32) (c : Nat → Int) : Prop := ∀ s, s < 2 ^ n → c s ≤ 1000000000 ∧ (1000000000 - 1000000 * (v : Int) ≤ c s ∨ ∃ D : Nat → Nat, (∀ k, k < n → D k < v) ∧ l_gd n H N D ∧ (∀ k, k < n → (D k ≠ 0 ↔ l_bt s k)) ∧ c s = l_P n H N D) ∧ ∀ D : Nat → Nat, (∀ k, k < n → D k < v) → l_gd n H N D → (∀ k, k < n → (D k ≠ 0 ↔ l_bt s k)) → c s ≤ l_P n H N D
/-- what a part costs that lights v -/
def l_L (n v : Nat) (H : Nat → Nat → Int32) (N : Nat → Int32) (p : Nat) : Int := if l_tl H (l_im v p) v n < N v then 1000000000 else 15625 * (l_ld (l_im v p) n : Int) + (l_cd (l_im v p) n : Int) - 1000000
/-- what one set comes to -/
def l_R (c L : Nat → Int) (s : Nat) (r : Int) : Prop := r ≤ c s ∧ (∀ x, 0 < x → x ≤ s → x &&& s = x → L x < 1000000000 → r ≤ c (s ^^^ x) + L x) ∧ (r = c s ∨ ∃ x, 0 < x ∧ x ≤ s ∧ x &&& s = x ∧ L x < 1000000000 ∧ r = c (s ^^^ x) + L x)
theorem DP_0 {n : Nat} {H : Nat → Nat → Int32} {N : Nat → Int32} (hn : n ≤ 6) : l_DP n 1 H N (fun s => if s = 0 then 0 else 1000000000) := fun s hs => by
  have hpw := pow_le hn
  have hP0 : ∀ D : Nat → Nat, (∀ k, k < n → D k = 0) → l_P n H N D = 0 := fun D hD => by
    rw [P_c (E := fun _ => 0) hD]
    have h1 : ∀ m, l_ld (fun _ => 0) m = 0 := fun m => by induction m with
      | zero => rfl
      | succ m ih => rw [l_ld, ih]; rfl
    have h2 : ∀ m, l_cd (fun _ => 0) m = 0 := fun m => by induction m with
      | zero => rfl
      | succ m ih => rw [l_cd, ih]
    unfold l_P
    rw [h1, h2, ls_4, l1_0 (p := 1) (tl_0 n (fun _ _ => by omega)), l1_0 (p := 2) (tl_0 n (fun _ _ => by omega)), l1_0 (p := 3) (tl_0 n (fun _ _ => by omega)), l1_0 (p := 4) (tl_0 n (fun _ _ => by omega))]
    rfl
  by_cases c : s = 0
  · subst c
    have hb : ∀ k, ¬ l_bt 0 k := fun k => by unfold l_bt; rw [Nat.zero_div]; omega
    refine ⟨by show (if 0 = 0 then (0 : Int) else _) ≤ _; rw [if_pos rfl]; omega, Or.inr ⟨fun _ => 0, fun _ _ => Nat.one_pos, fun k _ h => absurd rfl h, fun k _ => ⟨fun h => absurd rfl h, fun h => absurd h (hb k)⟩, ?_⟩, fun D h1 _ _ => ?_⟩
    · rw [hP0 _ (fun _ _ => rfl)]; exact if_pos rfl
    · rw [hP0 D (fun k hk => by have := h1 k hk; omega)]; exact Int.le_of_eq (if_pos rfl)
  · refine ⟨by show (if s = 0 then (0 : Int) else _) ≤ _; rw [if_neg c]; omega, Or.inl (by show _ ≤ (if s = 0 then (0 : Int) else _); rw [if_neg c]; omega), fun D h1 _ h3 => absurd (bt_0 s (by omega) (fun k hk => ?_)) c⟩
    rcases Nat.lt_or_ge k n with q | q
    · intro z
      have := (h3 k q).mpr z
      have := h1 k q
      omega
    · exact bt_n hs q
theorem DP_s {n v : Nat} {H : Nat → Nat → Int32} {N : Nat → Int32} {c : Nat → Int} (h : l_DP n v H N c) (hN : N v ≤ 0) (hv : 0 < v) : l_DP n (v + 1) H N c := fun s hs => by
  obtain ⟨h1, h2, h3⟩ := h s hs
  refine ⟨h1, ?_, fun D d1 d2 d3 => h3 D (fun k hk => ?_) d2 d3⟩
  · rcases h2 with z | ⟨D, d1, d2⟩
    · exact Or.inl (by omega)
    · exact Or.inr ⟨D, fun k hk => by have := d1 k hk; omega, d2⟩
  · have := d1 k hk
    rcases Nat.lt_or_ge (D k) v with q | q
    · exact q
    · have hk2 : D k = v := by omega
      have := d2 k hk (by omega)
      rw [hk2] at this
      exact absurd hN (l1_1.mp this).1
theorem DP_v {n v : Nat} {H : Nat → Nat → Int32} {N : Nat → Int32} {c c' : Nat → Int} (hn : n ≤ 6) (hv : 0 < v) (hv5 : v < 5) (h : l_DP n v H N c) (hN : ¬ N v ≤ 0) (h0 : c' 0 = c 0) (hR : ∀ s, 0 < s → s < 2 ^ n → l_R c (l_L n v H N) s (c' s)) : l_DP n (v + 1) H N c' := fun s hs => by
  have hpw := pow_le hn
  obtain ⟨h1, h2, h3⟩ := h s hs
  have old : ∀ x, c' s = x → x = c s → c' s ≤ 1000000000 ∧ (1000000000 - 1000000 * ((v + 1 : Nat) : Int) ≤ c' s ∨ ∃ D : Nat → Nat, (∀ k, k < n → D k < v + 1) ∧ l_gd n H N D ∧ (∀ k, k < n → (D k ≠ 0 ↔ l_bt s k)) ∧ c' s = l_P n H N D) := fun x e1 e2 => by
    rw [e1, e2]
    refine ⟨h1, ?_⟩
    rcases h2 with z | ⟨D, d1, d2⟩
    · exact Or.inl (by omega)
    · exact Or.inr ⟨D, fun k hk => by have := d1 k hk; omega, d2⟩
  have both : (c' s ≤ 1000000000 ∧ (1000000000 - 1000000 * ((v + 1 : Nat) : Int) ≤ c' s ∨ ∃ D : Nat → Nat, (∀ k, k < n → D k < v + 1) ∧ l_gd n H N D ∧ (∀ k, k < n → (D k ≠ 0 ↔ l_bt s k)) ∧ c' s = l_P n H N D)) := by
    by_cases s0 : s = 0
    · subst s0
      exact old _ h0 rfl
    · obtain ⟨r1, r2, r3⟩ := hR s (by omega) hs
      rcases r3 with z | ⟨x, x0, xs, x1, x2, x3⟩
      · exact old _ z rfl
      · obtain ⟨b1, b2, b3⟩ := bt_x s (by omega) x (by omega) x1
        have b4 := b2 x0
        obtain ⟨g1, g2, g3⟩ := h (s ^^^ x) (by omega)
        have hLx : l_L n v H N x = 15625 * (l_ld (l_im v x) n : Int) + (l_cd (l_im v x) n : Int) - 1000000 ∧ ¬ l_tl H (l_im v x) v n < N v := by
          unfold l_L at x2 ⊢
          by_cases z : l_tl H (l_im v x) v n < N v
          · rw [if_pos z] at x2; omega
          · rw [if_neg z]; exact ⟨rfl, z⟩
        refine ⟨by omega, ?_⟩
        rcases g2 with z | ⟨D, d1, d2, d3, d4⟩
        · exact Or.inl (by omega)
        · right
          have hbs : ∀ k, k < n → (l_bt x k → l_bt s k) := fun k hk => (bt_c s (by omega) x (by omega)).mp x1 k (by omega)
          obtain ⟨E, hE⟩ : ∃ E : Nat → Nat, ∀ k, E k = if l_bt x k then v else D k := ⟨_, fun _ => rfl⟩
          have hct : ∀ k, k < n → l_ct v E k = D k := fun k hk => by
            unfold l_ct
            have := d1 k hk
            rw [hE]
            by_cases z : l_bt x k
            · rw [if_pos z, if_pos rfl]
              by_cases y : D k = 0
              · exact y.symm
              · exact absurd z ((b3 k (by omega)).mp ((d3 k hk).mp y)).2
            · rw [if_neg z, if_neg (by omega)]
          have hin : ∀ k, k < n → l_in v E k = l_im v x k := fun k hk => by
            unfold l_in l_im
            have := d1 k hk
            rw [hE]
            by_cases z : l_bt x k
            · rw [if_pos z, if_pos rfl, if_pos z]
            · rw [if_neg z, if_neg (by omega), if_neg z]
          have hl : l_1 N (fun p => l_tl H E p n) v = 1 := l1_1.mpr ⟨hN, by
            show ¬ l_tl H E v n < N v
            rw [← in_tl n (by omega), tl_c n hin]; exact hLx.2⟩
          have hgc : l_gd n H N (l_ct v E) := fun k hk hne => by
            rw [hct k hk] at hne ⊢
            rw [← d2 k hk hne]
            exact l1_c (tl_c n hct)
          refine ⟨E, fun k hk => ?_, gd_up hgc hl, fun k hk => ?_, ?_⟩
          · rw [hE]
            have := d1 k hk
            split <;> omega
          · rw [hE]
            by_cases z : l_bt x k
            · rw [if_pos z]; exact ⟨fun _ => hbs k hk z, fun _ => by omega⟩
            · rw [if_neg z, d3 k hk, b3 k (by omega)]; exact ⟨fun y => y.1, fun y => ⟨y, z⟩⟩
          · rw [x3, hLx.1, P_cut hv hv5, hl, P_c hct, ld_c n hin, cd_c n hin, d4]
            omega
  refine ⟨both.1, both.2, fun E e1 e2 e3 => ?_⟩
  obtain ⟨x, x1, x2⟩ := bt_ex hn (fun k => if E k = v then 1 else 0) (fun k => by split <;> omega)
  have x3 : ∀ k, k < n → (l_bt x k ↔ E k = v) := fun k hk => by
    rw [x2 k hk]
    by_cases z : E k = v
    · rw [if_pos z]; exact ⟨fun _ => z, fun _ => rfl⟩
    · rw [if_neg z]; exact ⟨fun y => absurd y (by omega), fun y => absurd y z⟩
  have hle : c' s ≤ c s := by
    by_cases s0 : s = 0
    · subst s0; omega
    · exact (hR s (by omega) hs).1
  by_cases xz : x = 0
  · refine Int.le_trans hle (h3 E (fun k hk => ?_) e2 e3)
    have := e1 k hk
    rcases Nat.lt_or_ge (E k) v with q | q
    · exact q
    · have hb := (x3 k hk).mpr (by omega)
      rw [xz] at hb
      unfold l_bt at hb
      rw [Nat.zero_div] at hb
      omega
  · have hsub : x &&& s = x := (bt_c s (by omega) x (by omega)).mpr (fun k hk z => by
      rcases Nat.lt_or_ge k n with q | q
      · have := (x3 k q).mp z
        exact (e3 k q).mp (by omega)
      · exact absurd z (bt_n x1 q))
    obtain ⟨b1, b2, b3⟩ := bt_x s (by omega) x (by omega) hsub
    have b4 := b2 (by omega)
    have hxs : x ≤ s := by rw [← hsub]; exact Nat.and_le_right
    obtain ⟨k0, hk0, hk0v⟩ : ∃ k, k < n ∧ E k = v := by
      apply Classical.byContradiction
      intro hno
      refine xz (bt_0 x (by omega) (fun k hk z => ?_))
      rcases Nat.lt_or_ge k n with q | q
      · exact hno ⟨k, q, (x3 k q).mp z⟩
      · exact absurd z (bt_n x1 q)
    have hl := e2 k0 hk0 (by omega)
    rw [hk0v] at hl
    have hin : ∀ k, k < n → l_in v E k = l_im v x k := fun k hk => by
      unfold l_in l_im
      by_cases z : E k = v
      · rw [if_pos z, if_pos ((x3 k hk).mpr z)]
      · rw [if_neg z, if_neg (fun y => z ((x3 k hk).mp y))]
    have hLx : l_L n v H N x = 15625 * (l_ld (l_im v x) n : Int) + (l_cd (l_im v x) n : Int) - 1000000 := by
      unfold l_L
      rw [if_neg]
      rw [← tl_c n hin, in_tl n (by omega)]
      exact (l1_1.mp hl).2
    have hcdb : l_cd (l_im v x) n < 5 ^ n := cd_lt n (fun k hk => by unfold l_im; split <;> omega)
    have hldb := ld_le (l_im v x) n
    have h5 := pow5 hn
    have g3 := (h (s ^^^ x) (by omega)).2.2 (l_ct v E) (fun k hk => by
      have := e1 k hk
      unfold l_ct
      split <;> omega) (gd_ct e2) (fun k hk => by
      rw [b3 k (by omega), x3 k hk, ← e3 k hk]
      unfold l_ct
      by_cases z : E k = v
      · rw [if_pos z]; exact ⟨fun y => absurd rfl y, fun y => absurd z y.2⟩
      · rw [if_neg z]; exact ⟨fun y => ⟨y, z⟩, fun y => y.1⟩)
    have r2 := (hR s (by omega) hs).2.1 x (by omega) hxs hsub (by rw [hLx]; omega)
    have hPc := P_cut (n := n) (H := H) (N := N) (E := E) hv hv5
    rw [hl, ld_c n hin, cd_c n hin] at hPc
    rw [hLx] at r2
    omega
