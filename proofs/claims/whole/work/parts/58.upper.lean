/-! sums of jars, what both numbers have in common -/
def m_su (S : Nat → Int32) : Nat → Nat → Int32 → Int32
  | 0, _, v => v
  | m + 1, k, v => m_su S m (k + 1) (v + S k)
theorem su_nI {S : Nat → Int32} {lo : Nat} : ∀ (m k v : Nat), (∀ j, k ≤ j → j < k + m → ∃ x, lo ≤ x ∧ x ≤ 20 ∧ S j = nI x) → ∃ A, m_su S m k (nI v) = nI A ∧ v + lo * m ≤ A ∧ A ≤ v + 20 * m := by
  intro m
  induction m with
  | zero => intro k v _; exact ⟨v, rfl, by omega, by omega⟩
  | succ m ih =>
    intro k v h
    obtain ⟨x, h1, h2, h3⟩ := h k (by omega) (by omega)
    obtain ⟨A, a1, a2, a3⟩ := ih (k + 1) (v + x) (fun j q1 q2 => h j (by omega) (by omega))
    refine ⟨A, ?_, ?_, by omega⟩
    · rw [m_su, h3, nI_add]; exact a1
    · rw [Nat.mul_succ]; omega
theorem cal_lp {pl n : Nat} {u : am_U} (e : u pl 2 = nI n) (hn : n ≤ 6) (hS : i_scene u) : ∀ (f k : Nat) (v : Int32), k ≤ n → n < k + f → f_X10_allLight_4 pl u f v (nI k) = some (m_su (u 75) (n - k) k v) := by
  intro f
  induction f with
  | zero => intro k v h1 h2; omega
  | succ f ih =>
    intro k v h1 h2
    rw [f_X10_allLight_4, e]
    rcases Nat.lt_or_ge k n with q | q
    · rw [if_neg (nI_ge q (by omega)), am_ck_t (am_ix_nI (show k < 6 by omega) (by omega)), nI_clamp (by omega), (hS.1 k (by omega)).1, nI_1, show n - k = (n - (k + 1)) + 1 by omega, m_su]
      exact ih (k + 1) _ (by omega) (by omega)
    · have : k = n := by omega
      subst this
      rw [if_pos (nI_le (Nat.le_refl k) (by omega)), Nat.sub_self]; rfl
theorem cal_eq {pl n : Nat} {u : am_U} (e : u pl 2 = nI n) (hn : n ≤ 6) (hS : i_scene u) : f_X10_allLight pl u = some (m_su (u 75) n 0 0) := cal_lp e hn hS 20000 0 0 (by omega) (by omega)
theorem mal_lp {n : Nat} {u : am_U} (e : u 60 12 = nI n) (hn : n ≤ 6) : ∀ (f k : Nat) (v : Int32), k ≤ n → n < k + f → f_X11_lightAll_4 u f v (nI k) = some (m_su (u 75) (n - k) k v) := by
  intro f
  induction f with
  | zero => intro k v h1 h2; omega
  | succ f ih =>
    intro k v h1 h2
    rw [f_X11_lightAll_4, e]
    rcases Nat.lt_or_ge k n with q | q
    · rw [if_neg (nI_ge q (by omega)), show (0 : Int32) + nI k = nI (0 + k) from nI_add 0 k, Nat.zero_add, am_ck_t (am_ix_nI (show k < 30 by omega) (by omega)), nI_clamp (by omega), nI_1, show n - k = (n - (k + 1)) + 1 by omega, m_su]
      exact ih (k + 1) _ (by omega) (by omega)
    · have : k = n := by omega
      subst this
      rw [if_pos (nI_le (Nat.le_refl k) (by omega)), Nat.sub_self]; rfl
theorem mal_eq {n : Nat} {u : am_U} (e : u 60 12 = nI n) (hn : n ≤ 6) : f_X11_lightAll u = some (m_su (u 75) n 0 0) := mal_lp e hn 20000 0 0 (by omega) (by omega)
theorem cas_lp {pl n : Nat} {u : am_U} (hP : i_plan pl u) (e : u pl 2 = nI n) (e2 : u 60 12 = nI n) (hn : n ≤ 6) : ∀ (f k : Nat) (v : Int32), k ≤ n → n < k + f → f_X5_allSizes_4 u pl f v (nI k) = some (m_su (u 70) (n - k) k v) := by
  intro f
  induction f with
  | zero => intro k v h1 h2; omega
  | succ f ih =>
    intro k v h1 h2
    rw [f_X5_allSizes_4, e]
    rcases Nat.lt_or_ge k n with q | q
    · rw [if_neg (nI_ge q (by omega)), am_ck_t (am_ix_nI (show k < 6 by omega) (by omega)), nI_clamp (by omega), (plan_k hP e2 hn q).2.2.1, nI_1, show n - k = (n - (k + 1)) + 1 by omega, m_su]
      exact ih (k + 1) _ (by omega) (by omega)
    · have : k = n := by omega
      subst this
      rw [if_pos (nI_le (Nat.le_refl k) (by omega)), Nat.sub_self]; rfl
theorem cas_eq {pl n : Nat} {u : am_U} (hP : i_plan pl u) (e : u pl 2 = nI n) (e2 : u 60 12 = nI n) (hn : n ≤ 6) : f_X5_allSizes pl u = some (m_su (u 70) n 0 0) := cas_lp hP e e2 hn 20000 0 0 (by omega) (by omega)
theorem mas_lp {n : Nat} {u : am_U} (e : u 60 12 = nI n) (hn : n ≤ 6) : ∀ (f k : Nat) (v : Int32), k ≤ n → n < k + f → f_X11_sizeAll_4 u f v (nI k) = some (m_su (u 70) (n - k) k v) := by
  intro f
  induction f with
  | zero => intro k v h1 h2; omega
  | succ f ih =>
    intro k v h1 h2
    rw [f_X11_sizeAll_4, e]
    rcases Nat.lt_or_ge k n with q | q
    · rw [if_neg (nI_ge q (by omega)), am_ck_t (am_ix_nI (show k < 6 by omega) (by omega)), nI_clamp (by omega), nI_1, show n - k = (n - (k + 1)) + 1 by omega, m_su]
      exact ih (k + 1) _ (by omega) (by omega)
    · have : k = n := by omega
      subst this
      rw [if_pos (nI_le (Nat.le_refl k) (by omega)), Nat.sub_self]; rfl
theorem mas_eq {n : Nat} {u : am_U} (e : u 60 12 = nI n) (hn : n ≤ 6) : f_X11_sizeAll u = some (m_su (u 70) n 0 0) := mas_lp e hn 20000 0 0 (by omega) (by omega)
theorem nI_nz {d : Nat} (h0 : 0 < d) (h : d < 2 ^ 31) : (!(nI d == 0)) = true := by
  rw [Bool.not_eq_true', beq_eq_false_iff_ne]
  exact nI_ne0 h0 h
theorem mgc_lp {u : am_U} : ∀ (f a b : Nat), a ≤ 1000 → b ≤ 1000 → b < f → f_X11_common_10 u f (nI a) (nI b) = some (nI (Nat.gcd a b)) := by
  intro f
  induction f with
  | zero => intro a b _ _ h; omega
  | succ f ih =>
    intro a b ha hb h
    rw [f_X11_common_10]
    rcases Nat.eq_zero_or_pos b with q | q
    · subst q
      rw [if_pos (show nI 0 = 0 from rfl), Nat.gcd_zero_right]
    · have hlt : a % b < b := Nat.mod_lt _ q
      rw [if_neg (nI_ne0 q (by omega)), am_ck_t (nI_nz q (by omega)), pk_rem (by omega) q (by omega), ih b (a % b) hb (by omega) (by omega), Nat.gcd_comm b, ← Nat.gcd_rec, Nat.gcd_comm]
theorem cgc_lp {A B : Nat} (hA : A ≤ 1000) (hB : B ≤ 1000) (hB0 : 0 < B) : ∀ (f d : Nat), 1 ≤ d → d ≤ B → d < f → Nat.gcd A B ≤ d → f_X10_commonDivisor_2 (nI A) (nI B) f (nI d) = some (nI (Nat.gcd A B)) := by
  intro f
  have hg : 0 < Nat.gcd A B := Nat.gcd_pos_of_pos_right A hB0
  induction f with
  | zero => intro d _ _ h; omega
  | succ f ih =>
    intro d h1 h2 h3 h4
    rw [f_X10_commonDivisor_2]
    by_cases h : d = 1
    · subst h
      rw [if_pos (show nI 1 ≤ (1 : Int32) from nI_le (b := 1) (Nat.le_refl 1) (by omega)), show Nat.gcd A B = 1 by omega]; rfl
    · have hp : nI d + (-1) = nI (d - 1) := by
        obtain ⟨m, rfl⟩ : ∃ m, d = m + 1 := ⟨d - 1, by omega⟩
        rw [← Int32.sub_eq_add_neg, nI_pred]; rfl
      rw [if_neg (show ¬ nI d ≤ (1 : Int32) from nI_ge (a := 1) (by omega) (by omega)), am_ck_t (nI_nz (by omega) (by omega)), am_ck_t (nI_nz (by omega) (by omega)), pk_rem (by omega) (by omega) (by omega), pk_rem (by omega) (by omega) (by omega), hp]
      have hne : ∀ {x : Nat}, x % d ≠ 0 → ¬ nI (x % d) = 0 := fun {x} q => nI_ne0 (Nat.pos_of_ne_zero q) (Nat.lt_of_lt_of_le (Nat.mod_lt _ (by omega)) (by omega))
      by_cases qA : A % d = 0
      · rw [qA, if_neg (fun q => q rfl)]
        by_cases qB : B % d = 0
        · rw [qB, if_neg (fun q => q rfl)]
          have : d ∣ Nat.gcd A B := Nat.dvd_gcd (Nat.dvd_of_mod_eq_zero qA) (Nat.dvd_of_mod_eq_zero qB)
          have := Nat.le_of_dvd hg this
          rw [show Nat.gcd A B = d by omega]
        · rw [if_pos (hne qB)]
          refine ih (d - 1) (by omega) (by omega) (by omega) ?_
          rcases Nat.lt_or_ge (Nat.gcd A B) d with z | z
          · omega
          · exact absurd (Nat.mod_eq_zero_of_dvd ((show Nat.gcd A B = d by omega) ▸ Nat.gcd_dvd_right A B)) qB
      · rw [if_pos (hne qA)]
        refine ih (d - 1) (by omega) (by omega) (by omega) ?_
        rcases Nat.lt_or_ge (Nat.gcd A B) d with z | z
        · omega
        · exact absurd (Nat.mod_eq_zero_of_dvd ((show Nat.gcd A B = d by omega) ▸ Nat.gcd_dvd_left A B)) qA
theorem light_A {u : am_U} {n : Nat} (hn : n ≤ 6) (hS : i_scene u) : ∃ A, m_su (u 75) n 0 0 = nI A ∧ A ≤ 120 := by
  obtain ⟨A, a1, -, a3⟩ := su_nI (S := u 75) (lo := 0) n 0 0 (fun j _ h => by
    obtain ⟨⟨x, hx, e⟩, -⟩ := hS.2.2.2.2.1 j (by omega)
    exact ⟨x, by omega, hx, e⟩)
  exact ⟨A, a1, by omega⟩
theorem size_B {pl n : Nat} {u : am_U} (hP : i_plan pl u) (e2 : u 60 12 = nI n) (hn : n ≤ 6) : ∃ B, m_su (u 70) n 0 0 = nI B ∧ n ≤ B ∧ B ≤ 120 := by
  obtain ⟨B, a1, a2, a3⟩ := su_nI (S := u 70) (lo := 1) n 0 0 (fun j _ h => by
    obtain ⟨-, -, -, ⟨x, hx, e⟩, hz⟩ := plan_k hP e2 hn (show j < n by omega)
    refine ⟨x, Nat.pos_of_ne_zero (fun q => hz (by rw [e, q]; rfl)), hx, e⟩)
  exact ⟨B, a1, by omega, by omega⟩
theorem ok_upper {l : Launch} {g : am_G} : am_ok l g d_X10_upper d_X11_upper [] am_isL :=
  ok_NN (F := fun pl u => f_X10_upper pl u) (G := fun _ u => f_X11_upper u) (fun B pl hL u => s_X10_upper hL u) (fun B pl hL u => s_X11_upper hL u) (fun pl hp u hI => by
    obtain ⟨n, hn, e1, e2⟩ := plan_n hI.2.2.2.1
    obtain ⟨A, hA, hA2⟩ := light_A hn hI.2.2.2.2.1
    obtain ⟨B, hB, hB1, hB2⟩ := size_B hI.2.2.2.1 e2 hn
    unfold f_X10_upper f_X11_upper f_X11_common
    rw [e1, e2, cal_eq e1 hn hI.2.2.2.2.1, cas_eq hI.2.2.2.1 e1 e2 hn, mal_eq e2 hn, mas_eq e2 hn, hA, hB]
    by_cases h0 : n = 0
    · subst h0
      exact ⟨0, if_neg (fun q => q rfl), if_neg (fun q => q rfl)⟩
    · have hg : 0 < Nat.gcd A B := Nat.gcd_pos_of_pos_right A (by omega)
      have hgB : Nat.gcd A B ≤ B := Nat.gcd_le_right A (by omega)
      have hc : f_X10_commonDivisor (nI A) (nI B) = some (nI (Nat.gcd A B)) := cgc_lp (by omega) (by omega) (by omega) 20000 B (by omega) (by omega) (by omega) hgB
      have hm : f_X11_common_10 u 20000 (nI A) (nI B) = some (nI (Nat.gcd A B)) := mgc_lp 20000 A B (by omega) (by omega) (by omega)
      refine ⟨(nI A / nI (Nat.gcd A B)).toInt64, (if_pos (nI_ne0 (by omega) (by omega))).trans ?_, (if_pos (nI_ne0 (by omega) (by omega))).trans ?_⟩
      · show (f_X10_commonDivisor (nI A) (nI B)).bind (fun q4 => am_ck (!(q4 == 0)) (some ((nI A / q4).toInt64))) = _
        rw [hc]
        exact am_ck_t (nI_nz hg (by omega))
      · show (f_X11_common_10 u 20000 (nI A) (nI B)).bind (fun q2 => am_ck (!(q2 == 0)) (some ((nI A / q2).toInt64))) = _
        rw [hm]
        exact am_ck_t (nI_nz hg (by omega)))
theorem ok_lower {l : Launch} {g : am_G} : am_ok l g d_X10_lower d_X11_lower [] am_isL :=
  ok_NN (F := fun pl u => f_X10_lower pl u) (G := fun _ u => f_X11_lower u) (fun B pl hL u => s_X10_lower hL u) (fun B pl hL u => s_X11_lower hL u) (fun pl hp u hI => by
    obtain ⟨n, hn, e1, e2⟩ := plan_n hI.2.2.2.1
    obtain ⟨A, hA, hA2⟩ := light_A hn hI.2.2.2.2.1
    obtain ⟨B, hB, hB1, hB2⟩ := size_B hI.2.2.2.1 e2 hn
    unfold f_X10_lower f_X11_lower f_X11_common
    rw [e1, e2, cal_eq e1 hn hI.2.2.2.2.1, cas_eq hI.2.2.2.1 e1 e2 hn, mal_eq e2 hn, mas_eq e2 hn, hA, hB]
    by_cases h0 : n = 0
    · subst h0
      exact ⟨1, if_neg (fun q => q rfl), if_neg (fun q => q rfl)⟩
    · have hg : 0 < Nat.gcd A B := Nat.gcd_pos_of_pos_right A (by omega)
      have hgB : Nat.gcd A B ≤ B := Nat.gcd_le_right A (by omega)
      have hc : f_X10_commonDivisor (nI A) (nI B) = some (nI (Nat.gcd A B)) := cgc_lp (by omega) (by omega) (by omega) 20000 B (by omega) (by omega) (by omega) hgB
      have hm : f_X11_common_10 u 20000 (nI A) (nI B) = some (nI (Nat.gcd A B)) := mgc_lp 20000 A B (by omega) (by omega) (by omega)
      refine ⟨(nI B / nI (Nat.gcd A B)).toInt64, (if_pos (nI_ne0 (by omega) (by omega))).trans ?_, (if_pos (nI_ne0 (by omega) (by omega))).trans ?_⟩
      · show (f_X10_commonDivisor (nI A) (nI B)).bind (fun q4 => am_ck (!(q4 == 0)) (some ((nI B / q4).toInt64))) = _
        rw [hc]
        exact am_ck_t (nI_nz hg (by omega))
      · show (f_X11_common_10 u 20000 (nI A) (nI B)).bind (fun q2 => am_ck (!(q2 == 0)) (some ((nI B / q2).toInt64))) = _
        rw [hm]
        exact am_ck_t (nI_nz hg (by omega)))
