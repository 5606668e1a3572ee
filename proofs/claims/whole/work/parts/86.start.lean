/-! which jars are there, and the first state -/
def m_he (W : Nat → Int32) (p : Int32) : Nat → Nat → List Nat
  | 0, _ => []
  | k + 1, j => if W j = p then j :: m_he W p k (j + 1) else m_he W p k (j + 1)
theorem he_lt (W : Nat → Int32) (p : Int32) : ∀ (k j x : Nat), x ∈ m_he W p k j → j ≤ x ∧ x < j + k ∧ W x = p := by
  intro k
  induction k with
  | zero => intro j x h; rw [m_he] at h; cases h
  | succ k ih =>
    intro j x h
    rw [m_he] at h
    split at h
    · next hw =>
      rcases List.mem_cons.mp h with h | h
      · subst h; exact ⟨Nat.le_refl _, by omega, hw⟩
      · have := ih (j + 1) x h; exact ⟨by omega, by omega, this.2.2⟩
    · have := ih (j + 1) x h; exact ⟨by omega, by omega, this.2.2⟩
theorem he_len (W : Nat → Int32) (p : Int32) : ∀ (k j : Nat), (m_he W p k j).length ≤ k := by
  intro k
  induction k with
  | zero => intro j; exact Nat.le_refl 0
  | succ k ih =>
    intro j
    rw [m_he]
    have := ih (j + 1)
    split
    · rw [List.length_cons]; omega
    · omega
theorem getD_mem : ∀ (l : List Nat) (a : Nat), a < l.length → l.getD a 0 ∈ l := by
  intro l
  induction l with
  | nil => intro a h; exact absurd h (Nat.not_lt_zero a)
  | cons x l ih =>
    intro a h
    cases a with
    | zero => exact List.mem_cons_self
    | succ a =>
      rw [List.length_cons] at h
      exact List.mem_cons_of_mem x (ih a (by omega))
theorem rp_lp {pl n k0 : Nat} {u : am_U} (e1 : u pl 2 = nI n) (hn : n ≤ 6) (hk : k0 < 6) (K : Int32 → Option Int32) : ∀ (f j c : Nat), j ≤ n → n < j + f → f_X10_refusePouring_25 pl u (nI k0) K f (nI c) (nI j) = K (nI (c + (m_he (u 10) (u 10 k0) (n - j) j).length)) := by
  intro f
  induction f with
  | zero => intro j c h1 h2; omega
  | succ f ih =>
    intro j c h1 h2
    rw [f_X10_refusePouring_25, e1]
    rcases Nat.lt_or_ge j n with q | q
    · rw [if_neg (nI_ge q (by omega)), am_ck_t (am_ix_nI (show j < 6 by omega) (by omega)), am_ck_t (am_ix_nI hk (by omega)), nI_clamp (by omega), nI_clamp (by omega), nI_1, nI_1, show n - j = (n - (j + 1)) + 1 by omega, m_he]
      by_cases c1 : u 10 j = u 10 k0
      · rw [if_neg (fun z => z c1), if_pos c1, List.length_cons, ih (j + 1) (c + 1) (by omega) (by omega), show c + ((m_he (u 10) (u 10 k0) (n - (j + 1)) (j + 1)).length + 1) = c + 1 + (m_he (u 10) (u 10 k0) (n - (j + 1)) (j + 1)).length by omega]
      · rw [if_pos c1, if_neg c1]; exact ih (j + 1) c (by omega) (by omega)
    · rw [if_pos (nI_le (show n ≤ j by omega) (by omega)), show n - j = 0 by omega]; rfl
theorem lh_lp {n k0 : Nat} {W : Nat → Int32} {p : Int32} (hn : n ≤ 6) (hk : k0 < 6) : ∀ (f j c : Nat) (u : am_U), u 60 12 = nI n → (∀ x, x < 6 → u 75 (6 + x) = W x) → W k0 = p → u 60 32 = nI c → c ≤ j → j ≤ n → n < j + f → ∃ w, f_X11_layHere_7 (nI k0) f (nI j) u = some w ∧ w 60 32 = nI (c + (m_he W p (n - j) j).length) ∧ (∀ a, a < c → w 80 a = u 80 a) ∧ (∀ a, a < (m_he W p (n - j) j).length → w 80 (c + a) = nI ((m_he W p (n - j) j).getD a 0)) ∧ ∀ a b, a ≠ 80 → ¬ (a = 60 ∧ b = 32) → w a b = u a b := by
  intro f
  induction f with
  | zero => intro j c u _ _ _ _ _ h1 h2; omega
  | succ f ih =>
    intro j c u e hW hp hc hcj h1 h2
    rw [f_X11_layHere_7, e]
    rcases Nat.lt_or_ge j n with q | q
    · rw [if_neg (nI_ge q (by omega)), show (6 : Int32) + nI j = nI (6 + j) from nI_add 6 j, show (6 : Int32) + nI k0 = nI (6 + k0) from nI_add 6 k0, am_ck_t (am_ix_nI (show 6 + j < 30 by omega) (by omega)), am_ck_t (am_ix_nI (show 6 + k0 < 30 by omega) (by omega)), nI_clamp (show 6 + j < 2 ^ 31 by omega), nI_clamp (show 6 + k0 < 2 ^ 31 by omega), hW j (by omega), hW k0 hk, hp, nI_1, show n - j = (n - (j + 1)) + 1 by omega, m_he]
      by_cases c1 : W j = p
      · rw [if_neg (fun z => z c1), if_pos c1, hc, am_ck_t (am_ix_nI (show c < 6 by omega) (by omega)), nI_clamp (by omega)]
        obtain ⟨w, w1, w2, w3, w4, w5⟩ := ih (j + 1) (c + 1) (am_w (am_w u 80 c (nI j)) 60 32 (nI (c + 1))) (by rw [am_w_n (by omega), am_w_n (by omega)]; exact e) (fun x hx => by rw [am_w_n (by omega), am_w_n (by omega)]; exact hW x hx) hp (am_w_s _ _ _ _) (by omega) (by omega) (by omega)
        have hlen : (j :: m_he W p (n - (j + 1)) (j + 1)).length = (m_he W p (n - (j + 1)) (j + 1)).length + 1 := List.length_cons
        refine ⟨w, ?_, ?_, fun a z => ?_, fun a z => ?_, fun a b z1 z2 => ?_⟩
        · show f_X11_layHere_7 (nI k0) f (nI (j + 1)) (am_w (am_w u 80 c (nI j)) 60 32 (am_w u 80 c (nI j) 60 32 + 1)) = _
          rw [am_w_n (show ¬ (60 = 80 ∧ 32 = c) by omega), hc, nI_1]; exact w1
        · rw [w2, hlen, show c + ((m_he W p (n - (j + 1)) (j + 1)).length + 1) = c + 1 + (m_he W p (n - (j + 1)) (j + 1)).length by omega]
        · rw [w3 a (by omega), am_w_n (by omega), am_w_n (by omega)]
        · cases a with
          | zero => rw [Nat.add_zero, w3 c (by omega), am_w_n (by omega), am_w_s]; rfl
          | succ a =>
            rw [hlen] at z
            rw [show c + (a + 1) = c + 1 + a by omega, w4 a (by omega)]; rfl
        · rw [w5 a b z1 z2, am_w_n z2, am_w_n (by omega)]
      · rw [if_pos c1, if_neg c1]
        exact ih (j + 1) c u e hW hp hc (by omega) (by omega) (by omega)
    · rw [if_pos (nI_le (show n ≤ j by omega) (by omega)), show n - j = 0 by omega]
      exact ⟨u, rfl, hc, fun _ _ => rfl, fun a z => absurd z (Nat.not_lt_zero a), fun _ _ _ _ => rfl⟩
def m_gs (L : Nat → Nat) : List Nat → Nat → Nat → Nat
  | [], _, v => v
  | j :: l, c, v => m_gs L l (c + 1) (v + L j * unt c)
theorem start_dg {L : Nat → Nat} {l : List Nat} (hl : l.length ≤ 3) (hL : ∀ j, j ∈ l → L j ≤ 20) : m_gs L l 0 0 < 9261 ∧ ∀ a, a < 3 → dgt (m_gs L l 0 0) a = if a < l.length then L (l.getD a 0) else 0 := by
  have key : ∀ x' y' z', x' ≤ 20 → y' ≤ 20 → z' ≤ 20 → x' + 21 * y' + 441 * z' < 9261 ∧ dgt (x' + 21 * y' + 441 * z') 0 = x' ∧ dgt (x' + 21 * y' + 441 * z') 1 = y' ∧ dgt (x' + 21 * y' + 441 * z') 2 = z' := fun x' y' z' h1 h2 h3 => ⟨by omega, by show (x' + 21 * y' + 441 * z') % 21 = x'; omega, by show (x' + 21 * y' + 441 * z') / 21 % 21 = y'; omega, by show (x' + 21 * y' + 441 * z') / 441 % 21 = z'; omega⟩
  have fin : ∀ S x y z, S = x + 21 * y + 441 * z → x ≤ 20 → y ≤ 20 → z ≤ 20 → (0 < l.length → x = L (l.getD 0 0)) → (¬ 0 < l.length → x = 0) → (1 < l.length → y = L (l.getD 1 0)) → (¬ 1 < l.length → y = 0) → (2 < l.length → z = L (l.getD 2 0)) → (¬ 2 < l.length → z = 0) → S < 9261 ∧ ∀ a, a < 3 → dgt S a = if a < l.length then L (l.getD a 0) else 0 := fun S x y z e h1 h2 h3 i0 i0' i1 i1' i2 i2' => by
    obtain ⟨k, k0, k1, k2⟩ := key x y z h1 h2 h3
    rw [e]
    refine ⟨k, fun a ha => ?_⟩
    rcases (show a = 0 ∨ a = 1 ∨ a = 2 by omega) with rfl | rfl | rfl
    · rw [k0]; split
      · next q => exact i0 q
      · next q => exact i0' q
    · rw [k1]; split
      · next q => exact i1 q
      · next q => exact i1' q
    · rw [k2]; split
      · next q => exact i2 q
      · next q => exact i2' q
  match l, hl, hL, fin with
  | [], _, _, fin => exact fin _ 0 0 0 rfl (by omega) (by omega) (by omega) (fun q => absurd q (Nat.lt_irrefl 0)) (fun _ => rfl) (fun q => absurd q (by decide)) (fun _ => rfl) (fun q => absurd q (by decide)) (fun _ => rfl)
  | [x], _, hL, fin =>
    have h1 := hL x List.mem_cons_self
    exact fin _ (L x) 0 0 (by show 0 + L x * 1 = _; omega) h1 (by omega) (by omega) (fun _ => rfl) (fun q => absurd (show 0 < 1 by omega) q) (fun q => absurd (show 1 < 1 from q) (by omega)) (fun _ => rfl) (fun q => absurd (show 2 < 1 from q) (by omega)) (fun _ => rfl)
  | [x, y], _, hL, fin =>
    have h1 := hL x List.mem_cons_self
    have h2 := hL y (List.mem_cons_of_mem x List.mem_cons_self)
    exact fin _ (L x) (L y) 0 (by show 0 + L x * 1 + L y * 21 = _; omega) h1 h2 (by omega) (fun _ => rfl) (fun q => absurd (show 0 < 2 by omega) q) (fun _ => rfl) (fun q => absurd (show 1 < 2 by omega) q) (fun q => absurd (show 2 < 2 from q) (by omega)) (fun _ => rfl)
  | [x, y, z], _, hL, fin =>
    have h1 := hL x List.mem_cons_self
    have h2 := hL y (List.mem_cons_of_mem x List.mem_cons_self)
    have h3 := hL z (List.mem_cons_of_mem x (List.mem_cons_of_mem y List.mem_cons_self))
    exact fin _ (L x) (L y) (L z) (by show 0 + L x * 1 + L y * 21 + L z * 441 = _; omega) h1 h2 h3 (fun _ => rfl) (fun q => absurd (show 0 < 3 by omega) q) (fun _ => rfl) (fun q => absurd (show 1 < 3 by omega) q) (fun _ => rfl) (fun q => absurd (show 2 < 3 by omega) q)
  | _ :: _ :: _ :: _ :: _, hl, _, _ => exact absurd hl (by simp only [List.length_cons]; omega)
theorem ga_lp {pz pl n : Nat} {W : Nat → Int32} {p : Int32} {L Zs : Nat → Nat} (hpz : 91 ≤ pz) (hpl : pl = 30 ∨ pl = 35) (hn : n ≤ 6) : ∀ (f j c v : Nat) (u : am_U), u pl 2 = nI n → (∀ x, x < 6 → u 10 x = W x) → (∀ x, x < n → u 9 x = nI (L x) ∧ u (pl + 4) x = nI (Zs x)) → u pz 6 = nI c → c + (m_he W p (n - j) j).length ≤ 3 → j ≤ n → n < j + f → ∃ w, f_X6_gather_11 pz pl p f (nI v) (nI j) u = some (nI (m_gs L (m_he W p (n - j) j) c v), w) ∧ w pz 6 = nI (c + (m_he W p (n - j) j).length) ∧ (∀ a, a < c → w (pz + 4) a = u (pz + 4) a ∧ w (pz + 5) a = u (pz + 5) a) ∧ (∀ a, a < (m_he W p (n - j) j).length → w (pz + 4) (c + a) = nI ((m_he W p (n - j) j).getD a 0) ∧ w (pz + 5) (c + a) = nI (Zs ((m_he W p (n - j) j).getD a 0))) ∧ ∀ a b, a ≠ pz + 4 → a ≠ pz + 5 → ¬ (a = pz ∧ b = 6) → w a b = u a b := by
  intro f
  induction f with
  | zero => intro j c v u _ _ _ _ _ h1 h2; omega
  | succ f ih =>
    intro j c v u e hW hL hc hc3 h1 h2
    rw [f_X6_gather_11, e]
    rcases Nat.lt_or_ge j n with q | q
    · rw [if_neg (nI_ge q (by omega)), am_ck_t (am_ix_nI (show j < 6 by omega) (by omega)), nI_clamp (by omega), hW j (by omega), nI_1]
      rw [show n - j = (n - (j + 1)) + 1 by omega, m_he] at hc3 ⊢
      by_cases c1 : W j = p
      · rw [if_pos c1, List.length_cons] at hc3
        have hlen : (j :: m_he W p (n - (j + 1)) (j + 1)).length = (m_he W p (n - (j + 1)) (j + 1)).length + 1 := List.length_cons
        rw [if_neg (fun z => z c1), if_pos c1, hc, if_neg (show ¬ (3 : Int32) ≤ nI c from nI_ge (b := 3) (by omega) (by omega)), am_ck_t (am_ix_nI (show c < 3 by omega) (by omega)), nI_clamp (by omega)]
        have e6 : am_w u (pz + 4) c (nI j) pz 6 = nI c := by rw [am_w_n (by omega)]; exact hc
        have ez : am_w u (pz + 4) c (nI j) (pl + 4) j = nI (Zs j) := by rw [am_w_n (by omega)]; exact (hL j q).2
        have e6b : am_w (am_w u (pz + 4) c (nI j)) (pz + 5) c (nI (Zs j)) pz 6 = nI c := by rw [am_w_n (by omega)]; exact e6
        have e9 : am_w (am_w u (pz + 4) c (nI j)) (pz + 5) c (nI (Zs j)) 9 j = nI (L j) := by rw [am_w_n (by omega), am_w_n (by omega)]; exact (hL j q).1
        obtain ⟨w, w1, w2, w3, w4, w5⟩ := ih (j + 1) (c + 1) (v + L j * unt c) (am_w (am_w (am_w u (pz + 4) c (nI j)) (pz + 5) c (nI (Zs j))) pz 6 (nI (c + 1))) (by rw [am_w_n (by omega), am_w_n (by omega), am_w_n (by omega)]; exact e) (fun x hx => by rw [am_w_n (by omega), am_w_n (by omega), am_w_n (by omega)]; exact hW x hx) (fun x hx => by rw [am_w_n (by omega), am_w_n (by omega), am_w_n (by omega), am_w_n (by omega), am_w_n (by omega), am_w_n (by omega)]; exact hL x hx) (am_w_s _ _ _ _) (by omega) (by omega) (by omega)
        refine ⟨w, ?_, ?_, fun a z => ?_, fun a z => ?_, fun a b z1 z2 z3 => ?_⟩
        · show am_ck (am_ix (am_w u (pz + 4) c (nI j) pz 6) 3) (am_ck (am_ix (am_w (am_w u (pz + 4) c (nI j)) (pz + 5) (am_w u (pz + 4) c (nI j) pz 6).toNatClampNeg (am_w u (pz + 4) c (nI j) (pl + 4) j) pz 6) 3) (f_X6_gather_11 pz pl p f (nI v + (am_w (am_w u (pz + 4) c (nI j)) (pz + 5) (am_w u (pz + 4) c (nI j) pz 6).toNatClampNeg (am_w u (pz + 4) c (nI j) (pl + 4) j) 9 j) * am_uni (am_w (am_w u (pz + 4) c (nI j)) (pz + 5) (am_w u (pz + 4) c (nI j) pz 6).toNatClampNeg (am_w u (pz + 4) c (nI j) (pl + 4) j) pz 6).toNatClampNeg) (nI (j + 1)) (am_w (am_w (am_w u (pz + 4) c (nI j)) (pz + 5) (am_w u (pz + 4) c (nI j) pz 6).toNatClampNeg (am_w u (pz + 4) c (nI j) (pl + 4) j)) pz 6 (am_w (am_w u (pz + 4) c (nI j)) (pz + 5) (am_w u (pz + 4) c (nI j) pz 6).toNatClampNeg (am_w u (pz + 4) c (nI j) (pl + 4) j) pz 6 + 1)))) = _
          rw [e6, ez, am_ck_t (am_ix_nI (show c < 3 by omega) (by omega)), nI_clamp (show c < 2 ^ 31 by omega), e6b, am_ck_t (am_ix_nI (show c < 3 by omega) (by omega)), nI_clamp (show c < 2 ^ 31 by omega), e9, uni_eq (show c < 3 by omega), nI_mul, nI_add, nI_1, m_gs]
          exact w1
        · rw [w2, hlen, show c + ((m_he W p (n - (j + 1)) (j + 1)).length + 1) = c + 1 + (m_he W p (n - (j + 1)) (j + 1)).length by omega]
        · rw [(w3 a (by omega)).1, (w3 a (by omega)).2, am_w_n (by omega), am_w_n (by omega), am_w_n (by omega), am_w_n (by omega), am_w_n (by omega), am_w_n (by omega)]; exact ⟨rfl, rfl⟩
        · cases a with
          | zero =>
            show w (pz + 4) c = nI j ∧ w (pz + 5) c = nI (Zs j)
            rw [(w3 c (by omega)).1, (w3 c (by omega)).2, am_w_n (by omega), am_w_n (by omega), am_w_s, am_w_n (by omega), am_w_s]; exact ⟨rfl, rfl⟩
          | succ a =>
            rw [hlen] at z
            rw [show c + (a + 1) = c + 1 + a by omega]; exact w4 a (by omega)
        · rw [w5 a b z1 z2 z3, am_w_n z3, am_w_n (by omega), am_w_n (by omega)]
      · rw [if_neg c1] at hc3
        rw [if_pos c1, if_neg c1]
        exact ih (j + 1) c v u e hW hL hc hc3 (by omega) (by omega)
    · rw [if_pos (nI_le (show n ≤ j by omega) (by omega)), show n - j = 0 by omega]
      exact ⟨u, rfl, hc, fun _ _ => ⟨rfl, rfl⟩, fun a z => absurd z (Nat.not_lt_zero a), fun _ _ _ _ _ => rfl⟩
def pQ0 : pQ := (0, fun _ => 0, fun _ => 0, fun _ => 0)
theorem q0_no (c : Nat) : ¬ p_vis pQ0 c := fun ⟨j, hj, _⟩ => absurd hj (Nat.not_lt_zero j)
theorem wf_0 {m S : Nat} {Z : Nat → Nat} (hS : S < 9261) (hd : ∀ a, a < 3 → dgt S a ≤ if a < m then Z a else 0) : p_wf m Z (p_ct pQ0 S (36 * 0 + 0) 0) := by
  rw [ct_n (q0_no S)]
  refine ⟨fun j hj => ?_, fun i j hi hj _ => ?_, rfl, Nat.succ_pos _⟩
  · have hj : j < 1 := hj
    have : j = 0 := by omega
    subst this
    exact ⟨hS, hd, (by decide : 0 < 400000), Nat.le_refl 0, fun h => absurd h (Nat.lt_irrefl 0)⟩
  · have hi : i < 1 := hi
    have hj : j < 1 := hj
    omega
theorem exp_c {pz pl n st k0 : Nat} {u : am_U} {L Zs : Nat → Nat} {H : List Nat} (hpz : 91 ≤ pz) (hpl : pl = 30 ∨ pl = 35) (hn : n ≤ 6) (e1 : u pl 2 = nI n) (hk : k0 < 6) (hL : ∀ x, x < n → u 9 x = nI (L x) ∧ u (pl + 4) x = nI (Zs x)) (hLZ : ∀ x, x < n → L x ≤ Zs x ∧ Zs x ≤ 20) (hst : u pz 5 = nI st) (hst2 : st + 1 < 2 ^ 31) (hsp : ∀ c, c < 9261 → am_le (u (pz + 3) c) st) (hH : m_he (u 10) (u 10 k0) n 0 = H) (hH3 : H.length ≤ 3) : ∃ w, f_X6_explore pz pl (u 10 k0) u = some w ∧ rC pz H.length (st + 1) (fun a => H.getD a 0) (fun a => Zs (H.getD a 0)) (p_e (fun a => H.getD a 0) (fun a => Zs (H.getD a 0)) H.length 20000 0 (p_ct pQ0 (m_gs L H 0 0) (36 * 0 + 0) 0)) w ∧ pzf pz u w ∧ p_wf H.length (fun a => Zs (H.getD a 0)) (p_e (fun a => H.getD a 0) (fun a => Zs (H.getD a 0)) H.length 20000 0 (p_ct pQ0 (m_gs L H 0 0) (36 * 0 + 0) 0)) := by
  have hmem : ∀ a, a < H.length → H.getD a 0 < n := fun a ha => by
    have := he_lt (u 10) (u 10 k0) n 0 _ (by rw [hH]; exact getD_mem H a ha)
    omega
  obtain ⟨d1, d2⟩ := start_dg (L := L) hH3 (fun j hj => by
    have := he_lt (u 10) (u 10 k0) n 0 j (by rw [hH]; exact hj)
    have := hLZ j (by omega)
    omega)
  obtain ⟨u2, hu2⟩ : ∃ u2, am_w (am_w (am_w u pz 5 (nI (st + 1))) pz 7 0) pz 6 0 = u2 := ⟨_, rfl⟩
  have g2 : ∀ a b, ¬ (a = pz ∧ (b = 5 ∨ b = 6 ∨ b = 7)) → u2 a b = u a b := fun a b z => by rw [← hu2, am_w_n (by omega), am_w_n (by omega), am_w_n (by omega)]
  have hW10 : u2 10 = u 10 := funext fun x => g2 10 x (by omega)
  obtain ⟨v, v1, v2, -, v4, v5⟩ := ga_lp (pz := pz) (pl := pl) (n := n) (W := u 10) (p := u 10 k0) (L := L) (Zs := Zs) hpz hpl hn 20000 0 0 0 u2 (by rw [g2 _ _ (by omega)]; exact e1) (fun x hx => g2 _ _ (by omega)) (fun x hx => by rw [g2 _ _ (by omega), g2 _ _ (by omega)]; exact hL x hx) (by rw [← hu2, am_w_s]; rfl) (by rw [Nat.sub_zero, hH]; omega) (by omega) (by omega)
  rw [Nat.sub_zero, hH] at v1 v2 v4
  rw [Nat.zero_add] at v2
  have r0 : rC pz H.length (st + 1) (fun a => H.getD a 0) (fun a => Zs (H.getD a 0)) pQ0 v := by
    refine ⟨?_, v2, ?_, fun a ha => ?_, fun j hj => absurd hj (Nat.not_lt_zero j), fun c hc => ?_, fun c hc => ?_⟩
    · rw [v5 _ _ (by omega) (by omega) (by omega), ← hu2, am_w_n (by omega), am_w_n (by omega), am_w_s]
    · rw [v5 _ _ (by omega) (by omega) (by omega), ← hu2, am_w_n (by omega), am_w_s]; rfl
    · have := v4 a ha
      rw [Nat.zero_add] at this; exact this
    · rw [v5 _ _ (by omega) (by omega) (by omega), g2 _ _ (by omega)]
      obtain ⟨x, hx, ex⟩ := hsp c hc
      refine ⟨fun z => ?_, fun z => absurd z (q0_no c)⟩
      rw [ex] at z
      have := (nI_eq (by omega) (by omega)).mp z
      omega
    · rw [v5 _ _ (by omega) (by omega) (by omega), g2 _ _ (by omega)]
      exact am_le_up (hsp c hc) (by omega)
  obtain ⟨w, w1, w2, w3⟩ := come_c (c := m_gs L H 0 0) (i := 0) (mv := 0) (d := 0) r0 (Nat.zero_le _) (fun _ => by show 0 < 9261; omega) d1 hst2
  have hwf := wf_0 (m := H.length) (Z := fun a => Zs (H.getD a 0)) d1 (fun a ha => by
    rw [d2 a ha]
    split
    · next q => exact (hLZ _ (hmem a q)).1
    · exact Nat.le_refl 0)
  have hJ : ∀ a, a < H.length → (fun a => H.getD a 0) a < 6 := fun a ha => by have := hmem a ha; show H.getD a 0 < 6; omega
  have hZ : ∀ a, a < H.length → (fun a => Zs (H.getD a 0)) a ≤ 20 := fun a ha => (hLZ _ (hmem a ha)).2
  obtain ⟨y, y1, y2, y3⟩ := c31_lp hH3 hJ hZ hst2 20000 0 _ w w2 hwf (Nat.zero_le _) (by omega)
  refine ⟨y, ?_, y2, ?_, (wf_e hH3 hJ hZ 20000 0 _ hwf).1⟩
  · unfold f_X6_explore f_X6_gather
    show (f_X6_gather_11 pz pl (u 10 k0) 20000 0 0 (am_w (am_w (am_w u pz 5 (u pz 5 + 1)) pz 7 0) pz 6 0)).bind _ = _
    rw [hst, nI_1, hu2, show f_X6_gather_11 pz pl (u 10 k0) 20000 0 0 u2 = some (nI (m_gs L H 0 0), v) from v1, obs, show f_X6_comeTo pz (nI (m_gs L H 0 0)) 0 0 v = some w from w1, obs]
    exact y1
  · intro a b z
    rw [y3 a b z, w3 a b z, v5 a b (by omega) (by omega) (by omega), g2 a b (by omega)]
