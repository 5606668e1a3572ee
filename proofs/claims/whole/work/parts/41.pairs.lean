/-! what holds ahead of each round of the script -/
def am_pz (i : Nat) (B : am_M) (u : am_U) : Prop := am_ro B 4 12 = 0 ∨ ∃ pz, am_ro B 4 12 = pz ∧ 91 ≤ pz ∧ pz + 5 < am_nx B ∧ am_isPour B pz ∧ ∃ st, st ≤ i ∧ u pz 5 = nI st ∧ ∀ s, s < 9261 → am_le (u (pz + 3) s) st
def am_J (i : Nat) (M : am_M) : Prop := ∃ (B : am_M) (pl dr : Nat) (u : am_U), M = am_of B u ∧ am_LayD B pl dr ∧ 91 ≤ am_nx B ∧ am_Inv pl u ∧ am_pz i B u ∧ am_nx B + (if am_ro B 4 12 = 0 then 6 else 0) ≤ 97 + i ∧ am_sl B + (if am_ro B 4 12 = 0 then 27803 else 0) ≤ 70815 + i
theorem am_le_up {x : Int32} {m n : Nat} (h : am_le x m) (hm : m ≤ n) : am_le x n := by
  obtain ⟨k, h1, h2⟩ := h
  exact ⟨k, by omega, h2⟩
theorem am_pz_up {i j : Nat} {B : am_M} {u : am_U} (h : am_pz i B u) (hij : i ≤ j) : am_pz j B u := by
  rcases h with h | ⟨pz, a1, a2, a3, a4, st, a5, a6⟩
  · exact Or.inl h
  · exact Or.inr ⟨pz, a1, a2, a3, a4, st, by omega, a6⟩
theorem am_pz_w {i : Nat} {B : am_M} {u w : am_U} (h : am_pz i B u) (e : ∀ a, 91 ≤ a → w a = u a) : am_pz i B w := by
  rcases h with h | ⟨pz, a1, a2, a3, a4, st, a5, a6, a7⟩
  · exact Or.inl h
  · exact Or.inr ⟨pz, a1, a2, a3, a4, st, a5, by rw [e pz a2]; exact a6, fun s hs => by rw [e (pz + 3) (by omega)]; exact a7 s hs⟩
theorem am_J_up {i : Nat} {M : am_M} (h : am_J i M) : am_J (i + 6) M := by
  obtain ⟨B, pl, dr, u, h1, h2, h3, h4, h5, h6, h7⟩ := h
  exact ⟨B, pl, dr, u, h1, h2, h3, h4, am_pz_up h5 (by omega), by omega, by omega⟩
def am_isI (v : Value) : Prop := ∃ x : Int32, v = .int x
def am_isL (v : Value) : Prop := ∃ x : Int64, v = .long x
def am_ok (l : Launch) (g : am_G) (y z : am_Y) (A : List Value) (tp : Value → Prop) : Prop := ∀ i M, i ≤ 5000 → am_J i M → ∃ M2 v, tp v ∧ am_pair l g y z A M M2 v ∧ am_J (i + 6) M2
theorem am_L49 {B : am_M} {pl : Nat} (hL : am_Lay B pl) : (am_sh B 4).1 = 9 ∧ (am_sh B 60).1 = 10 := ⟨by rw [hL.1 4 9 15 rfl], by rw [hL.1 60 10 47 rfl]⟩
/-- the references stay as they are -/
theorem ok_pl {l : Launch} {g : am_G} {y z : am_Y} {A : List Value} {tp : Value → Prop} (h : ∀ (B : am_M) (pl : Nat), am_Lay B pl → (pl = 30 ∨ pl = 35) → ∀ u, am_Inv pl u → ∃ v u1 u2, tp v ∧ am_E l g y 0 (am_ent y (.ref 4 :: A)) [] (am_of B u) (some (some v, am_of B u1)) ∧ am_E l g z 0 (am_ent z (.ref 60 :: A)) [] (am_of B u1) (some (some v, am_of B u2)) ∧ am_Inv pl u2 ∧ ∀ a, 91 ≤ a → u2 a = u a) : am_ok l g y z A tp := by
  intro i M _ hJ
  obtain ⟨B, pl, dr, u, rfl, h2, h3, h4, h5, h6, h7⟩ := hJ
  obtain ⟨v, u1, u2, a1, a2, a3, a4, a5⟩ := h B pl h2.1 h2.1.2.2.2.1 u h4
  have h49 := am_L49 h2.1
  exact ⟨am_of B u2, v, a1, ⟨h49.1, _, a2, h49.2, a3⟩, B, pl, dr, u2, rfl, h2, h3, a4, am_pz_up (am_pz_w h5 a5) (by omega), by omega, by omega⟩
/-- both are asked, and nothing changes -/
theorem ok_PP {l : Launch} {g : am_G} {y z : am_Y} {A : List Value} {F G : Nat → am_U → Option Int32} (s1 : ∀ (B : am_M) (pl : Nat), am_Lay B pl → ∀ u, am_E l g y 0 (am_ent y (.ref 4 :: A)) [] (am_of B u) (am_r (am_bP B u) (F pl u))) (s2 : ∀ (B : am_M) (pl : Nat), am_Lay B pl → ∀ u, am_E l g z 0 (am_ent z (.ref 60 :: A)) [] (am_of B u) (am_r (am_bP B u) (G pl u))) (h : ∀ (pl : Nat), (pl = 30 ∨ pl = 35) → ∀ u, am_Inv pl u → ∃ v, F pl u = some v ∧ G pl u = some v) : am_ok l g y z A am_isI := by
  refine ok_pl (fun B pl hL hp u hI => ?_)
  obtain ⟨v, e1, e2⟩ := h pl hp u hI
  have a1 := s1 B pl hL u
  have a2 := s2 B pl hL u
  rw [e1] at a1
  rw [e2] at a2
  exact ⟨.int v, u, u, ⟨v, rfl⟩, a1, a2, hI, fun _ _ => rfl⟩
theorem ok_NN {l : Launch} {g : am_G} {y z : am_Y} {A : List Value} {F G : Nat → am_U → Option Int64} (s1 : ∀ (B : am_M) (pl : Nat), am_Lay B pl → ∀ u, am_E l g y 0 (am_ent y (.ref 4 :: A)) [] (am_of B u) (am_r (am_bN B u) (F pl u))) (s2 : ∀ (B : am_M) (pl : Nat), am_Lay B pl → ∀ u, am_E l g z 0 (am_ent z (.ref 60 :: A)) [] (am_of B u) (am_r (am_bN B u) (G pl u))) (h : ∀ (pl : Nat), (pl = 30 ∨ pl = 35) → ∀ u, am_Inv pl u → ∃ v, F pl u = some v ∧ G pl u = some v) : am_ok l g y z A am_isL := by
  refine ok_pl (fun B pl hL hp u hI => ?_)
  obtain ⟨v, e1, e2⟩ := h pl hp u hI
  have a1 := s1 B pl hL u
  have a2 := s2 B pl hL u
  rw [e1] at a1
  rw [e2] at a2
  exact ⟨.long v, u, u, ⟨v, rfl⟩, a1, a2, hI, fun _ _ => rfl⟩
/-- what both do, in the ints alone -/
def am_two (F G : Nat → am_U → Option (Int32 × am_U)) : Prop := ∀ (pl : Nat), (pl = 30 ∨ pl = 35) → ∀ u, am_Inv pl u → ∃ v u1 u2, F pl u = some (v, u1) ∧ G pl u1 = some (v, u2) ∧ am_Inv pl u2 ∧ ∀ a, 91 ≤ a → u2 a = u a
theorem ok_II {l : Launch} {g : am_G} {y z : am_Y} {A : List Value} {F G : Nat → am_U → Option (Int32 × am_U)} (s1 : ∀ (B : am_M) (pl : Nat), am_Lay B pl → ∀ u, am_E l g y 0 (am_ent y (.ref 4 :: A)) [] (am_of B u) (am_r (am_bI B) (F pl u))) (s2 : ∀ (B : am_M) (pl : Nat), am_Lay B pl → ∀ u, am_E l g z 0 (am_ent z (.ref 60 :: A)) [] (am_of B u) (am_r (am_bI B) (G pl u))) (h : am_two F G) : am_ok l g y z A am_isI := by
  refine ok_pl (fun B pl hL hp u hI => ?_)
  obtain ⟨v, u1, u2, e1, e2, e3, e4⟩ := h pl hp u hI
  have a1 := s1 B pl hL u
  have a2 := s2 B pl hL u1
  rw [e1] at a1
  rw [e2] at a2
  exact ⟨.int v, u1, u2, ⟨v, rfl⟩, a1, a2, e3, e4⟩
theorem ok_PI {l : Launch} {g : am_G} {y z : am_Y} {A : List Value} {F : Nat → am_U → Option Int32} {G : Nat → am_U → Option (Int32 × am_U)} (s1 : ∀ (B : am_M) (pl : Nat), am_Lay B pl → ∀ u, am_E l g y 0 (am_ent y (.ref 4 :: A)) [] (am_of B u) (am_r (am_bP B u) (F pl u))) (s2 : ∀ (B : am_M) (pl : Nat), am_Lay B pl → ∀ u, am_E l g z 0 (am_ent z (.ref 60 :: A)) [] (am_of B u) (am_r (am_bI B) (G pl u))) (h : am_two (fun pl u => (F pl u).map (fun v => (v, u))) G) : am_ok l g y z A am_isI := by
  refine ok_pl (fun B pl hL hp u hI => ?_)
  obtain ⟨v, u1, u2, e1, e2, e3, e4⟩ := h pl hp u hI
  have a1 := s1 B pl hL u
  have a2 := s2 B pl hL u1
  obtain ⟨w, ew, e1⟩ := Option.map_eq_some_iff.mp e1
  cases e1
  rw [ew] at a1
  rw [e2] at a2
  exact ⟨.int v, u, u2, ⟨v, rfl⟩, a1, a2, e3, e4⟩
theorem ok_IP {l : Launch} {g : am_G} {y z : am_Y} {A : List Value} {F : Nat → am_U → Option (Int32 × am_U)} {G : Nat → am_U → Option Int32} (s1 : ∀ (B : am_M) (pl : Nat), am_Lay B pl → ∀ u, am_E l g y 0 (am_ent y (.ref 4 :: A)) [] (am_of B u) (am_r (am_bI B) (F pl u))) (s2 : ∀ (B : am_M) (pl : Nat), am_Lay B pl → ∀ u, am_E l g z 0 (am_ent z (.ref 60 :: A)) [] (am_of B u) (am_r (am_bP B u) (G pl u))) (h : am_two F (fun pl u => (G pl u).map (fun v => (v, u)))) : am_ok l g y z A am_isI := by
  refine ok_pl (fun B pl hL hp u hI => ?_)
  obtain ⟨v, u1, u2, e1, e2, e3, e4⟩ := h pl hp u hI
  have a1 := s1 B pl hL u
  have a2 := s2 B pl hL u1
  obtain ⟨w, ew, e2⟩ := Option.map_eq_some_iff.mp e2
  cases e2
  rw [e1] at a1
  rw [ew] at a2
  exact ⟨.int v, u1, u1, ⟨v, rfl⟩, a1, a2, e3, e4⟩
