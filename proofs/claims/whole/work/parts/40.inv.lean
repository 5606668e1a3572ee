/-! LEVEL 3: what holds between the class's ints and the reference's -/
theorem am_w_ap (u : am_U) (i j : Nat) (v : Int32) (a b : Nat) : am_w u i j v a b = if a = i ∧ b = j then v else u a b := by
  unfold am_w am_rw
  by_cases h : a = i
  · subst h
    by_cases h2 : b = j
    · subst h2; simp [upd]
    · simp [upd, h2]
  · simp [h]
theorem am_w_s (u : am_U) (i j : Nat) (v : Int32) : am_w u i j v i j = v := by rw [am_w_ap, if_pos ⟨rfl, rfl⟩]
theorem am_w_n {u : am_U} {i j : Nat} {v : Int32} {a b : Nat} (h : ¬ (a = i ∧ b = j)) : am_w u i j v a b = u a b := by rw [am_w_ap, if_neg h]
theorem am_w_c {u : am_U} {i j : Nat} {v : Int32} {a : Nat} (h : a ≠ i) : am_w u i j v a = u a := by unfold am_w; exact am_rw_n h
/-- an int between 0 and m -/
def am_le (x : Int32) (m : Nat) : Prop := ∃ k : Nat, k ≤ m ∧ x = nI k
/-- messages; and a byte is never the end's sign -/
def i_msg (u : am_U) : Prop := u 4 13 = u 60 2 ∧ u 4 14 = u 60 0 ∧ (∀ i, i < 6 → u 29 i = u 61 i) ∧ ∀ k, ¬ u 66 k = 1000
def i_row (u : am_U) (t s q m : Nat) : Prop := u t 1 = u s m ∧ (u s m = -1 ∨ am_le (u s m) 60) ∧ ∀ i, i < 60 → u (t + 1) i = u q (60 * m + i)
def i_rows (u : am_U) : Prop := ∀ r, r < 6 → i_row u (2 * r + 40) 62 63 r
def i_txts (u : am_U) : Prop := ∀ t, t < 4 → i_row u (2 * t + 52) 65 66 t
def i_plan (pl : Nat) (u : am_U) : Prop := u pl 0 = u 60 8 ∧ (u pl 1 = u 60 9 ∧ am_le (u 60 9) 8) ∧ (u pl 2 = u 60 12 ∧ am_le (u 60 12) 6) ∧ (∀ k, k < 8 → nI k < u 60 9 → u (pl + 1) k = u 67 k) ∧
  (∀ k, k < 6 → nI k < u 60 12 → (u (pl + 3) k = u 69 k ∧ am_le (u 69 k) 5) ∧ u (pl + 4) k = u 70 k ∧ am_le (u 70 k) 20 ∧ u 70 k ≠ 0) ∧ (∀ p, p < 5 → u (pl + 2) p = u 68 p ∧ am_le (u 68 p) 9) ∧ u 68 0 = 0 ∧ u 32 0 = 0 ∧ u 37 0 = 0
/-- a scene that can be, of the land that is -/
def i_vs (u : am_U) (S : Nat → Int32) : Prop := (∀ k, k < 6 → am_le (S k) 20 ∧ (nI k < u 60 12 → S k ≤ u 70 k) ∧ am_le (S (6 + k)) 4 ∧ am_le (S (12 + k)) 1) ∧ am_le (S 28) 999
def i_scene (u : am_U) : Prop := (∀ k, k < 6 → u 9 k = u 75 k ∧ u 10 k = u 75 (6 + k) ∧ u 11 k = u 75 (12 + k)) ∧ (∀ p, p < 5 → u 12 p = u 75 (18 + p) ∧ u 13 p = u 75 (23 + p)) ∧ u 8 5 = u 75 28 ∧ u 8 6 = u 75 29 ∧ i_vs u (u 75)
def i_deeds (u : am_U) : Prop := ∃ f s, f < 60 ∧ s ≤ 60 ∧ u 14 2 = nI f ∧ u 14 3 = nI s ∧ u 60 26 = nI s ∧ ∀ j, j < s → (∀ i, i < 30 → u 16 (30 * ((f + j) % 60) + i) = u 76 (31 * j + i)) ∧ u 17 ((f + j) % 60) = u 76 (31 * j + 30) ∧ i_vs u (fun i => u 76 (31 * j + i))
def i_kept (u : am_U) : Prop := ∀ k, k < 3 → (u 20 k = -1 ∧ u 77 k = 0) ∨ (u 77 k = 1 ∧ u 20 k = u 78 (30 * k + 28) ∧ (∀ i, i < 30 → u 19 (30 * k + i) = u 78 (30 * k + i)) ∧ i_vs u (fun i => u 78 (30 * k + i)))
def i_burn (u : am_U) : Prop := ∃ s, s ≤ 8 ∧ u 21 4 = nI s ∧ u 60 40 = nI s ∧ ∀ b, b < s → u 22 b = u 86 b ∧ u 23 b = u 87 b
def am_Inv (pl : Nat) (u : am_U) : Prop := i_msg u ∧ i_rows u ∧ i_txts u ∧ i_plan pl u ∧ i_scene u ∧ i_deeds u ∧ i_kept u ∧ i_burn u
/-! what each speaks of -/
def c_msg (a b : Nat) : Prop := (a = 4 ∧ (b = 13 ∨ b = 14)) ∨ a = 29 ∨ (a = 60 ∧ (b = 0 ∨ b = 2)) ∨ a = 61
def c_rows (a : Nat) : Prop := (40 ≤ a ∧ a < 52) ∨ a = 62 ∨ a = 63
def c_txts (a : Nat) : Prop := (52 ≤ a ∧ a < 60) ∨ a = 65 ∨ a = 66
def c_plan (a b : Nat) : Prop := (30 ≤ a ∧ a < 40) ∨ (a = 60 ∧ (b = 8 ∨ b = 9 ∨ b = 12)) ∨ (67 ≤ a ∧ a ≤ 70)
def c_vs (a b : Nat) : Prop := (a = 60 ∧ b = 12) ∨ a = 70
def c_scene (a : Nat) : Prop := (8 ≤ a ∧ a ≤ 13) ∨ a = 75
def c_deeds (a b : Nat) : Prop := (a = 14 ∧ (b = 2 ∨ b = 3)) ∨ a = 16 ∨ a = 17 ∨ (a = 60 ∧ b = 26) ∨ a = 76
def c_kept (a : Nat) : Prop := a = 19 ∨ a = 20 ∨ a = 77 ∨ a = 78
def c_burn (a b : Nat) : Prop := (a = 21 ∧ b = 4) ∨ a = 22 ∨ a = 23 ∨ (a = 60 ∧ b = 40) ∨ a = 86 ∨ a = 87
theorem fr_msg {u w : am_U} (h : i_msg u) (e : ∀ a b, c_msg a b ∨ a = 66 → w a b = u a b) : i_msg w := by
  unfold c_msg at e
  obtain ⟨h1, h2, h3, h4⟩ := h
  refine ⟨?_, ?_, fun i hi => ?_, fun k => by rw [e 66 k (by simp)]; exact h4 k⟩
  · rw [e 4 13 (by simp), e 60 2 (by simp)]; exact h1
  · rw [e 4 14 (by simp), e 60 0 (by simp)]; exact h2
  · rw [e 29 i (by simp), e 61 i (by simp)]; exact h3 i hi
theorem fr_row {u w : am_U} {t s q m : Nat} (h : i_row u t s q m) (e1 : ∀ b, w t b = u t b) (e2 : ∀ b, w (t + 1) b = u (t + 1) b) (e3 : ∀ b, w s b = u s b) (e4 : ∀ b, w q b = u q b) : i_row w t s q m := by
  obtain ⟨h1, h2, h3⟩ := h
  unfold i_row
  simp only [e1, e2, e3, e4]
  exact ⟨h1, h2, h3⟩
theorem fr_rows {u w : am_U} (h : i_rows u) (e : ∀ a b, c_rows a → w a b = u a b) : i_rows w := fun r hr => by
  unfold c_rows at e
  exact fr_row (h r hr) (fun b => e _ b (by omega)) (fun b => e _ b (by omega)) (fun b => e _ b (by omega)) (fun b => e _ b (by omega))
theorem fr_txts {u w : am_U} (h : i_txts u) (e : ∀ a b, c_txts a → w a b = u a b) : i_txts w := fun r hr => by
  unfold c_txts at e
  exact fr_row (h r hr) (fun b => e _ b (by omega)) (fun b => e _ b (by omega)) (fun b => e _ b (by omega)) (fun b => e _ b (by omega))
theorem fr_plan {pl : Nat} (hp : pl = 30 ∨ pl = 35) {u w : am_U} (h : i_plan pl u) (e : ∀ a b, c_plan a b → w a b = u a b) : i_plan pl w := by
  unfold c_plan at e
  obtain ⟨h1, ⟨h2, h3⟩, ⟨h4, h5⟩, h6, h7, h8, h9, h10, h11⟩ := h
  have q0 : ∀ b, w pl b = u pl b := fun b => e _ b (by omega)
  have q1 : ∀ b, w (pl + 1) b = u (pl + 1) b := fun b => e _ b (by omega)
  have q2 : ∀ b, w (pl + 2) b = u (pl + 2) b := fun b => e _ b (by omega)
  have q3 : ∀ b, w (pl + 3) b = u (pl + 3) b := fun b => e _ b (by omega)
  have q4 : ∀ b, w (pl + 4) b = u (pl + 4) b := fun b => e _ b (by omega)
  have q5 : ∀ b, w 67 b = u 67 b := fun b => e _ b (by omega)
  have q6 : ∀ b, w 68 b = u 68 b := fun b => e _ b (by omega)
  have q7 : ∀ b, w 69 b = u 69 b := fun b => e _ b (by omega)
  have q8 : ∀ b, w 70 b = u 70 b := fun b => e _ b (by omega)
  unfold i_plan
  rw [e 60 8 (by omega), e 60 9 (by omega), e 60 12 (by omega), e 32 0 (by omega), e 37 0 (by omega)]
  simp only [q0, q1, q2, q3, q4, q5, q6, q7, q8]
  exact ⟨h1, ⟨h2, h3⟩, ⟨h4, h5⟩, h6, h7, h8, h9, h10, h11⟩
theorem fr_vs {u w : am_U} {S T : Nat → Int32} (h : i_vs u S) (e : ∀ a b, c_vs a b → w a b = u a b) (hS : ∀ i, i < 30 → T i = S i) : i_vs w T := by
  unfold c_vs at e
  refine ⟨fun k hk => ?_, ?_⟩
  · rw [hS k (by omega), hS (6 + k) (by omega), hS (12 + k) (by omega), e 60 12 (by omega), e 70 k (by omega)]
    exact h.1 k hk
  · rw [hS 28 (by omega)]
    exact h.2
theorem fr_scene {u w : am_U} (h : i_scene u) (e : ∀ a b, c_scene a → w a b = u a b) (e2 : ∀ a b, c_vs a b → w a b = u a b) : i_scene w := by
  unfold c_scene at e
  obtain ⟨h1, h2, h3, h4, h5⟩ := h
  refine ⟨fun k hk => ?_, fun p hp => ?_, ?_, ?_, fr_vs h5 e2 (fun i _ => e 75 i (by omega))⟩
  · rw [e 9 k (by omega), e 10 k (by omega), e 11 k (by omega), e 75 k (by omega), e 75 (6 + k) (by omega), e 75 (12 + k) (by omega)]; exact h1 k hk
  · rw [e 12 p (by omega), e 13 p (by omega), e 75 (18 + p) (by omega), e 75 (23 + p) (by omega)]; exact h2 p hp
  · rw [e 8 5 (by omega), e 75 28 (by omega)]; exact h3
  · rw [e 8 6 (by omega), e 75 29 (by omega)]; exact h4
theorem fr_deeds {u w : am_U} (h : i_deeds u) (e : ∀ a b, c_deeds a b → w a b = u a b) (e2 : ∀ a b, c_vs a b → w a b = u a b) : i_deeds w := by
  unfold c_deeds at e
  obtain ⟨f, s, h1, h2, h3, h4, h5, h6⟩ := h
  refine ⟨f, s, h1, h2, by rw [e 14 2 (by omega)]; exact h3, by rw [e 14 3 (by omega)]; exact h4, by rw [e 60 26 (by omega)]; exact h5, fun j hj => ⟨fun i hi => ?_, ?_, fr_vs (h6 j hj).2.2 e2 (fun i _ => e 76 _ (by omega))⟩⟩
  · rw [e 16 _ (by omega), e 76 _ (by omega)]; exact (h6 j hj).1 i hi
  · rw [e 17 _ (by omega), e 76 _ (by omega)]; exact (h6 j hj).2.1
theorem fr_kept {u w : am_U} (h : i_kept u) (e : ∀ a b, c_kept a → w a b = u a b) (e2 : ∀ a b, c_vs a b → w a b = u a b) : i_kept w := fun k hk => by
  unfold c_kept at e
  rcases h k hk with ⟨h1, h2⟩ | ⟨h1, h2, h3, h4⟩
  · exact Or.inl ⟨by rw [e 20 k (by omega)]; exact h1, by rw [e 77 k (by omega)]; exact h2⟩
  · refine Or.inr ⟨by rw [e 77 k (by omega)]; exact h1, by rw [e 20 k (by omega), e 78 _ (by omega)]; exact h2, fun i hi => by rw [e 19 _ (by omega), e 78 _ (by omega)]; exact h3 i hi, fr_vs h4 e2 (fun i _ => e 78 _ (by omega))⟩
theorem fr_burn {u w : am_U} (h : i_burn u) (e : ∀ a b, c_burn a b → w a b = u a b) : i_burn w := by
  unfold c_burn at e
  obtain ⟨s, h1, h2, h3, h4⟩ := h
  refine ⟨s, h1, by rw [e 21 4 (by omega)]; exact h2, by rw [e 60 40 (by omega)]; exact h3, fun b hb => ?_⟩
  rw [e 22 b (by omega), e 86 b (by omega), e 23 b (by omega), e 87 b (by omega)]
  exact h4 b hb
/-- nothing but messages changed, or nothing but rows, .. -/
theorem fr_all {pl : Nat} (hp : pl = 30 ∨ pl = 35) {u w : am_U} (h : am_Inv pl u) (e : ∀ a b, (c_msg a b ∨ c_rows a ∨ c_txts a ∨ c_plan a b ∨ c_vs a b ∨ c_scene a ∨ c_deeds a b ∨ c_kept a ∨ c_burn a b) → w a b = u a b) : am_Inv pl w := by
  obtain ⟨h1, h2, h3, h4, h5, h6, h7, h8⟩ := h
  have e2 : ∀ a b, c_vs a b → w a b = u a b := fun a b q => e a b (by simp [q])
  exact ⟨fr_msg h1 (fun a b q => e a b (by rcases q with q | q; (· simp [q]); (· simp [c_txts, q]))), fr_rows h2 (fun a b q => e a b (by simp [q])), fr_txts h3 (fun a b q => e a b (by simp [q])), fr_plan hp h4 (fun a b q => e a b (by simp [q])), fr_scene h5 (fun a b q => e a b (by simp [q])) e2, fr_deeds h6 (fun a b q => e a b (by simp [q])) e2, fr_kept h7 (fun a b q => e a b (by simp [q])) e2, fr_burn h8 (fun a b q => e a b (by simp [q]))⟩
