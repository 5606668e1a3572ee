/-! pours, way, loss, most: both sides -/
theorem pU_eq (B : am_M) (u : am_U) : am_pU B u = am_rw (am_rw (am_rw (am_rw (am_rw (am_rw u (am_nx B) (fun _ => 0)) (am_nx B + 1) (fun _ => 0)) (am_nx B + 2) (fun _ => 0)) (am_nx B + 3) (fun _ => 0)) (am_nx B + 4) (fun _ => 0)) (am_nx B + 5) (fun _ => 0) := rfl
theorem pU_n {B : am_M} {u : am_U} {a : Nat} (h : a < am_nx B) : am_pU B u a = u a := by
  rw [pU_eq, am_rw_n (by omega), am_rw_n (by omega), am_rw_n (by omega), am_rw_n (by omega), am_rw_n (by omega), am_rw_n (by omega)]
theorem pU_0 {B : am_M} {u : am_U} : am_pU B u (am_nx B) = fun _ => 0 := by
  rw [pU_eq, am_rw_n (by omega), am_rw_n (by omega), am_rw_n (by omega), am_rw_n (by omega), am_rw_n (by omega), am_rw_s]
theorem pU_3 {B : am_M} {u : am_U} : am_pU B u (am_nx B + 3) = fun _ => 0 := by
  rw [pU_eq, am_rw_n (by omega), am_rw_n (by omega), am_rw_s]
def g_pours (pf : Option am_U) (pz : Nat) (B B1 : am_M) (pl : Nat) (a1 : Int32) (a2 : Int32) (u : am_U) : Option (Int32 × am_M) :=
  (f_X10_refusePouring pl a1 a2 u).bind (fun q1 =>
  if q1 = 0 then (
    pf.bind (fun q2 =>
    (f_X6_firstWith pz a1 a2 q2).bind (fun q3 =>
    if ¬ q3 = ((-9) : Int32) then (
      (f_X6_steps pz q3 q2).bind (fun q4 =>
      if q4 ≤ 60 then (
        (f_X6_spilt pz q3 q2).bind (fun q5 =>
        (f_X10_tell q4 q5 q2).bind (fun q6 =>
        some (q6.1, am_of B1 q6.2))))
      else (
        some (((-6) : Int32), am_of B1 q2))))
    else (
      some (((-9) : Int32), am_of B1 q2)))))
  else (
    some (q1, am_of B u)))
def g_way (pf : Option am_U) (pz : Nat) (B B1 : am_M) (pl : Nat) (a1 : Int32) (a2 : Int32) (a3 : Int32) (u : am_U) : Option (Int32 × am_M) :=
  (f_X10_isWithin a3 0 5).bind (fun q1 =>
  am_jn (fun (j2s0 : Int32) =>
    if j2s0 = 0 then (
      pf.bind (fun q3 =>
      (f_X6_firstWith pz a1 a2 q3).bind (fun q4 =>
      if ¬ q4 = ((-9) : Int32) then (
        (f_X6_steps pz q4 q3).bind (fun q5 =>
        if q5 ≤ 60 then (
          am_ck (am_ix a3 6) (
          (f_X6_writeWay pz q4 q5 (2 * a3.toNatClampNeg + 40) q3).bind (fun q7 =>
          some (q5, am_of B1 q7))))
        else (
          some (((-6) : Int32), am_of B1 q3))))
      else (
        some (((-9) : Int32), am_of B1 q3)))))
    else (
      some (j2s0, am_of B u))) (fun j2 =>
  if q1 = 0 then (
    j2 ((-1) : Int32))
  else (
    (f_X10_refusePouring pl a1 a2 u).bind (fun q8 =>
    j2 q8))))
def g_loss (pf : Option am_U) (pz : Nat) (B B1 : am_M) (pl : Nat) (a1 : Int32) (a2 : Int32) (u : am_U) : Option (Int32 × am_M) :=
  (f_X10_refusePouring pl a1 a2 u).bind (fun q1 =>
  if q1 = 0 then (
    pf.bind (fun q2 =>
    (f_X6_leastSpilt pz a1 a2 q2).bind (fun q3 =>
    some (q3, am_of B1 q2))))
  else (
    some (q1, am_of B u)))
def g_most (pf : Option am_U) (pz : Nat) (B B1 : am_M) (pl : Nat) (a1 : Int32) (u : am_U) : Option (Int32 × am_M) :=
  (f_X10_refusePouring pl a1 0 u).bind (fun q1 =>
  if q1 = 0 then (
    pf.bind (fun q2 =>
    (f_X6_mostIn pz a1 q2).bind (fun q3 =>
    (f_X10_tell q3 (q2 pz 7) q2).bind (fun q4 =>
    some (q4.1, am_of B1 q4.2)))))
  else (
    some (q1, am_of B u)))
def g_pf (pz pl : Nat) (a1 : Int32) (u0 : am_U) : Option am_U := am_ck (am_ix a1 6) ((f_X6_explore pz pl (u0 10 a1.toNatClampNeg) u0).bind (fun q3 => some q3))
/-- where the pourings are, or come to be -/
def opn (i pl dr : Nat) (B1 : am_M) (pz : Nat) (u u0 : am_U) : Prop := 91 ≤ pz ∧ am_LayD B1 pl dr ∧ 91 ≤ am_nx B1 ∧ (∀ a, a < 91 → u0 a = u a) ∧ (∃ st, st ≤ i ∧ u0 pz 5 = nI st ∧ ∀ c, c < 9261 → am_le (u0 (pz + 3) c) st) ∧ (∀ w st', st' ≤ i + 6 → w pz 5 = nI st' → (∀ c, c < 9261 → am_le (w (pz + 3) c) st') → am_pz (i + 6) B1 w) ∧ am_nx B1 + (if am_ro B1 4 12 = 0 then 6 else 0) ≤ 97 + (i + 6) ∧ am_sl B1 + (if am_ro B1 4 12 = 0 then 27803 else 0) ≤ 70815 + (i + 6)
theorem pf_open {l : Launch} {g : am_G} {i pl dr : Nat} {B : am_M} {u : am_U} (h2 : am_LayD B pl dr) (h3 : 91 ≤ am_nx B) (h5 : am_pz i B u) (h6 : am_nx B + (if am_ro B 4 12 = 0 then 6 else 0) ≤ 97 + i) (h7 : am_sl B + (if am_ro B 4 12 = 0 then 27803 else 0) ≤ 70815 + i) : ∃ pz B1 u0, opn i pl dr B1 pz u u0 ∧
    (∀ a1 a2, am_E l g d_X10_pours 0 (am_ent d_X10_pours [.ref 4, .int a1, .int a2]) [] (am_of B u) (am_r am_fI (g_pours (g_pf pz pl a1 u0) pz B B1 pl a1 a2 u))) ∧
    (∀ a1 a2 a3, am_E l g d_X10_way 0 (am_ent d_X10_way [.ref 4, .int a1, .int a2, .int a3]) [] (am_of B u) (am_r am_fI (g_way (g_pf pz pl a1 u0) pz B B1 pl a1 a2 a3 u))) ∧
    (∀ a1 a2, am_E l g d_X10_loss 0 (am_ent d_X10_loss [.ref 4, .int a1, .int a2]) [] (am_of B u) (am_r am_fI (g_loss (g_pf pz pl a1 u0) pz B B1 pl a1 a2 u))) ∧
    (∀ a1, am_E l g d_X10_most 0 (am_ent d_X10_most [.ref 4, .int a1]) [] (am_of B u) (am_r am_fI (g_most (g_pf pz pl a1 u0) pz B B1 pl a1 u))) := by
  rcases h5 with h | ⟨pz, a1, a2, a3, a4, st, a5, a6, a7⟩
  · rw [if_pos h] at h6 h7
    have hav : am_ro (am_pB B) 4 12 = am_nx B := by unfold am_pB; exact am_ro_s
    refine ⟨am_nx B, am_pB B, am_pU B u, ⟨h3, ⟨am_pB_L h2.1 h3, ?_, h2.2.2⟩, ?_, fun a ha => pU_n (by omega), ⟨0, by omega, ?_, fun c hc => ⟨0, by omega, ?_⟩⟩, fun w st' z1 z2 z3 => Or.inr ⟨am_nx B, hav, h3, ?_, am_pB_is h3, st', z1, z2, z3⟩, ?_, ?_⟩, fun a1 a2 => s_X10_pours_a h2.1 h h3 a1 a2 u, fun a1 a2 a3 => s_X10_way_a h2.1 h h3 a1 a2 a3 u, fun a1 a2 => s_X10_loss_a h2.1 h h3 a1 a2 u, fun a1 => s_X10_most_a h2.1 h h3 a1 u⟩
    · rw [(am_pB_old (B := B) (i := 4) (by omega)).2 11 (by omega)]; exact h2.2.1
    · show 91 ≤ am_nx B + 6
      omega
    · rw [pU_0]; rfl
    · rw [pU_3]; rfl
    · show am_nx B + 5 < am_nx B + 6
      omega
    · rw [hav, if_neg (by omega)]
      show am_nx B + 6 + 0 ≤ _
      omega
    · rw [hav, if_neg (by omega)]
      show am_sl B + 8 + 9261 + 9261 + 9261 + 3 + 3 + 0 ≤ _
      omega
  · have hne : ¬ am_ro B 4 12 = 0 := by omega
    have hav : am_av (am_ro B 4 12) = .ref pz := by
      rw [a1]
      obtain ⟨x, rfl⟩ : ∃ x, pz = x + 1 := ⟨pz - 1, by omega⟩
      rfl
    exact ⟨pz, B, u, ⟨a2, h2, h3, fun _ _ => rfl, ⟨st, a5, a6, a7⟩, fun w st' z1 z2 z3 => Or.inr ⟨pz, a1, a2, a3, a4, st', z1, z2, z3⟩, by omega, by omega⟩, fun a1 a2 => s_X10_pours_b h2.1 hav a4 a1 a2 u, fun a1 a2 a3 => s_X10_way_b h2.1 hav a4 a1 a2 a3 u, fun a1 a2 => s_X10_loss_b h2.1 hav a4 a1 a2 u, fun a1 => s_X10_most_b h2.1 hav a4 a1 u⟩
/-- both look who is there -/
theorem ref_two {pl : Nat} {u : am_U} (hI : am_Inv pl u) (a1 : Int32) : ∃ n, n ≤ 6 ∧ u pl 2 = nI n ∧ u 60 12 = nI n ∧ (f_X10_isWithin a1 0 (nI n - 1) = some 0 ∨ ∃ k0, k0 < n ∧ a1 = nI k0 ∧ f_X10_isWithin a1 0 (nI n - 1) = some 1) := by
  obtain ⟨n, hn, e1, e2⟩ := plan_n hI.2.2.2.1
  exact ⟨n, hn, e1, e2, win_cs a1 (by omega)⟩
theorem crp_eq {pl n k0 : Nat} {u : am_U} {H : List Nat} (e1 : u pl 2 = nI n) (hn : n ≤ 6) (hk : k0 < n) (w : f_X10_isWithin (nI k0) 0 (nI n - 1) = some 1) (hH : m_he (u 10) (u 10 k0) n 0 = H) (a2 : Int32) : f_X10_refusePouring pl (nI k0) a2 u = (f_X10_isWithin a2 0 20).bind (fun q2 => if ¬ q2 = 0 then (if H.length ≤ 3 then some 0 else some (-6)) else some (-1)) := by
  have hlen := he_len (u 10) (u 10 k0) n 0
  rw [hH] at hlen
  unfold f_X10_refusePouring
  rw [cjar_eq _ e1, w, obs, if_neg ne10]
  have h25 : f_X10_refusePouring_25 pl u (nI k0) (fun (c5v3 : Int32) => if c5v3 ≤ 3 then some 0 else some (-6)) 20000 0 0 = if H.length ≤ 3 then some 0 else some (-6) := by
    refine (rp_lp e1 hn (by omega) _ 20000 0 0 (by omega) (by omega)).trans ?_
    rw [Nat.sub_zero, hH, Nat.zero_add]
    by_cases c : H.length ≤ 3
    · rw [if_pos c, if_pos (show nI H.length ≤ (3 : Int32) from nI_le (b := 3) c (by omega))]
    · rw [if_neg c, if_neg (show ¬ nI H.length ≤ (3 : Int32) from nI_ge (a := 3) (by omega) (by omega))]
  rw [h25]
/-- the reference's needStates -/
theorem ns_eq {n k0 : Nat} {v : am_U} {L Zs : Nat → Nat} {W : Nat → Int32} {H : List Nat} (hn : n ≤ 6) (e2 : v 60 12 = nI n) (hk : k0 < n) (w : f_X10_isWithin (nI k0) 0 (nI n - 1) = some 1) (hW : ∀ x, x < 6 → v 75 (6 + x) = W x) (hH : m_he W (W k0) n 0 = H) (hL : ∀ x, x < n → v 75 x = nI (L x) ∧ v 70 x = nI (Zs x)) (hLZ : ∀ x, x < n → L x ≤ Zs x ∧ Zs x ≤ 20) (a : Int32) (ha : ¬ a = 0) : (H.length ≤ 3 → ∃ y, f_X11_needStates a (nI k0) v = some (0, y) ∧ rM H.length (fun a => H.getD a 0) (fun a => Zs (H.getD a 0)) (p_e (fun a => H.getD a 0) (fun a => Zs (H.getD a 0)) H.length 20000 0 (p_ct pQ0 (m_gs L H 0 0) (36 * 0 + 0) 0)) y ∧ ∀ x b, ¬ (80 ≤ x ∧ x ≤ 85) → ¬ (x = 60 ∧ (b = 32 ∨ b = 39)) → y x b = v x b) ∧ (¬ H.length ≤ 3 → ∃ y, f_X11_needStates a (nI k0) v = some (-6, y) ∧ ∀ x b, ¬ (80 ≤ x ∧ x ≤ 85) → ¬ (x = 60 ∧ (b = 32 ∨ b = 39)) → y x b = v x b) := by
  have hlen := he_len W (W k0) n 0
  rw [hH] at hlen
  obtain ⟨q, q1, q2, -, q4, q5⟩ := lh_lp (n := n) (k0 := k0) (W := W) (p := W k0) hn (by omega) 20000 0 0 (am_w v 60 32 0) (by rw [am_w_n (by omega)]; exact e2) (fun x hx => by rw [am_w_n (by omega)]; exact hW x hx) rfl (am_w_s _ _ _ _) (by omega) (by omega) (by omega)
  rw [Nat.sub_zero, hH] at q2 q4
  rw [Nat.zero_add] at q2
  have gq : ∀ x b, x ≠ 80 → ¬ (x = 60 ∧ b = 32) → q x b = v x b := fun x b z1 z2 => by rw [q5 x b z1 z2, am_w_n z2]
  have hlay : f_X11_layHere (nI k0) v = some q := q1
  have hE : f_X11_needStates a (nI k0) v = if nI H.length ≤ 3 then (f_X11_layStates q).bind (fun q3 => some (0, q3)) else some (-6, q) := by
    unfold f_X11_needStates
    rw [if_neg ha, mjar_eq _ e2, w, obs, if_pos ne10, hlay, obs, q2]
  have hmem : ∀ a, a < H.length → H.getD a 0 < n := fun a ha => by
    have := he_lt W (W k0) n 0 _ (by rw [hH]; exact getD_mem H a ha)
    omega
  refine ⟨fun h3 => ?_, fun h3 => ?_⟩
  · have hin : k0 ∈ H := by rw [← hH]; exact he_in W (W k0) n 0 k0 (by omega) (by omega) rfl
    obtain ⟨a0, ha0, -⟩ := mem_ix H k0 hin
    obtain ⟨y, y1, y2, y3⟩ := lay_m (u := q) (n := n) (L := L) (Zs := Zs) (H := H) hn hmem (fun x hx => by rw [gq _ _ (by omega) (by omega), gq _ _ (by omega) (by omega)]; exact hL x hx) hLZ (fun j hj => by
      have := he_lt W (W k0) n 0 j (by rw [hH]; exact hj)
      have := hLZ j (by omega)
      omega) (by omega) h3 q2 (fun a ha => by
      have := q4 a ha
      rw [Nat.zero_add] at this; exact this)
    refine ⟨y, ?_, y2, fun x b z1 z2 => by rw [y3 x b (by omega) (by omega), gq x b (by omega) (by omega)]⟩
    rw [hE, if_pos (show nI H.length ≤ (3 : Int32) from nI_le (b := 3) h3 (by omega)), y1, obs]
  · refine ⟨q, ?_, fun x b z1 z2 => gq x b (by omega) (by omega)⟩
    rw [hE, if_neg (show ¬ nI H.length ≤ (3 : Int32) from nI_ge (a := 3) (by omega) (by omega))]
theorem fr_80 {pl : Nat} (hp : pl = 30 ∨ pl = 35) {u w : am_U} (h : am_Inv pl u) (e : ∀ a b, a < 91 → ¬ (80 ≤ a ∧ a ≤ 85) → ¬ (a = 60 ∧ (b = 32 ∨ b = 39)) → w a b = u a b) : am_Inv pl w := by
  refine fr_all hp h (fun a b q => ?_)
  unfold c_msg c_rows c_txts c_plan c_vs c_scene c_deeds c_kept c_burn at q
  exact e a b (by omega) (by omega) (by omega)
theorem cls0 {l : Launch} {g : am_G} {y z : am_Y} {A : List Value} {i pl dr : Nat} {B : am_M} {u u2 : am_U} {v : Int32} (h2 : am_LayD B pl dr) (h3 : 91 ≤ am_nx B) (h5 : am_pz i B u) (h6 : am_nx B + (if am_ro B 4 12 = 0 then 6 else 0) ≤ 97 + i) (h7 : am_sl B + (if am_ro B 4 12 = 0 then 27803 else 0) ≤ 70815 + i) {x1 x2 : Option (Option Value × am_M)} (E1 : am_E l g y 0 (am_ent y (.ref 4 :: A)) [] (am_of B u) x1) (c1 : x1 = some (some (.int v), am_of B u)) (E2 : am_E l g z 0 (am_ent z (.ref 60 :: A)) [] (am_of B u) x2) (c2 : x2 = some (some (.int v), am_of B u2)) (hI : am_Inv pl u2) (e : ∀ a, 91 ≤ a → u2 a = u a) : ∃ M2 v, am_isI v ∧ am_pair l g y z A (am_of B u) M2 v ∧ am_J (i + 6) M2 := by
  subst c1
  subst c2
  have h49 := am_L49 h2.1
  exact ⟨am_of B u2, .int v, ⟨_, rfl⟩, ⟨h49.1, am_of B u, E1, h49.2, E2⟩, B, pl, dr, u2, rfl, h2, h3, hI, am_pz_up (am_pz_w h5 e) (by omega), by omega, by omega⟩
theorem cls1 {l : Launch} {g : am_G} {y z : am_Y} {A : List Value} {i pl dr pz st : Nat} {B B1 : am_M} {u u0 u1 u2 : am_U} {v : Int32} (h2 : am_LayD B pl dr) (ho : opn i pl dr B1 pz u u0) {x1 x2 : Option (Option Value × am_M)} (E1 : am_E l g y 0 (am_ent y (.ref 4 :: A)) [] (am_of B u) x1) (c1 : x1 = some (some (.int v), am_of B1 u1)) (E2 : am_E l g z 0 (am_ent z (.ref 60 :: A)) [] (am_of B1 u1) x2) (c2 : x2 = some (some (.int v), am_of B1 u2)) (hI : am_Inv pl u2) (hst : st ≤ i + 6) (h5 : u2 pz 5 = nI st) (h3 : ∀ c, c < 9261 → am_le (u2 (pz + 3) c) st) : ∃ M2 v, am_isI v ∧ am_pair l g y z A (am_of B u) M2 v ∧ am_J (i + 6) M2 := by
  subst c1
  subst c2
  obtain ⟨o1, o2, o3, o4, o5, o6, o7, o8⟩ := ho
  exact ⟨am_of B1 u2, .int v, ⟨_, rfl⟩, ⟨(am_L49 h2.1).1, am_of B1 u1, E1, (am_L49 o2.1).2, E2⟩, B1, pl, dr, u2, rfl, o2, o3, hI, o6 u2 st hst h5 h3, o7, o8⟩
theorem srch {i pl dr pz k0 n : Nat} {B1 : am_M} {u u0 : am_U} (hp : pl = 30 ∨ pl = 35) (hI : am_Inv pl u) (ho : opn i pl dr B1 pz u u0) (hi5 : i ≤ 5000) (hn : n ≤ 6) (e1 : u pl 2 = nI n) (e2 : u 60 12 = nI n) (hk : k0 < n) (w : f_X10_isWithin (nI k0) 0 (nI n - 1) = some 1) : ∃ (H : List Nat) (Zs : Nat → Nat) (Q : pQ), m_he (u 10) (u 10 k0) n 0 = H ∧ (∃ a0, a0 < H.length ∧ H.getD a0 0 = k0 ∧ ∀ a, a < H.length → H.getD a 0 = k0 → a = a0) ∧ (∀ a, a < H.length → H.getD a 0 < 6) ∧ (∀ v : am_U, (∀ x b, 60 ≤ x → x < 80 → ¬ (x = 60 ∧ (b = 2 ∨ b = 32 ∨ b = 39)) → v x b = u x b) → ∀ a : Int32, ¬ a = 0 → (H.length ≤ 3 → ∃ y, f_X11_needStates a (nI k0) v = some (0, y) ∧ rM H.length (fun a => H.getD a 0) (fun a => Zs (H.getD a 0)) Q y ∧ ∀ x b, ¬ (80 ≤ x ∧ x ≤ 85) → ¬ (x = 60 ∧ (b = 32 ∨ b = 39)) → y x b = v x b) ∧ (¬ H.length ≤ 3 → ∃ y, f_X11_needStates a (nI k0) v = some (-6, y) ∧ ∀ x b, ¬ (80 ≤ x ∧ x ≤ 85) → ¬ (x = 60 ∧ (b = 32 ∨ b = 39)) → y x b = v x b)) ∧ (H.length ≤ 3 → ∃ uc st, g_pf pz pl (nI k0) u0 = some uc ∧ rC pz H.length st (fun a => H.getD a 0) (fun a => Zs (H.getD a 0)) Q uc ∧ p_wf H.length (fun a => Zs (H.getD a 0)) Q ∧ st ≤ i + 6 ∧ ∀ a, a < 91 → uc a = u a) := by
  obtain ⟨o1, o2, o3, o4, ⟨st, s1, s2, s3⟩, o6, o7, o8⟩ := ho
  have hS := hI.2.2.2.2.1
  have hP := hI.2.2.2.1
  obtain ⟨L, hL⟩ : ∃ L : Nat → Nat, ∀ x, L x = (u 75 x).toNatClampNeg := ⟨_, fun _ => rfl⟩
  obtain ⟨Zs, hZs⟩ : ∃ Zs : Nat → Nat, ∀ x, Zs x = (u 70 x).toNatClampNeg := ⟨_, fun _ => rfl⟩
  have hl : ∀ x, x < n → u 75 x = nI (L x) ∧ u 70 x = nI (Zs x) ∧ L x ≤ Zs x ∧ Zs x ≤ 20 := fun x hx => by
    obtain ⟨⟨m, hm, em⟩, hle, -, -⟩ := hS.2.2.2.2.1 x (by omega)
    obtain ⟨-, -, -, ⟨z, hz, ez⟩, -⟩ := plan_k hP e2 hn hx
    have h1 := hle (by rw [e2]; exact nI_lt hx (by omega))
    rw [em, ez] at h1
    have h2 := (nI_leI (by omega) (by omega)).mp h1
    rw [hL, hZs, em, ez, nI_clamp (by omega), nI_clamp (by omega)]
    exact ⟨rfl, rfl, h2, hz⟩
  obtain ⟨H, hH⟩ : ∃ H, m_he (u 10) (u 10 k0) n 0 = H := ⟨_, rfl⟩
  have hin : k0 ∈ H := by rw [← hH]; exact he_in (u 10) (u 10 k0) n 0 k0 (by omega) (by omega) rfl
  obtain ⟨a0, ha0, hk0⟩ := mem_ix H k0 hin
  have hmem : ∀ a, a < H.length → H.getD a 0 < n := fun a ha => by
    have := he_lt (u 10) (u 10 k0) n 0 _ (by rw [hH]; exact getD_mem H a ha)
    omega
  refine ⟨H, Zs, p_e (fun a => H.getD a 0) (fun a => Zs (H.getD a 0)) H.length 20000 0 (p_ct pQ0 (m_gs L H 0 0) (36 * 0 + 0) 0), hH, ⟨a0, ha0, hk0, fun a ha hh => ?_⟩, fun a ha => by have := hmem a ha; omega, fun v hv a ha => ?_, fun h3 => ?_⟩
  rotate_left
  · have hv75 : ∀ x, x < 6 → v 75 (6 + x) = u 10 x := fun x hx => by rw [hv _ _ (by omega) (by omega) (by omega), (hS.1 x hx).2.1]
    exact ns_eq (L := L) (Zs := Zs) (W := u 10) hn (by rw [hv _ _ (by omega) (by omega) (by omega)]; exact e2) hk w hv75 hH (fun x hx => by rw [hv _ _ (by omega) (by omega) (by omega), hv _ _ (by omega) (by omega) (by omega)]; exact ⟨(hl x hx).1, (hl x hx).2.1⟩) (fun x hx => ⟨(hl x hx).2.2.1, (hl x hx).2.2.2⟩) a ha
  · have h10 : u0 10 = u 10 := o4 10 (by omega)
    obtain ⟨uc, c1, c2, c3, c4⟩ := exp_c (pz := pz) (pl := pl) (n := n) (st := st) (k0 := k0) (u := u0) (L := L) (Zs := Zs) (H := H) o1 hp hn (by rw [o4 pl (by omega)]; exact e1) (by omega) (fun x hx => by rw [o4 9 (by omega), o4 (pl + 4) (by omega), (hS.1 x (by omega)).1, (plan_k hP e2 hn hx).2.2.1]; exact ⟨(hl x hx).1, (hl x hx).2.1⟩) (fun x hx => ⟨(hl x hx).2.2.1, (hl x hx).2.2.2⟩) s2 (by omega) s3 (by rw [h10]; exact hH) h3
    refine ⟨uc, st + 1, ?_, c2, c4, by omega, fun a ha => funext fun b => by rw [c3 a b (by omega), o4 a ha]⟩
    unfold g_pf
    rw [am_ck_t (am_ix_nI (show k0 < 6 by omega) (by omega)), nI_clamp (by omega), c1, obs]
  · have h1 := he_inj (u 10) (u 10 k0) n 0 a a0
    rw [hH] at h1
    exact h1 ha ha0 (by rw [hh, hk0])
