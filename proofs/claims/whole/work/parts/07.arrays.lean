/-! arrays over M -/
theorem am_wI_en {g : am_G} {M : am_M} {i j k : Nat} {v : Int32} (h : k ≠ i) : am_en g (am_wI M i j v) k = am_en g M k := by
  unfold am_en am_wI am_fv
  simp only [am_sh, am_mu, am_lg, am_ro, am_rw_n h]
theorem am_wA_en {g : am_G} {M : am_M} {i k : Nat} {r : Nat → Int32} (h : k ≠ i) : am_en g (am_wA M i r) k = am_en g M k := by
  unfold am_en am_wA am_fv
  simp only [am_sh, am_mu, am_lg, am_ro, am_rw_n h]
theorem am_wL_en {g : am_G} {M : am_M} {i j k : Nat} {v : Int64} (h : k ≠ i) : am_en g (am_wL M i j v) k = am_en g M k := by
  unfold am_en am_wL am_fv
  simp only [am_sh, am_mu, am_lg, am_ro, am_rw_n h]
theorem am_wR_en {g : am_G} {M : am_M} {i j k v : Nat} (h : k ≠ i) : am_en g (am_wR M i j v) k = am_en g M k := by
  unfold am_en am_wR am_fv
  simp only [am_sh, am_mu, am_lg, am_ro, am_rw_n h]
section AR
variable {p : Program} {l : Launch} {e : Env} {R : Room} {s : State} {m : MethodId} {args : Array Value} {below : List Frame} {meth : Method} {c : Code} {H : Heap} {locs : List Loc} {cells slots : Nat} {Q : State → Prop}
variable {pc : Nat} {ls : Array Slot} {rest : List Value} {g : am_G} {d : am_Y} {M : am_M}
theorem am_wiald (hX : am_X g d p s m args meth c) (hR : am_R g M H) (hS : va_S (am_A g) s.heap H locs) {i : Nat} {j : Int32} (hs : (am_sh M i).1 = 12 ∨ (am_sh M i).1 = 16) (hin : vp_in j (am_sh M i).2) (hdg : decode d.2.1 pc = .ok (.iaload, 1))
    (kk : W p l e R s m args below meth c H locs cells slots Q (F0 m (pc + 1) ls (.int (am_mu M i j.toNatClampNeg) :: rest))) : W p l e R s m args below meth c H locs cells slots Q (F0 m pc ls (.int j :: .ref (am_ad g i) :: rest)) := by
  obtain ⟨hx, hb, -, hown, -, hts, hK⟩ := hX
  rcases hs with hs | hs
  · have hat := am_at hR (show (am_sh M i).1 < 15 by omega)
    rw [am_en_i (by omega) (by omega), hs] at hat
    exact va_iald hx hb hK.1 hR.2.2.1 _ 1 hat rfl hin hdg kk
  · have hlt := am_lt hR (show (am_sh M i).1 < 99 by omega)
    have hlt2 : j.toNatClampNeg < (am_sh M i).2 := Nat.not_le.mp fun q => hin (Or.inr q)
    obtain ⟨r1, r2, r3, r4, ⟨s0, s1, s2, s3⟩, r6, r7, r8, r9, r10⟩ := hR
    have h4 : i < 4 := by
      rcases Nat.lt_or_ge i 4 with q | q
      · exact q
      · exfalso
        have := r10 i q hlt
        omega
    rcases (show i = 0 ∨ i = 1 ∨ i = 2 ∨ i = 3 by omega) with rfl | rfl | rfl | rfl
    · omega
    · rw [s1] at hin hlt2
      rw [r6 _ hlt2] at kk
      exact va_sld hx hb hK.2.2.2.1 (by have := hK.2.2.2.2; omega) (fun z => by have := hK.2.2.2.2.1; have z : g.2.2.1 ≤ am_ad g 1 := z; omega) hS hin hdg kk
    · rw [s2] at hs; simp at hs
    · rw [s3] at hin hlt2
      rw [r8 _ hlt2] at kk
      exact va_ti hx hb hK.2.2.1.2 hS hin rfl hdg kk
theorem am_wbald (hX : am_X g d p s m args meth c) (hR : am_R g M H) {i : Nat} {j : Int32} (hs : (am_sh M i).1 = 11 ∨ (am_sh M i).1 = 13) (hin : vp_in j (am_sh M i).2) (hdg : decode d.2.1 pc = .ok (.baload, 1))
    (kk : W p l e R s m args below meth c H locs cells slots Q (F0 m (pc + 1) ls (.int (am_mu M i j.toNatClampNeg) :: rest))) : W p l e R s m args below meth c H locs cells slots Q (F0 m pc ls (.int j :: .ref (am_ad g i) :: rest)) := by
  obtain ⟨hx, hb, -, hown, -, hts, hK⟩ := hX
  have hat := am_at hR (show (am_sh M i).1 < 15 by omega)
  rw [am_en_i (by omega) (by omega)] at hat
  rcases hs with hs | hs
  · rw [hs] at hat
    exact va_bald hx hb hK.1 hR.2.2.1 _ 0 hat rfl hin hdg kk
  · rw [hs] at hat
    exact va_zald hx hb hK.1 hR.2.2.1 _ 2 hat rfl hin hdg kk
theorem am_wcald (hX : am_X g d p s m args meth c) (hR : am_R g M H) (hS : va_S (am_A g) s.heap H locs) {j : Int32} (hin : vp_in j 6) (hdg : decode d.2.1 pc = .ok (.caload, 1))
    (kk : W p l e R s m args below meth c H locs cells slots Q (F0 m (pc + 1) ls (.int (am_mu M 2 j.toNatClampNeg) :: rest))) : W p l e R s m args below meth c H locs cells slots Q (F0 m pc ls (.int j :: .ref (am_ad g 2) :: rest)) := by
  obtain ⟨hx, hb, -, hown, -, hts, hK⟩ := hX
  have hlt2 : j.toNatClampNeg < 6 := Nat.not_le.mp fun q => hin (Or.inr q)
  rw [hR.2.2.2.2.2.2.1 _ hlt2] at kk
  exact va_tc hx hb hK.2.1.2 hS hin rfl hdg kk
theorem am_waald (hX : am_X g d p s m args meth c) (hR : am_R g M H) {i : Nat} {j : Int32} (hs : (am_sh M i).1 = 14) (hin : vp_in j (am_sh M i).2) (hdg : decode d.2.1 pc = .ok (.aaload, 1))
    (kk : W p l e R s m args below meth c H locs cells slots Q (F0 m (pc + 1) ls (am_tr g (am_av (am_ro M i j.toNatClampNeg)) :: rest))) : W p l e R s m args below meth c H locs cells slots Q (F0 m pc ls (.int j :: .ref (am_ad g i) :: rest)) := by
  obtain ⟨hx, hb, -, hown, -, hts, hK⟩ := hX
  have hat := am_at hR (show (am_sh M i).1 < 15 by omega)
  rw [am_en_q hs] at hat
  rw [am_tr_av] at kk
  exact va_aldq hx hb hK.1 hR.2.2.1 _ 3 hat rfl hin hdg kk
theorem am_walen (hX : am_X g d p s m args meth c) (hR : am_R g M H) (hS : va_S (am_A g) s.heap H locs) {i : Nat} (hs : 11 ≤ (am_sh M i).1 ∧ (am_sh M i).1 < 17) (hdg : decode d.2.1 pc = .ok (.arraylength, 1))
    (kk : W p l e R s m args below meth c H locs cells slots Q (F0 m (pc + 1) ls (.int (nI (am_sh M i).2) :: rest))) : W p l e R s m args below meth c H locs cells slots Q (F0 m pc ls (.ref (am_ad g i) :: rest)) := by
  obtain ⟨hx, hb, -, hown, -, hts, hK⟩ := hX
  by_cases h15 : (am_sh M i).1 < 15
  · have hat := am_at hR h15
    by_cases h14 : (am_sh M i).1 = 14
    · rw [am_en_q h14] at hat
      exact va_alen hx hb hK.1 hR.2.2.1 _ 3 hat rfl rfl hdg kk
    · rw [am_en_i (by omega) h14] at hat
      rcases (show (am_sh M i).1 = 11 ∨ (am_sh M i).1 = 12 ∨ (am_sh M i).1 = 13 by omega) with h | h | h
      · rw [h] at hat
        exact va_alen hx hb hK.1 hR.2.2.1 _ 0 hat rfl rfl hdg kk
      · rw [h] at hat
        exact va_alen hx hb hK.1 hR.2.2.1 _ 1 hat rfl rfl hdg kk
      · rw [h] at hat
        exact va_alen hx hb hK.1 hR.2.2.1 _ 2 hat rfl rfl hdg kk
  · have hlt := am_lt hR (show (am_sh M i).1 < 99 by omega)
    obtain ⟨r1, r2, r3, r4, ⟨s0, s1, s2, s3⟩, r6, r7, r8, r9, r10⟩ := hR
    have h4 : i < 4 := by
      rcases Nat.lt_or_ge i 4 with q | q
      · exact q
      · have := r10 i q hlt
        omega
    rcases (show i = 0 ∨ i = 1 ∨ i = 2 ∨ i = 3 by omega) with rfl | rfl | rfl | rfl
    · omega
    · rw [s1] at kk
      exact va_slen hx hb hK.2.2.2.1 (by have := hK.2.2.2.2; omega) (fun z => by have := hK.2.2.2.2.1; have z : g.2.2.1 ≤ am_ad g 1 := z; omega) hS hdg kk
    · rw [s2] at kk
      exact va_tlen hx hb hK.2.1.2 hS rfl hdg kk
    · rw [s3] at kk
      exact va_tlen hx hb hK.2.2.1.2 hS rfl hdg kk
theorem am_updV (f : Nat → Int32) (k : Nat) (x : Int32) : updV (fun j => Value.int (f j)) k (.int x) = fun j => .int (upd f k x j) := by
  funext q
  unfold updV upd
  split <;> rfl
theorem am_wiast (hX : am_X g d p s m args meth c) (hR : am_R g M H) (hS : va_S (am_A g) s.heap H locs) {i : Nat} {j x : Int32} (hs : (am_sh M i).1 = 12) (hin : vp_in j (am_sh M i).2) (hdg : decode d.2.1 pc = .ok (.iastore, 1))
    (kk : ∀ (H1 : Heap) (locs1 : List Loc), am_R g (am_wI M i j.toNatClampNeg x) H1 → va_S (am_A g) s.heap H1 locs1 → W p l e R s m args below meth c H1 locs1 cells slots Q (F0 m (pc + 1) ls rest)) : W p l e R s m args below meth c H locs cells slots Q (F0 m pc ls (.int x :: .int j :: .ref (am_ad g i) :: rest)) := by
  obtain ⟨hx, hb, -, hown, -, hts, hK⟩ := hX
  have h15 : (am_sh M i).1 < 15 := by omega
  have hat := am_in hR h15
  have hA := am_adA hR h15
  rw [am_en_i (by omega) (by omega), hs] at hat
  have hat : H[am_ad g i]? = some (vp_cell (g.2.1 12) ((am_sh M i).2, .inl (am_mu M i))) := hat
  refine W.iast hx hb hat ((hK.1.2 1 _ rfl).1 (am_sh M i).2 (fun j => .int (am_mu M i j))) (fun q => by cases q) (by show ¬ (j < 0 ∨ (arrV _ _ _).slots.size ≤ _); rw [arrV_size]; exact hin) rfl rfl hdg fun H1 e1 z oq => ?_
  refine kk H1 _ (am_R_upd hR rfl rfl h15 (fun _ h => am_wI_en h) (fun q hq => am_rw_n (by have := am_ge hR h15; omega)) ?_ z oq) (hS.put z oq hA)
  rw [am_en_i (by show 11 ≤ (am_sh M i).1; omega) (by show (am_sh M i).1 ≠ 14; omega)]
  show H1[am_ad g i]? = some (vp_cell (g.2.1 (am_sh M i).1) ((am_sh M i).2, .inl (am_rw (am_mu M) i (upd (am_mu M i) j.toNatClampNeg x) i)))
  rw [e1, am_rw_s, hs, vp_cell_i, vp_cell_i, arrV_store, am_updV]
theorem am_wbast (hX : am_X g d p s m args meth c) (hR : am_R g M H) (hS : va_S (am_A g) s.heap H locs) {i : Nat} {j x : Int32} (hs : (am_sh M i).1 = 11) (hin : vp_in j (am_sh M i).2) (hdg : decode d.2.1 pc = .ok (.bastore, 1))
    (kk : ∀ (H1 : Heap) (locs1 : List Loc), am_R g (am_wI M i j.toNatClampNeg (x.toInt8.toInt32)) H1 → va_S (am_A g) s.heap H1 locs1 → W p l e R s m args below meth c H1 locs1 cells slots Q (F0 m (pc + 1) ls rest)) : W p l e R s m args below meth c H locs cells slots Q (F0 m pc ls (.int x :: .int j :: .ref (am_ad g i) :: rest)) := by
  obtain ⟨hx, hb, -, hown, -, hts, hK⟩ := hX
  have h15 : (am_sh M i).1 < 15 := by omega
  have hat := am_in hR h15
  have hA := am_adA hR h15
  rw [am_en_i (by omega) (by omega), hs] at hat
  have hat : H[am_ad g i]? = some (vp_cell (g.2.1 11) ((am_sh M i).2, .inl (am_mu M i))) := hat
  refine W.bast hx hb hat ((hK.1.2 0 _ rfl).1 (am_sh M i).2 (fun j => .int (am_mu M i j))) (fun q => by cases q) (by show ¬ (j < 0 ∨ (arrV _ _ _).slots.size ≤ _); rw [arrV_size]; exact hin) rfl rfl hdg fun H1 e1 z oq => ?_
  refine kk H1 _ (am_R_upd hR rfl rfl h15 (fun _ h => am_wI_en h) (fun q hq => am_rw_n (by have := am_ge hR h15; omega)) ?_ z oq) (hS.put z oq hA)
  rw [am_en_i (by show 11 ≤ (am_sh M i).1; omega) (by show (am_sh M i).1 ≠ 14; omega)]
  show H1[am_ad g i]? = some (vp_cell (g.2.1 (am_sh M i).1) ((am_sh M i).2, .inl (am_rw (am_mu M) i (upd (am_mu M i) j.toNatClampNeg (x.toInt8.toInt32)) i)))
  rw [e1, am_rw_s, hs, vp_cell_i, vp_cell_i, arrV_store]
  show some (arrV _ _ (updV _ _ (.int x.toInt8.toInt32))) = _
  rw [am_updV]
theorem am_wzast (hX : am_X g d p s m args meth c) (hR : am_R g M H) (hS : va_S (am_A g) s.heap H locs) {i : Nat} {j x : Int32} (hs : (am_sh M i).1 = 13) (hin : vp_in j (am_sh M i).2) (hz : narrow .boolean (.int x) = .int x) (hdg : decode d.2.1 pc = .ok (.bastore, 1))
    (kk : ∀ (H1 : Heap) (locs1 : List Loc), am_R g (am_wI M i j.toNatClampNeg x) H1 → va_S (am_A g) s.heap H1 locs1 → W p l e R s m args below meth c H1 locs1 cells slots Q (F0 m (pc + 1) ls rest)) : W p l e R s m args below meth c H locs cells slots Q (F0 m pc ls (.int x :: .int j :: .ref (am_ad g i) :: rest)) := by
  obtain ⟨hx, hb, -, hown, -, hts, hK⟩ := hX
  have h15 : (am_sh M i).1 < 15 := by omega
  have hat := am_in hR h15
  have hA := am_adA hR h15
  rw [am_en_i (by omega) (by omega), hs] at hat
  have hat : H[am_ad g i]? = some (vp_cell (g.2.1 13) ((am_sh M i).2, .inl (am_mu M i))) := hat
  refine W.zast hx hb hat ((hK.1.2 2 _ rfl).1 (am_sh M i).2 (fun j => .int (am_mu M i j))) (fun q => by cases q) (by show ¬ (j < 0 ∨ (arrV _ _ _).slots.size ≤ _); rw [arrV_size]; exact hin) rfl rfl hdg fun H1 e1 z oq => ?_
  refine kk H1 _ (am_R_upd hR rfl rfl h15 (fun _ h => am_wI_en h) (fun q hq => am_rw_n (by have := am_ge hR h15; omega)) ?_ z oq) (hS.put z oq hA)
  rw [am_en_i (by show 11 ≤ (am_sh M i).1; omega) (by show (am_sh M i).1 ≠ 14; omega)]
  show H1[am_ad g i]? = some (vp_cell (g.2.1 (am_sh M i).1) ((am_sh M i).2, .inl (am_rw (am_mu M) i (upd (am_mu M i) j.toNatClampNeg x) i)))
  rw [e1, am_rw_s, hs, vp_cell_i, vp_cell_i, arrV_store, hz, am_updV]
theorem am_waast (hX : am_X g d p s m args meth c) (hR : am_R g M H) (hS : va_S (am_A g) s.heap H locs) {i v : Nat} {j : Int32} (hs : (am_sh M i).1 = 14) (hv : (am_sh M v).1 = 7) (hin : vp_in j (am_sh M i).2) (hdg : decode d.2.1 pc = .ok (.aastore, 1))
    (kk : ∀ (H1 : Heap) (locs1 : List Loc), am_R g (am_wR M i j.toNatClampNeg v) H1 → va_S (am_A g) s.heap H1 locs1 → W p l e R s m args below meth c H1 locs1 cells slots Q (F0 m (pc + 1) ls rest)) : W p l e R s m args below meth c H locs cells slots Q (F0 m pc ls (.ref (am_ad g v) :: .int j :: .ref (am_ad g i) :: rest)) := by
  obtain ⟨hx, hb, -, hown, -, hts, hK⟩ := hX
  have h15 : (am_sh M i).1 < 15 := by omega
  have hat := am_in hR h15
  have hA := am_adA hR h15
  have hlt : j.toNatClampNeg < (am_sh M i).2 := Nat.not_le.mp fun q => hin (Or.inr q)
  have h0 : ¬ j < 0 := fun q => hin (Or.inl q)
  rw [am_en_q hs] at hat
  have hat : H[am_ad g i]? = some (vp_cell (g.2.1 14) ((am_sh M i).2, .inr (.inr (.inr (.inr (fun j => am_op g (am_ro M i j))))))) := hat
  have hav := am_in hR (show (am_sh M v).1 < 15 by omega)
  have hv4 := am_ge hR (show (am_sh M v).1 < 15 by omega)
  rw [am_en_o (by omega), hv] at hav
  obtain ⟨r', hr', cellV, g1, g2, g3, -⟩ := hav
  cases (show am_cl[7]? = some (RX8, TX8, 2) from rfl).symm.trans hr'
  have hcls := (hK.1.1 7 _ rfl).2
  obtain ⟨kA, comp, k1, k2, k3, -⟩ := (hK.1.2 3 _ rfl).2
  have hcomp : comp = g.1.1 7 := Option.some.inj (k3.symm.trans hcls.1)
  subst hcomp
  obtain ⟨kC, hkC, -⟩ := hcls.2
  refine W.aast hx hb hat (fun q h => by cases h) (fun h => by cases h) k1 k2 rfl hkC ⟨h0, by show _ < (arrV _ _ _).slots.size; rw [arrV_size]; exact hlt⟩ g1 (fun q h => by rw [g3] at h; cases h) (by rw [g2]; exact hkC) (by rw [g2]; exact va_assign hcls) rfl rfl hdg fun H1 e1 z oq => ?_
  refine kk H1 _ (am_R_upd hR rfl rfl h15 (fun _ h => am_wR_en h) (fun q hq => rfl) ?_ z oq) (hS.put z oq hA)
  rw [am_en_q (by show (am_sh M i).1 = 14; exact hs)]
  show H1[am_ad g i]? = some (vp_cell (g.2.1 14) ((am_sh M i).2, .inr (.inr (.inr (.inr (fun q => am_op g (am_rw (am_ro M) i (va_up (am_ro M i) j.toNatClampNeg v) i q)))))))
  rw [e1, am_rw_s, vp_cell_q, vp_cell_q, arrV_store]
  congr 2
  funext q
  unfold updV va_up
  split
  · cases v with
    | zero => omega
    | succ n => rfl
  · rfl
end AR
