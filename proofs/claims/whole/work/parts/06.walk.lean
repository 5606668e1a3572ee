/-! one instruction over M: the machine's rows -/
def am_Fl (own : String) (idx k f : Nat) (ty : FieldType) : Prop := ∃ r : vw_C, am_cl[k]? = some r ∧ f < r.2.2 ∧ am_ft k f = ty ∧
  (Cond.fieldLink own idx (r.2.1 f).1 (r.2.1 f).2.1 (r.2.1 f).2.2.1 ∈ lw_tbl ∨ ∃ host, Cond.fieldLinkNest own idx (r.2.1 f).1 (r.2.1 f).2.1 (r.2.1 f).2.2.1 host ∈ lw_tbl)
theorem am_en_o {g : am_G} {M : am_M} {i : Nat} (h : (am_sh M i).1 < 11) : am_en g M i = .inr ((am_sh M i).1, (List.range (am_sh M i).2).map (fun f => am_fv g M i f (am_ft (am_sh M i).1 f))) := by
  unfold am_en
  rw [if_pos h]
theorem am_en_q {g : am_G} {M : am_M} {i : Nat} (h : (am_sh M i).1 = 14) : am_en g M i = .inl (g.2.1 14, (am_sh M i).2, .inr (.inr (.inr (.inr (fun j => am_op g (am_ro M i j)))))) := by
  unfold am_en
  rw [if_neg (by omega), if_pos h]
theorem am_en_i {g : am_G} {M : am_M} {i : Nat} (h : 11 ≤ (am_sh M i).1) (h2 : (am_sh M i).1 ≠ 14) : am_en g M i = .inl (g.2.1 (am_sh M i).1, (am_sh M i).2, .inl (am_mu M i)) := by
  unfold am_en
  rw [if_neg (by omega), if_neg h2]
section AW
variable {p : Program} {l : Launch} {e : Env} {R : Room} {s : State} {m : MethodId} {args : Array Value} {below : List Frame} {meth : Method} {c : Code} {H : Heap} {locs : List Loc} {cells slots : Nat} {Q : State → Prop}
variable {pc : Nat} {ls : Array Slot} {rest : List Value} {g : am_G} {d : am_Y} {M : am_M}
theorem am_wget (hX : am_X g d p s m args meth c) (hR : am_R g M H) {idx k f i : Nat} {ty : FieldType} (hl : am_Fl d.1.cls idx k f ty) (hk : k < 11) (hs : (am_sh M i).1 = k) (hdg : decode d.2.1 pc = .ok (.getfield idx, 3))
    (kk : W p l e R s m args below meth c H locs cells slots Q (F0 m (pc + 3) ls (am_fv g M i f ty :: rest))) : W p l e R s m args below meth c H locs cells slots Q (F0 m pc ls (.ref (am_ad g i) :: rest)) := by
  obtain ⟨hx, hb, -, hown, -, hts, hK, -⟩ := hX
  obtain ⟨⟨C, T, N⟩, hc, hf, hty, hlk⟩ := hl
  have hs11 : (am_sh M i).1 < 11 := by omega
  have hat := am_at hR (show (am_sh M i).1 < 15 by omega)
  rw [am_en_o hs11, hs] at hat
  obtain ⟨r, h9, h9'⟩ := hR.2.2.2.2.2.2.2.2.1 i hs11
  rw [hs] at h9
  cases hc.symm.trans h9
  have hck := am_ckof hc
  have hin2 : ∀ w ∈ u_ws C T N, w ∈ lw_tbl.filter am_stb := fun w hw => List.mem_filter.mpr ⟨hck.2.1 w hw, by
    obtain ⟨z, -, rfl⟩ := List.mem_map.mp hw
    unfold u_lay
    split <;> rfl⟩
  have hts2 : ∀ w ∈ lw_tbl.filter am_stb, w.before args s = true := fun w hw => hts w (List.mem_filter.mp hw).1 (List.mem_filter.mp hw).2
  have hv : ((List.range (am_sh M i).2).map (fun f => am_fv g M i f (am_ft k f)))[f]? = some (am_fv g M i f ty) := by
    rw [List.getElem?_map, List.getElem?_range (by rw [← h9']; exact hf), ← hty]
    rfl
  rcases hlk with hlk | ⟨host, hlk⟩
  · exact va_get hx hb hts2 hin2 hown hK hR.2.2.1 _ hat hc f hf (hts _ hlk rfl) (fun _ h => h) hv hdg kk
  · exact va_getN hx hb hts2 hin2 hown hK hR.2.2.1 _ hat hc f hf (hts _ hlk rfl) (fun _ h => h) hv hdg kk
/-- a field is written: M1 is M but there -/
theorem am_wput (hX : am_X g d p s m args meth c) (hR : am_R g M H) (hS0 : va_S (am_A g) s.heap H locs) {idx k f i : Nat} {ty : FieldType} {v : Value} {M1 : am_M} (hl : am_Fl d.1.cls idx k f ty) (hk : k < 11) (hs : (am_sh M i).1 = k) (hn : narrow ty v = v) (hfit : fits ty v = true)
    (hfin : ∀ r : vw_C, am_cl[k]? = some r → (r.2.1 f).2.2.2 = false ∨ ((r.2.1 f).2.2.2 = true ∧ d.1.name = "<init>" ∧ (r.2.1 f).1 = d.1.cls ∧ Cond.fieldLink d.1.cls idx (r.2.1 f).1 (r.2.1 f).2.1 (r.2.1 f).2.2.1 ∈ lw_tbl))
    (hnx : am_nx M1 = am_nx M) (hsh : am_sh M1 = am_sh M) (hen : ∀ j, j ≠ i → am_en g M1 j = am_en g M j) (hmu : ∀ j, j < 4 → am_mu M1 j = am_mu M j) (hv : am_fv g M1 i f ty = v) (ho : ∀ f', f' ≠ f → am_fv g M1 i f' (am_ft k f') = am_fv g M i f' (am_ft k f'))
    (hdg : decode d.2.1 pc = .ok (.putfield idx, 3)) (kk : ∀ (H1 : Heap) (locs1 : List Loc), am_R g M1 H1 → va_S (am_A g) s.heap H1 locs1 → W p l e R s m args below meth c H1 locs1 cells slots Q (F0 m (pc + 3) ls rest)) : W p l e R s m args below meth c H locs cells slots Q (F0 m pc ls (v :: .ref (am_ad g i) :: rest)) := by
  obtain ⟨hx, hb, -, hown, hnm, hts, hK, -⟩ := hX
  obtain ⟨⟨C, T, N⟩, hc, hf, hty, hlk⟩ := hl
  have hs11 : (am_sh M i).1 < 11 := by omega
  have hs15 : (am_sh M i).1 < 15 := by omega
  have hat := am_in hR hs15
  have hA := am_adA hR hs15
  have hen1 : am_en g M1 i = .inr (k, (List.range (am_sh M i).2).map (fun f => am_fv g M1 i f (am_ft k f))) := by
    have e := am_en_o (g := g) (M := M1) (i := i) (by rw [hsh]; exact hs11)
    rw [hsh, hs] at e
    exact e
  rw [am_en_o hs11, hs] at hat
  obtain ⟨r, h1, cell, q1, q2, q3, q4⟩ := hat
  cases h1.symm.trans hc
  obtain ⟨r', h9, h9'⟩ := hR.2.2.2.2.2.2.2.2.1 i hs11
  rw [hs] at h9
  cases hc.symm.trans h9
  have hck := am_ckof hc
  have hin2 : ∀ w ∈ u_ws C T N, w ∈ lw_tbl.filter am_stb := fun w hw => List.mem_filter.mpr ⟨hck.2.1 w hw, by
    obtain ⟨z, -, rfl⟩ := List.mem_map.mp hw
    unfold u_lay
    split <;> rfl⟩
  have hts2 : ∀ w ∈ lw_tbl.filter am_stb, w.before args s = true := fun w hw => hts w (List.mem_filter.mp hw).1 (List.mem_filter.mp hw).2
  have hap := va_apart (own := d.1.cls) hts2 hin2 (am_ft k) hck.2.2.1 hck.2.2.2 hK hc
  obtain ⟨hSl, hfc, kC, hkC, hkind⟩ := hK.1 k _ hc
  obtain ⟨cf, kf, fi, fd, hi, hsl⟩ := hSl f hf
  have hlay := hts2 _ (hin2 _ (u_in_lay hf))
  have hst := (u_facts hfc hkC (u_lays hts2 hin2 hf) hi).1
  have hd : parseFieldDescriptor (T f).2.2.1 = some ty := by rw [← hty]; exact hck.2.2.1 f hf
  have fin : ∀ H' : Heap, H'[am_ad g i]? = some (cell.setSlot (g.1.2 k f) v) → H'.size = H.size → (∀ q, q ≠ am_ad g i → H'[q]? = H[q]?) → W p l e R s m args below meth c H' (locs ++ [⟨am_ad g i, g.1.2 k f⟩]) cells slots Q (F0 m (pc + 3) ls rest) := by
    intro H' e1 e2 e3
    refine kk H' _ (am_R_upd hR hnx hsh hs15 hen hmu ?_ e2 e3) (hS0.put e2 e3 hA)
    rw [hen1]
    refine ⟨_, hc, t_OB.to (V := updV (vp_V ((List.range (am_sh M i).2).map (fun f => am_fv g M i f (am_ft k f)))) f v) ⟨_, e1, q2, q3, t_set q4 hap hf v⟩ (fun j hj => ?_)⟩
    have hj2 : j < (am_sh M i).2 := by rw [← h9']; exact hj
    rw [am_V _ hj2]
    unfold updV
    split
    next hjf => rw [hjf, hty, hv]
    next hjf => rw [am_V _ hj2, ho j hjf]
  rcases hfin _ hc with hfin | ⟨hfin, hini, hdecl, hlk2⟩
  · unfold u_lay at hlay
    rw [if_neg (by rw [hfin]; decide)] at hlay
    have h6 := u_store hfc hkC hkind hlay hi hd hn hfit
    rcases hlk with hlk | ⟨host, hlk⟩
    · refine W.putK hx hb (f := fd) ⟨hown, hts _ hlk rfl, ⟨_, _, _, hi⟩, hst⟩ (by rw [q2]; exact h6) q1 q3 (by rw [hsl]; exact k2_hasslot (q4 f hf)) rfl rfl hdg fun H' e1 e2 e3 => ?_
      rw [hsl] at e1 ⊢
      exact fin H' e1 e2 e3
    · refine va_WputK hx hb (f := fd) hown (hts _ hlk rfl) hi hst (by rw [q2]; exact h6) q1 q3 (by rw [hsl]; exact k2_hasslot (q4 f hf)) rfl rfl hdg fun H' e1 e2 e3 => ?_
      rw [hsl] at e1 ⊢
      exact fin H' e1 e2 e3
  · unfold u_lay at hlay
    rw [if_pos hfin] at hlay
    have hcf : m.cls = cf := by
      obtain ⟨_, _, c', _, _, _, -, -, hf', -, -, -, hown2, -⟩ := Cond.laysFinal_spec hlay
      have e1 : c' = cf := by have := hi.symm.trans hf'; simp at this; exact this.1.symm
      rw [hdecl] at hown2
      rw [← e1]; exact Option.some.inj (hown.symm.trans hown2)
    have h6 := u_fits hfc hkC hkind (Or.inr hlay) hi hd hn hfit
    refine W.putFinK hx hb hown (hts _ hlk2 rfl) hi hst hcf (by rw [hnm]; exact hini) (by rw [q2]; exact h6) q1 q3 (by rw [hsl]; exact k2_hasslot (q4 f hf)) rfl rfl hdg fun H' e1 e2 e3 => ?_
    rw [hsl] at e1 ⊢
    exact fin H' e1 e2 e3
end AW
