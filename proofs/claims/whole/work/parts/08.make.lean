/-! cells are made; rows are copied; statics -/
theorem am_mk_en {g : am_G} {M : am_M} {k n i : Nat} (h : i ≠ am_nx M) : am_en g (am_mk M k n) i = am_en g M i := by
  have h : i ≠ M.1 := h
  unfold am_en am_mk am_fv
  simp only [am_sh, am_mu, am_lg, am_ro, am_rw_n h]
theorem am_R_push {g : am_G} {M : am_M} {H H1 : Heap} {k n : Nat} (hR : am_R g M H) (hk : k < 15) (hk2 : k < 11 → ∃ r, am_cl[k]? = some r ∧ r.2.2 = n) (hat : va_at g.1 am_cl (H.size, am_en g (am_mk M k n) (am_nx M)) H1) (hz : H1.size = H.size + 1) (oq : ∀ q, q < H.size → H1[q]? = H[q]?) : am_R g (am_mk M k n) H1 := by
  obtain ⟨r1, r2, r3, r4, r5, r6, r7, r8, r9, r10⟩ := hR
  have hn1 : am_nx (am_mk M k n) = am_nx M + 1 := rfl
  have hs1 : ∀ i, i ≠ am_nx M → am_sh (am_mk M k n) i = am_sh M i := fun i h => am_rw_n h
  have hs0 : am_sh (am_mk M k n) (am_nx M) = (k, n) := am_rw_s
  have hm1 : ∀ i, i ≠ am_nx M → am_mu (am_mk M k n) i = am_mu M i := fun i h => am_rw_n h
  refine ⟨by rw [hn1, hz]; omega, by rw [hn1]; omega, fun j q hj => ?_, fun i hi => ?_, ?_, ?_, ?_, ?_, fun i hi => ?_, fun i h1 h2 => ?_⟩
  · obtain ⟨j1, j2⟩ := am_ws_at hj
    rw [hn1] at j1
    by_cases hjn : j + 4 = am_nx M
    · rw [j2, hjn]
      rw [show H.size = g.2.2.1 + j by omega] at hat
      exact hat
    · rw [j2, am_mk_en hjn]
      have h5 := r3 j _ (by rw [show j = j + 4 - 4 by omega]; exact am_ws_get (g := g) (by omega) (show j + 4 < am_nx M by omega))
      rw [am_ad_hi g (show 4 ≤ j + 4 by omega), show j + 4 - 4 = j by omega] at h5
      exact h5.kept (oq _ (h5.lt))
  · rw [hn1] at hi
    rw [hs1 i (by omega)]
    exact r4 i (by omega)
  · rw [hs1 0 (by omega), hs1 1 (by omega), hs1 2 (by omega), hs1 3 (by omega)]
    exact r5
  · rw [hm1 1 (by omega)]
    exact r6
  · rw [hm1 2 (by omega)]
    exact r7
  · rw [hm1 3 (by omega)]
    exact r8
  · by_cases h : i = am_nx M
    · subst h
      rw [hs0] at hi ⊢
      exact hk2 hi
    · rw [hs1 i h] at hi ⊢
      exact r9 i hi
  · rw [hn1] at h2
    by_cases h : i = am_nx M
    · subst h
      rw [hs0]
      exact hk
    · rw [hs1 i h]
      exact r10 i h1 (by omega)
theorem am_adnx {g : am_G} {M : am_M} {H : Heap} (hR : am_R g M H) : am_ad g (am_nx M) = H.size := by
  obtain ⟨r1, r2, -⟩ := hR
  rw [am_ad_hi g r2]
  omega
theorem am_S_push {g : am_G} {s : State} {H H1 : Heap} {locs : List Loc} (hS : va_S (am_A g) s.heap H locs) (hz : H1.size = H.size + 1) (oq : ∀ q, q < H.size → H1[q]? = H[q]?) : va_S (am_A g) s.heap H1 locs :=
  ⟨Nat.le_trans hS.1 (by omega), fun x h1 h2 => (oq x (Nat.lt_of_lt_of_le h1 hS.1)).trans (hS.2.1 x h1 h2), hS.2.2⟩
theorem am_fv0 (g : am_G) (M : am_M) (k n f : Nat) (ty : FieldType) (h : ty = .int ∨ ty = .long ∨ ty = .boolean ∨ (∃ t, ty = .array t) ∨ ∃ C, ty = .object C) : defaultValue ty = am_fv g (am_mk M k n) (am_nx M) f ty := by
  have h1 : am_mu (am_mk M k n) (am_nx M) = fun _ => 0 := am_rw_s
  have h2 : am_lg (am_mk M k n) (am_nx M) = fun _ => 0 := am_rw_s
  have h3 : am_ro (am_mk M k n) (am_nx M) = fun _ => 0 := am_rw_s
  unfold am_fv
  rcases h with rfl | rfl | rfl | ⟨t, rfl⟩ | ⟨C, rfl⟩
  · rw [h1]; rfl
  · rw [h2]; rfl
  · rw [h1]; rfl
  · rw [h3]; rfl
  · rw [h3]; rfl
def am_tyok (ty : FieldType) : Bool := match ty with
  | .int => true
  | .long => true
  | .boolean => true
  | .array _ => true
  | .object _ => true
  | _ => false
theorem am_tyok_of {ty : FieldType} (h : am_tyok ty = true) : ty = .int ∨ ty = .long ∨ ty = .boolean ∨ (∃ t, ty = .array t) ∨ ∃ C, ty = .object C := by
  cases ty <;> simp [am_tyok] at h <;> simp
section AK
variable {p : Program} {l : Launch} {e : Env} {R : Room} {s : State} {m : MethodId} {args : Array Value} {below : List Frame} {meth : Method} {c : Code} {H : Heap} {locs : List Loc} {cells slots : Nat} {Q : State → Prop}
variable {pc : Nat} {ls : Array Slot} {rest : List Value} {g : am_G} {d : am_Y} {M : am_M}
theorem am_wnew (hX : am_X g d p s m args meth c) (hR : am_R g M H) (hS : va_S (am_A g) s.heap H locs) {idx k : Nat} {r : vw_C} (hc : am_cl[k]? = some r) (hk : k < 11) (hw1 : Cond.classLink d.1.cls idx r.1 ∈ lw_tbl) (hw2 : Cond.instantiable r.1 r.2.2 ∈ lw_tbl) (hw3 : Cond.initialized r.1 ∈ lw_tbl) (hty : ∀ f, f < r.2.2 → am_tyok (am_ft k f) = true)
    (hcells : cells + 1 ≤ R.cells) (hslots : slots + r.2.2 ≤ R.slots) (hdg : decode d.2.1 pc = .ok (.new idx, 3))
    (kk : ∀ (H1 : Heap), am_R g (am_mk M k r.2.2) H1 → va_S (am_A g) s.heap H1 locs → W p l e R s m args below meth c H1 locs (cells + 1) (slots + r.2.2) Q (F0 m (pc + 3) ls (.ref (am_ad g (am_nx M)) :: rest))) : W p l e R s m args below meth c H locs cells slots Q (F0 m pc ls rest) := by
  obtain ⟨hx, hb, -, hown, -, hts, hK⟩ := hX
  obtain ⟨C, T, N⟩ := r
  have hck := am_ckof hc
  have hin2 : ∀ w ∈ u_ws C T N, w ∈ lw_tbl.filter am_stb := fun w hw => List.mem_filter.mpr ⟨hck.2.1 w hw, by
    obtain ⟨z, -, rfl⟩ := List.mem_map.mp hw
    unfold u_lay
    split <;> rfl⟩
  have hts2 : ∀ w ∈ lw_tbl.filter am_stb, w.before args s = true := fun w hw => hts w (List.mem_filter.mp hw).1 (List.mem_filter.mp hw).2
  have hKn := hK.1.1 k _ hc
  rw [am_adnx hR] at kk
  refine W.newcK hx hb hown (hts _ hw1 rfl) (hts _ hw2 rfl) (hts _ hw3 rfl) rfl hdg hcells hslots hKn.2.1 rfl fun H1 kC hkC e1 z1 o1 => ?_
  refine kk H1 (am_R_push hR (by omega) (fun _ => ⟨_, hc, rfl⟩) ?_ z1 o1) (am_S_push hS z1 o1)
  rw [am_en_o (by rw [show am_sh (am_mk M k N) (am_nx M) = (k, N) from am_rw_s]; exact hk), show am_sh (am_mk M k N) (am_nx M) = (k, N) from am_rw_s]
  refine ⟨_, hc, (u_born (am_ft k) hts2 hin2 hKn hkC e1 hck.2.2.1).to (fun f hf => ?_)⟩
  rw [am_V _ hf]
  exact am_fv0 g M k N f _ (am_tyok_of (hty f hf))
/-- an array of bytes, ints, booleans -/
theorem am_wnewa (hX : am_X g d p s m args meth c) (hR : am_R g M H) (hS : va_S (am_A g) s.heap H locs) {at' : ArrayType} {k : Nat} {n : Int32} (hk : (k = 11 ∧ at' = .byte) ∨ (k = 12 ∧ at' = .int) ∨ (k = 13 ∧ at' = .boolean)) (hw : Cond.arrayClass (newarray.typeOf at') ∈ lw_tbl) (hn : ¬ n < 0) (hn2 : n.toNatClampNeg ≤ 100000)
    (hcells : cells + 1 ≤ R.cells) (hslots : slots + n.toNatClampNeg ≤ R.slots) (hdg : decode d.2.1 pc = .ok (.newarray at', 2))
    (kk : ∀ (H1 : Heap), am_R g (am_mk M k n.toNatClampNeg) H1 → va_S (am_A g) s.heap H1 locs → W p l e R s m args below meth c H1 locs (cells + 1) (slots + n.toNatClampNeg) Q (F0 m (pc + 2) ls (.ref (am_ad g (am_nx M)) :: rest))) : W p l e R s m args below meth c H locs cells slots Q (F0 m pc ls (.int n :: rest)) := by
  obtain ⟨hx, hb, -, hown, -, hts, hK⟩ := hX
  rw [am_adnx hR] at kk
  have hcb : componentBytes (newarray.typeOf at') ≤ 8 := by rcases hk with ⟨-, rfl⟩ | ⟨-, rfl⟩ | ⟨-, rfl⟩ <;> decide
  have hbytes : n.toNatClampNeg * componentBytes (newarray.typeOf at') ≤ 536870912 := by
    have := Nat.mul_le_mul hn2 hcb
    omega
  have h0 : am_mu (am_mk M k n.toNatClampNeg) (am_nx M) = fun _ => 0 := am_rw_s
  have hs0 : am_sh (am_mk M k n.toNatClampNeg) (am_nx M) = (k, n.toNatClampNeg) := am_rw_s
  refine va_newaK hx hb (hts _ hw rfl) rfl hdg rfl hn rfl hbytes hcells hslots rfl fun H1 cA e1 z1 o1 hAr hNm => ?_
  refine kk H1 (am_R_push hR (by omega) (fun h => by omega) ?_ z1 o1) (am_S_push hS z1 o1)
  rw [am_en_i (by rw [hs0]; show 11 ≤ k; omega) (by rw [hs0]; show k ≠ 14; omega), hs0, h0]
  show H1[H.size]? = some (vp_cell (g.2.1 k) (n.toNatClampNeg, .inl (fun _ => 0)))
  rw [e1, vp_cell_i]
  rcases hk with ⟨rfl, rfl⟩ | ⟨rfl, rfl⟩ | ⟨rfl, rfl⟩
  · have hc : cA = g.2.1 11 := Option.some.inj (hNm.symm.trans (hK.1.2 0 _ rfl).2)
    rw [hc]; rfl
  · have hc : cA = g.2.1 12 := Option.some.inj (hNm.symm.trans (hK.1.2 1 _ rfl).2)
    rw [hc]; rfl
  · have hc : cA = g.2.1 13 := Option.some.inj (hNm.symm.trans (hK.1.2 2 _ rfl).2)
    rw [hc]; rfl
theorem am_wanew (hX : am_X g d p s m args meth c) (hR : am_R g M H) (hS : va_S (am_A g) s.heap H locs) {idx : Nat} {n : Int32} (hw1 : Cond.classLink d.1.cls idx "NoonJars$Row" ∈ lw_tbl) (hw2 : Cond.arrayOver (.object "NoonJars$Row") ∈ lw_tbl) (hn : ¬ n < 0) (hn2 : n.toNatClampNeg ≤ 100000)
    (hcells : cells + 1 ≤ R.cells) (hslots : slots + n.toNatClampNeg ≤ R.slots) (hdg : decode d.2.1 pc = .ok (.anewarray idx, 3))
    (kk : ∀ (H1 : Heap), am_R g (am_mk M 14 n.toNatClampNeg) H1 → va_S (am_A g) s.heap H1 locs → W p l e R s m args below meth c H1 locs (cells + 1) (slots + n.toNatClampNeg) Q (F0 m (pc + 3) ls (.ref (am_ad g (am_nx M)) :: rest))) : W p l e R s m args below meth c H locs cells slots Q (F0 m pc ls (.int n :: rest)) := by
  obtain ⟨hx, hb, -, hown, -, hts, hK⟩ := hX
  rw [am_adnx hR] at kk
  have h0 : am_ro (am_mk M 14 n.toNatClampNeg) (am_nx M) = fun _ => 0 := am_rw_s
  have hs0 : am_sh (am_mk M 14 n.toNatClampNeg) (am_nx M) = (14, n.toNatClampNeg) := am_rw_s
  refine W.anew hx hb hown (hts _ hw1 rfl) (hts _ hw2 rfl) rfl hdg rfl hn (by omega) hcells hslots fun cA kA comp f1 f2 f3 f4 => ?_
  generalize hH1 : H.push ({ cls := cA, slots := Array.replicate n.toNatClampNeg .null, vm := .none } : Cell) = H1
  have z1 : H1.size = H.size + 1 := by rw [← hH1, Array.size_push]
  have e1 : H1[H.size]? = some (arrV cA n.toNatClampNeg (fun _ => .null)) := by rw [← hH1, Array.getElem?_push_size, ← arrV_new]
  have o1 : ∀ q : Nat, q < H.size → H1[q]? = H[q]? := fun q hq => by rw [← hH1, Array.getElem?_push, if_neg (Nat.ne_of_lt hq)]
  refine kk H1 (am_R_push hR (by omega) (fun h => by omega) ?_ z1 o1) (am_S_push hS z1 o1)
  rw [am_en_q (by rw [hs0]), hs0, h0]
  show H1[H.size]? = some (vp_cell (g.2.1 14) (n.toNatClampNeg, .inr (.inr (.inr (.inr (fun _ => none))))))
  obtain ⟨kA', comp', k1, k2, k3, k4⟩ := (hK.1.2 3 _ rfl).2
  have hc : cA = g.2.1 14 := Option.some.inj (f1.symm.trans k4)
  rw [e1, vp_cell_q, hc]
  rfl
theorem am_wgets (hX : am_X g d p s m args meth c) (hS : va_S (am_A g) s.heap H locs) {idx k : Nat} (hk : (k = 2 ∧ Cond.fieldLink d.1.cls idx "NoonJars$Kinds" "LETTERS" "[C" ∈ lw_tbl) ∨ (k = 3 ∧ Cond.fieldLink d.1.cls idx "NoonJars$Pourings" "UNITS" "[I" ∈ lw_tbl)) (hdg : decode d.2.1 pc = .ok (.getstatic idx, 3))
    (kk : W p l e R s m args below meth c H locs cells slots Q (F0 m (pc + 3) ls (.ref (am_ad g k) :: rest))) : W p l e R s m args below meth c H locs cells slots Q (F0 m pc ls rest) := by
  obtain ⟨hx, hb, -, hown, -, hts, hK⟩ := hX
  rcases hk with ⟨rfl, hl⟩ | ⟨rfl, hl⟩
  · exact va_gets hx hb hK.2.1.1 hS hown (hts _ hl rfl) (fun _ h => h) hdg kk
  · exact va_gets hx hb hK.2.2.1.1 hS hown (hts _ hl rfl) (fun _ h => h) hdg kk
theorem am_wcopy (hX : am_X g d p s m args meth c) (hR : am_R g M H) (hS : va_S (am_A g) s.heap H locs) {idx i0 i1 : Nat} {sp dp n : Int32} (hw1 : Cond.methodLink d.1.cls idx arraycopyName ∈ lw_tbl) (hw2 : Cond.native arraycopyName ∈ lw_tbl) (hw3 : Cond.static arraycopyName ∈ lw_tbl) (hw4 : Cond.initialized "java/lang/System" ∈ lw_tbl)
    (hml : ls.size = d.2.2.1) (hs0 : (am_sh M i0).1 = 12) (hs1 : (am_sh M i1).1 = 12) (h1 : ¬ sp < 0) (h2 : ¬ dp < 0) (h3 : ¬ n < 0) (h4 : sp.toNatClampNeg + n.toNatClampNeg ≤ (am_sh M i0).2) (h5 : dp.toNatClampNeg + n.toNatClampNeg ≤ (am_sh M i1).2)
    (hframes : 1 ≤ R.frames) (hlocals : (rest.map fun v => v.category).sum + (nativeFrameWords "java/lang/System" "arraycopy" 5 + 11) ≤ R.locals) (hdg : decode d.2.1 pc = .ok (.invokestatic idx, 3))
    (kk : ∀ (H1 : Heap) (locs1 : List Loc), am_R g (am_wA M i1 (va_cpy (am_mu M i0) (am_mu M i1) sp.toNatClampNeg dp.toNatClampNeg n.toNatClampNeg)) H1 → va_S (am_A g) s.heap H1 locs1 → W p l e R s m args below meth c H1 locs1 cells slots Q (F0 m (pc + 3) ls rest)) : W p l e R s m args below meth c H locs cells slots Q (F0 m pc ls (.int n :: .int dp :: .ref (am_ad g i1) :: .int sp :: .ref (am_ad g i0) :: rest)) := by
  obtain ⟨hx, hb, hmx, hown, -, hts, hK⟩ := hX
  have nn : ∀ z : Int32, ¬ z < 0 → z.toInt = (z.toNatClampNeg : Int) := by
    intro z hz
    have hz0 : (0 : Int) ≤ z.toInt := by
      have := Int32.not_lt.mp hz
      simpa using Int32.le_iff_toInt_le.mp this
    show z.toInt = ((z.toInt.toNat : Nat) : Int)
    omega
  have h15 : (am_sh M i1).1 < 15 := by omega
  have hA := am_adA hR h15
  have hc0 := am_in hR (show (am_sh M i0).1 < 15 by omega)
  have hc1 := am_in hR h15
  rw [am_en_i (by omega) (by omega), hs0] at hc0
  rw [am_en_i (by omega) (by omega), hs1] at hc1
  have hc0 : H[am_ad g i0]? = some (vp_cell (g.2.1 12) ((am_sh M i0).2, .inl (am_mu M i0))) := hc0
  have hc1 : H[am_ad g i1]? = some (vp_cell (g.2.1 12) ((am_sh M i1).2, .inl (am_mu M i1))) := hc1
  intro T hT X
  obtain ⟨-, k0, hk0, cm0, hkk0⟩ := (hK.1.2 1 _ rfl).1 (am_sh M i0).2 (fun j => .int (am_mu M i0 j))
  obtain ⟨-, k1, hk1, cm1, hkk1⟩ := (hK.1.2 1 _ rfl).1 (am_sh M i1).2 (fun j => .int (am_mu M i1 j))
  obtain ⟨vm', X', step⟩ := X.arraycopy hx hown (hts _ hw1 rfl) (hts _ hw2 rfl) (hts _ hw3 rfl) (hts _ hw4 rfl) (src := am_ad g i0) (dst := am_ad g i1) (cs := vp_cell (g.2.1 12) ((am_sh M i0).2, .inl (am_mu M i0))) (cd := vp_cell (g.2.1 12) ((am_sh M i1).2, .inl (am_mu M i1))) (srcPos := sp) (destPos := dp) (n := n) (by rw [hT]; exact hc0) (by rw [hT]; exact hc1)
    (fun _ h => by cases h) (fun _ h => by cases h) (fun h => by cases h) (fun h => by cases h) hk0 hk1 hkk0 hkk1 (by simp [refKind]) h1 h2 h3
    (by rw [nn sp h1, nn n h3]; show ¬ _ > ((arrV _ _ (fun j => .int (am_mu M i0 j))).slots.size : Int); rw [arrV_size]; omega)
    (by rw [nn dp h2, nn n h3]; show ¬ _ > ((arrV _ _ (fun j => .int (am_mu M i1 j))).slots.size : Int); rw [arrV_size]; omega)
    (fun vm₁ _ i hi => by
      have e : (vp_cell (g.2.1 12) ((am_sh M i0).2, .inl (am_mu M i0))).slots.getD (sp.toNatClampNeg + i) .null = .int (am_mu M i0 (sp.toNatClampNeg + i)) := by
        show (arrV _ _ (fun j => .int (am_mu M i0 j))).slots.getD _ _ = _
        rw [Array.getD_eq_getD_getElem?, arrV_read _ _ (by omega)]
        rfl
      refine ⟨?_, ?_⟩
      · rw [e]
        rfl
      · rw [e]
        exact trivial)
    (g := F0 m pc ls (.int n :: .int dp :: .ref (am_ad g i1) :: .int sp :: .ref (am_ad g i0) :: rest)) rfl (by show ls.size = c.maxLocals; rw [hmx]; exact hml) (rest := rest) rfl (by rw [hb]; exact hdg) hframes (by show 2 * 0 + _ + _ ≤ _; omega)
  have e1 : copied (vp_cell (g.2.1 12) ((am_sh M i0).2, .inl (am_mu M i0))) (vp_cell (g.2.1 12) ((am_sh M i1).2, .inl (am_mu M i1))) sp dp n = vp_cell (g.2.1 12) ((am_sh M i1).2, .inl (va_cpy (am_mu M i0) (am_mu M i1) sp.toNatClampNeg dp.toNatClampNeg n.toNatClampNeg)) := va_copied (fun z => .int z) _ _ (am_mu M i0) (am_mu M i1) h4
  rw [e1] at X' step
  generalize hcell : vp_cell (g.2.1 12) ((am_sh M i1).2, .inl (va_cpy (am_mu M i0) (am_mu M i1) sp.toNatClampNeg dp.toNatClampNeg n.toNatClampNeg)) = cell at X' step
  have hl : am_ad g i1 < H.size := (Array.getElem?_eq_some_iff.mp hc1).1
  have hheap : ((T.setVm vm').setCell (am_ad g i1) cell).heap = H.setIfInBounds (am_ad g i1) cell := by rw [← hT]; rfl
  have oq : ∀ q : Nat, q ≠ am_ad g i1 → (H.setIfInBounds (am_ad g i1) cell)[q]? = H[q]? := fun q hq => by simp [Array.getElem?_setIfInBounds, Ne.symm hq]
  have hz : (H.setIfInBounds (am_ad g i1) cell).size = H.size := by simp
  obtain ⟨t, a1, b1⟩ := kk _ _ (am_R_upd hR rfl rfl h15 (fun _ h => am_wA_en h) (fun q hq => am_rw_n (by have := am_ge hR h15; omega)) (by
      rw [am_en_i (by show 11 ≤ (am_sh M i1).1; omega) (by show (am_sh M i1).1 ≠ 14; omega)]
      show (H.setIfInBounds (am_ad g i1) cell)[am_ad g i1]? = some (vp_cell (g.2.1 (am_sh M i1).1) ((am_sh M i1).2, .inl (am_rw (am_mu M) i1 _ i1)))
      rw [am_rw_s, hs1, hcell]
      simp [Array.getElem?_setIfInBounds, hl]) hz oq) ⟨by rw [hz]; exact hS.1, fun q g1 g2 => by
      rw [oq q (fun e => g2 (by rw [e]; exact hA))]
      exact hS.2.1 q g1 g2, fun q hq => by
      rcases List.mem_append.mp hq with h | h
      · exact hS.2.2 q h
      · obtain ⟨z, -, hz⟩ := List.mem_map.mp h
        rw [← hz]
        exact hA⟩ _ hheap X'
  exact ⟨t, step t a1, b1⟩
end AK
