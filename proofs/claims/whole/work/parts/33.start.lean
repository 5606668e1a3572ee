def R_law : String := "NoonJarsLaw"
def lw_P (b : Addr) (xs : List Int32) (args : Array Value) (s : State) : Prop := args = #[.ref b] ∧ s.IntsAt b xs ∧ xs.length ≤ 3072 ∧ (Jvm.Cond.and given_1 narrow_1).before args s = true
def lw_Q (_ : Array Value) (s : State) (o : Outcome) (t : State) : Prop := o = .returned (some (.int 1)) ∧ Framed s o t [] 600000 7302250
def lw_Z (below : List Frame) (a : Array Value) (s : State) : State → Prop := fun t => ∃ o, t.status = .running ∧ Ended t below o ∧ lw_Q a s o t
/-- the law's own end, with 1 on the stack, nothing written that was there before, its room as the claim has it -/
theorem lw_ret {p : Program} {l : Launch} {e : Env} {s : State} {m : MethodId} {below : List Frame} {meth : Method} {c : Code} {b : Nat} (hx : p.tables.exec = Jvm.exec) (hb : c.code = code) (hr : meth.sig.returnType = ret) (hlocks : meth.locks = false) {pc : Nat} {H : Heap} {ls : Array Slot} (hdg : decode code pc = .ok (.ireturn, 1)) : W p l e room_1 s m #[Value.ref b] below meth c H [] 600000 7302250 (lw_Z below #[Value.ref b] s) (F0 m pc ls [.int 1]) := by
  intro T hT X
  obtain ⟨fs, hret, hrun, hended, hW, hframe⟩ := X.leave (v := some (.int 1)) (hlocks := hlocks) (fun h => by rw [hr] at h; cases h)
  have hmeth' : T.vm.method? m = some meth := X.method'
  refine ⟨T.setFrames fs, ?_, .returned (some (.int 1)), hrun, hended, rfl, ⟨_, rfl⟩, hW, hframe⟩
  jvm_step X.here [X.here.top, hx, hb, hdg, hmeth', hr, ret, narrow_b1]
  (try refine ⟨rfl, ?_⟩); (try refine ⟨rfl, ?_⟩)
  first | (intro acts; rw [hret _ acts rfl rfl rfl]) | rw [hret _ _ rfl rfl rfl]
  exact Steps.refl _
/-- what holds at the law's entry: the machine, the code, the tables' words (any of lw_tbl by 'hts w (by decide +kernel)'), the script of L ints xs at the cell b, what the Statement gives of the start (any of its parts by flat_of_before) -/
def lw_At (p : Program) (s : State) (m : MethodId) (meth : Method) (c : Code) (b L : Nat) (xs : Nat → Int32) : Prop :=
  p.tables.exec = Jvm.exec ∧ c.code = code ∧ meth.sig.returnType = ret ∧ c.maxLocals = 4 ∧ s.vm.findClass R_law = some m.cls ∧ (∀ w ∈ lw_tbl, w.before #[Value.ref b] s = true) ∧ va_X b L xs s s.heap ∧ b < s.heap.size ∧ meth.locks = false ∧ (Jvm.Cond.and given_1 narrow_1).before #[Value.ref b] s = true ∧ meth.name = "law"

def am_M0 (g : am_G) : am_M := (4, 0, fun i => if i = 1 then (16, am_sn g) else if i = 2 then (15, 6) else if i = 3 then (16, 3) else (99, 0), fun i j => if i = 1 then am_sc g j else if i = 2 then am_let j else if i = 3 then am_uni j else 0, fun _ _ => 0, fun _ _ => 0)
/-- what the law's rounds need: an invariant between the class and the reference -/
def am_Good (l : Launch) (g : am_G) : Prop := ∃ J : Nat → am_M → Prop, J 0 (am_first (am_M0 g)) ∧ (∀ i M, J i M → i + 6 ≤ am_sn g → ∃ M2, am_stp l g i M M2 ∧ J (i + 6) M2) ∧ ∀ i M, i ≤ am_sn g → J i M → am_nx M ≤ 600000 ∧ am_sl M ≤ 7302250
theorem am_R0 {g : am_G} {H : Heap} (h : H.size = g.2.2.1) : am_R g (am_M0 g) H := by
  refine ⟨by rw [h]; rfl, Nat.le_refl 4, fun k q hk => by simp [am_ws, am_M0] at hk, fun i hi => ?_, ⟨rfl, rfl, rfl, rfl⟩, fun j hj => rfl, fun j hj => rfl, fun j hj => rfl, fun i hi => ?_, fun i h1 h2 => ?_⟩
  · have hi : 4 ≤ i := hi
    show (if i = 1 then _ else if i = 2 then _ else if i = 3 then _ else ((99, 0) : Nat × Nat)).1 = 99
    rw [if_neg (by omega), if_neg (by omega), if_neg (by omega)]
  · have hi : (if i = 1 then (16, am_sn g) else if i = 2 then (15, 6) else if i = 3 then (16, 3) else ((99, 0) : Nat × Nat)).1 < 11 := hi
    exfalso
    split at hi
    · simp at hi
    · split at hi
      · simp at hi
      · split at hi <;> simp at hi
  · have h2 : i < 4 := h2
    omega
theorem am_arr {C : FieldType} {s : State} {cA comp : ClassId} {kA : Class} (h1 : s.vm.classes[cA]? = some kA) (h2 : kA.kind = .array comp C) : ArrOfT s cA C := fun N z => ⟨(fun k h => by cases h), kA, h1, comp, h2⟩
set_option maxRecDepth 100000 in
set_option maxHeartbeats 4000000 in
theorem whole_start0 {p : Program} {e : Env} {s : State} {m : MethodId} {below : List Frame} {meth : Method} {c : Code} (l : Launch) {b L : Nat} {xs : Nat → Int32} (hL : L ≤ 3072) (hgood : ∀ g : am_G, am_sn g ≤ 3072 → am_Good l g) (C0 : lw_At p s m meth c b L xs) : W p l e room_1 s m #[Value.ref b] below meth c s.heap [] 0 0 (lw_Z below #[Value.ref b] s) (entryFrame m ([Value.ref b] : List Value).toArray 4) := by
  obtain ⟨hx, hb, hr, hml, hown, hts, hX, hbl, hlocks, hgv, hnm⟩ := C0
  have hA : ∀ a : Nat, a < s.heap.size → ¬ (fun q : Nat => s.heap.size ≤ q) a := fun a h => Nat.not_le.mpr h
  have hs := flat_of_before _ hgv
  obtain ⟨t2, ht2, hT2⟩ := va_Tof (tm := Term.static "NoonJars$Kinds" "LETTERS" "[C") (ty := .char) (N := 6) (f := fun j => .int (am_let j)) (by decide) (hs _ (by decide +kernel)) (va_eqt (hs _ (by decide +kernel))) (fun j hj => by
    rcases (show j = 0 ∨ j = 1 ∨ j = 2 ∨ j = 3 ∨ j = 4 ∨ j = 5 by omega) with rfl | rfl | rfl | rfl | rfl | rfl <;> exact va_eqt (hs _ (by decide +kernel))) hA
  have hZ2 := va_Zref (hts (.laysStatic "NoonJars$Kinds" "LETTERS" "[C") (List.mem_of_getElem? (i := 475) (by decide +kernel))) (hts (.initialized "NoonJars$Kinds") (List.mem_of_getElem? (i := 85) (by decide +kernel))) ht2 hA
  obtain ⟨t3, ht3, hT3⟩ := va_Tof (tm := Term.static "NoonJars$Pourings" "UNITS" "[I") (ty := .int) (N := 3) (f := fun j => .int (am_uni j)) (by decide) (hs _ (by decide +kernel)) (va_eqt (hs _ (by decide +kernel))) (fun j hj => by
    rcases (show j = 0 ∨ j = 1 ∨ j = 2 by omega) with rfl | rfl | rfl <;> exact va_eqt (hs _ (by decide +kernel))) hA
  have hZ3 := va_Zref (hts (.laysStatic "NoonJars$Pourings" "UNITS" "[I") (List.mem_of_getElem? (i := 760) (by decide +kernel))) (hts (.initialized "NoonJars$Pourings") (List.mem_of_getElem? (i := 87) (by decide +kernel))) ht3 hA
  obtain ⟨c0, i0, u0⟩ := u_known (n := 6) hts am_ck0.2.1 (hts (.instantiable "NoonJars$Burnings" 6) (List.mem_of_getElem? (i := 192) (by decide +kernel)))
  obtain ⟨c1, i1, u1⟩ := u_known (n := 4) hts am_ck1.2.1 (hts (.instantiable "NoonJars$Deeds" 4) (List.mem_of_getElem? (i := 157) (by decide +kernel)))
  obtain ⟨c2, i2, u2⟩ := u_known (n := 3) hts am_ck2.2.1 (hts (.instantiable "NoonJars$Loads" 3) (List.mem_of_getElem? (i := 221) (by decide +kernel)))
  obtain ⟨c3, i3, u3⟩ := u_known (n := 1) hts am_ck3.2.1 (hts (.instantiable "NoonJars$Memory" 1) (List.mem_of_getElem? (i := 163) (by decide +kernel)))
  obtain ⟨c4, i4, u4⟩ := u_known (n := 7) hts am_ck4.2.1 (hts (.instantiable "NoonJars$Plan" 7) (List.mem_of_getElem? (i := 237) (by decide +kernel)))
  obtain ⟨c5, i5, u5⟩ := u_known (n := 8) hts am_ck5.2.1 (hts (.instantiable "NoonJars$Pourings" 8) (List.mem_of_getElem? (i := 720) (by decide +kernel)))
  obtain ⟨c6, i6, u6⟩ := u_known (n := 2) hts am_ck6.2.1 (hts (.instantiable "NoonJars$Reader" 2) (List.mem_of_getElem? (i := 99) (by decide +kernel)))
  obtain ⟨c7, i7, u7⟩ := u_known (n := 2) hts am_ck7.2.1 (hts (.instantiable "NoonJars$Row" 2) (List.mem_of_getElem? (i := 281) (by decide +kernel)))
  obtain ⟨c8, i8, u8⟩ := u_known (n := 7) hts am_ck8.2.1 (hts (.instantiable "NoonJars$Scene" 7) (List.mem_of_getElem? (i := 112) (by decide +kernel)))
  obtain ⟨c9, i9, u9⟩ := u_known (n := 15) hts am_ck9.2.1 (hts (.instantiable "NoonJars" 15) (List.mem_of_getElem? (i := 89) (by decide +kernel)))
  obtain ⟨c10, i10, u10⟩ := u_known (n := 47) hts am_ck10.2.1 (hts (.instantiable "NoonJarsModel" 47) (List.mem_of_getElem? (i := 969) (by decide +kernel)))
  obtain ⟨D, hD⟩ : ∃ D : va_G, ∀ (k : Nat) (q : vw_C), am_cl[k]? = some q → u_Kn s q.1 q.2.1 q.2.2 (D.1 k) (D.2 k) := by
    refine ⟨(fun k => [c0, c1, c2, c3, c4, c5, c6, c7, c8, c9, c10].getD k c0, fun k => [i0, i1, i2, i3, i4, i5, i6, i7, i8, i9, i10].getD k i0), ?_⟩
    intro k q hq
    match k, hq with
    | 0, hq => cases hq; exact u0
    | 1, hq => cases hq; exact u1
    | 2, hq => cases hq; exact u2
    | 3, hq => cases hq; exact u3
    | 4, hq => cases hq; exact u4
    | 5, hq => cases hq; exact u5
    | 6, hq => cases hq; exact u6
    | 7, hq => cases hq; exact u7
    | 8, hq => cases hq; exact u8
    | 9, hq => cases hq; exact u9
    | 10, hq => cases hq; exact u10
    | k + 11, hq => simp [am_cl] at hq
  obtain ⟨a11, k11, p11, n11, m11, d11⟩ := Cond.arrayClass_spec (hts _ lw_abyte)
  obtain ⟨a12, k12, p12, n12, m12, d12⟩ := Cond.arrayClass_spec (hts _ lw_aint)
  obtain ⟨a13, k13, p13, n13, m13, d13⟩ := Cond.arrayClass_spec (hts _ lw_aboolean)
  obtain ⟨p14, a14, k14, q14, -, m14, d14, n14⟩ := Cond.arrayOver_spec (hts _ lw_aro)
  obtain ⟨g, hg⟩ : ∃ g : am_G, g = (D, (fun k => if k = 11 then a11 else if k = 12 then a12 else if k = 13 then a13 else a14), s.heap.size, (fun i => if i = 1 then b else if i = 2 then t2 else t3), L, xs) := ⟨_, rfl⟩
  have e1 : am_ad g 1 = b := by rw [hg]; rfl
  have e2 : am_ad g 2 = t2 := by rw [hg]; rfl
  have e3 : am_ad g 3 = t3 := by rw [hg]; rfl
  have eA : am_A g = fun q : Nat => s.heap.size ≤ q := by rw [hg]; rfl
  have eB : g.2.2.1 = s.heap.size := by rw [hg]
  have hK : am_K g s s.heap := by
    refine ⟨⟨?_, ?_⟩, ⟨by rw [e2, eA]; exact hZ2, by rw [e2, eA]; exact hT2⟩, ⟨by rw [e3, eA]; exact hZ3, by rw [e3, eA]; exact hT3⟩, by rw [e1, hg]; exact hX, by rw [e1, eB]; exact hbl, by rw [eB]; exact Nat.le_refl _⟩
    · rw [hg]; exact hD
    · intro k q hq
      subst hg
      match k, hq with
      | 0, hq => cases hq; exact ⟨am_arr m11 d11, n11⟩
      | 1, hq => cases hq; exact ⟨am_arr m12 d12, n12⟩
      | 2, hq => cases hq; exact ⟨am_arr m13 d13, n13⟩
      | 3, hq => cases hq; exact ⟨am_arr m14 d14, k14, p14, m14, d14, q14, n14⟩
      | k + 4, hq => simp [am_ty] at hq
  have hsn : am_sn g ≤ 3072 := by rw [hg]; exact hL
  obtain ⟨J, j0, jS, jB⟩ := hgood g hsn
  obtain ⟨i', M', a1, a2, a3⟩ := law_all (l := l) (M := am_M0 g) rfl hsn jS j0
  obtain ⟨b1, b2⟩ := jB i' M' a1 a2
  have hl := lv_entry ([.ref b]) (n := 4) (Nat.le_of_ble_eq_true rfl)
  rw [lg_entry_eq]
  generalize (lg_sl ([.ref b]) ++ List.replicate (4 - (lg_sl ([.ref b])).length) Slot.unset).toArray = ls at hl ⊢
  have hl2 : am_ll g ls 4 [some (.ref 1), none, none, none] := by
    show lv_has ls 4 [(0, .ref (am_ad g 1))]
    rw [e1]
    exact hl
  obtain ⟨-, hw⟩ := a3 _ _ rfl
  refine hw p e room_1 s m _ below meth c ⟨hx, hb, hml, hown, hnm, fun w h _ => hts w h, hK⟩ s.heap [] 0 0 ls _ hl2 (am_R0 eB.symm) va_S.rf (by decide) (by decide) ?_ ?_ ?_
  · show 0 + (am_nx M' - 4) ≤ 600000
    omega
  · show 0 + (am_sl M' - 0) ≤ 7302250
    omega
  · intro H' locs' ls' pc' hR' hS' hrt
    refine va_forget (fun q hq => ?_) ?_
    · have := hS'.2.2 q hq
      rw [eA] at this
      exact this
    · refine W.widen (k := 600000) (n := 7302250) (by show 0 + (am_nx M' - 4) ≤ 600000; omega) (by show 0 + (am_sl M' - 0) ≤ 7302250; omega) ?_
      exact lw_ret hx hb hr hlocks hrt.1
