/-! the judgement: from pc with these locals and this stack over M the method ends as o says, if o says -/
def am_rt (d : am_Y) (pc : Nat) : Option Value → Prop
  | none => decode d.2.1 pc = .ok (.return_, 1) ∧ d.2.2.2.1 = none
  | some (.int x) => decode d.2.1 pc = .ok (.ireturn, 1) ∧ ∃ ty, d.2.2.2.1 = some ty ∧ narrow ty (.int x) = .int x
  | some (.long _) => decode d.2.1 pc = .ok (.lreturn, 1) ∧ d.2.2.2.1 = some .long
  | some (.ref _) => decode d.2.1 pc = .ok (.areturn, 1) ∧ ∃ C, d.2.2.2.1 = some (.object C)
  | _ => False
def am_W (l : Launch) (g : am_G) (d : am_Y) (pc : Nat) (LS : am_L) (st : List Value) (M : am_M) (v : Option Value) (M' : am_M) : Prop :=
  ∀ (p : Program) (e : Env) (R : Room) (s : State) (m : MethodId) (args : Array Value) (below : List Frame) (meth : Method) (c : Code), am_X g d p s m args meth c →
  ∀ (H : Heap) (locs : List Loc) (cells slots : Nat) (ls : Array Slot) (Q : State → Prop), am_ll g ls d.2.2.1 LS → am_R g M H → va_S (am_A g) s.heap H locs → d.2.2.2.2.1 ≤ R.frames → d.2.2.2.2.2 ≤ R.locals →
  cells + (am_nx M' - am_nx M) ≤ R.cells → slots + (am_sl M' - am_sl M) ≤ R.slots →
  (∀ (H' : Heap) (locs' : List Loc) (ls' : Array Slot) (pc' : Nat), am_R g M' H' → va_S (am_A g) s.heap H' locs' → am_rt d pc' v →
    W p l e R s m args below meth c H' locs' (cells + (am_nx M' - am_nx M)) (slots + (am_sl M' - am_sl M)) Q (F0 m pc' ls' (v.toList.map (am_tr g)))) →
  W p l e R s m args below meth c H locs cells slots Q (F0 m pc ls (st.map (am_tr g)))
def am_E (l : Launch) (g : am_G) (d : am_Y) (pc : Nat) (LS : am_L) (st : List Value) (M : am_M) (o : Option (Option Value × am_M)) : Prop :=
  ∀ v M', o = some (v, M') → (am_nx M ≤ am_nx M' ∧ am_sl M ≤ am_sl M') ∧ am_W l g d pc LS st M v M'
section AE
variable {l : Launch} {g : am_G} {d : am_Y} {pc : Nat} {LS : am_L} {st : List Value} {M : am_M} {o : Option (Option Value × am_M)}
theorem am_none : am_E l g d pc LS st M none := fun v M' h => by cases h
/-- a step that leaves M -/
theorem am_goS {pc' : Nat} {LS' : am_L} {st' : List Value} (h : ∀ (p : Program) (e : Env) (R : Room) (s : State) (m : MethodId) (args : Array Value) (below : List Frame) (meth : Method) (c : Code), am_X g d p s m args meth c →
    ∀ (H : Heap) (locs : List Loc) (cells slots : Nat) (ls : Array Slot) (Q : State → Prop), am_ll g ls d.2.2.1 LS → am_R g M H → va_S (am_A g) s.heap H locs →
    (∀ ls' : Array Slot, am_ll g ls' d.2.2.1 LS' → W p l e R s m args below meth c H locs cells slots Q (F0 m pc' ls' (st'.map (am_tr g)))) → W p l e R s m args below meth c H locs cells slots Q (F0 m pc ls (st.map (am_tr g))))
    (k : am_E l g d pc' LS' st' M o) : am_E l g d pc LS st M o := by
  intro v M' ho
  obtain ⟨hm, hw⟩ := k v M' ho
  exact ⟨hm, fun p e R s m args below meth c hX H locs cells slots ls Q hl hR hS h1 h2 h3 h4 hk => h p e R s m args below meth c hX H locs cells slots ls Q hl hR hS (fun ls' hl' => hw p e R s m args below meth c hX H locs cells slots ls' Q hl' hR hS h1 h2 h3 h4 hk)⟩
/-- a step that writes -/
theorem am_goM {pc' : Nat} {st' : List Value} {M1 : am_M} (hn : am_nx M1 = am_nx M) (hl : am_sl M1 = am_sl M) (h : ∀ (p : Program) (e : Env) (R : Room) (s : State) (m : MethodId) (args : Array Value) (below : List Frame) (meth : Method) (c : Code), am_X g d p s m args meth c →
    ∀ (H : Heap) (locs : List Loc) (cells slots : Nat) (ls : Array Slot) (Q : State → Prop), am_ll g ls d.2.2.1 LS → am_R g M H → va_S (am_A g) s.heap H locs → d.2.2.2.2.1 ≤ R.frames → d.2.2.2.2.2 ≤ R.locals →
    (∀ (H1 : Heap) (locs1 : List Loc), am_R g M1 H1 → va_S (am_A g) s.heap H1 locs1 → W p l e R s m args below meth c H1 locs1 cells slots Q (F0 m pc' ls (st'.map (am_tr g)))) → W p l e R s m args below meth c H locs cells slots Q (F0 m pc ls (st.map (am_tr g))))
    (k : am_E l g d pc' LS st' M1 o) : am_E l g d pc LS st M o := by
  intro v M' ho
  obtain ⟨hm, hw⟩ := k v M' ho
  unfold am_W at hw
  rw [hn, hl] at hw hm
  exact ⟨hm, fun p e R s m args below meth c hX H locs cells slots ls Q hl hR hS h1 h2 h3 h4 hk => h p e R s m args below meth c hX H locs cells slots ls Q hl hR hS h1 h2 (fun H1 locs1 hR1 hS1 => hw p e R s m args below meth c hX H1 locs1 cells slots ls Q hl hR1 hS1 h1 h2 h3 h4 hk)⟩
/-- a step that makes a cell -/
theorem am_goA {pc' : Nat} {st' : List Value} {kd n : Nat} (h : ∀ (p : Program) (e : Env) (R : Room) (s : State) (m : MethodId) (args : Array Value) (below : List Frame) (meth : Method) (c : Code), am_X g d p s m args meth c →
    ∀ (H : Heap) (locs : List Loc) (cells slots : Nat) (ls : Array Slot) (Q : State → Prop), am_ll g ls d.2.2.1 LS → am_R g M H → va_S (am_A g) s.heap H locs → cells + 1 ≤ R.cells → slots + n ≤ R.slots →
    (∀ (H1 : Heap), am_R g (am_mk M kd n) H1 → va_S (am_A g) s.heap H1 locs → W p l e R s m args below meth c H1 locs (cells + 1) (slots + n) Q (F0 m pc' ls (st'.map (am_tr g)))) → W p l e R s m args below meth c H locs cells slots Q (F0 m pc ls (st.map (am_tr g))))
    (k : am_E l g d pc' LS st' (am_mk M kd n) o) : am_E l g d pc LS st M o := by
  intro v M' ho
  obtain ⟨hm, hw⟩ := k v M' ho
  have e1 : am_nx (am_mk M kd n) = am_nx M + 1 := rfl
  have e2 : am_sl (am_mk M kd n) = am_sl M + n := rfl
  unfold am_W at hw
  rw [e1, e2] at hw hm
  refine ⟨by omega, fun p e R s m args below meth c hX H locs cells slots ls Q hl hR hS h1 h2 h3 h4 hk => h p e R s m args below meth c hX H locs cells slots ls Q hl hR hS (by omega) (by omega) (fun H1 hR1 hS1 => hw p e R s m args below meth c hX H1 locs (cells + 1) (slots + n) ls Q hl hR1 hS1 h1 h2 (by omega) (by omega) (fun H' locs' ls' pc2 a1 a2 a3 => ?_))⟩
  have := hk H' locs' ls' pc2 a1 a2 a3
  rw [show cells + 1 + (am_nx M' - (am_nx M + 1)) = cells + (am_nx M' - am_nx M) by omega, show slots + n + (am_sl M' - (am_sl M + n)) = slots + (am_sl M' - am_sl M) by omega]
  exact this
/-- a method's end -/
theorem am_end {v : Option Value} (hs : st = v.toList) (hr : am_rt d pc v) : am_E l g d pc LS st M (some (v, M)) := by
  intro v' M' ho
  cases ho
  refine ⟨⟨Nat.le_refl _, Nat.le_refl _⟩, fun p e R s m args below meth c hX H locs cells slots ls Q hl hR hS h1 h2 h3 h4 hk => ?_⟩
  have := hk H locs ls pc hR hS hr
  rw [Nat.sub_self, Nat.sub_self, Nat.add_zero, Nat.add_zero] at this
  rw [hs]
  exact this
end AE
/-! a callee -/
def am_ent (d : am_Y) (As : List Value) : am_L := am_ents As ++ List.replicate (d.2.2.1 - (am_ents As).length) none
def am_wl (d : am_Y) : List Cond := Cond.code d.1 d.2.1 d.2.2.1 d.2.2.2.1 :: lw_tbl.filter am_stb
def am_Pc (g : am_G) (As : List Value) (M : am_M) : Array Value → State → Prop := fun a U => a = (As.map (am_tr g)).toArray ∧ am_R g M U.heap ∧ am_K g U U.heap
def am_Qc (g : am_G) (v : Option Value) (M : am_M) : Array Value → State → Outcome → State → Prop := fun _ st o t => o = .returned (v.map (am_tr g)) ∧ am_R g M t.heap ∧ va_F (am_A g) st t
def am_rm (d : am_Y) (mc ms : Nat) : Room := { frames := d.2.2.2.2.1, cells := mc, slots := ms, locals := d.2.2.2.2.2 }
theorem am_ents_len (vs : List Value) (g : am_G) : (lg_sl (vs.map (am_tr g))).length = (am_ents vs).length := by
  induction vs with
  | nil => rfl
  | cons v t ih =>
    simp only [lg_sl, List.map_cons, List.flatMap_cons, am_tr_cat, List.length_append] at ih ⊢
    rw [ih]
    by_cases hc : v.category = 2
    · rw [if_pos hc, show am_ents (v :: t) = some v :: none :: am_ents t by simp [am_ents, hc]]
      simp; omega
    · rw [if_neg hc, show am_ents (v :: t) = some v :: am_ents t by simp [am_ents, hc]]
      simp; omega
set_option maxHeartbeats 1000000 in
theorem am_met {l : Launch} {g : am_G} {d : am_Y} {As : List Value} {M M1 : am_M} {v : Option Value} {oc : Option (Option Value × am_M)} (hy : plainFor d.1 = true) (hml : (am_ents As).length ≤ d.2.2.1) (hE : am_E l g d 0 (am_ent d As) [] M oc) (ho : oc = some (v, M1)) :
    Met l d.1 (am_wl d) (am_rm d (am_nx M1 - am_nx M) (am_sl M1 - am_sl M)) (am_Pc g As M) (am_Qc g v M1) (am_nx M1 - am_nx M) (am_sl M1 - am_sl M) (am_A g) := by
  refine va_MetF (cc := d.2.1) (maxL := d.2.2.1) (ret := d.2.2.2.1) (ws' := lw_tbl.filter am_stb) hy rfl ?_
  intro p e s m args below meth c s₁ B hmx hv
  obtain ⟨rfl, hR, hK⟩ := hv
  have hx := B.exec
  have hb := B.bytes
  have hr := B.returns
  have hts0 := atoms_spec (ws := am_wl d) B.pre
  have hts : am_ts ((As.map (am_tr g)).toArray) s := fun w hw hs => hts0 w (List.mem_cons_of_mem _ (List.mem_filter.mpr ⟨hw, hs⟩))
  have hown : s.vm.findClass d.1.cls = some m.cls := findClass_of_methodNamed B.named
  have hlocks := B.notSynchronized
  have hnm : meth.name = d.1.name := (name_of_methodNamed B.named B.method).1
  have hl := lv_entry (As.map (am_tr g)) (n := d.2.2.1) (by rw [am_ents_len]; exact hml)
  rw [lg_entry_eq]
  generalize (lg_sl (As.map (am_tr g)) ++ List.replicate (d.2.2.1 - (lg_sl (As.map (am_tr g))).length) Slot.unset).toArray = ls at hl ⊢
  have hl2 : am_ll g ls d.2.2.1 (am_ent d As) := by
    unfold am_ll am_ent
    rw [am_lv_app, am_ents_args]
    exact hl
  obtain ⟨hm, hw⟩ := hE v M1 ho
  have hS : va_S (am_A g) s.heap s.heap [] := va_S.rf
  refine hw p e _ s m _ below meth c ⟨hx, hb, hmx, hown, hnm, hts, hK⟩ s.heap [] 0 0 ls _ hl2 hR hS (Nat.le_refl _) (Nat.le_refl _) (by rw [Nat.zero_add]; exact Nat.le_refl _) (by rw [Nat.zero_add]; exact Nat.le_refl _) ?_
  intro H' locs' ls' pc' hR' hS' hrt
  rw [Nat.zero_add, Nat.zero_add]
  have hq : ∀ t : State, t.heap = H' → s.WarmedH t.vm → am_Qc g v M1 ((As.map (am_tr g)).toArray) s (.returned (v.map (am_tr g))) t := fun t ht _ => ⟨rfl, by rw [ht]; exact hR', hS'.F ht⟩
  cases v with
  | none => exact W.vret hx hb (by rw [hr]; exact hrt.2) hq hS'.2.2 hrt.1 hlocks
  | some v =>
    cases v with
    | int x =>
      obtain ⟨h1, ty, h2, h3⟩ := hrt
      exact W.zret hx hb (by rw [hr]; exact h2) h3 hq hS'.2.2 h1 hlocks
    | long x => exact W.lret hx hb (by rw [hr]; exact hrt.2) hq hS'.2.2 hrt.1 hlocks
    | ref x =>
      obtain ⟨h1, C, h2⟩ := hrt
      exact W.aret hx hb (by rw [hr]; exact h2) (Or.inl ⟨_, rfl⟩) (Or.inr ⟨_, rfl⟩) hq hS'.2.2 h1 hlocks
    | _ => exact absurd hrt (fun h => h)
