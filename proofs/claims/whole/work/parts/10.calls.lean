/-! calls -/
def am_Yok (y : am_Y) (n : Nat) : Prop := Cond.code y.1 y.2.1 y.2.2.1 y.2.2.2.1 ∈ lw_tbl ∧ Cond.initialized y.1.cls ∈ lw_tbl ∧ plainFor y.1 = true ∧ (y.1.cls ≠ "java/lang/invoke/MethodHandle" ∧ y.1.cls ≠ "java/lang/invoke/VarHandle") ∧ (parseMethodDescriptor y.1.desc).map (fun d => d.parameters.length) = some n
/-- static, or special (a constructor), or virtual -/
def am_SM (y : am_Y) : Prop := Cond.static y.1 ∈ lw_tbl
def am_IM (y : am_Y) : Prop := Cond.instanceMethod y.1 ∈ lw_tbl
def am_VM (y : am_Y) : Prop := Cond.instanceMethod y.1 ∈ lw_tbl ∧ Cond.selects y.1.cls y.1 y.1 ∈ lw_tbl
def am_Ml (own : String) (idx : Nat) (y : am_Y) : Prop := Cond.methodLink own idx y.1 ∈ lw_tbl ∨ ∃ host, Cond.methodLinkNest own idx y.1 host ∈ lw_tbl
def am_fit (y d : am_Y) : Prop := y.2.2.2.2.1 + 1 ≤ d.2.2.2.2.1 ∧ 8 + (y.2.2.1 + 11) + y.2.2.2.2.2 ≤ d.2.2.2.2.2
theorem am_Pc_blind (g : am_G) (As : List Value) (M : am_M) : FrameBlind (am_Pc g As M) := fun a U f mk h => ⟨h.1, h.2.1, am_K_moved (u := U) (U := U.calling f mk a) (Vm.Alike.refl U.vm) h.2.2⟩
section AC
variable {p : Program} {l : Launch} {e : Env} {R : Room} {s : State} {m : MethodId} {args : Array Value} {below : List Frame} {meth : Method} {c : Code} {H : Heap} {locs : List Loc} {cells slots : Nat} {Q : State → Prop}
variable {pc : Nat} {ls : Array Slot} {rest st0 : List Value} {g : am_G} {d y : am_Y} {M M1 : am_M}
/-- behind a call -/
theorem am_back {v : Option Value} {a : Array Value} {mc ms : Nat} (hK : am_K g s s.heap) (hr : va_Run p l e R s m args below meth c H locs cells slots mc ms (F0 m pc ls st0) rest (am_Qc g v M1 a) (am_A g)) (hS : va_S (am_A g) s.heap H locs)
    (kk : ∀ (H1 : Heap) (locs1 : List Loc), am_R g M1 H1 → va_S (am_A g) s.heap H1 locs1 → W p l e R s m args below meth c H1 locs1 (cells + mc) (slots + ms) Q (F0 m (pc + 3) ls ((v.map (am_tr g)).toList ++ rest))) : W p l e R s m args below meth c H locs cells slots Q (F0 m pc ls st0) := by
  intro T hT X
  obtain ⟨v', st₀, t, T', L, h0, X', hL, e1, e2, ⟨hv, hR1, hz, hk⟩, st⟩ := hr T hT X
  cases hv
  rw [h0] at hz hk
  obtain ⟨t2, a1, b1⟩ := kk T'.heap (locs ++ L) (by rw [e1]; exact hR1) ⟨Nat.le_trans hS.1 (by rw [e1]; exact hz), fun q h1 h2 => by rw [e1, hk q (Nat.lt_of_lt_of_le h1 hS.1) h2]; exact hS.2.1 q h1 h2, fun q hq => by
      rcases List.mem_append.mp hq with h | h
      · exact hS.2.2 q h
      · exact hL q h⟩ T' rfl X'
  exact ⟨t2, st t2 a1, b1⟩
theorem am_wds (hts : am_ts args s) {n : Nat} (hy : am_Yok y n) : ∀ w ∈ am_wl y, ∀ (a' : Array Value) (U : State), s.WarmedH U.vm → w.before a' U = true := by
  intro w hw a' U hW
  rcases List.mem_cons.mp hw with h | h
  · subst h
    exact am_ts_warm hts hW _ hy.1 rfl
  · exact am_ts_warm hts hW w (List.mem_filter.mp h).1 (List.mem_filter.mp h).2
theorem am_wcallS {idx n : Nat} {As : List Value} {v : Option Value} {oc : Option (Option Value × am_M)} (hX : am_X g d p s m args meth c) {LS0 : am_L} (hl : am_ll g ls d.2.2.1 LS0) (hR : am_R g M H) (hS : va_S (am_A g) s.heap H locs) (hf : am_fit y d) (h1 : d.2.2.2.2.1 ≤ R.frames) (h2 : d.2.2.2.2.2 ≤ R.locals)
    (hy : am_Yok y n) (hst : am_SM y) (hlk : am_Ml d.1.cls idx y) (hn : As.length = n) (hml : (am_ents As).length ≤ y.2.2.1) (hcat : (rest.map fun v => v.category).sum ≤ 8) (hdg : decode d.2.1 pc = .ok (.invokestatic idx, 3)) (hE : am_E l g y 0 (am_ent y As) [] M oc) (ho : oc = some (v, M1))
    (hc : cells + (am_nx M1 - am_nx M) ≤ R.cells ∧ slots + (am_sl M1 - am_sl M) ≤ R.slots)
    (kk : ∀ (H1 : Heap) (locs1 : List Loc), am_R g M1 H1 → va_S (am_A g) s.heap H1 locs1 → W p l e R s m args below meth c H1 locs1 (cells + (am_nx M1 - am_nx M)) (slots + (am_sl M1 - am_sl M)) Q (F0 m (pc + 3) ls ((v.map (am_tr g)).toList ++ rest))) : W p l e R s m args below meth c H locs cells slots Q (F0 m pc ls ((As.map (am_tr g)).reverse ++ rest)) := by
  obtain ⟨hx, hb, hmx, hown, hnm, hts, hK⟩ := hX
  have hM := am_met hy.2.2.1 hml hE ho
  have hlen : ∀ sig, parseMethodDescriptor y.1.desc = some sig → n = sig.parameters.length := fun sig h => by
    have h5 := hy.2.2.2.2
    rw [h] at h5
    exact (Option.some.inj h5).symm
  have hcode : (Cond.code y.1 y.2.1 y.2.2.1 y.2.2.2.1).before args s = true := hts _ hy.1 rfl
  have hini : (Cond.initialized y.1.cls).before args s = true := hts _ hy.2.1 rfl
  have hw := am_wds hts hy
  have hp : PreS s H (am_Pc g As M) (As.map (am_tr g)) := ⟨am_Pc_blind g As M, fun U hU hW => ⟨rfl, by rw [hU]; exact hR, by rw [hU]; exact am_K_moved hW.alike (am_S_K hK hS)⟩⟩
  rcases hlk with hlk | ⟨host, hlk⟩
  · refine am_back hK (va_runS (bytes := y.2.1) (maxL := y.2.2.1) (ret := y.2.2.2.1) (Ts := []) ⟨hx, hb, hmx, hown, fun w h => by cases h⟩ hM ⟨⟨rfl, rfl, Nat.le_trans hf.1 h1, Nat.le_trans hf.2 h2, hw, List.mem_cons_self, hcode, hini, hy.2.2.2.1, hlen, hts _ hlk rfl⟩, hts _ hst rfl⟩ hp rfl (by rw [List.length_map]; exact hn) hl.1 rfl (lv_room hcat) hdg hc) hS kk
  · refine am_back hK (va_runSN (bytes := y.2.1) (maxL := y.2.2.1) (ret := y.2.2.2.1) (host := host) (Ts := []) ⟨hx, hb, hmx, hown, fun w h => by cases h⟩ hM ⟨⟨⟨rfl, rfl, Nat.le_trans hf.1 h1, Nat.le_trans hf.2 h2, hw, List.mem_cons_self⟩, hcode, hini, hy.2.2.2.1, hlen, hts _ hlk rfl⟩, hts _ hst rfl, trivial⟩ hp rfl (by rw [List.length_map]; exact hn) hl.1 rfl (lv_room hcat) hdg hc) hS kk
theorem am_wcallI {idx n b : Nat} {As : List Value} {v : Option Value} {oc : Option (Option Value × am_M)} (hX : am_X g d p s m args meth c) {LS0 : am_L} (hl : am_ll g ls d.2.2.1 LS0) (hR : am_R g M H) (hS : va_S (am_A g) s.heap H locs) (hf : am_fit y d) (h1 : d.2.2.2.2.1 ≤ R.frames) (h2 : d.2.2.2.2.2 ≤ R.locals)
    (hy : am_Yok y n) (hrt : y.2.2.2.1 = none) (hini2 : y.1.name = "<init>") (hst : am_IM y) (hlk : am_Ml d.1.cls idx y) (hn : As.length = n) (hml : (am_ents (.ref b :: As)).length ≤ y.2.2.1) (hcat : (rest.map fun v => v.category).sum ≤ 8) (hdg : decode d.2.1 pc = .ok (.invokespecial idx, 3)) (hE : am_E l g y 0 (am_ent y (.ref b :: As)) [] M oc) (ho : oc = some (v, M1))
    (hc : cells + (am_nx M1 - am_nx M) ≤ R.cells ∧ slots + (am_sl M1 - am_sl M) ≤ R.slots)
    (kk : ∀ (H1 : Heap) (locs1 : List Loc), am_R g M1 H1 → va_S (am_A g) s.heap H1 locs1 → W p l e R s m args below meth c H1 locs1 (cells + (am_nx M1 - am_nx M)) (slots + (am_sl M1 - am_sl M)) Q (F0 m (pc + 3) ls ((v.map (am_tr g)).toList ++ rest))) : W p l e R s m args below meth c H locs cells slots Q (F0 m pc ls ((As.map (am_tr g)).reverse ++ .ref (am_ad g b) :: rest)) := by
  obtain ⟨hx, hb, hmx, hown, hnm, hts, hK⟩ := hX
  have hM := am_met hy.2.2.1 hml hE ho
  have hlen : ∀ sig, parseMethodDescriptor y.1.desc = some sig → n = sig.parameters.length := fun sig h => by
    have h5 := hy.2.2.2.2
    rw [h] at h5
    exact (Option.some.inj h5).symm
  have hcode : (Cond.code y.1 y.2.1 y.2.2.1 y.2.2.2.1).before args s = true := hts _ hy.1 rfl
  rw [hrt] at hcode
  have hini : (Cond.initialized y.1.cls).before args s = true := hts _ hy.2.1 rfl
  have hw := am_wds hts hy
  have hmem : Cond.code y.1 y.2.1 y.2.2.1 none ∈ am_wl y := by rw [← hrt]; exact List.mem_cons_self
  have hp : PreS s H (am_Pc g (.ref b :: As) M) (.ref (am_ad g b) :: As.map (am_tr g)) := ⟨am_Pc_blind g _ M, fun U hU hW => ⟨rfl, by rw [hU]; exact hR, by rw [hU]; exact am_K_moved hW.alike (am_S_K hK hS)⟩⟩
  rcases hlk with hlk | ⟨host, hlk⟩
  · refine am_back hK (va_runI (bytes := y.2.1) (maxL := y.2.2.1) (Ts := []) ⟨hx, hb, hmx, hown, fun w h => by cases h⟩ hM ⟨⟨rfl, rfl, Nat.le_trans hf.1 h1, Nat.le_trans hf.2 h2, hw, hmem, hcode, hini, hy.2.2.2.1, hlen, hts _ hlk rfl⟩, hini2, hts _ hst rfl⟩ hp rfl (by rw [List.length_map]; exact hn) hl.1 rfl (lv_room hcat) hdg hc) hS kk
  · refine am_back hK (va_runIN (bytes := y.2.1) (maxL := y.2.2.1) (host := host) (Ts := []) ⟨hx, hb, hmx, hown, fun w h => by cases h⟩ hM ⟨⟨⟨rfl, rfl, Nat.le_trans hf.1 h1, Nat.le_trans hf.2 h2, hw, hmem⟩, hcode, hini, hy.2.2.2.1, hlen, hts _ hlk rfl⟩, hini2, hts _ hst rfl⟩ hp rfl (by rw [List.length_map]; exact hn) hl.1 rfl (lv_room hcat) hdg hc) hS kk
theorem am_wcallV {idx n b k : Nat} {r : vw_C} {As : List Value} {v : Option Value} {oc : Option (Option Value × am_M)} (hX : am_X g d p s m args meth c) {LS0 : am_L} (hl : am_ll g ls d.2.2.1 LS0) (hR : am_R g M H) (hS : va_S (am_A g) s.heap H locs) (hf : am_fit y d) (h1 : d.2.2.2.2.1 ≤ R.frames) (h2 : d.2.2.2.2.2 ≤ R.locals)
    (hy : am_Yok y n) (hst : am_VM y) (hcl : am_cl[k]? = some r) (hrc : r.1 = y.1.cls) (hk : k < 11) (hsb : (am_sh M b).1 = k) (hlk : am_Ml d.1.cls idx y) (hn : As.length = n) (hml : (am_ents (.ref b :: As)).length ≤ y.2.2.1) (hcat : (rest.map fun v => v.category).sum ≤ 8) (hdg : decode d.2.1 pc = .ok (.invokevirtual idx, 3)) (hE : am_E l g y 0 (am_ent y (.ref b :: As)) [] M oc) (ho : oc = some (v, M1))
    (hc : cells + (am_nx M1 - am_nx M) ≤ R.cells ∧ slots + (am_sl M1 - am_sl M) ≤ R.slots)
    (kk : ∀ (H1 : Heap) (locs1 : List Loc), am_R g M1 H1 → va_S (am_A g) s.heap H1 locs1 → W p l e R s m args below meth c H1 locs1 (cells + (am_nx M1 - am_nx M)) (slots + (am_sl M1 - am_sl M)) Q (F0 m (pc + 3) ls ((v.map (am_tr g)).toList ++ rest))) : W p l e R s m args below meth c H locs cells slots Q (F0 m pc ls ((As.map (am_tr g)).reverse ++ .ref (am_ad g b) :: rest)) := by
  obtain ⟨hx, hb, hmx, hown, hnm, hts, hK⟩ := hX
  have hM := am_met hy.2.2.1 hml hE ho
  have hlen : ∀ sig, parseMethodDescriptor y.1.desc = some sig → n = sig.parameters.length := fun sig h => by
    have h5 := hy.2.2.2.2
    rw [h] at h5
    exact (Option.some.inj h5).symm
  have hcode : (Cond.code y.1 y.2.1 y.2.2.1 y.2.2.2.1).before args s = true := hts _ hy.1 rfl
  have hini : (Cond.initialized y.1.cls).before args s = true := hts _ hy.2.1 rfl
  have hw := am_wds hts hy
  have hat := am_at hR (show (am_sh M b).1 < 15 by omega)
  rw [am_en_o (by omega), hsb] at hat
  have hrv := va_recv hK.1 hR.2.2.1 hcl hat
  rw [hrc] at hrv
  have hp : PreV s H y.1.cls (am_ad g b) (am_Pc g (.ref b :: As) M) (As.map (am_tr g)) := ⟨am_Pc_blind g _ M, hrv, fun U hU hW => ⟨rfl, by rw [hU]; exact hR, by rw [hU]; exact am_K_moved hW.alike (am_S_K hK hS)⟩⟩
  rcases hlk with hlk | ⟨host, hlk⟩
  · refine am_back hK (va_runV (bytes := y.2.1) (maxL := y.2.2.1) (ret := y.2.2.2.1) (Ts := []) ⟨hx, hb, hmx, hown, fun w h => by cases h⟩ hM ⟨⟨rfl, rfl, Nat.le_trans hf.1 h1, Nat.le_trans hf.2 h2, hw, List.mem_cons_self, hcode, hini, hy.2.2.2.1, hlen, hts _ hlk rfl⟩, hts _ hst.1 rfl, hts _ hst.2 rfl⟩ hp rfl (by rw [List.length_map]; exact hn) hl.1 rfl (lv_room hcat) hdg hc) hS kk
  · refine am_back hK (va_runVN (bytes := y.2.1) (maxL := y.2.2.1) (ret := y.2.2.2.1) (host := host) (Ts := []) ⟨hx, hb, hmx, hown, fun w h => by cases h⟩ hM ⟨⟨⟨rfl, rfl, Nat.le_trans hf.1 h1, Nat.le_trans hf.2 h2, hw, List.mem_cons_self⟩, hcode, hini, hy.2.2.2.1, hlen, hts _ hlk rfl⟩, hts _ hst.1 rfl, hts _ hst.2 rfl⟩ hp rfl (by rw [List.length_map]; exact hn) hl.1 rfl (lv_room hcat) hdg hc) hS kk
end AC
