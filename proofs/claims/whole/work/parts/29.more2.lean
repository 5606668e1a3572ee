theorem lk_N_276 : Cond.classLink "NoonJars" 276 "NoonJars$Pourings" ∈ lw_tbl := List.mem_of_getElem? (i := 719) (by decide +kernel)
theorem li_Pourings : Cond.instantiable "NoonJars$Pourings" 8 ∈ lw_tbl := List.mem_of_getElem? (i := 720) (by decide +kernel)
theorem lz_Pourings : Cond.initialized "NoonJars$Pourings" ∈ lw_tbl := List.mem_of_getElem? (i := 87) (by decide +kernel)
theorem lt_Pourings : ∀ f, f < 8 → am_tyok (am_ft 5 f) = true := by decide
/-! the pourings are made; an array for the shares is made -/
theorem am_okp0 {B : am_M} {i : Nat} (h : i < am_nx B) : am_okp B i (am_sh B i) (am_ro B i) := ⟨h, rfl, rfl⟩
def am_pB (B : am_M) : am_M := am_wR (c_X6_init (am_mk B 5 8) (am_nx B) (am_nx B + 1)) 4 12 (am_nx B)
def am_pU (B : am_M) (u : am_U) : am_U := am_mu (c_X6_init (am_mk (am_of B u) 5 8) (am_nx B) (am_nx B + 1))
theorem am_lsh91 {i k n : Nat} (h : am_lsh[i]? = some (some (k, n))) : i < 91 := (List.getElem?_eq_some_iff.mp h).1
theorem am_pB_old {B : am_M} {i : Nat} (h : i < am_nx B) : am_sh (am_pB B) i = am_sh B i ∧ ∀ f, ¬ (i = 4 ∧ f = 12) → am_ro (am_pB B) i f = am_ro B i f := by
  have h1 := okp_X6_init (t := am_nx B) (a := am_nx B + 1) (Nat.ne_of_lt h) (nx_mk (k := 5) (n := 8) rfl) (okp_mk (k := 5) (n := 8) (am_okp0 h))
  refine ⟨h1.2.1, fun f hf => ?_⟩
  unfold am_pB
  rw [am_wR_ro hf, h1.2.2]
theorem am_pB_L {B : am_M} {pl : Nat} (hL : am_Lay B pl) (hN : 91 ≤ am_nx B) : am_Lay (am_pB B) pl := by
  obtain ⟨h1, h2, h3, h4, h5, h6⟩ := hL
  refine ⟨fun i k n h => ?_, fun i f r h => ?_, ?_, h4, fun j hj => ?_, fun j hj => ?_⟩
  · have := am_lsh91 h
    rw [(am_pB_old (B := B) (by omega)).1]; exact h1 i k n h
  · obtain ⟨q1, q2, q3⟩ := am_lro0 h
    rw [(am_pB_old (B := B) (i := i) (by omega)).2 f (by omega)]; exact h2 i f r h
  · rw [(am_pB_old (B := B) (i := 4) (by omega)).2 10 (by omega)]; exact h3
  · rw [(am_pB_old (B := B) (i := 5) (by omega)).2 j (by omega)]; exact h5 j hj
  · rw [(am_pB_old (B := B) (i := 6) (by omega)).2 j (by omega)]; exact h6 j hj
theorem am_pB_is {B : am_M} (hN : 91 ≤ am_nx B) : am_isPour (am_pB B) (am_nx B) := by
  generalize hz : am_nx B = z at hN
  have hz' : am_nx B = z := hz
  have f := okp_nw (k := 5) (n := 8) hz'
  have n := nx_mk (k := 5) (n := 8) hz'
  have g0_1 := okp_nw (k := 12) (n := 9261) n
  have z_1 := okp_mk (k := 12) (n := 9261) f
  have n_1 := nx_mk (k := 12) (n := 9261) n
  have z_2 := okp_wRs (f := 0) (v := z + 1) z_1
  have g0_2 := okp_wR (i := z) (f := 0) (v := z + 1) (by omega) g0_1
  have n_2 := nx_wR (i := z) (f := 0) (v := z + 1) n_1
  have g1_3 := okp_nw (k := 12) (n := 9261) n_2
  have z_3 := okp_mk (k := 12) (n := 9261) z_2
  have g0_3 := okp_mk (k := 12) (n := 9261) g0_2
  have n_3 := nx_mk (k := 12) (n := 9261) n_2
  have z_4 := okp_wRs (f := 1) (v := z + 1 + 1) z_3
  have g0_4 := okp_wR (i := z) (f := 1) (v := z + 1 + 1) (by omega) g0_3
  have g1_4 := okp_wR (i := z) (f := 1) (v := z + 1 + 1) (by omega) g1_3
  have n_4 := nx_wR (i := z) (f := 1) (v := z + 1 + 1) n_3
  have g2_5 := okp_nw (k := 12) (n := 9261) n_4
  have z_5 := okp_mk (k := 12) (n := 9261) z_4
  have g0_5 := okp_mk (k := 12) (n := 9261) g0_4
  have g1_5 := okp_mk (k := 12) (n := 9261) g1_4
  have n_5 := nx_mk (k := 12) (n := 9261) n_4
  have z_6 := okp_wRs (f := 2) (v := z + 1 + 2) z_5
  have g0_6 := okp_wR (i := z) (f := 2) (v := z + 1 + 2) (by omega) g0_5
  have g1_6 := okp_wR (i := z) (f := 2) (v := z + 1 + 2) (by omega) g1_5
  have g2_6 := okp_wR (i := z) (f := 2) (v := z + 1 + 2) (by omega) g2_5
  have n_6 := nx_wR (i := z) (f := 2) (v := z + 1 + 2) n_5
  have g3_7 := okp_nw (k := 12) (n := 3) n_6
  have z_7 := okp_mk (k := 12) (n := 3) z_6
  have g0_7 := okp_mk (k := 12) (n := 3) g0_6
  have g1_7 := okp_mk (k := 12) (n := 3) g1_6
  have g2_7 := okp_mk (k := 12) (n := 3) g2_6
  have n_7 := nx_mk (k := 12) (n := 3) n_6
  have z_8 := okp_wRs (f := 3) (v := z + 1 + 3) z_7
  have g0_8 := okp_wR (i := z) (f := 3) (v := z + 1 + 3) (by omega) g0_7
  have g1_8 := okp_wR (i := z) (f := 3) (v := z + 1 + 3) (by omega) g1_7
  have g2_8 := okp_wR (i := z) (f := 3) (v := z + 1 + 3) (by omega) g2_7
  have g3_8 := okp_wR (i := z) (f := 3) (v := z + 1 + 3) (by omega) g3_7
  have n_8 := nx_wR (i := z) (f := 3) (v := z + 1 + 3) n_7
  have g4_9 := okp_nw (k := 12) (n := 3) n_8
  have z_9 := okp_mk (k := 12) (n := 3) z_8
  have g0_9 := okp_mk (k := 12) (n := 3) g0_8
  have g1_9 := okp_mk (k := 12) (n := 3) g1_8
  have g2_9 := okp_mk (k := 12) (n := 3) g2_8
  have g3_9 := okp_mk (k := 12) (n := 3) g3_8
  have n_9 := nx_mk (k := 12) (n := 3) n_8
  have z_10 := okp_wRs (f := 4) (v := z + 1 + 4) z_9
  have g0_10 := okp_wR (i := z) (f := 4) (v := z + 1 + 4) (by omega) g0_9
  have g1_10 := okp_wR (i := z) (f := 4) (v := z + 1 + 4) (by omega) g1_9
  have g2_10 := okp_wR (i := z) (f := 4) (v := z + 1 + 4) (by omega) g2_9
  have g3_10 := okp_wR (i := z) (f := 4) (v := z + 1 + 4) (by omega) g3_9
  have g4_10 := okp_wR (i := z) (f := 4) (v := z + 1 + 4) (by omega) g4_9
  have n_10 := nx_wR (i := z) (f := 4) (v := z + 1 + 4) n_9
  have z_11 := okp_wR (i := 4) (f := 12) (v := z) (by omega) z_10
  have g0_11 := okp_wR (i := 4) (f := 12) (v := z) (by omega) g0_10
  have g1_11 := okp_wR (i := 4) (f := 12) (v := z) (by omega) g1_10
  have g2_11 := okp_wR (i := 4) (f := 12) (v := z) (by omega) g2_10
  have g3_11 := okp_wR (i := 4) (f := 12) (v := z) (by omega) g3_10
  have g4_11 := okp_wR (i := 4) (f := 12) (v := z) (by omega) g4_10
  unfold am_pB
  rw [hz]
  exact ⟨z_11.2.1, ⟨congrFun z_11.2.2 0, congrFun z_11.2.2 1, congrFun z_11.2.2 2, congrFun z_11.2.2 3, congrFun z_11.2.2 4⟩, g0_11.2.1, g1_11.2.1, g2_11.2.1, g3_11.2.1, g4_11.2.1⟩
theorem am_pB_av {B : am_M} (hN : 91 ≤ am_nx B) : am_av (am_ro (am_pB B) 4 12) = .ref (am_nx B) := by
  unfold am_pB
  rw [am_ro_s]
  exact am_avN (by omega)
theorem am_LayK {B : am_M} {pl k n : Nat} (hL : am_Lay B pl) (hN : 91 ≤ am_nx B) : am_Lay (am_mk B k n) pl := by
  obtain ⟨h1, h2, h3, h4, h5, h6⟩ := hL
  have key : ∀ i, i < 91 → am_sh (am_mk B k n) i = am_sh B i ∧ am_ro (am_mk B k n) i = am_ro B i := fun i hi => (okp_mk (k := k) (n := n) (am_okp0 (B := B) (i := i) (by omega))).2
  refine ⟨fun i k n h => ?_, fun i f r h => ?_, ?_, h4, fun j hj => ?_, fun j hj => ?_⟩
  · rw [(key i (am_lsh91 h)).1]; exact h1 _ _ _ h
  · rw [(key i (am_lro0 h).2.2).2]; exact h2 _ _ _ h
  · rw [(key 4 (by omega)).2]; exact h3
  · rw [(key 5 (by omega)).2]; exact h5 j hj
  · rw [(key 6 (by omega)).2]; exact h6 j hj
theorem am_rowK {B : am_M} {t k n : Nat} (h : am_isRow B t) (hN : t + 1 < am_nx B) : am_isRow (am_mk B k n) t := by
  have h1 := (okp_mk (k := k) (n := n) (am_okp0 (B := B) (i := t) (by omega))).2
  have h2 := (okp_mk (k := k) (n := n) (am_okp0 (B := B) (i := t + 1) hN)).2
  exact ⟨h1.1.trans h.1, by rw [h1.2]; exact h.2.1, h2.1.trans h.2.2⟩
section AS
variable {l : Launch} {g : am_G} {d : am_Y} {pc : Nat} {LS : am_L} {st : List Value} {B B1 : am_M} {u : am_U} {o : Option (Option Value × am_M)} {α : Type} {φ : α → Option Value × am_M} {f0 : Option α}
theorem q_newq {n : Int32} (hdg : decode d.2.1 pc = .ok (.newarray .int, 2)) (kk : am_E l g d (pc + 2) LS (.ref (am_nx B) :: st) (am_of (am_mk B 12 n.toNatClampNeg) (am_rw u (am_nx B) (fun _ => 0))) (am_r φ f0)) : am_E l g d pc LS (.int n :: st) (am_of B u) (am_r φ (am_ck (am_ix n 61) f0)) :=
  e_ck (fun h => e_newa hdg (Or.inr (Or.inl ⟨rfl, rfl⟩)) lw_aint (fun q => am_ix_in h (Or.inl q)) rfl (by have := am_ixlt h; omega) rfl kk)
theorem q_callSJ {y : am_Y} {idx n : Nat} {As S : List Value} {fc : Option (Int32 × am_U)} {kf : Int32 × am_U → Option α} (hS : S = As.reverse ++ st) (hdg : decode d.2.1 pc = .ok (.invokestatic idx, 3)) (hlk : am_Ml d.1.cls idx y) (hf : am_fit y d) (hy : am_Yok y n) (hst : am_SM y) (hn : As.length = n) (hml : (am_ents As).length ≤ y.2.2.1) (hcat : (st.map fun v => v.category).sum ≤ 8)
    (hE : am_E l g y 0 (am_ent y As) [] (am_of B u) (am_r (am_bI B1) fc)) (k : ∀ q : Int32 × am_U, am_E l g d (pc + 3) LS (.int q.1 :: st) (am_of B1 q.2) (am_r φ (kf q))) : am_E l g d pc LS S (am_of B u) (am_r φ (fc.bind kf)) := e_callS hS hdg hlk hf hy hst hn hml hcat hE (fun a => k a)
end AS
set_option maxRecDepth 100000 in
set_option maxHeartbeats 4000000 in
theorem s_pf18 {l : Launch} {g : am_G} {B : am_M} {pl : Nat} (hL : am_Lay B pl) {pz : Nat} (hZ : am_av (am_ro B 4 12) = .ref pz) (hP : am_isPour B pz) (a1 : Int32) (j1u : am_U) : am_E l g d_X10_pouringsFrom 18 [some (.ref (4)), some (.int (a1))] [] (am_of B j1u) (am_r (am_bQ B pz) (am_ck (am_ix a1 6) ((f_X6_explore pz pl (j1u 10 a1.toNatClampNeg) j1u).bind (fun q3 => some q3)))) := by
  refine e_aload_n dX10_pouringsFrom_18 rfl ?_
  refine q_getR (r := pz) dX10_pouringsFrom_19 lf_N_389 rfl (by decide) (am_Lk hL rfl) hZ ?_
  refine e_aload_n dX10_pouringsFrom_22 rfl ?_
  refine q_getR (r := pl) dX10_pouringsFrom_23 lf_N_72 rfl (by decide) (am_Lk hL rfl) (am_Lpl hL) ?_
  refine e_aload_n dX10_pouringsFrom_26 rfl ?_
  refine q_getR (r := 8) dX10_pouringsFrom_27 lf_N_28 rfl (by decide) (am_Lk hL rfl) (am_Lr hL rfl) ?_
  refine e_aload_n dX10_pouringsFrom_30 rfl ?_
  refine q_getR (r := 8) dX10_pouringsFrom_31 lf_N_28 rfl (by decide) (am_Lk hL rfl) (am_Lr hL rfl) ?_
  refine q_getR (r := 10) dX10_pouringsFrom_34 lf_N_187 rfl (by decide) (am_Lk hL rfl) (am_Lr hL rfl) ?_
  refine e_iload_n dX10_pouringsFrom_37 rfl ?_
  refine q_ialdH dX10_pouringsFrom_38 (am_Ls hL rfl) (fun i2 => ?_)
  refine q_callVV (As := [_, _, _]) rfl dX10_pouringsFrom_39 lm_N_394 (am_fitB rfl) yo_X6_explore ys_X6_explore rfl rfl (by decide) (congrArg Prod.fst hP.1) rfl (Nat.le_of_ble_eq_true rfl) (Nat.le_of_ble_eq_true rfl) (s_X6_explore hL _ _ _ hP (am_pln hL) _) (fun q3 => ?_)
  refine e_aload_n dX10_pouringsFrom_42 rfl ?_
  refine q_getR (r := pz) dX10_pouringsFrom_43 lf_N_389 rfl (by decide) (am_Lk hL rfl) hZ ?_
  exact e_aret dX10_pouringsFrom_46 rfl rfl
theorem am_pB_eq {B : am_M} {u : am_U} : am_wR (c_X6_init (am_mk (am_of B u) 5 8) (am_nx B) (am_nx B + 1)) 4 12 (am_nx B) = am_of (am_pB B) (am_pU B u) := by
  obtain ⟨b1, b2, b3, b4, b5, b6⟩ := B
  rfl
def f_X10_pouringsFrom_a (B : am_M) (pl : Nat) (a1 : Int32) (u : am_U) : Option am_U :=
  am_ck (am_ix a1 6) ((f_X6_explore (am_nx B) pl (am_pU B u 10 a1.toNatClampNeg) (am_pU B u)).bind (fun q3 => some q3))
set_option maxRecDepth 100000 in
set_option maxHeartbeats 4000000 in
theorem s_X10_pouringsFrom_a {l : Launch} {g : am_G} {B : am_M} {pl : Nat} (hL : am_Lay B pl) (hZ0 : am_ro B 4 12 = 0) (hN : 91 ≤ am_nx B) (a1 : Int32) (u : am_U) : am_E l g d_X10_pouringsFrom 0 (am_ent d_X10_pouringsFrom [.ref 4, .int a1]) [] (am_of B u) (am_r (am_bQ (am_pB B) (am_nx B)) (f_X10_pouringsFrom_a B pl a1 u)) := by
  unfold f_X10_pouringsFrom_a
  show am_E l g d_X10_pouringsFrom 0 [some (.ref 4), some (.int a1)] [] (am_of B u) _
  refine e_aload_n dX10_pouringsFrom_0 rfl ?_
  refine e_getN dX10_pouringsFrom_1 lf_N_389 rfl (by decide) (am_Lk hL rfl) hZ0 ?_
  refine e_ifnonnullN dX10_pouringsFrom_4 ?_
  refine e_aload_n dX10_pouringsFrom_7 rfl ?_
  refine k_new (k := 5) (a := am_nx B) rfl dX10_pouringsFrom_8 rfl (by decide) lk_N_276 li_Pourings lz_Pourings lt_Pourings ?_
  refine e_dup dX10_pouringsFrom_11 rfl ?_
  refine k_callI0 (As := []) rfl dX10_pouringsFrom_12 lm_N_393 (am_fitB rfl) yo_X6_init rfl rfl ys_X6_init rfl (Nat.le_of_ble_eq_true rfl) (Nat.le_of_ble_eq_true rfl) (s_X6_init (okp_nw (k := 5) (n := 8) rfl) (nx_mk (k := 5) (n := 8) rfl)) ?_
  refine e_putR dX10_pouringsFrom_15 lf_N_389 rfl rfl (by decide) ?_ (am_avN (by omega)) ?_
  · have h := okp_X6_init (M := am_mk (am_of B u) 5 8) (t := am_nx B) (a := am_nx B + 1) (i := 4) (by omega) rfl (okp_mk (k := 5) (n := 8) (am_okp0 (B := am_of B u) (i := 4) (show 4 < am_nx B by omega)))
    exact (congrArg Prod.fst h.2.1).trans (am_Lk hL rfl)
  · show am_E l g d_X10_pouringsFrom 18 [some (.ref 4), some (.int a1)] [] (am_wR (c_X6_init (am_mk (am_of B u) 5 8) (am_nx B) (am_nx B + 1)) 4 12 (am_nx B)) _
    rw [am_pB_eq]
    exact s_pf18 (am_pB_L hL hN) (am_pB_av hN) (am_pB_is hN) a1 (am_pU B u)
