theorem ln_Row_9 : am_fn "NoonJars$Row" 9 7 0 := fun r hr => by cases hr; exact ⟨rfl, rfl, List.mem_of_getElem? (i := 286) (by decide +kernel)⟩
theorem ln_Scene_9 : am_fn "NoonJars$Scene" 9 8 0 := fun r hr => by cases hr; exact ⟨rfl, rfl, List.mem_of_getElem? (i := 117) (by decide +kernel)⟩
theorem ln_Scene_15 : am_fn "NoonJars$Scene" 15 8 1 := fun r hr => by cases hr; exact ⟨rfl, rfl, List.mem_of_getElem? (i := 121) (by decide +kernel)⟩
theorem ln_Scene_18 : am_fn "NoonJars$Scene" 18 8 2 := fun r hr => by cases hr; exact ⟨rfl, rfl, List.mem_of_getElem? (i := 125) (by decide +kernel)⟩
theorem ln_Scene_21 : am_fn "NoonJars$Scene" 21 8 3 := fun r hr => by cases hr; exact ⟨rfl, rfl, List.mem_of_getElem? (i := 128) (by decide +kernel)⟩
theorem ln_Scene_24 : am_fn "NoonJars$Scene" 24 8 4 := fun r hr => by cases hr; exact ⟨rfl, rfl, List.mem_of_getElem? (i := 131) (by decide +kernel)⟩
theorem ln_Burnings_9 : am_fn "NoonJars$Burnings" 9 0 0 := fun r hr => by cases hr; exact ⟨rfl, rfl, List.mem_of_getElem? (i := 197) (by decide +kernel)⟩
theorem ln_Burnings_15 : am_fn "NoonJars$Burnings" 15 0 1 := fun r hr => by cases hr; exact ⟨rfl, rfl, List.mem_of_getElem? (i := 199) (by decide +kernel)⟩
theorem ln_Burnings_18 : am_fn "NoonJars$Burnings" 18 0 2 := fun r hr => by cases hr; exact ⟨rfl, rfl, List.mem_of_getElem? (i := 201) (by decide +kernel)⟩
theorem ln_Burnings_21 : am_fn "NoonJars$Burnings" 21 0 3 := fun r hr => by cases hr; exact ⟨rfl, rfl, List.mem_of_getElem? (i := 203) (by decide +kernel)⟩
theorem ln_Loads_9 : am_fn "NoonJars$Loads" 9 2 0 := fun r hr => by cases hr; exact ⟨rfl, rfl, List.mem_of_getElem? (i := 226) (by decide +kernel)⟩
theorem ln_Loads_15 : am_fn "NoonJars$Loads" 15 2 1 := fun r hr => by cases hr; exact ⟨rfl, rfl, List.mem_of_getElem? (i := 227) (by decide +kernel)⟩
theorem ln_Plan_9 : am_fn "NoonJars$Plan" 9 4 3 := fun r hr => by cases hr; exact ⟨rfl, rfl, List.mem_of_getElem? (i := 252) (by decide +kernel)⟩
theorem ln_Plan_15 : am_fn "NoonJars$Plan" 15 4 4 := fun r hr => by cases hr; exact ⟨rfl, rfl, List.mem_of_getElem? (i := 254) (by decide +kernel)⟩
theorem ln_Plan_18 : am_fn "NoonJars$Plan" 18 4 5 := fun r hr => by cases hr; exact ⟨rfl, rfl, List.mem_of_getElem? (i := 258) (by decide +kernel)⟩
theorem ln_Plan_21 : am_fn "NoonJars$Plan" 21 4 6 := fun r hr => by cases hr; exact ⟨rfl, rfl, List.mem_of_getElem? (i := 261) (by decide +kernel)⟩
theorem ln_Pourings_11 : am_fn "NoonJars$Pourings" 11 5 0 := fun r hr => by cases hr; exact ⟨rfl, rfl, List.mem_of_getElem? (i := 725) (by decide +kernel)⟩
theorem ln_Pourings_15 : am_fn "NoonJars$Pourings" 15 5 1 := fun r hr => by cases hr; exact ⟨rfl, rfl, List.mem_of_getElem? (i := 726) (by decide +kernel)⟩
theorem ln_Pourings_18 : am_fn "NoonJars$Pourings" 18 5 2 := fun r hr => by cases hr; exact ⟨rfl, rfl, List.mem_of_getElem? (i := 727) (by decide +kernel)⟩
theorem ln_Pourings_21 : am_fn "NoonJars$Pourings" 21 5 3 := fun r hr => by cases hr; exact ⟨rfl, rfl, List.mem_of_getElem? (i := 728) (by decide +kernel)⟩
theorem ln_Pourings_24 : am_fn "NoonJars$Pourings" 24 5 4 := fun r hr => by cases hr; exact ⟨rfl, rfl, List.mem_of_getElem? (i := 729) (by decide +kernel)⟩
theorem ln_Memory_17 : am_fn "NoonJars$Memory" 17 3 0 := fun r hr => by cases hr; exact ⟨rfl, rfl, List.mem_of_getElem? (i := 171) (by decide +kernel)⟩
theorem li_Memory : Cond.instantiable "NoonJars$Memory" 1 ∈ lw_tbl := List.mem_of_getElem? (i := 163) (by decide +kernel)
theorem lz_Memory : Cond.initialized "NoonJars$Memory" ∈ lw_tbl := List.mem_of_getElem? (i := 76) (by decide +kernel)
theorem lt_Memory : ∀ f, f < 1 → am_tyok (am_ft 3 f) = true := by decide
theorem lk_Deeds_9 : Cond.classLink "NoonJars$Deeds" 9 "NoonJars$Memory" ∈ lw_tbl := List.mem_of_getElem? (i := 162) (by decide +kernel)
theorem ln_Deeds_14 : am_fn "NoonJars$Deeds" 14 1 0 := fun r hr => by cases hr; exact ⟨rfl, rfl, List.mem_of_getElem? (i := 175) (by decide +kernel)⟩
theorem ln_Deeds_20 : am_fn "NoonJars$Deeds" 20 1 1 := fun r hr => by cases hr; exact ⟨rfl, rfl, List.mem_of_getElem? (i := 176) (by decide +kernel)⟩
set_option maxRecDepth 100000 in
set_option maxHeartbeats 4000000 in
theorem s0_J9_max_7cf53 {l : Launch} {g : am_G} {B : am_M} (a0 : Int32) (a1 : Int32)  (u : am_U) : am_E l g d_J9_max_7cf53 0 (am_ent d_J9_max_7cf53 [.int (a0), .int (a1)]) [] (am_of B u) (am_r (am_bP B u) (f_J9_max_7cf53 a0 a1)) := by
  unfold f_J9_max_7cf53
  show am_E l g d_J9_max_7cf53 0 [some (.int (a0)), some (.int (a1))] [] (am_of B u) _
  refine e_iload_n dJ9_max_7cf53_0 rfl ?_
  refine e_iload_n dJ9_max_7cf53_1 rfl ?_
  refine e_if2_lt dJ9_max_7cf53_2 (tgt := 9) (by decide) ?_ ?_
  · refine e_iload_n dJ9_max_7cf53_9 rfl ?_
    exact e_iret dJ9_max_7cf53_10 rfl rfl
  · refine e_iload_n dJ9_max_7cf53_5 rfl ?_
    refine e_goto dJ9_max_7cf53_6 (tgt := 10) (by decide) ?_
    exact e_iret dJ9_max_7cf53_10 rfl rfl

def c_X7_init (M : am_M) (t a : Nat) : am_M :=

  M
set_option maxRecDepth 100000 in
set_option maxHeartbeats 4000000 in
theorem s_X7_init {l : Launch} {g : am_G} {M : am_M} {t a : Nat} {R : Nat → Nat} (ft : am_okp M t (6, 2) R) (hN : am_nx M = a) : am_E l g d_X7_init 0 (am_ent d_X7_init [.ref t]) [] M (some (none, c_X7_init M t a)) := by
  have h0 : t < a := by have := ft.1; omega
  show am_E l g d_X7_init 0 [some (.ref t)] [] M _
  refine e_aload_n dX7_init_0 rfl ?_
  refine e_objInit dX7_init_1 lm_Reader_3 lw_oii lw_oic (by decide) (Nat.le_of_ble_eq_true rfl) ?_
  exact am_end rfl ⟨dX7_init_4, rfl⟩
theorem okp_X7_init {M : am_M} {t a : Nat} {i : Nat} {p : Nat × Nat} {R : Nat → Nat} (hi : i ≠ t) (hN : am_nx M = a) (h : am_okp M i p R) : am_okp (c_X7_init M t a) i p R := by
  have h0 : i < a := by have := h.1; omega
  skip
  exact h
theorem nx_X7_init {M : am_M} {t a : Nat} (hN : am_nx M = a) : am_nx (c_X7_init M t a) = a + 0 := by
  skip
  exact hN

def c_X8_init (M : am_M) (t a : Nat) : am_M :=
  let M1 : am_M := am_mk M 12 60
  let M2 : am_M := am_wR M1 t 0 a
  let M3 : am_M := am_wI M2 t 1 (-1)
  M3
set_option maxRecDepth 100000 in
set_option maxHeartbeats 4000000 in
theorem s_X8_init {l : Launch} {g : am_G} {M : am_M} {t a : Nat} {R : Nat → Nat} (ft : am_okp M t (7, 2) R) (hN : am_nx M = a) : am_E l g d_X8_init 0 (am_ent d_X8_init [.ref t]) [] M (some (none, c_X8_init M t a)) := by
  have h0 : t < a := by have := ft.1; omega
  show am_E l g d_X8_init 0 [some (.ref t)] [] M _
  refine e_aload_n dX8_init_0 rfl ?_
  refine e_objInit dX8_init_1 lm_Row_3 lw_oii lw_oic (by decide) (Nat.le_of_ble_eq_true rfl) ?_
  refine e_aload_n dX8_init_4 rfl ?_
  refine e_bipush dX8_init_5 (v := 60) (by decide) ?_
  refine k_newa (a := a) (N := 60) hN dX8_init_7 (Or.inr (Or.inl ⟨rfl, rfl⟩)) lw_aint (by decide) (by decide) (by decide) ?_
  have f1_t := okp_mk (k := 12) (n := 60) ft
  have n1 := nx_mk (k := 12) (n := 60) hN
  refine e_putRF dX8_init_9 lf_Row_9 rfl ln_Row_9 rfl (by decide) (okp_k f1_t) (am_avN (by omega)) ?_
  have f2_t := okp_wRs (f := 0) (v := a) f1_t
  have n2 := nx_wR (i := t) (f := 0) (v := a) n1
  refine e_aload_n dX8_init_12 rfl ?_
  refine e_iconst dX8_init_13 (v := (-1)) (by decide) ?_
  refine e_putI dX8_init_14 lf_Row_15 rfl (by decide) (okp_k f2_t) ?_
  have f3_t := okp_wI (i := t) (f := 1) (v := (-1)) f2_t
  have n3 := nx_wI (i := t) (f := 1) (v := (-1)) n2
  exact am_end rfl ⟨dX8_init_17, rfl⟩
theorem okp_X8_init {M : am_M} {t a : Nat} {i : Nat} {p : Nat × Nat} {R : Nat → Nat} (hi : i ≠ t) (hN : am_nx M = a) (h : am_okp M i p R) : am_okp (c_X8_init M t a) i p R := by
  have h0 : i < a := by have := h.1; omega
  have e1 := okp_mk (k := 12) (n := 60) h
  have m1 := nx_mk (k := 12) (n := 60) hN
  have e2 := okp_wR (i := t) (f := 0) (v := a) (by omega) e1
  have m2 := nx_wR (i := t) (f := 0) (v := a) m1
  have e3 := okp_wI (i := t) (f := 1) (v := (-1)) e2
  have m3 := nx_wI (i := t) (f := 1) (v := (-1)) m2
  exact e3
theorem nx_X8_init {M : am_M} {t a : Nat} (hN : am_nx M = a) : am_nx (c_X8_init M t a) = a + 1 := by
  have m1 := nx_mk (k := 12) (n := 60) hN
  have m2 := nx_wR (i := t) (f := 0) (v := a) m1
  have m3 := nx_wI (i := t) (f := 1) (v := (-1)) m2
  exact m3
theorem sf_X8_init {M : am_M} {t a : Nat} {p : Nat × Nat} {R : Nat → Nat} (h : am_okp M t p R) : am_okp (c_X8_init M t a) t p (va_up R 0 a) := okp_wI (i := t) (f := 1) (v := (-1)) (okp_wRs (f := 0) (v := a) (okp_mk (k := 12) (n := 60) h))

def c_X9_init (M : am_M) (t a : Nat) : am_M :=
  let M1 : am_M := am_mk M 12 6
  let M2 : am_M := am_wR M1 t 0 a
  let M3 : am_M := am_mk M2 12 6
  let M4 : am_M := am_wR M3 t 1 (a + 1)
  let M5 : am_M := am_mk M4 12 6
  let M6 : am_M := am_wR M5 t 2 (a + 2)
  let M7 : am_M := am_mk M6 12 5
  let M8 : am_M := am_wR M7 t 3 (a + 3)
  let M9 : am_M := am_mk M8 12 5
  let M10 : am_M := am_wR M9 t 4 (a + 4)
  M10
set_option maxRecDepth 100000 in
set_option maxHeartbeats 4000000 in
theorem s_X9_init {l : Launch} {g : am_G} {M : am_M} {t a : Nat} {R : Nat → Nat} (ft : am_okp M t (8, 7) R) (hN : am_nx M = a) : am_E l g d_X9_init 0 (am_ent d_X9_init [.ref t]) [] M (some (none, c_X9_init M t a)) := by
  have h0 : t < a := by have := ft.1; omega
  show am_E l g d_X9_init 0 [some (.ref t)] [] M _
  refine e_aload_n dX9_init_0 rfl ?_
  refine e_objInit dX9_init_1 lm_Scene_3 lw_oii lw_oic (by decide) (Nat.le_of_ble_eq_true rfl) ?_
  refine e_aload_n dX9_init_4 rfl ?_
  refine e_bipush dX9_init_5 (v := 6) (by decide) ?_
  refine k_newa (a := a) (N := 6) hN dX9_init_7 (Or.inr (Or.inl ⟨rfl, rfl⟩)) lw_aint (by decide) (by decide) (by decide) ?_
  have f1_t := okp_mk (k := 12) (n := 6) ft
  have n1 := nx_mk (k := 12) (n := 6) hN
  refine e_putRF dX9_init_9 lf_Scene_9 rfl ln_Scene_9 rfl (by decide) (okp_k f1_t) (am_avN (by omega)) ?_
  have f2_t := okp_wRs (f := 0) (v := a) f1_t
  have n2 := nx_wR (i := t) (f := 0) (v := a) n1
  refine e_aload_n dX9_init_12 rfl ?_
  refine e_bipush dX9_init_13 (v := 6) (by decide) ?_
  refine k_newa (a := a + 1) (N := 6) n2 dX9_init_15 (Or.inr (Or.inl ⟨rfl, rfl⟩)) lw_aint (by decide) (by decide) (by decide) ?_
  have f3_t := okp_mk (k := 12) (n := 6) f2_t
  have n3 := nx_mk (k := 12) (n := 6) n2
  refine e_putRF dX9_init_17 lf_Scene_15 rfl ln_Scene_15 rfl (by decide) (okp_k f3_t) (am_avN (by omega)) ?_
  have f4_t := okp_wRs (f := 1) (v := a + 1) f3_t
  have n4 := nx_wR (i := t) (f := 1) (v := a + 1) n3
  refine e_aload_n dX9_init_20 rfl ?_
  refine e_bipush dX9_init_21 (v := 6) (by decide) ?_
  refine k_newa (a := a + 2) (N := 6) n4 dX9_init_23 (Or.inr (Or.inl ⟨rfl, rfl⟩)) lw_aint (by decide) (by decide) (by decide) ?_
  have f5_t := okp_mk (k := 12) (n := 6) f4_t
  have n5 := nx_mk (k := 12) (n := 6) n4
  refine e_putRF dX9_init_25 lf_Scene_18 rfl ln_Scene_18 rfl (by decide) (okp_k f5_t) (am_avN (by omega)) ?_
  have f6_t := okp_wRs (f := 2) (v := a + 2) f5_t
  have n6 := nx_wR (i := t) (f := 2) (v := a + 2) n5
  refine e_aload_n dX9_init_28 rfl ?_
  refine e_iconst dX9_init_29 (v := 5) (by decide) ?_
  refine k_newa (a := a + 3) (N := 5) n6 dX9_init_30 (Or.inr (Or.inl ⟨rfl, rfl⟩)) lw_aint (by decide) (by decide) (by decide) ?_
  have f7_t := okp_mk (k := 12) (n := 5) f6_t
  have n7 := nx_mk (k := 12) (n := 5) n6
  refine e_putRF dX9_init_32 lf_Scene_21 rfl ln_Scene_21 rfl (by decide) (okp_k f7_t) (am_avN (by omega)) ?_
  have f8_t := okp_wRs (f := 3) (v := a + 3) f7_t
  have n8 := nx_wR (i := t) (f := 3) (v := a + 3) n7
  refine e_aload_n dX9_init_35 rfl ?_
  refine e_iconst dX9_init_36 (v := 5) (by decide) ?_
  refine k_newa (a := a + 4) (N := 5) n8 dX9_init_37 (Or.inr (Or.inl ⟨rfl, rfl⟩)) lw_aint (by decide) (by decide) (by decide) ?_
  have f9_t := okp_mk (k := 12) (n := 5) f8_t
  have n9 := nx_mk (k := 12) (n := 5) n8
  refine e_putRF dX9_init_39 lf_Scene_24 rfl ln_Scene_24 rfl (by decide) (okp_k f9_t) (am_avN (by omega)) ?_
  have f10_t := okp_wRs (f := 4) (v := a + 4) f9_t
  have n10 := nx_wR (i := t) (f := 4) (v := a + 4) n9
  exact am_end rfl ⟨dX9_init_42, rfl⟩
theorem okp_X9_init {M : am_M} {t a : Nat} {i : Nat} {p : Nat × Nat} {R : Nat → Nat} (hi : i ≠ t) (hN : am_nx M = a) (h : am_okp M i p R) : am_okp (c_X9_init M t a) i p R := by
  have h0 : i < a := by have := h.1; omega
  have e1 := okp_mk (k := 12) (n := 6) h
  have m1 := nx_mk (k := 12) (n := 6) hN
  have e2 := okp_wR (i := t) (f := 0) (v := a) (by omega) e1
  have m2 := nx_wR (i := t) (f := 0) (v := a) m1
  have e3 := okp_mk (k := 12) (n := 6) e2
  have m3 := nx_mk (k := 12) (n := 6) m2
  have e4 := okp_wR (i := t) (f := 1) (v := a + 1) (by omega) e3
  have m4 := nx_wR (i := t) (f := 1) (v := a + 1) m3
  have e5 := okp_mk (k := 12) (n := 6) e4
  have m5 := nx_mk (k := 12) (n := 6) m4
  have e6 := okp_wR (i := t) (f := 2) (v := a + 2) (by omega) e5
  have m6 := nx_wR (i := t) (f := 2) (v := a + 2) m5
  have e7 := okp_mk (k := 12) (n := 5) e6
  have m7 := nx_mk (k := 12) (n := 5) m6
  have e8 := okp_wR (i := t) (f := 3) (v := a + 3) (by omega) e7
  have m8 := nx_wR (i := t) (f := 3) (v := a + 3) m7
  have e9 := okp_mk (k := 12) (n := 5) e8
  have m9 := nx_mk (k := 12) (n := 5) m8
  have e10 := okp_wR (i := t) (f := 4) (v := a + 4) (by omega) e9
  have m10 := nx_wR (i := t) (f := 4) (v := a + 4) m9
  exact e10
theorem nx_X9_init {M : am_M} {t a : Nat} (hN : am_nx M = a) : am_nx (c_X9_init M t a) = a + 5 := by
  have m1 := nx_mk (k := 12) (n := 6) hN
  have m2 := nx_wR (i := t) (f := 0) (v := a) m1
  have m3 := nx_mk (k := 12) (n := 6) m2
  have m4 := nx_wR (i := t) (f := 1) (v := a + 1) m3
  have m5 := nx_mk (k := 12) (n := 6) m4
  have m6 := nx_wR (i := t) (f := 2) (v := a + 2) m5
  have m7 := nx_mk (k := 12) (n := 5) m6
  have m8 := nx_wR (i := t) (f := 3) (v := a + 3) m7
  have m9 := nx_mk (k := 12) (n := 5) m8
  have m10 := nx_wR (i := t) (f := 4) (v := a + 4) m9
  exact m10

def c_X0_init (M : am_M) (t a : Nat) : am_M :=
  let M1 : am_M := am_mk M 12 8
  let M2 : am_M := am_wR M1 t 0 a
  let M3 : am_M := am_mk M2 12 8
  let M4 : am_M := am_wR M3 t 1 (a + 1)
  let M5 : am_M := am_mk M4 12 64
  let M6 : am_M := am_wR M5 t 2 (a + 2)
  let M7 : am_M := am_mk M6 12 121
  let M8 : am_M := am_wR M7 t 3 (a + 3)
  M8
set_option maxRecDepth 100000 in
set_option maxHeartbeats 4000000 in
theorem s_X0_init {l : Launch} {g : am_G} {M : am_M} {t a : Nat} {R : Nat → Nat} (ft : am_okp M t (0, 6) R) (hN : am_nx M = a) : am_E l g d_X0_init 0 (am_ent d_X0_init [.ref t]) [] M (some (none, c_X0_init M t a)) := by
  have h0 : t < a := by have := ft.1; omega
  show am_E l g d_X0_init 0 [some (.ref t)] [] M _
  refine e_aload_n dX0_init_0 rfl ?_
  refine e_objInit dX0_init_1 lm_Burnings_3 lw_oii lw_oic (by decide) (Nat.le_of_ble_eq_true rfl) ?_
  refine e_aload_n dX0_init_4 rfl ?_
  refine e_bipush dX0_init_5 (v := 8) (by decide) ?_
  refine k_newa (a := a) (N := 8) hN dX0_init_7 (Or.inr (Or.inl ⟨rfl, rfl⟩)) lw_aint (by decide) (by decide) (by decide) ?_
  have f1_t := okp_mk (k := 12) (n := 8) ft
  have n1 := nx_mk (k := 12) (n := 8) hN
  refine e_putRF dX0_init_9 lf_Burnings_9 rfl ln_Burnings_9 rfl (by decide) (okp_k f1_t) (am_avN (by omega)) ?_
  have f2_t := okp_wRs (f := 0) (v := a) f1_t
  have n2 := nx_wR (i := t) (f := 0) (v := a) n1
  refine e_aload_n dX0_init_12 rfl ?_
  refine e_bipush dX0_init_13 (v := 8) (by decide) ?_
  refine k_newa (a := a + 1) (N := 8) n2 dX0_init_15 (Or.inr (Or.inl ⟨rfl, rfl⟩)) lw_aint (by decide) (by decide) (by decide) ?_
  have f3_t := okp_mk (k := 12) (n := 8) f2_t
  have n3 := nx_mk (k := 12) (n := 8) n2
  refine e_putRF dX0_init_17 lf_Burnings_15 rfl ln_Burnings_15 rfl (by decide) (okp_k f3_t) (am_avN (by omega)) ?_
  have f4_t := okp_wRs (f := 1) (v := a + 1) f3_t
  have n4 := nx_wR (i := t) (f := 1) (v := a + 1) n3
  refine e_aload_n dX0_init_20 rfl ?_
  refine e_bipush dX0_init_21 (v := 64) (by decide) ?_
  refine k_newa (a := a + 2) (N := 64) n4 dX0_init_23 (Or.inr (Or.inl ⟨rfl, rfl⟩)) lw_aint (by decide) (by decide) (by decide) ?_
  have f5_t := okp_mk (k := 12) (n := 64) f4_t
  have n5 := nx_mk (k := 12) (n := 64) n4
  refine e_putRF dX0_init_25 lf_Burnings_18 rfl ln_Burnings_18 rfl (by decide) (okp_k f5_t) (am_avN (by omega)) ?_
  have f6_t := okp_wRs (f := 2) (v := a + 2) f5_t
  have n6 := nx_wR (i := t) (f := 2) (v := a + 2) n5
  refine e_aload_n dX0_init_28 rfl ?_
  refine e_bipush dX0_init_29 (v := 121) (by decide) ?_
  refine k_newa (a := a + 3) (N := 121) n6 dX0_init_31 (Or.inr (Or.inl ⟨rfl, rfl⟩)) lw_aint (by decide) (by decide) (by decide) ?_
  have f7_t := okp_mk (k := 12) (n := 121) f6_t
  have n7 := nx_mk (k := 12) (n := 121) n6
  refine e_putRF dX0_init_33 lf_Burnings_21 rfl ln_Burnings_21 rfl (by decide) (okp_k f7_t) (am_avN (by omega)) ?_
  have f8_t := okp_wRs (f := 3) (v := a + 3) f7_t
  have n8 := nx_wR (i := t) (f := 3) (v := a + 3) n7
  exact am_end rfl ⟨dX0_init_36, rfl⟩
theorem okp_X0_init {M : am_M} {t a : Nat} {i : Nat} {p : Nat × Nat} {R : Nat → Nat} (hi : i ≠ t) (hN : am_nx M = a) (h : am_okp M i p R) : am_okp (c_X0_init M t a) i p R := by
  have h0 : i < a := by have := h.1; omega
  have e1 := okp_mk (k := 12) (n := 8) h
  have m1 := nx_mk (k := 12) (n := 8) hN
  have e2 := okp_wR (i := t) (f := 0) (v := a) (by omega) e1
  have m2 := nx_wR (i := t) (f := 0) (v := a) m1
  have e3 := okp_mk (k := 12) (n := 8) e2
  have m3 := nx_mk (k := 12) (n := 8) m2
  have e4 := okp_wR (i := t) (f := 1) (v := a + 1) (by omega) e3
  have m4 := nx_wR (i := t) (f := 1) (v := a + 1) m3
  have e5 := okp_mk (k := 12) (n := 64) e4
  have m5 := nx_mk (k := 12) (n := 64) m4
  have e6 := okp_wR (i := t) (f := 2) (v := a + 2) (by omega) e5
  have m6 := nx_wR (i := t) (f := 2) (v := a + 2) m5
  have e7 := okp_mk (k := 12) (n := 121) e6
  have m7 := nx_mk (k := 12) (n := 121) m6
  have e8 := okp_wR (i := t) (f := 3) (v := a + 3) (by omega) e7
  have m8 := nx_wR (i := t) (f := 3) (v := a + 3) m7
  exact e8
theorem nx_X0_init {M : am_M} {t a : Nat} (hN : am_nx M = a) : am_nx (c_X0_init M t a) = a + 4 := by
  have m1 := nx_mk (k := 12) (n := 8) hN
  have m2 := nx_wR (i := t) (f := 0) (v := a) m1
  have m3 := nx_mk (k := 12) (n := 8) m2
  have m4 := nx_wR (i := t) (f := 1) (v := a + 1) m3
  have m5 := nx_mk (k := 12) (n := 64) m4
  have m6 := nx_wR (i := t) (f := 2) (v := a + 2) m5
  have m7 := nx_mk (k := 12) (n := 121) m6
  have m8 := nx_wR (i := t) (f := 3) (v := a + 3) m7
  exact m8

def c_X3_init (M : am_M) (t a : Nat) : am_M :=
  let M1 : am_M := am_mk M 12 64
  let M2 : am_M := am_wR M1 t 0 a
  let M3 : am_M := am_mk M2 12 64
  let M4 : am_M := am_wR M3 t 1 (a + 1)
  M4
set_option maxRecDepth 100000 in
set_option maxHeartbeats 4000000 in
theorem s_X3_init {l : Launch} {g : am_G} {M : am_M} {t a : Nat} {R : Nat → Nat} (ft : am_okp M t (2, 3) R) (hN : am_nx M = a) : am_E l g d_X3_init 0 (am_ent d_X3_init [.ref t]) [] M (some (none, c_X3_init M t a)) := by
  have h0 : t < a := by have := ft.1; omega
  show am_E l g d_X3_init 0 [some (.ref t)] [] M _
  refine e_aload_n dX3_init_0 rfl ?_
  refine e_objInit dX3_init_1 lm_Loads_3 lw_oii lw_oic (by decide) (Nat.le_of_ble_eq_true rfl) ?_
  refine e_aload_n dX3_init_4 rfl ?_
  refine e_bipush dX3_init_5 (v := 64) (by decide) ?_
  refine k_newa (a := a) (N := 64) hN dX3_init_7 (Or.inr (Or.inl ⟨rfl, rfl⟩)) lw_aint (by decide) (by decide) (by decide) ?_
  have f1_t := okp_mk (k := 12) (n := 64) ft
  have n1 := nx_mk (k := 12) (n := 64) hN
  refine e_putRF dX3_init_9 lf_Loads_9 rfl ln_Loads_9 rfl (by decide) (okp_k f1_t) (am_avN (by omega)) ?_
  have f2_t := okp_wRs (f := 0) (v := a) f1_t
  have n2 := nx_wR (i := t) (f := 0) (v := a) n1
  refine e_aload_n dX3_init_12 rfl ?_
  refine e_bipush dX3_init_13 (v := 64) (by decide) ?_
  refine k_newa (a := a + 1) (N := 64) n2 dX3_init_15 (Or.inr (Or.inl ⟨rfl, rfl⟩)) lw_aint (by decide) (by decide) (by decide) ?_
  have f3_t := okp_mk (k := 12) (n := 64) f2_t
  have n3 := nx_mk (k := 12) (n := 64) n2
  refine e_putRF dX3_init_17 lf_Loads_15 rfl ln_Loads_15 rfl (by decide) (okp_k f3_t) (am_avN (by omega)) ?_
  have f4_t := okp_wRs (f := 1) (v := a + 1) f3_t
  have n4 := nx_wR (i := t) (f := 1) (v := a + 1) n3
  exact am_end rfl ⟨dX3_init_20, rfl⟩
theorem okp_X3_init {M : am_M} {t a : Nat} {i : Nat} {p : Nat × Nat} {R : Nat → Nat} (hi : i ≠ t) (hN : am_nx M = a) (h : am_okp M i p R) : am_okp (c_X3_init M t a) i p R := by
  have h0 : i < a := by have := h.1; omega
  have e1 := okp_mk (k := 12) (n := 64) h
  have m1 := nx_mk (k := 12) (n := 64) hN
  have e2 := okp_wR (i := t) (f := 0) (v := a) (by omega) e1
  have m2 := nx_wR (i := t) (f := 0) (v := a) m1
  have e3 := okp_mk (k := 12) (n := 64) e2
  have m3 := nx_mk (k := 12) (n := 64) m2
  have e4 := okp_wR (i := t) (f := 1) (v := a + 1) (by omega) e3
  have m4 := nx_wR (i := t) (f := 1) (v := a + 1) m3
  exact e4
theorem nx_X3_init {M : am_M} {t a : Nat} (hN : am_nx M = a) : am_nx (c_X3_init M t a) = a + 2 := by
  have m1 := nx_mk (k := 12) (n := 64) hN
  have m2 := nx_wR (i := t) (f := 0) (v := a) m1
  have m3 := nx_mk (k := 12) (n := 64) m2
  have m4 := nx_wR (i := t) (f := 1) (v := a + 1) m3
  exact m4

def c_X5_init (M : am_M) (t a : Nat) : am_M :=
  let M1 : am_M := am_mk M 12 8
  let M2 : am_M := am_wR M1 t 3 a
  let M3 : am_M := am_mk M2 12 5
  let M4 : am_M := am_wR M3 t 4 (a + 1)
  let M5 : am_M := am_mk M4 12 6
  let M6 : am_M := am_wR M5 t 5 (a + 2)
  let M7 : am_M := am_mk M6 12 6
  let M8 : am_M := am_wR M7 t 6 (a + 3)
  M8
set_option maxRecDepth 100000 in
set_option maxHeartbeats 4000000 in
theorem s_X5_init {l : Launch} {g : am_G} {M : am_M} {t a : Nat} {R : Nat → Nat} (ft : am_okp M t (4, 7) R) (hN : am_nx M = a) : am_E l g d_X5_init 0 (am_ent d_X5_init [.ref t]) [] M (some (none, c_X5_init M t a)) := by
  have h0 : t < a := by have := ft.1; omega
  show am_E l g d_X5_init 0 [some (.ref t)] [] M _
  refine e_aload_n dX5_init_0 rfl ?_
  refine e_objInit dX5_init_1 lm_Plan_3 lw_oii lw_oic (by decide) (Nat.le_of_ble_eq_true rfl) ?_
  refine e_aload_n dX5_init_4 rfl ?_
  refine e_bipush dX5_init_5 (v := 8) (by decide) ?_
  refine k_newa (a := a) (N := 8) hN dX5_init_7 (Or.inr (Or.inl ⟨rfl, rfl⟩)) lw_aint (by decide) (by decide) (by decide) ?_
  have f1_t := okp_mk (k := 12) (n := 8) ft
  have n1 := nx_mk (k := 12) (n := 8) hN
  refine e_putRF dX5_init_9 lf_Plan_9 rfl ln_Plan_9 rfl (by decide) (okp_k f1_t) (am_avN (by omega)) ?_
  have f2_t := okp_wRs (f := 3) (v := a) f1_t
  have n2 := nx_wR (i := t) (f := 3) (v := a) n1
  refine e_aload_n dX5_init_12 rfl ?_
  refine e_iconst dX5_init_13 (v := 5) (by decide) ?_
  refine k_newa (a := a + 1) (N := 5) n2 dX5_init_14 (Or.inr (Or.inl ⟨rfl, rfl⟩)) lw_aint (by decide) (by decide) (by decide) ?_
  have f3_t := okp_mk (k := 12) (n := 5) f2_t
  have n3 := nx_mk (k := 12) (n := 5) n2
  refine e_putRF dX5_init_16 lf_Plan_15 rfl ln_Plan_15 rfl (by decide) (okp_k f3_t) (am_avN (by omega)) ?_
  have f4_t := okp_wRs (f := 4) (v := a + 1) f3_t
  have n4 := nx_wR (i := t) (f := 4) (v := a + 1) n3
  refine e_aload_n dX5_init_19 rfl ?_
  refine e_bipush dX5_init_20 (v := 6) (by decide) ?_
  refine k_newa (a := a + 2) (N := 6) n4 dX5_init_22 (Or.inr (Or.inl ⟨rfl, rfl⟩)) lw_aint (by decide) (by decide) (by decide) ?_
  have f5_t := okp_mk (k := 12) (n := 6) f4_t
  have n5 := nx_mk (k := 12) (n := 6) n4
  refine e_putRF dX5_init_24 lf_Plan_18 rfl ln_Plan_18 rfl (by decide) (okp_k f5_t) (am_avN (by omega)) ?_
  have f6_t := okp_wRs (f := 5) (v := a + 2) f5_t
  have n6 := nx_wR (i := t) (f := 5) (v := a + 2) n5
  refine e_aload_n dX5_init_27 rfl ?_
  refine e_bipush dX5_init_28 (v := 6) (by decide) ?_
  refine k_newa (a := a + 3) (N := 6) n6 dX5_init_30 (Or.inr (Or.inl ⟨rfl, rfl⟩)) lw_aint (by decide) (by decide) (by decide) ?_
  have f7_t := okp_mk (k := 12) (n := 6) f6_t
  have n7 := nx_mk (k := 12) (n := 6) n6
  refine e_putRF dX5_init_32 lf_Plan_21 rfl ln_Plan_21 rfl (by decide) (okp_k f7_t) (am_avN (by omega)) ?_
  have f8_t := okp_wRs (f := 6) (v := a + 3) f7_t
  have n8 := nx_wR (i := t) (f := 6) (v := a + 3) n7
  exact am_end rfl ⟨dX5_init_35, rfl⟩
theorem okp_X5_init {M : am_M} {t a : Nat} {i : Nat} {p : Nat × Nat} {R : Nat → Nat} (hi : i ≠ t) (hN : am_nx M = a) (h : am_okp M i p R) : am_okp (c_X5_init M t a) i p R := by
  have h0 : i < a := by have := h.1; omega
  have e1 := okp_mk (k := 12) (n := 8) h
  have m1 := nx_mk (k := 12) (n := 8) hN
  have e2 := okp_wR (i := t) (f := 3) (v := a) (by omega) e1
  have m2 := nx_wR (i := t) (f := 3) (v := a) m1
  have e3 := okp_mk (k := 12) (n := 5) e2
  have m3 := nx_mk (k := 12) (n := 5) m2
  have e4 := okp_wR (i := t) (f := 4) (v := a + 1) (by omega) e3
  have m4 := nx_wR (i := t) (f := 4) (v := a + 1) m3
  have e5 := okp_mk (k := 12) (n := 6) e4
  have m5 := nx_mk (k := 12) (n := 6) m4
  have e6 := okp_wR (i := t) (f := 5) (v := a + 2) (by omega) e5
  have m6 := nx_wR (i := t) (f := 5) (v := a + 2) m5
  have e7 := okp_mk (k := 12) (n := 6) e6
  have m7 := nx_mk (k := 12) (n := 6) m6
  have e8 := okp_wR (i := t) (f := 6) (v := a + 3) (by omega) e7
  have m8 := nx_wR (i := t) (f := 6) (v := a + 3) m7
  exact e8
theorem nx_X5_init {M : am_M} {t a : Nat} (hN : am_nx M = a) : am_nx (c_X5_init M t a) = a + 4 := by
  have m1 := nx_mk (k := 12) (n := 8) hN
  have m2 := nx_wR (i := t) (f := 3) (v := a) m1
  have m3 := nx_mk (k := 12) (n := 5) m2
  have m4 := nx_wR (i := t) (f := 4) (v := a + 1) m3
  have m5 := nx_mk (k := 12) (n := 6) m4
  have m6 := nx_wR (i := t) (f := 5) (v := a + 2) m5
  have m7 := nx_mk (k := 12) (n := 6) m6
  have m8 := nx_wR (i := t) (f := 6) (v := a + 3) m7
  exact m8

def c_X6_init (M : am_M) (t a : Nat) : am_M :=
  let M1 : am_M := am_mk M 12 9261
  let M2 : am_M := am_wR M1 t 0 a
  let M3 : am_M := am_mk M2 12 9261
  let M4 : am_M := am_wR M3 t 1 (a + 1)
  let M5 : am_M := am_mk M4 12 9261
  let M6 : am_M := am_wR M5 t 2 (a + 2)
  let M7 : am_M := am_mk M6 12 3
  let M8 : am_M := am_wR M7 t 3 (a + 3)
  let M9 : am_M := am_mk M8 12 3
  let M10 : am_M := am_wR M9 t 4 (a + 4)
  M10
set_option maxRecDepth 100000 in
set_option maxHeartbeats 4000000 in
theorem s_X6_init {l : Launch} {g : am_G} {M : am_M} {t a : Nat} {R : Nat → Nat} (ft : am_okp M t (5, 8) R) (hN : am_nx M = a) : am_E l g d_X6_init 0 (am_ent d_X6_init [.ref t]) [] M (some (none, c_X6_init M t a)) := by
  have h0 : t < a := by have := ft.1; omega
  show am_E l g d_X6_init 0 [some (.ref t)] [] M _
  refine e_aload_n dX6_init_0 rfl ?_
  refine e_objInit dX6_init_1 lm_Pourings_5 lw_oii lw_oic (by decide) (Nat.le_of_ble_eq_true rfl) ?_
  refine e_aload_n dX6_init_4 rfl ?_
  refine e_sipush dX6_init_5 (v := 9261) (by decide) ?_
  refine k_newa (a := a) (N := 9261) hN dX6_init_8 (Or.inr (Or.inl ⟨rfl, rfl⟩)) lw_aint (by decide) (by decide) (by decide) ?_
  have f1_t := okp_mk (k := 12) (n := 9261) ft
  have n1 := nx_mk (k := 12) (n := 9261) hN
  refine e_putRF dX6_init_10 lf_Pourings_11 rfl ln_Pourings_11 rfl (by decide) (okp_k f1_t) (am_avN (by omega)) ?_
  have f2_t := okp_wRs (f := 0) (v := a) f1_t
  have n2 := nx_wR (i := t) (f := 0) (v := a) n1
  refine e_aload_n dX6_init_13 rfl ?_
  refine e_sipush dX6_init_14 (v := 9261) (by decide) ?_
  refine k_newa (a := a + 1) (N := 9261) n2 dX6_init_17 (Or.inr (Or.inl ⟨rfl, rfl⟩)) lw_aint (by decide) (by decide) (by decide) ?_
  have f3_t := okp_mk (k := 12) (n := 9261) f2_t
  have n3 := nx_mk (k := 12) (n := 9261) n2
  refine e_putRF dX6_init_19 lf_Pourings_15 rfl ln_Pourings_15 rfl (by decide) (okp_k f3_t) (am_avN (by omega)) ?_
  have f4_t := okp_wRs (f := 1) (v := a + 1) f3_t
  have n4 := nx_wR (i := t) (f := 1) (v := a + 1) n3
  refine e_aload_n dX6_init_22 rfl ?_
  refine e_sipush dX6_init_23 (v := 9261) (by decide) ?_
  refine k_newa (a := a + 2) (N := 9261) n4 dX6_init_26 (Or.inr (Or.inl ⟨rfl, rfl⟩)) lw_aint (by decide) (by decide) (by decide) ?_
  have f5_t := okp_mk (k := 12) (n := 9261) f4_t
  have n5 := nx_mk (k := 12) (n := 9261) n4
  refine e_putRF dX6_init_28 lf_Pourings_18 rfl ln_Pourings_18 rfl (by decide) (okp_k f5_t) (am_avN (by omega)) ?_
  have f6_t := okp_wRs (f := 2) (v := a + 2) f5_t
  have n6 := nx_wR (i := t) (f := 2) (v := a + 2) n5
  refine e_aload_n dX6_init_31 rfl ?_
  refine e_iconst dX6_init_32 (v := 3) (by decide) ?_
  refine k_newa (a := a + 3) (N := 3) n6 dX6_init_33 (Or.inr (Or.inl ⟨rfl, rfl⟩)) lw_aint (by decide) (by decide) (by decide) ?_
  have f7_t := okp_mk (k := 12) (n := 3) f6_t
  have n7 := nx_mk (k := 12) (n := 3) n6
  refine e_putRF dX6_init_35 lf_Pourings_21 rfl ln_Pourings_21 rfl (by decide) (okp_k f7_t) (am_avN (by omega)) ?_
  have f8_t := okp_wRs (f := 3) (v := a + 3) f7_t
  have n8 := nx_wR (i := t) (f := 3) (v := a + 3) n7
  refine e_aload_n dX6_init_38 rfl ?_
  refine e_iconst dX6_init_39 (v := 3) (by decide) ?_
  refine k_newa (a := a + 4) (N := 3) n8 dX6_init_40 (Or.inr (Or.inl ⟨rfl, rfl⟩)) lw_aint (by decide) (by decide) (by decide) ?_
  have f9_t := okp_mk (k := 12) (n := 3) f8_t
  have n9 := nx_mk (k := 12) (n := 3) n8
  refine e_putRF dX6_init_42 lf_Pourings_24 rfl ln_Pourings_24 rfl (by decide) (okp_k f9_t) (am_avN (by omega)) ?_
  have f10_t := okp_wRs (f := 4) (v := a + 4) f9_t
  have n10 := nx_wR (i := t) (f := 4) (v := a + 4) n9
  exact am_end rfl ⟨dX6_init_45, rfl⟩
theorem okp_X6_init {M : am_M} {t a : Nat} {i : Nat} {p : Nat × Nat} {R : Nat → Nat} (hi : i ≠ t) (hN : am_nx M = a) (h : am_okp M i p R) : am_okp (c_X6_init M t a) i p R := by
  have h0 : i < a := by have := h.1; omega
  have e1 := okp_mk (k := 12) (n := 9261) h
  have m1 := nx_mk (k := 12) (n := 9261) hN
  have e2 := okp_wR (i := t) (f := 0) (v := a) (by omega) e1
  have m2 := nx_wR (i := t) (f := 0) (v := a) m1
  have e3 := okp_mk (k := 12) (n := 9261) e2
  have m3 := nx_mk (k := 12) (n := 9261) m2
  have e4 := okp_wR (i := t) (f := 1) (v := a + 1) (by omega) e3
  have m4 := nx_wR (i := t) (f := 1) (v := a + 1) m3
  have e5 := okp_mk (k := 12) (n := 9261) e4
  have m5 := nx_mk (k := 12) (n := 9261) m4
  have e6 := okp_wR (i := t) (f := 2) (v := a + 2) (by omega) e5
  have m6 := nx_wR (i := t) (f := 2) (v := a + 2) m5
  have e7 := okp_mk (k := 12) (n := 3) e6
  have m7 := nx_mk (k := 12) (n := 3) m6
  have e8 := okp_wR (i := t) (f := 3) (v := a + 3) (by omega) e7
  have m8 := nx_wR (i := t) (f := 3) (v := a + 3) m7
  have e9 := okp_mk (k := 12) (n := 3) e8
  have m9 := nx_mk (k := 12) (n := 3) m8
  have e10 := okp_wR (i := t) (f := 4) (v := a + 4) (by omega) e9
  have m10 := nx_wR (i := t) (f := 4) (v := a + 4) m9
  exact e10
theorem nx_X6_init {M : am_M} {t a : Nat} (hN : am_nx M = a) : am_nx (c_X6_init M t a) = a + 5 := by
  have m1 := nx_mk (k := 12) (n := 9261) hN
  have m2 := nx_wR (i := t) (f := 0) (v := a) m1
  have m3 := nx_mk (k := 12) (n := 9261) m2
  have m4 := nx_wR (i := t) (f := 1) (v := a + 1) m3
  have m5 := nx_mk (k := 12) (n := 9261) m4
  have m6 := nx_wR (i := t) (f := 2) (v := a + 2) m5
  have m7 := nx_mk (k := 12) (n := 3) m6
  have m8 := nx_wR (i := t) (f := 3) (v := a + 3) m7
  have m9 := nx_mk (k := 12) (n := 3) m8
  have m10 := nx_wR (i := t) (f := 4) (v := a + 4) m9
  exact m10

def c_X4_init (M : am_M) (t a : Nat) (N : Nat) : am_M :=
  let M1 : am_M := am_mk M 12 N
  let M2 : am_M := am_wR M1 t 0 a
  M2
set_option maxRecDepth 100000 in
set_option maxHeartbeats 4000000 in
theorem s_X4_init {l : Launch} {g : am_G} {M : am_M} {t a N : Nat} {R : Nat → Nat} (sc : Int32) (hsc : f_J9_max_7cf53 sc 0 = some sc) (h1 : ¬ sc * 30 < 0) (h2 : (sc * 30).toNatClampNeg = N) (h3 : N ≤ 100000) (ft : am_okp M t (3, 1) R) (hN : am_nx M = a) : am_E l g d_X4_init 0 (am_ent d_X4_init [.ref t, .int sc]) [] M (some (none, c_X4_init M t a N)) := by
  have h0 : t < a := by have := ft.1; omega
  show am_E l g d_X4_init 0 [some (.ref t), some (.int sc)] [] M _
  refine e_aload_n dX4_init_0 rfl ?_
  refine e_objInit dX4_init_1 lm_Memory_3 lw_oii lw_oic (by decide) (Nat.le_of_ble_eq_true rfl) ?_
  refine e_aload_n dX4_init_4 rfl ?_
  refine e_iload_n dX4_init_5 rfl ?_
  refine e_iconst dX4_init_6 (v := 0) (by decide) ?_
  refine k_callS0 (As := [_, _]) (v := some (.int sc)) (M1 := M) rfl dX4_init_7 lm_Memory_9 (am_fitB rfl) yo_J9_max_7cf53 ys_J9_max_7cf53 rfl (Nat.le_of_ble_eq_true rfl) (Nat.le_of_ble_eq_true rfl) (by have h := s0_J9_max_7cf53 (l := l) (g := g) (B := M) sc 0 (am_mu M); rw [hsc] at h; exact h) ?_
  refine e_bipush dX4_init_10 (v := 30) (by decide) ?_
  refine e_imul dX4_init_12 ?_
  refine k_newa (a := a) (N := N) hN dX4_init_13 (Or.inr (Or.inl ⟨rfl, rfl⟩)) lw_aint h1 h2 h3 ?_
  have f1_t := okp_mk (k := 12) (n := N) ft
  have n1 := nx_mk (k := 12) (n := N) hN
  refine e_putRF dX4_init_15 lf_Memory_17 rfl ln_Memory_17 rfl (by decide) (okp_k f1_t) (am_avN (by omega)) ?_
  have f2_t := okp_wRs (f := 0) (v := a) f1_t
  have n2 := nx_wR (i := t) (f := 0) (v := a) n1
  exact am_end rfl ⟨dX4_init_18, rfl⟩
theorem okp_X4_init {M : am_M} {t a N : Nat} {i : Nat} {p : Nat × Nat} {R : Nat → Nat} (hi : i ≠ t) (hN : am_nx M = a) (h : am_okp M i p R) : am_okp (c_X4_init M t a N) i p R := by
  have h0 : i < a := by have := h.1; omega
  have e1 := okp_mk (k := 12) (n := N) h
  have m1 := nx_mk (k := 12) (n := N) hN
  have e2 := okp_wR (i := t) (f := 0) (v := a) (by omega) e1
  have m2 := nx_wR (i := t) (f := 0) (v := a) m1
  exact e2
theorem nx_X4_init {M : am_M} {t a N : Nat} (hN : am_nx M = a) : am_nx (c_X4_init M t a N) = a + 1 := by
  have m1 := nx_mk (k := 12) (n := N) hN
  have m2 := nx_wR (i := t) (f := 0) (v := a) m1
  exact m2

def c_X1_init (M : am_M) (t a : Nat) : am_M :=
  let M1 : am_M := am_mk M 3 1
  let M2 : am_M := c_X4_init M1 a (a + 1) 1800
  let M3 : am_M := am_wR M2 t 0 a
  let M4 : am_M := am_mk M3 12 60
  let M5 : am_M := am_wR M4 t 1 (a + 2)
  M5
set_option maxRecDepth 100000 in
set_option maxHeartbeats 4000000 in
theorem s_X1_init {l : Launch} {g : am_G} {M : am_M} {t a : Nat} {R : Nat → Nat} (ft : am_okp M t (1, 4) R) (hN : am_nx M = a) : am_E l g d_X1_init 0 (am_ent d_X1_init [.ref t]) [] M (some (none, c_X1_init M t a)) := by
  have h0 : t < a := by have := ft.1; omega
  show am_E l g d_X1_init 0 [some (.ref t)] [] M _
  refine e_aload_n dX1_init_0 rfl ?_
  refine e_objInit dX1_init_1 lm_Deeds_3 lw_oii lw_oic (by decide) (Nat.le_of_ble_eq_true rfl) ?_
  refine e_aload_n dX1_init_4 rfl ?_
  refine k_new (k := 3) (a := a) hN dX1_init_5 rfl (by decide) lk_Deeds_9 li_Memory lz_Memory lt_Memory ?_
  have ga := okp_nw (k := 3) (n := 1) hN
  have f1_t := okp_mk (k := 3) (n := 1) ft
  have n1 := nx_mk (k := 3) (n := 1) hN
  refine e_dup dX1_init_8 rfl ?_
  refine e_bipush dX1_init_9 (v := 60) (by decide) ?_
  refine k_callI0 (As := [_]) rfl dX1_init_11 lm_Deeds_11 (am_fitB rfl) yo_X4_init rfl rfl ys_X4_init rfl (Nat.le_of_ble_eq_true rfl) (Nat.le_of_ble_eq_true rfl) (s_X4_init (N := 1800) _ rfl (by decide) (by decide) (by decide) ga n1) ?_
  have f2_t := okp_X4_init (t := a) (a := a + 1) (N := 1800) (by omega) n1 f1_t
  have n2 := nx_X4_init (t := a) (N := 1800) n1
  refine e_putRF dX1_init_14 lf_Deeds_14 rfl ln_Deeds_14 rfl (by decide) (okp_k f2_t) (am_avN (by omega)) ?_
  have f3_t := okp_wRs (f := 0) (v := a) f2_t
  have n3 := nx_wR (i := t) (f := 0) (v := a) n2
  refine e_aload_n dX1_init_17 rfl ?_
  refine e_bipush dX1_init_18 (v := 60) (by decide) ?_
  refine k_newa (a := a + 2) (N := 60) n3 dX1_init_20 (Or.inr (Or.inl ⟨rfl, rfl⟩)) lw_aint (by decide) (by decide) (by decide) ?_
  have f4_t := okp_mk (k := 12) (n := 60) f3_t
  have n4 := nx_mk (k := 12) (n := 60) n3
  refine e_putRF dX1_init_22 lf_Deeds_20 rfl ln_Deeds_20 rfl (by decide) (okp_k f4_t) (am_avN (by omega)) ?_
  have f5_t := okp_wRs (f := 1) (v := a + 2) f4_t
  have n5 := nx_wR (i := t) (f := 1) (v := a + 2) n4
  exact am_end rfl ⟨dX1_init_25, rfl⟩
theorem okp_X1_init {M : am_M} {t a : Nat} {i : Nat} {p : Nat × Nat} {R : Nat → Nat} (hi : i ≠ t) (hN : am_nx M = a) (h : am_okp M i p R) : am_okp (c_X1_init M t a) i p R := by
  have h0 : i < a := by have := h.1; omega
  have e1 := okp_mk (k := 3) (n := 1) h
  have m1 := nx_mk (k := 3) (n := 1) hN
  have e2 := okp_X4_init (t := a) (a := a + 1) (N := 1800) (by omega) m1 e1
  have m2 := nx_X4_init (t := a) (N := 1800) m1
  have e3 := okp_wR (i := t) (f := 0) (v := a) (by omega) e2
  have m3 := nx_wR (i := t) (f := 0) (v := a) m2
  have e4 := okp_mk (k := 12) (n := 60) e3
  have m4 := nx_mk (k := 12) (n := 60) m3
  have e5 := okp_wR (i := t) (f := 1) (v := a + 2) (by omega) e4
  have m5 := nx_wR (i := t) (f := 1) (v := a + 2) m4
  exact e5
theorem nx_X1_init {M : am_M} {t a : Nat} (hN : am_nx M = a) : am_nx (c_X1_init M t a) = a + 3 := by
  have m1 := nx_mk (k := 3) (n := 1) hN
  have m2 := nx_X4_init (t := a) (N := 1800) m1
  have m3 := nx_wR (i := t) (f := 0) (v := a) m2
  have m4 := nx_mk (k := 12) (n := 60) m3
  have m5 := nx_wR (i := t) (f := 1) (v := a + 2) m4
  exact m5
