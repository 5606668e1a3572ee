theorem lk_N_9 : Cond.classLink "NoonJars" 9 "NoonJars$Row" ∈ lw_tbl := List.mem_of_getElem? (i := 96) (by decide +kernel)
theorem ln_N_11 : am_fn "NoonJars" 11 9 0 := fun r hr => by cases hr; exact ⟨rfl, rfl, List.mem_of_getElem? (i := 300) (by decide +kernel)⟩
theorem ln_N_15 : am_fn "NoonJars" 15 9 1 := fun r hr => by cases hr; exact ⟨rfl, rfl, List.mem_of_getElem? (i := 301) (by decide +kernel)⟩
theorem li_Reader : Cond.instantiable "NoonJars$Reader" 2 ∈ lw_tbl := List.mem_of_getElem? (i := 99) (by decide +kernel)
theorem lz_Reader : Cond.initialized "NoonJars$Reader" ∈ lw_tbl := List.mem_of_getElem? (i := 73) (by decide +kernel)
theorem lt_Reader : ∀ f, f < 2 → am_tyok (am_ft 6 f) = true := by decide
theorem lk_N_18 : Cond.classLink "NoonJars" 18 "NoonJars$Reader" ∈ lw_tbl := List.mem_of_getElem? (i := 98) (by decide +kernel)
theorem ln_N_21 : am_fn "NoonJars" 21 9 2 := fun r hr => by cases hr; exact ⟨rfl, rfl, List.mem_of_getElem? (i := 302) (by decide +kernel)⟩
theorem li_Scene : Cond.instantiable "NoonJars$Scene" 7 ∈ lw_tbl := List.mem_of_getElem? (i := 112) (by decide +kernel)
theorem lz_Scene : Cond.initialized "NoonJars$Scene" ∈ lw_tbl := List.mem_of_getElem? (i := 74) (by decide +kernel)
theorem lt_Scene : ∀ f, f < 7 → am_tyok (am_ft 8 f) = true := by decide
theorem lk_N_25 : Cond.classLink "NoonJars" 25 "NoonJars$Scene" ∈ lw_tbl := List.mem_of_getElem? (i := 111) (by decide +kernel)
theorem ln_N_28 : am_fn "NoonJars" 28 9 3 := fun r hr => by cases hr; exact ⟨rfl, rfl, List.mem_of_getElem? (i := 303) (by decide +kernel)⟩
theorem li_Deeds : Cond.instantiable "NoonJars$Deeds" 4 ∈ lw_tbl := List.mem_of_getElem? (i := 157) (by decide +kernel)
theorem lz_Deeds : Cond.initialized "NoonJars$Deeds" ∈ lw_tbl := List.mem_of_getElem? (i := 75) (by decide +kernel)
theorem lt_Deeds : ∀ f, f < 4 → am_tyok (am_ft 1 f) = true := by decide
theorem lk_N_32 : Cond.classLink "NoonJars" 32 "NoonJars$Deeds" ∈ lw_tbl := List.mem_of_getElem? (i := 156) (by decide +kernel)
theorem ln_N_35 : am_fn "NoonJars" 35 9 4 := fun r hr => by cases hr; exact ⟨rfl, rfl, List.mem_of_getElem? (i := 304) (by decide +kernel)⟩
theorem lk_N_39 : Cond.classLink "NoonJars" 39 "NoonJars$Memory" ∈ lw_tbl := List.mem_of_getElem? (i := 189) (by decide +kernel)
theorem ln_N_44 : am_fn "NoonJars" 44 9 5 := fun r hr => by cases hr; exact ⟨rfl, rfl, List.mem_of_getElem? (i := 305) (by decide +kernel)⟩
theorem ln_N_48 : am_fn "NoonJars" 48 9 6 := fun r hr => by cases hr; exact ⟨rfl, rfl, List.mem_of_getElem? (i := 306) (by decide +kernel)⟩
theorem li_Burnings : Cond.instantiable "NoonJars$Burnings" 6 ∈ lw_tbl := List.mem_of_getElem? (i := 192) (by decide +kernel)
theorem lz_Burnings : Cond.initialized "NoonJars$Burnings" ∈ lw_tbl := List.mem_of_getElem? (i := 78) (by decide +kernel)
theorem lt_Burnings : ∀ f, f < 6 → am_tyok (am_ft 0 f) = true := by decide
theorem lk_N_52 : Cond.classLink "NoonJars" 52 "NoonJars$Burnings" ∈ lw_tbl := List.mem_of_getElem? (i := 191) (by decide +kernel)
theorem ln_N_55 : am_fn "NoonJars" 55 9 7 := fun r hr => by cases hr; exact ⟨rfl, rfl, List.mem_of_getElem? (i := 307) (by decide +kernel)⟩
theorem li_Loads : Cond.instantiable "NoonJars$Loads" 3 ∈ lw_tbl := List.mem_of_getElem? (i := 221) (by decide +kernel)
theorem lz_Loads : Cond.initialized "NoonJars$Loads" ∈ lw_tbl := List.mem_of_getElem? (i := 79) (by decide +kernel)
theorem lt_Loads : ∀ f, f < 3 → am_tyok (am_ft 2 f) = true := by decide
theorem lk_N_59 : Cond.classLink "NoonJars" 59 "NoonJars$Loads" ∈ lw_tbl := List.mem_of_getElem? (i := 220) (by decide +kernel)
theorem ln_N_62 : am_fn "NoonJars" 62 9 8 := fun r hr => by cases hr; exact ⟨rfl, rfl, List.mem_of_getElem? (i := 308) (by decide +kernel)⟩
theorem ln_N_66 : am_fn "NoonJars" 66 9 9 := fun r hr => by cases hr; exact ⟨rfl, rfl, List.mem_of_getElem? (i := 309) (by decide +kernel)⟩
theorem li_Plan : Cond.instantiable "NoonJars$Plan" 7 ∈ lw_tbl := List.mem_of_getElem? (i := 237) (by decide +kernel)
theorem lz_Plan : Cond.initialized "NoonJars$Plan" ∈ lw_tbl := List.mem_of_getElem? (i := 80) (by decide +kernel)
theorem lt_Plan : ∀ f, f < 7 → am_tyok (am_ft 4 f) = true := by decide
theorem lk_N_69 : Cond.classLink "NoonJars" 69 "NoonJars$Plan" ∈ lw_tbl := List.mem_of_getElem? (i := 236) (by decide +kernel)
theorem li_Row : Cond.instantiable "NoonJars$Row" 2 ∈ lw_tbl := List.mem_of_getElem? (i := 281) (by decide +kernel)
theorem lz_Row : Cond.initialized "NoonJars$Row" ∈ lw_tbl := List.mem_of_getElem? (i := 81) (by decide +kernel)
theorem lt_Row : ∀ f, f < 2 → am_tyok (am_ft 7 f) = true := by decide
theorem ln_M_7 : am_fn "NoonJarsModel" 7 10 1 := fun r hr => by cases hr; exact ⟨rfl, rfl, List.mem_of_getElem? (i := 975) (by decide +kernel)⟩
theorem ln_M_13 : am_fn "NoonJarsModel" 13 10 3 := fun r hr => by cases hr; exact ⟨rfl, rfl, List.mem_of_getElem? (i := 977) (by decide +kernel)⟩
theorem ln_M_16 : am_fn "NoonJarsModel" 16 10 4 := fun r hr => by cases hr; exact ⟨rfl, rfl, List.mem_of_getElem? (i := 978) (by decide +kernel)⟩
theorem ln_M_19 : am_fn "NoonJarsModel" 19 10 5 := fun r hr => by cases hr; exact ⟨rfl, rfl, List.mem_of_getElem? (i := 979) (by decide +kernel)⟩
theorem ln_M_22 : am_fn "NoonJarsModel" 22 10 6 := fun r hr => by cases hr; exact ⟨rfl, rfl, List.mem_of_getElem? (i := 980) (by decide +kernel)⟩
theorem ln_M_25 : am_fn "NoonJarsModel" 25 10 7 := fun r hr => by cases hr; exact ⟨rfl, rfl, List.mem_of_getElem? (i := 981) (by decide +kernel)⟩
theorem ln_M_29 : am_fn "NoonJarsModel" 29 10 10 := fun r hr => by cases hr; exact ⟨rfl, rfl, List.mem_of_getElem? (i := 984) (by decide +kernel)⟩
theorem ln_M_32 : am_fn "NoonJarsModel" 32 10 11 := fun r hr => by cases hr; exact ⟨rfl, rfl, List.mem_of_getElem? (i := 985) (by decide +kernel)⟩
theorem ln_M_35 : am_fn "NoonJarsModel" 35 10 13 := fun r hr => by cases hr; exact ⟨rfl, rfl, List.mem_of_getElem? (i := 987) (by decide +kernel)⟩
theorem ln_M_38 : am_fn "NoonJarsModel" 38 10 14 := fun r hr => by cases hr; exact ⟨rfl, rfl, List.mem_of_getElem? (i := 988) (by decide +kernel)⟩
theorem ln_M_41 : am_fn "NoonJarsModel" 41 10 21 := fun r hr => by cases hr; exact ⟨rfl, rfl, List.mem_of_getElem? (i := 995) (by decide +kernel)⟩
theorem ln_M_44 : am_fn "NoonJarsModel" 44 10 22 := fun r hr => by cases hr; exact ⟨rfl, rfl, List.mem_of_getElem? (i := 996) (by decide +kernel)⟩
theorem ln_M_47 : am_fn "NoonJarsModel" 47 10 23 := fun r hr => by cases hr; exact ⟨rfl, rfl, List.mem_of_getElem? (i := 997) (by decide +kernel)⟩
theorem ln_M_50 : am_fn "NoonJarsModel" 50 10 24 := fun r hr => by cases hr; exact ⟨rfl, rfl, List.mem_of_getElem? (i := 998) (by decide +kernel)⟩
theorem ln_M_53 : am_fn "NoonJarsModel" 53 10 25 := fun r hr => by cases hr; exact ⟨rfl, rfl, List.mem_of_getElem? (i := 999) (by decide +kernel)⟩
theorem ln_M_56 : am_fn "NoonJarsModel" 56 10 27 := fun r hr => by cases hr; exact ⟨rfl, rfl, List.mem_of_getElem? (i := 1001) (by decide +kernel)⟩
theorem ln_M_59 : am_fn "NoonJarsModel" 59 10 28 := fun r hr => by cases hr; exact ⟨rfl, rfl, List.mem_of_getElem? (i := 1002) (by decide +kernel)⟩
theorem ln_M_63 : am_fn "NoonJarsModel" 63 10 29 := fun r hr => by cases hr; exact ⟨rfl, rfl, List.mem_of_getElem? (i := 1003) (by decide +kernel)⟩
theorem ln_M_66 : am_fn "NoonJarsModel" 66 10 30 := fun r hr => by cases hr; exact ⟨rfl, rfl, List.mem_of_getElem? (i := 1004) (by decide +kernel)⟩
theorem ln_M_69 : am_fn "NoonJarsModel" 69 10 33 := fun r hr => by cases hr; exact ⟨rfl, rfl, List.mem_of_getElem? (i := 1007) (by decide +kernel)⟩
theorem ln_M_72 : am_fn "NoonJarsModel" 72 10 34 := fun r hr => by cases hr; exact ⟨rfl, rfl, List.mem_of_getElem? (i := 1008) (by decide +kernel)⟩
theorem ln_M_75 : am_fn "NoonJarsModel" 75 10 35 := fun r hr => by cases hr; exact ⟨rfl, rfl, List.mem_of_getElem? (i := 1009) (by decide +kernel)⟩
theorem ln_M_78 : am_fn "NoonJarsModel" 78 10 36 := fun r hr => by cases hr; exact ⟨rfl, rfl, List.mem_of_getElem? (i := 1010) (by decide +kernel)⟩
theorem ln_M_81 : am_fn "NoonJarsModel" 81 10 37 := fun r hr => by cases hr; exact ⟨rfl, rfl, List.mem_of_getElem? (i := 1011) (by decide +kernel)⟩
theorem ln_M_84 : am_fn "NoonJarsModel" 84 10 38 := fun r hr => by cases hr; exact ⟨rfl, rfl, List.mem_of_getElem? (i := 1012) (by decide +kernel)⟩
theorem ln_M_87 : am_fn "NoonJarsModel" 87 10 41 := fun r hr => by cases hr; exact ⟨rfl, rfl, List.mem_of_getElem? (i := 1015) (by decide +kernel)⟩
theorem ln_M_90 : am_fn "NoonJarsModel" 90 10 42 := fun r hr => by cases hr; exact ⟨rfl, rfl, List.mem_of_getElem? (i := 1016) (by decide +kernel)⟩
theorem ln_M_93 : am_fn "NoonJarsModel" 93 10 43 := fun r hr => by cases hr; exact ⟨rfl, rfl, List.mem_of_getElem? (i := 1017) (by decide +kernel)⟩
theorem ln_M_96 : am_fn "NoonJarsModel" 96 10 44 := fun r hr => by cases hr; exact ⟨rfl, rfl, List.mem_of_getElem? (i := 1018) (by decide +kernel)⟩
theorem ln_M_99 : am_fn "NoonJarsModel" 99 10 45 := fun r hr => by cases hr; exact ⟨rfl, rfl, List.mem_of_getElem? (i := 1019) (by decide +kernel)⟩
theorem am_fill3 {l : Launch} {g : am_G} {M : am_M} (hs : am_sh M 20 = (12, 3)) : am_E l g d_J7_fill_53178 0 (am_ent d_J7_fill_53178 [.ref 20, .int (-1)]) [] M (some (none, am_wI (am_wI (am_wI M 20 0 (-1)) 20 1 (-1)) 20 2 (-1))) := by
  show am_E l g d_J7_fill_53178 0 [some (.ref 20), some (.int (-1)), none, none] [] M _
  refine e_iconst dJ7_fill_53178_0 (v := 0) (by decide) ?_
  refine e_istore_n dJ7_fill_53178_1 (by decide) (LS1 := [_, _, _, none]) rfl ?_
  refine e_aload_n dJ7_fill_53178_2 rfl ?_
  refine e_alen (v := 3) dJ7_fill_53178_3 hs (by decide) (by decide) ?_
  refine e_istore_n dJ7_fill_53178_4 (by decide) (LS1 := [_, _, _, _]) rfl ?_
  refine e_iload_n dJ7_fill_53178_5 rfl ?_
  refine e_iload_n dJ7_fill_53178_6 rfl ?_
  refine k_lt dJ7_fill_53178_7 (tgt := 20) (by decide) (by decide) ?_
  refine e_aload_n dJ7_fill_53178_10 rfl ?_
  refine e_iload_n dJ7_fill_53178_11 rfl ?_
  refine e_iload_n dJ7_fill_53178_12 rfl ?_
  refine e_iastC (jn := 0) dJ7_fill_53178_13 hs (by decide) (by decide) ?_
  refine e_iinc dJ7_fill_53178_14 rfl (v := 1) (by decide) (by decide) (LS1 := [_, _, _, _]) rfl ?_
  refine e_goto dJ7_fill_53178_17 (tgt := 5) (by decide) ?_
  refine e_iload_n dJ7_fill_53178_5 rfl ?_
  refine e_iload_n dJ7_fill_53178_6 rfl ?_
  refine k_lt dJ7_fill_53178_7 (tgt := 20) (by decide) (by decide) ?_
  refine e_aload_n dJ7_fill_53178_10 rfl ?_
  refine e_iload_n dJ7_fill_53178_11 rfl ?_
  refine e_iload_n dJ7_fill_53178_12 rfl ?_
  refine e_iastC (jn := 1) dJ7_fill_53178_13 hs (by decide) (by decide) ?_
  refine e_iinc dJ7_fill_53178_14 rfl (v := 2) (by decide) (by decide) (LS1 := [_, _, _, _]) rfl ?_
  refine e_goto dJ7_fill_53178_17 (tgt := 5) (by decide) ?_
  refine e_iload_n dJ7_fill_53178_5 rfl ?_
  refine e_iload_n dJ7_fill_53178_6 rfl ?_
  refine k_lt dJ7_fill_53178_7 (tgt := 20) (by decide) (by decide) ?_
  refine e_aload_n dJ7_fill_53178_10 rfl ?_
  refine e_iload_n dJ7_fill_53178_11 rfl ?_
  refine e_iload_n dJ7_fill_53178_12 rfl ?_
  refine e_iastC (jn := 2) dJ7_fill_53178_13 hs (by decide) (by decide) ?_
  refine e_iinc dJ7_fill_53178_14 rfl (v := 3) (by decide) (by decide) (LS1 := [_, _, _, _]) rfl ?_
  refine e_goto dJ7_fill_53178_17 (tgt := 5) (by decide) ?_
  refine e_iload_n dJ7_fill_53178_5 rfl ?_
  refine e_iload_n dJ7_fill_53178_6 rfl ?_
  refine k_ge dJ7_fill_53178_7 (tgt := 20) (by decide) (by decide) ?_
  exact am_end rfl ⟨dJ7_fill_53178_20, rfl⟩
def c_X10_init (M : am_M)  : am_M :=
  let M1 : am_M := am_mk M 14 6
  let M2 : am_M := am_wR M1 4 0 5
  let M3 : am_M := am_mk M2 14 4
  let M4 : am_M := am_wR M3 4 1 6
  let M5 : am_M := am_mk M4 6 2
  let M6 : am_M := c_X7_init M5 7 8
  let M7 : am_M := am_wR M6 4 2 7
  let M8 : am_M := am_mk M7 8 7
  let M9 : am_M := c_X9_init M8 8 9
  let M10 : am_M := am_wR M9 4 3 8
  let M11 : am_M := am_mk M10 1 4
  let M12 : am_M := c_X1_init M11 14 15
  let M13 : am_M := am_wR M12 4 4 14
  let M14 : am_M := am_mk M13 3 1
  let M15 : am_M := c_X4_init M14 18 19 90
  let M16 : am_M := am_wR M15 4 5 18
  let M17 : am_M := am_mk M16 12 3
  let M18 : am_M := am_wR M17 4 6 20
  let M19 : am_M := am_mk M18 0 6
  let M20 : am_M := c_X0_init M19 21 22
  let M21 : am_M := am_wR M20 4 7 21
  let M22 : am_M := am_mk M21 2 3
  let M23 : am_M := c_X3_init M22 26 27
  let M24 : am_M := am_wR M23 4 8 26
  let M25 : am_M := am_mk M24 12 6
  let M26 : am_M := am_wR M25 4 9 29
  let M27 : am_M := am_mk M26 4 7
  let M28 : am_M := c_X5_init M27 30 31
  let M29 : am_M := am_wR M28 4 10 30
  let M30 : am_M := am_mk M29 4 7
  let M31 : am_M := c_X5_init M30 35 36
  let M32 : am_M := am_wR M31 4 11 35
  let M33 : am_M := am_mk M32 7 2
  let M34 : am_M := c_X8_init M33 40 41
  let M35 : am_M := am_wR M34 5 0 40
  let M36 : am_M := am_mk M35 7 2
  let M37 : am_M := c_X8_init M36 42 43
  let M38 : am_M := am_wR M37 5 1 42
  let M39 : am_M := am_mk M38 7 2
  let M40 : am_M := c_X8_init M39 44 45
  let M41 : am_M := am_wR M40 5 2 44
  let M42 : am_M := am_mk M41 7 2
  let M43 : am_M := c_X8_init M42 46 47
  let M44 : am_M := am_wR M43 5 3 46
  let M45 : am_M := am_mk M44 7 2
  let M46 : am_M := c_X8_init M45 48 49
  let M47 : am_M := am_wR M46 5 4 48
  let M48 : am_M := am_mk M47 7 2
  let M49 : am_M := c_X8_init M48 50 51
  let M50 : am_M := am_wR M49 5 5 50
  let M51 : am_M := am_mk M50 7 2
  let M52 : am_M := c_X8_init M51 52 53
  let M53 : am_M := am_wR M52 6 0 52
  let M54 : am_M := am_mk M53 7 2
  let M55 : am_M := c_X8_init M54 54 55
  let M56 : am_M := am_wR M55 6 1 54
  let M57 : am_M := am_mk M56 7 2
  let M58 : am_M := c_X8_init M57 56 57
  let M59 : am_M := am_wR M58 6 2 56
  let M60 : am_M := am_mk M59 7 2
  let M61 : am_M := c_X8_init M60 58 59
  let M62 : am_M := am_wR M61 6 3 58
  let M63 : am_M := am_wI (am_wI (am_wI M62 20 0 (-1)) 20 1 (-1)) 20 2 (-1)
  M63
set_option maxRecDepth 100000 in
set_option maxHeartbeats 4000000 in
theorem s_X10_init {l : Launch} {g : am_G} {M : am_M} {R : Nat → Nat} (ft : am_okp M 4 (9, 15) R) (hN : am_nx M = 5) : am_E l g d_X10_init 0 (am_ent d_X10_init [.ref 4]) [] M (some (none, c_X10_init M)) := by
  show am_E l g d_X10_init 0 [some (.ref 4), none] [] M _
  refine e_aload_n dX10_init_0 rfl ?_
  refine e_objInit dX10_init_1 lm_N_1 lw_oii lw_oic (by decide) (Nat.le_of_ble_eq_true rfl) ?_
  refine e_aload_n dX10_init_4 rfl ?_
  refine e_bipush dX10_init_5 (v := 6) (by decide) ?_
  refine k_anew (a := 5) (N := 6) hN dX10_init_7 lk_N_9 lw_aro (by decide) (by decide) (by decide) ?_
  have g5 := okp_nw (k := 14) (n := 6) hN
  have f1_4 := okp_mk (k := 14) (n := 6) ft
  have n1 := nx_mk (k := 14) (n := 6) hN
  refine e_putRF dX10_init_10 lf_N_11 rfl ln_N_11 rfl (by decide) (okp_k f1_4) rfl ?_
  have f2_4 := okp_wRs (f := 0) (v := 5) f1_4
  have f2_5 := okp_wR (i := 4) (f := 0) (v := 5) (by decide) g5
  have n2 := nx_wR (i := 4) (f := 0) (v := 5) n1
  refine e_aload_n dX10_init_13 rfl ?_
  refine e_iconst dX10_init_14 (v := 4) (by decide) ?_
  refine k_anew (a := 6) (N := 4) n2 dX10_init_15 lk_N_9 lw_aro (by decide) (by decide) (by decide) ?_
  have g6 := okp_nw (k := 14) (n := 4) n2
  have f3_4 := okp_mk (k := 14) (n := 4) f2_4
  have f3_5 := okp_mk (k := 14) (n := 4) f2_5
  have n3 := nx_mk (k := 14) (n := 4) n2
  refine e_putRF dX10_init_18 lf_N_15 rfl ln_N_15 rfl (by decide) (okp_k f3_4) rfl ?_
  have f4_4 := okp_wRs (f := 1) (v := 6) f3_4
  have f4_5 := okp_wR (i := 4) (f := 1) (v := 6) (by decide) f3_5
  have f4_6 := okp_wR (i := 4) (f := 1) (v := 6) (by decide) g6
  have n4 := nx_wR (i := 4) (f := 1) (v := 6) n3
  refine e_aload_n dX10_init_21 rfl ?_
  refine k_new (k := 6) (a := 7) n4 dX10_init_22 rfl (by decide) lk_N_18 li_Reader lz_Reader lt_Reader ?_
  have g7 := okp_nw (k := 6) (n := 2) n4
  have f5_4 := okp_mk (k := 6) (n := 2) f4_4
  have f5_5 := okp_mk (k := 6) (n := 2) f4_5
  have f5_6 := okp_mk (k := 6) (n := 2) f4_6
  have n5 := nx_mk (k := 6) (n := 2) n4
  refine e_dup dX10_init_25 rfl ?_
  refine k_callI0 (As := []) rfl dX10_init_26 lm_N_20 (am_fitB rfl) yo_X7_init rfl rfl ys_X7_init rfl (Nat.le_of_ble_eq_true rfl) (Nat.le_of_ble_eq_true rfl) (s_X7_init g7 n5) ?_
  have f6_4 := okp_X7_init (t := 7) (a := 8) (by decide) n5 f5_4
  have f6_5 := okp_X7_init (t := 7) (a := 8) (by decide) n5 f5_5
  have f6_6 := okp_X7_init (t := 7) (a := 8) (by decide) n5 f5_6
  have n6 := nx_X7_init (t := 7) n5
  refine e_putRF dX10_init_29 lf_N_21 rfl ln_N_21 rfl (by decide) (okp_k f6_4) rfl ?_
  have f7_4 := okp_wRs (f := 2) (v := 7) f6_4
  have f7_5 := okp_wR (i := 4) (f := 2) (v := 7) (by decide) f6_5
  have f7_6 := okp_wR (i := 4) (f := 2) (v := 7) (by decide) f6_6
  have n7 := nx_wR (i := 4) (f := 2) (v := 7) n6
  refine e_aload_n dX10_init_32 rfl ?_
  refine k_new (k := 8) (a := 8) n7 dX10_init_33 rfl (by decide) lk_N_25 li_Scene lz_Scene lt_Scene ?_
  have g8 := okp_nw (k := 8) (n := 7) n7
  have f8_4 := okp_mk (k := 8) (n := 7) f7_4
  have f8_5 := okp_mk (k := 8) (n := 7) f7_5
  have f8_6 := okp_mk (k := 8) (n := 7) f7_6
  have n8 := nx_mk (k := 8) (n := 7) n7
  refine e_dup dX10_init_36 rfl ?_
  refine k_callI0 (As := []) rfl dX10_init_37 lm_N_27 (am_fitB rfl) yo_X9_init rfl rfl ys_X9_init rfl (Nat.le_of_ble_eq_true rfl) (Nat.le_of_ble_eq_true rfl) (s_X9_init g8 n8) ?_
  have f9_4 := okp_X9_init (t := 8) (a := 9) (by decide) n8 f8_4
  have f9_5 := okp_X9_init (t := 8) (a := 9) (by decide) n8 f8_5
  have f9_6 := okp_X9_init (t := 8) (a := 9) (by decide) n8 f8_6
  have n9 := nx_X9_init (t := 8) n8
  refine e_putRF dX10_init_40 lf_N_28 rfl ln_N_28 rfl (by decide) (okp_k f9_4) rfl ?_
  have f10_4 := okp_wRs (f := 3) (v := 8) f9_4
  have f10_5 := okp_wR (i := 4) (f := 3) (v := 8) (by decide) f9_5
  have f10_6 := okp_wR (i := 4) (f := 3) (v := 8) (by decide) f9_6
  have n10 := nx_wR (i := 4) (f := 3) (v := 8) n9
  refine e_aload_n dX10_init_43 rfl ?_
  refine k_new (k := 1) (a := 14) n10 dX10_init_44 rfl (by decide) lk_N_32 li_Deeds lz_Deeds lt_Deeds ?_
  have g14 := okp_nw (k := 1) (n := 4) n10
  have f11_4 := okp_mk (k := 1) (n := 4) f10_4
  have f11_5 := okp_mk (k := 1) (n := 4) f10_5
  have f11_6 := okp_mk (k := 1) (n := 4) f10_6
  have n11 := nx_mk (k := 1) (n := 4) n10
  refine e_dup dX10_init_47 rfl ?_
  refine k_callI0 (As := []) rfl dX10_init_48 lm_N_34 (am_fitB rfl) yo_X1_init rfl rfl ys_X1_init rfl (Nat.le_of_ble_eq_true rfl) (Nat.le_of_ble_eq_true rfl) (s_X1_init g14 n11) ?_
  have f12_4 := okp_X1_init (t := 14) (a := 15) (by decide) n11 f11_4
  have f12_5 := okp_X1_init (t := 14) (a := 15) (by decide) n11 f11_5
  have f12_6 := okp_X1_init (t := 14) (a := 15) (by decide) n11 f11_6
  have n12 := nx_X1_init (t := 14) n11
  refine e_putRF dX10_init_51 lf_N_35 rfl ln_N_35 rfl (by decide) (okp_k f12_4) rfl ?_
  have f13_4 := okp_wRs (f := 4) (v := 14) f12_4
  have f13_5 := okp_wR (i := 4) (f := 4) (v := 14) (by decide) f12_5
  have f13_6 := okp_wR (i := 4) (f := 4) (v := 14) (by decide) f12_6
  have n13 := nx_wR (i := 4) (f := 4) (v := 14) n12
  refine e_aload_n dX10_init_54 rfl ?_
  refine k_new (k := 3) (a := 18) n13 dX10_init_55 rfl (by decide) lk_N_39 li_Memory lz_Memory lt_Memory ?_
  have g18 := okp_nw (k := 3) (n := 1) n13
  have f14_4 := okp_mk (k := 3) (n := 1) f13_4
  have f14_5 := okp_mk (k := 3) (n := 1) f13_5
  have f14_6 := okp_mk (k := 3) (n := 1) f13_6
  have n14 := nx_mk (k := 3) (n := 1) n13
  refine e_dup dX10_init_58 rfl ?_
  refine e_iconst dX10_init_59 (v := 3) (by decide) ?_
  refine k_callI0 (As := [_]) rfl dX10_init_60 lm_N_41 (am_fitB rfl) yo_X4_init rfl rfl ys_X4_init rfl (Nat.le_of_ble_eq_true rfl) (Nat.le_of_ble_eq_true rfl) (s_X4_init (N := 90) _ rfl (by decide) (by decide) (by decide) g18 n14) ?_
  have f15_4 := okp_X4_init (t := 18) (a := 19) (N := 90) (by decide) n14 f14_4
  have f15_5 := okp_X4_init (t := 18) (a := 19) (N := 90) (by decide) n14 f14_5
  have f15_6 := okp_X4_init (t := 18) (a := 19) (N := 90) (by decide) n14 f14_6
  have n15 := nx_X4_init (t := 18) (N := 90) n14
  refine e_putRF dX10_init_63 lf_N_44 rfl ln_N_44 rfl (by decide) (okp_k f15_4) rfl ?_
  have f16_4 := okp_wRs (f := 5) (v := 18) f15_4
  have f16_5 := okp_wR (i := 4) (f := 5) (v := 18) (by decide) f15_5
  have f16_6 := okp_wR (i := 4) (f := 5) (v := 18) (by decide) f15_6
  have n16 := nx_wR (i := 4) (f := 5) (v := 18) n15
  refine e_aload_n dX10_init_66 rfl ?_
  refine e_iconst dX10_init_67 (v := 3) (by decide) ?_
  refine k_newa (a := 20) (N := 3) n16 dX10_init_68 (Or.inr (Or.inl ⟨rfl, rfl⟩)) lw_aint (by decide) (by decide) (by decide) ?_
  have g20 := okp_nw (k := 12) (n := 3) n16
  have f17_4 := okp_mk (k := 12) (n := 3) f16_4
  have f17_5 := okp_mk (k := 12) (n := 3) f16_5
  have f17_6 := okp_mk (k := 12) (n := 3) f16_6
  have n17 := nx_mk (k := 12) (n := 3) n16
  refine e_putRF dX10_init_70 lf_N_48 rfl ln_N_48 rfl (by decide) (okp_k f17_4) rfl ?_
  have f18_4 := okp_wRs (f := 6) (v := 20) f17_4
  have f18_5 := okp_wR (i := 4) (f := 6) (v := 20) (by decide) f17_5
  have f18_6 := okp_wR (i := 4) (f := 6) (v := 20) (by decide) f17_6
  have f18_20 := okp_wR (i := 4) (f := 6) (v := 20) (by decide) g20
  have n18 := nx_wR (i := 4) (f := 6) (v := 20) n17
  refine e_aload_n dX10_init_73 rfl ?_
  refine k_new (k := 0) (a := 21) n18 dX10_init_74 rfl (by decide) lk_N_52 li_Burnings lz_Burnings lt_Burnings ?_
  have g21 := okp_nw (k := 0) (n := 6) n18
  have f19_4 := okp_mk (k := 0) (n := 6) f18_4
  have f19_5 := okp_mk (k := 0) (n := 6) f18_5
  have f19_6 := okp_mk (k := 0) (n := 6) f18_6
  have f19_20 := okp_mk (k := 0) (n := 6) f18_20
  have n19 := nx_mk (k := 0) (n := 6) n18
  refine e_dup dX10_init_77 rfl ?_
  refine k_callI0 (As := []) rfl dX10_init_78 lm_N_54 (am_fitB rfl) yo_X0_init rfl rfl ys_X0_init rfl (Nat.le_of_ble_eq_true rfl) (Nat.le_of_ble_eq_true rfl) (s_X0_init g21 n19) ?_
  have f20_4 := okp_X0_init (t := 21) (a := 22) (by decide) n19 f19_4
  have f20_5 := okp_X0_init (t := 21) (a := 22) (by decide) n19 f19_5
  have f20_6 := okp_X0_init (t := 21) (a := 22) (by decide) n19 f19_6
  have f20_20 := okp_X0_init (t := 21) (a := 22) (by decide) n19 f19_20
  have n20 := nx_X0_init (t := 21) n19
  refine e_putRF dX10_init_81 lf_N_55 rfl ln_N_55 rfl (by decide) (okp_k f20_4) rfl ?_
  have f21_4 := okp_wRs (f := 7) (v := 21) f20_4
  have f21_5 := okp_wR (i := 4) (f := 7) (v := 21) (by decide) f20_5
  have f21_6 := okp_wR (i := 4) (f := 7) (v := 21) (by decide) f20_6
  have f21_20 := okp_wR (i := 4) (f := 7) (v := 21) (by decide) f20_20
  have n21 := nx_wR (i := 4) (f := 7) (v := 21) n20
  refine e_aload_n dX10_init_84 rfl ?_
  refine k_new (k := 2) (a := 26) n21 dX10_init_85 rfl (by decide) lk_N_59 li_Loads lz_Loads lt_Loads ?_
  have g26 := okp_nw (k := 2) (n := 3) n21
  have f22_4 := okp_mk (k := 2) (n := 3) f21_4
  have f22_5 := okp_mk (k := 2) (n := 3) f21_5
  have f22_6 := okp_mk (k := 2) (n := 3) f21_6
  have f22_20 := okp_mk (k := 2) (n := 3) f21_20
  have n22 := nx_mk (k := 2) (n := 3) n21
  refine e_dup dX10_init_88 rfl ?_
  refine k_callI0 (As := []) rfl dX10_init_89 lm_N_61 (am_fitB rfl) yo_X3_init rfl rfl ys_X3_init rfl (Nat.le_of_ble_eq_true rfl) (Nat.le_of_ble_eq_true rfl) (s_X3_init g26 n22) ?_
  have f23_4 := okp_X3_init (t := 26) (a := 27) (by decide) n22 f22_4
  have f23_5 := okp_X3_init (t := 26) (a := 27) (by decide) n22 f22_5
  have f23_6 := okp_X3_init (t := 26) (a := 27) (by decide) n22 f22_6
  have f23_20 := okp_X3_init (t := 26) (a := 27) (by decide) n22 f22_20
  have n23 := nx_X3_init (t := 26) n22
  refine e_putRF dX10_init_92 lf_N_62 rfl ln_N_62 rfl (by decide) (okp_k f23_4) rfl ?_
  have f24_4 := okp_wRs (f := 8) (v := 26) f23_4
  have f24_5 := okp_wR (i := 4) (f := 8) (v := 26) (by decide) f23_5
  have f24_6 := okp_wR (i := 4) (f := 8) (v := 26) (by decide) f23_6
  have f24_20 := okp_wR (i := 4) (f := 8) (v := 26) (by decide) f23_20
  have n24 := nx_wR (i := 4) (f := 8) (v := 26) n23
  refine e_aload_n dX10_init_95 rfl ?_
  refine e_bipush dX10_init_96 (v := 6) (by decide) ?_
  refine k_newa (a := 29) (N := 6) n24 dX10_init_98 (Or.inr (Or.inl ⟨rfl, rfl⟩)) lw_aint (by decide) (by decide) (by decide) ?_
  have f25_4 := okp_mk (k := 12) (n := 6) f24_4
  have f25_5 := okp_mk (k := 12) (n := 6) f24_5
  have f25_6 := okp_mk (k := 12) (n := 6) f24_6
  have f25_20 := okp_mk (k := 12) (n := 6) f24_20
  have n25 := nx_mk (k := 12) (n := 6) n24
  refine e_putRF dX10_init_100 lf_N_66 rfl ln_N_66 rfl (by decide) (okp_k f25_4) rfl ?_
  have f26_4 := okp_wRs (f := 9) (v := 29) f25_4
  have f26_5 := okp_wR (i := 4) (f := 9) (v := 29) (by decide) f25_5
  have f26_6 := okp_wR (i := 4) (f := 9) (v := 29) (by decide) f25_6
  have f26_20 := okp_wR (i := 4) (f := 9) (v := 29) (by decide) f25_20
  have n26 := nx_wR (i := 4) (f := 9) (v := 29) n25
  refine e_aload_n dX10_init_103 rfl ?_
  refine k_new (k := 4) (a := 30) n26 dX10_init_104 rfl (by decide) lk_N_69 li_Plan lz_Plan lt_Plan ?_
  have g30 := okp_nw (k := 4) (n := 7) n26
  have f27_4 := okp_mk (k := 4) (n := 7) f26_4
  have f27_5 := okp_mk (k := 4) (n := 7) f26_5
  have f27_6 := okp_mk (k := 4) (n := 7) f26_6
  have f27_20 := okp_mk (k := 4) (n := 7) f26_20
  have n27 := nx_mk (k := 4) (n := 7) n26
  refine e_dup dX10_init_107 rfl ?_
  refine k_callI0 (As := []) rfl dX10_init_108 lm_N_71 (am_fitB rfl) yo_X5_init rfl rfl ys_X5_init rfl (Nat.le_of_ble_eq_true rfl) (Nat.le_of_ble_eq_true rfl) (s_X5_init g30 n27) ?_
  have f28_4 := okp_X5_init (t := 30) (a := 31) (by decide) n27 f27_4
  have f28_5 := okp_X5_init (t := 30) (a := 31) (by decide) n27 f27_5
  have f28_6 := okp_X5_init (t := 30) (a := 31) (by decide) n27 f27_6
  have f28_20 := okp_X5_init (t := 30) (a := 31) (by decide) n27 f27_20
  have n28 := nx_X5_init (t := 30) n27
  refine e_putR dX10_init_111 lf_N_72 rfl rfl (by decide) (okp_k f28_4) rfl ?_
  have f29_4 := okp_wRs (f := 10) (v := 30) f28_4
  have f29_5 := okp_wR (i := 4) (f := 10) (v := 30) (by decide) f28_5
  have f29_6 := okp_wR (i := 4) (f := 10) (v := 30) (by decide) f28_6
  have f29_20 := okp_wR (i := 4) (f := 10) (v := 30) (by decide) f28_20
  have n29 := nx_wR (i := 4) (f := 10) (v := 30) n28
  refine e_aload_n dX10_init_114 rfl ?_
  refine k_new (k := 4) (a := 35) n29 dX10_init_115 rfl (by decide) lk_N_69 li_Plan lz_Plan lt_Plan ?_
  have g35 := okp_nw (k := 4) (n := 7) n29
  have f30_4 := okp_mk (k := 4) (n := 7) f29_4
  have f30_5 := okp_mk (k := 4) (n := 7) f29_5
  have f30_6 := okp_mk (k := 4) (n := 7) f29_6
  have f30_20 := okp_mk (k := 4) (n := 7) f29_20
  have n30 := nx_mk (k := 4) (n := 7) n29
  refine e_dup dX10_init_118 rfl ?_
  refine k_callI0 (As := []) rfl dX10_init_119 lm_N_71 (am_fitB rfl) yo_X5_init rfl rfl ys_X5_init rfl (Nat.le_of_ble_eq_true rfl) (Nat.le_of_ble_eq_true rfl) (s_X5_init g35 n30) ?_
  have f31_4 := okp_X5_init (t := 35) (a := 36) (by decide) n30 f30_4
  have f31_5 := okp_X5_init (t := 35) (a := 36) (by decide) n30 f30_5
  have f31_6 := okp_X5_init (t := 35) (a := 36) (by decide) n30 f30_6
  have f31_20 := okp_X5_init (t := 35) (a := 36) (by decide) n30 f30_20
  have n31 := nx_X5_init (t := 35) n30
  refine e_putR dX10_init_122 lf_N_76 rfl rfl (by decide) (okp_k f31_4) rfl ?_
  have f32_4 := okp_wRs (f := 11) (v := 35) f31_4
  have f32_5 := okp_wR (i := 4) (f := 11) (v := 35) (by decide) f31_5
  have f32_6 := okp_wR (i := 4) (f := 11) (v := 35) (by decide) f31_6
  have f32_20 := okp_wR (i := 4) (f := 11) (v := 35) (by decide) f31_20
  have n32 := nx_wR (i := 4) (f := 11) (v := 35) n31
  refine e_iconst dX10_init_125 (v := 0) (by decide) ?_
  refine e_istore_n dX10_init_126 (by decide) (LS1 := [_, _]) rfl ?_
  refine e_iload_n dX10_init_127 rfl ?_
  refine e_bipush dX10_init_128 (v := 6) (by decide) ?_
  refine k_lt dX10_init_130 (tgt := 152) (by decide) (by decide) ?_
  refine e_aload_n dX10_init_133 rfl ?_
  refine e_getR (r := 5) dX10_init_134 lf_N_11 rfl (by decide) (okp_k f32_4) (okp_r f32_4 rfl) ?_
  refine e_iload_n dX10_init_137 rfl ?_
  refine k_new (k := 7) (a := 40) n32 dX10_init_138 rfl (by decide) lk_N_9 li_Row lz_Row lt_Row ?_
  have g40 := okp_nw (k := 7) (n := 2) n32
  have f33_4 := okp_mk (k := 7) (n := 2) f32_4
  have f33_5 := okp_mk (k := 7) (n := 2) f32_5
  have f33_6 := okp_mk (k := 7) (n := 2) f32_6
  have f33_20 := okp_mk (k := 7) (n := 2) f32_20
  have n33 := nx_mk (k := 7) (n := 2) n32
  refine e_dup dX10_init_141 rfl ?_
  refine k_callI0 (As := []) rfl dX10_init_142 lm_N_79 (am_fitB rfl) yo_X8_init rfl rfl ys_X8_init rfl (Nat.le_of_ble_eq_true rfl) (Nat.le_of_ble_eq_true rfl) (s_X8_init g40 n33) ?_
  have f34_4 := okp_X8_init (t := 40) (a := 41) (by decide) n33 f33_4
  have f34_5 := okp_X8_init (t := 40) (a := 41) (by decide) n33 f33_5
  have f34_6 := okp_X8_init (t := 40) (a := 41) (by decide) n33 f33_6
  have f34_20 := okp_X8_init (t := 40) (a := 41) (by decide) n33 f33_20
  have f34_40 := sf_X8_init (a := 41) g40
  have n34 := nx_X8_init (t := 40) n33
  refine k_aast (jn := 0) dX10_init_145 f34_5.2.1 (okp_k f34_40) (by decide) (by decide) ?_
  have f35_4 := okp_wR (i := 5) (f := 0) (v := 40) (by decide) f34_4
  have f35_5 := okp_wRs (f := 0) (v := 40) f34_5
  have f35_6 := okp_wR (i := 5) (f := 0) (v := 40) (by decide) f34_6
  have f35_20 := okp_wR (i := 5) (f := 0) (v := 40) (by decide) f34_20
  have f35_40 := okp_wR (i := 5) (f := 0) (v := 40) (by decide) f34_40
  have n35 := nx_wR (i := 5) (f := 0) (v := 40) n34
  refine e_iinc dX10_init_146 rfl (v := 1) (by decide) (by decide) (LS1 := [_, _]) rfl ?_
  refine e_goto dX10_init_149 (tgt := 127) (by decide) ?_
  refine e_iload_n dX10_init_127 rfl ?_
  refine e_bipush dX10_init_128 (v := 6) (by decide) ?_
  refine k_lt dX10_init_130 (tgt := 152) (by decide) (by decide) ?_
  refine e_aload_n dX10_init_133 rfl ?_
  refine e_getR (r := 5) dX10_init_134 lf_N_11 rfl (by decide) (okp_k f35_4) (okp_r f35_4 rfl) ?_
  refine e_iload_n dX10_init_137 rfl ?_
  refine k_new (k := 7) (a := 42) n35 dX10_init_138 rfl (by decide) lk_N_9 li_Row lz_Row lt_Row ?_
  have g42 := okp_nw (k := 7) (n := 2) n35
  have f36_4 := okp_mk (k := 7) (n := 2) f35_4
  have f36_5 := okp_mk (k := 7) (n := 2) f35_5
  have f36_6 := okp_mk (k := 7) (n := 2) f35_6
  have f36_20 := okp_mk (k := 7) (n := 2) f35_20
  have n36 := nx_mk (k := 7) (n := 2) n35
  refine e_dup dX10_init_141 rfl ?_
  refine k_callI0 (As := []) rfl dX10_init_142 lm_N_79 (am_fitB rfl) yo_X8_init rfl rfl ys_X8_init rfl (Nat.le_of_ble_eq_true rfl) (Nat.le_of_ble_eq_true rfl) (s_X8_init g42 n36) ?_
  have f37_4 := okp_X8_init (t := 42) (a := 43) (by decide) n36 f36_4
  have f37_5 := okp_X8_init (t := 42) (a := 43) (by decide) n36 f36_5
  have f37_6 := okp_X8_init (t := 42) (a := 43) (by decide) n36 f36_6
  have f37_20 := okp_X8_init (t := 42) (a := 43) (by decide) n36 f36_20
  have f37_42 := sf_X8_init (a := 43) g42
  have n37 := nx_X8_init (t := 42) n36
  refine k_aast (jn := 1) dX10_init_145 f37_5.2.1 (okp_k f37_42) (by decide) (by decide) ?_
  have f38_4 := okp_wR (i := 5) (f := 1) (v := 42) (by decide) f37_4
  have f38_5 := okp_wRs (f := 1) (v := 42) f37_5
  have f38_6 := okp_wR (i := 5) (f := 1) (v := 42) (by decide) f37_6
  have f38_20 := okp_wR (i := 5) (f := 1) (v := 42) (by decide) f37_20
  have f38_42 := okp_wR (i := 5) (f := 1) (v := 42) (by decide) f37_42
  have n38 := nx_wR (i := 5) (f := 1) (v := 42) n37
  refine e_iinc dX10_init_146 rfl (v := 2) (by decide) (by decide) (LS1 := [_, _]) rfl ?_
  refine e_goto dX10_init_149 (tgt := 127) (by decide) ?_
  refine e_iload_n dX10_init_127 rfl ?_
  refine e_bipush dX10_init_128 (v := 6) (by decide) ?_
  refine k_lt dX10_init_130 (tgt := 152) (by decide) (by decide) ?_
  refine e_aload_n dX10_init_133 rfl ?_
  refine e_getR (r := 5) dX10_init_134 lf_N_11 rfl (by decide) (okp_k f38_4) (okp_r f38_4 rfl) ?_
  refine e_iload_n dX10_init_137 rfl ?_
  refine k_new (k := 7) (a := 44) n38 dX10_init_138 rfl (by decide) lk_N_9 li_Row lz_Row lt_Row ?_
  have g44 := okp_nw (k := 7) (n := 2) n38
  have f39_4 := okp_mk (k := 7) (n := 2) f38_4
  have f39_5 := okp_mk (k := 7) (n := 2) f38_5
  have f39_6 := okp_mk (k := 7) (n := 2) f38_6
  have f39_20 := okp_mk (k := 7) (n := 2) f38_20
  have n39 := nx_mk (k := 7) (n := 2) n38
  refine e_dup dX10_init_141 rfl ?_
  refine k_callI0 (As := []) rfl dX10_init_142 lm_N_79 (am_fitB rfl) yo_X8_init rfl rfl ys_X8_init rfl (Nat.le_of_ble_eq_true rfl) (Nat.le_of_ble_eq_true rfl) (s_X8_init g44 n39) ?_
  have f40_4 := okp_X8_init (t := 44) (a := 45) (by decide) n39 f39_4
  have f40_5 := okp_X8_init (t := 44) (a := 45) (by decide) n39 f39_5
  have f40_6 := okp_X8_init (t := 44) (a := 45) (by decide) n39 f39_6
  have f40_20 := okp_X8_init (t := 44) (a := 45) (by decide) n39 f39_20
  have f40_44 := sf_X8_init (a := 45) g44
  have n40 := nx_X8_init (t := 44) n39
  refine k_aast (jn := 2) dX10_init_145 f40_5.2.1 (okp_k f40_44) (by decide) (by decide) ?_
  have f41_4 := okp_wR (i := 5) (f := 2) (v := 44) (by decide) f40_4
  have f41_5 := okp_wRs (f := 2) (v := 44) f40_5
  have f41_6 := okp_wR (i := 5) (f := 2) (v := 44) (by decide) f40_6
  have f41_20 := okp_wR (i := 5) (f := 2) (v := 44) (by decide) f40_20
  have f41_44 := okp_wR (i := 5) (f := 2) (v := 44) (by decide) f40_44
  have n41 := nx_wR (i := 5) (f := 2) (v := 44) n40
  refine e_iinc dX10_init_146 rfl (v := 3) (by decide) (by decide) (LS1 := [_, _]) rfl ?_
  refine e_goto dX10_init_149 (tgt := 127) (by decide) ?_
  refine e_iload_n dX10_init_127 rfl ?_
  refine e_bipush dX10_init_128 (v := 6) (by decide) ?_
  refine k_lt dX10_init_130 (tgt := 152) (by decide) (by decide) ?_
  refine e_aload_n dX10_init_133 rfl ?_
  refine e_getR (r := 5) dX10_init_134 lf_N_11 rfl (by decide) (okp_k f41_4) (okp_r f41_4 rfl) ?_
  refine e_iload_n dX10_init_137 rfl ?_
  refine k_new (k := 7) (a := 46) n41 dX10_init_138 rfl (by decide) lk_N_9 li_Row lz_Row lt_Row ?_
  have g46 := okp_nw (k := 7) (n := 2) n41
  have f42_4 := okp_mk (k := 7) (n := 2) f41_4
  have f42_5 := okp_mk (k := 7) (n := 2) f41_5
  have f42_6 := okp_mk (k := 7) (n := 2) f41_6
  have f42_20 := okp_mk (k := 7) (n := 2) f41_20
  have n42 := nx_mk (k := 7) (n := 2) n41
  refine e_dup dX10_init_141 rfl ?_
  refine k_callI0 (As := []) rfl dX10_init_142 lm_N_79 (am_fitB rfl) yo_X8_init rfl rfl ys_X8_init rfl (Nat.le_of_ble_eq_true rfl) (Nat.le_of_ble_eq_true rfl) (s_X8_init g46 n42) ?_
  have f43_4 := okp_X8_init (t := 46) (a := 47) (by decide) n42 f42_4
  have f43_5 := okp_X8_init (t := 46) (a := 47) (by decide) n42 f42_5
  have f43_6 := okp_X8_init (t := 46) (a := 47) (by decide) n42 f42_6
  have f43_20 := okp_X8_init (t := 46) (a := 47) (by decide) n42 f42_20
  have f43_46 := sf_X8_init (a := 47) g46
  have n43 := nx_X8_init (t := 46) n42
  refine k_aast (jn := 3) dX10_init_145 f43_5.2.1 (okp_k f43_46) (by decide) (by decide) ?_
  have f44_4 := okp_wR (i := 5) (f := 3) (v := 46) (by decide) f43_4
  have f44_5 := okp_wRs (f := 3) (v := 46) f43_5
  have f44_6 := okp_wR (i := 5) (f := 3) (v := 46) (by decide) f43_6
  have f44_20 := okp_wR (i := 5) (f := 3) (v := 46) (by decide) f43_20
  have f44_46 := okp_wR (i := 5) (f := 3) (v := 46) (by decide) f43_46
  have n44 := nx_wR (i := 5) (f := 3) (v := 46) n43
  refine e_iinc dX10_init_146 rfl (v := 4) (by decide) (by decide) (LS1 := [_, _]) rfl ?_
  refine e_goto dX10_init_149 (tgt := 127) (by decide) ?_
  refine e_iload_n dX10_init_127 rfl ?_
  refine e_bipush dX10_init_128 (v := 6) (by decide) ?_
  refine k_lt dX10_init_130 (tgt := 152) (by decide) (by decide) ?_
  refine e_aload_n dX10_init_133 rfl ?_
  refine e_getR (r := 5) dX10_init_134 lf_N_11 rfl (by decide) (okp_k f44_4) (okp_r f44_4 rfl) ?_
  refine e_iload_n dX10_init_137 rfl ?_
  refine k_new (k := 7) (a := 48) n44 dX10_init_138 rfl (by decide) lk_N_9 li_Row lz_Row lt_Row ?_
  have g48 := okp_nw (k := 7) (n := 2) n44
  have f45_4 := okp_mk (k := 7) (n := 2) f44_4
  have f45_5 := okp_mk (k := 7) (n := 2) f44_5
  have f45_6 := okp_mk (k := 7) (n := 2) f44_6
  have f45_20 := okp_mk (k := 7) (n := 2) f44_20
  have n45 := nx_mk (k := 7) (n := 2) n44
  refine e_dup dX10_init_141 rfl ?_
  refine k_callI0 (As := []) rfl dX10_init_142 lm_N_79 (am_fitB rfl) yo_X8_init rfl rfl ys_X8_init rfl (Nat.le_of_ble_eq_true rfl) (Nat.le_of_ble_eq_true rfl) (s_X8_init g48 n45) ?_
  have f46_4 := okp_X8_init (t := 48) (a := 49) (by decide) n45 f45_4
  have f46_5 := okp_X8_init (t := 48) (a := 49) (by decide) n45 f45_5
  have f46_6 := okp_X8_init (t := 48) (a := 49) (by decide) n45 f45_6
  have f46_20 := okp_X8_init (t := 48) (a := 49) (by decide) n45 f45_20
  have f46_48 := sf_X8_init (a := 49) g48
  have n46 := nx_X8_init (t := 48) n45
  refine k_aast (jn := 4) dX10_init_145 f46_5.2.1 (okp_k f46_48) (by decide) (by decide) ?_
  have f47_4 := okp_wR (i := 5) (f := 4) (v := 48) (by decide) f46_4
  have f47_5 := okp_wRs (f := 4) (v := 48) f46_5
  have f47_6 := okp_wR (i := 5) (f := 4) (v := 48) (by decide) f46_6
  have f47_20 := okp_wR (i := 5) (f := 4) (v := 48) (by decide) f46_20
  have f47_48 := okp_wR (i := 5) (f := 4) (v := 48) (by decide) f46_48
  have n47 := nx_wR (i := 5) (f := 4) (v := 48) n46
  refine e_iinc dX10_init_146 rfl (v := 5) (by decide) (by decide) (LS1 := [_, _]) rfl ?_
  refine e_goto dX10_init_149 (tgt := 127) (by decide) ?_
  refine e_iload_n dX10_init_127 rfl ?_
  refine e_bipush dX10_init_128 (v := 6) (by decide) ?_
  refine k_lt dX10_init_130 (tgt := 152) (by decide) (by decide) ?_
  refine e_aload_n dX10_init_133 rfl ?_
  refine e_getR (r := 5) dX10_init_134 lf_N_11 rfl (by decide) (okp_k f47_4) (okp_r f47_4 rfl) ?_
  refine e_iload_n dX10_init_137 rfl ?_
  refine k_new (k := 7) (a := 50) n47 dX10_init_138 rfl (by decide) lk_N_9 li_Row lz_Row lt_Row ?_
  have g50 := okp_nw (k := 7) (n := 2) n47
  have f48_4 := okp_mk (k := 7) (n := 2) f47_4
  have f48_5 := okp_mk (k := 7) (n := 2) f47_5
  have f48_6 := okp_mk (k := 7) (n := 2) f47_6
  have f48_20 := okp_mk (k := 7) (n := 2) f47_20
  have n48 := nx_mk (k := 7) (n := 2) n47
  refine e_dup dX10_init_141 rfl ?_
  refine k_callI0 (As := []) rfl dX10_init_142 lm_N_79 (am_fitB rfl) yo_X8_init rfl rfl ys_X8_init rfl (Nat.le_of_ble_eq_true rfl) (Nat.le_of_ble_eq_true rfl) (s_X8_init g50 n48) ?_
  have f49_4 := okp_X8_init (t := 50) (a := 51) (by decide) n48 f48_4
  have f49_5 := okp_X8_init (t := 50) (a := 51) (by decide) n48 f48_5
  have f49_6 := okp_X8_init (t := 50) (a := 51) (by decide) n48 f48_6
  have f49_20 := okp_X8_init (t := 50) (a := 51) (by decide) n48 f48_20
  have f49_50 := sf_X8_init (a := 51) g50
  have n49 := nx_X8_init (t := 50) n48
  refine k_aast (jn := 5) dX10_init_145 f49_5.2.1 (okp_k f49_50) (by decide) (by decide) ?_
  have f50_4 := okp_wR (i := 5) (f := 5) (v := 50) (by decide) f49_4
  have f50_5 := okp_wRs (f := 5) (v := 50) f49_5
  have f50_6 := okp_wR (i := 5) (f := 5) (v := 50) (by decide) f49_6
  have f50_20 := okp_wR (i := 5) (f := 5) (v := 50) (by decide) f49_20
  have f50_50 := okp_wR (i := 5) (f := 5) (v := 50) (by decide) f49_50
  have n50 := nx_wR (i := 5) (f := 5) (v := 50) n49
  refine e_iinc dX10_init_146 rfl (v := 6) (by decide) (by decide) (LS1 := [_, _]) rfl ?_
  refine e_goto dX10_init_149 (tgt := 127) (by decide) ?_
  refine e_iload_n dX10_init_127 rfl ?_
  refine e_bipush dX10_init_128 (v := 6) (by decide) ?_
  refine k_ge dX10_init_130 (tgt := 152) (by decide) (by decide) ?_
  refine e_iconst dX10_init_152 (v := 0) (by decide) ?_
  refine e_istore_n dX10_init_153 (by decide) (LS1 := [_, _]) rfl ?_
  refine e_iload_n dX10_init_154 rfl ?_
  refine e_iconst dX10_init_155 (v := 4) (by decide) ?_
  refine k_lt dX10_init_156 (tgt := 178) (by decide) (by decide) ?_
  refine e_aload_n dX10_init_159 rfl ?_
  refine e_getR (r := 6) dX10_init_160 lf_N_15 rfl (by decide) (okp_k f50_4) (okp_r f50_4 rfl) ?_
  refine e_iload_n dX10_init_163 rfl ?_
  refine k_new (k := 7) (a := 52) n50 dX10_init_164 rfl (by decide) lk_N_9 li_Row lz_Row lt_Row ?_
  have g52 := okp_nw (k := 7) (n := 2) n50
  have f51_4 := okp_mk (k := 7) (n := 2) f50_4
  have f51_5 := okp_mk (k := 7) (n := 2) f50_5
  have f51_6 := okp_mk (k := 7) (n := 2) f50_6
  have f51_20 := okp_mk (k := 7) (n := 2) f50_20
  have n51 := nx_mk (k := 7) (n := 2) n50
  refine e_dup dX10_init_167 rfl ?_
  refine k_callI0 (As := []) rfl dX10_init_168 lm_N_79 (am_fitB rfl) yo_X8_init rfl rfl ys_X8_init rfl (Nat.le_of_ble_eq_true rfl) (Nat.le_of_ble_eq_true rfl) (s_X8_init g52 n51) ?_
  have f52_4 := okp_X8_init (t := 52) (a := 53) (by decide) n51 f51_4
  have f52_5 := okp_X8_init (t := 52) (a := 53) (by decide) n51 f51_5
  have f52_6 := okp_X8_init (t := 52) (a := 53) (by decide) n51 f51_6
  have f52_20 := okp_X8_init (t := 52) (a := 53) (by decide) n51 f51_20
  have f52_52 := sf_X8_init (a := 53) g52
  have n52 := nx_X8_init (t := 52) n51
  refine k_aast (jn := 0) dX10_init_171 f52_6.2.1 (okp_k f52_52) (by decide) (by decide) ?_
  have f53_4 := okp_wR (i := 6) (f := 0) (v := 52) (by decide) f52_4
  have f53_5 := okp_wR (i := 6) (f := 0) (v := 52) (by decide) f52_5
  have f53_6 := okp_wRs (f := 0) (v := 52) f52_6
  have f53_20 := okp_wR (i := 6) (f := 0) (v := 52) (by decide) f52_20
  have f53_52 := okp_wR (i := 6) (f := 0) (v := 52) (by decide) f52_52
  have n53 := nx_wR (i := 6) (f := 0) (v := 52) n52
  refine e_iinc dX10_init_172 rfl (v := 1) (by decide) (by decide) (LS1 := [_, _]) rfl ?_
  refine e_goto dX10_init_175 (tgt := 154) (by decide) ?_
  refine e_iload_n dX10_init_154 rfl ?_
  refine e_iconst dX10_init_155 (v := 4) (by decide) ?_
  refine k_lt dX10_init_156 (tgt := 178) (by decide) (by decide) ?_
  refine e_aload_n dX10_init_159 rfl ?_
  refine e_getR (r := 6) dX10_init_160 lf_N_15 rfl (by decide) (okp_k f53_4) (okp_r f53_4 rfl) ?_
  refine e_iload_n dX10_init_163 rfl ?_
  refine k_new (k := 7) (a := 54) n53 dX10_init_164 rfl (by decide) lk_N_9 li_Row lz_Row lt_Row ?_
  have g54 := okp_nw (k := 7) (n := 2) n53
  have f54_4 := okp_mk (k := 7) (n := 2) f53_4
  have f54_5 := okp_mk (k := 7) (n := 2) f53_5
  have f54_6 := okp_mk (k := 7) (n := 2) f53_6
  have f54_20 := okp_mk (k := 7) (n := 2) f53_20
  have n54 := nx_mk (k := 7) (n := 2) n53
  refine e_dup dX10_init_167 rfl ?_
  refine k_callI0 (As := []) rfl dX10_init_168 lm_N_79 (am_fitB rfl) yo_X8_init rfl rfl ys_X8_init rfl (Nat.le_of_ble_eq_true rfl) (Nat.le_of_ble_eq_true rfl) (s_X8_init g54 n54) ?_
  have f55_4 := okp_X8_init (t := 54) (a := 55) (by decide) n54 f54_4
  have f55_5 := okp_X8_init (t := 54) (a := 55) (by decide) n54 f54_5
  have f55_6 := okp_X8_init (t := 54) (a := 55) (by decide) n54 f54_6
  have f55_20 := okp_X8_init (t := 54) (a := 55) (by decide) n54 f54_20
  have f55_54 := sf_X8_init (a := 55) g54
  have n55 := nx_X8_init (t := 54) n54
  refine k_aast (jn := 1) dX10_init_171 f55_6.2.1 (okp_k f55_54) (by decide) (by decide) ?_
  have f56_4 := okp_wR (i := 6) (f := 1) (v := 54) (by decide) f55_4
  have f56_5 := okp_wR (i := 6) (f := 1) (v := 54) (by decide) f55_5
  have f56_6 := okp_wRs (f := 1) (v := 54) f55_6
  have f56_20 := okp_wR (i := 6) (f := 1) (v := 54) (by decide) f55_20
  have f56_54 := okp_wR (i := 6) (f := 1) (v := 54) (by decide) f55_54
  have n56 := nx_wR (i := 6) (f := 1) (v := 54) n55
  refine e_iinc dX10_init_172 rfl (v := 2) (by decide) (by decide) (LS1 := [_, _]) rfl ?_
  refine e_goto dX10_init_175 (tgt := 154) (by decide) ?_
  refine e_iload_n dX10_init_154 rfl ?_
  refine e_iconst dX10_init_155 (v := 4) (by decide) ?_
  refine k_lt dX10_init_156 (tgt := 178) (by decide) (by decide) ?_
  refine e_aload_n dX10_init_159 rfl ?_
  refine e_getR (r := 6) dX10_init_160 lf_N_15 rfl (by decide) (okp_k f56_4) (okp_r f56_4 rfl) ?_
  refine e_iload_n dX10_init_163 rfl ?_
  refine k_new (k := 7) (a := 56) n56 dX10_init_164 rfl (by decide) lk_N_9 li_Row lz_Row lt_Row ?_
  have g56 := okp_nw (k := 7) (n := 2) n56
  have f57_4 := okp_mk (k := 7) (n := 2) f56_4
  have f57_5 := okp_mk (k := 7) (n := 2) f56_5
  have f57_6 := okp_mk (k := 7) (n := 2) f56_6
  have f57_20 := okp_mk (k := 7) (n := 2) f56_20
  have n57 := nx_mk (k := 7) (n := 2) n56
  refine e_dup dX10_init_167 rfl ?_
  refine k_callI0 (As := []) rfl dX10_init_168 lm_N_79 (am_fitB rfl) yo_X8_init rfl rfl ys_X8_init rfl (Nat.le_of_ble_eq_true rfl) (Nat.le_of_ble_eq_true rfl) (s_X8_init g56 n57) ?_
  have f58_4 := okp_X8_init (t := 56) (a := 57) (by decide) n57 f57_4
  have f58_5 := okp_X8_init (t := 56) (a := 57) (by decide) n57 f57_5
  have f58_6 := okp_X8_init (t := 56) (a := 57) (by decide) n57 f57_6
  have f58_20 := okp_X8_init (t := 56) (a := 57) (by decide) n57 f57_20
  have f58_56 := sf_X8_init (a := 57) g56
  have n58 := nx_X8_init (t := 56) n57
  refine k_aast (jn := 2) dX10_init_171 f58_6.2.1 (okp_k f58_56) (by decide) (by decide) ?_
  have f59_4 := okp_wR (i := 6) (f := 2) (v := 56) (by decide) f58_4
  have f59_5 := okp_wR (i := 6) (f := 2) (v := 56) (by decide) f58_5
  have f59_6 := okp_wRs (f := 2) (v := 56) f58_6
  have f59_20 := okp_wR (i := 6) (f := 2) (v := 56) (by decide) f58_20
  have f59_56 := okp_wR (i := 6) (f := 2) (v := 56) (by decide) f58_56
  have n59 := nx_wR (i := 6) (f := 2) (v := 56) n58
  refine e_iinc dX10_init_172 rfl (v := 3) (by decide) (by decide) (LS1 := [_, _]) rfl ?_
  refine e_goto dX10_init_175 (tgt := 154) (by decide) ?_
  refine e_iload_n dX10_init_154 rfl ?_
  refine e_iconst dX10_init_155 (v := 4) (by decide) ?_
  refine k_lt dX10_init_156 (tgt := 178) (by decide) (by decide) ?_
  refine e_aload_n dX10_init_159 rfl ?_
  refine e_getR (r := 6) dX10_init_160 lf_N_15 rfl (by decide) (okp_k f59_4) (okp_r f59_4 rfl) ?_
  refine e_iload_n dX10_init_163 rfl ?_
  refine k_new (k := 7) (a := 58) n59 dX10_init_164 rfl (by decide) lk_N_9 li_Row lz_Row lt_Row ?_
  have g58 := okp_nw (k := 7) (n := 2) n59
  have f60_4 := okp_mk (k := 7) (n := 2) f59_4
  have f60_5 := okp_mk (k := 7) (n := 2) f59_5
  have f60_6 := okp_mk (k := 7) (n := 2) f59_6
  have f60_20 := okp_mk (k := 7) (n := 2) f59_20
  have n60 := nx_mk (k := 7) (n := 2) n59
  refine e_dup dX10_init_167 rfl ?_
  refine k_callI0 (As := []) rfl dX10_init_168 lm_N_79 (am_fitB rfl) yo_X8_init rfl rfl ys_X8_init rfl (Nat.le_of_ble_eq_true rfl) (Nat.le_of_ble_eq_true rfl) (s_X8_init g58 n60) ?_
  have f61_4 := okp_X8_init (t := 58) (a := 59) (by decide) n60 f60_4
  have f61_5 := okp_X8_init (t := 58) (a := 59) (by decide) n60 f60_5
  have f61_6 := okp_X8_init (t := 58) (a := 59) (by decide) n60 f60_6
  have f61_20 := okp_X8_init (t := 58) (a := 59) (by decide) n60 f60_20
  have f61_58 := sf_X8_init (a := 59) g58
  have n61 := nx_X8_init (t := 58) n60
  refine k_aast (jn := 3) dX10_init_171 f61_6.2.1 (okp_k f61_58) (by decide) (by decide) ?_
  have f62_4 := okp_wR (i := 6) (f := 3) (v := 58) (by decide) f61_4
  have f62_5 := okp_wR (i := 6) (f := 3) (v := 58) (by decide) f61_5
  have f62_6 := okp_wRs (f := 3) (v := 58) f61_6
  have f62_20 := okp_wR (i := 6) (f := 3) (v := 58) (by decide) f61_20
  have f62_58 := okp_wR (i := 6) (f := 3) (v := 58) (by decide) f61_58
  have n62 := nx_wR (i := 6) (f := 3) (v := 58) n61
  refine e_iinc dX10_init_172 rfl (v := 4) (by decide) (by decide) (LS1 := [_, _]) rfl ?_
  refine e_goto dX10_init_175 (tgt := 154) (by decide) ?_
  refine e_iload_n dX10_init_154 rfl ?_
  refine e_iconst dX10_init_155 (v := 4) (by decide) ?_
  refine k_ge dX10_init_156 (tgt := 178) (by decide) (by decide) ?_
  refine e_aload_n dX10_init_178 rfl ?_
  refine e_getR (r := 20) dX10_init_179 lf_N_48 rfl (by decide) (okp_k f62_4) (okp_r f62_4 rfl) ?_
  refine e_iconst dX10_init_182 (v := (-1)) (by decide) ?_
  refine k_callS0 (As := [_, _]) (v := none) (M1 := _) rfl dX10_init_183 lm_N_80 (am_fitB rfl) yo_J7_fill_53178 ys_J7_fill_53178 rfl (Nat.le_of_ble_eq_true rfl) (Nat.le_of_ble_eq_true rfl) (am_fill3 f62_20.2.1) ?_
  exact am_end rfl ⟨dX10_init_186, rfl⟩

def c_X11_init (M : am_M)  : am_M :=
  let M1 : am_M := am_mk M 12 6
  let M2 : am_M := am_wR M1 60 1 61
  let M3 : am_M := am_mk M2 12 6
  let M4 : am_M := am_wR M3 60 3 62
  let M5 : am_M := am_mk M4 12 360
  let M6 : am_M := am_wR M5 60 4 63
  let M7 : am_M := am_mk M6 12 60
  let M8 : am_M := am_wR M7 60 5 64
  let M9 : am_M := am_mk M8 12 4
  let M10 : am_M := am_wR M9 60 6 65
  let M11 : am_M := am_mk M10 11 240
  let M12 : am_M := am_wR M11 60 7 66
  let M13 : am_M := am_mk M12 12 8
  let M14 : am_M := am_wR M13 60 10 67
  let M15 : am_M := am_mk M14 12 5
  let M16 : am_M := am_wR M15 60 11 68
  let M17 : am_M := am_mk M16 12 6
  let M18 : am_M := am_wR M17 60 13 69
  let M19 : am_M := am_mk M18 12 6
  let M20 : am_M := am_wR M19 60 14 70
  let M21 : am_M := am_mk M20 12 8
  let M22 : am_M := am_wR M21 60 21 71
  let M23 : am_M := am_mk M22 12 5
  let M24 : am_M := am_wR M23 60 22 72
  let M25 : am_M := am_mk M24 12 6
  let M26 : am_M := am_wR M25 60 23 73
  let M27 : am_M := am_mk M26 12 6
  let M28 : am_M := am_wR M27 60 24 74
  let M29 : am_M := am_mk M28 12 30
  let M30 : am_M := am_wR M29 60 25 75
  let M31 : am_M := am_mk M30 12 1860
  let M32 : am_M := am_wR M31 60 27 76
  let M33 : am_M := am_mk M32 13 3
  let M34 : am_M := am_wR M33 60 28 77
  let M35 : am_M := am_mk M34 12 90
  let M36 : am_M := am_wR M35 60 29 78
  let M37 : am_M := am_mk M36 12 5
  let M38 : am_M := am_wR M37 60 30 79
  let M39 : am_M := am_mk M38 12 6
  let M40 : am_M := am_wR M39 60 33 80
  let M41 : am_M := am_mk M40 12 3
  let M42 : am_M := am_wR M41 60 34 81
  let M43 : am_M := am_mk M42 12 9261
  let M44 : am_M := am_wR M43 60 35 82
  let M45 : am_M := am_mk M44 12 9261
  let M46 : am_M := am_wR M45 60 36 83
  let M47 : am_M := am_mk M46 12 9261
  let M48 : am_M := am_wR M47 60 37 84
  let M49 : am_M := am_mk M48 12 9261
  let M50 : am_M := am_wR M49 60 38 85
  let M51 : am_M := am_mk M50 12 8
  let M52 : am_M := am_wR M51 60 41 86
  let M53 : am_M := am_mk M52 12 8
  let M54 : am_M := am_wR M53 60 42 87
  let M55 : am_M := am_mk M54 12 121
  let M56 : am_M := am_wR M55 60 43 88
  let M57 : am_M := am_mk M56 12 6
  let M58 : am_M := am_wR M57 60 44 89
  let M59 : am_M := am_mk M58 12 6
  let M60 : am_M := am_wR M59 60 45 90
  let M61 : am_M := am_wI M60 62 0 (-1)
  let M62 : am_M := am_wI M61 62 1 (-1)
  let M63 : am_M := am_wI M62 62 2 (-1)
  let M64 : am_M := am_wI M63 62 3 (-1)
  let M65 : am_M := am_wI M64 62 4 (-1)
  let M66 : am_M := am_wI M65 62 5 (-1)
  let M67 : am_M := am_wI M66 65 0 (-1)
  let M68 : am_M := am_wI M67 65 1 (-1)
  let M69 : am_M := am_wI M68 65 2 (-1)
  let M70 : am_M := am_wI M69 65 3 (-1)
  M70
set_option maxRecDepth 100000 in
set_option maxHeartbeats 4000000 in
theorem s_X11_init {l : Launch} {g : am_G} {M : am_M} {R : Nat → Nat} (ft : am_okp M 60 (10, 47) R) (hN : am_nx M = 61) : am_E l g d_X11_init 0 (am_ent d_X11_init [.ref 60]) [] M (some (none, c_X11_init M)) := by
  show am_E l g d_X11_init 0 [some (.ref 60), none] [] M _
  refine e_aload_n dX11_init_0 rfl ?_
  refine e_objInit dX11_init_1 lm_M_1 lw_oii lw_oic (by decide) (Nat.le_of_ble_eq_true rfl) ?_
  refine e_aload_n dX11_init_4 rfl ?_
  refine e_bipush dX11_init_5 (v := 6) (by decide) ?_
  refine k_newa (a := 61) (N := 6) hN dX11_init_7 (Or.inr (Or.inl ⟨rfl, rfl⟩)) lw_aint (by decide) (by decide) (by decide) ?_
  have f1_60 := okp_mk (k := 12) (n := 6) ft
  have n1 := nx_mk (k := 12) (n := 6) hN
  refine e_putRF dX11_init_9 lf_M_7 rfl ln_M_7 rfl (by decide) (okp_k f1_60) rfl ?_
  have f2_60 := okp_wRs (f := 1) (v := 61) f1_60
  have n2 := nx_wR (i := 60) (f := 1) (v := 61) n1
  refine e_aload_n dX11_init_12 rfl ?_
  refine e_bipush dX11_init_13 (v := 6) (by decide) ?_
  refine k_newa (a := 62) (N := 6) n2 dX11_init_15 (Or.inr (Or.inl ⟨rfl, rfl⟩)) lw_aint (by decide) (by decide) (by decide) ?_
  have g62 := okp_nw (k := 12) (n := 6) n2
  have f3_60 := okp_mk (k := 12) (n := 6) f2_60
  have n3 := nx_mk (k := 12) (n := 6) n2
  refine e_putRF dX11_init_17 lf_M_13 rfl ln_M_13 rfl (by decide) (okp_k f3_60) rfl ?_
  have f4_60 := okp_wRs (f := 3) (v := 62) f3_60
  have f4_62 := okp_wR (i := 60) (f := 3) (v := 62) (by decide) g62
  have n4 := nx_wR (i := 60) (f := 3) (v := 62) n3
  refine e_aload_n dX11_init_20 rfl ?_
  refine e_sipush dX11_init_21 (v := 360) (by decide) ?_
  refine k_newa (a := 63) (N := 360) n4 dX11_init_24 (Or.inr (Or.inl ⟨rfl, rfl⟩)) lw_aint (by decide) (by decide) (by decide) ?_
  have f5_60 := okp_mk (k := 12) (n := 360) f4_60
  have f5_62 := okp_mk (k := 12) (n := 360) f4_62
  have n5 := nx_mk (k := 12) (n := 360) n4
  refine e_putRF dX11_init_26 lf_M_16 rfl ln_M_16 rfl (by decide) (okp_k f5_60) rfl ?_
  have f6_60 := okp_wRs (f := 4) (v := 63) f5_60
  have f6_62 := okp_wR (i := 60) (f := 4) (v := 63) (by decide) f5_62
  have n6 := nx_wR (i := 60) (f := 4) (v := 63) n5
  refine e_aload_n dX11_init_29 rfl ?_
  refine e_bipush dX11_init_30 (v := 60) (by decide) ?_
  refine k_newa (a := 64) (N := 60) n6 dX11_init_32 (Or.inr (Or.inl ⟨rfl, rfl⟩)) lw_aint (by decide) (by decide) (by decide) ?_
  have f7_60 := okp_mk (k := 12) (n := 60) f6_60
  have f7_62 := okp_mk (k := 12) (n := 60) f6_62
  have n7 := nx_mk (k := 12) (n := 60) n6
  refine e_putRF dX11_init_34 lf_M_19 rfl ln_M_19 rfl (by decide) (okp_k f7_60) rfl ?_
  have f8_60 := okp_wRs (f := 5) (v := 64) f7_60
  have f8_62 := okp_wR (i := 60) (f := 5) (v := 64) (by decide) f7_62
  have n8 := nx_wR (i := 60) (f := 5) (v := 64) n7
  refine e_aload_n dX11_init_37 rfl ?_
  refine e_iconst dX11_init_38 (v := 4) (by decide) ?_
  refine k_newa (a := 65) (N := 4) n8 dX11_init_39 (Or.inr (Or.inl ⟨rfl, rfl⟩)) lw_aint (by decide) (by decide) (by decide) ?_
  have g65 := okp_nw (k := 12) (n := 4) n8
  have f9_60 := okp_mk (k := 12) (n := 4) f8_60
  have f9_62 := okp_mk (k := 12) (n := 4) f8_62
  have n9 := nx_mk (k := 12) (n := 4) n8
  refine e_putRF dX11_init_41 lf_M_22 rfl ln_M_22 rfl (by decide) (okp_k f9_60) rfl ?_
  have f10_60 := okp_wRs (f := 6) (v := 65) f9_60
  have f10_62 := okp_wR (i := 60) (f := 6) (v := 65) (by decide) f9_62
  have f10_65 := okp_wR (i := 60) (f := 6) (v := 65) (by decide) g65
  have n10 := nx_wR (i := 60) (f := 6) (v := 65) n9
  refine e_aload_n dX11_init_44 rfl ?_
  refine e_sipush dX11_init_45 (v := 240) (by decide) ?_
  refine k_newa (a := 66) (N := 240) n10 dX11_init_48 (Or.inl ⟨rfl, rfl⟩) lw_abyte (by decide) (by decide) (by decide) ?_
  have f11_60 := okp_mk (k := 11) (n := 240) f10_60
  have f11_62 := okp_mk (k := 11) (n := 240) f10_62
  have f11_65 := okp_mk (k := 11) (n := 240) f10_65
  have n11 := nx_mk (k := 11) (n := 240) n10
  refine e_putRF dX11_init_50 lf_M_25 rfl ln_M_25 rfl (by decide) (okp_k f11_60) rfl ?_
  have f12_60 := okp_wRs (f := 7) (v := 66) f11_60
  have f12_62 := okp_wR (i := 60) (f := 7) (v := 66) (by decide) f11_62
  have f12_65 := okp_wR (i := 60) (f := 7) (v := 66) (by decide) f11_65
  have n12 := nx_wR (i := 60) (f := 7) (v := 66) n11
  refine e_aload_n dX11_init_53 rfl ?_
  refine e_bipush dX11_init_54 (v := 8) (by decide) ?_
  refine k_newa (a := 67) (N := 8) n12 dX11_init_56 (Or.inr (Or.inl ⟨rfl, rfl⟩)) lw_aint (by decide) (by decide) (by decide) ?_
  have f13_60 := okp_mk (k := 12) (n := 8) f12_60
  have f13_62 := okp_mk (k := 12) (n := 8) f12_62
  have f13_65 := okp_mk (k := 12) (n := 8) f12_65
  have n13 := nx_mk (k := 12) (n := 8) n12
  refine e_putRF dX11_init_58 lf_M_29 rfl ln_M_29 rfl (by decide) (okp_k f13_60) rfl ?_
  have f14_60 := okp_wRs (f := 10) (v := 67) f13_60
  have f14_62 := okp_wR (i := 60) (f := 10) (v := 67) (by decide) f13_62
  have f14_65 := okp_wR (i := 60) (f := 10) (v := 67) (by decide) f13_65
  have n14 := nx_wR (i := 60) (f := 10) (v := 67) n13
  refine e_aload_n dX11_init_61 rfl ?_
  refine e_iconst dX11_init_62 (v := 5) (by decide) ?_
  refine k_newa (a := 68) (N := 5) n14 dX11_init_63 (Or.inr (Or.inl ⟨rfl, rfl⟩)) lw_aint (by decide) (by decide) (by decide) ?_
  have f15_60 := okp_mk (k := 12) (n := 5) f14_60
  have f15_62 := okp_mk (k := 12) (n := 5) f14_62
  have f15_65 := okp_mk (k := 12) (n := 5) f14_65
  have n15 := nx_mk (k := 12) (n := 5) n14
  refine e_putRF dX11_init_65 lf_M_32 rfl ln_M_32 rfl (by decide) (okp_k f15_60) rfl ?_
  have f16_60 := okp_wRs (f := 11) (v := 68) f15_60
  have f16_62 := okp_wR (i := 60) (f := 11) (v := 68) (by decide) f15_62
  have f16_65 := okp_wR (i := 60) (f := 11) (v := 68) (by decide) f15_65
  have n16 := nx_wR (i := 60) (f := 11) (v := 68) n15
  refine e_aload_n dX11_init_68 rfl ?_
  refine e_bipush dX11_init_69 (v := 6) (by decide) ?_
  refine k_newa (a := 69) (N := 6) n16 dX11_init_71 (Or.inr (Or.inl ⟨rfl, rfl⟩)) lw_aint (by decide) (by decide) (by decide) ?_
  have f17_60 := okp_mk (k := 12) (n := 6) f16_60
  have f17_62 := okp_mk (k := 12) (n := 6) f16_62
  have f17_65 := okp_mk (k := 12) (n := 6) f16_65
  have n17 := nx_mk (k := 12) (n := 6) n16
  refine e_putRF dX11_init_73 lf_M_35 rfl ln_M_35 rfl (by decide) (okp_k f17_60) rfl ?_
  have f18_60 := okp_wRs (f := 13) (v := 69) f17_60
  have f18_62 := okp_wR (i := 60) (f := 13) (v := 69) (by decide) f17_62
  have f18_65 := okp_wR (i := 60) (f := 13) (v := 69) (by decide) f17_65
  have n18 := nx_wR (i := 60) (f := 13) (v := 69) n17
  refine e_aload_n dX11_init_76 rfl ?_
  refine e_bipush dX11_init_77 (v := 6) (by decide) ?_
  refine k_newa (a := 70) (N := 6) n18 dX11_init_79 (Or.inr (Or.inl ⟨rfl, rfl⟩)) lw_aint (by decide) (by decide) (by decide) ?_
  have f19_60 := okp_mk (k := 12) (n := 6) f18_60
  have f19_62 := okp_mk (k := 12) (n := 6) f18_62
  have f19_65 := okp_mk (k := 12) (n := 6) f18_65
  have n19 := nx_mk (k := 12) (n := 6) n18
  refine e_putRF dX11_init_81 lf_M_38 rfl ln_M_38 rfl (by decide) (okp_k f19_60) rfl ?_
  have f20_60 := okp_wRs (f := 14) (v := 70) f19_60
  have f20_62 := okp_wR (i := 60) (f := 14) (v := 70) (by decide) f19_62
  have f20_65 := okp_wR (i := 60) (f := 14) (v := 70) (by decide) f19_65
  have n20 := nx_wR (i := 60) (f := 14) (v := 70) n19
  refine e_aload_n dX11_init_84 rfl ?_
  refine e_bipush dX11_init_85 (v := 8) (by decide) ?_
  refine k_newa (a := 71) (N := 8) n20 dX11_init_87 (Or.inr (Or.inl ⟨rfl, rfl⟩)) lw_aint (by decide) (by decide) (by decide) ?_
  have f21_60 := okp_mk (k := 12) (n := 8) f20_60
  have f21_62 := okp_mk (k := 12) (n := 8) f20_62
  have f21_65 := okp_mk (k := 12) (n := 8) f20_65
  have n21 := nx_mk (k := 12) (n := 8) n20
  refine e_putRF dX11_init_89 lf_M_41 rfl ln_M_41 rfl (by decide) (okp_k f21_60) rfl ?_
  have f22_60 := okp_wRs (f := 21) (v := 71) f21_60
  have f22_62 := okp_wR (i := 60) (f := 21) (v := 71) (by decide) f21_62
  have f22_65 := okp_wR (i := 60) (f := 21) (v := 71) (by decide) f21_65
  have n22 := nx_wR (i := 60) (f := 21) (v := 71) n21
  refine e_aload_n dX11_init_92 rfl ?_
  refine e_iconst dX11_init_93 (v := 5) (by decide) ?_
  refine k_newa (a := 72) (N := 5) n22 dX11_init_94 (Or.inr (Or.inl ⟨rfl, rfl⟩)) lw_aint (by decide) (by decide) (by decide) ?_
  have f23_60 := okp_mk (k := 12) (n := 5) f22_60
  have f23_62 := okp_mk (k := 12) (n := 5) f22_62
  have f23_65 := okp_mk (k := 12) (n := 5) f22_65
  have n23 := nx_mk (k := 12) (n := 5) n22
  refine e_putRF dX11_init_96 lf_M_44 rfl ln_M_44 rfl (by decide) (okp_k f23_60) rfl ?_
  have f24_60 := okp_wRs (f := 22) (v := 72) f23_60
  have f24_62 := okp_wR (i := 60) (f := 22) (v := 72) (by decide) f23_62
  have f24_65 := okp_wR (i := 60) (f := 22) (v := 72) (by decide) f23_65
  have n24 := nx_wR (i := 60) (f := 22) (v := 72) n23
  refine e_aload_n dX11_init_99 rfl ?_
  refine e_bipush dX11_init_100 (v := 6) (by decide) ?_
  refine k_newa (a := 73) (N := 6) n24 dX11_init_102 (Or.inr (Or.inl ⟨rfl, rfl⟩)) lw_aint (by decide) (by decide) (by decide) ?_
  have f25_60 := okp_mk (k := 12) (n := 6) f24_60
  have f25_62 := okp_mk (k := 12) (n := 6) f24_62
  have f25_65 := okp_mk (k := 12) (n := 6) f24_65
  have n25 := nx_mk (k := 12) (n := 6) n24
  refine e_putRF dX11_init_104 lf_M_47 rfl ln_M_47 rfl (by decide) (okp_k f25_60) rfl ?_
  have f26_60 := okp_wRs (f := 23) (v := 73) f25_60
  have f26_62 := okp_wR (i := 60) (f := 23) (v := 73) (by decide) f25_62
  have f26_65 := okp_wR (i := 60) (f := 23) (v := 73) (by decide) f25_65
  have n26 := nx_wR (i := 60) (f := 23) (v := 73) n25
  refine e_aload_n dX11_init_107 rfl ?_
  refine e_bipush dX11_init_108 (v := 6) (by decide) ?_
  refine k_newa (a := 74) (N := 6) n26 dX11_init_110 (Or.inr (Or.inl ⟨rfl, rfl⟩)) lw_aint (by decide) (by decide) (by decide) ?_
  have f27_60 := okp_mk (k := 12) (n := 6) f26_60
  have f27_62 := okp_mk (k := 12) (n := 6) f26_62
  have f27_65 := okp_mk (k := 12) (n := 6) f26_65
  have n27 := nx_mk (k := 12) (n := 6) n26
  refine e_putRF dX11_init_112 lf_M_50 rfl ln_M_50 rfl (by decide) (okp_k f27_60) rfl ?_
  have f28_60 := okp_wRs (f := 24) (v := 74) f27_60
  have f28_62 := okp_wR (i := 60) (f := 24) (v := 74) (by decide) f27_62
  have f28_65 := okp_wR (i := 60) (f := 24) (v := 74) (by decide) f27_65
  have n28 := nx_wR (i := 60) (f := 24) (v := 74) n27
  refine e_aload_n dX11_init_115 rfl ?_
  refine e_bipush dX11_init_116 (v := 30) (by decide) ?_
  refine k_newa (a := 75) (N := 30) n28 dX11_init_118 (Or.inr (Or.inl ⟨rfl, rfl⟩)) lw_aint (by decide) (by decide) (by decide) ?_
  have f29_60 := okp_mk (k := 12) (n := 30) f28_60
  have f29_62 := okp_mk (k := 12) (n := 30) f28_62
  have f29_65 := okp_mk (k := 12) (n := 30) f28_65
  have n29 := nx_mk (k := 12) (n := 30) n28
  refine e_putRF dX11_init_120 lf_M_53 rfl ln_M_53 rfl (by decide) (okp_k f29_60) rfl ?_
  have f30_60 := okp_wRs (f := 25) (v := 75) f29_60
  have f30_62 := okp_wR (i := 60) (f := 25) (v := 75) (by decide) f29_62
  have f30_65 := okp_wR (i := 60) (f := 25) (v := 75) (by decide) f29_65
  have n30 := nx_wR (i := 60) (f := 25) (v := 75) n29
  refine e_aload_n dX11_init_123 rfl ?_
  refine e_sipush dX11_init_124 (v := 1860) (by decide) ?_
  refine k_newa (a := 76) (N := 1860) n30 dX11_init_127 (Or.inr (Or.inl ⟨rfl, rfl⟩)) lw_aint (by decide) (by decide) (by decide) ?_
  have f31_60 := okp_mk (k := 12) (n := 1860) f30_60
  have f31_62 := okp_mk (k := 12) (n := 1860) f30_62
  have f31_65 := okp_mk (k := 12) (n := 1860) f30_65
  have n31 := nx_mk (k := 12) (n := 1860) n30
  refine e_putRF dX11_init_129 lf_M_56 rfl ln_M_56 rfl (by decide) (okp_k f31_60) rfl ?_
  have f32_60 := okp_wRs (f := 27) (v := 76) f31_60
  have f32_62 := okp_wR (i := 60) (f := 27) (v := 76) (by decide) f31_62
  have f32_65 := okp_wR (i := 60) (f := 27) (v := 76) (by decide) f31_65
  have n32 := nx_wR (i := 60) (f := 27) (v := 76) n31
  refine e_aload_n dX11_init_132 rfl ?_
  refine e_iconst dX11_init_133 (v := 3) (by decide) ?_
  refine k_newa (a := 77) (N := 3) n32 dX11_init_134 (Or.inr (Or.inr ⟨rfl, rfl⟩)) lw_aboolean (by decide) (by decide) (by decide) ?_
  have f33_60 := okp_mk (k := 13) (n := 3) f32_60
  have f33_62 := okp_mk (k := 13) (n := 3) f32_62
  have f33_65 := okp_mk (k := 13) (n := 3) f32_65
  have n33 := nx_mk (k := 13) (n := 3) n32
  refine e_putRF dX11_init_136 lf_M_59 rfl ln_M_59 rfl (by decide) (okp_k f33_60) rfl ?_
  have f34_60 := okp_wRs (f := 28) (v := 77) f33_60
  have f34_62 := okp_wR (i := 60) (f := 28) (v := 77) (by decide) f33_62
  have f34_65 := okp_wR (i := 60) (f := 28) (v := 77) (by decide) f33_65
  have n34 := nx_wR (i := 60) (f := 28) (v := 77) n33
  refine e_aload_n dX11_init_139 rfl ?_
  refine e_bipush dX11_init_140 (v := 90) (by decide) ?_
  refine k_newa (a := 78) (N := 90) n34 dX11_init_142 (Or.inr (Or.inl ⟨rfl, rfl⟩)) lw_aint (by decide) (by decide) (by decide) ?_
  have f35_60 := okp_mk (k := 12) (n := 90) f34_60
  have f35_62 := okp_mk (k := 12) (n := 90) f34_62
  have f35_65 := okp_mk (k := 12) (n := 90) f34_65
  have n35 := nx_mk (k := 12) (n := 90) n34
  refine e_putRF dX11_init_144 lf_M_63 rfl ln_M_63 rfl (by decide) (okp_k f35_60) rfl ?_
  have f36_60 := okp_wRs (f := 29) (v := 78) f35_60
  have f36_62 := okp_wR (i := 60) (f := 29) (v := 78) (by decide) f35_62
  have f36_65 := okp_wR (i := 60) (f := 29) (v := 78) (by decide) f35_65
  have n36 := nx_wR (i := 60) (f := 29) (v := 78) n35
  refine e_aload_n dX11_init_147 rfl ?_
  refine e_iconst dX11_init_148 (v := 5) (by decide) ?_
  refine k_newa (a := 79) (N := 5) n36 dX11_init_149 (Or.inr (Or.inl ⟨rfl, rfl⟩)) lw_aint (by decide) (by decide) (by decide) ?_
  have f37_60 := okp_mk (k := 12) (n := 5) f36_60
  have f37_62 := okp_mk (k := 12) (n := 5) f36_62
  have f37_65 := okp_mk (k := 12) (n := 5) f36_65
  have n37 := nx_mk (k := 12) (n := 5) n36
  refine e_putRF dX11_init_151 lf_M_66 rfl ln_M_66 rfl (by decide) (okp_k f37_60) rfl ?_
  have f38_60 := okp_wRs (f := 30) (v := 79) f37_60
  have f38_62 := okp_wR (i := 60) (f := 30) (v := 79) (by decide) f37_62
  have f38_65 := okp_wR (i := 60) (f := 30) (v := 79) (by decide) f37_65
  have n38 := nx_wR (i := 60) (f := 30) (v := 79) n37
  refine e_aload_n dX11_init_154 rfl ?_
  refine e_bipush dX11_init_155 (v := 6) (by decide) ?_
  refine k_newa (a := 80) (N := 6) n38 dX11_init_157 (Or.inr (Or.inl ⟨rfl, rfl⟩)) lw_aint (by decide) (by decide) (by decide) ?_
  have f39_60 := okp_mk (k := 12) (n := 6) f38_60
  have f39_62 := okp_mk (k := 12) (n := 6) f38_62
  have f39_65 := okp_mk (k := 12) (n := 6) f38_65
  have n39 := nx_mk (k := 12) (n := 6) n38
  refine e_putRF dX11_init_159 lf_M_69 rfl ln_M_69 rfl (by decide) (okp_k f39_60) rfl ?_
  have f40_60 := okp_wRs (f := 33) (v := 80) f39_60
  have f40_62 := okp_wR (i := 60) (f := 33) (v := 80) (by decide) f39_62
  have f40_65 := okp_wR (i := 60) (f := 33) (v := 80) (by decide) f39_65
  have n40 := nx_wR (i := 60) (f := 33) (v := 80) n39
  refine e_aload_n dX11_init_162 rfl ?_
  refine e_iconst dX11_init_163 (v := 3) (by decide) ?_
  refine k_newa (a := 81) (N := 3) n40 dX11_init_164 (Or.inr (Or.inl ⟨rfl, rfl⟩)) lw_aint (by decide) (by decide) (by decide) ?_
  have f41_60 := okp_mk (k := 12) (n := 3) f40_60
  have f41_62 := okp_mk (k := 12) (n := 3) f40_62
  have f41_65 := okp_mk (k := 12) (n := 3) f40_65
  have n41 := nx_mk (k := 12) (n := 3) n40
  refine e_putRF dX11_init_166 lf_M_72 rfl ln_M_72 rfl (by decide) (okp_k f41_60) rfl ?_
  have f42_60 := okp_wRs (f := 34) (v := 81) f41_60
  have f42_62 := okp_wR (i := 60) (f := 34) (v := 81) (by decide) f41_62
  have f42_65 := okp_wR (i := 60) (f := 34) (v := 81) (by decide) f41_65
  have n42 := nx_wR (i := 60) (f := 34) (v := 81) n41
  refine e_aload_n dX11_init_169 rfl ?_
  refine e_sipush dX11_init_170 (v := 9261) (by decide) ?_
  refine k_newa (a := 82) (N := 9261) n42 dX11_init_173 (Or.inr (Or.inl ⟨rfl, rfl⟩)) lw_aint (by decide) (by decide) (by decide) ?_
  have f43_60 := okp_mk (k := 12) (n := 9261) f42_60
  have f43_62 := okp_mk (k := 12) (n := 9261) f42_62
  have f43_65 := okp_mk (k := 12) (n := 9261) f42_65
  have n43 := nx_mk (k := 12) (n := 9261) n42
  refine e_putRF dX11_init_175 lf_M_75 rfl ln_M_75 rfl (by decide) (okp_k f43_60) rfl ?_
  have f44_60 := okp_wRs (f := 35) (v := 82) f43_60
  have f44_62 := okp_wR (i := 60) (f := 35) (v := 82) (by decide) f43_62
  have f44_65 := okp_wR (i := 60) (f := 35) (v := 82) (by decide) f43_65
  have n44 := nx_wR (i := 60) (f := 35) (v := 82) n43
  refine e_aload_n dX11_init_178 rfl ?_
  refine e_sipush dX11_init_179 (v := 9261) (by decide) ?_
  refine k_newa (a := 83) (N := 9261) n44 dX11_init_182 (Or.inr (Or.inl ⟨rfl, rfl⟩)) lw_aint (by decide) (by decide) (by decide) ?_
  have f45_60 := okp_mk (k := 12) (n := 9261) f44_60
  have f45_62 := okp_mk (k := 12) (n := 9261) f44_62
  have f45_65 := okp_mk (k := 12) (n := 9261) f44_65
  have n45 := nx_mk (k := 12) (n := 9261) n44
  refine e_putRF dX11_init_184 lf_M_78 rfl ln_M_78 rfl (by decide) (okp_k f45_60) rfl ?_
  have f46_60 := okp_wRs (f := 36) (v := 83) f45_60
  have f46_62 := okp_wR (i := 60) (f := 36) (v := 83) (by decide) f45_62
  have f46_65 := okp_wR (i := 60) (f := 36) (v := 83) (by decide) f45_65
  have n46 := nx_wR (i := 60) (f := 36) (v := 83) n45
  refine e_aload_n dX11_init_187 rfl ?_
  refine e_sipush dX11_init_188 (v := 9261) (by decide) ?_
  refine k_newa (a := 84) (N := 9261) n46 dX11_init_191 (Or.inr (Or.inl ⟨rfl, rfl⟩)) lw_aint (by decide) (by decide) (by decide) ?_
  have f47_60 := okp_mk (k := 12) (n := 9261) f46_60
  have f47_62 := okp_mk (k := 12) (n := 9261) f46_62
  have f47_65 := okp_mk (k := 12) (n := 9261) f46_65
  have n47 := nx_mk (k := 12) (n := 9261) n46
  refine e_putRF dX11_init_193 lf_M_81 rfl ln_M_81 rfl (by decide) (okp_k f47_60) rfl ?_
  have f48_60 := okp_wRs (f := 37) (v := 84) f47_60
  have f48_62 := okp_wR (i := 60) (f := 37) (v := 84) (by decide) f47_62
  have f48_65 := okp_wR (i := 60) (f := 37) (v := 84) (by decide) f47_65
  have n48 := nx_wR (i := 60) (f := 37) (v := 84) n47
  refine e_aload_n dX11_init_196 rfl ?_
  refine e_sipush dX11_init_197 (v := 9261) (by decide) ?_
  refine k_newa (a := 85) (N := 9261) n48 dX11_init_200 (Or.inr (Or.inl ⟨rfl, rfl⟩)) lw_aint (by decide) (by decide) (by decide) ?_
  have f49_60 := okp_mk (k := 12) (n := 9261) f48_60
  have f49_62 := okp_mk (k := 12) (n := 9261) f48_62
  have f49_65 := okp_mk (k := 12) (n := 9261) f48_65
  have n49 := nx_mk (k := 12) (n := 9261) n48
  refine e_putRF dX11_init_202 lf_M_84 rfl ln_M_84 rfl (by decide) (okp_k f49_60) rfl ?_
  have f50_60 := okp_wRs (f := 38) (v := 85) f49_60
  have f50_62 := okp_wR (i := 60) (f := 38) (v := 85) (by decide) f49_62
  have f50_65 := okp_wR (i := 60) (f := 38) (v := 85) (by decide) f49_65
  have n50 := nx_wR (i := 60) (f := 38) (v := 85) n49
  refine e_aload_n dX11_init_205 rfl ?_
  refine e_bipush dX11_init_206 (v := 8) (by decide) ?_
  refine k_newa (a := 86) (N := 8) n50 dX11_init_208 (Or.inr (Or.inl ⟨rfl, rfl⟩)) lw_aint (by decide) (by decide) (by decide) ?_
  have f51_60 := okp_mk (k := 12) (n := 8) f50_60
  have f51_62 := okp_mk (k := 12) (n := 8) f50_62
  have f51_65 := okp_mk (k := 12) (n := 8) f50_65
  have n51 := nx_mk (k := 12) (n := 8) n50
  refine e_putRF dX11_init_210 lf_M_87 rfl ln_M_87 rfl (by decide) (okp_k f51_60) rfl ?_
  have f52_60 := okp_wRs (f := 41) (v := 86) f51_60
  have f52_62 := okp_wR (i := 60) (f := 41) (v := 86) (by decide) f51_62
  have f52_65 := okp_wR (i := 60) (f := 41) (v := 86) (by decide) f51_65
  have n52 := nx_wR (i := 60) (f := 41) (v := 86) n51
  refine e_aload_n dX11_init_213 rfl ?_
  refine e_bipush dX11_init_214 (v := 8) (by decide) ?_
  refine k_newa (a := 87) (N := 8) n52 dX11_init_216 (Or.inr (Or.inl ⟨rfl, rfl⟩)) lw_aint (by decide) (by decide) (by decide) ?_
  have f53_60 := okp_mk (k := 12) (n := 8) f52_60
  have f53_62 := okp_mk (k := 12) (n := 8) f52_62
  have f53_65 := okp_mk (k := 12) (n := 8) f52_65
  have n53 := nx_mk (k := 12) (n := 8) n52
  refine e_putRF dX11_init_218 lf_M_90 rfl ln_M_90 rfl (by decide) (okp_k f53_60) rfl ?_
  have f54_60 := okp_wRs (f := 42) (v := 87) f53_60
  have f54_62 := okp_wR (i := 60) (f := 42) (v := 87) (by decide) f53_62
  have f54_65 := okp_wR (i := 60) (f := 42) (v := 87) (by decide) f53_65
  have n54 := nx_wR (i := 60) (f := 42) (v := 87) n53
  refine e_aload_n dX11_init_221 rfl ?_
  refine e_bipush dX11_init_222 (v := 121) (by decide) ?_
  refine k_newa (a := 88) (N := 121) n54 dX11_init_224 (Or.inr (Or.inl ⟨rfl, rfl⟩)) lw_aint (by decide) (by decide) (by decide) ?_
  have f55_60 := okp_mk (k := 12) (n := 121) f54_60
  have f55_62 := okp_mk (k := 12) (n := 121) f54_62
  have f55_65 := okp_mk (k := 12) (n := 121) f54_65
  have n55 := nx_mk (k := 12) (n := 121) n54
  refine e_putRF dX11_init_226 lf_M_93 rfl ln_M_93 rfl (by decide) (okp_k f55_60) rfl ?_
  have f56_60 := okp_wRs (f := 43) (v := 88) f55_60
  have f56_62 := okp_wR (i := 60) (f := 43) (v := 88) (by decide) f55_62
  have f56_65 := okp_wR (i := 60) (f := 43) (v := 88) (by decide) f55_65
  have n56 := nx_wR (i := 60) (f := 43) (v := 88) n55
  refine e_aload_n dX11_init_229 rfl ?_
  refine e_bipush dX11_init_230 (v := 6) (by decide) ?_
  refine k_newa (a := 89) (N := 6) n56 dX11_init_232 (Or.inr (Or.inl ⟨rfl, rfl⟩)) lw_aint (by decide) (by decide) (by decide) ?_
  have f57_60 := okp_mk (k := 12) (n := 6) f56_60
  have f57_62 := okp_mk (k := 12) (n := 6) f56_62
  have f57_65 := okp_mk (k := 12) (n := 6) f56_65
  have n57 := nx_mk (k := 12) (n := 6) n56
  refine e_putRF dX11_init_234 lf_M_96 rfl ln_M_96 rfl (by decide) (okp_k f57_60) rfl ?_
  have f58_60 := okp_wRs (f := 44) (v := 89) f57_60
  have f58_62 := okp_wR (i := 60) (f := 44) (v := 89) (by decide) f57_62
  have f58_65 := okp_wR (i := 60) (f := 44) (v := 89) (by decide) f57_65
  have n58 := nx_wR (i := 60) (f := 44) (v := 89) n57
  refine e_aload_n dX11_init_237 rfl ?_
  refine e_bipush dX11_init_238 (v := 6) (by decide) ?_
  refine k_newa (a := 90) (N := 6) n58 dX11_init_240 (Or.inr (Or.inl ⟨rfl, rfl⟩)) lw_aint (by decide) (by decide) (by decide) ?_
  have f59_60 := okp_mk (k := 12) (n := 6) f58_60
  have f59_62 := okp_mk (k := 12) (n := 6) f58_62
  have f59_65 := okp_mk (k := 12) (n := 6) f58_65
  have n59 := nx_mk (k := 12) (n := 6) n58
  refine e_putRF dX11_init_242 lf_M_99 rfl ln_M_99 rfl (by decide) (okp_k f59_60) rfl ?_
  have f60_60 := okp_wRs (f := 45) (v := 90) f59_60
  have f60_62 := okp_wR (i := 60) (f := 45) (v := 90) (by decide) f59_62
  have f60_65 := okp_wR (i := 60) (f := 45) (v := 90) (by decide) f59_65
  have n60 := nx_wR (i := 60) (f := 45) (v := 90) n59
  refine e_iconst dX11_init_245 (v := 0) (by decide) ?_
  refine e_istore_n dX11_init_246 (by decide) (LS1 := [_, _]) rfl ?_
  refine e_iload_n dX11_init_247 rfl ?_
  refine e_bipush dX11_init_248 (v := 6) (by decide) ?_
  refine k_lt dX11_init_250 (tgt := 266) (by decide) (by decide) ?_
  refine e_aload_n dX11_init_253 rfl ?_
  refine e_getR (r := 62) dX11_init_254 lf_M_13 rfl (by decide) (okp_k f60_60) (okp_r f60_60 rfl) ?_
  refine e_iload_n dX11_init_257 rfl ?_
  refine e_iconst dX11_init_258 (v := (-1)) (by decide) ?_
  refine e_iastC (jn := 0) dX11_init_259 f60_62.2.1 (by decide) (by decide) ?_
  have f61_60 := okp_wI (i := 62) (f := 0) (v := (-1)) f60_60
  have f61_62 := okp_wI (i := 62) (f := 0) (v := (-1)) f60_62
  have f61_65 := okp_wI (i := 62) (f := 0) (v := (-1)) f60_65
  have n61 := nx_wI (i := 62) (f := 0) (v := (-1)) n60
  refine e_iinc dX11_init_260 rfl (v := 1) (by decide) (by decide) (LS1 := [_, _]) rfl ?_
  refine e_goto dX11_init_263 (tgt := 247) (by decide) ?_
  refine e_iload_n dX11_init_247 rfl ?_
  refine e_bipush dX11_init_248 (v := 6) (by decide) ?_
  refine k_lt dX11_init_250 (tgt := 266) (by decide) (by decide) ?_
  refine e_aload_n dX11_init_253 rfl ?_
  refine e_getR (r := 62) dX11_init_254 lf_M_13 rfl (by decide) (okp_k f61_60) (okp_r f61_60 rfl) ?_
  refine e_iload_n dX11_init_257 rfl ?_
  refine e_iconst dX11_init_258 (v := (-1)) (by decide) ?_
  refine e_iastC (jn := 1) dX11_init_259 f61_62.2.1 (by decide) (by decide) ?_
  have f62_60 := okp_wI (i := 62) (f := 1) (v := (-1)) f61_60
  have f62_62 := okp_wI (i := 62) (f := 1) (v := (-1)) f61_62
  have f62_65 := okp_wI (i := 62) (f := 1) (v := (-1)) f61_65
  have n62 := nx_wI (i := 62) (f := 1) (v := (-1)) n61
  refine e_iinc dX11_init_260 rfl (v := 2) (by decide) (by decide) (LS1 := [_, _]) rfl ?_
  refine e_goto dX11_init_263 (tgt := 247) (by decide) ?_
  refine e_iload_n dX11_init_247 rfl ?_
  refine e_bipush dX11_init_248 (v := 6) (by decide) ?_
  refine k_lt dX11_init_250 (tgt := 266) (by decide) (by decide) ?_
  refine e_aload_n dX11_init_253 rfl ?_
  refine e_getR (r := 62) dX11_init_254 lf_M_13 rfl (by decide) (okp_k f62_60) (okp_r f62_60 rfl) ?_
  refine e_iload_n dX11_init_257 rfl ?_
  refine e_iconst dX11_init_258 (v := (-1)) (by decide) ?_
  refine e_iastC (jn := 2) dX11_init_259 f62_62.2.1 (by decide) (by decide) ?_
  have f63_60 := okp_wI (i := 62) (f := 2) (v := (-1)) f62_60
  have f63_62 := okp_wI (i := 62) (f := 2) (v := (-1)) f62_62
  have f63_65 := okp_wI (i := 62) (f := 2) (v := (-1)) f62_65
  have n63 := nx_wI (i := 62) (f := 2) (v := (-1)) n62
  refine e_iinc dX11_init_260 rfl (v := 3) (by decide) (by decide) (LS1 := [_, _]) rfl ?_
  refine e_goto dX11_init_263 (tgt := 247) (by decide) ?_
  refine e_iload_n dX11_init_247 rfl ?_
  refine e_bipush dX11_init_248 (v := 6) (by decide) ?_
  refine k_lt dX11_init_250 (tgt := 266) (by decide) (by decide) ?_
  refine e_aload_n dX11_init_253 rfl ?_
  refine e_getR (r := 62) dX11_init_254 lf_M_13 rfl (by decide) (okp_k f63_60) (okp_r f63_60 rfl) ?_
  refine e_iload_n dX11_init_257 rfl ?_
  refine e_iconst dX11_init_258 (v := (-1)) (by decide) ?_
  refine e_iastC (jn := 3) dX11_init_259 f63_62.2.1 (by decide) (by decide) ?_
  have f64_60 := okp_wI (i := 62) (f := 3) (v := (-1)) f63_60
  have f64_62 := okp_wI (i := 62) (f := 3) (v := (-1)) f63_62
  have f64_65 := okp_wI (i := 62) (f := 3) (v := (-1)) f63_65
  have n64 := nx_wI (i := 62) (f := 3) (v := (-1)) n63
  refine e_iinc dX11_init_260 rfl (v := 4) (by decide) (by decide) (LS1 := [_, _]) rfl ?_
  refine e_goto dX11_init_263 (tgt := 247) (by decide) ?_
  refine e_iload_n dX11_init_247 rfl ?_
  refine e_bipush dX11_init_248 (v := 6) (by decide) ?_
  refine k_lt dX11_init_250 (tgt := 266) (by decide) (by decide) ?_
  refine e_aload_n dX11_init_253 rfl ?_
  refine e_getR (r := 62) dX11_init_254 lf_M_13 rfl (by decide) (okp_k f64_60) (okp_r f64_60 rfl) ?_
  refine e_iload_n dX11_init_257 rfl ?_
  refine e_iconst dX11_init_258 (v := (-1)) (by decide) ?_
  refine e_iastC (jn := 4) dX11_init_259 f64_62.2.1 (by decide) (by decide) ?_
  have f65_60 := okp_wI (i := 62) (f := 4) (v := (-1)) f64_60
  have f65_62 := okp_wI (i := 62) (f := 4) (v := (-1)) f64_62
  have f65_65 := okp_wI (i := 62) (f := 4) (v := (-1)) f64_65
  have n65 := nx_wI (i := 62) (f := 4) (v := (-1)) n64
  refine e_iinc dX11_init_260 rfl (v := 5) (by decide) (by decide) (LS1 := [_, _]) rfl ?_
  refine e_goto dX11_init_263 (tgt := 247) (by decide) ?_
  refine e_iload_n dX11_init_247 rfl ?_
  refine e_bipush dX11_init_248 (v := 6) (by decide) ?_
  refine k_lt dX11_init_250 (tgt := 266) (by decide) (by decide) ?_
  refine e_aload_n dX11_init_253 rfl ?_
  refine e_getR (r := 62) dX11_init_254 lf_M_13 rfl (by decide) (okp_k f65_60) (okp_r f65_60 rfl) ?_
  refine e_iload_n dX11_init_257 rfl ?_
  refine e_iconst dX11_init_258 (v := (-1)) (by decide) ?_
  refine e_iastC (jn := 5) dX11_init_259 f65_62.2.1 (by decide) (by decide) ?_
  have f66_60 := okp_wI (i := 62) (f := 5) (v := (-1)) f65_60
  have f66_62 := okp_wI (i := 62) (f := 5) (v := (-1)) f65_62
  have f66_65 := okp_wI (i := 62) (f := 5) (v := (-1)) f65_65
  have n66 := nx_wI (i := 62) (f := 5) (v := (-1)) n65
  refine e_iinc dX11_init_260 rfl (v := 6) (by decide) (by decide) (LS1 := [_, _]) rfl ?_
  refine e_goto dX11_init_263 (tgt := 247) (by decide) ?_
  refine e_iload_n dX11_init_247 rfl ?_
  refine e_bipush dX11_init_248 (v := 6) (by decide) ?_
  refine k_ge dX11_init_250 (tgt := 266) (by decide) (by decide) ?_
  refine e_iconst dX11_init_266 (v := 0) (by decide) ?_
  refine e_istore_n dX11_init_267 (by decide) (LS1 := [_, _]) rfl ?_
  refine e_iload_n dX11_init_268 rfl ?_
  refine e_iconst dX11_init_269 (v := 4) (by decide) ?_
  refine k_lt dX11_init_270 (tgt := 286) (by decide) (by decide) ?_
  refine e_aload_n dX11_init_273 rfl ?_
  refine e_getR (r := 65) dX11_init_274 lf_M_22 rfl (by decide) (okp_k f66_60) (okp_r f66_60 rfl) ?_
  refine e_iload_n dX11_init_277 rfl ?_
  refine e_iconst dX11_init_278 (v := (-1)) (by decide) ?_
  refine e_iastC (jn := 0) dX11_init_279 f66_65.2.1 (by decide) (by decide) ?_
  have f67_60 := okp_wI (i := 65) (f := 0) (v := (-1)) f66_60
  have f67_62 := okp_wI (i := 65) (f := 0) (v := (-1)) f66_62
  have f67_65 := okp_wI (i := 65) (f := 0) (v := (-1)) f66_65
  have n67 := nx_wI (i := 65) (f := 0) (v := (-1)) n66
  refine e_iinc dX11_init_280 rfl (v := 1) (by decide) (by decide) (LS1 := [_, _]) rfl ?_
  refine e_goto dX11_init_283 (tgt := 268) (by decide) ?_
  refine e_iload_n dX11_init_268 rfl ?_
  refine e_iconst dX11_init_269 (v := 4) (by decide) ?_
  refine k_lt dX11_init_270 (tgt := 286) (by decide) (by decide) ?_
  refine e_aload_n dX11_init_273 rfl ?_
  refine e_getR (r := 65) dX11_init_274 lf_M_22 rfl (by decide) (okp_k f67_60) (okp_r f67_60 rfl) ?_
  refine e_iload_n dX11_init_277 rfl ?_
  refine e_iconst dX11_init_278 (v := (-1)) (by decide) ?_
  refine e_iastC (jn := 1) dX11_init_279 f67_65.2.1 (by decide) (by decide) ?_
  have f68_60 := okp_wI (i := 65) (f := 1) (v := (-1)) f67_60
  have f68_62 := okp_wI (i := 65) (f := 1) (v := (-1)) f67_62
  have f68_65 := okp_wI (i := 65) (f := 1) (v := (-1)) f67_65
  have n68 := nx_wI (i := 65) (f := 1) (v := (-1)) n67
  refine e_iinc dX11_init_280 rfl (v := 2) (by decide) (by decide) (LS1 := [_, _]) rfl ?_
  refine e_goto dX11_init_283 (tgt := 268) (by decide) ?_
  refine e_iload_n dX11_init_268 rfl ?_
  refine e_iconst dX11_init_269 (v := 4) (by decide) ?_
  refine k_lt dX11_init_270 (tgt := 286) (by decide) (by decide) ?_
  refine e_aload_n dX11_init_273 rfl ?_
  refine e_getR (r := 65) dX11_init_274 lf_M_22 rfl (by decide) (okp_k f68_60) (okp_r f68_60 rfl) ?_
  refine e_iload_n dX11_init_277 rfl ?_
  refine e_iconst dX11_init_278 (v := (-1)) (by decide) ?_
  refine e_iastC (jn := 2) dX11_init_279 f68_65.2.1 (by decide) (by decide) ?_
  have f69_60 := okp_wI (i := 65) (f := 2) (v := (-1)) f68_60
  have f69_62 := okp_wI (i := 65) (f := 2) (v := (-1)) f68_62
  have f69_65 := okp_wI (i := 65) (f := 2) (v := (-1)) f68_65
  have n69 := nx_wI (i := 65) (f := 2) (v := (-1)) n68
  refine e_iinc dX11_init_280 rfl (v := 3) (by decide) (by decide) (LS1 := [_, _]) rfl ?_
  refine e_goto dX11_init_283 (tgt := 268) (by decide) ?_
  refine e_iload_n dX11_init_268 rfl ?_
  refine e_iconst dX11_init_269 (v := 4) (by decide) ?_
  refine k_lt dX11_init_270 (tgt := 286) (by decide) (by decide) ?_
  refine e_aload_n dX11_init_273 rfl ?_
  refine e_getR (r := 65) dX11_init_274 lf_M_22 rfl (by decide) (okp_k f69_60) (okp_r f69_60 rfl) ?_
  refine e_iload_n dX11_init_277 rfl ?_
  refine e_iconst dX11_init_278 (v := (-1)) (by decide) ?_
  refine e_iastC (jn := 3) dX11_init_279 f69_65.2.1 (by decide) (by decide) ?_
  have f70_60 := okp_wI (i := 65) (f := 3) (v := (-1)) f69_60
  have f70_62 := okp_wI (i := 65) (f := 3) (v := (-1)) f69_62
  have f70_65 := okp_wI (i := 65) (f := 3) (v := (-1)) f69_65
  have n70 := nx_wI (i := 65) (f := 3) (v := (-1)) n69
  refine e_iinc dX11_init_280 rfl (v := 4) (by decide) (by decide) (LS1 := [_, _]) rfl ?_
  refine e_goto dX11_init_283 (tgt := 268) (by decide) ?_
  refine e_iload_n dX11_init_268 rfl ?_
  refine e_iconst dX11_init_269 (v := 4) (by decide) ?_
  refine k_ge dX11_init_270 (tgt := 286) (by decide) (by decide) ?_
  exact am_end rfl ⟨dX11_init_286, rfl⟩
