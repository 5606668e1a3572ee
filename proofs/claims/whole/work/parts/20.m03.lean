def f_X10_isJar (pl : Nat) (a1 : Int32) (u : am_U) : Option (Int32) :=
  (f_X10_isWithin a1 0 ((u pl 2) - 1)).bind (fun q1 =>
  am_ck (q1 == 0 || q1 == 1) (some q1))
set_option maxRecDepth 100000 in
set_option maxHeartbeats 4000000 in
theorem s_X10_isJar {l : Launch} {g : am_G} {B : am_M} {pl : Nat} (hL : am_Lay B pl) (a1 : Int32)  (u : am_U) : am_E l g d_X10_isJar 0 (am_ent d_X10_isJar [.ref (4), .int (a1)]) [] (am_of B u) (am_r (am_bP B u) (f_X10_isJar pl a1 u)) := by
  unfold f_X10_isJar
  show am_E l g d_X10_isJar 0 [some (.ref (4)), some (.int (a1))] [] (am_of B u) _
  refine e_iload_n dX10_isJar_0 rfl ?_
  refine e_iconst dX10_isJar_1 (v := 0) (by decide) ?_
  refine e_aload_n dX10_isJar_2 rfl ?_
  refine q_getR (r := pl) dX10_isJar_3 lf_N_72 rfl (by decide) (am_Lk hL rfl) (am_Lpl hL) ?_
  refine q_getI dX10_isJar_6 lf_N_144 (by decide) (congrArg Prod.fst (am_pln hL).1) ?_
  refine e_iconst dX10_isJar_9 (v := 1) (by decide) ?_
  refine e_isub dX10_isJar_10 ?_
  refine q_callSP (As := [_, _, _]) rfl dX10_isJar_11 lm_N_86 (am_fitB rfl) yo_X10_isWithin ys_X10_isWithin rfl (Nat.le_of_ble_eq_true rfl) (Nat.le_of_ble_eq_true rfl) (s_X10_isWithin hL _ _ _  _) (fun q1 => ?_)
  exact e_zretq dX10_isJar_14 rfl rfl

def f_X10_isPlace (a0 : Int32) : Option (Int32) :=
  (f_X10_isWithin a0 0 4).bind (fun q1 =>
  am_ck (q1 == 0 || q1 == 1) (some q1))
set_option maxRecDepth 100000 in
set_option maxHeartbeats 4000000 in
theorem s_X10_isPlace {l : Launch} {g : am_G} {B : am_M} {pl : Nat} (hL : am_Lay B pl) (a0 : Int32)  (u : am_U) : am_E l g d_X10_isPlace 0 (am_ent d_X10_isPlace [.int (a0)]) [] (am_of B u) (am_r (am_bP B u) (f_X10_isPlace a0)) := by
  unfold f_X10_isPlace
  show am_E l g d_X10_isPlace 0 [some (.int (a0))] [] (am_of B u) _
  refine e_iload_n dX10_isPlace_0 rfl ?_
  refine e_iconst dX10_isPlace_1 (v := 0) (by decide) ?_
  refine e_iconst dX10_isPlace_2 (v := 4) (by decide) ?_
  refine q_callSP (As := [_, _, _]) rfl dX10_isPlace_3 lm_N_86 (am_fitB rfl) yo_X10_isWithin ys_X10_isWithin rfl (Nat.le_of_ble_eq_true rfl) (Nat.le_of_ble_eq_true rfl) (s_X10_isWithin hL _ _ _  _) (fun q1 => ?_)
  exact e_zretq dX10_isPlace_6 rfl rfl

def f_X10_lower (pl : Nat) (u : am_U) : Option (Int64) :=
  if ¬ (u pl 2) = 0 then (
    (f_X5_allSizes pl u).bind (fun q1 =>
    (f_X10_allLight pl u).bind (fun q2 =>
    (f_X5_allSizes pl u).bind (fun q3 =>
    (f_X10_commonDivisor q2 q3).bind (fun q4 =>
    am_ck (!(q4 == 0)) (
    some ((q1 / q4).toInt64)))))))
  else (
    some (1 : Int64))
set_option maxRecDepth 100000 in
set_option maxHeartbeats 4000000 in
theorem s_X10_lower {l : Launch} {g : am_G} {B : am_M} {pl : Nat} (hL : am_Lay B pl)   (u : am_U) : am_E l g d_X10_lower 0 (am_ent d_X10_lower [.ref (4)]) [] (am_of B u) (am_r (am_bN B u) (f_X10_lower pl u)) := by
  unfold f_X10_lower
  show am_E l g d_X10_lower 0 [some (.ref (4))] [] (am_of B u) _
  refine e_aload_n dX10_lower_0 rfl ?_
  refine q_getR (r := pl) dX10_lower_1 lf_N_72 rfl (by decide) (am_Lk hL rfl) (am_Lpl hL) ?_
  refine q_getI dX10_lower_4 lf_N_144 (by decide) (congrArg Prod.fst (am_pln hL).1) ?_
  refine e_if_ne dX10_lower_7 (tgt := 14) (by decide) ?_ ?_
  · refine e_aload_n dX10_lower_14 rfl ?_
    refine q_getR (r := pl) dX10_lower_15 lf_N_72 rfl (by decide) (am_Lk hL rfl) (am_Lpl hL) ?_
    refine q_callVP (As := []) rfl dX10_lower_18 lm_N_345 (am_fitB rfl) yo_X5_allSizes ys_X5_allSizes rfl rfl (by decide) (congrArg Prod.fst (am_pln hL).1) rfl (Nat.le_of_ble_eq_true rfl) (Nat.le_of_ble_eq_true rfl) (s_X5_allSizes hL _ (am_pln hL) _) (fun q1 => ?_)
    refine e_aload_n dX10_lower_21 rfl ?_
    refine q_callVP (As := []) rfl dX10_lower_22 lm_N_342 (am_fitB rfl) yo_X10_allLight ys_X10_allLight rfl rfl (by decide) (am_Lk hL rfl) rfl (Nat.le_of_ble_eq_true rfl) (Nat.le_of_ble_eq_true rfl) (s_X10_allLight hL   _) (fun q2 => ?_)
    refine e_aload_n dX10_lower_25 rfl ?_
    refine q_getR (r := pl) dX10_lower_26 lf_N_72 rfl (by decide) (am_Lk hL rfl) (am_Lpl hL) ?_
    refine q_callVP (As := []) rfl dX10_lower_29 lm_N_345 (am_fitB rfl) yo_X5_allSizes ys_X5_allSizes rfl rfl (by decide) (congrArg Prod.fst (am_pln hL).1) rfl (Nat.le_of_ble_eq_true rfl) (Nat.le_of_ble_eq_true rfl) (s_X5_allSizes hL _ (am_pln hL) _) (fun q3 => ?_)
    refine q_callSP (As := [_, _]) rfl dX10_lower_32 lm_N_348 (am_fitB rfl) yo_X10_commonDivisor ys_X10_commonDivisor rfl (Nat.le_of_ble_eq_true rfl) (Nat.le_of_ble_eq_true rfl) (s_X10_commonDivisor hL _ _  _) (fun q4 => ?_)
    refine e_divq dX10_lower_35 ?_
    refine e_i2l dX10_lower_36 ?_
    exact e_lret dX10_lower_37 rfl rfl
  · refine e_lconst dX10_lower_10 (v := 1) (by decide) ?_
    refine e_goto dX10_lower_11 (tgt := 37) (by decide) ?_
    exact e_lret dX10_lower_37 rfl rfl

def f_X10_placeTells (pl : Nat) (a1 : Int32) (a2 : Int32) (u : am_U) : Option (Int32) :=
  if a2 = 0 then (
    am_ck (am_ix a1 5) (
    some (u (pl + 2) a1.toNatClampNeg)))
  else   if a2 = 1 then (
    am_ck (am_ix a1 5) (
    some (u 12 a1.toNatClampNeg)))
  else   if a2 = 2 then (
    am_ck (am_ix a1 5) (
    some (u 13 a1.toNatClampNeg)))
  else (
    (f_X10_lightAt pl a1 u).bind (fun q4 =>
    some q4))
set_option maxRecDepth 100000 in
set_option maxHeartbeats 4000000 in
theorem s_X10_placeTells {l : Launch} {g : am_G} {B : am_M} {pl : Nat} (hL : am_Lay B pl) (a1 : Int32) (a2 : Int32)  (u : am_U) : am_E l g d_X10_placeTells 0 (am_ent d_X10_placeTells [.ref (4), .int (a1), .int (a2)]) [] (am_of B u) (am_r (am_bP B u) (f_X10_placeTells pl a1 a2 u)) := by
  unfold f_X10_placeTells
  show am_E l g d_X10_placeTells 0 [some (.ref (4)), some (.int (a1)), some (.int (a2))] [] (am_of B u) _
  refine e_iload_n dX10_placeTells_0 rfl ?_
  refine e_sw (c := 0) (fun hc => ?_) (fun hn0 => ?_)
  · subst hc
    refine e_tabIn dX10_placeTells_1 (tgt := 28) (by decide) (by decide) rfl (by decide) ?_
    refine e_aload_n dX10_placeTells_28 rfl ?_
    refine q_getR (r := pl) dX10_placeTells_29 lf_N_72 rfl (by decide) (am_Lk hL rfl) (am_Lpl hL) ?_
    refine q_getR (r := pl + 2) dX10_placeTells_32 lf_N_262 rfl (by decide) (congrArg Prod.fst (am_pln hL).1) (am_avs (am_pln hL).2.1.2.1) ?_
    refine e_iload_n dX10_placeTells_35 rfl ?_
    refine q_ialdH dX10_placeTells_36 (am_pln hL).2.2.2.1 (fun i1 => ?_)
    exact e_iret dX10_placeTells_37 rfl rfl
  refine e_sw (c := 1) (fun hc => ?_) (fun hn1 => ?_)
  · subst hc
    refine e_tabIn dX10_placeTells_1 (tgt := 38) (by decide) (by decide) rfl (by decide) ?_
    refine e_aload_n dX10_placeTells_38 rfl ?_
    refine q_getR (r := 8) dX10_placeTells_39 lf_N_28 rfl (by decide) (am_Lk hL rfl) (am_Lr hL rfl) ?_
    refine q_getR (r := 12) dX10_placeTells_42 lf_N_212 rfl (by decide) (am_Lk hL rfl) (am_Lr hL rfl) ?_
    refine e_iload_n dX10_placeTells_45 rfl ?_
    refine q_ialdH dX10_placeTells_46 (am_Ls hL rfl) (fun i2 => ?_)
    exact e_iret dX10_placeTells_47 rfl rfl
  refine e_sw (c := 2) (fun hc => ?_) (fun hn2 => ?_)
  · subst hc
    refine e_tabIn dX10_placeTells_1 (tgt := 48) (by decide) (by decide) rfl (by decide) ?_
    refine e_aload_n dX10_placeTells_48 rfl ?_
    refine q_getR (r := 8) dX10_placeTells_49 lf_N_28 rfl (by decide) (am_Lk hL rfl) (am_Lr hL rfl) ?_
    refine q_getR (r := 13) dX10_placeTells_52 lf_N_383 rfl (by decide) (am_Lk hL rfl) (am_Lr hL rfl) ?_
    refine e_iload_n dX10_placeTells_55 rfl ?_
    refine q_ialdH dX10_placeTells_56 (am_Ls hL rfl) (fun i3 => ?_)
    exact e_iret dX10_placeTells_57 rfl rfl
  have hm0 := lv_neT hn0 (show (0 : Int32).toInt = 0 by decide)
  have hm1 := lv_neT hn1 (show (1 : Int32).toInt = 1 by decide)
  have hm2 := lv_neT hn2 (show (2 : Int32).toInt = 2 by decide)
  refine e_tabOut dX10_placeTells_1 (tgt := 58) (by omega) (by decide) ?_
  refine e_aload_n dX10_placeTells_58 rfl ?_
  refine e_iload_n dX10_placeTells_59 rfl ?_
  refine q_callVP (As := [_]) rfl dX10_placeTells_60 lm_N_386 (am_fitB rfl) yo_X10_lightAt ys_X10_lightAt rfl rfl (by decide) (am_Lk hL rfl) rfl (Nat.le_of_ble_eq_true rfl) (Nat.le_of_ble_eq_true rfl) (s_X10_lightAt hL _  _) (fun q4 => ?_)
  exact e_iret dX10_placeTells_63 rfl rfl

def f_X10_refuseRow (a1 : Nat) (a2 : Int32) (u : am_U) : Option (Int32 × am_U) :=
  (f_X10_isWithin a2 0 ((nI (am_rln a1)) - 1)).bind (fun q1 =>
  if ¬ q1 = 0 then (
    am_ck (am_ix a2 (am_rln a1)) (
    (f_X8_isThere (am_rid a1 a2.toNatClampNeg) u).bind (fun q3 =>
    if q3 = 0 then (
      (f_X10_find 1 u).bind (fun q4 =>
      some (q4.1, q4.2)))
    else (
      some (0, u)))))
  else (
    some (((-1) : Int32), u)))
set_option maxRecDepth 100000 in
set_option maxHeartbeats 4000000 in
theorem s_X10_refuseRow {l : Launch} {g : am_G} {B : am_M} {pl : Nat} (hL : am_Lay B pl) (a1 : Nat) (a2 : Int32) (h1 : am_isRows B a1) (u : am_U) : am_E l g d_X10_refuseRow 0 (am_ent d_X10_refuseRow [.ref (4), .ref (a1), .int (a2)]) [] (am_of B u) (am_r (am_bI B) (f_X10_refuseRow a1 a2 u)) := by
  unfold f_X10_refuseRow
  show am_E l g d_X10_refuseRow 0 [some (.ref (4)), some (.ref (a1)), some (.int (a2))] [] (am_of B u) _
  refine e_iload_n dX10_refuseRow_0 rfl ?_
  refine e_iconst dX10_refuseRow_1 (v := 0) (by decide) ?_
  refine e_aload_n dX10_refuseRow_2 rfl ?_
  refine q_alen (v := nI (am_rln a1)) dX10_refuseRow_3 h1.1 (by decide) rfl ?_
  refine e_iconst dX10_refuseRow_4 (v := 1) (by decide) ?_
  refine e_isub dX10_refuseRow_5 ?_
  refine q_callSP (As := [_, _, _]) rfl dX10_refuseRow_6 lm_N_86 (am_fitB rfl) yo_X10_isWithin ys_X10_isWithin rfl (Nat.le_of_ble_eq_true rfl) (Nat.le_of_ble_eq_true rfl) (s_X10_isWithin hL _ _ _  _) (fun q1 => ?_)
  refine e_if_ne dX10_refuseRow_9 (tgt := 14) (by decide) ?_ ?_
  · refine e_aload_n dX10_refuseRow_14 rfl ?_
    refine e_iload_n dX10_refuseRow_15 rfl ?_
    refine q_aald (n := am_rln a1) (rid := am_rid a1 a2.toNatClampNeg) dX10_refuseRow_16 h1.1 (fun h => (h1.2 _ h).1) (fun i2 => ?_)
    refine q_callVP (As := []) rfl dX10_refuseRow_17 lm_N_117 (am_fitB rfl) yo_X8_isThere ys_X8_isThere rfl rfl (by decide) (congrArg Prod.fst (h1.2 _ i2).2.1) rfl (Nat.le_of_ble_eq_true rfl) (Nat.le_of_ble_eq_true rfl) (s_X8_isThere hL _ (h1.2 _ i2).2 _) (fun q3 => ?_)
    refine e_if_eq dX10_refuseRow_20 (tgt := 27) (by decide) ?_ ?_
    · refine e_aload_n dX10_refuseRow_27 rfl ?_
      refine e_iconst dX10_refuseRow_28 (v := 1) (by decide) ?_
      refine q_callVI (As := [_]) rfl dX10_refuseRow_29 lm_N_113 (am_fitB rfl) yo_X10_find ys_X10_find rfl rfl (by decide) (am_Lk hL rfl) rfl (Nat.le_of_ble_eq_true rfl) (Nat.le_of_ble_eq_true rfl) (s_X10_find hL _  _) (fun q4 => ?_)
      exact e_iret dX10_refuseRow_32 rfl rfl
    · refine e_iconst dX10_refuseRow_23 (v := 0) (by decide) ?_
      refine e_goto dX10_refuseRow_24 (tgt := 32) (by decide) ?_
      exact e_iret dX10_refuseRow_32 rfl rfl
  · refine e_iconst dX10_refuseRow_12 (v := ((-1) : Int32)) (by decide) ?_
    exact e_iret dX10_refuseRow_13 rfl rfl

def f_X10_sun (pl : Nat) (a1 : Int32) (u : am_U) : Option (Int32) :=
  (f_X10_isWithin a1 0 999).bind (fun q1 =>
  if ¬ q1 = 0 then (
    (f_X5_isBright pl a1 u).bind (fun q2 =>
    if q2 = 0 then (
      some 0)
    else (
      some 1)))
  else (
    some ((-1) : Int32)))
set_option maxRecDepth 100000 in
set_option maxHeartbeats 4000000 in
theorem s_X10_sun {l : Launch} {g : am_G} {B : am_M} {pl : Nat} (hL : am_Lay B pl) (a1 : Int32)  (u : am_U) : am_E l g d_X10_sun 0 (am_ent d_X10_sun [.ref (4), .int (a1)]) [] (am_of B u) (am_r (am_bP B u) (f_X10_sun pl a1 u)) := by
  unfold f_X10_sun
  show am_E l g d_X10_sun 0 [some (.ref (4)), some (.int (a1))] [] (am_of B u) _
  refine e_iload_n dX10_sun_0 rfl ?_
  refine e_iconst dX10_sun_1 (v := 0) (by decide) ?_
  refine e_sipush dX10_sun_2 (v := 999) (by decide) ?_
  refine q_callSP (As := [_, _, _]) rfl dX10_sun_5 lm_N_86 (am_fitB rfl) yo_X10_isWithin ys_X10_isWithin rfl (Nat.le_of_ble_eq_true rfl) (Nat.le_of_ble_eq_true rfl) (s_X10_isWithin hL _ _ _  _) (fun q1 => ?_)
  refine e_if_ne dX10_sun_8 (tgt := 13) (by decide) ?_ ?_
  · refine e_aload_n dX10_sun_13 rfl ?_
    refine q_getR (r := pl) dX10_sun_14 lf_N_72 rfl (by decide) (am_Lk hL rfl) (am_Lpl hL) ?_
    refine e_iload_n dX10_sun_17 rfl ?_
    refine q_callVP (As := [_]) rfl dX10_sun_18 lm_N_184 (am_fitB rfl) yo_X5_isBright ys_X5_isBright rfl rfl (by decide) (congrArg Prod.fst (am_pln hL).1) rfl (Nat.le_of_ble_eq_true rfl) (Nat.le_of_ble_eq_true rfl) (s_X5_isBright hL _ _ (am_pln hL) _) (fun q2 => ?_)
    refine e_if_eq dX10_sun_21 (tgt := 28) (by decide) ?_ ?_
    · refine e_iconst dX10_sun_28 (v := 0) (by decide) ?_
      exact e_iret dX10_sun_29 rfl rfl
    · refine e_iconst dX10_sun_24 (v := 1) (by decide) ?_
      refine e_goto dX10_sun_25 (tgt := 29) (by decide) ?_
      exact e_iret dX10_sun_29 rfl rfl
  · refine e_iconst dX10_sun_11 (v := ((-1) : Int32)) (by decide) ?_
    exact e_iret dX10_sun_12 rfl rfl

def f_X10_upper (pl : Nat) (u : am_U) : Option (Int64) :=
  if ¬ (u pl 2) = 0 then (
    (f_X10_allLight pl u).bind (fun q1 =>
    (f_X10_allLight pl u).bind (fun q2 =>
    (f_X5_allSizes pl u).bind (fun q3 =>
    (f_X10_commonDivisor q2 q3).bind (fun q4 =>
    am_ck (!(q4 == 0)) (
    some ((q1 / q4).toInt64)))))))
  else (
    some (0 : Int64))
set_option maxRecDepth 100000 in
set_option maxHeartbeats 4000000 in
theorem s_X10_upper {l : Launch} {g : am_G} {B : am_M} {pl : Nat} (hL : am_Lay B pl)   (u : am_U) : am_E l g d_X10_upper 0 (am_ent d_X10_upper [.ref (4)]) [] (am_of B u) (am_r (am_bN B u) (f_X10_upper pl u)) := by
  unfold f_X10_upper
  show am_E l g d_X10_upper 0 [some (.ref (4))] [] (am_of B u) _
  refine e_aload_n dX10_upper_0 rfl ?_
  refine q_getR (r := pl) dX10_upper_1 lf_N_72 rfl (by decide) (am_Lk hL rfl) (am_Lpl hL) ?_
  refine q_getI dX10_upper_4 lf_N_144 (by decide) (congrArg Prod.fst (am_pln hL).1) ?_
  refine e_if_ne dX10_upper_7 (tgt := 14) (by decide) ?_ ?_
  · refine e_aload_n dX10_upper_14 rfl ?_
    refine q_callVP (As := []) rfl dX10_upper_15 lm_N_342 (am_fitB rfl) yo_X10_allLight ys_X10_allLight rfl rfl (by decide) (am_Lk hL rfl) rfl (Nat.le_of_ble_eq_true rfl) (Nat.le_of_ble_eq_true rfl) (s_X10_allLight hL   _) (fun q1 => ?_)
    refine e_aload_n dX10_upper_18 rfl ?_
    refine q_callVP (As := []) rfl dX10_upper_19 lm_N_342 (am_fitB rfl) yo_X10_allLight ys_X10_allLight rfl rfl (by decide) (am_Lk hL rfl) rfl (Nat.le_of_ble_eq_true rfl) (Nat.le_of_ble_eq_true rfl) (s_X10_allLight hL   _) (fun q2 => ?_)
    refine e_aload_n dX10_upper_22 rfl ?_
    refine q_getR (r := pl) dX10_upper_23 lf_N_72 rfl (by decide) (am_Lk hL rfl) (am_Lpl hL) ?_
    refine q_callVP (As := []) rfl dX10_upper_26 lm_N_345 (am_fitB rfl) yo_X5_allSizes ys_X5_allSizes rfl rfl (by decide) (congrArg Prod.fst (am_pln hL).1) rfl (Nat.le_of_ble_eq_true rfl) (Nat.le_of_ble_eq_true rfl) (s_X5_allSizes hL _ (am_pln hL) _) (fun q3 => ?_)
    refine q_callSP (As := [_, _]) rfl dX10_upper_29 lm_N_348 (am_fitB rfl) yo_X10_commonDivisor ys_X10_commonDivisor rfl (Nat.le_of_ble_eq_true rfl) (Nat.le_of_ble_eq_true rfl) (s_X10_commonDivisor hL _ _  _) (fun q4 => ?_)
    refine e_divq dX10_upper_32 ?_
    refine e_i2l dX10_upper_33 ?_
    exact e_lret dX10_upper_34 rfl rfl
  · refine e_lconst dX10_upper_10 (v := 0) (by decide) ?_
    refine e_goto dX10_upper_11 (tgt := 34) (by decide) ?_
    exact e_lret dX10_upper_34 rfl rfl

def f_X11_burns_5 (u : am_U) (v1 : Int32) (v2 : Int32) : Nat → Int32 → Int32 → Option (Int32)
  | 0, _, _ => none
  | n + 1, v3, v4 =>
    if (u 60 12) ≤ v4 then (
      some v3)
    else (
      (f_X11_has v1 v4).bind (fun q1 =>
      if ¬ q1 = 0 then (
        (f_X11_has v2 v4).bind (fun q2 =>
        if q2 = 0 then (
          am_ck (am_ix v4 6) (
          let x4 : Int32 := v3 + (u 70 v4.toNatClampNeg)
          f_X11_burns_5 u v1 v2 n x4 (v4 + 1)))
        else (
          am_ck (am_ix v4 6) (
          let x6 : Int32 := v3 + ((u 70 v4.toNatClampNeg) / 2)
          f_X11_burns_5 u v1 v2 n x6 (v4 + 1)))))
      else (
        f_X11_burns_5 u v1 v2 n (v3 + 0) (v4 + 1))))
def f_X11_burns (a1 : Int32) (a2 : Int32) (u : am_U) : Option (Int32) :=
  f_X11_burns_5 u a1 a2 20000 0 0
set_option maxRecDepth 100000 in
set_option maxHeartbeats 4000000 in
theorem s_X11_burns_5 {l : Launch} {g : am_G} {B : am_M} {pl : Nat} (hL : am_Lay B pl) (u : am_U) (v1 : Int32) (v2 : Int32)    : ∀ (n : Nat) (v3 : Int32) (v4 : Int32), am_E l g d_X11_burns 5 [some (.ref (60)), some (.int (v1)), some (.int (v2)), some (.int (v3)), some (.int (v4))] [] (am_of B u) (am_r (am_bP B u) (f_X11_burns_5 u v1 v2 n v3 v4)) := by
  intro n
  induction n with
  | zero => intro v3 v4; exact am_none
  | succ n ih =>
    intro v3 v4
    unfold f_X11_burns_5
    refine e_iload dX11_burns_5 rfl ?_
    refine e_aload_n dX11_burns_7 rfl ?_
    refine q_getI dX11_burns_8 lf_M_184 (by decide) (am_Lk hL rfl) ?_
    refine e_if2_ge dX11_burns_11 (tgt := 64) (by decide) ?_ ?_
    · refine e_iload_n dX11_burns_64 rfl ?_
      exact e_iret dX11_burns_65 rfl rfl
    · refine e_iload_n dX11_burns_14 rfl ?_
      refine e_iload_n dX11_burns_15 rfl ?_
      refine e_iload dX11_burns_16 rfl ?_
      refine q_callSP (As := [_, _]) rfl dX11_burns_18 lm_M_246 (am_fitB rfl) yo_X11_has ys_X11_has rfl (Nat.le_of_ble_eq_true rfl) (Nat.le_of_ble_eq_true rfl) (s_X11_has hL _ _  _) (fun q1 => ?_)
      refine e_if_ne dX11_burns_21 (tgt := 28) (by decide) ?_ ?_
      · refine e_iload_n dX11_burns_28 rfl ?_
        refine e_iload dX11_burns_29 rfl ?_
        refine q_callSP (As := [_, _]) rfl dX11_burns_31 lm_M_246 (am_fitB rfl) yo_X11_has ys_X11_has rfl (Nat.le_of_ble_eq_true rfl) (Nat.le_of_ble_eq_true rfl) (s_X11_has hL _ _  _) (fun q2 => ?_)
        refine e_if_eq dX11_burns_34 (tgt := 49) (by decide) ?_ ?_
        · refine e_aload_n dX11_burns_49 rfl ?_
          refine q_getR (r := 70) dX11_burns_50 lf_M_38 rfl (by decide) (am_Lk hL rfl) (am_Lr hL rfl) ?_
          refine e_iload dX11_burns_53 rfl ?_
          refine q_ialdH dX11_burns_55 (am_Ls hL rfl) (fun i3 => ?_)
          refine e_iadd dX11_burns_56 ?_
          refine e_istore_n dX11_burns_57 (by decide) (LS1 := [_, _, _, _, _]) rfl ?_
          refine e_iinc dX11_burns_58 rfl (v := _ + 1) rfl (by decide) (LS1 := [_, _, _, _, _]) rfl ?_
          refine e_goto dX11_burns_61 (tgt := 5) (by decide) ?_
          exact ih (v3 + (u 70 v4.toNatClampNeg)) (v4 + 1)
        · refine e_aload_n dX11_burns_37 rfl ?_
          refine q_getR (r := 70) dX11_burns_38 lf_M_38 rfl (by decide) (am_Lk hL rfl) (am_Lr hL rfl) ?_
          refine e_iload dX11_burns_41 rfl ?_
          refine q_ialdH dX11_burns_43 (am_Ls hL rfl) (fun i5 => ?_)
          refine e_iconst dX11_burns_44 (v := 2) (by decide) ?_
          refine e_idiv dX11_burns_45 (by decide) ?_
          refine e_goto dX11_burns_46 (tgt := 56) (by decide) ?_
          refine e_iadd dX11_burns_56 ?_
          refine e_istore_n dX11_burns_57 (by decide) (LS1 := [_, _, _, _, _]) rfl ?_
          refine e_iinc dX11_burns_58 rfl (v := _ + 1) rfl (by decide) (LS1 := [_, _, _, _, _]) rfl ?_
          refine e_goto dX11_burns_61 (tgt := 5) (by decide) ?_
          exact ih (v3 + ((u 70 v4.toNatClampNeg) / 2)) (v4 + 1)
      · refine e_iconst dX11_burns_24 (v := 0) (by decide) ?_
        refine e_goto dX11_burns_25 (tgt := 56) (by decide) ?_
        refine e_iadd dX11_burns_56 ?_
        refine e_istore_n dX11_burns_57 (by decide) (LS1 := [_, _, _, _, _]) rfl ?_
        refine e_iinc dX11_burns_58 rfl (v := _ + 1) rfl (by decide) (LS1 := [_, _, _, _, _]) rfl ?_
        refine e_goto dX11_burns_61 (tgt := 5) (by decide) ?_
        exact ih (v3 + 0) (v4 + 1)

set_option maxRecDepth 100000 in
set_option maxHeartbeats 4000000 in
theorem s_X11_burns {l : Launch} {g : am_G} {B : am_M} {pl : Nat} (hL : am_Lay B pl) (a1 : Int32) (a2 : Int32)  (u : am_U) : am_E l g d_X11_burns 0 (am_ent d_X11_burns [.ref (60), .int (a1), .int (a2)]) [] (am_of B u) (am_r (am_bP B u) (f_X11_burns a1 a2 u)) := by
  unfold f_X11_burns
  show am_E l g d_X11_burns 0 [some (.ref (60)), some (.int (a1)), some (.int (a2)), none, none] [] (am_of B u) _
  refine e_iconst dX11_burns_0 (v := 0) (by decide) ?_
  refine e_istore_n dX11_burns_1 (by decide) (LS1 := [_, _, _, _, none]) rfl ?_
  refine e_iconst dX11_burns_2 (v := 0) (by decide) ?_
  refine e_istore dX11_burns_3 (by decide) (LS1 := [_, _, _, _, _]) rfl ?_
  refine s_X11_burns_5 hL _ _ _ _ _ _

def f_X11_burnt (a1 : Int32) (a2 : Int32) (u : am_U) : Option (Int32 × am_U) :=
  (f_X11_in a1 1 ((1 <<< ((u 60 12) &&& 31)) - 1)).bind (fun q1 =>
  if q1 = 0 then (
    some (((-1) : Int32), u))
  else (
    (f_X11_in a2 0 120).bind (fun q2 =>
    if ¬ q2 = 0 then (
      if ¬ (u 60 40) = 8 then (
        am_ck (am_ix (u 60 40) 8) (
        let u3 : am_U := am_w u 86 (u 60 40).toNatClampNeg a1
        am_ck (am_ix (u3 60 40) 8) (
        let u5 : am_U := am_w u3 87 (u3 60 40).toNatClampNeg a2
        let u7 : am_U := am_w u5 60 40 ((u5 60 40) + 1)
        some ((u7 60 40) - 1, u7))))
      else (
        some (((-2) : Int32), u)))
    else (
      some (((-1) : Int32), u)))))
set_option maxRecDepth 100000 in
set_option maxHeartbeats 4000000 in
theorem s_X11_burnt {l : Launch} {g : am_G} {B : am_M} {pl : Nat} (hL : am_Lay B pl) (a1 : Int32) (a2 : Int32)  (u : am_U) : am_E l g d_X11_burnt 0 (am_ent d_X11_burnt [.ref (60), .int (a1), .int (a2)]) [] (am_of B u) (am_r (am_bI B) (f_X11_burnt a1 a2 u)) := by
  unfold f_X11_burnt
  show am_E l g d_X11_burnt 0 [some (.ref (60)), some (.int (a1)), some (.int (a2))] [] (am_of B u) _
  refine e_iload_n dX11_burnt_0 rfl ?_
  refine e_iconst dX11_burnt_1 (v := 1) (by decide) ?_
  refine e_iconst dX11_burnt_2 (v := 1) (by decide) ?_
  refine e_aload_n dX11_burnt_3 rfl ?_
  refine q_getI dX11_burnt_4 lf_M_184 (by decide) (am_Lk hL rfl) ?_
  refine e_ishl dX11_burnt_7 ?_
  refine e_iconst dX11_burnt_8 (v := 1) (by decide) ?_
  refine e_isub dX11_burnt_9 ?_
  refine q_callSP (As := [_, _, _]) rfl dX11_burnt_10 lm_M_106 (am_fitB rfl) yo_X11_in ys_X11_in rfl (Nat.le_of_ble_eq_true rfl) (Nat.le_of_ble_eq_true rfl) (s_X11_in hL _ _ _  _) (fun q1 => ?_)
  refine e_if_eq dX11_burnt_13 (tgt := 26) (by decide) ?_ ?_
  · refine e_iconst dX11_burnt_26 (v := ((-1) : Int32)) (by decide) ?_
    exact e_iret dX11_burnt_27 rfl rfl
  · refine e_iload_n dX11_burnt_16 rfl ?_
    refine e_iconst dX11_burnt_17 (v := 0) (by decide) ?_
    refine e_bipush dX11_burnt_18 (v := 120) (by decide) ?_
    refine q_callSP (As := [_, _, _]) rfl dX11_burnt_20 lm_M_106 (am_fitB rfl) yo_X11_in ys_X11_in rfl (Nat.le_of_ble_eq_true rfl) (Nat.le_of_ble_eq_true rfl) (s_X11_in hL _ _ _  _) (fun q2 => ?_)
    refine e_if_ne dX11_burnt_23 (tgt := 28) (by decide) ?_ ?_
    · refine e_aload_n dX11_burnt_28 rfl ?_
      refine q_getI dX11_burnt_29 lf_M_190 (by decide) (am_Lk hL rfl) ?_
      refine e_bipush dX11_burnt_32 (v := 8) (by decide) ?_
      refine e_if2_ne dX11_burnt_34 (tgt := 40) (by decide) ?_ ?_
      · refine e_aload_n dX11_burnt_40 rfl ?_
        refine q_getR (r := 86) dX11_burnt_41 lf_M_87 rfl (by decide) (am_Lk hL rfl) (am_Lr hL rfl) ?_
        refine e_aload_n dX11_burnt_44 rfl ?_
        refine q_getI dX11_burnt_45 lf_M_190 (by decide) (am_Lk hL rfl) ?_
        refine e_iload_n dX11_burnt_48 rfl ?_
        refine q_iastH dX11_burnt_49 (am_Ls hL rfl) (fun i4 => ?_)
        refine e_aload_n dX11_burnt_50 rfl ?_
        refine q_getR (r := 87) dX11_burnt_51 lf_M_90 rfl (by decide) (am_Lk hL rfl) (am_Lr hL rfl) ?_
        refine e_aload_n dX11_burnt_54 rfl ?_
        refine q_getI dX11_burnt_55 lf_M_190 (by decide) (am_Lk hL rfl) ?_
        refine e_iload_n dX11_burnt_58 rfl ?_
        refine q_iastH dX11_burnt_59 (am_Ls hL rfl) (fun i6 => ?_)
        refine e_aload_n dX11_burnt_60 rfl ?_
        refine e_dup dX11_burnt_61 rfl ?_
        refine q_getI dX11_burnt_62 lf_M_190 (by decide) (am_Lk hL rfl) ?_
        refine e_iconst dX11_burnt_65 (v := 1) (by decide) ?_
        refine e_iadd dX11_burnt_66 ?_
        refine q_putI dX11_burnt_67 lf_M_190 rfl (by decide) (am_Lk hL rfl) ?_
        refine e_aload_n dX11_burnt_70 rfl ?_
        refine q_getI dX11_burnt_71 lf_M_190 (by decide) (am_Lk hL rfl) ?_
        refine e_iconst dX11_burnt_74 (v := 1) (by decide) ?_
        refine e_isub dX11_burnt_75 ?_
        exact e_iret dX11_burnt_76 rfl rfl
      · refine e_bipush dX11_burnt_37 (v := ((-2) : Int32)) (by decide) ?_
        exact e_iret dX11_burnt_39 rfl rfl
    · refine e_iconst dX11_burnt_26 (v := ((-1) : Int32)) (by decide) ?_
      exact e_iret dX11_burnt_27 rfl rfl

def f_X11_common_10 (u : am_U) : Nat → Int32 → Int32 → Option (Int32)
  | 0, _, _ => none
  | n + 1, v1, v2 =>
    if v2 = 0 then (
      some v1)
    else (
      am_ck (!(v2 == 0)) (
      f_X11_common_10 u n v2 (v1 - v1 / v2 * v2)))
def f_X11_common (u : am_U) : Option (Int32) :=
  (f_X11_lightAll u).bind (fun q1 =>
  (f_X11_sizeAll u).bind (fun q2 =>
  f_X11_common_10 u 20000 q1 q2))
set_option maxRecDepth 100000 in
set_option maxHeartbeats 4000000 in
theorem s_X11_common_10 {l : Launch} {g : am_G} {B : am_M} {pl : Nat} (hL : am_Lay B pl) (u : am_U)     : ∀ (n : Nat) (v1 : Int32) (v2 : Int32), am_E l g d_X11_common 10 [none, some (.int (v1)), some (.int (v2)), none] [] (am_of B u) (am_r (am_bP B u) (f_X11_common_10 u n v1 v2)) := by
  intro n
  induction n with
  | zero => intro v1 v2; exact am_none
  | succ n ih =>
    intro v1 v2
    unfold f_X11_common_10
    refine e_iload_n dX11_common_10 rfl ?_
    refine e_if_eq dX11_common_11 (tgt := 25) (by decide) ?_ ?_
    · refine e_iload_n dX11_common_25 rfl ?_
      exact e_iret dX11_common_26 rfl rfl
    · refine e_iload_n dX11_common_14 rfl ?_
      refine e_iload_n dX11_common_15 rfl ?_
      refine e_remq dX11_common_16 ?_
      refine e_istore_n dX11_common_17 (by decide) (LS1 := [none, _, _, _]) rfl ?_
      refine e_iload_n dX11_common_18 rfl ?_
      refine e_istore_n dX11_common_19 (by decide) (LS1 := [none, _, _, _]) rfl ?_
      refine e_iload_n dX11_common_20 rfl ?_
      refine e_istore_n dX11_common_21 (by decide) (LS1 := [none, _, _, _]) rfl ?_
      refine e_goto dX11_common_22 (tgt := 10) (by decide) ?_
      refine e_msk [false, true, true, false] (LS1 := [none, _, _, none]) rfl ?_
      exact ih v2 (v1 - v1 / v2 * v2)

set_option maxRecDepth 100000 in
set_option maxHeartbeats 4000000 in
theorem s_X11_common {l : Launch} {g : am_G} {B : am_M} {pl : Nat} (hL : am_Lay B pl)   (u : am_U) : am_E l g d_X11_common 0 (am_ent d_X11_common [.ref (60)]) [] (am_of B u) (am_r (am_bP B u) (f_X11_common u)) := by
  unfold f_X11_common
  show am_E l g d_X11_common 0 [some (.ref (60)), none, none, none] [] (am_of B u) _
  refine e_aload_n dX11_common_0 rfl ?_
  refine q_callVP (As := []) rfl dX11_common_1 lm_M_328 (am_fitB rfl) yo_X11_lightAll ys_X11_lightAll rfl rfl (by decide) (am_Lk hL rfl) rfl (Nat.le_of_ble_eq_true rfl) (Nat.le_of_ble_eq_true rfl) (s_X11_lightAll hL   _) (fun q1 => ?_)
  refine e_istore_n dX11_common_4 (by decide) (LS1 := [_, _, none, none]) rfl ?_
  refine e_aload_n dX11_common_5 rfl ?_
  refine q_callVP (As := []) rfl dX11_common_6 lm_M_331 (am_fitB rfl) yo_X11_sizeAll ys_X11_sizeAll rfl rfl (by decide) (am_Lk hL rfl) rfl (Nat.le_of_ble_eq_true rfl) (Nat.le_of_ble_eq_true rfl) (s_X11_sizeAll hL   _) (fun q2 => ?_)
  refine e_istore_n dX11_common_9 (by decide) (LS1 := [_, _, _, none]) rfl ?_
  refine e_msk [false, true, true, false] (LS1 := [none, _, _, none]) rfl ?_
  refine s_X11_common_10 hL _  _ _ _

def f_X11_counted_4 (u : am_U) (v1 : Int32) (k76 : Int32 → Option (Int32)) : Nat → Int32 → Int32 → Option (Int32)
  | 0, _, _ => none
  | n + 1, v2, v3 =>
    if (u 60 12) ≤ v3 then (
      k76 v2)
    else (
      am_jn (fun (j1z : Unit) =>
        f_X11_counted_4 u v1 k76 n (v2 + 1) (v3 + 1)) (fun j1 =>
      am_jn (fun (j2z : Unit) =>
        am_jn (fun (j3z : Unit) =>
          f_X11_counted_4 u v1 k76 n (v2 + 0) (v3 + 1)) (fun j3 =>
        if ¬ v1 = 5 then (
          j3 () )
        else (
          am_ck (am_ix v3 6) (
          if (u 69 v3.toNatClampNeg) = 3 then (
            j1 () )
          else (
            if ¬ (u 69 v3.toNatClampNeg) = 5 then (
              j3 () )
            else (
              j1 () )))))) (fun j2 =>
      if ¬ v1 = 4 then (
        j2 () )
      else (
        am_ck (am_ix v3 6) (
        if (u 69 v3.toNatClampNeg) = 2 then (
          j1 () )
        else (
          if (u 69 v3.toNatClampNeg) = 4 then (
            j1 () )
          else (
            j2 () )))))))
def f_X11_counted_78 (u : am_U) (v1 : Int32) (k113 : Int32 → Option (Int32)) : Nat → Int32 → Int32 → Option (Int32)
  | 0, _, _ => none
  | n + 1, v2, v3 =>
    if 6 ≤ v3 then (
      k113 v2)
    else (
      am_jn (fun (j7z : Unit) =>
        f_X11_counted_78 u v1 k113 n (v2 + 0) (v3 + 1)) (fun j7 =>
      if ¬ v1 = 6 then (
        j7 () )
      else (
        am_ck (am_ix v3 6) (
        if (u 62 v3.toNatClampNeg) < 0 then (
          j7 () )
        else (
          f_X11_counted_78 u v1 k113 n (v2 + 1) (v3 + 1))))))
def f_X11_counted_115 (u : am_U) (v1 : Int32) (k149 : Int32 → Option (Int32)) : Nat → Int32 → Int32 → Option (Int32)
  | 0, _, _ => none
  | n + 1, v2, v3 =>
    if 4 ≤ v3 then (
      k149 v2)
    else (
      am_jn (fun (j10z : Unit) =>
        f_X11_counted_115 u v1 k149 n (v2 + 0) (v3 + 1)) (fun j10 =>
      if ¬ v1 = 7 then (
        j10 () )
      else (
        am_ck (am_ix v3 4) (
        if (u 65 v3.toNatClampNeg) < 0 then (
          j10 () )
        else (
          f_X11_counted_115 u v1 k149 n (v2 + 1) (v3 + 1))))))
def f_X11_counted (a1 : Int32) (u : am_U) : Option (Int32) :=
  f_X11_counted_4 u a1 (fun (c6v2 : Int32) =>
    f_X11_counted_78 u a1 (fun (c9v2 : Int32) =>
      f_X11_counted_115 u a1 (fun (c12v2 : Int32) =>
        if a1 = 0 then (
          some (u 60 12))
        else         if a1 = 1 then (
          (f_X11_lightAll u).bind (fun q13 =>
          some q13))
        else         if a1 = 2 then (
          some (u 75 28))
        else         if a1 = 3 then (
          some ((u 60 8) - (u 75 29)))
        else         if a1 = 8 then (
          some (u 60 26))
        else         if a1 = 9 then (
          some (u 60 40))
        else (
          some c12v2)) 20000 c9v2 0) 20000 c6v2 0) 20000 0 0
set_option maxRecDepth 100000 in
set_option maxHeartbeats 4000000 in
theorem s_X11_counted_4 {l : Launch} {g : am_G} {B : am_M} {pl : Nat} (hL : am_Lay B pl) (u : am_U) (v1 : Int32)  (k76 : Int32 → Option (Int32)) (hk76 : ∀ (v2 : Int32), am_E l g d_X11_counted 76 [some (.ref (60)), some (.int (v1)), some (.int (v2)), none] [] (am_of B u) (am_r (am_bP B u) (k76 v2))) : ∀ (n : Nat) (v2 : Int32) (v3 : Int32), am_E l g d_X11_counted 4 [some (.ref (60)), some (.int (v1)), some (.int (v2)), some (.int (v3))] [] (am_of B u) (am_r (am_bP B u) (f_X11_counted_4 u v1 k76 n v2 v3)) := by
  intro n
  induction n with
  | zero => intro v2 v3; exact am_none
  | succ n ih =>
    intro v2 v3
    unfold f_X11_counted_4
    refine e_iload_n dX11_counted_4 rfl ?_
    refine e_aload_n dX11_counted_5 rfl ?_
    refine q_getI dX11_counted_6 lf_M_184 (by decide) (am_Lk hL rfl) ?_
    refine e_if2_ge dX11_counted_9 (tgt := 76) (by decide) ?_ ?_
    · refine e_msk [true, true, true, false] (LS1 := [_, _, _, none]) rfl ?_
      exact hk76 v2
    · refine e_iload_n dX11_counted_12 rfl ?_
      refine e_iload_n dX11_counted_13 rfl ?_
      refine e_iconst dX11_counted_14 (v := 4) (by decide) ?_
      refine e_jn (P := fun t : Unit → Option (Int32) => ∀ (j1z : Unit), am_E l g d_X11_counted 63 [some (.ref (60)), some (.int (v1)), none, some (.int (v3))] [.int (v2)] (am_of B u) (am_r (am_bP B u) (t j1z))) ?_ (fun j1 hj1 => ?_)
      · intro j1z
        refine e_iconst dX11_counted_63 (v := 1) (by decide) ?_
        refine e_goto dX11_counted_64 (tgt := 68) (by decide) ?_
        refine e_iadd dX11_counted_68 ?_
        refine e_istore_n dX11_counted_69 (by decide) (LS1 := [_, _, _, _]) rfl ?_
        refine e_iinc dX11_counted_70 rfl (v := _ + 1) rfl (by decide) (LS1 := [_, _, _, _]) rfl ?_
        refine e_goto dX11_counted_73 (tgt := 4) (by decide) ?_
        exact ih (v2 + 1) (v3 + 1)
      · refine e_jn (P := fun t : Unit → Option (Int32) => ∀ (j2z : Unit), am_E l g d_X11_counted 38 [some (.ref (60)), some (.int (v1)), none, some (.int (v3))] [.int (v2)] (am_of B u) (am_r (am_bP B u) (t j2z))) ?_ (fun j2 hj2 => ?_)
        · intro j2z
          refine e_iload_n dX11_counted_38 rfl ?_
          refine e_iconst dX11_counted_39 (v := 5) (by decide) ?_
          refine e_jn (P := fun t : Unit → Option (Int32) => ∀ (j3z : Unit), am_E l g d_X11_counted 67 [some (.ref (60)), some (.int (v1)), none, some (.int (v3))] [.int (v2)] (am_of B u) (am_r (am_bP B u) (t j3z))) ?_ (fun j3 hj3 => ?_)
          · intro j3z
            refine e_iconst dX11_counted_67 (v := 0) (by decide) ?_
            refine e_iadd dX11_counted_68 ?_
            refine e_istore_n dX11_counted_69 (by decide) (LS1 := [_, _, _, _]) rfl ?_
            refine e_iinc dX11_counted_70 rfl (v := _ + 1) rfl (by decide) (LS1 := [_, _, _, _]) rfl ?_
            refine e_goto dX11_counted_73 (tgt := 4) (by decide) ?_
            exact ih (v2 + 0) (v3 + 1)
          · refine e_if2_ne dX11_counted_40 (tgt := 67) (by decide) ?_ ?_
            · refine e_msk [true, true, false, true] (LS1 := [_, _, none, _]) rfl ?_
              exact hj3 () 
            · refine e_aload_n dX11_counted_43 rfl ?_
              refine q_getR (r := 69) dX11_counted_44 lf_M_35 rfl (by decide) (am_Lk hL rfl) (am_Lr hL rfl) ?_
              refine e_iload_n dX11_counted_47 rfl ?_
              refine q_ialdH dX11_counted_48 (am_Ls hL rfl) (fun i4 => ?_)
              refine e_iconst dX11_counted_49 (v := 3) (by decide) ?_
              refine e_if2_eq dX11_counted_50 (tgt := 63) (by decide) ?_ ?_
              · refine e_msk [true, true, false, true] (LS1 := [_, _, none, _]) rfl ?_
                exact hj1 () 
              · refine e_aload_n dX11_counted_53 rfl ?_
                refine q_getR (r := 69) dX11_counted_54 lf_M_35 rfl (by decide) (am_Lk hL rfl) (am_Lr hL rfl) ?_
                refine e_iload_n dX11_counted_57 rfl ?_
                refine q_ialdC (jn := _) dX11_counted_58 (am_Ls hL rfl) i4 rfl ?_
                refine e_iconst dX11_counted_59 (v := 5) (by decide) ?_
                refine e_if2_ne dX11_counted_60 (tgt := 67) (by decide) ?_ ?_
                · refine e_msk [true, true, false, true] (LS1 := [_, _, none, _]) rfl ?_
                  exact hj3 () 
                · refine e_msk [true, true, false, true] (LS1 := [_, _, none, _]) rfl ?_
                  exact hj1 () 
        · refine e_if2_ne dX11_counted_15 (tgt := 38) (by decide) ?_ ?_
          · refine e_msk [true, true, false, true] (LS1 := [_, _, none, _]) rfl ?_
            exact hj2 () 
          · refine e_aload_n dX11_counted_18 rfl ?_
            refine q_getR (r := 69) dX11_counted_19 lf_M_35 rfl (by decide) (am_Lk hL rfl) (am_Lr hL rfl) ?_
            refine e_iload_n dX11_counted_22 rfl ?_
            refine q_ialdH dX11_counted_23 (am_Ls hL rfl) (fun i5 => ?_)
            refine e_iconst dX11_counted_24 (v := 2) (by decide) ?_
            refine e_if2_eq dX11_counted_25 (tgt := 63) (by decide) ?_ ?_
            · refine e_msk [true, true, false, true] (LS1 := [_, _, none, _]) rfl ?_
              exact hj1 () 
            · refine e_aload_n dX11_counted_28 rfl ?_
              refine q_getR (r := 69) dX11_counted_29 lf_M_35 rfl (by decide) (am_Lk hL rfl) (am_Lr hL rfl) ?_
              refine e_iload_n dX11_counted_32 rfl ?_
              refine q_ialdC (jn := _) dX11_counted_33 (am_Ls hL rfl) i5 rfl ?_
              refine e_iconst dX11_counted_34 (v := 4) (by decide) ?_
              refine e_if2_eq dX11_counted_35 (tgt := 63) (by decide) ?_ ?_
              · refine e_msk [true, true, false, true] (LS1 := [_, _, none, _]) rfl ?_
                exact hj1 () 
              · refine e_msk [true, true, false, true] (LS1 := [_, _, none, _]) rfl ?_
                exact hj2 () 

set_option maxRecDepth 100000 in
set_option maxHeartbeats 4000000 in
theorem s_X11_counted_78 {l : Launch} {g : am_G} {B : am_M} {pl : Nat} (hL : am_Lay B pl) (u : am_U) (v1 : Int32)  (k113 : Int32 → Option (Int32)) (hk113 : ∀ (v2 : Int32), am_E l g d_X11_counted 113 [some (.ref (60)), some (.int (v1)), some (.int (v2)), none] [] (am_of B u) (am_r (am_bP B u) (k113 v2))) : ∀ (n : Nat) (v2 : Int32) (v3 : Int32), am_E l g d_X11_counted 78 [some (.ref (60)), some (.int (v1)), some (.int (v2)), some (.int (v3))] [] (am_of B u) (am_r (am_bP B u) (f_X11_counted_78 u v1 k113 n v2 v3)) := by
  intro n
  induction n with
  | zero => intro v2 v3; exact am_none
  | succ n ih =>
    intro v2 v3
    unfold f_X11_counted_78
    refine e_iload_n dX11_counted_78 rfl ?_
    refine e_bipush dX11_counted_79 (v := 6) (by decide) ?_
    refine e_if2_ge dX11_counted_81 (tgt := 113) (by decide) ?_ ?_
    · refine e_msk [true, true, true, false] (LS1 := [_, _, _, none]) rfl ?_
      exact hk113 v2
    · refine e_iload_n dX11_counted_84 rfl ?_
      refine e_iload_n dX11_counted_85 rfl ?_
      refine e_bipush dX11_counted_86 (v := 6) (by decide) ?_
      refine e_jn (P := fun t : Unit → Option (Int32) => ∀ (j7z : Unit), am_E l g d_X11_counted 104 [some (.ref (60)), some (.int (v1)), none, some (.int (v3))] [.int (v2)] (am_of B u) (am_r (am_bP B u) (t j7z))) ?_ (fun j7 hj7 => ?_)
      · intro j7z
        refine e_iconst dX11_counted_104 (v := 0) (by decide) ?_
        refine e_iadd dX11_counted_105 ?_
        refine e_istore_n dX11_counted_106 (by decide) (LS1 := [_, _, _, _]) rfl ?_
        refine e_iinc dX11_counted_107 rfl (v := _ + 1) rfl (by decide) (LS1 := [_, _, _, _]) rfl ?_
        refine e_goto dX11_counted_110 (tgt := 78) (by decide) ?_
        exact ih (v2 + 0) (v3 + 1)
      · refine e_if2_ne dX11_counted_88 (tgt := 104) (by decide) ?_ ?_
        · refine e_msk [true, true, false, true] (LS1 := [_, _, none, _]) rfl ?_
          exact hj7 () 
        · refine e_aload_n dX11_counted_91 rfl ?_
          refine q_getR (r := 62) dX11_counted_92 lf_M_13 rfl (by decide) (am_Lk hL rfl) (am_Lr hL rfl) ?_
          refine e_iload_n dX11_counted_95 rfl ?_
          refine q_ialdH dX11_counted_96 (am_Ls hL rfl) (fun i8 => ?_)
          refine e_if_lt dX11_counted_97 (tgt := 104) (by decide) ?_ ?_
          · refine e_msk [true, true, false, true] (LS1 := [_, _, none, _]) rfl ?_
            exact hj7 () 
          · refine e_iconst dX11_counted_100 (v := 1) (by decide) ?_
            refine e_goto dX11_counted_101 (tgt := 105) (by decide) ?_
            refine e_iadd dX11_counted_105 ?_
            refine e_istore_n dX11_counted_106 (by decide) (LS1 := [_, _, _, _]) rfl ?_
            refine e_iinc dX11_counted_107 rfl (v := _ + 1) rfl (by decide) (LS1 := [_, _, _, _]) rfl ?_
            refine e_goto dX11_counted_110 (tgt := 78) (by decide) ?_
            exact ih (v2 + 1) (v3 + 1)

set_option maxRecDepth 100000 in
set_option maxHeartbeats 4000000 in
theorem s_X11_counted_115 {l : Launch} {g : am_G} {B : am_M} {pl : Nat} (hL : am_Lay B pl) (u : am_U) (v1 : Int32)  (k149 : Int32 → Option (Int32)) (hk149 : ∀ (v2 : Int32), am_E l g d_X11_counted 149 [some (.ref (60)), some (.int (v1)), some (.int (v2)), none] [] (am_of B u) (am_r (am_bP B u) (k149 v2))) : ∀ (n : Nat) (v2 : Int32) (v3 : Int32), am_E l g d_X11_counted 115 [some (.ref (60)), some (.int (v1)), some (.int (v2)), some (.int (v3))] [] (am_of B u) (am_r (am_bP B u) (f_X11_counted_115 u v1 k149 n v2 v3)) := by
  intro n
  induction n with
  | zero => intro v2 v3; exact am_none
  | succ n ih =>
    intro v2 v3
    unfold f_X11_counted_115
    refine e_iload_n dX11_counted_115 rfl ?_
    refine e_iconst dX11_counted_116 (v := 4) (by decide) ?_
    refine e_if2_ge dX11_counted_117 (tgt := 149) (by decide) ?_ ?_
    · refine e_msk [true, true, true, false] (LS1 := [_, _, _, none]) rfl ?_
      exact hk149 v2
    · refine e_iload_n dX11_counted_120 rfl ?_
      refine e_iload_n dX11_counted_121 rfl ?_
      refine e_bipush dX11_counted_122 (v := 7) (by decide) ?_
      refine e_jn (P := fun t : Unit → Option (Int32) => ∀ (j10z : Unit), am_E l g d_X11_counted 140 [some (.ref (60)), some (.int (v1)), none, some (.int (v3))] [.int (v2)] (am_of B u) (am_r (am_bP B u) (t j10z))) ?_ (fun j10 hj10 => ?_)
      · intro j10z
        refine e_iconst dX11_counted_140 (v := 0) (by decide) ?_
        refine e_iadd dX11_counted_141 ?_
        refine e_istore_n dX11_counted_142 (by decide) (LS1 := [_, _, _, _]) rfl ?_
        refine e_iinc dX11_counted_143 rfl (v := _ + 1) rfl (by decide) (LS1 := [_, _, _, _]) rfl ?_
        refine e_goto dX11_counted_146 (tgt := 115) (by decide) ?_
        exact ih (v2 + 0) (v3 + 1)
      · refine e_if2_ne dX11_counted_124 (tgt := 140) (by decide) ?_ ?_
        · refine e_msk [true, true, false, true] (LS1 := [_, _, none, _]) rfl ?_
          exact hj10 () 
        · refine e_aload_n dX11_counted_127 rfl ?_
          refine q_getR (r := 65) dX11_counted_128 lf_M_22 rfl (by decide) (am_Lk hL rfl) (am_Lr hL rfl) ?_
          refine e_iload_n dX11_counted_131 rfl ?_
          refine q_ialdH dX11_counted_132 (am_Ls hL rfl) (fun i11 => ?_)
          refine e_if_lt dX11_counted_133 (tgt := 140) (by decide) ?_ ?_
          · refine e_msk [true, true, false, true] (LS1 := [_, _, none, _]) rfl ?_
            exact hj10 () 
          · refine e_iconst dX11_counted_136 (v := 1) (by decide) ?_
            refine e_goto dX11_counted_137 (tgt := 141) (by decide) ?_
            refine e_iadd dX11_counted_141 ?_
            refine e_istore_n dX11_counted_142 (by decide) (LS1 := [_, _, _, _]) rfl ?_
            refine e_iinc dX11_counted_143 rfl (v := _ + 1) rfl (by decide) (LS1 := [_, _, _, _]) rfl ?_
            refine e_goto dX11_counted_146 (tgt := 115) (by decide) ?_
            exact ih (v2 + 1) (v3 + 1)

set_option maxRecDepth 100000 in
set_option maxHeartbeats 4000000 in
theorem s_X11_counted {l : Launch} {g : am_G} {B : am_M} {pl : Nat} (hL : am_Lay B pl) (a1 : Int32)  (u : am_U) : am_E l g d_X11_counted 0 (am_ent d_X11_counted [.ref (60), .int (a1)]) [] (am_of B u) (am_r (am_bP B u) (f_X11_counted a1 u)) := by
  unfold f_X11_counted
  show am_E l g d_X11_counted 0 [some (.ref (60)), some (.int (a1)), none, none] [] (am_of B u) _
  refine e_iconst dX11_counted_0 (v := 0) (by decide) ?_
  refine e_istore_n dX11_counted_1 (by decide) (LS1 := [_, _, _, none]) rfl ?_
  refine e_iconst dX11_counted_2 (v := 0) (by decide) ?_
  refine e_istore_n dX11_counted_3 (by decide) (LS1 := [_, _, _, _]) rfl ?_
  refine s_X11_counted_4 hL _ _ _ (fun c6v2 => ?_) _ _ _
  · refine e_iconst dX11_counted_76 (v := 0) (by decide) ?_
    refine e_istore_n dX11_counted_77 (by decide) (LS1 := [_, _, _, _]) rfl ?_
    refine s_X11_counted_78 hL _ _ _ (fun c9v2 => ?_) _ _ _
    · refine e_iconst dX11_counted_113 (v := 0) (by decide) ?_
      refine e_istore_n dX11_counted_114 (by decide) (LS1 := [_, _, _, _]) rfl ?_
      refine s_X11_counted_115 hL _ _ _ (fun c12v2 => ?_) _ _ _
      · refine e_iload_n dX11_counted_149 rfl ?_
        refine e_sw (c := 0) (fun hc => ?_) (fun hn0 => ?_)
        · subst hc
          refine e_tabIn dX11_counted_150 (tgt := 204) (by decide) (by decide) rfl (by decide) ?_
          refine e_aload_n dX11_counted_204 rfl ?_
          refine q_getI dX11_counted_205 lf_M_184 (by decide) (am_Lk hL rfl) ?_
          exact e_iret dX11_counted_208 rfl rfl
        refine e_sw (c := 1) (fun hc => ?_) (fun hn1 => ?_)
        · subst hc
          refine e_tabIn dX11_counted_150 (tgt := 209) (by decide) (by decide) rfl (by decide) ?_
          refine e_aload_n dX11_counted_209 rfl ?_
          refine q_callVP (As := []) rfl dX11_counted_210 lm_M_328 (am_fitB rfl) yo_X11_lightAll ys_X11_lightAll rfl rfl (by decide) (am_Lk hL rfl) rfl (Nat.le_of_ble_eq_true rfl) (Nat.le_of_ble_eq_true rfl) (s_X11_lightAll hL   _) (fun q13 => ?_)
          exact e_iret dX11_counted_213 rfl rfl
        refine e_sw (c := 2) (fun hc => ?_) (fun hn2 => ?_)
        · subst hc
          refine e_tabIn dX11_counted_150 (tgt := 214) (by decide) (by decide) rfl (by decide) ?_
          refine e_aload_n dX11_counted_214 rfl ?_
          refine q_getR (r := 75) dX11_counted_215 lf_M_53 rfl (by decide) (am_Lk hL rfl) (am_Lr hL rfl) ?_
          refine e_bipush dX11_counted_218 (v := 28) (by decide) ?_
          refine q_ialdC (jn := 28) dX11_counted_220 (am_Ls hL rfl) (by decide) (by decide) ?_
          exact e_iret dX11_counted_221 rfl rfl
        refine e_sw (c := 3) (fun hc => ?_) (fun hn3 => ?_)
        · subst hc
          refine e_tabIn dX11_counted_150 (tgt := 222) (by decide) (by decide) rfl (by decide) ?_
          refine e_aload_n dX11_counted_222 rfl ?_
          refine q_getI dX11_counted_223 lf_M_178 (by decide) (am_Lk hL rfl) ?_
          refine e_aload_n dX11_counted_226 rfl ?_
          refine q_getR (r := 75) dX11_counted_227 lf_M_53 rfl (by decide) (am_Lk hL rfl) (am_Lr hL rfl) ?_
          refine e_bipush dX11_counted_230 (v := 29) (by decide) ?_
          refine q_ialdC (jn := 29) dX11_counted_232 (am_Ls hL rfl) (by decide) (by decide) ?_
          refine e_isub dX11_counted_233 ?_
          exact e_iret dX11_counted_234 rfl rfl
        refine e_sw (c := 8) (fun hc => ?_) (fun hn4 => ?_)
        · subst hc
          refine e_tabIn dX11_counted_150 (tgt := 235) (by decide) (by decide) rfl (by decide) ?_
          refine e_aload_n dX11_counted_235 rfl ?_
          refine q_getI dX11_counted_236 lf_M_187 (by decide) (am_Lk hL rfl) ?_
          exact e_iret dX11_counted_239 rfl rfl
        refine e_sw (c := 9) (fun hc => ?_) (fun hn5 => ?_)
        · subst hc
          refine e_tabIn dX11_counted_150 (tgt := 240) (by decide) (by decide) rfl (by decide) ?_
          refine e_aload_n dX11_counted_240 rfl ?_
          refine q_getI dX11_counted_241 lf_M_190 (by decide) (am_Lk hL rfl) ?_
          exact e_iret dX11_counted_244 rfl rfl
        have hm0 := lv_neT hn0 (show (0 : Int32).toInt = 0 by decide)
        have hm1 := lv_neT hn1 (show (1 : Int32).toInt = 1 by decide)
        have hm2 := lv_neT hn2 (show (2 : Int32).toInt = 2 by decide)
        have hm3 := lv_neT hn3 (show (3 : Int32).toInt = 3 by decide)
        have hm4 := lv_neT hn4 (show (8 : Int32).toInt = 8 by decide)
        have hm5 := lv_neT hn5 (show (9 : Int32).toInt = 9 by decide)
        by_cases hh0 : a1 = 4
        · subst hh0
          refine e_tabIn dX11_counted_150 (tgt := 245) (by decide) (by decide) rfl (by decide) ?_
          refine e_iload_n dX11_counted_245 rfl ?_
          exact e_iret dX11_counted_246 rfl rfl
        have hk0 := lv_neT hh0 (show (4 : Int32).toInt = 4 by decide)
        by_cases hh1 : a1 = 5
        · subst hh1
          refine e_tabIn dX11_counted_150 (tgt := 245) (by decide) (by decide) rfl (by decide) ?_
          refine e_iload_n dX11_counted_245 rfl ?_
          exact e_iret dX11_counted_246 rfl rfl
        have hk1 := lv_neT hh1 (show (5 : Int32).toInt = 5 by decide)
        by_cases hh2 : a1 = 6
        · subst hh2
          refine e_tabIn dX11_counted_150 (tgt := 245) (by decide) (by decide) rfl (by decide) ?_
          refine e_iload_n dX11_counted_245 rfl ?_
          exact e_iret dX11_counted_246 rfl rfl
        have hk2 := lv_neT hh2 (show (6 : Int32).toInt = 6 by decide)
        by_cases hh3 : a1 = 7
        · subst hh3
          refine e_tabIn dX11_counted_150 (tgt := 245) (by decide) (by decide) rfl (by decide) ?_
          refine e_iload_n dX11_counted_245 rfl ?_
          exact e_iret dX11_counted_246 rfl rfl
        have hk3 := lv_neT hh3 (show (7 : Int32).toInt = 7 by decide)
        refine e_tabOut dX11_counted_150 (tgt := 245) (by omega) (by decide) ?_
        refine e_iload_n dX11_counted_245 rfl ?_
        exact e_iret dX11_counted_246 rfl rfl

def f_X11_figure (a1 : Int32) (a2 : Int32) (a3 : Int32) (u : am_U) : Option (Int32 × am_U) :=
  (f_X11_byteAt a1 (u 60 15) u).bind (fun q1 =>
  let u2 : am_U := am_w u 60 16 (q1 - 48)
  (f_X11_in (u2 60 16) a2 a3).bind (fun q3 =>
  if q3 = 0 then (
    let u4 : am_U := am_w u2 60 15 ((u2 60 15) + 0)
    am_ck (q3 == 0 || q3 == 1) (some (q3, u4)))
  else (
    let u5 : am_U := am_w u2 60 15 ((u2 60 15) + 1)
    am_ck (q3 == 0 || q3 == 1) (some (q3, u5)))))
set_option maxRecDepth 100000 in
set_option maxHeartbeats 4000000 in
theorem s_X11_figure {l : Launch} {g : am_G} {B : am_M} {pl : Nat} (hL : am_Lay B pl) (a1 : Int32) (a2 : Int32) (a3 : Int32)  (u : am_U) : am_E l g d_X11_figure 0 (am_ent d_X11_figure [.ref (60), .int (a1), .int (a2), .int (a3)]) [] (am_of B u) (am_r (am_bI B) (f_X11_figure a1 a2 a3 u)) := by
  unfold f_X11_figure
  show am_E l g d_X11_figure 0 [some (.ref (60)), some (.int (a1)), some (.int (a2)), some (.int (a3)), none] [] (am_of B u) _
  refine e_aload_n dX11_figure_0 rfl ?_
  refine e_aload_n dX11_figure_1 rfl ?_
  refine e_iload_n dX11_figure_2 rfl ?_
  refine e_aload_n dX11_figure_3 rfl ?_
  refine q_getI dX11_figure_4 lf_M_131 (by decide) (am_Lk hL rfl) ?_
  refine q_callVP (As := [_, _]) rfl dX11_figure_7 lm_M_134 (am_fitB rfl) yo_X11_byteAt ys_X11_byteAt rfl rfl (by decide) (am_Lk hL rfl) rfl (Nat.le_of_ble_eq_true rfl) (Nat.le_of_ble_eq_true rfl) (s_X11_byteAt hL _ _  _) (fun q1 => ?_)
  refine e_bipush dX11_figure_10 (v := 48) (by decide) ?_
  refine e_isub dX11_figure_12 ?_
  refine q_putI dX11_figure_13 lf_M_137 rfl (by decide) (am_Lk hL rfl) ?_
  refine e_aload_n dX11_figure_16 rfl ?_
  refine q_getI dX11_figure_17 lf_M_137 (by decide) (am_Lk hL rfl) ?_
  refine e_iload_n dX11_figure_20 rfl ?_
  refine e_iload_n dX11_figure_21 rfl ?_
  refine q_callSP (As := [_, _, _]) rfl dX11_figure_22 lm_M_106 (am_fitB rfl) yo_X11_in ys_X11_in rfl (Nat.le_of_ble_eq_true rfl) (Nat.le_of_ble_eq_true rfl) (s_X11_in hL _ _ _  _) (fun q3 => ?_)
  refine e_istore dX11_figure_25 (by decide) (LS1 := [_, _, _, _, _]) rfl ?_
  refine e_aload_n dX11_figure_27 rfl ?_
  refine e_dup dX11_figure_28 rfl ?_
  refine q_getI dX11_figure_29 lf_M_131 (by decide) (am_Lk hL rfl) ?_
  refine e_iload dX11_figure_32 rfl ?_
  refine e_if_eq dX11_figure_34 (tgt := 41) (by decide) ?_ ?_
  · refine e_iconst dX11_figure_41 (v := 0) (by decide) ?_
    refine e_iadd dX11_figure_42 ?_
    refine q_putI dX11_figure_43 lf_M_131 rfl (by decide) (am_Lk hL rfl) ?_
    refine e_iload dX11_figure_46 rfl ?_
    exact e_zretq dX11_figure_48 rfl rfl
  · refine e_iconst dX11_figure_37 (v := 1) (by decide) ?_
    refine e_goto dX11_figure_38 (tgt := 42) (by decide) ?_
    refine e_iadd dX11_figure_42 ?_
    refine q_putI dX11_figure_43 lf_M_131 rfl (by decide) (am_Lk hL rfl) ?_
    refine e_iload dX11_figure_46 rfl ?_
    exact e_zretq dX11_figure_48 rfl rfl

def f_X11_findings (a1 : Int32) (u : am_U) : Option (Int32) :=
  (f_X11_in a1 1 5).bind (fun q1 =>
  if q1 = 0 then (
    some ((-1) : Int32))
  else (
    am_ck (am_ix a1 6) (
    some (u 61 a1.toNatClampNeg))))
set_option maxRecDepth 100000 in
set_option maxHeartbeats 4000000 in
theorem s_X11_findings {l : Launch} {g : am_G} {B : am_M} {pl : Nat} (hL : am_Lay B pl) (a1 : Int32)  (u : am_U) : am_E l g d_X11_findings 0 (am_ent d_X11_findings [.ref (60), .int (a1)]) [] (am_of B u) (am_r (am_bP B u) (f_X11_findings a1 u)) := by
  unfold f_X11_findings
  show am_E l g d_X11_findings 0 [some (.ref (60)), some (.int (a1))] [] (am_of B u) _
  refine e_iload_n dX11_findings_0 rfl ?_
  refine e_iconst dX11_findings_1 (v := 1) (by decide) ?_
  refine e_iconst dX11_findings_2 (v := 5) (by decide) ?_
  refine q_callSP (As := [_, _, _]) rfl dX11_findings_3 lm_M_106 (am_fitB rfl) yo_X11_in ys_X11_in rfl (Nat.le_of_ble_eq_true rfl) (Nat.le_of_ble_eq_true rfl) (s_X11_in hL _ _ _  _) (fun q1 => ?_)
  refine e_if_eq dX11_findings_6 (tgt := 18) (by decide) ?_ ?_
  · refine e_iconst dX11_findings_18 (v := ((-1) : Int32)) (by decide) ?_
    exact e_iret dX11_findings_19 rfl rfl
  · refine e_aload_n dX11_findings_9 rfl ?_
    refine q_getR (r := 61) dX11_findings_10 lf_M_7 rfl (by decide) (am_Lk hL rfl) (am_Lr hL rfl) ?_
    refine e_iload_n dX11_findings_13 rfl ?_
    refine q_ialdH dX11_findings_14 (am_Ls hL rfl) (fun i2 => ?_)
    refine e_goto dX11_findings_15 (tgt := 19) (by decide) ?_
    exact e_iret dX11_findings_19 rfl rfl

def f_X11_forget (a1 : Int32) (u : am_U) : Option (Int32 × am_U) :=
  (f_X11_in a1 0 (u 60 40)).bind (fun q1 =>
  if ¬ q1 = 0 then (
    let u2 : am_U := am_w u 60 40 a1
    some ((u 60 40) - a1, u2))
  else (
    some (((-1) : Int32), u)))
set_option maxRecDepth 100000 in
set_option maxHeartbeats 4000000 in
theorem s_X11_forget {l : Launch} {g : am_G} {B : am_M} {pl : Nat} (hL : am_Lay B pl) (a1 : Int32)  (u : am_U) : am_E l g d_X11_forget 0 (am_ent d_X11_forget [.ref (60), .int (a1)]) [] (am_of B u) (am_r (am_bI B) (f_X11_forget a1 u)) := by
  unfold f_X11_forget
  show am_E l g d_X11_forget 0 [some (.ref (60)), some (.int (a1)), none] [] (am_of B u) _
  refine e_iload_n dX11_forget_0 rfl ?_
  refine e_iconst dX11_forget_1 (v := 0) (by decide) ?_
  refine e_aload_n dX11_forget_2 rfl ?_
  refine q_getI dX11_forget_3 lf_M_190 (by decide) (am_Lk hL rfl) ?_
  refine q_callSP (As := [_, _, _]) rfl dX11_forget_6 lm_M_106 (am_fitB rfl) yo_X11_in ys_X11_in rfl (Nat.le_of_ble_eq_true rfl) (Nat.le_of_ble_eq_true rfl) (s_X11_in hL _ _ _  _) (fun q1 => ?_)
  refine e_if_ne dX11_forget_9 (tgt := 14) (by decide) ?_ ?_
  · refine e_aload_n dX11_forget_14 rfl ?_
    refine q_getI dX11_forget_15 lf_M_190 (by decide) (am_Lk hL rfl) ?_
    refine e_iload_n dX11_forget_18 rfl ?_
    refine e_isub dX11_forget_19 ?_
    refine e_istore_n dX11_forget_20 (by decide) (LS1 := [_, _, _]) rfl ?_
    refine e_aload_n dX11_forget_21 rfl ?_
    refine e_iload_n dX11_forget_22 rfl ?_
    refine q_putI dX11_forget_23 lf_M_190 rfl (by decide) (am_Lk hL rfl) ?_
    refine e_iload_n dX11_forget_26 rfl ?_
    exact e_iret dX11_forget_27 rfl rfl
  · refine e_iconst dX11_forget_12 (v := ((-1) : Int32)) (by decide) ?_
    exact e_iret dX11_forget_13 rfl rfl

def f_X11_holds_11 (u : am_U) (v2 : Int32) (v3 : Int32) : Nat → Int32 → Int32 → Option (Int32 × am_U)
  | 0, _, _ => none
  | n + 1, v4, v5 =>
    if (u 60 32) ≤ v5 then (
      am_ck (v4 == 0 || v4 == 1) (some (v4, u)))
    else (
      am_jn (fun (j2z : Unit) =>
        f_X11_holds_11 u v2 v3 n 1 (v5 + 1)) (fun j2 =>
      if ¬ v4 = 0 then (
        j2 () )
      else (
        am_ck (am_ix v5 6) (
        if ¬ (u 80 v5.toNatClampNeg) = v2 then (
          f_X11_holds_11 u v2 v3 n 0 (v5 + 1))
        else (
          am_ck (am_ix v5 3) (
          if ¬ (u 81 v5.toNatClampNeg) = v3 then (
            f_X11_holds_11 u v2 v3 n 0 (v5 + 1))
          else (
            j2 () )))))))
def f_X11_holds (a1 : Int32) (a2 : Int32) (a3 : Int32) (u : am_U) : Option (Int32 × am_U) :=
  (f_X11_look a1 u).bind (fun q1 =>
  f_X11_holds_11 q1 a2 a3 20000 0 0)
set_option maxRecDepth 100000 in
set_option maxHeartbeats 4000000 in
theorem s_X11_holds_11 {l : Launch} {g : am_G} {B : am_M} {pl : Nat} (hL : am_Lay B pl) (u : am_U) (v2 : Int32) (v3 : Int32)    : ∀ (n : Nat) (v4 : Int32) (v5 : Int32), am_E l g d_X11_holds 11 [some (.ref (60)), none, some (.int (v2)), some (.int (v3)), some (.int (v4)), some (.int (v5))] [] (am_of B u) (am_r (am_bI B) (f_X11_holds_11 u v2 v3 n v4 v5)) := by
  intro n
  induction n with
  | zero => intro v4 v5; exact am_none
  | succ n ih =>
    intro v4 v5
    unfold f_X11_holds_11
    refine e_iload dX11_holds_11 rfl ?_
    refine e_aload_n dX11_holds_13 rfl ?_
    refine q_getI dX11_holds_14 lf_M_256 (by decide) (am_Lk hL rfl) ?_
    refine e_if2_ge dX11_holds_17 (tgt := 60) (by decide) ?_ ?_
    · refine e_iload dX11_holds_60 rfl ?_
      exact e_zretq dX11_holds_62 rfl rfl
    · refine e_iload dX11_holds_20 rfl ?_
      refine e_jn (P := fun t : Unit → Option (Int32 × am_U) => ∀ (j2z : Unit), am_E l g d_X11_holds 47 [some (.ref (60)), none, some (.int (v2)), some (.int (v3)), none, some (.int (v5))] [] (am_of B u) (am_r (am_bI B) (t j2z))) ?_ (fun j2 hj2 => ?_)
      · intro j2z
        refine e_iconst dX11_holds_47 (v := 1) (by decide) ?_
        refine e_goto dX11_holds_48 (tgt := 52) (by decide) ?_
        refine e_istore dX11_holds_52 (by decide) (LS1 := [_, none, _, _, _, _]) rfl ?_
        refine e_iinc dX11_holds_54 rfl (v := _ + 1) rfl (by decide) (LS1 := [_, none, _, _, _, _]) rfl ?_
        refine e_goto dX11_holds_57 (tgt := 11) (by decide) ?_
        exact ih 1 (v5 + 1)
      · refine e_if_ne dX11_holds_22 (tgt := 47) (by decide) ?_ ?_
        · refine e_msk [true, false, true, true, false, true] (LS1 := [_, none, _, _, none, _]) rfl ?_
          exact hj2 () 
        · refine e_aload_n dX11_holds_25 rfl ?_
          refine q_getR (r := 80) dX11_holds_26 lf_M_69 rfl (by decide) (am_Lk hL rfl) (am_Lr hL rfl) ?_
          refine e_iload dX11_holds_29 rfl ?_
          refine q_ialdH dX11_holds_31 (am_Ls hL rfl) (fun i3 => ?_)
          refine e_iload_n dX11_holds_32 rfl ?_
          refine e_if2_ne dX11_holds_33 (tgt := 51) (by decide) ?_ ?_
          · refine e_iconst dX11_holds_51 (v := 0) (by decide) ?_
            refine e_istore dX11_holds_52 (by decide) (LS1 := [_, none, _, _, _, _]) rfl ?_
            refine e_iinc dX11_holds_54 rfl (v := _ + 1) rfl (by decide) (LS1 := [_, none, _, _, _, _]) rfl ?_
            refine e_goto dX11_holds_57 (tgt := 11) (by decide) ?_
            exact ih 0 (v5 + 1)
          · refine e_aload_n dX11_holds_36 rfl ?_
            refine q_getR (r := 81) dX11_holds_37 lf_M_72 rfl (by decide) (am_Lk hL rfl) (am_Lr hL rfl) ?_
            refine e_iload dX11_holds_40 rfl ?_
            refine q_ialdH dX11_holds_42 (am_Ls hL rfl) (fun i4 => ?_)
            refine e_iload_n dX11_holds_43 rfl ?_
            refine e_if2_ne dX11_holds_44 (tgt := 51) (by decide) ?_ ?_
            · refine e_iconst dX11_holds_51 (v := 0) (by decide) ?_
              refine e_istore dX11_holds_52 (by decide) (LS1 := [_, none, _, _, _, _]) rfl ?_
              refine e_iinc dX11_holds_54 rfl (v := _ + 1) rfl (by decide) (LS1 := [_, none, _, _, _, _]) rfl ?_
              refine e_goto dX11_holds_57 (tgt := 11) (by decide) ?_
              exact ih 0 (v5 + 1)
            · refine e_msk [true, false, true, true, false, true] (LS1 := [_, none, _, _, none, _]) rfl ?_
              exact hj2 () 

set_option maxRecDepth 100000 in
set_option maxHeartbeats 4000000 in
theorem s_X11_holds {l : Launch} {g : am_G} {B : am_M} {pl : Nat} (hL : am_Lay B pl) (a1 : Int32) (a2 : Int32) (a3 : Int32)  (u : am_U) : am_E l g d_X11_holds 0 (am_ent d_X11_holds [.ref (60), .int (a1), .int (a2), .int (a3)]) [] (am_of B u) (am_r (am_bI B) (f_X11_holds a1 a2 a3 u)) := by
  unfold f_X11_holds
  show am_E l g d_X11_holds 0 [some (.ref (60)), some (.int (a1)), some (.int (a2)), some (.int (a3)), none, none] [] (am_of B u) _
  refine e_aload_n dX11_holds_0 rfl ?_
  refine e_iload_n dX11_holds_1 rfl ?_
  refine q_callVV (As := [_]) rfl dX11_holds_2 lm_M_266 (am_fitB rfl) yo_X11_look ys_X11_look rfl rfl (by decide) (am_Lk hL rfl) rfl (Nat.le_of_ble_eq_true rfl) (Nat.le_of_ble_eq_true rfl) (s_X11_look hL _  _) (fun q1 => ?_)
  refine e_iconst dX11_holds_5 (v := 0) (by decide) ?_
  refine e_istore dX11_holds_6 (by decide) (LS1 := [_, _, _, _, _, none]) rfl ?_
  refine e_iconst dX11_holds_8 (v := 0) (by decide) ?_
  refine e_istore dX11_holds_9 (by decide) (LS1 := [_, _, _, _, _, _]) rfl ?_
  refine e_msk [true, false, true, true, true, true] (LS1 := [_, none, _, _, _, _]) rfl ?_
  refine s_X11_holds_11 hL _ _ _ _ _ _

def f_X11_isJar (a1 : Int32) (u : am_U) : Option (Int32) :=
  (f_X11_in a1 0 ((u 60 12) - 1)).bind (fun q1 =>
  am_ck (q1 == 0 || q1 == 1) (some q1))
set_option maxRecDepth 100000 in
set_option maxHeartbeats 4000000 in
theorem s_X11_isJar {l : Launch} {g : am_G} {B : am_M} {pl : Nat} (hL : am_Lay B pl) (a1 : Int32)  (u : am_U) : am_E l g d_X11_isJar 0 (am_ent d_X11_isJar [.ref (60), .int (a1)]) [] (am_of B u) (am_r (am_bP B u) (f_X11_isJar a1 u)) := by
  unfold f_X11_isJar
  show am_E l g d_X11_isJar 0 [some (.ref (60)), some (.int (a1))] [] (am_of B u) _
  refine e_iload_n dX11_isJar_0 rfl ?_
  refine e_iconst dX11_isJar_1 (v := 0) (by decide) ?_
  refine e_aload_n dX11_isJar_2 rfl ?_
  refine q_getI dX11_isJar_3 lf_M_184 (by decide) (am_Lk hL rfl) ?_
  refine e_iconst dX11_isJar_6 (v := 1) (by decide) ?_
  refine e_isub dX11_isJar_7 ?_
  refine q_callSP (As := [_, _, _]) rfl dX11_isJar_8 lm_M_106 (am_fitB rfl) yo_X11_in ys_X11_in rfl (Nat.le_of_ble_eq_true rfl) (Nat.le_of_ble_eq_true rfl) (s_X11_in hL _ _ _  _) (fun q1 => ?_)
  exact e_zretq dX11_isJar_11 rfl rfl

def f_X11_isPlace (a0 : Int32) : Option (Int32) :=
  (f_X11_in a0 0 4).bind (fun q1 =>
  am_ck (q1 == 0 || q1 == 1) (some q1))
set_option maxRecDepth 100000 in
set_option maxHeartbeats 4000000 in
theorem s_X11_isPlace {l : Launch} {g : am_G} {B : am_M} {pl : Nat} (hL : am_Lay B pl) (a0 : Int32)  (u : am_U) : am_E l g d_X11_isPlace 0 (am_ent d_X11_isPlace [.int (a0)]) [] (am_of B u) (am_r (am_bP B u) (f_X11_isPlace a0)) := by
  unfold f_X11_isPlace
  show am_E l g d_X11_isPlace 0 [some (.int (a0))] [] (am_of B u) _
  refine e_iload_n dX11_isPlace_0 rfl ?_
  refine e_iconst dX11_isPlace_1 (v := 0) (by decide) ?_
  refine e_iconst dX11_isPlace_2 (v := 4) (by decide) ?_
  refine q_callSP (As := [_, _, _]) rfl dX11_isPlace_3 lm_M_106 (am_fitB rfl) yo_X11_in ys_X11_in rfl (Nat.le_of_ble_eq_true rfl) (Nat.le_of_ble_eq_true rfl) (s_X11_in hL _ _ _  _) (fun q1 => ?_)
  exact e_zretq dX11_isPlace_6 rfl rfl

def f_X11_isRow (a0 : Int32) : Option (Int32) :=
  (f_X11_in a0 0 5).bind (fun q1 =>
  am_ck (q1 == 0 || q1 == 1) (some q1))
set_option maxRecDepth 100000 in
set_option maxHeartbeats 4000000 in
theorem s_X11_isRow {l : Launch} {g : am_G} {B : am_M} {pl : Nat} (hL : am_Lay B pl) (a0 : Int32)  (u : am_U) : am_E l g d_X11_isRow 0 (am_ent d_X11_isRow [.int (a0)]) [] (am_of B u) (am_r (am_bP B u) (f_X11_isRow a0)) := by
  unfold f_X11_isRow
  show am_E l g d_X11_isRow 0 [some (.int (a0))] [] (am_of B u) _
  refine e_iload_n dX11_isRow_0 rfl ?_
  refine e_iconst dX11_isRow_1 (v := 0) (by decide) ?_
  refine e_iconst dX11_isRow_2 (v := 5) (by decide) ?_
  refine q_callSP (As := [_, _, _]) rfl dX11_isRow_3 lm_M_106 (am_fitB rfl) yo_X11_in ys_X11_in rfl (Nat.le_of_ble_eq_true rfl) (Nat.le_of_ble_eq_true rfl) (s_X11_in hL _ _ _  _) (fun q1 => ?_)
  exact e_zretq dX11_isRow_6 rfl rfl

def f_X11_isSign (a1 : Int32) (a2 : Int32) (u : am_U) : Option (Int32 × am_U) :=
  (f_X11_byteAt a1 (u 60 15) u).bind (fun q1 =>
  am_jn (fun (j2s0 : Int32) =>
    if j2s0 = 0 then (
      let u3 : am_U := am_w u 60 15 ((u 60 15) + 0)
      am_ck (j2s0 == 0 || j2s0 == 1) (some (j2s0, u3)))
    else (
      let u4 : am_U := am_w u 60 15 ((u 60 15) + 1)
      am_ck (j2s0 == 0 || j2s0 == 1) (some (j2s0, u4)))) (fun j2 =>
  if ¬ q1 = a2 then (
    j2 0)
  else (
    j2 1)))
set_option maxRecDepth 100000 in
set_option maxHeartbeats 4000000 in
theorem s_X11_isSign {l : Launch} {g : am_G} {B : am_M} {pl : Nat} (hL : am_Lay B pl) (a1 : Int32) (a2 : Int32)  (u : am_U) : am_E l g d_X11_isSign 0 (am_ent d_X11_isSign [.ref (60), .int (a1), .int (a2)]) [] (am_of B u) (am_r (am_bI B) (f_X11_isSign a1 a2 u)) := by
  unfold f_X11_isSign
  show am_E l g d_X11_isSign 0 [some (.ref (60)), some (.int (a1)), some (.int (a2)), none] [] (am_of B u) _
  refine e_aload_n dX11_isSign_0 rfl ?_
  refine e_iload_n dX11_isSign_1 rfl ?_
  refine e_aload_n dX11_isSign_2 rfl ?_
  refine q_getI dX11_isSign_3 lf_M_131 (by decide) (am_Lk hL rfl) ?_
  refine q_callVP (As := [_, _]) rfl dX11_isSign_6 lm_M_134 (am_fitB rfl) yo_X11_byteAt ys_X11_byteAt rfl rfl (by decide) (am_Lk hL rfl) rfl (Nat.le_of_ble_eq_true rfl) (Nat.le_of_ble_eq_true rfl) (s_X11_byteAt hL _ _  _) (fun q1 => ?_)
  refine e_iload_n dX11_isSign_9 rfl ?_
  refine e_jn (P := fun t : Int32 → Option (Int32 × am_U) => ∀ (j2s0 : Int32), am_E l g d_X11_isSign 18 [some (.ref (60)), none, none, none] [.int (j2s0)] (am_of B u) (am_r (am_bI B) (t j2s0))) ?_ (fun j2 hj2 => ?_)
  · intro j2s0
    refine e_istore_n dX11_isSign_18 (by decide) (LS1 := [_, none, none, _]) rfl ?_
    refine e_aload_n dX11_isSign_19 rfl ?_
    refine e_dup dX11_isSign_20 rfl ?_
    refine q_getI dX11_isSign_21 lf_M_131 (by decide) (am_Lk hL rfl) ?_
    refine e_iload_n dX11_isSign_24 rfl ?_
    refine e_if_eq dX11_isSign_25 (tgt := 32) (by decide) ?_ ?_
    · refine e_iconst dX11_isSign_32 (v := 0) (by decide) ?_
      refine e_iadd dX11_isSign_33 ?_
      refine q_putI dX11_isSign_34 lf_M_131 rfl (by decide) (am_Lk hL rfl) ?_
      refine e_iload_n dX11_isSign_37 rfl ?_
      exact e_zretq dX11_isSign_38 rfl rfl
    · refine e_iconst dX11_isSign_28 (v := 1) (by decide) ?_
      refine e_goto dX11_isSign_29 (tgt := 33) (by decide) ?_
      refine e_iadd dX11_isSign_33 ?_
      refine q_putI dX11_isSign_34 lf_M_131 rfl (by decide) (am_Lk hL rfl) ?_
      refine e_iload_n dX11_isSign_37 rfl ?_
      exact e_zretq dX11_isSign_38 rfl rfl
  · refine e_if2_ne dX11_isSign_10 (tgt := 17) (by decide) ?_ ?_
    · refine e_iconst dX11_isSign_17 (v := 0) (by decide) ?_
      refine e_msk [true, false, false, false] (LS1 := [_, none, none, none]) rfl ?_
      exact hj2 0
    · refine e_iconst dX11_isSign_13 (v := 1) (by decide) ?_
      refine e_goto dX11_isSign_14 (tgt := 18) (by decide) ?_
      refine e_msk [true, false, false, false] (LS1 := [_, none, none, none]) rfl ?_
      exact hj2 1

