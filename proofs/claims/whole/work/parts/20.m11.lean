def f_X10_lay (a1 : Int32) (a2 : Int32) (a3 : Int32) (u : am_U) : Option (Int32 × am_U) :=
  (f_X10_refusePlace 5 a1 a2 u).bind (fun q1 =>
  if q1.1 = 0 then (
    am_ck (am_ix a1 6) (
    am_ck (am_ix a2 60) (
    let x4 : Int32 := q1.2 ((2 * a1.toNatClampNeg + 40) + 1) a2.toNatClampNeg
    let u6 : am_U := am_w q1.2 ((2 * a1.toNatClampNeg + 40) + 1) a2.toNatClampNeg a3
    (f_X10_tell 1 x4 u6).bind (fun q7 =>
    some (q7.1, q7.2)))))
  else (
    some (q1.1, q1.2)))
set_option maxRecDepth 100000 in
set_option maxHeartbeats 4000000 in
theorem s_X10_lay {l : Launch} {g : am_G} {B : am_M} {pl : Nat} (hL : am_Lay B pl) (a1 : Int32) (a2 : Int32) (a3 : Int32)  (u : am_U) : am_E l g d_X10_lay 0 (am_ent d_X10_lay [.ref (4), .int (a1), .int (a2), .int (a3)]) [] (am_of B u) (am_r (am_bI B) (f_X10_lay a1 a2 a3 u)) := by
  unfold f_X10_lay
  show am_E l g d_X10_lay 0 [some (.ref (4)), some (.int (a1)), some (.int (a2)), some (.int (a3)), none, none] [] (am_of B u) _
  refine e_aload_n dX10_lay_0 rfl ?_
  refine e_aload_n dX10_lay_1 rfl ?_
  refine q_getR (r := 5) dX10_lay_2 lf_N_11 rfl (by decide) (am_Lk hL rfl) (am_Lr hL rfl) ?_
  refine e_iload_n dX10_lay_5 rfl ?_
  refine e_iload_n dX10_lay_6 rfl ?_
  refine q_callVI (As := [_, _, _]) rfl dX10_lay_7 lm_N_94 (am_fitB rfl) yo_X10_refusePlace ys_X10_refusePlace rfl rfl (by decide) (am_Lk hL rfl) rfl (Nat.le_of_ble_eq_true rfl) (Nat.le_of_ble_eq_true rfl) (s_X10_refusePlace hL _ _ _ (am_rows5 hL) _) (fun q1 => ?_)
  refine e_istore dX10_lay_10 (by decide) (LS1 := [_, _, _, _, _, none]) rfl ?_
  refine e_iload dX10_lay_12 rfl ?_
  refine e_if_eq dX10_lay_14 (tgt := 20) (by decide) ?_ ?_
  · refine e_aload_n dX10_lay_20 rfl ?_
    refine q_getR (r := 5) dX10_lay_21 lf_N_11 rfl (by decide) (am_Lk hL rfl) (am_Lr hL rfl) ?_
    refine e_iload_n dX10_lay_24 rfl ?_
    refine q_aald (n := 6) (rid := 2 * a1.toNatClampNeg + 40) dX10_lay_25 (am_rows5 hL).1 (fun h => ((am_rows5 hL).2 _ h).1) (fun i2 => ?_)
    refine q_getR (r := (2 * a1.toNatClampNeg + 40) + 1) dX10_lay_26 lf_N_98 rfl (by decide) (congrArg Prod.fst ((am_rows5 hL).2 _ i2).2.1) (am_avs ((am_rows5 hL).2 _ i2).2.2.1) ?_
    refine e_iload_n dX10_lay_29 rfl ?_
    refine q_ialdH dX10_lay_30 ((am_rows5 hL).2 _ i2).2.2.2 (fun i3 => ?_)
    refine e_istore dX10_lay_31 (by decide) (LS1 := [_, _, _, _, _, _]) rfl ?_
    refine e_aload_n dX10_lay_33 rfl ?_
    refine q_getR (r := 5) dX10_lay_34 lf_N_11 rfl (by decide) (am_Lk hL rfl) (am_Lr hL rfl) ?_
    refine e_iload_n dX10_lay_37 rfl ?_
    refine q_aaldK (rid := 2 * a1.toNatClampNeg + 40) dX10_lay_38 (am_rows5 hL).1 i2 ((am_rows5 hL).2 _ i2).1 ?_
    refine q_getR (r := (2 * a1.toNatClampNeg + 40) + 1) dX10_lay_39 lf_N_98 rfl (by decide) (congrArg Prod.fst ((am_rows5 hL).2 _ i2).2.1) (am_avs ((am_rows5 hL).2 _ i2).2.2.1) ?_
    refine e_iload_n dX10_lay_42 rfl ?_
    refine e_iload_n dX10_lay_43 rfl ?_
    refine q_iastC (jn := _) dX10_lay_44 ((am_rows5 hL).2 _ i2).2.2.2 i3 rfl ?_
    refine e_aload_n dX10_lay_45 rfl ?_
    refine e_iconst dX10_lay_46 (v := 1) (by decide) ?_
    refine e_iload dX10_lay_47 rfl ?_
    refine q_callVI (As := [_, _]) rfl dX10_lay_49 lm_N_101 (am_fitB rfl) yo_X10_tell ys_X10_tell rfl rfl (by decide) (am_Lk hL rfl) rfl (Nat.le_of_ble_eq_true rfl) (Nat.le_of_ble_eq_true rfl) (s_X10_tell hL _ _  _) (fun q7 => ?_)
    exact e_iret dX10_lay_52 rfl rfl
  · refine e_iload dX10_lay_17 rfl ?_
    exact e_iret dX10_lay_19 rfl rfl

def f_X10_mirror_43 (pl : Nat) (u : am_U) (v2 : Int32) (v3 : Int32) (k74 : Int32 → Int32 → Option (Int32 × am_U)) : Nat → Int32 → Int32 → Option (Int32 × am_U)
  | 0, _, _ => none
  | n + 1, v4, v5 =>
    if 7992 ≤ v5 then (
      some (((-9) : Int32), u))
    else (
      (f_X5_isBright pl v5 u).bind (fun q5 =>
      am_jn (fun (j6v4 : Int32) =>
        if (j6v4 * v3) < v2 then (
          f_X10_mirror_43 pl u v2 v3 k74 n j6v4 (v5 + 1))
        else (
          k74 j6v4 v5)) (fun j6 =>
      if q5 = 0 then (
        j6 v4)
      else (
        j6 (v4 + 1)))))
def f_X10_mirror (pl : Nat) (a1 : Int32) (a2 : Int32) (u : am_U) : Option (Int32 × am_U) :=
  (f_X10_isValley a1).bind (fun q1 =>
  if q1 = 0 then (
    some (((-1) : Int32), u))
  else (
    (f_X10_isWithin a2 1 999).bind (fun q2 =>
    if ¬ q2 = 0 then (
      am_ck (am_ix a1 5) (
      let x4 : Int32 := u (pl + 2) a1.toNatClampNeg
      if ¬ x4 = 0 then (
        f_X10_mirror_43 pl u a2 x4 (fun (c7v4 : Int32) (c7v5 : Int32) =>
          (f_X10_tell (c7v5 + 1) c7v4 u).bind (fun q8 =>
          some (q8.1, q8.2))) 20000 0 0)
      else (
        some (((-9) : Int32), u))))
    else (
      some (((-1) : Int32), u)))))
set_option maxRecDepth 100000 in
set_option maxHeartbeats 4000000 in
theorem s_X10_mirror_43 {l : Launch} {g : am_G} {B : am_M} {pl : Nat} (hL : am_Lay B pl) (u : am_U) (v2 : Int32) (v3 : Int32)  (k74 : Int32 → Int32 → Option (Int32 × am_U)) (hk74 : ∀ (v4 : Int32) (v5 : Int32), am_E l g d_X10_mirror 74 [some (.ref (4)), none, none, none, some (.int (v4)), some (.int (v5))] [] (am_of B u) (am_r (am_bI B) (k74 v4 v5))) : ∀ (n : Nat) (v4 : Int32) (v5 : Int32), am_E l g d_X10_mirror 43 [some (.ref (4)), none, some (.int (v2)), some (.int (v3)), some (.int (v4)), some (.int (v5))] [] (am_of B u) (am_r (am_bI B) (f_X10_mirror_43 pl u v2 v3 k74 n v4 v5)) := by
  intro n
  induction n with
  | zero => intro v4 v5; exact am_none
  | succ n ih =>
    intro v4 v5
    unfold f_X10_mirror_43
    refine e_iload dX10_mirror_43 rfl ?_
    refine e_sipush dX10_mirror_45 (v := 7992) (by decide) ?_
    refine e_if2_ge dX10_mirror_48 (tgt := 91) (by decide) ?_ ?_
    · refine e_bipush dX10_mirror_91 (v := ((-9) : Int32)) (by decide) ?_
      exact e_iret dX10_mirror_93 rfl rfl
    · refine e_aload_n dX10_mirror_51 rfl ?_
      refine q_getR (r := pl) dX10_mirror_52 lf_N_72 rfl (by decide) (am_Lk hL rfl) (am_Lpl hL) ?_
      refine e_iload dX10_mirror_55 rfl ?_
      refine q_callVP (As := [_]) rfl dX10_mirror_57 lm_N_184 (am_fitB rfl) yo_X5_isBright ys_X5_isBright rfl rfl (by decide) (congrArg Prod.fst (am_pln hL).1) rfl (Nat.le_of_ble_eq_true rfl) (Nat.le_of_ble_eq_true rfl) (s_X5_isBright hL _ _ (am_pln hL) _) (fun q5 => ?_)
      refine e_jn (P := fun t : Int32 → Option (Int32 × am_U) => ∀ (j6v4 : Int32), am_E l g d_X10_mirror 66 [some (.ref (4)), none, some (.int (v2)), some (.int (v3)), some (.int (j6v4)), some (.int (v5))] [] (am_of B u) (am_r (am_bI B) (t j6v4))) ?_ (fun j6 hj6 => ?_)
      · intro j6v4
        refine e_iload dX10_mirror_66 rfl ?_
        refine e_iload_n dX10_mirror_68 rfl ?_
        refine e_imul dX10_mirror_69 ?_
        refine e_iload_n dX10_mirror_70 rfl ?_
        refine e_if2_lt dX10_mirror_71 (tgt := 85) (by decide) ?_ ?_
        · refine e_iinc dX10_mirror_85 rfl (v := _ + 1) rfl (by decide) (LS1 := [_, none, _, _, _, _]) rfl ?_
          refine e_goto dX10_mirror_88 (tgt := 43) (by decide) ?_
          exact ih j6v4 (v5 + 1)
        · refine e_msk [true, false, false, false, true, true] (LS1 := [_, none, none, none, _, _]) rfl ?_
          exact hk74 j6v4 v5
      · refine e_if_eq dX10_mirror_60 (tgt := 66) (by decide) ?_ ?_
        · refine e_msk [true, false, true, true, true, true] (LS1 := [_, none, _, _, _, _]) rfl ?_
          exact hj6 v4
        · refine e_iinc dX10_mirror_63 rfl (v := _ + 1) rfl (by decide) (LS1 := [_, none, _, _, _, _]) rfl ?_
          refine e_msk [true, false, true, true, true, true] (LS1 := [_, none, _, _, _, _]) rfl ?_
          exact hj6 (v4 + 1)

set_option maxRecDepth 100000 in
set_option maxHeartbeats 4000000 in
theorem s_X10_mirror {l : Launch} {g : am_G} {B : am_M} {pl : Nat} (hL : am_Lay B pl) (a1 : Int32) (a2 : Int32)  (u : am_U) : am_E l g d_X10_mirror 0 (am_ent d_X10_mirror [.ref (4), .int (a1), .int (a2)]) [] (am_of B u) (am_r (am_bI B) (f_X10_mirror pl a1 a2 u)) := by
  unfold f_X10_mirror
  show am_E l g d_X10_mirror 0 [some (.ref (4)), some (.int (a1)), some (.int (a2)), none, none, none] [] (am_of B u) _
  refine e_iload_n dX10_mirror_0 rfl ?_
  refine q_callSP (As := [_]) rfl dX10_mirror_1 lm_N_251 (am_fitB rfl) yo_X10_isValley ys_X10_isValley rfl (Nat.le_of_ble_eq_true rfl) (Nat.le_of_ble_eq_true rfl) (s_X10_isValley hL _  _) (fun q1 => ?_)
  refine e_if_eq dX10_mirror_4 (tgt := 18) (by decide) ?_ ?_
  · refine e_iconst dX10_mirror_18 (v := ((-1) : Int32)) (by decide) ?_
    exact e_iret dX10_mirror_19 rfl rfl
  · refine e_iload_n dX10_mirror_7 rfl ?_
    refine e_iconst dX10_mirror_8 (v := 1) (by decide) ?_
    refine e_sipush dX10_mirror_9 (v := 999) (by decide) ?_
    refine q_callSP (As := [_, _, _]) rfl dX10_mirror_12 lm_N_86 (am_fitB rfl) yo_X10_isWithin ys_X10_isWithin rfl (Nat.le_of_ble_eq_true rfl) (Nat.le_of_ble_eq_true rfl) (s_X10_isWithin hL _ _ _  _) (fun q2 => ?_)
    refine e_if_ne dX10_mirror_15 (tgt := 20) (by decide) ?_ ?_
    · refine e_aload_n dX10_mirror_20 rfl ?_
      refine q_getR (r := pl) dX10_mirror_21 lf_N_72 rfl (by decide) (am_Lk hL rfl) (am_Lpl hL) ?_
      refine q_getR (r := pl + 2) dX10_mirror_24 lf_N_262 rfl (by decide) (congrArg Prod.fst (am_pln hL).1) (am_avs (am_pln hL).2.1.2.1) ?_
      refine e_iload_n dX10_mirror_27 rfl ?_
      refine q_ialdH dX10_mirror_28 (am_pln hL).2.2.2.1 (fun i3 => ?_)
      refine e_istore_n dX10_mirror_29 (by decide) (LS1 := [_, _, _, _, none, none]) rfl ?_
      refine e_iload_n dX10_mirror_30 rfl ?_
      refine e_if_ne dX10_mirror_31 (tgt := 37) (by decide) ?_ ?_
      · refine e_iconst dX10_mirror_37 (v := 0) (by decide) ?_
        refine e_istore dX10_mirror_38 (by decide) (LS1 := [_, _, _, _, _, none]) rfl ?_
        refine e_iconst dX10_mirror_40 (v := 0) (by decide) ?_
        refine e_istore dX10_mirror_41 (by decide) (LS1 := [_, _, _, _, _, _]) rfl ?_
        refine e_msk [true, false, true, true, true, true] (LS1 := [_, none, _, _, _, _]) rfl ?_
        refine s_X10_mirror_43 hL _ _ _ _ (fun c7v4 c7v5 => ?_) _ _ _
        · refine e_aload_n dX10_mirror_74 rfl ?_
          refine e_iload dX10_mirror_75 rfl ?_
          refine e_iconst dX10_mirror_77 (v := 1) (by decide) ?_
          refine e_iadd dX10_mirror_78 ?_
          refine e_iload dX10_mirror_79 rfl ?_
          refine q_callVI (As := [_, _]) rfl dX10_mirror_81 lm_N_101 (am_fitB rfl) yo_X10_tell ys_X10_tell rfl rfl (by decide) (am_Lk hL rfl) rfl (Nat.le_of_ble_eq_true rfl) (Nat.le_of_ble_eq_true rfl) (s_X10_tell hL _ _  _) (fun q8 => ?_)
          exact e_iret dX10_mirror_84 rfl rfl
      · refine e_bipush dX10_mirror_34 (v := ((-9) : Int32)) (by decide) ?_
        exact e_iret dX10_mirror_36 rfl rfl
    · refine e_iconst dX10_mirror_18 (v := ((-1) : Int32)) (by decide) ?_
      exact e_iret dX10_mirror_19 rfl rfl

def f_X10_mixed (pl : Nat) (u : am_U) : Option (Int32 × am_U) :=
  if ¬ (u pl 2) = 0 then (
    (f_X0_gather pl u).bind (fun q1 =>
    if ¬ q1.1 = 0 then (
      (f_X10_tell q1.1 (q1.2 24 0) q1.2).bind (fun q2 =>
      some (q2.1, q2.2)))
    else (
      some (((-9) : Int32), q1.2))))
  else (
    some (((-4) : Int32), u))
set_option maxRecDepth 100000 in
set_option maxHeartbeats 4000000 in
theorem s_X10_mixed {l : Launch} {g : am_G} {B : am_M} {pl : Nat} (hL : am_Lay B pl)   (u : am_U) : am_E l g d_X10_mixed 0 (am_ent d_X10_mixed [.ref (4)]) [] (am_of B u) (am_r (am_bI B) (f_X10_mixed pl u)) := by
  unfold f_X10_mixed
  show am_E l g d_X10_mixed 0 [some (.ref (4)), none] [] (am_of B u) _
  refine e_aload_n dX10_mixed_0 rfl ?_
  refine q_getR (r := pl) dX10_mixed_1 lf_N_72 rfl (by decide) (am_Lk hL rfl) (am_Lpl hL) ?_
  refine q_getI dX10_mixed_4 lf_N_144 (by decide) (congrArg Prod.fst (am_pln hL).1) ?_
  refine e_if_ne dX10_mixed_7 (tgt := 13) (by decide) ?_ ?_
  · refine e_aload_n dX10_mixed_13 rfl ?_
    refine q_getR (r := 21) dX10_mixed_14 lf_N_55 rfl (by decide) (am_Lk hL rfl) (am_Lr hL rfl) ?_
    refine e_aload_n dX10_mixed_17 rfl ?_
    refine q_getR (r := pl) dX10_mixed_18 lf_N_72 rfl (by decide) (am_Lk hL rfl) (am_Lpl hL) ?_
    refine q_callVI (As := [_]) rfl dX10_mixed_21 lm_N_300 (am_fitB rfl) yo_X0_gather ys_X0_gather rfl rfl (by decide) (am_Lk hL rfl) rfl (Nat.le_of_ble_eq_true rfl) (Nat.le_of_ble_eq_true rfl) (s_X0_gather hL _ (am_pln hL) _) (fun q1 => ?_)
    refine e_istore_n dX10_mixed_24 (by decide) (LS1 := [_, _]) rfl ?_
    refine e_iload_n dX10_mixed_25 rfl ?_
    refine e_if_ne dX10_mixed_26 (tgt := 34) (by decide) ?_ ?_
    · refine e_aload_n dX10_mixed_34 rfl ?_
      refine e_iload_n dX10_mixed_35 rfl ?_
      refine e_aload_n dX10_mixed_36 rfl ?_
      refine q_getR (r := 21) dX10_mixed_37 lf_N_55 rfl (by decide) (am_Lk hL rfl) (am_Lr hL rfl) ?_
      refine q_getR (r := 24) dX10_mixed_40 lf_N_304 rfl (by decide) (am_Lk hL rfl) (am_Lr hL rfl) ?_
      refine e_iconst dX10_mixed_43 (v := 0) (by decide) ?_
      refine q_ialdC (jn := 0) dX10_mixed_44 (am_Ls hL rfl) (by decide) (by decide) ?_
      refine q_callVI (As := [_, _]) rfl dX10_mixed_45 lm_N_101 (am_fitB rfl) yo_X10_tell ys_X10_tell rfl rfl (by decide) (am_Lk hL rfl) rfl (Nat.le_of_ble_eq_true rfl) (Nat.le_of_ble_eq_true rfl) (s_X10_tell hL _ _  _) (fun q2 => ?_)
      exact e_iret dX10_mixed_48 rfl rfl
    · refine e_bipush dX10_mixed_29 (v := ((-9) : Int32)) (by decide) ?_
      refine e_goto dX10_mixed_31 (tgt := 48) (by decide) ?_
      exact e_iret dX10_mixed_48 rfl rfl
  · refine e_bipush dX10_mixed_10 (v := ((-4) : Int32)) (by decide) ?_
    exact e_iret dX10_mixed_12 rfl rfl

def f_X10_night (pl : Nat) (u : am_U) : Option (Int32 × am_U) :=
  if (u 8 5) < 999 then (
    (f_X1_remember 5 u).bind (fun q1 =>
    (f_X10_leakAll pl q1).bind (fun q2 =>
    (f_X10_countDark pl q2.2).bind (fun q3 =>
    (f_X9_startDay q3.2).bind (fun q4 =>
    (f_X10_tell q2.1 q3.1 q4).bind (fun q5 =>
    some (q5.1, q5.2)))))))
  else (
    some (((-2) : Int32), u))
set_option maxRecDepth 100000 in
set_option maxHeartbeats 4000000 in
theorem s_X10_night {l : Launch} {g : am_G} {B : am_M} {pl : Nat} (hL : am_Lay B pl)   (u : am_U) : am_E l g d_X10_night 0 (am_ent d_X10_night [.ref (4)]) [] (am_of B u) (am_r (am_bI B) (f_X10_night pl u)) := by
  unfold f_X10_night
  show am_E l g d_X10_night 0 [some (.ref (4)), none, none] [] (am_of B u) _
  refine e_aload_n dX10_night_0 rfl ?_
  refine q_getR (r := 8) dX10_night_1 lf_N_28 rfl (by decide) (am_Lk hL rfl) (am_Lr hL rfl) ?_
  refine q_getI dX10_night_4 lf_N_190 (by decide) (am_Lk hL rfl) ?_
  refine e_sipush dX10_night_7 (v := 999) (by decide) ?_
  refine e_if2_lt dX10_night_10 (tgt := 16) (by decide) ?_ ?_
  · refine e_aload_n dX10_night_16 rfl ?_
    refine q_getR (r := 14) dX10_night_17 lf_N_35 rfl (by decide) (am_Lk hL rfl) (am_Lr hL rfl) ?_
    refine e_iconst dX10_night_20 (v := 5) (by decide) ?_
    refine e_aload_n dX10_night_21 rfl ?_
    refine q_getR (r := 8) dX10_night_22 lf_N_28 rfl (by decide) (am_Lk hL rfl) (am_Lr hL rfl) ?_
    refine q_callVV (As := [_, _]) rfl dX10_night_25 lm_N_193 (am_fitB rfl) yo_X1_remember ys_X1_remember rfl rfl (by decide) (am_Lk hL rfl) rfl (Nat.le_of_ble_eq_true rfl) (Nat.le_of_ble_eq_true rfl) (s_X1_remember hL _  _) (fun q1 => ?_)
    refine e_aload_n dX10_night_28 rfl ?_
    refine q_callVI (As := []) rfl dX10_night_29 lm_N_214 (am_fitB rfl) yo_X10_leakAll ys_X10_leakAll rfl rfl (by decide) (am_Lk hL rfl) rfl (Nat.le_of_ble_eq_true rfl) (Nat.le_of_ble_eq_true rfl) (s_X10_leakAll hL   _) (fun q2 => ?_)
    refine e_istore_n dX10_night_32 (by decide) (LS1 := [_, _, none]) rfl ?_
    refine e_aload_n dX10_night_33 rfl ?_
    refine q_callVI (As := []) rfl dX10_night_34 lm_N_218 (am_fitB rfl) yo_X10_countDark ys_X10_countDark rfl rfl (by decide) (am_Lk hL rfl) rfl (Nat.le_of_ble_eq_true rfl) (Nat.le_of_ble_eq_true rfl) (s_X10_countDark hL   _) (fun q3 => ?_)
    refine e_istore_n dX10_night_37 (by decide) (LS1 := [_, _, _]) rfl ?_
    refine e_aload_n dX10_night_38 rfl ?_
    refine q_getR (r := 8) dX10_night_39 lf_N_28 rfl (by decide) (am_Lk hL rfl) (am_Lr hL rfl) ?_
    refine q_callVV (As := []) rfl dX10_night_42 lm_N_221 (am_fitB rfl) yo_X9_startDay ys_X9_startDay rfl rfl (by decide) (am_Lk hL rfl) rfl (Nat.le_of_ble_eq_true rfl) (Nat.le_of_ble_eq_true rfl) (s_X9_startDay hL   _) (fun q4 => ?_)
    refine e_aload_n dX10_night_45 rfl ?_
    refine e_iload_n dX10_night_46 rfl ?_
    refine e_iload_n dX10_night_47 rfl ?_
    refine q_callVI (As := [_, _]) rfl dX10_night_48 lm_N_101 (am_fitB rfl) yo_X10_tell ys_X10_tell rfl rfl (by decide) (am_Lk hL rfl) rfl (Nat.le_of_ble_eq_true rfl) (Nat.le_of_ble_eq_true rfl) (s_X10_tell hL _ _  _) (fun q5 => ?_)
    exact e_iret dX10_night_51 rfl rfl
  · refine e_bipush dX10_night_13 (v := ((-2) : Int32)) (by decide) ?_
    exact e_iret dX10_night_15 rfl rfl

def f_X10_pour (pl : Nat) (a1 : Int32) (a2 : Int32) (u : am_U) : Option (Int32 × am_U) :=
  (f_X10_isJar pl a1 u).bind (fun q1 =>
  if q1 = 0 then (
    some (((-1) : Int32), u))
  else (
    (f_X10_isJar pl a2 u).bind (fun q2 =>
    if q2 = 0 then (
      some (((-1) : Int32), u))
    else (
      if ¬ a1 = a2 then (
        am_ck (am_ix a1 6) (
        am_ck (am_ix a2 6) (
        (f_X2_taken (u 9 a1.toNatClampNeg) ((u (pl + 4) a2.toNatClampNeg) - (u 9 a2.toNatClampNeg))).bind (fun q5 =>
        (f_X2_comesOver q5).bind (fun q6 =>
        if ¬ (u 10 a1.toNatClampNeg) = (u 10 a2.toNatClampNeg) then (
          some (((-4) : Int32), u))
        else (
          if ¬ q6 = 0 then (
            (f_X1_remember 2 u).bind (fun q7 =>
            let u8 : am_U := am_w q7 9 a1.toNatClampNeg ((q7 9 a1.toNatClampNeg) - q5)
            let u9 : am_U := am_w u8 9 a2.toNatClampNeg ((u8 9 a2.toNatClampNeg) + q6)
            let u10 : am_U := am_w u9 11 a1.toNatClampNeg 1
            let u11 : am_U := am_w u10 11 a2.toNatClampNeg 1
            (f_X10_tell q6 (q5 - q6) u11).bind (fun q12 =>
            some (q12.1, q12.2))))
          else (
            some (((-4) : Int32), u))))))))
      else (
        some (((-1) : Int32), u))))))
set_option maxRecDepth 100000 in
set_option maxHeartbeats 4000000 in
theorem s_X10_pour {l : Launch} {g : am_G} {B : am_M} {pl : Nat} (hL : am_Lay B pl) (a1 : Int32) (a2 : Int32)  (u : am_U) : am_E l g d_X10_pour 0 (am_ent d_X10_pour [.ref (4), .int (a1), .int (a2)]) [] (am_of B u) (am_r (am_bI B) (f_X10_pour pl a1 a2 u)) := by
  unfold f_X10_pour
  show am_E l g d_X10_pour 0 [some (.ref (4)), some (.int (a1)), some (.int (a2)), none, none] [] (am_of B u) _
  refine e_aload_n dX10_pour_0 rfl ?_
  refine e_iload_n dX10_pour_1 rfl ?_
  refine q_callVP (As := [_]) rfl dX10_pour_2 lm_N_147 (am_fitB rfl) yo_X10_isJar ys_X10_isJar rfl rfl (by decide) (am_Lk hL rfl) rfl (Nat.le_of_ble_eq_true rfl) (Nat.le_of_ble_eq_true rfl) (s_X10_isJar hL _  _) (fun q1 => ?_)
  refine e_if_eq dX10_pour_5 (tgt := 21) (by decide) ?_ ?_
  · refine e_iconst dX10_pour_21 (v := ((-1) : Int32)) (by decide) ?_
    exact e_iret dX10_pour_22 rfl rfl
  · refine e_aload_n dX10_pour_8 rfl ?_
    refine e_iload_n dX10_pour_9 rfl ?_
    refine q_callVP (As := [_]) rfl dX10_pour_10 lm_N_147 (am_fitB rfl) yo_X10_isJar ys_X10_isJar rfl rfl (by decide) (am_Lk hL rfl) rfl (Nat.le_of_ble_eq_true rfl) (Nat.le_of_ble_eq_true rfl) (s_X10_isJar hL _  _) (fun q2 => ?_)
    refine e_if_eq dX10_pour_13 (tgt := 21) (by decide) ?_ ?_
    · refine e_iconst dX10_pour_21 (v := ((-1) : Int32)) (by decide) ?_
      exact e_iret dX10_pour_22 rfl rfl
    · refine e_iload_n dX10_pour_16 rfl ?_
      refine e_iload_n dX10_pour_17 rfl ?_
      refine e_if2_ne dX10_pour_18 (tgt := 23) (by decide) ?_ ?_
      · refine e_aload_n dX10_pour_23 rfl ?_
        refine q_getR (r := 8) dX10_pour_24 lf_N_28 rfl (by decide) (am_Lk hL rfl) (am_Lr hL rfl) ?_
        refine q_getR (r := 9) dX10_pour_27 lf_N_162 rfl (by decide) (am_Lk hL rfl) (am_Lr hL rfl) ?_
        refine e_iload_n dX10_pour_30 rfl ?_
        refine q_ialdH dX10_pour_31 (am_Ls hL rfl) (fun i3 => ?_)
        refine e_aload_n dX10_pour_32 rfl ?_
        refine q_getR (r := pl) dX10_pour_33 lf_N_72 rfl (by decide) (am_Lk hL rfl) (am_Lpl hL) ?_
        refine q_getR (r := pl + 4) dX10_pour_36 lf_N_197 rfl (by decide) (congrArg Prod.fst (am_pln hL).1) (am_avs (am_pln hL).2.1.2.2.2) ?_
        refine e_iload_n dX10_pour_39 rfl ?_
        refine q_ialdH dX10_pour_40 (am_pln hL).2.2.2.2.2 (fun i4 => ?_)
        refine e_aload_n dX10_pour_41 rfl ?_
        refine q_getR (r := 8) dX10_pour_42 lf_N_28 rfl (by decide) (am_Lk hL rfl) (am_Lr hL rfl) ?_
        refine q_getR (r := 9) dX10_pour_45 lf_N_162 rfl (by decide) (am_Lk hL rfl) (am_Lr hL rfl) ?_
        refine e_iload_n dX10_pour_48 rfl ?_
        refine q_ialdC (jn := _) dX10_pour_49 (am_Ls hL rfl) i4 rfl ?_
        refine e_isub dX10_pour_50 ?_
        refine q_callSP (As := [_, _]) rfl dX10_pour_51 lm_N_206 (am_fitB rfl) yo_X2_taken ys_X2_taken rfl (Nat.le_of_ble_eq_true rfl) (Nat.le_of_ble_eq_true rfl) (s_X2_taken hL _ _  _) (fun q5 => ?_)
        refine e_istore_n dX10_pour_54 (by decide) (LS1 := [_, _, _, _, none]) rfl ?_
        refine e_iload_n dX10_pour_55 rfl ?_
        refine q_callSP (As := [_]) rfl dX10_pour_56 lm_N_209 (am_fitB rfl) yo_X2_comesOver ys_X2_comesOver rfl (Nat.le_of_ble_eq_true rfl) (Nat.le_of_ble_eq_true rfl) (s_X2_comesOver hL _  _) (fun q6 => ?_)
        refine e_istore dX10_pour_59 (by decide) (LS1 := [_, _, _, _, _]) rfl ?_
        refine e_aload_n dX10_pour_61 rfl ?_
        refine q_getR (r := 8) dX10_pour_62 lf_N_28 rfl (by decide) (am_Lk hL rfl) (am_Lr hL rfl) ?_
        refine q_getR (r := 10) dX10_pour_65 lf_N_187 rfl (by decide) (am_Lk hL rfl) (am_Lr hL rfl) ?_
        refine e_iload_n dX10_pour_68 rfl ?_
        refine q_ialdC (jn := _) dX10_pour_69 (am_Ls hL rfl) i3 rfl ?_
        refine e_aload_n dX10_pour_70 rfl ?_
        refine q_getR (r := 8) dX10_pour_71 lf_N_28 rfl (by decide) (am_Lk hL rfl) (am_Lr hL rfl) ?_
        refine q_getR (r := 10) dX10_pour_74 lf_N_187 rfl (by decide) (am_Lk hL rfl) (am_Lr hL rfl) ?_
        refine e_iload_n dX10_pour_77 rfl ?_
        refine q_ialdC (jn := _) dX10_pour_78 (am_Ls hL rfl) i4 rfl ?_
        refine e_if2_ne dX10_pour_79 (tgt := 87) (by decide) ?_ ?_
        · refine e_bipush dX10_pour_87 (v := ((-4) : Int32)) (by decide) ?_
          exact e_iret dX10_pour_89 rfl rfl
        · refine e_iload dX10_pour_82 rfl ?_
          refine e_if_ne dX10_pour_84 (tgt := 90) (by decide) ?_ ?_
          · refine e_aload_n dX10_pour_90 rfl ?_
            refine q_getR (r := 14) dX10_pour_91 lf_N_35 rfl (by decide) (am_Lk hL rfl) (am_Lr hL rfl) ?_
            refine e_iconst dX10_pour_94 (v := 2) (by decide) ?_
            refine e_aload_n dX10_pour_95 rfl ?_
            refine q_getR (r := 8) dX10_pour_96 lf_N_28 rfl (by decide) (am_Lk hL rfl) (am_Lr hL rfl) ?_
            refine q_callVV (As := [_, _]) rfl dX10_pour_99 lm_N_193 (am_fitB rfl) yo_X1_remember ys_X1_remember rfl rfl (by decide) (am_Lk hL rfl) rfl (Nat.le_of_ble_eq_true rfl) (Nat.le_of_ble_eq_true rfl) (s_X1_remember hL _  _) (fun q7 => ?_)
            refine e_aload_n dX10_pour_102 rfl ?_
            refine q_getR (r := 8) dX10_pour_103 lf_N_28 rfl (by decide) (am_Lk hL rfl) (am_Lr hL rfl) ?_
            refine q_getR (r := 9) dX10_pour_106 lf_N_162 rfl (by decide) (am_Lk hL rfl) (am_Lr hL rfl) ?_
            refine e_iload_n dX10_pour_109 rfl ?_
            refine e_dup2 dX10_pour_110 rfl rfl ?_
            refine q_ialdC (jn := _) dX10_pour_111 (am_Ls hL rfl) i3 rfl ?_
            refine e_iload_n dX10_pour_112 rfl ?_
            refine e_isub dX10_pour_113 ?_
            refine q_iastC (jn := _) dX10_pour_114 (am_Ls hL rfl) i3 rfl ?_
            refine e_aload_n dX10_pour_115 rfl ?_
            refine q_getR (r := 8) dX10_pour_116 lf_N_28 rfl (by decide) (am_Lk hL rfl) (am_Lr hL rfl) ?_
            refine q_getR (r := 9) dX10_pour_119 lf_N_162 rfl (by decide) (am_Lk hL rfl) (am_Lr hL rfl) ?_
            refine e_iload_n dX10_pour_122 rfl ?_
            refine e_dup2 dX10_pour_123 rfl rfl ?_
            refine q_ialdC (jn := _) dX10_pour_124 (am_Ls hL rfl) i4 rfl ?_
            refine e_iload dX10_pour_125 rfl ?_
            refine e_iadd dX10_pour_127 ?_
            refine q_iastC (jn := _) dX10_pour_128 (am_Ls hL rfl) i4 rfl ?_
            refine e_aload_n dX10_pour_129 rfl ?_
            refine q_getR (r := 8) dX10_pour_130 lf_N_28 rfl (by decide) (am_Lk hL rfl) (am_Lr hL rfl) ?_
            refine q_getR (r := 11) dX10_pour_133 lf_N_169 rfl (by decide) (am_Lk hL rfl) (am_Lr hL rfl) ?_
            refine e_iload_n dX10_pour_136 rfl ?_
            refine e_iconst dX10_pour_137 (v := 1) (by decide) ?_
            refine q_iastC (jn := _) dX10_pour_138 (am_Ls hL rfl) i3 rfl ?_
            refine e_aload_n dX10_pour_139 rfl ?_
            refine q_getR (r := 8) dX10_pour_140 lf_N_28 rfl (by decide) (am_Lk hL rfl) (am_Lr hL rfl) ?_
            refine q_getR (r := 11) dX10_pour_143 lf_N_169 rfl (by decide) (am_Lk hL rfl) (am_Lr hL rfl) ?_
            refine e_iload_n dX10_pour_146 rfl ?_
            refine e_iconst dX10_pour_147 (v := 1) (by decide) ?_
            refine q_iastC (jn := _) dX10_pour_148 (am_Ls hL rfl) i4 rfl ?_
            refine e_aload_n dX10_pour_149 rfl ?_
            refine e_iload dX10_pour_150 rfl ?_
            refine e_iload_n dX10_pour_152 rfl ?_
            refine e_iload dX10_pour_153 rfl ?_
            refine e_isub dX10_pour_155 ?_
            refine q_callVI (As := [_, _]) rfl dX10_pour_156 lm_N_101 (am_fitB rfl) yo_X10_tell ys_X10_tell rfl rfl (by decide) (am_Lk hL rfl) rfl (Nat.le_of_ble_eq_true rfl) (Nat.le_of_ble_eq_true rfl) (s_X10_tell hL _ _  _) (fun q12 => ?_)
            exact e_iret dX10_pour_159 rfl rfl
          · refine e_bipush dX10_pour_87 (v := ((-4) : Int32)) (by decide) ?_
            exact e_iret dX10_pour_89 rfl rfl
      · refine e_iconst dX10_pour_21 (v := ((-1) : Int32)) (by decide) ?_
        exact e_iret dX10_pour_22 rfl rfl

def f_X10_put (a1 : Int32) (a2 : Int32) (a3 : Int32) (u : am_U) : Option (Int32 × am_U) :=
  (f_X10_refusePlace 6 a1 a2 u).bind (fun q1 =>
  if q1.1 = 0 then (
    am_ck (am_ix a1 4) (
    am_ck (am_ix a2 60) (
    let x4 : Int32 := q1.2 ((2 * a1.toNatClampNeg + 52) + 1) a2.toNatClampNeg
    let u6 : am_U := am_w q1.2 ((2 * a1.toNatClampNeg + 52) + 1) a2.toNatClampNeg a3.toInt8.toInt32
    some (x4 + 1000, u6))))
  else (
    some (q1.1, q1.2)))
set_option maxRecDepth 100000 in
set_option maxHeartbeats 4000000 in
theorem s_X10_put {l : Launch} {g : am_G} {B : am_M} {pl : Nat} (hL : am_Lay B pl) (a1 : Int32) (a2 : Int32) (a3 : Int32)  (u : am_U) : am_E l g d_X10_put 0 (am_ent d_X10_put [.ref (4), .int (a1), .int (a2), .int (a3)]) [] (am_of B u) (am_r (am_bI B) (f_X10_put a1 a2 a3 u)) := by
  unfold f_X10_put
  show am_E l g d_X10_put 0 [some (.ref (4)), some (.int (a1)), some (.int (a2)), some (.int (a3)), none, none] [] (am_of B u) _
  refine e_aload_n dX10_put_0 rfl ?_
  refine e_aload_n dX10_put_1 rfl ?_
  refine q_getR (r := 6) dX10_put_2 lf_N_15 rfl (by decide) (am_Lk hL rfl) (am_Lr hL rfl) ?_
  refine e_iload_n dX10_put_5 rfl ?_
  refine e_iload_n dX10_put_6 rfl ?_
  refine q_callVI (As := [_, _, _]) rfl dX10_put_7 lm_N_94 (am_fitB rfl) yo_X10_refusePlace ys_X10_refusePlace rfl rfl (by decide) (am_Lk hL rfl) rfl (Nat.le_of_ble_eq_true rfl) (Nat.le_of_ble_eq_true rfl) (s_X10_refusePlace hL _ _ _ (am_rows6 hL) _) (fun q1 => ?_)
  refine e_istore dX10_put_10 (by decide) (LS1 := [_, _, _, _, _, none]) rfl ?_
  refine e_iload dX10_put_12 rfl ?_
  refine e_if_eq dX10_put_14 (tgt := 20) (by decide) ?_ ?_
  · refine e_aload_n dX10_put_20 rfl ?_
    refine q_getR (r := 6) dX10_put_21 lf_N_15 rfl (by decide) (am_Lk hL rfl) (am_Lr hL rfl) ?_
    refine e_iload_n dX10_put_24 rfl ?_
    refine q_aald (n := 4) (rid := 2 * a1.toNatClampNeg + 52) dX10_put_25 (am_rows6 hL).1 (fun h => ((am_rows6 hL).2 _ h).1) (fun i2 => ?_)
    refine q_getR (r := (2 * a1.toNatClampNeg + 52) + 1) dX10_put_26 lf_N_98 rfl (by decide) (congrArg Prod.fst ((am_rows6 hL).2 _ i2).2.1) (am_avs ((am_rows6 hL).2 _ i2).2.2.1) ?_
    refine e_iload_n dX10_put_29 rfl ?_
    refine q_ialdH dX10_put_30 ((am_rows6 hL).2 _ i2).2.2.2 (fun i3 => ?_)
    refine e_istore dX10_put_31 (by decide) (LS1 := [_, _, _, _, _, _]) rfl ?_
    refine e_aload_n dX10_put_33 rfl ?_
    refine q_getR (r := 6) dX10_put_34 lf_N_15 rfl (by decide) (am_Lk hL rfl) (am_Lr hL rfl) ?_
    refine e_iload_n dX10_put_37 rfl ?_
    refine q_aaldK (rid := 2 * a1.toNatClampNeg + 52) dX10_put_38 (am_rows6 hL).1 i2 ((am_rows6 hL).2 _ i2).1 ?_
    refine q_getR (r := (2 * a1.toNatClampNeg + 52) + 1) dX10_put_39 lf_N_98 rfl (by decide) (congrArg Prod.fst ((am_rows6 hL).2 _ i2).2.1) (am_avs ((am_rows6 hL).2 _ i2).2.2.1) ?_
    refine e_iload_n dX10_put_42 rfl ?_
    refine e_iload_n dX10_put_43 rfl ?_
    refine e_i2b dX10_put_44 ?_
    refine q_iastC (jn := _) dX10_put_45 ((am_rows6 hL).2 _ i2).2.2.2 i3 rfl ?_
    refine e_iload dX10_put_46 rfl ?_
    refine e_sipush dX10_put_48 (v := 1000) (by decide) ?_
    refine e_iadd dX10_put_51 ?_
    exact e_iret dX10_put_52 rfl rfl
  · refine e_iload dX10_put_17 rfl ?_
    exact e_iret dX10_put_19 rfl rfl

def f_X10_row (a1 : Int32) (a2 : Int32) (u : am_U) : Option (Int32 × am_U) :=
  (f_X10_isWithin a1 0 5).bind (fun q1 =>
  if q1 = 0 then (
    some (((-1) : Int32), u))
  else (
    am_ck (am_ix a1 6) (
    (f_X10_makeRow (2 * a1.toNatClampNeg + 40) a2 0 u).bind (fun q3 =>
    some (q3.1, q3.2)))))
set_option maxRecDepth 100000 in
set_option maxHeartbeats 4000000 in
theorem s_X10_row {l : Launch} {g : am_G} {B : am_M} {pl : Nat} (hL : am_Lay B pl) (a1 : Int32) (a2 : Int32)  (u : am_U) : am_E l g d_X10_row 0 (am_ent d_X10_row [.ref (4), .int (a1), .int (a2)]) [] (am_of B u) (am_r (am_bI B) (f_X10_row a1 a2 u)) := by
  unfold f_X10_row
  show am_E l g d_X10_row 0 [some (.ref (4)), some (.int (a1)), some (.int (a2))] [] (am_of B u) _
  refine e_iload_n dX10_row_0 rfl ?_
  refine e_iconst dX10_row_1 (v := 0) (by decide) ?_
  refine e_iconst dX10_row_2 (v := 5) (by decide) ?_
  refine q_callSP (As := [_, _, _]) rfl dX10_row_3 lm_N_86 (am_fitB rfl) yo_X10_isWithin ys_X10_isWithin rfl (Nat.le_of_ble_eq_true rfl) (Nat.le_of_ble_eq_true rfl) (s_X10_isWithin hL _ _ _  _) (fun q1 => ?_)
  refine e_if_eq dX10_row_6 (tgt := 24) (by decide) ?_ ?_
  · refine e_iconst dX10_row_24 (v := ((-1) : Int32)) (by decide) ?_
    exact e_iret dX10_row_25 rfl rfl
  · refine e_aload_n dX10_row_9 rfl ?_
    refine e_aload_n dX10_row_10 rfl ?_
    refine q_getR (r := 5) dX10_row_11 lf_N_11 rfl (by decide) (am_Lk hL rfl) (am_Lr hL rfl) ?_
    refine e_iload_n dX10_row_14 rfl ?_
    refine q_aald (n := 6) (rid := 2 * a1.toNatClampNeg + 40) dX10_row_15 (am_rows5 hL).1 (fun h => ((am_rows5 hL).2 _ h).1) (fun i2 => ?_)
    refine e_iload_n dX10_row_16 rfl ?_
    refine e_iconst dX10_row_17 (v := 0) (by decide) ?_
    refine q_callVI (As := [_, _, _]) rfl dX10_row_18 lm_N_90 (am_fitB rfl) yo_X10_makeRow ys_X10_makeRow rfl rfl (by decide) (am_Lk hL rfl) rfl (Nat.le_of_ble_eq_true rfl) (Nat.le_of_ble_eq_true rfl) (s_X10_makeRow hL _ _ _ ((am_rows5 hL).2 _ i2).2 _) (fun q3 => ?_)
    refine e_goto dX10_row_21 (tgt := 25) (by decide) ?_
    exact e_iret dX10_row_25 rfl rfl

def f_X10_spend (pl : Nat) (a1 : Int32) (a2 : Int32) (u : am_U) : Option (Int32 × am_U) :=
  (f_X10_isJar pl a1 u).bind (fun q1 =>
  if q1 = 0 then (
    some (((-1) : Int32), u))
  else (
    (f_X10_isWithin a2 1 20).bind (fun q2 =>
    if ¬ q2 = 0 then (
      am_ck (am_ix a1 6) (
      let x4 : Int32 := u (pl + 3) a1.toNatClampNeg
      (f_X2_hours x4 (u 9 a1.toNatClampNeg)).bind (fun q5 =>
      if a2 ≤ q5 then (
        (f_X1_remember 3 u).bind (fun q6 =>
        (f_X2_anHour x4).bind (fun q7 =>
        let u8 : am_U := am_w q6 9 a1.toNatClampNeg ((q6 9 a1.toNatClampNeg) - (a2 * q7))
        let u9 : am_U := am_w u8 11 a1.toNatClampNeg 1
        am_ck (am_ix (u9 10 a1.toNatClampNeg) 5) (
        let u11 : am_U := am_w u9 12 (u9 10 a1.toNatClampNeg).toNatClampNeg ((u9 12 (u9 10 a1.toNatClampNeg).toNatClampNeg) + a2)
        some (u11 9 a1.toNatClampNeg, u11)))))
      else (
        some (((-4) : Int32), u)))))
    else (
      some (((-1) : Int32), u)))))
set_option maxRecDepth 100000 in
set_option maxHeartbeats 4000000 in
theorem s_X10_spend {l : Launch} {g : am_G} {B : am_M} {pl : Nat} (hL : am_Lay B pl) (a1 : Int32) (a2 : Int32)  (u : am_U) : am_E l g d_X10_spend 0 (am_ent d_X10_spend [.ref (4), .int (a1), .int (a2)]) [] (am_of B u) (am_r (am_bI B) (f_X10_spend pl a1 a2 u)) := by
  unfold f_X10_spend
  show am_E l g d_X10_spend 0 [some (.ref (4)), some (.int (a1)), some (.int (a2)), none] [] (am_of B u) _
  refine e_aload_n dX10_spend_0 rfl ?_
  refine e_iload_n dX10_spend_1 rfl ?_
  refine q_callVP (As := [_]) rfl dX10_spend_2 lm_N_147 (am_fitB rfl) yo_X10_isJar ys_X10_isJar rfl rfl (by decide) (am_Lk hL rfl) rfl (Nat.le_of_ble_eq_true rfl) (Nat.le_of_ble_eq_true rfl) (s_X10_isJar hL _  _) (fun q1 => ?_)
  refine e_if_eq dX10_spend_5 (tgt := 18) (by decide) ?_ ?_
  · refine e_iconst dX10_spend_18 (v := ((-1) : Int32)) (by decide) ?_
    exact e_iret dX10_spend_19 rfl rfl
  · refine e_iload_n dX10_spend_8 rfl ?_
    refine e_iconst dX10_spend_9 (v := 1) (by decide) ?_
    refine e_bipush dX10_spend_10 (v := 20) (by decide) ?_
    refine q_callSP (As := [_, _, _]) rfl dX10_spend_12 lm_N_86 (am_fitB rfl) yo_X10_isWithin ys_X10_isWithin rfl (Nat.le_of_ble_eq_true rfl) (Nat.le_of_ble_eq_true rfl) (s_X10_isWithin hL _ _ _  _) (fun q2 => ?_)
    refine e_if_ne dX10_spend_15 (tgt := 20) (by decide) ?_ ?_
    · refine e_aload_n dX10_spend_20 rfl ?_
      refine q_getR (r := pl) dX10_spend_21 lf_N_72 rfl (by decide) (am_Lk hL rfl) (am_Lpl hL) ?_
      refine q_getR (r := pl + 3) dX10_spend_24 lf_N_156 rfl (by decide) (congrArg Prod.fst (am_pln hL).1) (am_avs (am_pln hL).2.1.2.2.1) ?_
      refine e_iload_n dX10_spend_27 rfl ?_
      refine q_ialdH dX10_spend_28 (am_pln hL).2.2.2.2.1 (fun i3 => ?_)
      refine e_istore_n dX10_spend_29 (by decide) (LS1 := [_, _, _, _]) rfl ?_
      refine e_iload_n dX10_spend_30 rfl ?_
      refine e_aload_n dX10_spend_31 rfl ?_
      refine q_getR (r := 8) dX10_spend_32 lf_N_28 rfl (by decide) (am_Lk hL rfl) (am_Lr hL rfl) ?_
      refine q_getR (r := 9) dX10_spend_35 lf_N_162 rfl (by decide) (am_Lk hL rfl) (am_Lr hL rfl) ?_
      refine e_iload_n dX10_spend_38 rfl ?_
      refine q_ialdC (jn := _) dX10_spend_39 (am_Ls hL rfl) i3 rfl ?_
      refine q_callSP (As := [_, _]) rfl dX10_spend_40 lm_N_172 (am_fitB rfl) yo_X2_hours ys_X2_hours rfl (Nat.le_of_ble_eq_true rfl) (Nat.le_of_ble_eq_true rfl) (s_X2_hours hL _ _  _) (fun q5 => ?_)
      refine e_iload_n dX10_spend_43 rfl ?_
      refine e_if2_ge dX10_spend_44 (tgt := 50) (by decide) ?_ ?_
      · refine e_aload_n dX10_spend_50 rfl ?_
        refine q_getR (r := 14) dX10_spend_51 lf_N_35 rfl (by decide) (am_Lk hL rfl) (am_Lr hL rfl) ?_
        refine e_iconst dX10_spend_54 (v := 3) (by decide) ?_
        refine e_aload_n dX10_spend_55 rfl ?_
        refine q_getR (r := 8) dX10_spend_56 lf_N_28 rfl (by decide) (am_Lk hL rfl) (am_Lr hL rfl) ?_
        refine q_callVV (As := [_, _]) rfl dX10_spend_59 lm_N_193 (am_fitB rfl) yo_X1_remember ys_X1_remember rfl rfl (by decide) (am_Lk hL rfl) rfl (Nat.le_of_ble_eq_true rfl) (Nat.le_of_ble_eq_true rfl) (s_X1_remember hL _  _) (fun q6 => ?_)
        refine e_aload_n dX10_spend_62 rfl ?_
        refine q_getR (r := 8) dX10_spend_63 lf_N_28 rfl (by decide) (am_Lk hL rfl) (am_Lr hL rfl) ?_
        refine q_getR (r := 9) dX10_spend_66 lf_N_162 rfl (by decide) (am_Lk hL rfl) (am_Lr hL rfl) ?_
        refine e_iload_n dX10_spend_69 rfl ?_
        refine e_dup2 dX10_spend_70 rfl rfl ?_
        refine q_ialdC (jn := _) dX10_spend_71 (am_Ls hL rfl) i3 rfl ?_
        refine e_iload_n dX10_spend_72 rfl ?_
        refine e_iload_n dX10_spend_73 rfl ?_
        refine q_callSP (As := [_]) rfl dX10_spend_74 lm_N_175 (am_fitB rfl) yo_X2_anHour ys_X2_anHour rfl (Nat.le_of_ble_eq_true rfl) (Nat.le_of_ble_eq_true rfl) (s_X2_anHour hL _  _) (fun q7 => ?_)
        refine e_imul dX10_spend_77 ?_
        refine e_isub dX10_spend_78 ?_
        refine q_iastC (jn := _) dX10_spend_79 (am_Ls hL rfl) i3 rfl ?_
        refine e_aload_n dX10_spend_80 rfl ?_
        refine q_getR (r := 8) dX10_spend_81 lf_N_28 rfl (by decide) (am_Lk hL rfl) (am_Lr hL rfl) ?_
        refine q_getR (r := 11) dX10_spend_84 lf_N_169 rfl (by decide) (am_Lk hL rfl) (am_Lr hL rfl) ?_
        refine e_iload_n dX10_spend_87 rfl ?_
        refine e_iconst dX10_spend_88 (v := 1) (by decide) ?_
        refine q_iastC (jn := _) dX10_spend_89 (am_Ls hL rfl) i3 rfl ?_
        refine e_aload_n dX10_spend_90 rfl ?_
        refine q_getR (r := 8) dX10_spend_91 lf_N_28 rfl (by decide) (am_Lk hL rfl) (am_Lr hL rfl) ?_
        refine q_getR (r := 12) dX10_spend_94 lf_N_212 rfl (by decide) (am_Lk hL rfl) (am_Lr hL rfl) ?_
        refine e_aload_n dX10_spend_97 rfl ?_
        refine q_getR (r := 8) dX10_spend_98 lf_N_28 rfl (by decide) (am_Lk hL rfl) (am_Lr hL rfl) ?_
        refine q_getR (r := 10) dX10_spend_101 lf_N_187 rfl (by decide) (am_Lk hL rfl) (am_Lr hL rfl) ?_
        refine e_iload_n dX10_spend_104 rfl ?_
        refine q_ialdC (jn := _) dX10_spend_105 (am_Ls hL rfl) i3 rfl ?_
        refine e_dup2 dX10_spend_106 rfl rfl ?_
        refine q_ialdH dX10_spend_107 (am_Ls hL rfl) (fun i10 => ?_)
        refine e_iload_n dX10_spend_108 rfl ?_
        refine e_iadd dX10_spend_109 ?_
        refine q_iastC (jn := _) dX10_spend_110 (am_Ls hL rfl) i10 rfl ?_
        refine e_aload_n dX10_spend_111 rfl ?_
        refine q_getR (r := 8) dX10_spend_112 lf_N_28 rfl (by decide) (am_Lk hL rfl) (am_Lr hL rfl) ?_
        refine q_getR (r := 9) dX10_spend_115 lf_N_162 rfl (by decide) (am_Lk hL rfl) (am_Lr hL rfl) ?_
        refine e_iload_n dX10_spend_118 rfl ?_
        refine q_ialdC (jn := _) dX10_spend_119 (am_Ls hL rfl) i3 rfl ?_
        exact e_iret dX10_spend_120 rfl rfl
      · refine e_bipush dX10_spend_47 (v := ((-4) : Int32)) (by decide) ?_
        exact e_iret dX10_spend_49 rfl rfl
    · refine e_iconst dX10_spend_18 (v := ((-1) : Int32)) (by decide) ?_
      exact e_iret dX10_spend_19 rfl rfl

def f_X10_steal (pl : Nat) (a1 : Int32) (a2 : Int32) (u : am_U) : Option (Int32 × am_U) :=
  (f_X10_isJar pl a1 u).bind (fun q1 =>
  if q1 = 0 then (
    some (((-1) : Int32), u))
  else (
    (f_X10_isWithin a2 1 20).bind (fun q2 =>
    if ¬ q2 = 0 then (
      am_ck (am_ix a1 6) (
      if (u 9 a1.toNatClampNeg) < a2 then (
        some (((-4) : Int32), u))
      else (
        if ¬ (u (pl + 3) a1.toNatClampNeg) = 4 then (
          (f_X1_remember 4 u).bind (fun q4 =>
          let u5 : am_U := am_w q4 9 a1.toNatClampNeg ((q4 9 a1.toNatClampNeg) - a2)
          some (u5 9 a1.toNatClampNeg, u5)))
        else (
          some (((-4) : Int32), u)))))
    else (
      some (((-1) : Int32), u)))))
set_option maxRecDepth 100000 in
set_option maxHeartbeats 4000000 in
theorem s_X10_steal {l : Launch} {g : am_G} {B : am_M} {pl : Nat} (hL : am_Lay B pl) (a1 : Int32) (a2 : Int32)  (u : am_U) : am_E l g d_X10_steal 0 (am_ent d_X10_steal [.ref (4), .int (a1), .int (a2)]) [] (am_of B u) (am_r (am_bI B) (f_X10_steal pl a1 a2 u)) := by
  unfold f_X10_steal
  show am_E l g d_X10_steal 0 [some (.ref (4)), some (.int (a1)), some (.int (a2))] [] (am_of B u) _
  refine e_aload_n dX10_steal_0 rfl ?_
  refine e_iload_n dX10_steal_1 rfl ?_
  refine q_callVP (As := [_]) rfl dX10_steal_2 lm_N_147 (am_fitB rfl) yo_X10_isJar ys_X10_isJar rfl rfl (by decide) (am_Lk hL rfl) rfl (Nat.le_of_ble_eq_true rfl) (Nat.le_of_ble_eq_true rfl) (s_X10_isJar hL _  _) (fun q1 => ?_)
  refine e_if_eq dX10_steal_5 (tgt := 18) (by decide) ?_ ?_
  · refine e_iconst dX10_steal_18 (v := ((-1) : Int32)) (by decide) ?_
    exact e_iret dX10_steal_19 rfl rfl
  · refine e_iload_n dX10_steal_8 rfl ?_
    refine e_iconst dX10_steal_9 (v := 1) (by decide) ?_
    refine e_bipush dX10_steal_10 (v := 20) (by decide) ?_
    refine q_callSP (As := [_, _, _]) rfl dX10_steal_12 lm_N_86 (am_fitB rfl) yo_X10_isWithin ys_X10_isWithin rfl (Nat.le_of_ble_eq_true rfl) (Nat.le_of_ble_eq_true rfl) (s_X10_isWithin hL _ _ _  _) (fun q2 => ?_)
    refine e_if_ne dX10_steal_15 (tgt := 20) (by decide) ?_ ?_
    · refine e_aload_n dX10_steal_20 rfl ?_
      refine q_getR (r := 8) dX10_steal_21 lf_N_28 rfl (by decide) (am_Lk hL rfl) (am_Lr hL rfl) ?_
      refine q_getR (r := 9) dX10_steal_24 lf_N_162 rfl (by decide) (am_Lk hL rfl) (am_Lr hL rfl) ?_
      refine e_iload_n dX10_steal_27 rfl ?_
      refine q_ialdH dX10_steal_28 (am_Ls hL rfl) (fun i3 => ?_)
      refine e_iload_n dX10_steal_29 rfl ?_
      refine e_if2_lt dX10_steal_30 (tgt := 46) (by decide) ?_ ?_
      · refine e_bipush dX10_steal_46 (v := ((-4) : Int32)) (by decide) ?_
        exact e_iret dX10_steal_48 rfl rfl
      · refine e_aload_n dX10_steal_33 rfl ?_
        refine q_getR (r := pl) dX10_steal_34 lf_N_72 rfl (by decide) (am_Lk hL rfl) (am_Lpl hL) ?_
        refine q_getR (r := pl + 3) dX10_steal_37 lf_N_156 rfl (by decide) (congrArg Prod.fst (am_pln hL).1) (am_avs (am_pln hL).2.1.2.2.1) ?_
        refine e_iload_n dX10_steal_40 rfl ?_
        refine q_ialdC (jn := _) dX10_steal_41 (am_pln hL).2.2.2.2.1 i3 rfl ?_
        refine e_iconst dX10_steal_42 (v := 4) (by decide) ?_
        refine e_if2_ne dX10_steal_43 (tgt := 49) (by decide) ?_ ?_
        · refine e_aload_n dX10_steal_49 rfl ?_
          refine q_getR (r := 14) dX10_steal_50 lf_N_35 rfl (by decide) (am_Lk hL rfl) (am_Lr hL rfl) ?_
          refine e_iconst dX10_steal_53 (v := 4) (by decide) ?_
          refine e_aload_n dX10_steal_54 rfl ?_
          refine q_getR (r := 8) dX10_steal_55 lf_N_28 rfl (by decide) (am_Lk hL rfl) (am_Lr hL rfl) ?_
          refine q_callVV (As := [_, _]) rfl dX10_steal_58 lm_N_193 (am_fitB rfl) yo_X1_remember ys_X1_remember rfl rfl (by decide) (am_Lk hL rfl) rfl (Nat.le_of_ble_eq_true rfl) (Nat.le_of_ble_eq_true rfl) (s_X1_remember hL _  _) (fun q4 => ?_)
          refine e_aload_n dX10_steal_61 rfl ?_
          refine q_getR (r := 8) dX10_steal_62 lf_N_28 rfl (by decide) (am_Lk hL rfl) (am_Lr hL rfl) ?_
          refine q_getR (r := 9) dX10_steal_65 lf_N_162 rfl (by decide) (am_Lk hL rfl) (am_Lr hL rfl) ?_
          refine e_iload_n dX10_steal_68 rfl ?_
          refine e_dup2 dX10_steal_69 rfl rfl ?_
          refine q_ialdC (jn := _) dX10_steal_70 (am_Ls hL rfl) i3 rfl ?_
          refine e_iload_n dX10_steal_71 rfl ?_
          refine e_isub dX10_steal_72 ?_
          refine q_iastC (jn := _) dX10_steal_73 (am_Ls hL rfl) i3 rfl ?_
          refine e_aload_n dX10_steal_74 rfl ?_
          refine q_getR (r := 8) dX10_steal_75 lf_N_28 rfl (by decide) (am_Lk hL rfl) (am_Lr hL rfl) ?_
          refine q_getR (r := 9) dX10_steal_78 lf_N_162 rfl (by decide) (am_Lk hL rfl) (am_Lr hL rfl) ?_
          refine e_iload_n dX10_steal_81 rfl ?_
          refine q_ialdC (jn := _) dX10_steal_82 (am_Ls hL rfl) i3 rfl ?_
          exact e_iret dX10_steal_83 rfl rfl
        · refine e_bipush dX10_steal_46 (v := ((-4) : Int32)) (by decide) ?_
          exact e_iret dX10_steal_48 rfl rfl
    · refine e_iconst dX10_steal_18 (v := ((-1) : Int32)) (by decide) ?_
      exact e_iret dX10_steal_19 rfl rfl

def f_X10_sure (pl : Nat) (u : am_U) : Option (Int32 × am_U) :=
  if ¬ (u pl 2) = 0 then (
    (f_X0_gather pl u).bind (fun q1 =>
    if ¬ q1.1 = 0 then (
      (f_X0_inAll q1.2).bind (fun q2 =>
      (f_X0_inAny q1.2).bind (fun q3 =>
      (f_X10_tell q2 (((1 <<< ((q1.2 pl 2) &&& 31)) - 1) - q3) q1.2).bind (fun q4 =>
      some (q4.1, q4.2)))))
    else (
      (f_X10_find 4 q1.2).bind (fun q5 =>
      some (q5.1, q5.2)))))
  else (
    some (((-4) : Int32), u))
set_option maxRecDepth 100000 in
set_option maxHeartbeats 4000000 in
theorem s_X10_sure {l : Launch} {g : am_G} {B : am_M} {pl : Nat} (hL : am_Lay B pl)   (u : am_U) : am_E l g d_X10_sure 0 (am_ent d_X10_sure [.ref (4)]) [] (am_of B u) (am_r (am_bI B) (f_X10_sure pl u)) := by
  unfold f_X10_sure
  show am_E l g d_X10_sure 0 [some (.ref (4))] [] (am_of B u) _
  refine e_aload_n dX10_sure_0 rfl ?_
  refine q_getR (r := pl) dX10_sure_1 lf_N_72 rfl (by decide) (am_Lk hL rfl) (am_Lpl hL) ?_
  refine q_getI dX10_sure_4 lf_N_144 (by decide) (congrArg Prod.fst (am_pln hL).1) ?_
  refine e_if_ne dX10_sure_7 (tgt := 13) (by decide) ?_ ?_
  · refine e_aload_n dX10_sure_13 rfl ?_
    refine q_getR (r := 21) dX10_sure_14 lf_N_55 rfl (by decide) (am_Lk hL rfl) (am_Lr hL rfl) ?_
    refine e_aload_n dX10_sure_17 rfl ?_
    refine q_getR (r := pl) dX10_sure_18 lf_N_72 rfl (by decide) (am_Lk hL rfl) (am_Lpl hL) ?_
    refine q_callVI (As := [_]) rfl dX10_sure_21 lm_N_300 (am_fitB rfl) yo_X0_gather ys_X0_gather rfl rfl (by decide) (am_Lk hL rfl) rfl (Nat.le_of_ble_eq_true rfl) (Nat.le_of_ble_eq_true rfl) (s_X0_gather hL _ (am_pln hL) _) (fun q1 => ?_)
    refine e_if_ne dX10_sure_24 (tgt := 33) (by decide) ?_ ?_
    · refine e_aload_n dX10_sure_33 rfl ?_
      refine e_aload_n dX10_sure_34 rfl ?_
      refine q_getR (r := 21) dX10_sure_35 lf_N_55 rfl (by decide) (am_Lk hL rfl) (am_Lr hL rfl) ?_
      refine q_callVP (As := []) rfl dX10_sure_38 lm_N_307 (am_fitB rfl) yo_X0_inAll ys_X0_inAll rfl rfl (by decide) (am_Lk hL rfl) rfl (Nat.le_of_ble_eq_true rfl) (Nat.le_of_ble_eq_true rfl) (s_X0_inAll hL   _) (fun q2 => ?_)
      refine e_iconst dX10_sure_41 (v := 1) (by decide) ?_
      refine e_aload_n dX10_sure_42 rfl ?_
      refine q_getR (r := pl) dX10_sure_43 lf_N_72 rfl (by decide) (am_Lk hL rfl) (am_Lpl hL) ?_
      refine q_getI dX10_sure_46 lf_N_144 (by decide) (congrArg Prod.fst (am_pln hL).1) ?_
      refine e_ishl dX10_sure_49 ?_
      refine e_iconst dX10_sure_50 (v := 1) (by decide) ?_
      refine e_isub dX10_sure_51 ?_
      refine e_aload_n dX10_sure_52 rfl ?_
      refine q_getR (r := 21) dX10_sure_53 lf_N_55 rfl (by decide) (am_Lk hL rfl) (am_Lr hL rfl) ?_
      refine q_callVP (As := []) rfl dX10_sure_56 lm_N_310 (am_fitB rfl) yo_X0_inAny ys_X0_inAny rfl rfl (by decide) (am_Lk hL rfl) rfl (Nat.le_of_ble_eq_true rfl) (Nat.le_of_ble_eq_true rfl) (s_X0_inAny hL   _) (fun q3 => ?_)
      refine e_isub dX10_sure_59 ?_
      refine q_callVI (As := [_, _]) rfl dX10_sure_60 lm_N_101 (am_fitB rfl) yo_X10_tell ys_X10_tell rfl rfl (by decide) (am_Lk hL rfl) rfl (Nat.le_of_ble_eq_true rfl) (Nat.le_of_ble_eq_true rfl) (s_X10_tell hL _ _  _) (fun q4 => ?_)
      exact e_iret dX10_sure_63 rfl rfl
    · refine e_aload_n dX10_sure_27 rfl ?_
      refine e_iconst dX10_sure_28 (v := 4) (by decide) ?_
      refine q_callVI (As := [_]) rfl dX10_sure_29 lm_N_113 (am_fitB rfl) yo_X10_find ys_X10_find rfl rfl (by decide) (am_Lk hL rfl) rfl (Nat.le_of_ble_eq_true rfl) (Nat.le_of_ble_eq_true rfl) (s_X10_find hL _  _) (fun q5 => ?_)
      exact e_iret dX10_sure_32 rfl rfl
  · refine e_bipush dX10_sure_10 (v := ((-4) : Int32)) (by decide) ?_
    exact e_iret dX10_sure_12 rfl rfl

def f_X10_test (pl : Nat) (u : am_U) : Option (Int32 × am_U) :=
  if ¬ (u pl 2) = 0 then (
    (f_X0_gather pl u).bind (fun q1 =>
    if ¬ q1.1 = 0 then (
      (f_X0_nextToBurn pl q1.2).bind (fun q2 =>
      (f_X0_mostLeft q2.1 pl q2.2).bind (fun q3 =>
      (f_X10_tell q2.1 q3.1 q3.2).bind (fun q4 =>
      some (q4.1, q4.2)))))
    else (
      (f_X10_find 4 q1.2).bind (fun q5 =>
      some (q5.1, q5.2)))))
  else (
    some (((-4) : Int32), u))
set_option maxRecDepth 100000 in
set_option maxHeartbeats 4000000 in
theorem s_X10_test {l : Launch} {g : am_G} {B : am_M} {pl : Nat} (hL : am_Lay B pl)   (u : am_U) : am_E l g d_X10_test 0 (am_ent d_X10_test [.ref (4)]) [] (am_of B u) (am_r (am_bI B) (f_X10_test pl u)) := by
  unfold f_X10_test
  show am_E l g d_X10_test 0 [some (.ref (4)), none] [] (am_of B u) _
  refine e_aload_n dX10_test_0 rfl ?_
  refine q_getR (r := pl) dX10_test_1 lf_N_72 rfl (by decide) (am_Lk hL rfl) (am_Lpl hL) ?_
  refine q_getI dX10_test_4 lf_N_144 (by decide) (congrArg Prod.fst (am_pln hL).1) ?_
  refine e_if_ne dX10_test_7 (tgt := 13) (by decide) ?_ ?_
  · refine e_aload_n dX10_test_13 rfl ?_
    refine q_getR (r := 21) dX10_test_14 lf_N_55 rfl (by decide) (am_Lk hL rfl) (am_Lr hL rfl) ?_
    refine e_aload_n dX10_test_17 rfl ?_
    refine q_getR (r := pl) dX10_test_18 lf_N_72 rfl (by decide) (am_Lk hL rfl) (am_Lpl hL) ?_
    refine q_callVI (As := [_]) rfl dX10_test_21 lm_N_300 (am_fitB rfl) yo_X0_gather ys_X0_gather rfl rfl (by decide) (am_Lk hL rfl) rfl (Nat.le_of_ble_eq_true rfl) (Nat.le_of_ble_eq_true rfl) (s_X0_gather hL _ (am_pln hL) _) (fun q1 => ?_)
    refine e_if_ne dX10_test_24 (tgt := 33) (by decide) ?_ ?_
    · refine e_aload_n dX10_test_33 rfl ?_
      refine q_getR (r := 21) dX10_test_34 lf_N_55 rfl (by decide) (am_Lk hL rfl) (am_Lr hL rfl) ?_
      refine e_aload_n dX10_test_37 rfl ?_
      refine q_getR (r := pl) dX10_test_38 lf_N_72 rfl (by decide) (am_Lk hL rfl) (am_Lpl hL) ?_
      refine q_callVI (As := [_]) rfl dX10_test_41 lm_N_313 (am_fitB rfl) yo_X0_nextToBurn ys_X0_nextToBurn rfl rfl (by decide) (am_Lk hL rfl) rfl (Nat.le_of_ble_eq_true rfl) (Nat.le_of_ble_eq_true rfl) (s_X0_nextToBurn hL _ (am_pln hL) _) (fun q2 => ?_)
      refine e_istore_n dX10_test_44 (by decide) (LS1 := [_, _]) rfl ?_
      refine e_aload_n dX10_test_45 rfl ?_
      refine e_iload_n dX10_test_46 rfl ?_
      refine e_aload_n dX10_test_47 rfl ?_
      refine q_getR (r := 21) dX10_test_48 lf_N_55 rfl (by decide) (am_Lk hL rfl) (am_Lr hL rfl) ?_
      refine e_iload_n dX10_test_51 rfl ?_
      refine e_aload_n dX10_test_52 rfl ?_
      refine q_getR (r := pl) dX10_test_53 lf_N_72 rfl (by decide) (am_Lk hL rfl) (am_Lpl hL) ?_
      refine q_callVI (As := [_, _]) rfl dX10_test_56 lm_N_316 (am_fitB rfl) yo_X0_mostLeft ys_X0_mostLeft rfl rfl (by decide) (am_Lk hL rfl) rfl (Nat.le_of_ble_eq_true rfl) (Nat.le_of_ble_eq_true rfl) (s_X0_mostLeft hL _ _ (am_pln hL) _) (fun q3 => ?_)
      refine q_callVI (As := [_, _]) rfl dX10_test_59 lm_N_101 (am_fitB rfl) yo_X10_tell ys_X10_tell rfl rfl (by decide) (am_Lk hL rfl) rfl (Nat.le_of_ble_eq_true rfl) (Nat.le_of_ble_eq_true rfl) (s_X10_tell hL _ _  _) (fun q4 => ?_)
      exact e_iret dX10_test_62 rfl rfl
    · refine e_aload_n dX10_test_27 rfl ?_
      refine e_iconst dX10_test_28 (v := 4) (by decide) ?_
      refine q_callVI (As := [_]) rfl dX10_test_29 lm_N_113 (am_fitB rfl) yo_X10_find ys_X10_find rfl rfl (by decide) (am_Lk hL rfl) rfl (Nat.le_of_ble_eq_true rfl) (Nat.le_of_ble_eq_true rfl) (s_X10_find hL _  _) (fun q5 => ?_)
      exact e_iret dX10_test_32 rfl rfl
  · refine e_bipush dX10_test_10 (v := ((-4) : Int32)) (by decide) ?_
    exact e_iret dX10_test_12 rfl rfl

