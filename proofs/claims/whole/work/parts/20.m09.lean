def f_X11_spend (a1 : Int32) (a2 : Int32) (u : am_U) : Option (Int32 × am_U) :=
  (f_X11_isJar a1 u).bind (fun q1 =>
  if q1 = 0 then (
    some (((-1) : Int32), u))
  else (
    (f_X11_in a2 1 20).bind (fun q2 =>
    if ¬ q2 = 0 then (
      am_ck (am_ix a1 6) (
      (f_X11_costOf (u 69 a1.toNatClampNeg)).bind (fun q4 =>
      am_ck (am_ix (0 + a1) 30) (
      if (q4 * a2) ≤ (u 75 (0 + a1).toNatClampNeg) then (
        (f_X11_remembers 3 u).bind (fun q6 =>
        let u7 : am_U := am_w q6 75 (0 + a1).toNatClampNeg ((q6 75 (0 + a1).toNatClampNeg) - (q4 * a2))
        am_ck (am_ix (12 + a1) 30) (
        let u8 : am_U := am_w u7 75 (12 + a1).toNatClampNeg 1
        am_ck (am_ix (6 + a1) 30) (
        am_ck (am_ix (18 + (u8 75 (6 + a1).toNatClampNeg)) 30) (
        let u12 : am_U := am_w u8 75 (18 + (u8 75 (6 + a1).toNatClampNeg)).toNatClampNeg ((u8 75 (18 + (u8 75 (6 + a1).toNatClampNeg)).toNatClampNeg) + a2)
        some (u12 75 (0 + a1).toNatClampNeg, u12))))))
      else (
        some (((-4) : Int32), u))))))
    else (
      some (((-1) : Int32), u)))))
set_option maxRecDepth 100000 in
set_option maxHeartbeats 4000000 in
theorem s_X11_spend {l : Launch} {g : am_G} {B : am_M} {pl : Nat} (hL : am_Lay B pl) (a1 : Int32) (a2 : Int32)  (u : am_U) : am_E l g d_X11_spend 0 (am_ent d_X11_spend [.ref (60), .int (a1), .int (a2)]) [] (am_of B u) (am_r (am_bI B) (f_X11_spend a1 a2 u)) := by
  unfold f_X11_spend
  show am_E l g d_X11_spend 0 [some (.ref (60)), some (.int (a1)), some (.int (a2)), none] [] (am_of B u) _
  refine e_aload_n dX11_spend_0 rfl ?_
  refine e_iload_n dX11_spend_1 rfl ?_
  refine q_callVP (As := [_]) rfl dX11_spend_2 lm_M_200 (am_fitB rfl) yo_X11_isJar ys_X11_isJar rfl rfl (by decide) (am_Lk hL rfl) rfl (Nat.le_of_ble_eq_true rfl) (Nat.le_of_ble_eq_true rfl) (s_X11_isJar hL _  _) (fun q1 => ?_)
  refine e_if_eq dX11_spend_5 (tgt := 18) (by decide) ?_ ?_
  · refine e_iconst dX11_spend_18 (v := ((-1) : Int32)) (by decide) ?_
    exact e_iret dX11_spend_19 rfl rfl
  · refine e_iload_n dX11_spend_8 rfl ?_
    refine e_iconst dX11_spend_9 (v := 1) (by decide) ?_
    refine e_bipush dX11_spend_10 (v := 20) (by decide) ?_
    refine q_callSP (As := [_, _, _]) rfl dX11_spend_12 lm_M_106 (am_fitB rfl) yo_X11_in ys_X11_in rfl (Nat.le_of_ble_eq_true rfl) (Nat.le_of_ble_eq_true rfl) (s_X11_in hL _ _ _  _) (fun q2 => ?_)
    refine e_if_ne dX11_spend_15 (tgt := 20) (by decide) ?_ ?_
    · refine e_aload_n dX11_spend_20 rfl ?_
      refine q_getR (r := 69) dX11_spend_21 lf_M_35 rfl (by decide) (am_Lk hL rfl) (am_Lr hL rfl) ?_
      refine e_iload_n dX11_spend_24 rfl ?_
      refine q_ialdH dX11_spend_25 (am_Ls hL rfl) (fun i3 => ?_)
      refine q_callSP (As := [_]) rfl dX11_spend_26 lm_M_209 (am_fitB rfl) yo_X11_costOf ys_X11_costOf rfl (Nat.le_of_ble_eq_true rfl) (Nat.le_of_ble_eq_true rfl) (s_X11_costOf hL _  _) (fun q4 => ?_)
      refine e_iload_n dX11_spend_29 rfl ?_
      refine e_imul dX11_spend_30 ?_
      refine e_istore_n dX11_spend_31 (by decide) (LS1 := [_, _, _, _]) rfl ?_
      refine e_iload_n dX11_spend_32 rfl ?_
      refine e_aload_n dX11_spend_33 rfl ?_
      refine q_getR (r := 75) dX11_spend_34 lf_M_53 rfl (by decide) (am_Lk hL rfl) (am_Lr hL rfl) ?_
      refine e_iconst dX11_spend_37 (v := 0) (by decide) ?_
      refine e_iload_n dX11_spend_38 rfl ?_
      refine e_iadd dX11_spend_39 ?_
      refine q_ialdH dX11_spend_40 (am_Ls hL rfl) (fun i5 => ?_)
      refine e_if2_le dX11_spend_41 (tgt := 47) (by decide) ?_ ?_
      · refine e_aload_n dX11_spend_47 rfl ?_
        refine e_iconst dX11_spend_48 (v := 3) (by decide) ?_
        refine q_callVV (As := [_]) rfl dX11_spend_49 lm_M_224 (am_fitB rfl) yo_X11_remembers ys_X11_remembers rfl rfl (by decide) (am_Lk hL rfl) rfl (Nat.le_of_ble_eq_true rfl) (Nat.le_of_ble_eq_true rfl) (s_X11_remembers hL _  _) (fun q6 => ?_)
        refine e_aload_n dX11_spend_52 rfl ?_
        refine q_getR (r := 75) dX11_spend_53 lf_M_53 rfl (by decide) (am_Lk hL rfl) (am_Lr hL rfl) ?_
        refine e_iconst dX11_spend_56 (v := 0) (by decide) ?_
        refine e_iload_n dX11_spend_57 rfl ?_
        refine e_iadd dX11_spend_58 ?_
        refine e_dup2 dX11_spend_59 rfl rfl ?_
        refine q_ialdC (jn := _) dX11_spend_60 (am_Ls hL rfl) i5 rfl ?_
        refine e_iload_n dX11_spend_61 rfl ?_
        refine e_isub dX11_spend_62 ?_
        refine q_iastC (jn := _) dX11_spend_63 (am_Ls hL rfl) i5 rfl ?_
        refine e_aload_n dX11_spend_64 rfl ?_
        refine q_getR (r := 75) dX11_spend_65 lf_M_53 rfl (by decide) (am_Lk hL rfl) (am_Lr hL rfl) ?_
        refine e_bipush dX11_spend_68 (v := 12) (by decide) ?_
        refine e_iload_n dX11_spend_70 rfl ?_
        refine e_iadd dX11_spend_71 ?_
        refine e_iconst dX11_spend_72 (v := 1) (by decide) ?_
        refine q_iastH dX11_spend_73 (am_Ls hL rfl) (fun i9 => ?_)
        refine e_aload_n dX11_spend_74 rfl ?_
        refine q_getR (r := 75) dX11_spend_75 lf_M_53 rfl (by decide) (am_Lk hL rfl) (am_Lr hL rfl) ?_
        refine e_bipush dX11_spend_78 (v := 18) (by decide) ?_
        refine e_aload_n dX11_spend_80 rfl ?_
        refine q_getR (r := 75) dX11_spend_81 lf_M_53 rfl (by decide) (am_Lk hL rfl) (am_Lr hL rfl) ?_
        refine e_bipush dX11_spend_84 (v := 6) (by decide) ?_
        refine e_iload_n dX11_spend_86 rfl ?_
        refine e_iadd dX11_spend_87 ?_
        refine q_ialdH dX11_spend_88 (am_Ls hL rfl) (fun i10 => ?_)
        refine e_iadd dX11_spend_89 ?_
        refine e_dup2 dX11_spend_90 rfl rfl ?_
        refine q_ialdH dX11_spend_91 (am_Ls hL rfl) (fun i11 => ?_)
        refine e_iload_n dX11_spend_92 rfl ?_
        refine e_iadd dX11_spend_93 ?_
        refine q_iastC (jn := _) dX11_spend_94 (am_Ls hL rfl) i11 rfl ?_
        refine e_aload_n dX11_spend_95 rfl ?_
        refine q_getR (r := 75) dX11_spend_96 lf_M_53 rfl (by decide) (am_Lk hL rfl) (am_Lr hL rfl) ?_
        refine e_iconst dX11_spend_99 (v := 0) (by decide) ?_
        refine e_iload_n dX11_spend_100 rfl ?_
        refine e_iadd dX11_spend_101 ?_
        refine q_ialdC (jn := _) dX11_spend_102 (am_Ls hL rfl) i5 rfl ?_
        exact e_iret dX11_spend_103 rfl rfl
      · refine e_bipush dX11_spend_44 (v := ((-4) : Int32)) (by decide) ?_
        exact e_iret dX11_spend_46 rfl rfl
    · refine e_iconst dX11_spend_18 (v := ((-1) : Int32)) (by decide) ?_
      exact e_iret dX11_spend_19 rfl rfl

def f_X11_steal (a1 : Int32) (a2 : Int32) (u : am_U) : Option (Int32 × am_U) :=
  (f_X11_isJar a1 u).bind (fun q1 =>
  if q1 = 0 then (
    some (((-1) : Int32), u))
  else (
    (f_X11_in a2 1 20).bind (fun q2 =>
    if ¬ q2 = 0 then (
      am_ck (am_ix (0 + a1) 30) (
      if (u 75 (0 + a1).toNatClampNeg) < a2 then (
        some (((-4) : Int32), u))
      else (
        am_ck (am_ix a1 6) (
        if ¬ (u 69 a1.toNatClampNeg) = 4 then (
          (f_X11_remembers 4 u).bind (fun q5 =>
          let u6 : am_U := am_w q5 75 (0 + a1).toNatClampNeg ((q5 75 (0 + a1).toNatClampNeg) - a2)
          some (u6 75 (0 + a1).toNatClampNeg, u6)))
        else (
          some (((-4) : Int32), u))))))
    else (
      some (((-1) : Int32), u)))))
set_option maxRecDepth 100000 in
set_option maxHeartbeats 4000000 in
theorem s_X11_steal {l : Launch} {g : am_G} {B : am_M} {pl : Nat} (hL : am_Lay B pl) (a1 : Int32) (a2 : Int32)  (u : am_U) : am_E l g d_X11_steal 0 (am_ent d_X11_steal [.ref (60), .int (a1), .int (a2)]) [] (am_of B u) (am_r (am_bI B) (f_X11_steal a1 a2 u)) := by
  unfold f_X11_steal
  show am_E l g d_X11_steal 0 [some (.ref (60)), some (.int (a1)), some (.int (a2))] [] (am_of B u) _
  refine e_aload_n dX11_steal_0 rfl ?_
  refine e_iload_n dX11_steal_1 rfl ?_
  refine q_callVP (As := [_]) rfl dX11_steal_2 lm_M_200 (am_fitB rfl) yo_X11_isJar ys_X11_isJar rfl rfl (by decide) (am_Lk hL rfl) rfl (Nat.le_of_ble_eq_true rfl) (Nat.le_of_ble_eq_true rfl) (s_X11_isJar hL _  _) (fun q1 => ?_)
  refine e_if_eq dX11_steal_5 (tgt := 18) (by decide) ?_ ?_
  · refine e_iconst dX11_steal_18 (v := ((-1) : Int32)) (by decide) ?_
    exact e_iret dX11_steal_19 rfl rfl
  · refine e_iload_n dX11_steal_8 rfl ?_
    refine e_iconst dX11_steal_9 (v := 1) (by decide) ?_
    refine e_bipush dX11_steal_10 (v := 20) (by decide) ?_
    refine q_callSP (As := [_, _, _]) rfl dX11_steal_12 lm_M_106 (am_fitB rfl) yo_X11_in ys_X11_in rfl (Nat.le_of_ble_eq_true rfl) (Nat.le_of_ble_eq_true rfl) (s_X11_in hL _ _ _  _) (fun q2 => ?_)
    refine e_if_ne dX11_steal_15 (tgt := 20) (by decide) ?_ ?_
    · refine e_iload_n dX11_steal_20 rfl ?_
      refine e_aload_n dX11_steal_21 rfl ?_
      refine q_getR (r := 75) dX11_steal_22 lf_M_53 rfl (by decide) (am_Lk hL rfl) (am_Lr hL rfl) ?_
      refine e_iconst dX11_steal_25 (v := 0) (by decide) ?_
      refine e_iload_n dX11_steal_26 rfl ?_
      refine e_iadd dX11_steal_27 ?_
      refine q_ialdH dX11_steal_28 (am_Ls hL rfl) (fun i3 => ?_)
      refine e_if2_gt dX11_steal_29 (tgt := 42) (by decide) ?_ ?_
      · refine e_bipush dX11_steal_42 (v := ((-4) : Int32)) (by decide) ?_
        exact e_iret dX11_steal_44 rfl rfl
      · refine e_aload_n dX11_steal_32 rfl ?_
        refine q_getR (r := 69) dX11_steal_33 lf_M_35 rfl (by decide) (am_Lk hL rfl) (am_Lr hL rfl) ?_
        refine e_iload_n dX11_steal_36 rfl ?_
        refine q_ialdH dX11_steal_37 (am_Ls hL rfl) (fun i4 => ?_)
        refine e_iconst dX11_steal_38 (v := 4) (by decide) ?_
        refine e_if2_ne dX11_steal_39 (tgt := 45) (by decide) ?_ ?_
        · refine e_aload_n dX11_steal_45 rfl ?_
          refine e_iconst dX11_steal_46 (v := 4) (by decide) ?_
          refine q_callVV (As := [_]) rfl dX11_steal_47 lm_M_224 (am_fitB rfl) yo_X11_remembers ys_X11_remembers rfl rfl (by decide) (am_Lk hL rfl) rfl (Nat.le_of_ble_eq_true rfl) (Nat.le_of_ble_eq_true rfl) (s_X11_remembers hL _  _) (fun q5 => ?_)
          refine e_aload_n dX11_steal_50 rfl ?_
          refine q_getR (r := 75) dX11_steal_51 lf_M_53 rfl (by decide) (am_Lk hL rfl) (am_Lr hL rfl) ?_
          refine e_iconst dX11_steal_54 (v := 0) (by decide) ?_
          refine e_iload_n dX11_steal_55 rfl ?_
          refine e_iadd dX11_steal_56 ?_
          refine e_dup2 dX11_steal_57 rfl rfl ?_
          refine q_ialdC (jn := _) dX11_steal_58 (am_Ls hL rfl) i3 rfl ?_
          refine e_iload_n dX11_steal_59 rfl ?_
          refine e_isub dX11_steal_60 ?_
          refine q_iastC (jn := _) dX11_steal_61 (am_Ls hL rfl) i3 rfl ?_
          refine e_aload_n dX11_steal_62 rfl ?_
          refine q_getR (r := 75) dX11_steal_63 lf_M_53 rfl (by decide) (am_Lk hL rfl) (am_Lr hL rfl) ?_
          refine e_iconst dX11_steal_66 (v := 0) (by decide) ?_
          refine e_iload_n dX11_steal_67 rfl ?_
          refine e_iadd dX11_steal_68 ?_
          refine q_ialdC (jn := _) dX11_steal_69 (am_Ls hL rfl) i3 rfl ?_
          exact e_iret dX11_steal_70 rfl rfl
        · refine e_bipush dX11_steal_42 (v := ((-4) : Int32)) (by decide) ?_
          exact e_iret dX11_steal_44 rfl rfl
    · refine e_iconst dX11_steal_18 (v := ((-1) : Int32)) (by decide) ?_
      exact e_iret dX11_steal_19 rfl rfl

def f_X11_step (a1 : Int32) (a2 : Int32) (a3 : Int32) (u : am_U) : Option (am_U) :=
  am_ck (am_ix a2 3) (
  am_ck (am_ix a3 6) (
  am_ck (am_ix (u 80 a3.toNatClampNeg) 6) (
  am_ck (am_ix a3 3) (
  (f_X11_pouredOf (u 81 a2.toNatClampNeg) ((u 70 (u 80 a3.toNatClampNeg).toNatClampNeg) - (u 81 a3.toNatClampNeg))).bind (fun q5 =>
  (f_X11_tenth q5).bind (fun q6 =>
  if (q5 - q6) ≤ 0 then (
    some u)
  else (
    let u7 : am_U := am_w u 81 a2.toNatClampNeg ((u 81 a2.toNatClampNeg) - q5)
    let u8 : am_U := am_w u7 81 a3.toNatClampNeg ((u7 81 a3.toNatClampNeg) + (q5 - q6))
    (f_X11_code u8).bind (fun q9 =>
    am_ck (am_ix q9 9261) (
    if ¬ (u8 82 q9.toNatClampNeg) = ((-9) : Int32) then (
      some u8)
    else (
      am_ck (am_ix a1 9261) (
      let u12 : am_U := am_w u8 82 q9.toNatClampNeg ((u8 82 a1.toNatClampNeg) + 1)
      let u13 : am_U := am_w u12 84 q9.toNatClampNeg a1
      am_ck (am_ix a2 6) (
      let u15 : am_U := am_w u13 85 q9.toNatClampNeg ((6 * (u13 80 a2.toNatClampNeg)) + (u13 80 a3.toNatClampNeg))
      am_ck (am_ix (u15 60 39) 9261) (
      let u16 : am_U := am_w u15 83 (u15 60 39).toNatClampNeg q9
      let u18 : am_U := am_w u16 60 39 ((u16 60 39) + 1)
      some u18)))))))))))))
set_option maxRecDepth 100000 in
set_option maxHeartbeats 4000000 in
theorem s_X11_step {l : Launch} {g : am_G} {B : am_M} {pl : Nat} (hL : am_Lay B pl) (a1 : Int32) (a2 : Int32) (a3 : Int32)  (u : am_U) : am_E l g d_X11_step 0 (am_ent d_X11_step [.ref (60), .int (a1), .int (a2), .int (a3)]) [] (am_of B u) (am_r (am_bV B) (f_X11_step a1 a2 a3 u)) := by
  unfold f_X11_step
  show am_E l g d_X11_step 0 [some (.ref (60)), some (.int (a1)), some (.int (a2)), some (.int (a3)), none, none, none] [] (am_of B u) _
  refine e_aload_n dX11_step_0 rfl ?_
  refine q_getR (r := 81) dX11_step_1 lf_M_72 rfl (by decide) (am_Lk hL rfl) (am_Lr hL rfl) ?_
  refine e_iload_n dX11_step_4 rfl ?_
  refine q_ialdH dX11_step_5 (am_Ls hL rfl) (fun i1 => ?_)
  refine e_aload_n dX11_step_6 rfl ?_
  refine q_getR (r := 70) dX11_step_7 lf_M_38 rfl (by decide) (am_Lk hL rfl) (am_Lr hL rfl) ?_
  refine e_aload_n dX11_step_10 rfl ?_
  refine q_getR (r := 80) dX11_step_11 lf_M_69 rfl (by decide) (am_Lk hL rfl) (am_Lr hL rfl) ?_
  refine e_iload_n dX11_step_14 rfl ?_
  refine q_ialdH dX11_step_15 (am_Ls hL rfl) (fun i2 => ?_)
  refine q_ialdH dX11_step_16 (am_Ls hL rfl) (fun i3 => ?_)
  refine e_aload_n dX11_step_17 rfl ?_
  refine q_getR (r := 81) dX11_step_18 lf_M_72 rfl (by decide) (am_Lk hL rfl) (am_Lr hL rfl) ?_
  refine e_iload_n dX11_step_21 rfl ?_
  refine q_ialdH dX11_step_22 (am_Ls hL rfl) (fun i4 => ?_)
  refine e_isub dX11_step_23 ?_
  refine q_callSP (As := [_, _]) rfl dX11_step_24 lm_M_228 (am_fitB rfl) yo_X11_pouredOf ys_X11_pouredOf rfl (Nat.le_of_ble_eq_true rfl) (Nat.le_of_ble_eq_true rfl) (s_X11_pouredOf hL _ _  _) (fun q5 => ?_)
  refine e_istore dX11_step_27 (by decide) (LS1 := [_, _, _, _, _, none, none]) rfl ?_
  refine e_iload dX11_step_29 rfl ?_
  refine e_iload dX11_step_31 rfl ?_
  refine q_callSP (As := [_]) rfl dX11_step_33 lm_M_193 (am_fitB rfl) yo_X11_tenth ys_X11_tenth rfl (Nat.le_of_ble_eq_true rfl) (Nat.le_of_ble_eq_true rfl) (s_X11_tenth hL _  _) (fun q6 => ?_)
  refine e_isub dX11_step_36 ?_
  refine e_istore dX11_step_37 (by decide) (LS1 := [_, _, _, _, _, _, none]) rfl ?_
  refine e_iload dX11_step_39 rfl ?_
  refine e_if_le dX11_step_41 (tgt := 151) (by decide) ?_ ?_
  · exact e_vret dX11_step_151 rfl rfl
  · refine e_aload_n dX11_step_44 rfl ?_
    refine q_getR (r := 81) dX11_step_45 lf_M_72 rfl (by decide) (am_Lk hL rfl) (am_Lr hL rfl) ?_
    refine e_iload_n dX11_step_48 rfl ?_
    refine e_dup2 dX11_step_49 rfl rfl ?_
    refine q_ialdC (jn := _) dX11_step_50 (am_Ls hL rfl) i1 rfl ?_
    refine e_iload dX11_step_51 rfl ?_
    refine e_isub dX11_step_53 ?_
    refine q_iastC (jn := _) dX11_step_54 (am_Ls hL rfl) i1 rfl ?_
    refine e_aload_n dX11_step_55 rfl ?_
    refine q_getR (r := 81) dX11_step_56 lf_M_72 rfl (by decide) (am_Lk hL rfl) (am_Lr hL rfl) ?_
    refine e_iload_n dX11_step_59 rfl ?_
    refine e_dup2 dX11_step_60 rfl rfl ?_
    refine q_ialdC (jn := _) dX11_step_61 (am_Ls hL rfl) i4 rfl ?_
    refine e_iload dX11_step_62 rfl ?_
    refine e_iadd dX11_step_64 ?_
    refine q_iastC (jn := _) dX11_step_65 (am_Ls hL rfl) i4 rfl ?_
    refine e_aload_n dX11_step_66 rfl ?_
    refine q_callVP (As := []) rfl dX11_step_67 lm_M_259 (am_fitB rfl) yo_X11_code ys_X11_code rfl rfl (by decide) (am_Lk hL rfl) rfl (Nat.le_of_ble_eq_true rfl) (Nat.le_of_ble_eq_true rfl) (s_X11_code hL   _) (fun q9 => ?_)
    refine e_istore dX11_step_70 (by decide) (LS1 := [_, _, _, _, _, _, _]) rfl ?_
    refine e_aload_n dX11_step_72 rfl ?_
    refine q_getR (r := 82) dX11_step_73 lf_M_75 rfl (by decide) (am_Lk hL rfl) (am_Lr hL rfl) ?_
    refine e_iload dX11_step_76 rfl ?_
    refine q_ialdH dX11_step_78 (am_Ls hL rfl) (fun i10 => ?_)
    refine e_bipush dX11_step_79 (v := ((-9) : Int32)) (by decide) ?_
    refine e_if2_ne dX11_step_81 (tgt := 151) (by decide) ?_ ?_
    · exact e_vret dX11_step_151 rfl rfl
    · refine e_aload_n dX11_step_84 rfl ?_
      refine q_getR (r := 82) dX11_step_85 lf_M_75 rfl (by decide) (am_Lk hL rfl) (am_Lr hL rfl) ?_
      refine e_iload dX11_step_88 rfl ?_
      refine e_aload_n dX11_step_90 rfl ?_
      refine q_getR (r := 82) dX11_step_91 lf_M_75 rfl (by decide) (am_Lk hL rfl) (am_Lr hL rfl) ?_
      refine e_iload_n dX11_step_94 rfl ?_
      refine q_ialdH dX11_step_95 (am_Ls hL rfl) (fun i11 => ?_)
      refine e_iconst dX11_step_96 (v := 1) (by decide) ?_
      refine e_iadd dX11_step_97 ?_
      refine q_iastC (jn := _) dX11_step_98 (am_Ls hL rfl) i10 rfl ?_
      refine e_aload_n dX11_step_99 rfl ?_
      refine q_getR (r := 84) dX11_step_100 lf_M_81 rfl (by decide) (am_Lk hL rfl) (am_Lr hL rfl) ?_
      refine e_iload dX11_step_103 rfl ?_
      refine e_iload_n dX11_step_105 rfl ?_
      refine q_iastC (jn := _) dX11_step_106 (am_Ls hL rfl) i10 rfl ?_
      refine e_aload_n dX11_step_107 rfl ?_
      refine q_getR (r := 85) dX11_step_108 lf_M_84 rfl (by decide) (am_Lk hL rfl) (am_Lr hL rfl) ?_
      refine e_iload dX11_step_111 rfl ?_
      refine e_bipush dX11_step_113 (v := 6) (by decide) ?_
      refine e_aload_n dX11_step_115 rfl ?_
      refine q_getR (r := 80) dX11_step_116 lf_M_69 rfl (by decide) (am_Lk hL rfl) (am_Lr hL rfl) ?_
      refine e_iload_n dX11_step_119 rfl ?_
      refine q_ialdH dX11_step_120 (am_Ls hL rfl) (fun i14 => ?_)
      refine e_imul dX11_step_121 ?_
      refine e_aload_n dX11_step_122 rfl ?_
      refine q_getR (r := 80) dX11_step_123 lf_M_69 rfl (by decide) (am_Lk hL rfl) (am_Lr hL rfl) ?_
      refine e_iload_n dX11_step_126 rfl ?_
      refine q_ialdC (jn := _) dX11_step_127 (am_Ls hL rfl) i2 rfl ?_
      refine e_iadd dX11_step_128 ?_
      refine q_iastC (jn := _) dX11_step_129 (am_Ls hL rfl) i10 rfl ?_
      refine e_aload_n dX11_step_130 rfl ?_
      refine q_getR (r := 83) dX11_step_131 lf_M_78 rfl (by decide) (am_Lk hL rfl) (am_Lr hL rfl) ?_
      refine e_aload_n dX11_step_134 rfl ?_
      refine q_getI dX11_step_135 lf_M_263 (by decide) (am_Lk hL rfl) ?_
      refine e_iload dX11_step_138 rfl ?_
      refine q_iastH dX11_step_140 (am_Ls hL rfl) (fun i17 => ?_)
      refine e_aload_n dX11_step_141 rfl ?_
      refine e_dup dX11_step_142 rfl ?_
      refine q_getI dX11_step_143 lf_M_263 (by decide) (am_Lk hL rfl) ?_
      refine e_iconst dX11_step_146 (v := 1) (by decide) ?_
      refine e_iadd dX11_step_147 ?_
      refine q_putI dX11_step_148 lf_M_263 rfl (by decide) (am_Lk hL rfl) ?_
      exact e_vret dX11_step_151 rfl rfl

def f_X11_store_24 (u : am_U) (v1 : Int32) (v2 : Int32) (k39 : Int32 → Option (Int32 × am_U)) : Nat → Int32 → Option (Int32 × am_U)
  | 0, _ => none
  | n + 1, v3 =>
    (f_X11_leftOf v3 v1 v2).bind (fun q3 =>
    if 0 ≤ q3 then (
      k39 v3)
    else (
      f_X11_store_24 u v1 v2 k39 n (v3 + 1)))
def f_X11_store (a1 : Int32) (a2 : Int32) (u : am_U) : Option (Int32 × am_U) :=
  (f_X11_in a1 1 9).bind (fun q1 =>
  if q1 = 0 then (
    some (((-1) : Int32), u))
  else (
    (f_X11_in a2 1 20).bind (fun q2 =>
    if ¬ q2 = 0 then (
      f_X11_store_24 u a1 a2 (fun (c4v3 : Int32) =>
        (f_X11_leftOf c4v3 a1 a2).bind (fun q5 =>
        (f_X11_tells q5 c4v3 u).bind (fun q6 =>
        some (q6.1, q6.2)))) 20000 a1)
    else (
      some (((-1) : Int32), u)))))
set_option maxRecDepth 100000 in
set_option maxHeartbeats 4000000 in
theorem s_X11_store_24 {l : Launch} {g : am_G} {B : am_M} {pl : Nat} (hL : am_Lay B pl) (u : am_U) (v1 : Int32) (v2 : Int32)  (k39 : Int32 → Option (Int32 × am_U)) (hk39 : ∀ (v3 : Int32), am_E l g d_X11_store 39 [some (.ref (60)), some (.int (v1)), some (.int (v2)), some (.int (v3))] [] (am_of B u) (am_r (am_bI B) (k39 v3))) : ∀ (n : Nat) (v3 : Int32), am_E l g d_X11_store 24 [some (.ref (60)), some (.int (v1)), some (.int (v2)), some (.int (v3))] [] (am_of B u) (am_r (am_bI B) (f_X11_store_24 u v1 v2 k39 n v3)) := by
  intro n
  induction n with
  | zero => intro v3; exact am_none
  | succ n ih =>
    intro v3
    unfold f_X11_store_24
    refine e_iload_n dX11_store_24 rfl ?_
    refine e_iload_n dX11_store_25 rfl ?_
    refine e_iload_n dX11_store_26 rfl ?_
    refine q_callSP (As := [_, _, _]) rfl dX11_store_27 lm_M_252 (am_fitB rfl) yo_X11_leftOf ys_X11_leftOf rfl (Nat.le_of_ble_eq_true rfl) (Nat.le_of_ble_eq_true rfl) (s_X11_leftOf hL _ _ _  _) (fun q3 => ?_)
    refine e_if_ge dX11_store_30 (tgt := 39) (by decide) ?_ ?_
    · exact hk39 v3
    · refine e_iinc dX11_store_33 rfl (v := _ + 1) rfl (by decide) (LS1 := [_, _, _, _]) rfl ?_
      refine e_goto dX11_store_36 (tgt := 24) (by decide) ?_
      exact ih (v3 + 1)

set_option maxRecDepth 100000 in
set_option maxHeartbeats 4000000 in
theorem s_X11_store {l : Launch} {g : am_G} {B : am_M} {pl : Nat} (hL : am_Lay B pl) (a1 : Int32) (a2 : Int32)  (u : am_U) : am_E l g d_X11_store 0 (am_ent d_X11_store [.ref (60), .int (a1), .int (a2)]) [] (am_of B u) (am_r (am_bI B) (f_X11_store a1 a2 u)) := by
  unfold f_X11_store
  show am_E l g d_X11_store 0 [some (.ref (60)), some (.int (a1)), some (.int (a2)), none] [] (am_of B u) _
  refine e_iload_n dX11_store_0 rfl ?_
  refine e_iconst dX11_store_1 (v := 1) (by decide) ?_
  refine e_bipush dX11_store_2 (v := 9) (by decide) ?_
  refine q_callSP (As := [_, _, _]) rfl dX11_store_4 lm_M_106 (am_fitB rfl) yo_X11_in ys_X11_in rfl (Nat.le_of_ble_eq_true rfl) (Nat.le_of_ble_eq_true rfl) (s_X11_in hL _ _ _  _) (fun q1 => ?_)
  refine e_if_eq dX11_store_7 (tgt := 20) (by decide) ?_ ?_
  · refine e_iconst dX11_store_20 (v := ((-1) : Int32)) (by decide) ?_
    exact e_iret dX11_store_21 rfl rfl
  · refine e_iload_n dX11_store_10 rfl ?_
    refine e_iconst dX11_store_11 (v := 1) (by decide) ?_
    refine e_bipush dX11_store_12 (v := 20) (by decide) ?_
    refine q_callSP (As := [_, _, _]) rfl dX11_store_14 lm_M_106 (am_fitB rfl) yo_X11_in ys_X11_in rfl (Nat.le_of_ble_eq_true rfl) (Nat.le_of_ble_eq_true rfl) (s_X11_in hL _ _ _  _) (fun q2 => ?_)
    refine e_if_ne dX11_store_17 (tgt := 22) (by decide) ?_ ?_
    · refine e_iload_n dX11_store_22 rfl ?_
      refine e_istore_n dX11_store_23 (by decide) (LS1 := [_, _, _, _]) rfl ?_
      refine s_X11_store_24 hL _ _ _ _ (fun c4v3 => ?_) _ _
      · refine e_aload_n dX11_store_39 rfl ?_
        refine e_iload_n dX11_store_40 rfl ?_
        refine e_iload_n dX11_store_41 rfl ?_
        refine e_iload_n dX11_store_42 rfl ?_
        refine q_callSP (As := [_, _, _]) rfl dX11_store_43 lm_M_252 (am_fitB rfl) yo_X11_leftOf ys_X11_leftOf rfl (Nat.le_of_ble_eq_true rfl) (Nat.le_of_ble_eq_true rfl) (s_X11_leftOf hL _ _ _  _) (fun q5 => ?_)
        refine e_iload_n dX11_store_46 rfl ?_
        refine q_callVI (As := [_, _]) rfl dX11_store_47 lm_M_125 (am_fitB rfl) yo_X11_tells ys_X11_tells rfl rfl (by decide) (am_Lk hL rfl) rfl (Nat.le_of_ble_eq_true rfl) (Nat.le_of_ble_eq_true rfl) (s_X11_tells hL _ _  _) (fun q6 => ?_)
        exact e_iret dX11_store_50 rfl rfl
    · refine e_iconst dX11_store_20 (v := ((-1) : Int32)) (by decide) ?_
      exact e_iret dX11_store_21 rfl rfl

def f_X11_tear (a1 : Int32) (u : am_U) : Option (Int32 × am_U) :=
  (f_X11_isRow a1).bind (fun q1 =>
  if ¬ q1 = 0 then (
    am_ck (am_ix a1 6) (
    if 0 ≤ (u 62 a1.toNatClampNeg) then (
      let u3 : am_U := am_w u 62 a1.toNatClampNeg ((-1) : Int32)
      some (1, u3))
    else (
      (f_X11_meets 1 u).bind (fun q4 =>
      some (q4.1, q4.2)))))
  else (
    some (((-1) : Int32), u)))
set_option maxRecDepth 100000 in
set_option maxHeartbeats 4000000 in
theorem s_X11_tear {l : Launch} {g : am_G} {B : am_M} {pl : Nat} (hL : am_Lay B pl) (a1 : Int32)  (u : am_U) : am_E l g d_X11_tear 0 (am_ent d_X11_tear [.ref (60), .int (a1)]) [] (am_of B u) (am_r (am_bI B) (f_X11_tear a1 u)) := by
  unfold f_X11_tear
  show am_E l g d_X11_tear 0 [some (.ref (60)), some (.int (a1))] [] (am_of B u) _
  refine e_iload_n dX11_tear_0 rfl ?_
  refine q_callSP (As := [_]) rfl dX11_tear_1 lm_M_113 (am_fitB rfl) yo_X11_isRow ys_X11_isRow rfl (Nat.le_of_ble_eq_true rfl) (Nat.le_of_ble_eq_true rfl) (s_X11_isRow hL _  _) (fun q1 => ?_)
  refine e_if_ne dX11_tear_4 (tgt := 9) (by decide) ?_ ?_
  · refine e_aload_n dX11_tear_9 rfl ?_
    refine q_getR (r := 62) dX11_tear_10 lf_M_13 rfl (by decide) (am_Lk hL rfl) (am_Lr hL rfl) ?_
    refine e_iload_n dX11_tear_13 rfl ?_
    refine q_ialdH dX11_tear_14 (am_Ls hL rfl) (fun i2 => ?_)
    refine e_if_ge dX11_tear_15 (tgt := 24) (by decide) ?_ ?_
    · refine e_aload_n dX11_tear_24 rfl ?_
      refine q_getR (r := 62) dX11_tear_25 lf_M_13 rfl (by decide) (am_Lk hL rfl) (am_Lr hL rfl) ?_
      refine e_iload_n dX11_tear_28 rfl ?_
      refine e_iconst dX11_tear_29 (v := ((-1) : Int32)) (by decide) ?_
      refine q_iastC (jn := _) dX11_tear_30 (am_Ls hL rfl) i2 rfl ?_
      refine e_iconst dX11_tear_31 (v := 1) (by decide) ?_
      exact e_iret dX11_tear_32 rfl rfl
    · refine e_aload_n dX11_tear_18 rfl ?_
      refine e_iconst dX11_tear_19 (v := 1) (by decide) ?_
      refine q_callVI (As := [_]) rfl dX11_tear_20 lm_M_117 (am_fitB rfl) yo_X11_meets ys_X11_meets rfl rfl (by decide) (am_Lk hL rfl) rfl (Nat.le_of_ble_eq_true rfl) (Nat.le_of_ble_eq_true rfl) (s_X11_meets hL _  _) (fun q4 => ?_)
      exact e_iret dX11_tear_23 rfl rfl
  · refine e_iconst dX11_tear_7 (v := ((-1) : Int32)) (by decide) ?_
    exact e_iret dX11_tear_8 rfl rfl

def f_X11_text_34 (v1 : Int32) (v2 : Int32) : Nat → Int32 → am_U → Option (Int32 × am_U)
  | 0, _, _ => none
  | n + 1, v3, u =>
    if 60 ≤ v3 then (
      some (v2, u))
    else (
      am_ck (am_ix ((60 * v1) + v3) 240) (
      let u4 : am_U := am_w u 66 ((60 * v1) + v3).toNatClampNeg ((32 : Int32).toInt8.toInt32)
      f_X11_text_34 v1 v2 n (v3 + 1) u4))
def f_X11_text (a1 : Int32) (a2 : Int32) (u : am_U) : Option (Int32 × am_U) :=
  (f_X11_isText a1).bind (fun q1 =>
  if q1 = 0 then (
    some (((-1) : Int32), u))
  else (
    if a2 ≤ 60 then (
      if 0 ≤ a2 then (
        am_ck (am_ix a1 4) (
        let u2 : am_U := am_w u 65 a1.toNatClampNeg a2
        f_X11_text_34 a1 a2 20000 0 u2))
      else (
        (f_X11_meets 5 u).bind (fun q5 =>
        some (q5.1, q5.2))))
    else (
      some (((-1) : Int32), u))))
set_option maxRecDepth 100000 in
set_option maxHeartbeats 4000000 in
theorem s_X11_text_34 {l : Launch} {g : am_G} {B : am_M} {pl : Nat} (hL : am_Lay B pl) (v1 : Int32) (v2 : Int32)    : ∀ (n : Nat) (v3 : Int32) (u : am_U), am_E l g d_X11_text 34 [some (.ref (60)), some (.int (v1)), some (.int (v2)), some (.int (v3))] [] (am_of B u) (am_r (am_bI B) (f_X11_text_34 v1 v2 n v3 u)) := by
  intro n
  induction n with
  | zero => intro v3 u; exact am_none
  | succ n ih =>
    intro v3 u
    unfold f_X11_text_34
    refine e_iload_n dX11_text_34 rfl ?_
    refine e_bipush dX11_text_35 (v := 60) (by decide) ?_
    refine e_if2_ge dX11_text_37 (tgt := 59) (by decide) ?_ ?_
    · refine e_iload_n dX11_text_59 rfl ?_
      exact e_iret dX11_text_60 rfl rfl
    · refine e_aload_n dX11_text_40 rfl ?_
      refine q_getR (r := 66) dX11_text_41 lf_M_25 rfl (by decide) (am_Lk hL rfl) (am_Lr hL rfl) ?_
      refine e_bipush dX11_text_44 (v := 60) (by decide) ?_
      refine e_iload_n dX11_text_46 rfl ?_
      refine e_imul dX11_text_47 ?_
      refine e_iload_n dX11_text_48 rfl ?_
      refine e_iadd dX11_text_49 ?_
      refine e_bipush dX11_text_50 (v := 32) (by decide) ?_
      refine q_bast dX11_text_52 (am_Ls hL rfl) ?_
      refine e_iinc dX11_text_53 rfl (v := _ + 1) rfl (by decide) (LS1 := [_, _, _, _]) rfl ?_
      refine e_goto dX11_text_56 (tgt := 34) (by decide) ?_
      exact ih (v3 + 1) (am_w u 66 ((60 * v1) + v3).toNatClampNeg ((32 : Int32).toInt8.toInt32))

set_option maxRecDepth 100000 in
set_option maxHeartbeats 4000000 in
theorem s_X11_text {l : Launch} {g : am_G} {B : am_M} {pl : Nat} (hL : am_Lay B pl) (a1 : Int32) (a2 : Int32)  (u : am_U) : am_E l g d_X11_text 0 (am_ent d_X11_text [.ref (60), .int (a1), .int (a2)]) [] (am_of B u) (am_r (am_bI B) (f_X11_text a1 a2 u)) := by
  unfold f_X11_text
  show am_E l g d_X11_text 0 [some (.ref (60)), some (.int (a1)), some (.int (a2)), none] [] (am_of B u) _
  refine e_iload_n dX11_text_0 rfl ?_
  refine q_callSP (As := [_]) rfl dX11_text_1 lm_M_128 (am_fitB rfl) yo_X11_isText ys_X11_isText rfl (Nat.le_of_ble_eq_true rfl) (Nat.le_of_ble_eq_true rfl) (s_X11_isText hL _  _) (fun q1 => ?_)
  refine e_if_eq dX11_text_4 (tgt := 13) (by decide) ?_ ?_
  · refine e_iconst dX11_text_13 (v := ((-1) : Int32)) (by decide) ?_
    exact e_iret dX11_text_14 rfl rfl
  · refine e_iload_n dX11_text_7 rfl ?_
    refine e_bipush dX11_text_8 (v := 60) (by decide) ?_
    refine e_if2_le dX11_text_10 (tgt := 15) (by decide) ?_ ?_
    · refine e_iload_n dX11_text_15 rfl ?_
      refine e_if_ge dX11_text_16 (tgt := 25) (by decide) ?_ ?_
      · refine e_aload_n dX11_text_25 rfl ?_
        refine q_getR (r := 65) dX11_text_26 lf_M_22 rfl (by decide) (am_Lk hL rfl) (am_Lr hL rfl) ?_
        refine e_iload_n dX11_text_29 rfl ?_
        refine e_iload_n dX11_text_30 rfl ?_
        refine q_iastH dX11_text_31 (am_Ls hL rfl) (fun i3 => ?_)
        refine e_iconst dX11_text_32 (v := 0) (by decide) ?_
        refine e_istore_n dX11_text_33 (by decide) (LS1 := [_, _, _, _]) rfl ?_
        refine s_X11_text_34 hL _ _ _ _ _
      · refine e_aload_n dX11_text_19 rfl ?_
        refine e_iconst dX11_text_20 (v := 5) (by decide) ?_
        refine q_callVI (As := [_]) rfl dX11_text_21 lm_M_117 (am_fitB rfl) yo_X11_meets ys_X11_meets rfl rfl (by decide) (am_Lk hL rfl) rfl (Nat.le_of_ble_eq_true rfl) (Nat.le_of_ble_eq_true rfl) (s_X11_meets hL _  _) (fun q5 => ?_)
        exact e_iret dX11_text_24 rfl rfl
    · refine e_iconst dX11_text_13 (v := ((-1) : Int32)) (by decide) ?_
      exact e_iret dX11_text_14 rfl rfl

def f_X11_theft_54 (u : am_U) (v1 : Int32) (v2 : Int32) (k97 : Int32 → Option (Int32 × am_U)) : Nat → Int32 → Int32 → Option (Int32 × am_U)
  | 0, _, _ => none
  | n + 1, v3, v4 =>
    am_ck (am_ix v1 6) (
    if (u 62 v1.toNatClampNeg) ≤ v4 then (
      k97 v3)
    else (
      if v3 = 0 then (
        f_X11_theft_54 u v1 v2 k97 n 0 (v4 + 1))
      else (
        (f_X11_rowAt v1 v4 u).bind (fun q5 =>
        (f_X11_in q5 0 20).bind (fun q6 =>
        if q6 = 0 then (
          f_X11_theft_54 u v1 v2 k97 n 0 (v4 + 1))
        else (
          f_X11_theft_54 u v1 v2 k97 n 1 (v4 + 1)))))))
def f_X11_theft_110 (u : am_U) (v1 : Int32) (v2 : Int32) (k159 : Int32 → Int32 → Option (Int32 × am_U)) : Nat → Int32 → Option (Int32 × am_U)
  | 0, _ => none
  | n + 1, v4 =>
    am_ck (am_ix v1 6) (
    if (u 62 v1.toNatClampNeg) ≤ v4 then (
      some (((-9) : Int32), u))
    else (
      (f_X11_rowAt v1 (v4 - 1) u).bind (fun q9 =>
      (f_X11_rowAt v1 (v4 - 1) u).bind (fun q10 =>
      (f_X11_leakOf v2 q10 0).bind (fun q11 =>
      (f_X11_rowAt v1 v4 u).bind (fun q12 =>
      if (q9 - q11) ≤ q12 then (
        f_X11_theft_110 u v1 v2 k159 n (v4 + 1))
      else (
        k159 v4 (q9 - q11))))))))
def f_X11_theft (a1 : Int32) (a2 : Int32) (u : am_U) : Option (Int32 × am_U) :=
  (f_X11_isRow a1).bind (fun q1 =>
  if q1 = 0 then (
    some (((-1) : Int32), u))
  else (
    (f_X11_in a2 0 5).bind (fun q2 =>
    if ¬ q2 = 0 then (
      am_ck (am_ix a1 6) (
      if 0 ≤ (u 62 a1.toNatClampNeg) then (
        if 2 ≤ (u 62 a1.toNatClampNeg) then (
          f_X11_theft_54 u a1 a2 (fun (c7v3 : Int32) =>
            if ¬ c7v3 = 0 then (
              f_X11_theft_110 u a1 a2 (fun (c13v4 : Int32) (c13v5 : Int32) =>
                (f_X11_rowAt a1 c13v4 u).bind (fun q14 =>
                (f_X11_tells (c13v5 - q14) c13v4 u).bind (fun q15 =>
                some (q15.1, q15.2)))) 20000 1)
            else (
              (f_X11_meets 3 u).bind (fun q16 =>
              some (q16.1, q16.2)))) 20000 1 0)
        else (
          (f_X11_meets 5 u).bind (fun q17 =>
          some (q17.1, q17.2))))
      else (
        (f_X11_meets 1 u).bind (fun q18 =>
        some (q18.1, q18.2)))))
    else (
      some (((-1) : Int32), u)))))
set_option maxRecDepth 100000 in
set_option maxHeartbeats 4000000 in
theorem s_X11_theft_54 {l : Launch} {g : am_G} {B : am_M} {pl : Nat} (hL : am_Lay B pl) (u : am_U) (v1 : Int32) (v2 : Int32)  (k97 : Int32 → Option (Int32 × am_U)) (hk97 : ∀ (v3 : Int32), am_E l g d_X11_theft 97 [some (.ref (60)), some (.int (v1)), some (.int (v2)), some (.int (v3)), none, none] [] (am_of B u) (am_r (am_bI B) (k97 v3))) : ∀ (n : Nat) (v3 : Int32) (v4 : Int32), am_E l g d_X11_theft 54 [some (.ref (60)), some (.int (v1)), some (.int (v2)), some (.int (v3)), some (.int (v4)), none] [] (am_of B u) (am_r (am_bI B) (f_X11_theft_54 u v1 v2 k97 n v3 v4)) := by
  intro n
  induction n with
  | zero => intro v3 v4; exact am_none
  | succ n ih =>
    intro v3 v4
    unfold f_X11_theft_54
    refine e_iload dX11_theft_54 rfl ?_
    refine e_aload_n dX11_theft_56 rfl ?_
    refine q_getR (r := 62) dX11_theft_57 lf_M_13 rfl (by decide) (am_Lk hL rfl) (am_Lr hL rfl) ?_
    refine e_iload_n dX11_theft_60 rfl ?_
    refine q_ialdH dX11_theft_61 (am_Ls hL rfl) (fun i4 => ?_)
    refine e_if2_ge dX11_theft_62 (tgt := 97) (by decide) ?_ ?_
    · refine e_msk [true, true, true, true, false, false] (LS1 := [_, _, _, _, none, none]) rfl ?_
      exact hk97 v3
    · refine e_iload_n dX11_theft_65 rfl ?_
      refine e_if_eq dX11_theft_66 (tgt := 89) (by decide) ?_ ?_
      · refine e_iconst dX11_theft_89 (v := 0) (by decide) ?_
        refine e_istore_n dX11_theft_90 (by decide) (LS1 := [_, _, _, _, _, none]) rfl ?_
        refine e_iinc dX11_theft_91 rfl (v := _ + 1) rfl (by decide) (LS1 := [_, _, _, _, _, none]) rfl ?_
        refine e_goto dX11_theft_94 (tgt := 54) (by decide) ?_
        exact ih 0 (v4 + 1)
      · refine e_aload_n dX11_theft_69 rfl ?_
        refine e_iload_n dX11_theft_70 rfl ?_
        refine e_iload dX11_theft_71 rfl ?_
        refine q_callVP (As := [_, _]) rfl dX11_theft_73 lm_M_121 (am_fitB rfl) yo_X11_rowAt ys_X11_rowAt rfl rfl (by decide) (am_Lk hL rfl) rfl (Nat.le_of_ble_eq_true rfl) (Nat.le_of_ble_eq_true rfl) (s_X11_rowAt hL _ _  _) (fun q5 => ?_)
        refine e_iconst dX11_theft_76 (v := 0) (by decide) ?_
        refine e_bipush dX11_theft_77 (v := 20) (by decide) ?_
        refine q_callSP (As := [_, _, _]) rfl dX11_theft_79 lm_M_106 (am_fitB rfl) yo_X11_in ys_X11_in rfl (Nat.le_of_ble_eq_true rfl) (Nat.le_of_ble_eq_true rfl) (s_X11_in hL _ _ _  _) (fun q6 => ?_)
        refine e_if_eq dX11_theft_82 (tgt := 89) (by decide) ?_ ?_
        · refine e_iconst dX11_theft_89 (v := 0) (by decide) ?_
          refine e_istore_n dX11_theft_90 (by decide) (LS1 := [_, _, _, _, _, none]) rfl ?_
          refine e_iinc dX11_theft_91 rfl (v := _ + 1) rfl (by decide) (LS1 := [_, _, _, _, _, none]) rfl ?_
          refine e_goto dX11_theft_94 (tgt := 54) (by decide) ?_
          exact ih 0 (v4 + 1)
        · refine e_iconst dX11_theft_85 (v := 1) (by decide) ?_
          refine e_goto dX11_theft_86 (tgt := 90) (by decide) ?_
          refine e_istore_n dX11_theft_90 (by decide) (LS1 := [_, _, _, _, _, none]) rfl ?_
          refine e_iinc dX11_theft_91 rfl (v := _ + 1) rfl (by decide) (LS1 := [_, _, _, _, _, none]) rfl ?_
          refine e_goto dX11_theft_94 (tgt := 54) (by decide) ?_
          exact ih 1 (v4 + 1)

set_option maxRecDepth 100000 in
set_option maxHeartbeats 4000000 in
theorem s_X11_theft_110 {l : Launch} {g : am_G} {B : am_M} {pl : Nat} (hL : am_Lay B pl) (u : am_U) (v1 : Int32) (v2 : Int32)  (k159 : Int32 → Int32 → Option (Int32 × am_U)) (hk159 : ∀ (v4 : Int32) (v5 : Int32), am_E l g d_X11_theft 159 [some (.ref (60)), some (.int (v1)), none, none, some (.int (v4)), some (.int (v5))] [] (am_of B u) (am_r (am_bI B) (k159 v4 v5))) : ∀ (n : Nat) (v4 : Int32), am_E l g d_X11_theft 110 [some (.ref (60)), some (.int (v1)), some (.int (v2)), none, some (.int (v4)), none] [] (am_of B u) (am_r (am_bI B) (f_X11_theft_110 u v1 v2 k159 n v4)) := by
  intro n
  induction n with
  | zero => intro v4; exact am_none
  | succ n ih =>
    intro v4
    unfold f_X11_theft_110
    refine e_iload dX11_theft_110 rfl ?_
    refine e_aload_n dX11_theft_112 rfl ?_
    refine q_getR (r := 62) dX11_theft_113 lf_M_13 rfl (by decide) (am_Lk hL rfl) (am_Lr hL rfl) ?_
    refine e_iload_n dX11_theft_116 rfl ?_
    refine q_ialdH dX11_theft_117 (am_Ls hL rfl) (fun i8 => ?_)
    refine e_if2_ge dX11_theft_118 (tgt := 182) (by decide) ?_ ?_
    · refine e_bipush dX11_theft_182 (v := ((-9) : Int32)) (by decide) ?_
      exact e_iret dX11_theft_184 rfl rfl
    · refine e_aload_n dX11_theft_121 rfl ?_
      refine e_iload_n dX11_theft_122 rfl ?_
      refine e_iload dX11_theft_123 rfl ?_
      refine e_iconst dX11_theft_125 (v := 1) (by decide) ?_
      refine e_isub dX11_theft_126 ?_
      refine q_callVP (As := [_, _]) rfl dX11_theft_127 lm_M_121 (am_fitB rfl) yo_X11_rowAt ys_X11_rowAt rfl rfl (by decide) (am_Lk hL rfl) rfl (Nat.le_of_ble_eq_true rfl) (Nat.le_of_ble_eq_true rfl) (s_X11_rowAt hL _ _  _) (fun q9 => ?_)
      refine e_iload_n dX11_theft_130 rfl ?_
      refine e_aload_n dX11_theft_131 rfl ?_
      refine e_iload_n dX11_theft_132 rfl ?_
      refine e_iload dX11_theft_133 rfl ?_
      refine e_iconst dX11_theft_135 (v := 1) (by decide) ?_
      refine e_isub dX11_theft_136 ?_
      refine q_callVP (As := [_, _]) rfl dX11_theft_137 lm_M_121 (am_fitB rfl) yo_X11_rowAt ys_X11_rowAt rfl rfl (by decide) (am_Lk hL rfl) rfl (Nat.le_of_ble_eq_true rfl) (Nat.le_of_ble_eq_true rfl) (s_X11_rowAt hL _ _  _) (fun q10 => ?_)
      refine e_iconst dX11_theft_140 (v := 0) (by decide) ?_
      refine q_callSP (As := [_, _, _]) rfl dX11_theft_141 lm_M_196 (am_fitB rfl) yo_X11_leakOf ys_X11_leakOf rfl (Nat.le_of_ble_eq_true rfl) (Nat.le_of_ble_eq_true rfl) (s_X11_leakOf hL _ _ _  _) (fun q11 => ?_)
      refine e_isub dX11_theft_144 ?_
      refine e_istore dX11_theft_145 (by decide) (LS1 := [_, _, _, none, _, _]) rfl ?_
      refine e_aload_n dX11_theft_147 rfl ?_
      refine e_iload_n dX11_theft_148 rfl ?_
      refine e_iload dX11_theft_149 rfl ?_
      refine q_callVP (As := [_, _]) rfl dX11_theft_151 lm_M_121 (am_fitB rfl) yo_X11_rowAt ys_X11_rowAt rfl rfl (by decide) (am_Lk hL rfl) rfl (Nat.le_of_ble_eq_true rfl) (Nat.le_of_ble_eq_true rfl) (s_X11_rowAt hL _ _  _) (fun q12 => ?_)
      refine e_iload dX11_theft_154 rfl ?_
      refine e_if2_ge dX11_theft_156 (tgt := 176) (by decide) ?_ ?_
      · refine e_iinc dX11_theft_176 rfl (v := _ + 1) rfl (by decide) (LS1 := [_, _, _, none, _, _]) rfl ?_
        refine e_goto dX11_theft_179 (tgt := 110) (by decide) ?_
        refine e_msk [true, true, true, false, true, false] (LS1 := [_, _, _, none, _, none]) rfl ?_
        exact ih (v4 + 1)
      · refine e_msk [true, true, false, false, true, true] (LS1 := [_, _, none, none, _, _]) rfl ?_
        exact hk159 v4 (q9 - q11)

set_option maxRecDepth 100000 in
set_option maxHeartbeats 4000000 in
theorem s_X11_theft {l : Launch} {g : am_G} {B : am_M} {pl : Nat} (hL : am_Lay B pl) (a1 : Int32) (a2 : Int32)  (u : am_U) : am_E l g d_X11_theft 0 (am_ent d_X11_theft [.ref (60), .int (a1), .int (a2)]) [] (am_of B u) (am_r (am_bI B) (f_X11_theft a1 a2 u)) := by
  unfold f_X11_theft
  show am_E l g d_X11_theft 0 [some (.ref (60)), some (.int (a1)), some (.int (a2)), none, none, none] [] (am_of B u) _
  refine e_iload_n dX11_theft_0 rfl ?_
  refine q_callSP (As := [_]) rfl dX11_theft_1 lm_M_113 (am_fitB rfl) yo_X11_isRow ys_X11_isRow rfl (Nat.le_of_ble_eq_true rfl) (Nat.le_of_ble_eq_true rfl) (s_X11_isRow hL _  _) (fun q1 => ?_)
  refine e_if_eq dX11_theft_4 (tgt := 16) (by decide) ?_ ?_
  · refine e_iconst dX11_theft_16 (v := ((-1) : Int32)) (by decide) ?_
    exact e_iret dX11_theft_17 rfl rfl
  · refine e_iload_n dX11_theft_7 rfl ?_
    refine e_iconst dX11_theft_8 (v := 0) (by decide) ?_
    refine e_iconst dX11_theft_9 (v := 5) (by decide) ?_
    refine q_callSP (As := [_, _, _]) rfl dX11_theft_10 lm_M_106 (am_fitB rfl) yo_X11_in ys_X11_in rfl (Nat.le_of_ble_eq_true rfl) (Nat.le_of_ble_eq_true rfl) (s_X11_in hL _ _ _  _) (fun q2 => ?_)
    refine e_if_ne dX11_theft_13 (tgt := 18) (by decide) ?_ ?_
    · refine e_aload_n dX11_theft_18 rfl ?_
      refine q_getR (r := 62) dX11_theft_19 lf_M_13 rfl (by decide) (am_Lk hL rfl) (am_Lr hL rfl) ?_
      refine e_iload_n dX11_theft_22 rfl ?_
      refine q_ialdH dX11_theft_23 (am_Ls hL rfl) (fun i3 => ?_)
      refine e_if_ge dX11_theft_24 (tgt := 33) (by decide) ?_ ?_
      · refine e_aload_n dX11_theft_33 rfl ?_
        refine q_getR (r := 62) dX11_theft_34 lf_M_13 rfl (by decide) (am_Lk hL rfl) (am_Lr hL rfl) ?_
        refine e_iload_n dX11_theft_37 rfl ?_
        refine q_ialdC (jn := _) dX11_theft_38 (am_Ls hL rfl) i3 rfl ?_
        refine e_iconst dX11_theft_39 (v := 2) (by decide) ?_
        refine e_if2_ge dX11_theft_40 (tgt := 49) (by decide) ?_ ?_
        · refine e_iconst dX11_theft_49 (v := 1) (by decide) ?_
          refine e_istore_n dX11_theft_50 (by decide) (LS1 := [_, _, _, _, none, none]) rfl ?_
          refine e_iconst dX11_theft_51 (v := 0) (by decide) ?_
          refine e_istore dX11_theft_52 (by decide) (LS1 := [_, _, _, _, _, none]) rfl ?_
          refine s_X11_theft_54 hL _ _ _ _ (fun c7v3 => ?_) _ _ _
          · refine e_iload_n dX11_theft_97 rfl ?_
            refine e_if_ne dX11_theft_98 (tgt := 107) (by decide) ?_ ?_
            · refine e_iconst dX11_theft_107 (v := 1) (by decide) ?_
              refine e_istore dX11_theft_108 (by decide) (LS1 := [_, _, _, _, _, none]) rfl ?_
              refine e_msk [true, true, true, false, true, false] (LS1 := [_, _, _, none, _, none]) rfl ?_
              refine s_X11_theft_110 hL _ _ _ _ (fun c13v4 c13v5 => ?_) _ _
              · refine e_aload_n dX11_theft_159 rfl ?_
                refine e_iload dX11_theft_160 rfl ?_
                refine e_aload_n dX11_theft_162 rfl ?_
                refine e_iload_n dX11_theft_163 rfl ?_
                refine e_iload dX11_theft_164 rfl ?_
                refine q_callVP (As := [_, _]) rfl dX11_theft_166 lm_M_121 (am_fitB rfl) yo_X11_rowAt ys_X11_rowAt rfl rfl (by decide) (am_Lk hL rfl) rfl (Nat.le_of_ble_eq_true rfl) (Nat.le_of_ble_eq_true rfl) (s_X11_rowAt hL _ _  _) (fun q14 => ?_)
                refine e_isub dX11_theft_169 ?_
                refine e_iload dX11_theft_170 rfl ?_
                refine q_callVI (As := [_, _]) rfl dX11_theft_172 lm_M_125 (am_fitB rfl) yo_X11_tells ys_X11_tells rfl rfl (by decide) (am_Lk hL rfl) rfl (Nat.le_of_ble_eq_true rfl) (Nat.le_of_ble_eq_true rfl) (s_X11_tells hL _ _  _) (fun q15 => ?_)
                exact e_iret dX11_theft_175 rfl rfl
            · refine e_aload_n dX11_theft_101 rfl ?_
              refine e_iconst dX11_theft_102 (v := 3) (by decide) ?_
              refine q_callVI (As := [_]) rfl dX11_theft_103 lm_M_117 (am_fitB rfl) yo_X11_meets ys_X11_meets rfl rfl (by decide) (am_Lk hL rfl) rfl (Nat.le_of_ble_eq_true rfl) (Nat.le_of_ble_eq_true rfl) (s_X11_meets hL _  _) (fun q16 => ?_)
              exact e_iret dX11_theft_106 rfl rfl
        · refine e_aload_n dX11_theft_43 rfl ?_
          refine e_iconst dX11_theft_44 (v := 5) (by decide) ?_
          refine q_callVI (As := [_]) rfl dX11_theft_45 lm_M_117 (am_fitB rfl) yo_X11_meets ys_X11_meets rfl rfl (by decide) (am_Lk hL rfl) rfl (Nat.le_of_ble_eq_true rfl) (Nat.le_of_ble_eq_true rfl) (s_X11_meets hL _  _) (fun q17 => ?_)
          exact e_iret dX11_theft_48 rfl rfl
      · refine e_aload_n dX11_theft_27 rfl ?_
        refine e_iconst dX11_theft_28 (v := 1) (by decide) ?_
        refine q_callVI (As := [_]) rfl dX11_theft_29 lm_M_117 (am_fitB rfl) yo_X11_meets ys_X11_meets rfl rfl (by decide) (am_Lk hL rfl) rfl (Nat.le_of_ble_eq_true rfl) (Nat.le_of_ble_eq_true rfl) (s_X11_meets hL _  _) (fun q18 => ?_)
        exact e_iret dX11_theft_32 rfl rfl
    · refine e_iconst dX11_theft_16 (v := ((-1) : Int32)) (by decide) ?_
      exact e_iret dX11_theft_17 rfl rfl

def f_X11_upper (u : am_U) : Option (Int64) :=
  if ¬ (u 60 12) = 0 then (
    (f_X11_lightAll u).bind (fun q1 =>
    (f_X11_common u).bind (fun q2 =>
    am_ck (!(q2 == 0)) (
    some ((q1 / q2).toInt64)))))
  else (
    some (0 : Int64))
set_option maxRecDepth 100000 in
set_option maxHeartbeats 4000000 in
theorem s_X11_upper {l : Launch} {g : am_G} {B : am_M} {pl : Nat} (hL : am_Lay B pl)   (u : am_U) : am_E l g d_X11_upper 0 (am_ent d_X11_upper [.ref (60)]) [] (am_of B u) (am_r (am_bN B u) (f_X11_upper u)) := by
  unfold f_X11_upper
  show am_E l g d_X11_upper 0 [some (.ref (60))] [] (am_of B u) _
  refine e_aload_n dX11_upper_0 rfl ?_
  refine q_getI dX11_upper_1 lf_M_184 (by decide) (am_Lk hL rfl) ?_
  refine e_if_ne dX11_upper_4 (tgt := 11) (by decide) ?_ ?_
  · refine e_aload_n dX11_upper_11 rfl ?_
    refine q_callVP (As := []) rfl dX11_upper_12 lm_M_328 (am_fitB rfl) yo_X11_lightAll ys_X11_lightAll rfl rfl (by decide) (am_Lk hL rfl) rfl (Nat.le_of_ble_eq_true rfl) (Nat.le_of_ble_eq_true rfl) (s_X11_lightAll hL   _) (fun q1 => ?_)
    refine e_aload_n dX11_upper_15 rfl ?_
    refine q_callVP (As := []) rfl dX11_upper_16 lm_M_334 (am_fitB rfl) yo_X11_common ys_X11_common rfl rfl (by decide) (am_Lk hL rfl) rfl (Nat.le_of_ble_eq_true rfl) (Nat.le_of_ble_eq_true rfl) (s_X11_common hL   _) (fun q2 => ?_)
    refine e_divq dX11_upper_19 ?_
    refine e_i2l dX11_upper_20 ?_
    exact e_lret dX11_upper_21 rfl rfl
  · refine e_lconst dX11_upper_7 (v := 0) (by decide) ?_
    refine e_goto dX11_upper_8 (tgt := 21) (by decide) ?_
    exact e_lret dX11_upper_21 rfl rfl

def f_X1_remember (a1 : Int32) (u : am_U) : Option (am_U) :=
  am_jn (fun (j1u : am_U) =>
    let x2 : Int32 := ((j1u 14 2) + (j1u 14 3)) - ((j1u 14 2) + (j1u 14 3)) / 60 * 60
    am_ck (am_ix x2 60) (
    let u3 : am_U := am_w j1u 17 x2.toNatClampNeg a1
    (f_X4_save 15 1800 x2 u3).bind (fun q5 =>
    let u6 : am_U := am_w q5 14 3 ((q5 14 3) + 1)
    some u6))) (fun j1 =>
  if ¬ (u 14 3) = 60 then (
    j1 u)
  else (
    let u7 : am_U := am_w u 14 2 (((u 14 2) + 1) - ((u 14 2) + 1) / 60 * 60)
    let u8 : am_U := am_w u7 14 3 ((u7 14 3) - 1)
    j1 u8))
set_option maxRecDepth 100000 in
set_option maxHeartbeats 4000000 in
theorem s_X1_remember {l : Launch} {g : am_G} {B : am_M} {pl : Nat} (hL : am_Lay B pl) (a1 : Int32)  (u : am_U) : am_E l g d_X1_remember 0 (am_ent d_X1_remember [.ref (14), .int (a1), .ref (8)]) [] (am_of B u) (am_r (am_bV B) (f_X1_remember a1 u)) := by
  unfold f_X1_remember
  show am_E l g d_X1_remember 0 [some (.ref (14)), some (.int (a1)), some (.ref (8)), none] [] (am_of B u) _
  refine e_aload_n dX1_remember_0 rfl ?_
  refine q_getI dX1_remember_1 lf_Deeds_24 (by decide) (am_Lk hL rfl) ?_
  refine e_bipush dX1_remember_4 (v := 60) (by decide) ?_
  refine e_jn (P := fun t : am_U → Option (am_U) => ∀ (j1u : am_U), am_E l g d_X1_remember 32 [some (.ref (14)), some (.int (a1)), some (.ref (8)), none] [] (am_of B j1u) (am_r (am_bV B) (t j1u))) ?_ (fun j1 hj1 => ?_)
  · intro j1u
    refine e_aload_n dX1_remember_32 rfl ?_
    refine q_getI dX1_remember_33 lf_Deeds_28 (by decide) (am_Lk hL rfl) ?_
    refine e_aload_n dX1_remember_36 rfl ?_
    refine q_getI dX1_remember_37 lf_Deeds_24 (by decide) (am_Lk hL rfl) ?_
    refine e_iadd dX1_remember_40 ?_
    refine e_bipush dX1_remember_41 (v := 60) (by decide) ?_
    refine e_irem dX1_remember_43 (by decide) ?_
    refine e_istore_n dX1_remember_44 (by decide) (LS1 := [_, _, _, _]) rfl ?_
    refine e_aload_n dX1_remember_45 rfl ?_
    refine q_getR (r := 17) dX1_remember_46 lf_Deeds_20 rfl (by decide) (am_Lk hL rfl) (am_Lr hL rfl) ?_
    refine e_iload_n dX1_remember_49 rfl ?_
    refine e_iload_n dX1_remember_50 rfl ?_
    refine q_iastH dX1_remember_51 (am_Ls hL rfl) (fun i4 => ?_)
    refine e_aload_n dX1_remember_52 rfl ?_
    refine q_getR (r := 15) dX1_remember_53 lf_Deeds_14 rfl (by decide) (am_Lk hL rfl) (am_Lr hL rfl) ?_
    refine e_iload_n dX1_remember_56 rfl ?_
    refine e_aload_n dX1_remember_57 rfl ?_
    refine q_callVV (As := [_, _]) rfl dX1_remember_58 lm_Deeds_31 (am_fitB rfl) yo_X4_save ys_X4_save rfl rfl (by decide) (am_Lk hL rfl) rfl (Nat.le_of_ble_eq_true rfl) (Nat.le_of_ble_eq_true rfl) (s_X4_save hL _ _ _ (am_mem15 hL) _) (fun q5 => ?_)
    refine e_aload_n dX1_remember_61 rfl ?_
    refine e_dup dX1_remember_62 rfl ?_
    refine q_getI dX1_remember_63 lf_Deeds_24 (by decide) (am_Lk hL rfl) ?_
    refine e_iconst dX1_remember_66 (v := 1) (by decide) ?_
    refine e_iadd dX1_remember_67 ?_
    refine q_putI dX1_remember_68 lf_Deeds_24 rfl (by decide) (am_Lk hL rfl) ?_
    exact e_vret dX1_remember_71 rfl rfl
  · refine e_if2_ne dX1_remember_6 (tgt := 32) (by decide) ?_ ?_
    · refine e_msk [true, true, true, false] (LS1 := [_, _, _, none]) rfl ?_
      exact hj1 u
    · refine e_aload_n dX1_remember_9 rfl ?_
      refine e_aload_n dX1_remember_10 rfl ?_
      refine q_getI dX1_remember_11 lf_Deeds_28 (by decide) (am_Lk hL rfl) ?_
      refine e_iconst dX1_remember_14 (v := 1) (by decide) ?_
      refine e_iadd dX1_remember_15 ?_
      refine e_bipush dX1_remember_16 (v := 60) (by decide) ?_
      refine e_irem dX1_remember_18 (by decide) ?_
      refine q_putI dX1_remember_19 lf_Deeds_28 rfl (by decide) (am_Lk hL rfl) ?_
      refine e_aload_n dX1_remember_22 rfl ?_
      refine e_dup dX1_remember_23 rfl ?_
      refine q_getI dX1_remember_24 lf_Deeds_24 (by decide) (am_Lk hL rfl) ?_
      refine e_iconst dX1_remember_27 (v := 1) (by decide) ?_
      refine e_isub dX1_remember_28 ?_
      refine q_putI dX1_remember_29 lf_Deeds_24 rfl (by decide) (am_Lk hL rfl) ?_
      refine e_msk [true, true, true, false] (LS1 := [_, _, _, none]) rfl ?_
      exact hj1 (am_w (am_w u 14 2 (((u 14 2) + 1) - ((u 14 2) + 1) / 60 * 60)) 14 3 (((am_w u 14 2 (((u 14 2) + 1) - ((u 14 2) + 1) / 60 * 60)) 14 3) - 1))

