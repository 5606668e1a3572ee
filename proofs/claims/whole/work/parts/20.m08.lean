def f_X11_mirror_25 (u : am_U) (v1 : Int32) (v2 : Int32) (k61 : Int32 → Option (Int32 × am_U)) : Nat → Int32 → Int32 → Option (Int32 × am_U)
  | 0, _, _ => none
  | n + 1, v3, v4 =>
    if (u 60 9) ≤ v4 then (
      k61 v3)
    else (
      am_jn (fun (j3z : Unit) =>
        f_X11_mirror_25 u v1 v2 k61 n 1 (v4 + 1)) (fun j3 =>
      if ¬ v3 = 0 then (
        j3 () )
      else (
        am_ck (am_ix v4 8) (
        if ¬ (u 67 v4.toNatClampNeg) = 1 then (
          f_X11_mirror_25 u v1 v2 k61 n 0 (v4 + 1))
        else (
          j3 () )))))
def f_X11_mirror_86 (u : am_U) (v1 : Int32) (v2 : Int32) (k141 : Int32 → Int32 → Option (Int32 × am_U)) : Nat → Int32 → Int32 → Int32 → Option (Int32 × am_U)
  | 0, _, _, _ => none
  | n + 1, v4, v5, v6 =>
    if v2 ≤ v4 then (
      k141 v5 v6)
    else (
      (f_X11_shines v6 u).bind (fun q7 =>
      am_jn (fun (j8s0 : Int32) =>
        (f_X11_shines v6 u).bind (fun q9 =>
        if q9 = 0 then (
          f_X11_mirror_86 u v1 v2 k141 n (v4 + j8s0) (v5 + 0) (v6 + 1))
        else (
          f_X11_mirror_86 u v1 v2 k141 n (v4 + j8s0) (v5 + 1) (v6 + 1)))) (fun j8 =>
      if q7 = 0 then (
        j8 0)
      else (
        am_ck (am_ix v1 5) (
        j8 (u 68 v1.toNatClampNeg))))))
def f_X11_mirror (a1 : Int32) (a2 : Int32) (u : am_U) : Option (Int32 × am_U) :=
  (f_X11_isValley a1).bind (fun q1 =>
  if q1 = 0 then (
    some (((-1) : Int32), u))
  else (
    (f_X11_in a2 1 999).bind (fun q2 =>
    if ¬ q2 = 0 then (
      f_X11_mirror_25 u a1 a2 (fun (c5v3 : Int32) =>
        if c5v3 = 0 then (
          some (((-9) : Int32), u))
        else (
          am_ck (am_ix a1 5) (
          if ¬ (u 68 a1.toNatClampNeg) = 0 then (
            f_X11_mirror_86 u a1 a2 (fun (c11v5 : Int32) (c11v6 : Int32) =>
              (f_X11_tells c11v5 c11v6 u).bind (fun q12 =>
              some (q12.1, q12.2))) 20000 0 0 0)
          else (
            some (((-9) : Int32), u))))) 20000 0 0)
    else (
      some (((-1) : Int32), u)))))
set_option maxRecDepth 100000 in
set_option maxHeartbeats 4000000 in
theorem s_X11_mirror_25 {l : Launch} {g : am_G} {B : am_M} {pl : Nat} (hL : am_Lay B pl) (u : am_U) (v1 : Int32) (v2 : Int32)  (k61 : Int32 → Option (Int32 × am_U)) (hk61 : ∀ (v3 : Int32), am_E l g d_X11_mirror 61 [some (.ref (60)), some (.int (v1)), some (.int (v2)), some (.int (v3)), none, none, none] [] (am_of B u) (am_r (am_bI B) (k61 v3))) : ∀ (n : Nat) (v3 : Int32) (v4 : Int32), am_E l g d_X11_mirror 25 [some (.ref (60)), some (.int (v1)), some (.int (v2)), some (.int (v3)), some (.int (v4)), none, none] [] (am_of B u) (am_r (am_bI B) (f_X11_mirror_25 u v1 v2 k61 n v3 v4)) := by
  intro n
  induction n with
  | zero => intro v3 v4; exact am_none
  | succ n ih =>
    intro v3 v4
    unfold f_X11_mirror_25
    refine e_iload dX11_mirror_25 rfl ?_
    refine e_aload_n dX11_mirror_27 rfl ?_
    refine q_getI dX11_mirror_28 lf_M_181 (by decide) (am_Lk hL rfl) ?_
    refine e_if2_ge dX11_mirror_31 (tgt := 61) (by decide) ?_ ?_
    · refine e_msk [true, true, true, true, false, false, false] (LS1 := [_, _, _, _, none, none, none]) rfl ?_
      exact hk61 v3
    · refine e_iload_n dX11_mirror_34 rfl ?_
      refine e_jn (P := fun t : Unit → Option (Int32 × am_U) => ∀ (j3z : Unit), am_E l g d_X11_mirror 49 [some (.ref (60)), some (.int (v1)), some (.int (v2)), none, some (.int (v4)), none, none] [] (am_of B u) (am_r (am_bI B) (t j3z))) ?_ (fun j3 hj3 => ?_)
      · intro j3z
        refine e_iconst dX11_mirror_49 (v := 1) (by decide) ?_
        refine e_goto dX11_mirror_50 (tgt := 54) (by decide) ?_
        refine e_istore_n dX11_mirror_54 (by decide) (LS1 := [_, _, _, _, _, none, none]) rfl ?_
        refine e_iinc dX11_mirror_55 rfl (v := _ + 1) rfl (by decide) (LS1 := [_, _, _, _, _, none, none]) rfl ?_
        refine e_goto dX11_mirror_58 (tgt := 25) (by decide) ?_
        exact ih 1 (v4 + 1)
      · refine e_if_ne dX11_mirror_35 (tgt := 49) (by decide) ?_ ?_
        · refine e_msk [true, true, true, false, true, false, false] (LS1 := [_, _, _, none, _, none, none]) rfl ?_
          exact hj3 () 
        · refine e_aload_n dX11_mirror_38 rfl ?_
          refine q_getR (r := 67) dX11_mirror_39 lf_M_29 rfl (by decide) (am_Lk hL rfl) (am_Lr hL rfl) ?_
          refine e_iload dX11_mirror_42 rfl ?_
          refine q_ialdH dX11_mirror_44 (am_Ls hL rfl) (fun i4 => ?_)
          refine e_iconst dX11_mirror_45 (v := 1) (by decide) ?_
          refine e_if2_ne dX11_mirror_46 (tgt := 53) (by decide) ?_ ?_
          · refine e_iconst dX11_mirror_53 (v := 0) (by decide) ?_
            refine e_istore_n dX11_mirror_54 (by decide) (LS1 := [_, _, _, _, _, none, none]) rfl ?_
            refine e_iinc dX11_mirror_55 rfl (v := _ + 1) rfl (by decide) (LS1 := [_, _, _, _, _, none, none]) rfl ?_
            refine e_goto dX11_mirror_58 (tgt := 25) (by decide) ?_
            exact ih 0 (v4 + 1)
          · refine e_msk [true, true, true, false, true, false, false] (LS1 := [_, _, _, none, _, none, none]) rfl ?_
            exact hj3 () 

set_option maxRecDepth 100000 in
set_option maxHeartbeats 4000000 in
theorem s_X11_mirror_86 {l : Launch} {g : am_G} {B : am_M} {pl : Nat} (hL : am_Lay B pl) (u : am_U) (v1 : Int32) (v2 : Int32)  (k141 : Int32 → Int32 → Option (Int32 × am_U)) (hk141 : ∀ (v5 : Int32) (v6 : Int32), am_E l g d_X11_mirror 141 [some (.ref (60)), none, none, none, none, some (.int (v5)), some (.int (v6))] [] (am_of B u) (am_r (am_bI B) (k141 v5 v6))) : ∀ (n : Nat) (v4 : Int32) (v5 : Int32) (v6 : Int32), am_E l g d_X11_mirror 86 [some (.ref (60)), some (.int (v1)), some (.int (v2)), none, some (.int (v4)), some (.int (v5)), some (.int (v6))] [] (am_of B u) (am_r (am_bI B) (f_X11_mirror_86 u v1 v2 k141 n v4 v5 v6)) := by
  intro n
  induction n with
  | zero => intro v4 v5 v6; exact am_none
  | succ n ih =>
    intro v4 v5 v6
    unfold f_X11_mirror_86
    refine e_iload dX11_mirror_86 rfl ?_
    refine e_iload_n dX11_mirror_88 rfl ?_
    refine e_if2_ge dX11_mirror_89 (tgt := 141) (by decide) ?_ ?_
    · refine e_msk [true, false, false, false, false, true, true] (LS1 := [_, none, none, none, none, _, _]) rfl ?_
      exact hk141 v5 v6
    · refine e_iload dX11_mirror_92 rfl ?_
      refine e_aload_n dX11_mirror_94 rfl ?_
      refine e_iload dX11_mirror_95 rfl ?_
      refine q_callVP (As := [_]) rfl dX11_mirror_97 lm_M_221 (am_fitB rfl) yo_X11_shines ys_X11_shines rfl rfl (by decide) (am_Lk hL rfl) rfl (Nat.le_of_ble_eq_true rfl) (Nat.le_of_ble_eq_true rfl) (s_X11_shines hL _  _) (fun q7 => ?_)
      refine e_jn (P := fun t : Int32 → Option (Int32 × am_U) => ∀ (j8s0 : Int32), am_E l g d_X11_mirror 113 [some (.ref (60)), some (.int (v1)), some (.int (v2)), none, none, some (.int (v5)), some (.int (v6))] [.int (j8s0), .int (v4)] (am_of B u) (am_r (am_bI B) (t j8s0))) ?_ (fun j8 hj8 => ?_)
      · intro j8s0
        refine e_iadd dX11_mirror_113 ?_
        refine e_istore dX11_mirror_114 (by decide) (LS1 := [_, _, _, none, _, _, _]) rfl ?_
        refine e_iload dX11_mirror_116 rfl ?_
        refine e_aload_n dX11_mirror_118 rfl ?_
        refine e_iload dX11_mirror_119 rfl ?_
        refine q_callVP (As := [_]) rfl dX11_mirror_121 lm_M_221 (am_fitB rfl) yo_X11_shines ys_X11_shines rfl rfl (by decide) (am_Lk hL rfl) rfl (Nat.le_of_ble_eq_true rfl) (Nat.le_of_ble_eq_true rfl) (s_X11_shines hL _  _) (fun q9 => ?_)
        refine e_if_eq dX11_mirror_124 (tgt := 131) (by decide) ?_ ?_
        · refine e_iconst dX11_mirror_131 (v := 0) (by decide) ?_
          refine e_iadd dX11_mirror_132 ?_
          refine e_istore dX11_mirror_133 (by decide) (LS1 := [_, _, _, none, _, _, _]) rfl ?_
          refine e_iinc dX11_mirror_135 rfl (v := _ + 1) rfl (by decide) (LS1 := [_, _, _, none, _, _, _]) rfl ?_
          refine e_goto dX11_mirror_138 (tgt := 86) (by decide) ?_
          exact ih (v4 + j8s0) (v5 + 0) (v6 + 1)
        · refine e_iconst dX11_mirror_127 (v := 1) (by decide) ?_
          refine e_goto dX11_mirror_128 (tgt := 132) (by decide) ?_
          refine e_iadd dX11_mirror_132 ?_
          refine e_istore dX11_mirror_133 (by decide) (LS1 := [_, _, _, none, _, _, _]) rfl ?_
          refine e_iinc dX11_mirror_135 rfl (v := _ + 1) rfl (by decide) (LS1 := [_, _, _, none, _, _, _]) rfl ?_
          refine e_goto dX11_mirror_138 (tgt := 86) (by decide) ?_
          exact ih (v4 + j8s0) (v5 + 1) (v6 + 1)
      · refine e_if_eq dX11_mirror_100 (tgt := 112) (by decide) ?_ ?_
        · refine e_iconst dX11_mirror_112 (v := 0) (by decide) ?_
          refine e_msk [true, true, true, false, false, true, true] (LS1 := [_, _, _, none, none, _, _]) rfl ?_
          exact hj8 0
        · refine e_aload_n dX11_mirror_103 rfl ?_
          refine q_getR (r := 68) dX11_mirror_104 lf_M_32 rfl (by decide) (am_Lk hL rfl) (am_Lr hL rfl) ?_
          refine e_iload_n dX11_mirror_107 rfl ?_
          refine q_ialdH dX11_mirror_108 (am_Ls hL rfl) (fun i10 => ?_)
          refine e_goto dX11_mirror_109 (tgt := 113) (by decide) ?_
          refine e_msk [true, true, true, false, false, true, true] (LS1 := [_, _, _, none, none, _, _]) rfl ?_
          exact hj8 (u 68 v1.toNatClampNeg)

set_option maxRecDepth 100000 in
set_option maxHeartbeats 4000000 in
theorem s_X11_mirror {l : Launch} {g : am_G} {B : am_M} {pl : Nat} (hL : am_Lay B pl) (a1 : Int32) (a2 : Int32)  (u : am_U) : am_E l g d_X11_mirror 0 (am_ent d_X11_mirror [.ref (60), .int (a1), .int (a2)]) [] (am_of B u) (am_r (am_bI B) (f_X11_mirror a1 a2 u)) := by
  unfold f_X11_mirror
  show am_E l g d_X11_mirror 0 [some (.ref (60)), some (.int (a1)), some (.int (a2)), none, none, none, none] [] (am_of B u) _
  refine e_iload_n dX11_mirror_0 rfl ?_
  refine q_callSP (As := [_]) rfl dX11_mirror_1 lm_M_243 (am_fitB rfl) yo_X11_isValley ys_X11_isValley rfl (Nat.le_of_ble_eq_true rfl) (Nat.le_of_ble_eq_true rfl) (s_X11_isValley hL _  _) (fun q1 => ?_)
  refine e_if_eq dX11_mirror_4 (tgt := 18) (by decide) ?_ ?_
  · refine e_iconst dX11_mirror_18 (v := ((-1) : Int32)) (by decide) ?_
    exact e_iret dX11_mirror_19 rfl rfl
  · refine e_iload_n dX11_mirror_7 rfl ?_
    refine e_iconst dX11_mirror_8 (v := 1) (by decide) ?_
    refine e_sipush dX11_mirror_9 (v := 999) (by decide) ?_
    refine q_callSP (As := [_, _, _]) rfl dX11_mirror_12 lm_M_106 (am_fitB rfl) yo_X11_in ys_X11_in rfl (Nat.le_of_ble_eq_true rfl) (Nat.le_of_ble_eq_true rfl) (s_X11_in hL _ _ _  _) (fun q2 => ?_)
    refine e_if_ne dX11_mirror_15 (tgt := 20) (by decide) ?_ ?_
    · refine e_iconst dX11_mirror_20 (v := 0) (by decide) ?_
      refine e_istore_n dX11_mirror_21 (by decide) (LS1 := [_, _, _, _, none, none, none]) rfl ?_
      refine e_iconst dX11_mirror_22 (v := 0) (by decide) ?_
      refine e_istore dX11_mirror_23 (by decide) (LS1 := [_, _, _, _, _, none, none]) rfl ?_
      refine s_X11_mirror_25 hL _ _ _ _ (fun c5v3 => ?_) _ _ _
      · refine e_iload_n dX11_mirror_61 rfl ?_
        refine e_if_eq dX11_mirror_62 (tgt := 74) (by decide) ?_ ?_
        · refine e_bipush dX11_mirror_74 (v := ((-9) : Int32)) (by decide) ?_
          exact e_iret dX11_mirror_76 rfl rfl
        · refine e_aload_n dX11_mirror_65 rfl ?_
          refine q_getR (r := 68) dX11_mirror_66 lf_M_32 rfl (by decide) (am_Lk hL rfl) (am_Lr hL rfl) ?_
          refine e_iload_n dX11_mirror_69 rfl ?_
          refine q_ialdH dX11_mirror_70 (am_Ls hL rfl) (fun i6 => ?_)
          refine e_if_ne dX11_mirror_71 (tgt := 77) (by decide) ?_ ?_
          · refine e_iconst dX11_mirror_77 (v := 0) (by decide) ?_
            refine e_istore dX11_mirror_78 (by decide) (LS1 := [_, _, _, _, _, none, none]) rfl ?_
            refine e_iconst dX11_mirror_80 (v := 0) (by decide) ?_
            refine e_istore dX11_mirror_81 (by decide) (LS1 := [_, _, _, _, _, _, none]) rfl ?_
            refine e_iconst dX11_mirror_83 (v := 0) (by decide) ?_
            refine e_istore dX11_mirror_84 (by decide) (LS1 := [_, _, _, _, _, _, _]) rfl ?_
            refine e_msk [true, true, true, false, true, true, true] (LS1 := [_, _, _, none, _, _, _]) rfl ?_
            refine s_X11_mirror_86 hL _ _ _ _ (fun c11v5 c11v6 => ?_) _ _ _ _
            · refine e_aload_n dX11_mirror_141 rfl ?_
              refine e_iload dX11_mirror_142 rfl ?_
              refine e_iload dX11_mirror_144 rfl ?_
              refine q_callVI (As := [_, _]) rfl dX11_mirror_146 lm_M_125 (am_fitB rfl) yo_X11_tells ys_X11_tells rfl rfl (by decide) (am_Lk hL rfl) rfl (Nat.le_of_ble_eq_true rfl) (Nat.le_of_ble_eq_true rfl) (s_X11_tells hL _ _  _) (fun q12 => ?_)
              exact e_iret dX11_mirror_149 rfl rfl
          · refine e_bipush dX11_mirror_74 (v := ((-9) : Int32)) (by decide) ?_
            exact e_iret dX11_mirror_76 rfl rfl
    · refine e_iconst dX11_mirror_18 (v := ((-1) : Int32)) (by decide) ?_
      exact e_iret dX11_mirror_19 rfl rfl

def f_X11_place (a1 : Int32) (a2 : Int32) (u : am_U) : Option (Int32 × am_U) :=
  (f_X11_isPlace a1).bind (fun q1 =>
  if q1 = 0 then (
    some (((-1) : Int32), u))
  else (
    (f_X11_in a2 0 3).bind (fun q2 =>
    if q2 = 0 then (
      some (((-1) : Int32), u))
    else (
      (f_X11_placeTells a1 a2 u).bind (fun q3 =>
      (f_X11_tells q3 1 u).bind (fun q4 =>
      some (q4.1, q4.2)))))))
set_option maxRecDepth 100000 in
set_option maxHeartbeats 4000000 in
theorem s_X11_place {l : Launch} {g : am_G} {B : am_M} {pl : Nat} (hL : am_Lay B pl) (a1 : Int32) (a2 : Int32)  (u : am_U) : am_E l g d_X11_place 0 (am_ent d_X11_place [.ref (60), .int (a1), .int (a2)]) [] (am_of B u) (am_r (am_bI B) (f_X11_place a1 a2 u)) := by
  unfold f_X11_place
  show am_E l g d_X11_place 0 [some (.ref (60)), some (.int (a1)), some (.int (a2))] [] (am_of B u) _
  refine e_iload_n dX11_place_0 rfl ?_
  refine q_callSP (As := [_]) rfl dX11_place_1 lm_M_215 (am_fitB rfl) yo_X11_isPlace ys_X11_isPlace rfl (Nat.le_of_ble_eq_true rfl) (Nat.le_of_ble_eq_true rfl) (s_X11_isPlace hL _  _) (fun q1 => ?_)
  refine e_if_eq dX11_place_4 (tgt := 30) (by decide) ?_ ?_
  · refine e_iconst dX11_place_30 (v := ((-1) : Int32)) (by decide) ?_
    exact e_iret dX11_place_31 rfl rfl
  · refine e_iload_n dX11_place_7 rfl ?_
    refine e_iconst dX11_place_8 (v := 0) (by decide) ?_
    refine e_iconst dX11_place_9 (v := 3) (by decide) ?_
    refine q_callSP (As := [_, _, _]) rfl dX11_place_10 lm_M_106 (am_fitB rfl) yo_X11_in ys_X11_in rfl (Nat.le_of_ble_eq_true rfl) (Nat.le_of_ble_eq_true rfl) (s_X11_in hL _ _ _  _) (fun q2 => ?_)
    refine e_if_eq dX11_place_13 (tgt := 30) (by decide) ?_ ?_
    · refine e_iconst dX11_place_30 (v := ((-1) : Int32)) (by decide) ?_
      exact e_iret dX11_place_31 rfl rfl
    · refine e_aload_n dX11_place_16 rfl ?_
      refine e_aload_n dX11_place_17 rfl ?_
      refine e_iload_n dX11_place_18 rfl ?_
      refine e_iload_n dX11_place_19 rfl ?_
      refine q_callVP (As := [_, _]) rfl dX11_place_20 lm_M_218 (am_fitB rfl) yo_X11_placeTells ys_X11_placeTells rfl rfl (by decide) (am_Lk hL rfl) rfl (Nat.le_of_ble_eq_true rfl) (Nat.le_of_ble_eq_true rfl) (s_X11_placeTells hL _ _  _) (fun q3 => ?_)
      refine e_iconst dX11_place_23 (v := 1) (by decide) ?_
      refine q_callVI (As := [_, _]) rfl dX11_place_24 lm_M_125 (am_fitB rfl) yo_X11_tells ys_X11_tells rfl rfl (by decide) (am_Lk hL rfl) rfl (Nat.le_of_ble_eq_true rfl) (Nat.le_of_ble_eq_true rfl) (s_X11_tells hL _ _  _) (fun q4 => ?_)
      refine e_goto dX11_place_27 (tgt := 31) (by decide) ?_
      exact e_iret dX11_place_31 rfl rfl

def f_X11_pour (a1 : Int32) (a2 : Int32) (u : am_U) : Option (Int32 × am_U) :=
  (f_X11_isJar a1 u).bind (fun q1 =>
  if q1 = 0 then (
    some (((-1) : Int32), u))
  else (
    (f_X11_isJar a2 u).bind (fun q2 =>
    if q2 = 0 then (
      some (((-1) : Int32), u))
    else (
      if ¬ a1 = a2 then (
        am_ck (am_ix (0 + a1) 30) (
        am_ck (am_ix a2 6) (
        am_ck (am_ix (0 + a2) 30) (
        (f_X11_pouredOf (u 75 (0 + a1).toNatClampNeg) ((u 70 a2.toNatClampNeg) - (u 75 (0 + a2).toNatClampNeg))).bind (fun q6 =>
        (f_X11_tenth q6).bind (fun q7 =>
        am_ck (am_ix (6 + a1) 30) (
        am_ck (am_ix (6 + a2) 30) (
        if ¬ (u 75 (6 + a1).toNatClampNeg) = (u 75 (6 + a2).toNatClampNeg) then (
          some (((-4) : Int32), u))
        else (
          if 0 < (q6 - q7) then (
            (f_X11_remembers 2 u).bind (fun q10 =>
            let u11 : am_U := am_w q10 75 (0 + a1).toNatClampNeg ((q10 75 (0 + a1).toNatClampNeg) - q6)
            let u12 : am_U := am_w u11 75 (0 + a2).toNatClampNeg ((u11 75 (0 + a2).toNatClampNeg) + (q6 - q7))
            am_ck (am_ix (12 + a1) 30) (
            let u13 : am_U := am_w u12 75 (12 + a1).toNatClampNeg 1
            am_ck (am_ix (12 + a2) 30) (
            let u15 : am_U := am_w u13 75 (12 + a2).toNatClampNeg 1
            (f_X11_tells (q6 - (q6 - q7)) (q6 - q7) u15).bind (fun q17 =>
            some (q17.1, q17.2))))))
          else (
            some (((-4) : Int32), u)))))))))))
      else (
        some (((-1) : Int32), u))))))
set_option maxRecDepth 100000 in
set_option maxHeartbeats 4000000 in
theorem s_X11_pour {l : Launch} {g : am_G} {B : am_M} {pl : Nat} (hL : am_Lay B pl) (a1 : Int32) (a2 : Int32)  (u : am_U) : am_E l g d_X11_pour 0 (am_ent d_X11_pour [.ref (60), .int (a1), .int (a2)]) [] (am_of B u) (am_r (am_bI B) (f_X11_pour a1 a2 u)) := by
  unfold f_X11_pour
  show am_E l g d_X11_pour 0 [some (.ref (60)), some (.int (a1)), some (.int (a2)), none, none] [] (am_of B u) _
  refine e_aload_n dX11_pour_0 rfl ?_
  refine e_iload_n dX11_pour_1 rfl ?_
  refine q_callVP (As := [_]) rfl dX11_pour_2 lm_M_200 (am_fitB rfl) yo_X11_isJar ys_X11_isJar rfl rfl (by decide) (am_Lk hL rfl) rfl (Nat.le_of_ble_eq_true rfl) (Nat.le_of_ble_eq_true rfl) (s_X11_isJar hL _  _) (fun q1 => ?_)
  refine e_if_eq dX11_pour_5 (tgt := 21) (by decide) ?_ ?_
  · refine e_iconst dX11_pour_21 (v := ((-1) : Int32)) (by decide) ?_
    exact e_iret dX11_pour_22 rfl rfl
  · refine e_aload_n dX11_pour_8 rfl ?_
    refine e_iload_n dX11_pour_9 rfl ?_
    refine q_callVP (As := [_]) rfl dX11_pour_10 lm_M_200 (am_fitB rfl) yo_X11_isJar ys_X11_isJar rfl rfl (by decide) (am_Lk hL rfl) rfl (Nat.le_of_ble_eq_true rfl) (Nat.le_of_ble_eq_true rfl) (s_X11_isJar hL _  _) (fun q2 => ?_)
    refine e_if_eq dX11_pour_13 (tgt := 21) (by decide) ?_ ?_
    · refine e_iconst dX11_pour_21 (v := ((-1) : Int32)) (by decide) ?_
      exact e_iret dX11_pour_22 rfl rfl
    · refine e_iload_n dX11_pour_16 rfl ?_
      refine e_iload_n dX11_pour_17 rfl ?_
      refine e_if2_ne dX11_pour_18 (tgt := 23) (by decide) ?_ ?_
      · refine e_aload_n dX11_pour_23 rfl ?_
        refine q_getR (r := 75) dX11_pour_24 lf_M_53 rfl (by decide) (am_Lk hL rfl) (am_Lr hL rfl) ?_
        refine e_iconst dX11_pour_27 (v := 0) (by decide) ?_
        refine e_iload_n dX11_pour_28 rfl ?_
        refine e_iadd dX11_pour_29 ?_
        refine q_ialdH dX11_pour_30 (am_Ls hL rfl) (fun i3 => ?_)
        refine e_aload_n dX11_pour_31 rfl ?_
        refine q_getR (r := 70) dX11_pour_32 lf_M_38 rfl (by decide) (am_Lk hL rfl) (am_Lr hL rfl) ?_
        refine e_iload_n dX11_pour_35 rfl ?_
        refine q_ialdH dX11_pour_36 (am_Ls hL rfl) (fun i4 => ?_)
        refine e_aload_n dX11_pour_37 rfl ?_
        refine q_getR (r := 75) dX11_pour_38 lf_M_53 rfl (by decide) (am_Lk hL rfl) (am_Lr hL rfl) ?_
        refine e_iconst dX11_pour_41 (v := 0) (by decide) ?_
        refine e_iload_n dX11_pour_42 rfl ?_
        refine e_iadd dX11_pour_43 ?_
        refine q_ialdH dX11_pour_44 (am_Ls hL rfl) (fun i5 => ?_)
        refine e_isub dX11_pour_45 ?_
        refine q_callSP (As := [_, _]) rfl dX11_pour_46 lm_M_228 (am_fitB rfl) yo_X11_pouredOf ys_X11_pouredOf rfl (Nat.le_of_ble_eq_true rfl) (Nat.le_of_ble_eq_true rfl) (s_X11_pouredOf hL _ _  _) (fun q6 => ?_)
        refine e_istore_n dX11_pour_49 (by decide) (LS1 := [_, _, _, _, none]) rfl ?_
        refine e_iload_n dX11_pour_50 rfl ?_
        refine e_iload_n dX11_pour_51 rfl ?_
        refine q_callSP (As := [_]) rfl dX11_pour_52 lm_M_193 (am_fitB rfl) yo_X11_tenth ys_X11_tenth rfl (Nat.le_of_ble_eq_true rfl) (Nat.le_of_ble_eq_true rfl) (s_X11_tenth hL _  _) (fun q7 => ?_)
        refine e_isub dX11_pour_55 ?_
        refine e_istore dX11_pour_56 (by decide) (LS1 := [_, _, _, _, _]) rfl ?_
        refine e_aload_n dX11_pour_58 rfl ?_
        refine q_getR (r := 75) dX11_pour_59 lf_M_53 rfl (by decide) (am_Lk hL rfl) (am_Lr hL rfl) ?_
        refine e_bipush dX11_pour_62 (v := 6) (by decide) ?_
        refine e_iload_n dX11_pour_64 rfl ?_
        refine e_iadd dX11_pour_65 ?_
        refine q_ialdH dX11_pour_66 (am_Ls hL rfl) (fun i8 => ?_)
        refine e_aload_n dX11_pour_67 rfl ?_
        refine q_getR (r := 75) dX11_pour_68 lf_M_53 rfl (by decide) (am_Lk hL rfl) (am_Lr hL rfl) ?_
        refine e_bipush dX11_pour_71 (v := 6) (by decide) ?_
        refine e_iload_n dX11_pour_73 rfl ?_
        refine e_iadd dX11_pour_74 ?_
        refine q_ialdH dX11_pour_75 (am_Ls hL rfl) (fun i9 => ?_)
        refine e_if2_ne dX11_pour_76 (tgt := 84) (by decide) ?_ ?_
        · refine e_bipush dX11_pour_84 (v := ((-4) : Int32)) (by decide) ?_
          exact e_iret dX11_pour_86 rfl rfl
        · refine e_iload dX11_pour_79 rfl ?_
          refine e_if_gt dX11_pour_81 (tgt := 87) (by decide) ?_ ?_
          · refine e_aload_n dX11_pour_87 rfl ?_
            refine e_iconst dX11_pour_88 (v := 2) (by decide) ?_
            refine q_callVV (As := [_]) rfl dX11_pour_89 lm_M_224 (am_fitB rfl) yo_X11_remembers ys_X11_remembers rfl rfl (by decide) (am_Lk hL rfl) rfl (Nat.le_of_ble_eq_true rfl) (Nat.le_of_ble_eq_true rfl) (s_X11_remembers hL _  _) (fun q10 => ?_)
            refine e_aload_n dX11_pour_92 rfl ?_
            refine q_getR (r := 75) dX11_pour_93 lf_M_53 rfl (by decide) (am_Lk hL rfl) (am_Lr hL rfl) ?_
            refine e_iconst dX11_pour_96 (v := 0) (by decide) ?_
            refine e_iload_n dX11_pour_97 rfl ?_
            refine e_iadd dX11_pour_98 ?_
            refine e_dup2 dX11_pour_99 rfl rfl ?_
            refine q_ialdC (jn := _) dX11_pour_100 (am_Ls hL rfl) i3 rfl ?_
            refine e_iload_n dX11_pour_101 rfl ?_
            refine e_isub dX11_pour_102 ?_
            refine q_iastC (jn := _) dX11_pour_103 (am_Ls hL rfl) i3 rfl ?_
            refine e_aload_n dX11_pour_104 rfl ?_
            refine q_getR (r := 75) dX11_pour_105 lf_M_53 rfl (by decide) (am_Lk hL rfl) (am_Lr hL rfl) ?_
            refine e_iconst dX11_pour_108 (v := 0) (by decide) ?_
            refine e_iload_n dX11_pour_109 rfl ?_
            refine e_iadd dX11_pour_110 ?_
            refine e_dup2 dX11_pour_111 rfl rfl ?_
            refine q_ialdC (jn := _) dX11_pour_112 (am_Ls hL rfl) i5 rfl ?_
            refine e_iload dX11_pour_113 rfl ?_
            refine e_iadd dX11_pour_115 ?_
            refine q_iastC (jn := _) dX11_pour_116 (am_Ls hL rfl) i5 rfl ?_
            refine e_aload_n dX11_pour_117 rfl ?_
            refine q_getR (r := 75) dX11_pour_118 lf_M_53 rfl (by decide) (am_Lk hL rfl) (am_Lr hL rfl) ?_
            refine e_bipush dX11_pour_121 (v := 12) (by decide) ?_
            refine e_iload_n dX11_pour_123 rfl ?_
            refine e_iadd dX11_pour_124 ?_
            refine e_iconst dX11_pour_125 (v := 1) (by decide) ?_
            refine q_iastH dX11_pour_126 (am_Ls hL rfl) (fun i14 => ?_)
            refine e_aload_n dX11_pour_127 rfl ?_
            refine q_getR (r := 75) dX11_pour_128 lf_M_53 rfl (by decide) (am_Lk hL rfl) (am_Lr hL rfl) ?_
            refine e_bipush dX11_pour_131 (v := 12) (by decide) ?_
            refine e_iload_n dX11_pour_133 rfl ?_
            refine e_iadd dX11_pour_134 ?_
            refine e_iconst dX11_pour_135 (v := 1) (by decide) ?_
            refine q_iastH dX11_pour_136 (am_Ls hL rfl) (fun i16 => ?_)
            refine e_aload_n dX11_pour_137 rfl ?_
            refine e_iload_n dX11_pour_138 rfl ?_
            refine e_iload dX11_pour_139 rfl ?_
            refine e_isub dX11_pour_141 ?_
            refine e_iload dX11_pour_142 rfl ?_
            refine q_callVI (As := [_, _]) rfl dX11_pour_144 lm_M_125 (am_fitB rfl) yo_X11_tells ys_X11_tells rfl rfl (by decide) (am_Lk hL rfl) rfl (Nat.le_of_ble_eq_true rfl) (Nat.le_of_ble_eq_true rfl) (s_X11_tells hL _ _  _) (fun q17 => ?_)
            exact e_iret dX11_pour_147 rfl rfl
          · refine e_bipush dX11_pour_84 (v := ((-4) : Int32)) (by decide) ?_
            exact e_iret dX11_pour_86 rfl rfl
      · refine e_iconst dX11_pour_21 (v := ((-1) : Int32)) (by decide) ?_
        exact e_iret dX11_pour_22 rfl rfl

def f_X11_put (a1 : Int32) (a2 : Int32) (a3 : Int32) (u : am_U) : Option (Int32 × am_U) :=
  (f_X11_isText a1).bind (fun q1 =>
  if ¬ q1 = 0 then (
    am_ck (am_ix a1 4) (
    if 0 ≤ (u 65 a1.toNatClampNeg) then (
      (f_X11_in a2 0 ((u 65 a1.toNatClampNeg) - 1)).bind (fun q3 =>
      if ¬ q3 = 0 then (
        am_ck (am_ix ((60 * a1) + a2) 240) (
        let x5 : Int32 := u 66 ((60 * a1) + a2).toNatClampNeg
        am_ck (am_ix ((60 * a1) + a2) 240) (
        let u6 : am_U := am_w u 66 ((60 * a1) + a2).toNatClampNeg a3.toInt8.toInt32.toInt8.toInt32
        some (1000 + x5, u6))))
      else (
        (f_X11_meets 2 u).bind (fun q7 =>
        some (q7.1, q7.2)))))
    else (
      (f_X11_meets 1 u).bind (fun q8 =>
      some (q8.1, q8.2)))))
  else (
    some (((-1) : Int32), u)))
set_option maxRecDepth 100000 in
set_option maxHeartbeats 4000000 in
theorem s_X11_put {l : Launch} {g : am_G} {B : am_M} {pl : Nat} (hL : am_Lay B pl) (a1 : Int32) (a2 : Int32) (a3 : Int32)  (u : am_U) : am_E l g d_X11_put 0 (am_ent d_X11_put [.ref (60), .int (a1), .int (a2), .int (a3)]) [] (am_of B u) (am_r (am_bI B) (f_X11_put a1 a2 a3 u)) := by
  unfold f_X11_put
  show am_E l g d_X11_put 0 [some (.ref (60)), some (.int (a1)), some (.int (a2)), some (.int (a3)), none] [] (am_of B u) _
  refine e_iload_n dX11_put_0 rfl ?_
  refine q_callSP (As := [_]) rfl dX11_put_1 lm_M_128 (am_fitB rfl) yo_X11_isText ys_X11_isText rfl (Nat.le_of_ble_eq_true rfl) (Nat.le_of_ble_eq_true rfl) (s_X11_isText hL _  _) (fun q1 => ?_)
  refine e_if_ne dX11_put_4 (tgt := 9) (by decide) ?_ ?_
  · refine e_aload_n dX11_put_9 rfl ?_
    refine q_getR (r := 65) dX11_put_10 lf_M_22 rfl (by decide) (am_Lk hL rfl) (am_Lr hL rfl) ?_
    refine e_iload_n dX11_put_13 rfl ?_
    refine q_ialdH dX11_put_14 (am_Ls hL rfl) (fun i2 => ?_)
    refine e_if_ge dX11_put_15 (tgt := 24) (by decide) ?_ ?_
    · refine e_iload_n dX11_put_24 rfl ?_
      refine e_iconst dX11_put_25 (v := 0) (by decide) ?_
      refine e_aload_n dX11_put_26 rfl ?_
      refine q_getR (r := 65) dX11_put_27 lf_M_22 rfl (by decide) (am_Lk hL rfl) (am_Lr hL rfl) ?_
      refine e_iload_n dX11_put_30 rfl ?_
      refine q_ialdC (jn := _) dX11_put_31 (am_Ls hL rfl) i2 rfl ?_
      refine e_iconst dX11_put_32 (v := 1) (by decide) ?_
      refine e_isub dX11_put_33 ?_
      refine q_callSP (As := [_, _, _]) rfl dX11_put_34 lm_M_106 (am_fitB rfl) yo_X11_in ys_X11_in rfl (Nat.le_of_ble_eq_true rfl) (Nat.le_of_ble_eq_true rfl) (s_X11_in hL _ _ _  _) (fun q3 => ?_)
      refine e_if_ne dX11_put_37 (tgt := 46) (by decide) ?_ ?_
      · refine e_aload_n dX11_put_46 rfl ?_
        refine q_getR (r := 66) dX11_put_47 lf_M_25 rfl (by decide) (am_Lk hL rfl) (am_Lr hL rfl) ?_
        refine e_bipush dX11_put_50 (v := 60) (by decide) ?_
        refine e_iload_n dX11_put_52 rfl ?_
        refine e_imul dX11_put_53 ?_
        refine e_iload_n dX11_put_54 rfl ?_
        refine e_iadd dX11_put_55 ?_
        refine q_bald dX11_put_56 (Or.inl (am_Ls hL rfl)) ?_
        refine e_istore dX11_put_57 (by decide) (LS1 := [_, _, _, _, _]) rfl ?_
        refine e_aload_n dX11_put_59 rfl ?_
        refine q_getR (r := 66) dX11_put_60 lf_M_25 rfl (by decide) (am_Lk hL rfl) (am_Lr hL rfl) ?_
        refine e_bipush dX11_put_63 (v := 60) (by decide) ?_
        refine e_iload_n dX11_put_65 rfl ?_
        refine e_imul dX11_put_66 ?_
        refine e_iload_n dX11_put_67 rfl ?_
        refine e_iadd dX11_put_68 ?_
        refine e_iload_n dX11_put_69 rfl ?_
        refine e_i2b dX11_put_70 ?_
        refine q_bast dX11_put_71 (am_Ls hL rfl) ?_
        refine e_sipush dX11_put_72 (v := 1000) (by decide) ?_
        refine e_iload dX11_put_75 rfl ?_
        refine e_iadd dX11_put_77 ?_
        exact e_iret dX11_put_78 rfl rfl
      · refine e_aload_n dX11_put_40 rfl ?_
        refine e_iconst dX11_put_41 (v := 2) (by decide) ?_
        refine q_callVI (As := [_]) rfl dX11_put_42 lm_M_117 (am_fitB rfl) yo_X11_meets ys_X11_meets rfl rfl (by decide) (am_Lk hL rfl) rfl (Nat.le_of_ble_eq_true rfl) (Nat.le_of_ble_eq_true rfl) (s_X11_meets hL _  _) (fun q7 => ?_)
        exact e_iret dX11_put_45 rfl rfl
    · refine e_aload_n dX11_put_18 rfl ?_
      refine e_iconst dX11_put_19 (v := 1) (by decide) ?_
      refine q_callVI (As := [_]) rfl dX11_put_20 lm_M_117 (am_fitB rfl) yo_X11_meets ys_X11_meets rfl rfl (by decide) (am_Lk hL rfl) rfl (Nat.le_of_ble_eq_true rfl) (Nat.le_of_ble_eq_true rfl) (s_X11_meets hL _  _) (fun q8 => ?_)
      exact e_iret dX11_put_23 rfl rfl
  · refine e_iconst dX11_put_7 (v := ((-1) : Int32)) (by decide) ?_
    exact e_iret dX11_put_8 rfl rfl

def f_X11_readsMules (a1 : Int32) (u : am_U) : Option (Int32 × am_U) :=
  (f_X11_isSign a1 121 u).bind (fun q1 =>
  if q1.1 = 0 then (
    some (0, q1.2))
  else (
    (f_X11_figure a1 1 6 q1.2).bind (fun q2 =>
    if ¬ q2.1 = 0 then (
      let u3 : am_U := am_w q2.2 60 17 (q2.2 60 16)
      some (1, u3))
    else (
      some (0, q2.2)))))
set_option maxRecDepth 100000 in
set_option maxHeartbeats 4000000 in
theorem s_X11_readsMules {l : Launch} {g : am_G} {B : am_M} {pl : Nat} (hL : am_Lay B pl) (a1 : Int32)  (u : am_U) : am_E l g d_X11_readsMules 0 (am_ent d_X11_readsMules [.ref (60), .int (a1)]) [] (am_of B u) (am_r (am_bI B) (f_X11_readsMules a1 u)) := by
  unfold f_X11_readsMules
  show am_E l g d_X11_readsMules 0 [some (.ref (60)), some (.int (a1))] [] (am_of B u) _
  refine e_aload_n dX11_readsMules_0 rfl ?_
  refine e_iload_n dX11_readsMules_1 rfl ?_
  refine e_bipush dX11_readsMules_2 (v := 121) (by decide) ?_
  refine q_callVI (As := [_, _]) rfl dX11_readsMules_4 lm_M_140 (am_fitB rfl) yo_X11_isSign ys_X11_isSign rfl rfl (by decide) (am_Lk hL rfl) rfl (Nat.le_of_ble_eq_true rfl) (Nat.le_of_ble_eq_true rfl) (s_X11_isSign hL _ _  _) (fun q1 => ?_)
  refine e_if_eq dX11_readsMules_7 (tgt := 21) (by decide) ?_ ?_
  · refine e_iconst dX11_readsMules_21 (v := 0) (by decide) ?_
    exact e_zret dX11_readsMules_22 rfl rfl (Or.inl rfl)
  · refine e_aload_n dX11_readsMules_10 rfl ?_
    refine e_iload_n dX11_readsMules_11 rfl ?_
    refine e_iconst dX11_readsMules_12 (v := 1) (by decide) ?_
    refine e_bipush dX11_readsMules_13 (v := 6) (by decide) ?_
    refine q_callVI (As := [_, _, _]) rfl dX11_readsMules_15 lm_M_144 (am_fitB rfl) yo_X11_figure ys_X11_figure rfl rfl (by decide) (am_Lk hL rfl) rfl (Nat.le_of_ble_eq_true rfl) (Nat.le_of_ble_eq_true rfl) (s_X11_figure hL _ _ _  _) (fun q2 => ?_)
    refine e_if_ne dX11_readsMules_18 (tgt := 23) (by decide) ?_ ?_
    · refine e_aload_n dX11_readsMules_23 rfl ?_
      refine e_aload_n dX11_readsMules_24 rfl ?_
      refine q_getI dX11_readsMules_25 lf_M_137 (by decide) (am_Lk hL rfl) ?_
      refine q_putI dX11_readsMules_28 lf_M_147 rfl (by decide) (am_Lk hL rfl) ?_
      refine e_iconst dX11_readsMules_31 (v := 1) (by decide) ?_
      exact e_zret dX11_readsMules_32 rfl rfl (Or.inr rfl)
    · refine e_iconst dX11_readsMules_21 (v := 0) (by decide) ?_
      exact e_zret dX11_readsMules_22 rfl rfl (Or.inl rfl)

def f_X11_readsNeeds_14 (v1 : Int32) : Nat → Int32 → am_U → Option (Int32 × am_U)
  | 0, _, _ => none
  | n + 1, v2, u =>
    if 5 ≤ v2 then (
      let u2 : am_U := am_w u 60 19 1
      some (1, u2))
    else (
      (f_X11_figure v1 0 9 u).bind (fun q3 =>
      if ¬ q3.1 = 0 then (
        am_ck (am_ix v2 5) (
        let u4 : am_U := am_w q3.2 72 v2.toNatClampNeg (q3.2 60 16)
        f_X11_readsNeeds_14 v1 n (v2 + 1) u4))
      else (
        some (0, q3.2))))
def f_X11_readsNeeds (a1 : Int32) (u : am_U) : Option (Int32 × am_U) :=
  (f_X11_isSign a1 118 u).bind (fun q1 =>
  if ¬ q1.1 = 0 then (
    f_X11_readsNeeds_14 a1 20000 1 q1.2)
  else (
    some (0, q1.2)))
set_option maxRecDepth 100000 in
set_option maxHeartbeats 4000000 in
theorem s_X11_readsNeeds_14 {l : Launch} {g : am_G} {B : am_M} {pl : Nat} (hL : am_Lay B pl) (v1 : Int32)    : ∀ (n : Nat) (v2 : Int32) (u : am_U), am_E l g d_X11_readsNeeds 14 [some (.ref (60)), some (.int (v1)), some (.int (v2))] [] (am_of B u) (am_r (am_bI B) (f_X11_readsNeeds_14 v1 n v2 u)) := by
  intro n
  induction n with
  | zero => intro v2 u; exact am_none
  | succ n ih =>
    intro v2 u
    unfold f_X11_readsNeeds_14
    refine e_iload_n dX11_readsNeeds_14 rfl ?_
    refine e_iconst dX11_readsNeeds_15 (v := 5) (by decide) ?_
    refine e_if2_ge dX11_readsNeeds_16 (tgt := 48) (by decide) ?_ ?_
    · refine e_aload_n dX11_readsNeeds_48 rfl ?_
      refine e_iconst dX11_readsNeeds_49 (v := 1) (by decide) ?_
      refine q_putZ dX11_readsNeeds_50 lf_M_153 rfl (by decide) (am_Lk hL rfl) (Or.inr rfl) ?_
      refine e_iconst dX11_readsNeeds_53 (v := 1) (by decide) ?_
      exact e_zret dX11_readsNeeds_54 rfl rfl (Or.inr rfl)
    · refine e_aload_n dX11_readsNeeds_19 rfl ?_
      refine e_iload_n dX11_readsNeeds_20 rfl ?_
      refine e_iconst dX11_readsNeeds_21 (v := 0) (by decide) ?_
      refine e_bipush dX11_readsNeeds_22 (v := 9) (by decide) ?_
      refine q_callVI (As := [_, _, _]) rfl dX11_readsNeeds_24 lm_M_144 (am_fitB rfl) yo_X11_figure ys_X11_figure rfl rfl (by decide) (am_Lk hL rfl) rfl (Nat.le_of_ble_eq_true rfl) (Nat.le_of_ble_eq_true rfl) (s_X11_figure hL _ _ _  _) (fun q3 => ?_)
      refine e_if_ne dX11_readsNeeds_27 (tgt := 32) (by decide) ?_ ?_
      · refine e_aload_n dX11_readsNeeds_32 rfl ?_
        refine q_getR (r := 72) dX11_readsNeeds_33 lf_M_44 rfl (by decide) (am_Lk hL rfl) (am_Lr hL rfl) ?_
        refine e_iload_n dX11_readsNeeds_36 rfl ?_
        refine e_aload_n dX11_readsNeeds_37 rfl ?_
        refine q_getI dX11_readsNeeds_38 lf_M_137 (by decide) (am_Lk hL rfl) ?_
        refine q_iastH dX11_readsNeeds_41 (am_Ls hL rfl) (fun i5 => ?_)
        refine e_iinc dX11_readsNeeds_42 rfl (v := _ + 1) rfl (by decide) (LS1 := [_, _, _]) rfl ?_
        refine e_goto dX11_readsNeeds_45 (tgt := 14) (by decide) ?_
        exact ih (v2 + 1) (am_w q3.2 72 v2.toNatClampNeg (q3.2 60 16))
      · refine e_iconst dX11_readsNeeds_30 (v := 0) (by decide) ?_
        exact e_zret dX11_readsNeeds_31 rfl rfl (Or.inl rfl)

set_option maxRecDepth 100000 in
set_option maxHeartbeats 4000000 in
theorem s_X11_readsNeeds {l : Launch} {g : am_G} {B : am_M} {pl : Nat} (hL : am_Lay B pl) (a1 : Int32)  (u : am_U) : am_E l g d_X11_readsNeeds 0 (am_ent d_X11_readsNeeds [.ref (60), .int (a1)]) [] (am_of B u) (am_r (am_bI B) (f_X11_readsNeeds a1 u)) := by
  unfold f_X11_readsNeeds
  show am_E l g d_X11_readsNeeds 0 [some (.ref (60)), some (.int (a1)), none] [] (am_of B u) _
  refine e_aload_n dX11_readsNeeds_0 rfl ?_
  refine e_iload_n dX11_readsNeeds_1 rfl ?_
  refine e_bipush dX11_readsNeeds_2 (v := 118) (by decide) ?_
  refine q_callVI (As := [_, _]) rfl dX11_readsNeeds_4 lm_M_140 (am_fitB rfl) yo_X11_isSign ys_X11_isSign rfl rfl (by decide) (am_Lk hL rfl) rfl (Nat.le_of_ble_eq_true rfl) (Nat.le_of_ble_eq_true rfl) (s_X11_isSign hL _ _  _) (fun q1 => ?_)
  refine e_if_ne dX11_readsNeeds_7 (tgt := 12) (by decide) ?_ ?_
  · refine e_iconst dX11_readsNeeds_12 (v := 1) (by decide) ?_
    refine e_istore_n dX11_readsNeeds_13 (by decide) (LS1 := [_, _, _]) rfl ?_
    refine s_X11_readsNeeds_14 hL _ _ _ _
  · refine e_iconst dX11_readsNeeds_10 (v := 0) (by decide) ?_
    exact e_zret dX11_readsNeeds_11 rfl rfl (Or.inl rfl)

def f_X11_readsSuns_12 (v1 : Int32) (k57 : am_U → Option (Int32 × am_U)) : Nat → am_U → Option (Int32 × am_U)
  | 0, _ => none
  | n + 1, u =>
    if 8 ≤ (u 60 18) then (
      k57 u)
    else (
      (f_X11_figure v1 0 1 u).bind (fun q2 =>
      if q2.1 = 0 then (
        k57 q2.2)
      else (
        am_ck (am_ix (q2.2 60 18) 8) (
        let u3 : am_U := am_w q2.2 71 (q2.2 60 18).toNatClampNeg (q2.2 60 16)
        let u5 : am_U := am_w u3 60 18 ((u3 60 18) + 1)
        f_X11_readsSuns_12 v1 k57 n u5))))
def f_X11_readsSuns (a1 : Int32) (u : am_U) : Option (Int32 × am_U) :=
  (f_X11_isSign a1 115 u).bind (fun q1 =>
  if ¬ q1.1 = 0 then (
    f_X11_readsSuns_12 a1 (fun (c6u : am_U) =>
      if (c6u 60 18) ≤ 0 then (
        some (0, c6u))
      else (
        some (1, c6u))) 20000 q1.2)
  else (
    some (0, q1.2)))
set_option maxRecDepth 100000 in
set_option maxHeartbeats 4000000 in
theorem s_X11_readsSuns_12 {l : Launch} {g : am_G} {B : am_M} {pl : Nat} (hL : am_Lay B pl) (v1 : Int32)  (k57 : am_U → Option (Int32 × am_U)) (hk57 : ∀  (u : am_U), am_E l g d_X11_readsSuns 57 [some (.ref (60)), none] [] (am_of B u) (am_r (am_bI B) (k57 u))) : ∀ (n : Nat) (u : am_U), am_E l g d_X11_readsSuns 12 [some (.ref (60)), some (.int (v1))] [] (am_of B u) (am_r (am_bI B) (f_X11_readsSuns_12 v1 k57 n u)) := by
  intro n
  induction n with
  | zero => intro u; exact am_none
  | succ n ih =>
    intro u
    unfold f_X11_readsSuns_12
    refine e_aload_n dX11_readsSuns_12 rfl ?_
    refine q_getI dX11_readsSuns_13 lf_M_150 (by decide) (am_Lk hL rfl) ?_
    refine e_bipush dX11_readsSuns_16 (v := 8) (by decide) ?_
    refine e_if2_ge dX11_readsSuns_18 (tgt := 57) (by decide) ?_ ?_
    · refine e_msk [true, false] (LS1 := [_, none]) rfl ?_
      exact hk57 u
    · refine e_aload_n dX11_readsSuns_21 rfl ?_
      refine e_iload_n dX11_readsSuns_22 rfl ?_
      refine e_iconst dX11_readsSuns_23 (v := 0) (by decide) ?_
      refine e_iconst dX11_readsSuns_24 (v := 1) (by decide) ?_
      refine q_callVI (As := [_, _, _]) rfl dX11_readsSuns_25 lm_M_144 (am_fitB rfl) yo_X11_figure ys_X11_figure rfl rfl (by decide) (am_Lk hL rfl) rfl (Nat.le_of_ble_eq_true rfl) (Nat.le_of_ble_eq_true rfl) (s_X11_figure hL _ _ _  _) (fun q2 => ?_)
      refine e_if_eq dX11_readsSuns_28 (tgt := 57) (by decide) ?_ ?_
      · refine e_msk [true, false] (LS1 := [_, none]) rfl ?_
        exact hk57 q2.2
      · refine e_aload_n dX11_readsSuns_31 rfl ?_
        refine q_getR (r := 71) dX11_readsSuns_32 lf_M_41 rfl (by decide) (am_Lk hL rfl) (am_Lr hL rfl) ?_
        refine e_aload_n dX11_readsSuns_35 rfl ?_
        refine q_getI dX11_readsSuns_36 lf_M_150 (by decide) (am_Lk hL rfl) ?_
        refine e_aload_n dX11_readsSuns_39 rfl ?_
        refine q_getI dX11_readsSuns_40 lf_M_137 (by decide) (am_Lk hL rfl) ?_
        refine q_iastH dX11_readsSuns_43 (am_Ls hL rfl) (fun i4 => ?_)
        refine e_aload_n dX11_readsSuns_44 rfl ?_
        refine e_dup dX11_readsSuns_45 rfl ?_
        refine q_getI dX11_readsSuns_46 lf_M_150 (by decide) (am_Lk hL rfl) ?_
        refine e_iconst dX11_readsSuns_49 (v := 1) (by decide) ?_
        refine e_iadd dX11_readsSuns_50 ?_
        refine q_putI dX11_readsSuns_51 lf_M_150 rfl (by decide) (am_Lk hL rfl) ?_
        refine e_goto dX11_readsSuns_54 (tgt := 12) (by decide) ?_
        exact ih (am_w (am_w q2.2 71 (q2.2 60 18).toNatClampNeg (q2.2 60 16)) 60 18 (((am_w q2.2 71 (q2.2 60 18).toNatClampNeg (q2.2 60 16)) 60 18) + 1))

set_option maxRecDepth 100000 in
set_option maxHeartbeats 4000000 in
theorem s_X11_readsSuns {l : Launch} {g : am_G} {B : am_M} {pl : Nat} (hL : am_Lay B pl) (a1 : Int32)  (u : am_U) : am_E l g d_X11_readsSuns 0 (am_ent d_X11_readsSuns [.ref (60), .int (a1)]) [] (am_of B u) (am_r (am_bI B) (f_X11_readsSuns a1 u)) := by
  unfold f_X11_readsSuns
  show am_E l g d_X11_readsSuns 0 [some (.ref (60)), some (.int (a1))] [] (am_of B u) _
  refine e_aload_n dX11_readsSuns_0 rfl ?_
  refine e_iload_n dX11_readsSuns_1 rfl ?_
  refine e_bipush dX11_readsSuns_2 (v := 115) (by decide) ?_
  refine q_callVI (As := [_, _]) rfl dX11_readsSuns_4 lm_M_140 (am_fitB rfl) yo_X11_isSign ys_X11_isSign rfl rfl (by decide) (am_Lk hL rfl) rfl (Nat.le_of_ble_eq_true rfl) (Nat.le_of_ble_eq_true rfl) (s_X11_isSign hL _ _  _) (fun q1 => ?_)
  refine e_if_ne dX11_readsSuns_7 (tgt := 12) (by decide) ?_ ?_
  · refine s_X11_readsSuns_12 hL _ _ (fun c6u => ?_) _ _
    · refine e_aload_n dX11_readsSuns_57 rfl ?_
      refine q_getI dX11_readsSuns_58 lf_M_150 (by decide) (am_Lk hL rfl) ?_
      refine e_if_le dX11_readsSuns_61 (tgt := 68) (by decide) ?_ ?_
      · refine e_iconst dX11_readsSuns_68 (v := 0) (by decide) ?_
        exact e_zret dX11_readsSuns_69 rfl rfl (Or.inl rfl)
      · refine e_iconst dX11_readsSuns_64 (v := 1) (by decide) ?_
        refine e_goto dX11_readsSuns_65 (tgt := 69) (by decide) ?_
        exact e_zret dX11_readsSuns_69 rfl rfl (Or.inr rfl)
  · refine e_iconst dX11_readsSuns_10 (v := 0) (by decide) ?_
    exact e_zret dX11_readsSuns_11 rfl rfl (Or.inl rfl)

def f_X11_row_34 (v1 : Int32) (v2 : Int32) : Nat → Int32 → am_U → Option (Int32 × am_U)
  | 0, _, _ => none
  | n + 1, v3, u =>
    if 60 ≤ v3 then (
      some (v2, u))
    else (
      am_ck (am_ix ((60 * v1) + v3) 360) (
      let u4 : am_U := am_w u 63 ((60 * v1) + v3).toNatClampNeg 0
      f_X11_row_34 v1 v2 n (v3 + 1) u4))
def f_X11_row (a1 : Int32) (a2 : Int32) (u : am_U) : Option (Int32 × am_U) :=
  (f_X11_isRow a1).bind (fun q1 =>
  if q1 = 0 then (
    some (((-1) : Int32), u))
  else (
    if a2 ≤ 60 then (
      if 0 ≤ a2 then (
        am_ck (am_ix a1 6) (
        let u2 : am_U := am_w u 62 a1.toNatClampNeg a2
        f_X11_row_34 a1 a2 20000 0 u2))
      else (
        (f_X11_meets 5 u).bind (fun q6 =>
        some (q6.1, q6.2))))
    else (
      some (((-1) : Int32), u))))
set_option maxRecDepth 100000 in
set_option maxHeartbeats 4000000 in
theorem s_X11_row_34 {l : Launch} {g : am_G} {B : am_M} {pl : Nat} (hL : am_Lay B pl) (v1 : Int32) (v2 : Int32)    : ∀ (n : Nat) (v3 : Int32) (u : am_U), am_E l g d_X11_row 34 [some (.ref (60)), some (.int (v1)), some (.int (v2)), some (.int (v3))] [] (am_of B u) (am_r (am_bI B) (f_X11_row_34 v1 v2 n v3 u)) := by
  intro n
  induction n with
  | zero => intro v3 u; exact am_none
  | succ n ih =>
    intro v3 u
    unfold f_X11_row_34
    refine e_iload_n dX11_row_34 rfl ?_
    refine e_bipush dX11_row_35 (v := 60) (by decide) ?_
    refine e_if2_ge dX11_row_37 (tgt := 58) (by decide) ?_ ?_
    · refine e_iload_n dX11_row_58 rfl ?_
      exact e_iret dX11_row_59 rfl rfl
    · refine e_aload_n dX11_row_40 rfl ?_
      refine q_getR (r := 63) dX11_row_41 lf_M_16 rfl (by decide) (am_Lk hL rfl) (am_Lr hL rfl) ?_
      refine e_bipush dX11_row_44 (v := 60) (by decide) ?_
      refine e_iload_n dX11_row_46 rfl ?_
      refine e_imul dX11_row_47 ?_
      refine e_iload_n dX11_row_48 rfl ?_
      refine e_iadd dX11_row_49 ?_
      refine e_iconst dX11_row_50 (v := 0) (by decide) ?_
      refine q_iastH dX11_row_51 (am_Ls hL rfl) (fun i5 => ?_)
      refine e_iinc dX11_row_52 rfl (v := _ + 1) rfl (by decide) (LS1 := [_, _, _, _]) rfl ?_
      refine e_goto dX11_row_55 (tgt := 34) (by decide) ?_
      exact ih (v3 + 1) (am_w u 63 ((60 * v1) + v3).toNatClampNeg 0)

set_option maxRecDepth 100000 in
set_option maxHeartbeats 4000000 in
theorem s_X11_row {l : Launch} {g : am_G} {B : am_M} {pl : Nat} (hL : am_Lay B pl) (a1 : Int32) (a2 : Int32)  (u : am_U) : am_E l g d_X11_row 0 (am_ent d_X11_row [.ref (60), .int (a1), .int (a2)]) [] (am_of B u) (am_r (am_bI B) (f_X11_row a1 a2 u)) := by
  unfold f_X11_row
  show am_E l g d_X11_row 0 [some (.ref (60)), some (.int (a1)), some (.int (a2)), none] [] (am_of B u) _
  refine e_iload_n dX11_row_0 rfl ?_
  refine q_callSP (As := [_]) rfl dX11_row_1 lm_M_113 (am_fitB rfl) yo_X11_isRow ys_X11_isRow rfl (Nat.le_of_ble_eq_true rfl) (Nat.le_of_ble_eq_true rfl) (s_X11_isRow hL _  _) (fun q1 => ?_)
  refine e_if_eq dX11_row_4 (tgt := 13) (by decide) ?_ ?_
  · refine e_iconst dX11_row_13 (v := ((-1) : Int32)) (by decide) ?_
    exact e_iret dX11_row_14 rfl rfl
  · refine e_iload_n dX11_row_7 rfl ?_
    refine e_bipush dX11_row_8 (v := 60) (by decide) ?_
    refine e_if2_le dX11_row_10 (tgt := 15) (by decide) ?_ ?_
    · refine e_iload_n dX11_row_15 rfl ?_
      refine e_if_ge dX11_row_16 (tgt := 25) (by decide) ?_ ?_
      · refine e_aload_n dX11_row_25 rfl ?_
        refine q_getR (r := 62) dX11_row_26 lf_M_13 rfl (by decide) (am_Lk hL rfl) (am_Lr hL rfl) ?_
        refine e_iload_n dX11_row_29 rfl ?_
        refine e_iload_n dX11_row_30 rfl ?_
        refine q_iastH dX11_row_31 (am_Ls hL rfl) (fun i3 => ?_)
        refine e_iconst dX11_row_32 (v := 0) (by decide) ?_
        refine e_istore_n dX11_row_33 (by decide) (LS1 := [_, _, _, _]) rfl ?_
        refine s_X11_row_34 hL _ _ _ _ _
      · refine e_aload_n dX11_row_19 rfl ?_
        refine e_iconst dX11_row_20 (v := 5) (by decide) ?_
        refine q_callVI (As := [_]) rfl dX11_row_21 lm_M_117 (am_fitB rfl) yo_X11_meets ys_X11_meets rfl rfl (by decide) (am_Lk hL rfl) rfl (Nat.le_of_ble_eq_true rfl) (Nat.le_of_ble_eq_true rfl) (s_X11_meets hL _  _) (fun q6 => ?_)
        exact e_iret dX11_row_24 rfl rfl
    · refine e_iconst dX11_row_13 (v := ((-1) : Int32)) (by decide) ?_
      exact e_iret dX11_row_14 rfl rfl

def f_X11_seats_79 (v1 : Int32) (v2 : Int32) (v3 : Int32) (v4 : Int32) (k163 : Int32 → Int32 → am_U → Option (Int32 × am_U)) : Nat → Int32 → Int32 → Int32 → am_U → Option (Int32 × am_U)
  | 0, _, _, _, _ => none
  | n + 1, v5, v6, v7, u =>
    if v4 ≤ v7 then (
      k163 v5 v6 u)
    else (
      am_jn (fun (j6s0 : Int32) =>
        am_jn (fun (j7s0 : Int32) =>
          am_ck (am_ix v7 6) (
          let u8 : am_U := am_w u 89 v7.toNatClampNeg 0
          (f_X11_rowAt v2 v7 u8).bind (fun q10 =>
          let u11 : am_U := am_w u8 90 v7.toNatClampNeg q10
          f_X11_seats_79 v1 v2 v3 v4 k163 n j6s0 (v6 + j7s0) (v7 + 1) u11))) (fun j7 =>
        if j6s0 = 0 then (
          j7 0)
        else (
          (f_X11_rowAt v2 v7 u).bind (fun q12 =>
          j7 q12)))) (fun j6 =>
      am_jn (fun (j13z : Unit) =>
        j6 0) (fun j13 =>
      if v5 = 0 then (
        j13 () )
      else (
        (f_X11_rowAt v2 v7 u).bind (fun q14 =>
        (f_X11_in q14 0 99).bind (fun q15 =>
        if q15 = 0 then (
          j13 () )
        else (
          j6 1)))))))
def f_X11_seats_200 (u : am_U) (v1 : Int32) (v3 : Int32) (v4 : Int32) (v7 : Int32) (k259 : Int32 → Option (Int32 × am_U)) : Nat → Int32 → Int32 → Option (Int32 × am_U)
  | 0, _, _ => none
  | n + 1, v8, v9 =>
    if v4 ≤ v9 then (
      k259 v8)
    else (
      am_ck (am_ix v9 6) (
      am_ck (am_ix v8 6) (
      if ((u 90 v9.toNatClampNeg) * ((u 89 v8.toNatClampNeg) + 1)) ≤ ((u 90 v8.toNatClampNeg) * ((u 89 v9.toNatClampNeg) + 1)) then (
        f_X11_seats_200 u v1 v3 v4 v7 k259 n v8 (v9 + 1))
      else (
        f_X11_seats_200 u v1 v3 v4 v7 k259 n v9 (v9 + 1)))))
def f_X11_seats_188 (v1 : Int32) (v3 : Int32) (v4 : Int32) (k276 : am_U → Option (Int32 × am_U)) : Nat → Int32 → am_U → Option (Int32 × am_U)
  | 0, _, _ => none
  | n + 1, v7, u =>
    if v1 ≤ v7 then (
      k276 u)
    else (
      f_X11_seats_200 u v1 v3 v4 v7 (fun (c19v8 : Int32) =>
        am_ck (am_ix c19v8 6) (
        let u21 : am_U := am_w u 89 c19v8.toNatClampNeg ((u 89 c19v8.toNatClampNeg) + 1)
        f_X11_seats_188 v1 v3 v4 k276 n (v7 + 1) u21)) 20000 0 1)
def f_X11_seats_290 (v3 : Int32) (v4 : Int32) : Nat → Int32 → Int32 → am_U → Option (Int32 × am_U)
  | 0, _, _, _ => none
  | n + 1, v7, v8, u =>
    if 60 ≤ v8 then (
      some (v7, u))
    else (
      am_jn (fun (j25s0 : Int32) =>
        am_ck (am_ix ((60 * v3) + v8) 360) (
        let u26 : am_U := am_w u 63 ((60 * v3) + v8).toNatClampNeg j25s0
        if v4 ≤ v8 then (
          f_X11_seats_290 v3 v4 n v7 (v8 + 1) u26)
        else (
          am_ck (am_ix v8 6) (
          (f_X11_greater v7 (u26 89 v8.toNatClampNeg)).bind (fun q29 =>
          f_X11_seats_290 v3 v4 n q29 (v8 + 1) u26))))) (fun j25 =>
      if v4 ≤ v8 then (
        j25 0)
      else (
        am_ck (am_ix v8 6) (
        j25 (u 89 v8.toNatClampNeg)))))
def f_X11_seats (a1 : Int32) (a2 : Int32) (a3 : Int32) (u : am_U) : Option (Int32 × am_U) :=
  (f_X11_in a1 0 99).bind (fun q1 =>
  if q1 = 0 then (
    some (((-1) : Int32), u))
  else (
    (f_X11_isRow a2).bind (fun q2 =>
    if q2 = 0 then (
      some (((-1) : Int32), u))
    else (
      (f_X11_isRow a3).bind (fun q3 =>
      if ¬ q3 = 0 then (
        am_ck (am_ix a2 6) (
        if 0 ≤ (u 62 a2.toNatClampNeg) then (
          (f_X11_in (u 62 a2.toNatClampNeg) 1 6).bind (fun q5 =>
          if ¬ q5 = 0 then (
            f_X11_seats_79 a1 a2 a3 (u 62 a2.toNatClampNeg) (fun (c16v5 : Int32) (c16v6 : Int32) (c16u : am_U) =>
              if ¬ c16v5 = 0 then (
                if ¬ c16v6 = 0 then (
                  f_X11_seats_188 a1 a3 (u 62 a2.toNatClampNeg) (fun (c22u : am_U) =>
                    am_ck (am_ix a3 6) (
                    let u23 : am_U := am_w c22u 62 a3.toNatClampNeg (u 62 a2.toNatClampNeg)
                    f_X11_seats_290 a3 (u 62 a2.toNatClampNeg) 20000 0 0 u23)) 20000 0 c16u)
                else (
                  (f_X11_meets 4 c16u).bind (fun q31 =>
                  some (q31.1, q31.2))))
              else (
                (f_X11_meets 3 c16u).bind (fun q32 =>
                some (q32.1, q32.2)))) 20000 1 0 0 u)
          else (
            (f_X11_meets 5 u).bind (fun q33 =>
            some (q33.1, q33.2)))))
        else (
          (f_X11_meets 1 u).bind (fun q34 =>
          some (q34.1, q34.2)))))
      else (
        some (((-1) : Int32), u)))))))
set_option maxRecDepth 100000 in
set_option maxHeartbeats 4000000 in
theorem s_X11_seats_79 {l : Launch} {g : am_G} {B : am_M} {pl : Nat} (hL : am_Lay B pl) (v1 : Int32) (v2 : Int32) (v3 : Int32) (v4 : Int32)  (k163 : Int32 → Int32 → am_U → Option (Int32 × am_U)) (hk163 : ∀ (v5 : Int32) (v6 : Int32) (u : am_U), am_E l g d_X11_seats 163 [some (.ref (60)), some (.int (v1)), none, some (.int (v3)), some (.int (v4)), some (.int (v5)), some (.int (v6)), none, none, none] [] (am_of B u) (am_r (am_bI B) (k163 v5 v6 u))) : ∀ (n : Nat) (v5 : Int32) (v6 : Int32) (v7 : Int32) (u : am_U), am_E l g d_X11_seats 79 [some (.ref (60)), some (.int (v1)), some (.int (v2)), some (.int (v3)), some (.int (v4)), some (.int (v5)), some (.int (v6)), some (.int (v7)), none, none] [] (am_of B u) (am_r (am_bI B) (f_X11_seats_79 v1 v2 v3 v4 k163 n v5 v6 v7 u)) := by
  intro n
  induction n with
  | zero => intro v5 v6 v7 u; exact am_none
  | succ n ih =>
    intro v5 v6 v7 u
    unfold f_X11_seats_79
    refine e_iload dX11_seats_79 rfl ?_
    refine e_iload dX11_seats_81 rfl ?_
    refine e_if2_ge dX11_seats_83 (tgt := 163) (by decide) ?_ ?_
    · refine e_msk [true, true, false, true, true, true, true, false, false, false] (LS1 := [_, _, none, _, _, _, _, none, none, none]) rfl ?_
      exact hk163 v5 v6 u
    · refine e_iload dX11_seats_86 rfl ?_
      refine e_jn (P := fun t : Int32 → Option (Int32 × am_U) => ∀ (j6s0 : Int32), am_E l g d_X11_seats 112 [some (.ref (60)), some (.int (v1)), some (.int (v2)), some (.int (v3)), some (.int (v4)), none, some (.int (v6)), some (.int (v7)), none, none] [.int (j6s0)] (am_of B u) (am_r (am_bI B) (t j6s0))) ?_ (fun j6 hj6 => ?_)
      · intro j6s0
        refine e_istore dX11_seats_112 (by decide) (LS1 := [_, _, _, _, _, _, _, _, none, none]) rfl ?_
        refine e_iload dX11_seats_114 rfl ?_
        refine e_iload dX11_seats_116 rfl ?_
        refine e_jn (P := fun t : Int32 → Option (Int32 × am_U) => ∀ (j7s0 : Int32), am_E l g d_X11_seats 132 [some (.ref (60)), some (.int (v1)), some (.int (v2)), some (.int (v3)), some (.int (v4)), some (.int (j6s0)), none, some (.int (v7)), none, none] [.int (j7s0), .int (v6)] (am_of B u) (am_r (am_bI B) (t j7s0))) ?_ (fun j7 hj7 => ?_)
        · intro j7s0
          refine e_iadd dX11_seats_132 ?_
          refine e_istore dX11_seats_133 (by decide) (LS1 := [_, _, _, _, _, _, _, _, none, none]) rfl ?_
          refine e_aload_n dX11_seats_135 rfl ?_
          refine q_getR (r := 89) dX11_seats_136 lf_M_96 rfl (by decide) (am_Lk hL rfl) (am_Lr hL rfl) ?_
          refine e_iload dX11_seats_139 rfl ?_
          refine e_iconst dX11_seats_141 (v := 0) (by decide) ?_
          refine q_iastH dX11_seats_142 (am_Ls hL rfl) (fun i9 => ?_)
          refine e_aload_n dX11_seats_143 rfl ?_
          refine q_getR (r := 90) dX11_seats_144 lf_M_99 rfl (by decide) (am_Lk hL rfl) (am_Lr hL rfl) ?_
          refine e_iload dX11_seats_147 rfl ?_
          refine e_aload_n dX11_seats_149 rfl ?_
          refine e_iload_n dX11_seats_150 rfl ?_
          refine e_iload dX11_seats_151 rfl ?_
          refine q_callVP (As := [_, _]) rfl dX11_seats_153 lm_M_121 (am_fitB rfl) yo_X11_rowAt ys_X11_rowAt rfl rfl (by decide) (am_Lk hL rfl) rfl (Nat.le_of_ble_eq_true rfl) (Nat.le_of_ble_eq_true rfl) (s_X11_rowAt hL _ _  _) (fun q10 => ?_)
          refine q_iastC (jn := _) dX11_seats_156 (am_Ls hL rfl) i9 rfl ?_
          refine e_iinc dX11_seats_157 rfl (v := _ + 1) rfl (by decide) (LS1 := [_, _, _, _, _, _, _, _, none, none]) rfl ?_
          refine e_goto dX11_seats_160 (tgt := 79) (by decide) ?_
          exact ih j6s0 (v6 + j7s0) (v7 + 1) (am_w (am_w u 89 v7.toNatClampNeg 0) 90 v7.toNatClampNeg q10)
        · refine e_if_eq dX11_seats_118 (tgt := 131) (by decide) ?_ ?_
          · refine e_iconst dX11_seats_131 (v := 0) (by decide) ?_
            refine e_msk [true, true, true, true, true, true, false, true, false, false] (LS1 := [_, _, _, _, _, _, none, _, none, none]) rfl ?_
            exact hj7 0
          · refine e_aload_n dX11_seats_121 rfl ?_
            refine e_iload_n dX11_seats_122 rfl ?_
            refine e_iload dX11_seats_123 rfl ?_
            refine q_callVP (As := [_, _]) rfl dX11_seats_125 lm_M_121 (am_fitB rfl) yo_X11_rowAt ys_X11_rowAt rfl rfl (by decide) (am_Lk hL rfl) rfl (Nat.le_of_ble_eq_true rfl) (Nat.le_of_ble_eq_true rfl) (s_X11_rowAt hL _ _  _) (fun q12 => ?_)
            refine e_goto dX11_seats_128 (tgt := 132) (by decide) ?_
            refine e_msk [true, true, true, true, true, true, false, true, false, false] (LS1 := [_, _, _, _, _, _, none, _, none, none]) rfl ?_
            exact hj7 q12
      · refine e_jn (P := fun t : Unit → Option (Int32 × am_U) => ∀ (j13z : Unit), am_E l g d_X11_seats 111 [some (.ref (60)), some (.int (v1)), some (.int (v2)), some (.int (v3)), some (.int (v4)), none, some (.int (v6)), some (.int (v7)), none, none] [] (am_of B u) (am_r (am_bI B) (t j13z))) ?_ (fun j13 hj13 => ?_)
        · intro j13z
          refine e_iconst dX11_seats_111 (v := 0) (by decide) ?_
          refine e_msk [true, true, true, true, true, false, true, true, false, false] (LS1 := [_, _, _, _, _, none, _, _, none, none]) rfl ?_
          exact hj6 0
        · refine e_if_eq dX11_seats_88 (tgt := 111) (by decide) ?_ ?_
          · refine e_msk [true, true, true, true, true, false, true, true, false, false] (LS1 := [_, _, _, _, _, none, _, _, none, none]) rfl ?_
            exact hj13 () 
          · refine e_aload_n dX11_seats_91 rfl ?_
            refine e_iload_n dX11_seats_92 rfl ?_
            refine e_iload dX11_seats_93 rfl ?_
            refine q_callVP (As := [_, _]) rfl dX11_seats_95 lm_M_121 (am_fitB rfl) yo_X11_rowAt ys_X11_rowAt rfl rfl (by decide) (am_Lk hL rfl) rfl (Nat.le_of_ble_eq_true rfl) (Nat.le_of_ble_eq_true rfl) (s_X11_rowAt hL _ _  _) (fun q14 => ?_)
            refine e_iconst dX11_seats_98 (v := 0) (by decide) ?_
            refine e_bipush dX11_seats_99 (v := 99) (by decide) ?_
            refine q_callSP (As := [_, _, _]) rfl dX11_seats_101 lm_M_106 (am_fitB rfl) yo_X11_in ys_X11_in rfl (Nat.le_of_ble_eq_true rfl) (Nat.le_of_ble_eq_true rfl) (s_X11_in hL _ _ _  _) (fun q15 => ?_)
            refine e_if_eq dX11_seats_104 (tgt := 111) (by decide) ?_ ?_
            · refine e_msk [true, true, true, true, true, false, true, true, false, false] (LS1 := [_, _, _, _, _, none, _, _, none, none]) rfl ?_
              exact hj13 () 
            · refine e_iconst dX11_seats_107 (v := 1) (by decide) ?_
              refine e_goto dX11_seats_108 (tgt := 112) (by decide) ?_
              refine e_msk [true, true, true, true, true, false, true, true, false, false] (LS1 := [_, _, _, _, _, none, _, _, none, none]) rfl ?_
              exact hj6 1

set_option maxRecDepth 100000 in
set_option maxHeartbeats 4000000 in
theorem s_X11_seats_200 {l : Launch} {g : am_G} {B : am_M} {pl : Nat} (hL : am_Lay B pl) (u : am_U) (v1 : Int32) (v3 : Int32) (v4 : Int32) (v7 : Int32)  (k259 : Int32 → Option (Int32 × am_U)) (hk259 : ∀ (v8 : Int32), am_E l g d_X11_seats 259 [some (.ref (60)), some (.int (v1)), none, some (.int (v3)), some (.int (v4)), none, none, some (.int (v7)), some (.int (v8)), none] [] (am_of B u) (am_r (am_bI B) (k259 v8))) : ∀ (n : Nat) (v8 : Int32) (v9 : Int32), am_E l g d_X11_seats 200 [some (.ref (60)), some (.int (v1)), none, some (.int (v3)), some (.int (v4)), none, none, some (.int (v7)), some (.int (v8)), some (.int (v9))] [] (am_of B u) (am_r (am_bI B) (f_X11_seats_200 u v1 v3 v4 v7 k259 n v8 v9)) := by
  intro n
  induction n with
  | zero => intro v8 v9; exact am_none
  | succ n ih =>
    intro v8 v9
    unfold f_X11_seats_200
    refine e_iload dX11_seats_200 rfl ?_
    refine e_iload dX11_seats_202 rfl ?_
    refine e_if2_ge dX11_seats_204 (tgt := 259) (by decide) ?_ ?_
    · refine e_msk [true, true, false, true, true, false, false, true, true, false] (LS1 := [_, _, none, _, _, none, none, _, _, none]) rfl ?_
      exact hk259 v8
    · refine e_aload_n dX11_seats_207 rfl ?_
      refine q_getR (r := 90) dX11_seats_208 lf_M_99 rfl (by decide) (am_Lk hL rfl) (am_Lr hL rfl) ?_
      refine e_iload dX11_seats_211 rfl ?_
      refine q_ialdH dX11_seats_213 (am_Ls hL rfl) (fun i17 => ?_)
      refine e_aload_n dX11_seats_214 rfl ?_
      refine q_getR (r := 89) dX11_seats_215 lf_M_96 rfl (by decide) (am_Lk hL rfl) (am_Lr hL rfl) ?_
      refine e_iload dX11_seats_218 rfl ?_
      refine q_ialdH dX11_seats_220 (am_Ls hL rfl) (fun i18 => ?_)
      refine e_iconst dX11_seats_221 (v := 1) (by decide) ?_
      refine e_iadd dX11_seats_222 ?_
      refine e_imul dX11_seats_223 ?_
      refine e_aload_n dX11_seats_224 rfl ?_
      refine q_getR (r := 90) dX11_seats_225 lf_M_99 rfl (by decide) (am_Lk hL rfl) (am_Lr hL rfl) ?_
      refine e_iload dX11_seats_228 rfl ?_
      refine q_ialdC (jn := _) dX11_seats_230 (am_Ls hL rfl) i18 rfl ?_
      refine e_aload_n dX11_seats_231 rfl ?_
      refine q_getR (r := 89) dX11_seats_232 lf_M_96 rfl (by decide) (am_Lk hL rfl) (am_Lr hL rfl) ?_
      refine e_iload dX11_seats_235 rfl ?_
      refine q_ialdC (jn := _) dX11_seats_237 (am_Ls hL rfl) i17 rfl ?_
      refine e_iconst dX11_seats_238 (v := 1) (by decide) ?_
      refine e_iadd dX11_seats_239 ?_
      refine e_imul dX11_seats_240 ?_
      refine e_if2_le dX11_seats_241 (tgt := 249) (by decide) ?_ ?_
      · refine e_iload dX11_seats_249 rfl ?_
        refine e_istore dX11_seats_251 (by decide) (LS1 := [_, _, none, _, _, none, none, _, _, _]) rfl ?_
        refine e_iinc dX11_seats_253 rfl (v := _ + 1) rfl (by decide) (LS1 := [_, _, none, _, _, none, none, _, _, _]) rfl ?_
        refine e_goto dX11_seats_256 (tgt := 200) (by decide) ?_
        exact ih v8 (v9 + 1)
      · refine e_iload dX11_seats_244 rfl ?_
        refine e_goto dX11_seats_246 (tgt := 251) (by decide) ?_
        refine e_istore dX11_seats_251 (by decide) (LS1 := [_, _, none, _, _, none, none, _, _, _]) rfl ?_
        refine e_iinc dX11_seats_253 rfl (v := _ + 1) rfl (by decide) (LS1 := [_, _, none, _, _, none, none, _, _, _]) rfl ?_
        refine e_goto dX11_seats_256 (tgt := 200) (by decide) ?_
        exact ih v9 (v9 + 1)

set_option maxRecDepth 100000 in
set_option maxHeartbeats 4000000 in
theorem s_X11_seats_188 {l : Launch} {g : am_G} {B : am_M} {pl : Nat} (hL : am_Lay B pl) (v1 : Int32) (v3 : Int32) (v4 : Int32)  (k276 : am_U → Option (Int32 × am_U)) (hk276 : ∀  (u : am_U), am_E l g d_X11_seats 276 [some (.ref (60)), none, none, some (.int (v3)), some (.int (v4)), none, none, none, none, none] [] (am_of B u) (am_r (am_bI B) (k276 u))) : ∀ (n : Nat) (v7 : Int32) (u : am_U), am_E l g d_X11_seats 188 [some (.ref (60)), some (.int (v1)), none, some (.int (v3)), some (.int (v4)), none, none, some (.int (v7)), none, none] [] (am_of B u) (am_r (am_bI B) (f_X11_seats_188 v1 v3 v4 k276 n v7 u)) := by
  intro n
  induction n with
  | zero => intro v7 u; exact am_none
  | succ n ih =>
    intro v7 u
    unfold f_X11_seats_188
    refine e_iload dX11_seats_188 rfl ?_
    refine e_iload_n dX11_seats_190 rfl ?_
    refine e_if2_ge dX11_seats_191 (tgt := 276) (by decide) ?_ ?_
    · refine e_msk [true, false, false, true, true, false, false, false, false, false] (LS1 := [_, none, none, _, _, none, none, none, none, none]) rfl ?_
      exact hk276 u
    · refine e_iconst dX11_seats_194 (v := 0) (by decide) ?_
      refine e_istore dX11_seats_195 (by decide) (LS1 := [_, _, none, _, _, none, none, _, _, none]) rfl ?_
      refine e_iconst dX11_seats_197 (v := 1) (by decide) ?_
      refine e_istore dX11_seats_198 (by decide) (LS1 := [_, _, none, _, _, none, none, _, _, _]) rfl ?_
      refine s_X11_seats_200 hL _ _ _ _ _ _ (fun c19v8 => ?_) _ _ _
      · refine e_aload_n dX11_seats_259 rfl ?_
        refine q_getR (r := 89) dX11_seats_260 lf_M_96 rfl (by decide) (am_Lk hL rfl) (am_Lr hL rfl) ?_
        refine e_iload dX11_seats_263 rfl ?_
        refine e_dup2 dX11_seats_265 rfl rfl ?_
        refine q_ialdH dX11_seats_266 (am_Ls hL rfl) (fun i20 => ?_)
        refine e_iconst dX11_seats_267 (v := 1) (by decide) ?_
        refine e_iadd dX11_seats_268 ?_
        refine q_iastC (jn := _) dX11_seats_269 (am_Ls hL rfl) i20 rfl ?_
        refine e_iinc dX11_seats_270 rfl (v := _ + 1) rfl (by decide) (LS1 := [_, _, none, _, _, none, none, _, _, none]) rfl ?_
        refine e_goto dX11_seats_273 (tgt := 188) (by decide) ?_
        refine e_msk [true, true, false, true, true, false, false, true, false, false] (LS1 := [_, _, none, _, _, none, none, _, none, none]) rfl ?_
        exact ih (v7 + 1) (am_w u 89 c19v8.toNatClampNeg ((u 89 c19v8.toNatClampNeg) + 1))

set_option maxRecDepth 100000 in
set_option maxHeartbeats 4000000 in
theorem s_X11_seats_290 {l : Launch} {g : am_G} {B : am_M} {pl : Nat} (hL : am_Lay B pl) (v3 : Int32) (v4 : Int32)    : ∀ (n : Nat) (v7 : Int32) (v8 : Int32) (u : am_U), am_E l g d_X11_seats 290 [some (.ref (60)), none, none, some (.int (v3)), some (.int (v4)), none, none, some (.int (v7)), some (.int (v8)), none] [] (am_of B u) (am_r (am_bI B) (f_X11_seats_290 v3 v4 n v7 v8 u)) := by
  intro n
  induction n with
  | zero => intro v7 v8 u; exact am_none
  | succ n ih =>
    intro v7 v8 u
    unfold f_X11_seats_290
    refine e_iload dX11_seats_290 rfl ?_
    refine e_bipush dX11_seats_292 (v := 60) (by decide) ?_
    refine e_if2_ge dX11_seats_294 (tgt := 359) (by decide) ?_ ?_
    · refine e_iload dX11_seats_359 rfl ?_
      exact e_iret dX11_seats_361 rfl rfl
    · refine e_aload_n dX11_seats_297 rfl ?_
      refine q_getR (r := 63) dX11_seats_298 lf_M_16 rfl (by decide) (am_Lk hL rfl) (am_Lr hL rfl) ?_
      refine e_bipush dX11_seats_301 (v := 60) (by decide) ?_
      refine e_iload_n dX11_seats_303 rfl ?_
      refine e_imul dX11_seats_304 ?_
      refine e_iload dX11_seats_305 rfl ?_
      refine e_iadd dX11_seats_307 ?_
      refine e_iload dX11_seats_308 rfl ?_
      refine e_iload dX11_seats_310 rfl ?_
      refine e_jn (P := fun t : Int32 → Option (Int32 × am_U) => ∀ (j25s0 : Int32), am_E l g d_X11_seats 326 [some (.ref (60)), none, none, some (.int (v3)), some (.int (v4)), none, none, some (.int (v7)), some (.int (v8)), none] [.int (j25s0), .int ((60 * v3) + v8), .ref (63)] (am_of B u) (am_r (am_bI B) (t j25s0))) ?_ (fun j25 hj25 => ?_)
      · intro j25s0
        refine q_iastH dX11_seats_326 (am_Ls hL rfl) (fun i27 => ?_)
        refine e_iload dX11_seats_327 rfl ?_
        refine e_iload dX11_seats_329 rfl ?_
        refine e_if2_ge dX11_seats_331 (tgt := 349) (by decide) ?_ ?_
        · refine e_iload dX11_seats_349 rfl ?_
          refine e_istore dX11_seats_351 (by decide) (LS1 := [_, none, none, _, _, none, none, _, _, none]) rfl ?_
          refine e_iinc dX11_seats_353 rfl (v := _ + 1) rfl (by decide) (LS1 := [_, none, none, _, _, none, none, _, _, none]) rfl ?_
          refine e_goto dX11_seats_356 (tgt := 290) (by decide) ?_
          exact ih v7 (v8 + 1) (am_w u 63 ((60 * v3) + v8).toNatClampNeg j25s0)
        · refine e_iload dX11_seats_334 rfl ?_
          refine e_aload_n dX11_seats_336 rfl ?_
          refine q_getR (r := 89) dX11_seats_337 lf_M_96 rfl (by decide) (am_Lk hL rfl) (am_Lr hL rfl) ?_
          refine e_iload dX11_seats_340 rfl ?_
          refine q_ialdH dX11_seats_342 (am_Ls hL rfl) (fun i28 => ?_)
          refine q_callSP (As := [_, _]) rfl dX11_seats_343 lm_M_292 (am_fitB rfl) yo_X11_greater ys_X11_greater rfl (Nat.le_of_ble_eq_true rfl) (Nat.le_of_ble_eq_true rfl) (s_X11_greater hL _ _  _) (fun q29 => ?_)
          refine e_goto dX11_seats_346 (tgt := 351) (by decide) ?_
          refine e_istore dX11_seats_351 (by decide) (LS1 := [_, none, none, _, _, none, none, _, _, none]) rfl ?_
          refine e_iinc dX11_seats_353 rfl (v := _ + 1) rfl (by decide) (LS1 := [_, none, none, _, _, none, none, _, _, none]) rfl ?_
          refine e_goto dX11_seats_356 (tgt := 290) (by decide) ?_
          exact ih q29 (v8 + 1) (am_w u 63 ((60 * v3) + v8).toNatClampNeg j25s0)
      · refine e_if2_ge dX11_seats_312 (tgt := 325) (by decide) ?_ ?_
        · refine e_iconst dX11_seats_325 (v := 0) (by decide) ?_
          refine e_msk [true, false, false, true, true, false, false, true, true, false] (LS1 := [_, none, none, _, _, none, none, _, _, none]) rfl ?_
          exact hj25 0
        · refine e_aload_n dX11_seats_315 rfl ?_
          refine q_getR (r := 89) dX11_seats_316 lf_M_96 rfl (by decide) (am_Lk hL rfl) (am_Lr hL rfl) ?_
          refine e_iload dX11_seats_319 rfl ?_
          refine q_ialdH dX11_seats_321 (am_Ls hL rfl) (fun i30 => ?_)
          refine e_goto dX11_seats_322 (tgt := 326) (by decide) ?_
          refine e_msk [true, false, false, true, true, false, false, true, true, false] (LS1 := [_, none, none, _, _, none, none, _, _, none]) rfl ?_
          exact hj25 (u 89 v8.toNatClampNeg)

set_option maxRecDepth 100000 in
set_option maxHeartbeats 4000000 in
theorem s_X11_seats {l : Launch} {g : am_G} {B : am_M} {pl : Nat} (hL : am_Lay B pl) (a1 : Int32) (a2 : Int32) (a3 : Int32)  (u : am_U) : am_E l g d_X11_seats 0 (am_ent d_X11_seats [.ref (60), .int (a1), .int (a2), .int (a3)]) [] (am_of B u) (am_r (am_bI B) (f_X11_seats a1 a2 a3 u)) := by
  unfold f_X11_seats
  show am_E l g d_X11_seats 0 [some (.ref (60)), some (.int (a1)), some (.int (a2)), some (.int (a3)), none, none, none, none, none, none] [] (am_of B u) _
  refine e_iload_n dX11_seats_0 rfl ?_
  refine e_iconst dX11_seats_1 (v := 0) (by decide) ?_
  refine e_bipush dX11_seats_2 (v := 99) (by decide) ?_
  refine q_callSP (As := [_, _, _]) rfl dX11_seats_4 lm_M_106 (am_fitB rfl) yo_X11_in ys_X11_in rfl (Nat.le_of_ble_eq_true rfl) (Nat.le_of_ble_eq_true rfl) (s_X11_in hL _ _ _  _) (fun q1 => ?_)
  refine e_if_eq dX11_seats_7 (tgt := 24) (by decide) ?_ ?_
  · refine e_iconst dX11_seats_24 (v := ((-1) : Int32)) (by decide) ?_
    exact e_iret dX11_seats_25 rfl rfl
  · refine e_iload_n dX11_seats_10 rfl ?_
    refine q_callSP (As := [_]) rfl dX11_seats_11 lm_M_113 (am_fitB rfl) yo_X11_isRow ys_X11_isRow rfl (Nat.le_of_ble_eq_true rfl) (Nat.le_of_ble_eq_true rfl) (s_X11_isRow hL _  _) (fun q2 => ?_)
    refine e_if_eq dX11_seats_14 (tgt := 24) (by decide) ?_ ?_
    · refine e_iconst dX11_seats_24 (v := ((-1) : Int32)) (by decide) ?_
      exact e_iret dX11_seats_25 rfl rfl
    · refine e_iload_n dX11_seats_17 rfl ?_
      refine q_callSP (As := [_]) rfl dX11_seats_18 lm_M_113 (am_fitB rfl) yo_X11_isRow ys_X11_isRow rfl (Nat.le_of_ble_eq_true rfl) (Nat.le_of_ble_eq_true rfl) (s_X11_isRow hL _  _) (fun q3 => ?_)
      refine e_if_ne dX11_seats_21 (tgt := 26) (by decide) ?_ ?_
      · refine e_aload_n dX11_seats_26 rfl ?_
        refine q_getR (r := 62) dX11_seats_27 lf_M_13 rfl (by decide) (am_Lk hL rfl) (am_Lr hL rfl) ?_
        refine e_iload_n dX11_seats_30 rfl ?_
        refine q_ialdH dX11_seats_31 (am_Ls hL rfl) (fun i4 => ?_)
        refine e_if_ge dX11_seats_32 (tgt := 41) (by decide) ?_ ?_
        · refine e_aload_n dX11_seats_41 rfl ?_
          refine q_getR (r := 62) dX11_seats_42 lf_M_13 rfl (by decide) (am_Lk hL rfl) (am_Lr hL rfl) ?_
          refine e_iload_n dX11_seats_45 rfl ?_
          refine q_ialdC (jn := _) dX11_seats_46 (am_Ls hL rfl) i4 rfl ?_
          refine e_iconst dX11_seats_47 (v := 1) (by decide) ?_
          refine e_bipush dX11_seats_48 (v := 6) (by decide) ?_
          refine q_callSP (As := [_, _, _]) rfl dX11_seats_50 lm_M_106 (am_fitB rfl) yo_X11_in ys_X11_in rfl (Nat.le_of_ble_eq_true rfl) (Nat.le_of_ble_eq_true rfl) (s_X11_in hL _ _ _  _) (fun q5 => ?_)
          refine e_if_ne dX11_seats_53 (tgt := 62) (by decide) ?_ ?_
          · refine e_aload_n dX11_seats_62 rfl ?_
            refine q_getR (r := 62) dX11_seats_63 lf_M_13 rfl (by decide) (am_Lk hL rfl) (am_Lr hL rfl) ?_
            refine e_iload_n dX11_seats_66 rfl ?_
            refine q_ialdC (jn := _) dX11_seats_67 (am_Ls hL rfl) i4 rfl ?_
            refine e_istore dX11_seats_68 (by decide) (LS1 := [_, _, _, _, _, none, none, none, none, none]) rfl ?_
            refine e_iconst dX11_seats_70 (v := 1) (by decide) ?_
            refine e_istore dX11_seats_71 (by decide) (LS1 := [_, _, _, _, _, _, none, none, none, none]) rfl ?_
            refine e_iconst dX11_seats_73 (v := 0) (by decide) ?_
            refine e_istore dX11_seats_74 (by decide) (LS1 := [_, _, _, _, _, _, _, none, none, none]) rfl ?_
            refine e_iconst dX11_seats_76 (v := 0) (by decide) ?_
            refine e_istore dX11_seats_77 (by decide) (LS1 := [_, _, _, _, _, _, _, _, none, none]) rfl ?_
            refine s_X11_seats_79 hL _ _ _ _ _ (fun c16v5 c16v6 c16u => ?_) _ _ _ _ _
            · refine e_iload dX11_seats_163 rfl ?_
              refine e_if_ne dX11_seats_165 (tgt := 174) (by decide) ?_ ?_
              · refine e_iload dX11_seats_174 rfl ?_
                refine e_if_ne dX11_seats_176 (tgt := 185) (by decide) ?_ ?_
                · refine e_iconst dX11_seats_185 (v := 0) (by decide) ?_
                  refine e_istore dX11_seats_186 (by decide) (LS1 := [_, _, none, _, _, _, _, _, none, none]) rfl ?_
                  refine e_msk [true, true, false, true, true, false, false, true, false, false] (LS1 := [_, _, none, _, _, none, none, _, none, none]) rfl ?_
                  refine s_X11_seats_188 hL _ _ _ _ (fun c22u => ?_) _ _ _
                  · refine e_iconst dX11_seats_276 (v := 0) (by decide) ?_
                    refine e_istore dX11_seats_277 (by decide) (LS1 := [_, none, none, _, _, none, none, _, none, none]) rfl ?_
                    refine e_aload_n dX11_seats_279 rfl ?_
                    refine q_getR (r := 62) dX11_seats_280 lf_M_13 rfl (by decide) (am_Lk hL rfl) (am_Lr hL rfl) ?_
                    refine e_iload_n dX11_seats_283 rfl ?_
                    refine e_iload dX11_seats_284 rfl ?_
                    refine q_iastH dX11_seats_286 (am_Ls hL rfl) (fun i24 => ?_)
                    refine e_iconst dX11_seats_287 (v := 0) (by decide) ?_
                    refine e_istore dX11_seats_288 (by decide) (LS1 := [_, none, none, _, _, none, none, _, _, none]) rfl ?_
                    refine s_X11_seats_290 hL _ _ _ _ _ _
                · refine e_aload_n dX11_seats_179 rfl ?_
                  refine e_iconst dX11_seats_180 (v := 4) (by decide) ?_
                  refine q_callVI (As := [_]) rfl dX11_seats_181 lm_M_117 (am_fitB rfl) yo_X11_meets ys_X11_meets rfl rfl (by decide) (am_Lk hL rfl) rfl (Nat.le_of_ble_eq_true rfl) (Nat.le_of_ble_eq_true rfl) (s_X11_meets hL _  _) (fun q31 => ?_)
                  exact e_iret dX11_seats_184 rfl rfl
              · refine e_aload_n dX11_seats_168 rfl ?_
                refine e_iconst dX11_seats_169 (v := 3) (by decide) ?_
                refine q_callVI (As := [_]) rfl dX11_seats_170 lm_M_117 (am_fitB rfl) yo_X11_meets ys_X11_meets rfl rfl (by decide) (am_Lk hL rfl) rfl (Nat.le_of_ble_eq_true rfl) (Nat.le_of_ble_eq_true rfl) (s_X11_meets hL _  _) (fun q32 => ?_)
                exact e_iret dX11_seats_173 rfl rfl
          · refine e_aload_n dX11_seats_56 rfl ?_
            refine e_iconst dX11_seats_57 (v := 5) (by decide) ?_
            refine q_callVI (As := [_]) rfl dX11_seats_58 lm_M_117 (am_fitB rfl) yo_X11_meets ys_X11_meets rfl rfl (by decide) (am_Lk hL rfl) rfl (Nat.le_of_ble_eq_true rfl) (Nat.le_of_ble_eq_true rfl) (s_X11_meets hL _  _) (fun q33 => ?_)
            exact e_iret dX11_seats_61 rfl rfl
        · refine e_aload_n dX11_seats_35 rfl ?_
          refine e_iconst dX11_seats_36 (v := 1) (by decide) ?_
          refine q_callVI (As := [_]) rfl dX11_seats_37 lm_M_117 (am_fitB rfl) yo_X11_meets ys_X11_meets rfl rfl (by decide) (am_Lk hL rfl) rfl (Nat.le_of_ble_eq_true rfl) (Nat.le_of_ble_eq_true rfl) (s_X11_meets hL _  _) (fun q34 => ?_)
          exact e_iret dX11_seats_40 rfl rfl
      · refine e_iconst dX11_seats_24 (v := ((-1) : Int32)) (by decide) ?_
        exact e_iret dX11_seats_25 rfl rfl

