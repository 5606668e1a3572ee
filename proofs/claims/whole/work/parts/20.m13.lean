def f_X11_sure_29 (u : am_U) (v1 : Int32) (k65 : Int32 → Int32 → Int32 → Option (Int32 × am_U)) : Nat → Int32 → Int32 → Int32 → Int32 → Option (Int32 × am_U)
  | 0, _, _, _, _ => none
  | n + 1, v2, v3, v4, v5 =>
    if v1 < v5 then (
      k65 v2 v3 v4)
    else (
      (f_X11_fits v5 u).bind (fun q2 =>
      if q2 = 0 then (
        f_X11_sure_29 u v1 k65 n v2 v3 v4 (v5 + 1))
      else (
        let x3 : Int32 := v3 &&& (v5 ^^^ ((-1) : Int32))
        f_X11_sure_29 u v1 k65 n (v2 &&& v5) x3 (v4 + 1) (v5 + 1))))
def f_X11_sure (u : am_U) : Option (Int32 × am_U) :=
  if ¬ (u 60 12) = 0 then (
    let x1 : Int32 := (1 <<< ((u 60 12) &&& 31)) - 1
    f_X11_sure_29 u x1 (fun (c4v2 : Int32) (c4v3 : Int32) (c4v4 : Int32) =>
      if ¬ c4v4 = 0 then (
        (f_X11_tells c4v3 c4v2 u).bind (fun q5 =>
        some (q5.1, q5.2)))
      else (
        (f_X11_meets 4 u).bind (fun q6 =>
        some (q6.1, q6.2)))) 20000 x1 x1 0 0)
  else (
    some (((-4) : Int32), u))
set_option maxRecDepth 100000 in
set_option maxHeartbeats 4000000 in
theorem s_X11_sure_29 {l : Launch} {g : am_G} {B : am_M} {pl : Nat} (hL : am_Lay B pl) (u : am_U) (v1 : Int32)  (k65 : Int32 → Int32 → Int32 → Option (Int32 × am_U)) (hk65 : ∀ (v2 : Int32) (v3 : Int32) (v4 : Int32), am_E l g d_X11_sure 65 [some (.ref (60)), none, some (.int (v2)), some (.int (v3)), some (.int (v4)), none] [] (am_of B u) (am_r (am_bI B) (k65 v2 v3 v4))) : ∀ (n : Nat) (v2 : Int32) (v3 : Int32) (v4 : Int32) (v5 : Int32), am_E l g d_X11_sure 29 [some (.ref (60)), some (.int (v1)), some (.int (v2)), some (.int (v3)), some (.int (v4)), some (.int (v5))] [] (am_of B u) (am_r (am_bI B) (f_X11_sure_29 u v1 k65 n v2 v3 v4 v5)) := by
  intro n
  induction n with
  | zero => intro v2 v3 v4 v5; exact am_none
  | succ n ih =>
    intro v2 v3 v4 v5
    unfold f_X11_sure_29
    refine e_iload dX11_sure_29 rfl ?_
    refine e_iload_n dX11_sure_31 rfl ?_
    refine e_if2_gt dX11_sure_32 (tgt := 65) (by decide) ?_ ?_
    · refine e_msk [true, false, true, true, true, false] (LS1 := [_, none, _, _, _, none]) rfl ?_
      exact hk65 v2 v3 v4
    · refine e_aload_n dX11_sure_35 rfl ?_
      refine e_iload dX11_sure_36 rfl ?_
      refine q_callVP (As := [_]) rfl dX11_sure_38 lm_M_298 (am_fitB rfl) yo_X11_fits ys_X11_fits rfl rfl (by decide) (am_Lk hL rfl) rfl (Nat.le_of_ble_eq_true rfl) (Nat.le_of_ble_eq_true rfl) (s_X11_fits hL _  _) (fun q2 => ?_)
      refine e_if_eq dX11_sure_41 (tgt := 59) (by decide) ?_ ?_
      · refine e_iinc dX11_sure_59 rfl (v := _ + 1) rfl (by decide) (LS1 := [_, _, _, _, _, _]) rfl ?_
        refine e_goto dX11_sure_62 (tgt := 29) (by decide) ?_
        exact ih v2 v3 v4 (v5 + 1)
      · refine e_iload_n dX11_sure_44 rfl ?_
        refine e_iload dX11_sure_45 rfl ?_
        refine e_iand dX11_sure_47 ?_
        refine e_istore_n dX11_sure_48 (by decide) (LS1 := [_, _, _, _, _, _]) rfl ?_
        refine e_iload_n dX11_sure_49 rfl ?_
        refine e_iload dX11_sure_50 rfl ?_
        refine e_iconst dX11_sure_52 (v := ((-1) : Int32)) (by decide) ?_
        refine e_ixor dX11_sure_53 ?_
        refine e_iand dX11_sure_54 ?_
        refine e_istore_n dX11_sure_55 (by decide) (LS1 := [_, _, _, _, _, _]) rfl ?_
        refine e_iinc dX11_sure_56 rfl (v := _ + 1) rfl (by decide) (LS1 := [_, _, _, _, _, _]) rfl ?_
        refine e_iinc dX11_sure_59 rfl (v := _ + 1) rfl (by decide) (LS1 := [_, _, _, _, _, _]) rfl ?_
        refine e_goto dX11_sure_62 (tgt := 29) (by decide) ?_
        exact ih (v2 &&& v5) (v3 &&& (v5 ^^^ ((-1) : Int32))) (v4 + 1) (v5 + 1)

set_option maxRecDepth 100000 in
set_option maxHeartbeats 4000000 in
theorem s_X11_sure {l : Launch} {g : am_G} {B : am_M} {pl : Nat} (hL : am_Lay B pl)   (u : am_U) : am_E l g d_X11_sure 0 (am_ent d_X11_sure [.ref (60)]) [] (am_of B u) (am_r (am_bI B) (f_X11_sure u)) := by
  unfold f_X11_sure
  show am_E l g d_X11_sure 0 [some (.ref (60)), none, none, none, none, none] [] (am_of B u) _
  refine e_aload_n dX11_sure_0 rfl ?_
  refine q_getI dX11_sure_1 lf_M_184 (by decide) (am_Lk hL rfl) ?_
  refine e_if_ne dX11_sure_4 (tgt := 10) (by decide) ?_ ?_
  · refine e_iconst dX11_sure_10 (v := 1) (by decide) ?_
    refine e_aload_n dX11_sure_11 rfl ?_
    refine q_getI dX11_sure_12 lf_M_184 (by decide) (am_Lk hL rfl) ?_
    refine e_ishl dX11_sure_15 ?_
    refine e_iconst dX11_sure_16 (v := 1) (by decide) ?_
    refine e_isub dX11_sure_17 ?_
    refine e_istore_n dX11_sure_18 (by decide) (LS1 := [_, _, none, none, none, none]) rfl ?_
    refine e_iload_n dX11_sure_19 rfl ?_
    refine e_istore_n dX11_sure_20 (by decide) (LS1 := [_, _, _, none, none, none]) rfl ?_
    refine e_iload_n dX11_sure_21 rfl ?_
    refine e_istore_n dX11_sure_22 (by decide) (LS1 := [_, _, _, _, none, none]) rfl ?_
    refine e_iconst dX11_sure_23 (v := 0) (by decide) ?_
    refine e_istore dX11_sure_24 (by decide) (LS1 := [_, _, _, _, _, none]) rfl ?_
    refine e_iconst dX11_sure_26 (v := 0) (by decide) ?_
    refine e_istore dX11_sure_27 (by decide) (LS1 := [_, _, _, _, _, _]) rfl ?_
    refine s_X11_sure_29 hL _ _ _ (fun c4v2 c4v3 c4v4 => ?_) _ _ _ _ _
    · refine e_iload dX11_sure_65 rfl ?_
      refine e_if_ne dX11_sure_67 (tgt := 78) (by decide) ?_ ?_
      · refine e_aload_n dX11_sure_78 rfl ?_
        refine e_iload_n dX11_sure_79 rfl ?_
        refine e_iload_n dX11_sure_80 rfl ?_
        refine q_callVI (As := [_, _]) rfl dX11_sure_81 lm_M_125 (am_fitB rfl) yo_X11_tells ys_X11_tells rfl rfl (by decide) (am_Lk hL rfl) rfl (Nat.le_of_ble_eq_true rfl) (Nat.le_of_ble_eq_true rfl) (s_X11_tells hL _ _  _) (fun q5 => ?_)
        exact e_iret dX11_sure_84 rfl rfl
      · refine e_aload_n dX11_sure_70 rfl ?_
        refine e_iconst dX11_sure_71 (v := 4) (by decide) ?_
        refine q_callVI (As := [_]) rfl dX11_sure_72 lm_M_117 (am_fitB rfl) yo_X11_meets ys_X11_meets rfl rfl (by decide) (am_Lk hL rfl) rfl (Nat.le_of_ble_eq_true rfl) (Nat.le_of_ble_eq_true rfl) (s_X11_meets hL _  _) (fun q6 => ?_)
        refine e_goto dX11_sure_75 (tgt := 84) (by decide) ?_
        exact e_iret dX11_sure_84 rfl rfl
  · refine e_bipush dX11_sure_7 (v := ((-4) : Int32)) (by decide) ?_
    exact e_iret dX11_sure_9 rfl rfl

def f_X5_hoursBrought (a0 : Nat) (a1 : Int32) (a2 : Int32) (u : am_U) : Option (Int32) :=
  am_ck (am_ix a1 6) (
  (f_X5_lightBrought a0 a1 a2 u).bind (fun q2 =>
  (f_X2_hours (u (a0 + 3) a1.toNatClampNeg) q2).bind (fun q3 =>
  some q3)))
set_option maxRecDepth 100000 in
set_option maxHeartbeats 4000000 in
theorem s_X5_hoursBrought {l : Launch} {g : am_G} {B : am_M} {pl : Nat} (hL : am_Lay B pl) (a0 : Nat) (a1 : Int32) (a2 : Int32) (h0 : am_isPlan B a0) (u : am_U) : am_E l g d_X5_hoursBrought 0 (am_ent d_X5_hoursBrought [.ref (a0), .int (a1), .int (a2)]) [] (am_of B u) (am_r (am_bP B u) (f_X5_hoursBrought a0 a1 a2 u)) := by
  unfold f_X5_hoursBrought
  show am_E l g d_X5_hoursBrought 0 [some (.ref (a0)), some (.int (a1)), some (.int (a2))] [] (am_of B u) _
  refine e_aload_n dX5_hoursBrought_0 rfl ?_
  refine q_getR (r := a0 + 3) dX5_hoursBrought_1 lf_Plan_18 rfl (by decide) (congrArg Prod.fst h0.1) (am_avs h0.2.1.2.2.1) ?_
  refine e_iload_n dX5_hoursBrought_4 rfl ?_
  refine q_ialdH dX5_hoursBrought_5 h0.2.2.2.2.1 (fun i1 => ?_)
  refine e_aload_n dX5_hoursBrought_6 rfl ?_
  refine e_iload_n dX5_hoursBrought_7 rfl ?_
  refine e_iload_n dX5_hoursBrought_8 rfl ?_
  refine q_callVP (As := [_, _]) rfl dX5_hoursBrought_9 lm_Plan_41 (am_fitB rfl) yo_X5_lightBrought ys_X5_lightBrought rfl rfl (by decide) (congrArg Prod.fst h0.1) rfl (Nat.le_of_ble_eq_true rfl) (Nat.le_of_ble_eq_true rfl) (s_X5_lightBrought hL _ _ _ h0 _) (fun q2 => ?_)
  refine q_callSP (As := [_, _]) rfl dX5_hoursBrought_12 lm_Plan_45 (am_fitB rfl) yo_X2_hours ys_X2_hours rfl (Nat.le_of_ble_eq_true rfl) (Nat.le_of_ble_eq_true rfl) (s_X2_hours hL _ _  _) (fun q3 => ?_)
  exact e_iret dX5_hoursBrought_15 rfl rfl

def f_X6_explore_31 (v0 : Nat) : Nat → Int32 → am_U → Option (am_U)
  | 0, _, _ => none
  | n + 1, v4, u =>
    if (u v0 7) ≤ v4 then (
      some u)
    else (
      if 9261 ≤ v4 then (
        some u)
      else (
        (f_X6_pourFrom v0 v4 u).bind (fun q5 =>
        f_X6_explore_31 v0 n (v4 + 1) q5)))
def f_X6_explore (a0 : Nat) (a1 : Nat) (a3 : Int32) (u : am_U) : Option (am_U) :=
  let u1 : am_U := am_w u a0 5 ((u a0 5) + 1)
  let u2 : am_U := am_w u1 a0 7 0
  (f_X6_gather a0 a1 a3 u2).bind (fun q3 =>
  (f_X6_comeTo a0 q3.1 0 0 q3.2).bind (fun q4 =>
  f_X6_explore_31 a0 20000 0 q4))
set_option maxRecDepth 100000 in
set_option maxHeartbeats 4000000 in
theorem s_X6_explore_31 {l : Launch} {g : am_G} {B : am_M} {pl : Nat} (hL : am_Lay B pl) (v0 : Nat) (hv0 : am_isPour B v0)   : ∀ (n : Nat) (v4 : Int32) (u : am_U), am_E l g d_X6_explore 31 [some (.ref (v0)), none, none, none, some (.int (v4))] [] (am_of B u) (am_r (am_bV B) (f_X6_explore_31 v0 n v4 u)) := by
  intro n
  induction n with
  | zero => intro v4 u; exact am_none
  | succ n ih =>
    intro v4 u
    unfold f_X6_explore_31
    refine e_iload dX6_explore_31 rfl ?_
    refine e_aload_n dX6_explore_33 rfl ?_
    refine q_getI dX6_explore_34 lf_Pourings_31 (by decide) (congrArg Prod.fst hv0.1) ?_
    refine e_if2_ge dX6_explore_37 (tgt := 60) (by decide) ?_ ?_
    · exact e_vret dX6_explore_60 rfl rfl
    · refine e_iload dX6_explore_40 rfl ?_
      refine e_sipush dX6_explore_42 (v := 9261) (by decide) ?_
      refine e_if2_ge dX6_explore_45 (tgt := 60) (by decide) ?_ ?_
      · exact e_vret dX6_explore_60 rfl rfl
      · refine e_aload_n dX6_explore_48 rfl ?_
        refine e_iload dX6_explore_49 rfl ?_
        refine q_callVV (As := [_]) rfl dX6_explore_51 lm_Pourings_42 (am_fitB rfl) yo_X6_pourFrom ys_X6_pourFrom rfl rfl (by decide) (congrArg Prod.fst hv0.1) rfl (Nat.le_of_ble_eq_true rfl) (Nat.le_of_ble_eq_true rfl) (s_X6_pourFrom hL _ _ hv0 _) (fun q5 => ?_)
        refine e_iinc dX6_explore_54 rfl (v := _ + 1) rfl (by decide) (LS1 := [_, none, none, none, _]) rfl ?_
        refine e_goto dX6_explore_57 (tgt := 31) (by decide) ?_
        exact ih (v4 + 1) q5

set_option maxRecDepth 100000 in
set_option maxHeartbeats 4000000 in
theorem s_X6_explore {l : Launch} {g : am_G} {B : am_M} {pl : Nat} (hL : am_Lay B pl) (a0 : Nat) (a1 : Nat) (a3 : Int32) (h0 : am_isPour B a0) (h1 : am_isPlan B a1) (u : am_U) : am_E l g d_X6_explore 0 (am_ent d_X6_explore [.ref (a0), .ref (a1), .ref (8), .int (a3)]) [] (am_of B u) (am_r (am_bV B) (f_X6_explore a0 a1 a3 u)) := by
  unfold f_X6_explore
  show am_E l g d_X6_explore 0 [some (.ref (a0)), some (.ref (a1)), some (.ref (8)), some (.int (a3)), none] [] (am_of B u) _
  refine e_aload_n dX6_explore_0 rfl ?_
  refine e_dup dX6_explore_1 rfl ?_
  refine q_getI dX6_explore_2 lf_Pourings_27 (by decide) (congrArg Prod.fst h0.1) ?_
  refine e_iconst dX6_explore_5 (v := 1) (by decide) ?_
  refine e_iadd dX6_explore_6 ?_
  refine q_putI dX6_explore_7 lf_Pourings_27 rfl (by decide) (congrArg Prod.fst h0.1) ?_
  refine e_aload_n dX6_explore_10 rfl ?_
  refine e_iconst dX6_explore_11 (v := 0) (by decide) ?_
  refine q_putI dX6_explore_12 lf_Pourings_31 rfl (by decide) (congrArg Prod.fst h0.1) ?_
  refine e_aload_n dX6_explore_15 rfl ?_
  refine e_aload_n dX6_explore_16 rfl ?_
  refine e_aload_n dX6_explore_17 rfl ?_
  refine e_aload_n dX6_explore_18 rfl ?_
  refine e_iload_n dX6_explore_19 rfl ?_
  refine q_callVI (As := [_, _, _]) rfl dX6_explore_20 lm_Pourings_34 (am_fitB rfl) yo_X6_gather ys_X6_gather rfl rfl (by decide) (congrArg Prod.fst h0.1) rfl (Nat.le_of_ble_eq_true rfl) (Nat.le_of_ble_eq_true rfl) (s_X6_gather hL _ _ _ h0 h1 _) (fun q3 => ?_)
  refine e_iconst dX6_explore_23 (v := 0) (by decide) ?_
  refine e_iconst dX6_explore_24 (v := 0) (by decide) ?_
  refine q_callVV (As := [_, _, _]) rfl dX6_explore_25 lm_Pourings_38 (am_fitB rfl) yo_X6_comeTo ys_X6_comeTo rfl rfl (by decide) (congrArg Prod.fst h0.1) rfl (Nat.le_of_ble_eq_true rfl) (Nat.le_of_ble_eq_true rfl) (s_X6_comeTo hL _ _ _ _ h0 _) (fun q4 => ?_)
  refine e_iconst dX6_explore_28 (v := 0) (by decide) ?_
  refine e_istore dX6_explore_29 (by decide) (LS1 := [_, _, _, _, _]) rfl ?_
  refine e_msk [true, false, false, false, true] (LS1 := [_, none, none, none, _]) rfl ?_
  refine s_X6_explore_31 hL _ h0 _ _ _

def f_X6_leastSpilt_13 (u : am_U) (v0 : Nat) (v2 : Int32) (v3 : Int32) : Nat → Int32 → Int32 → Option (Int32)
  | 0, _, _ => none
  | n + 1, v4, v5 =>
    if (u v0 7) ≤ v5 then (
      some v4)
    else (
      am_ck (am_ix v5 9261) (
      (f_X6_held (u (v0 + 1) v5.toNatClampNeg) v3 u).bind (fun q3 =>
      if ¬ q3 = v2 then (
        f_X6_leastSpilt_13 u v0 v2 v3 n v4 (v5 + 1))
      else (
        am_jn (fun (j4z : Unit) =>
          (f_X6_spilt v0 v5 u).bind (fun q5 =>
          f_X6_leastSpilt_13 u v0 v2 v3 n q5 (v5 + 1))) (fun j4 =>
        if v4 = ((-9) : Int32) then (
          j4 () )
        else (
          (f_X6_spilt v0 v5 u).bind (fun q6 =>
          if v4 ≤ q6 then (
            f_X6_leastSpilt_13 u v0 v2 v3 n v4 (v5 + 1))
          else (
            j4 () ))))))))
def f_X6_leastSpilt (a0 : Nat) (a1 : Int32) (a2 : Int32) (u : am_U) : Option (Int32) :=
  (f_X6_slotOf a0 a1 u).bind (fun q1 =>
  f_X6_leastSpilt_13 u a0 a2 q1 20000 ((-9) : Int32) 0)
set_option maxRecDepth 100000 in
set_option maxHeartbeats 4000000 in
theorem s_X6_leastSpilt_13 {l : Launch} {g : am_G} {B : am_M} {pl : Nat} (hL : am_Lay B pl) (u : am_U) (v0 : Nat) (v2 : Int32) (v3 : Int32) (hv0 : am_isPour B v0)   : ∀ (n : Nat) (v4 : Int32) (v5 : Int32), am_E l g d_X6_leastSpilt 13 [some (.ref (v0)), none, some (.int (v2)), some (.int (v3)), some (.int (v4)), some (.int (v5))] [] (am_of B u) (am_r (am_bP B u) (f_X6_leastSpilt_13 u v0 v2 v3 n v4 v5)) := by
  intro n
  induction n with
  | zero => intro v4 v5; exact am_none
  | succ n ih =>
    intro v4 v5
    unfold f_X6_leastSpilt_13
    refine e_iload dX6_leastSpilt_13 rfl ?_
    refine e_aload_n dX6_leastSpilt_15 rfl ?_
    refine q_getI dX6_leastSpilt_16 lf_Pourings_31 (by decide) (congrArg Prod.fst hv0.1) ?_
    refine e_if2_ge dX6_leastSpilt_19 (tgt := 69) (by decide) ?_ ?_
    · refine e_iload dX6_leastSpilt_69 rfl ?_
      exact e_iret dX6_leastSpilt_71 rfl rfl
    · refine e_aload_n dX6_leastSpilt_22 rfl ?_
      refine q_getR (r := v0 + 1) dX6_leastSpilt_23 lf_Pourings_11 rfl (by decide) (congrArg Prod.fst hv0.1) (am_avs hv0.2.1.1) ?_
      refine e_iload dX6_leastSpilt_26 rfl ?_
      refine q_ialdH dX6_leastSpilt_28 hv0.2.2.1 (fun i2 => ?_)
      refine e_iload_n dX6_leastSpilt_29 rfl ?_
      refine q_callSP (As := [_, _]) rfl dX6_leastSpilt_30 lm_Pourings_50 (am_fitB rfl) yo_X6_held ys_X6_held rfl (Nat.le_of_ble_eq_true rfl) (Nat.le_of_ble_eq_true rfl) (s_X6_held hL _ _  _) (fun q3 => ?_)
      refine e_iload_n dX6_leastSpilt_33 rfl ?_
      refine e_if2_ne dX6_leastSpilt_34 (tgt := 63) (by decide) ?_ ?_
      · refine e_iinc dX6_leastSpilt_63 rfl (v := _ + 1) rfl (by decide) (LS1 := [_, none, _, _, _, _]) rfl ?_
        refine e_goto dX6_leastSpilt_66 (tgt := 13) (by decide) ?_
        exact ih v4 (v5 + 1)
      · refine e_iload dX6_leastSpilt_37 rfl ?_
        refine e_bipush dX6_leastSpilt_39 (v := ((-9) : Int32)) (by decide) ?_
        refine e_jn (P := fun t : Unit → Option (Int32) => ∀ (j4z : Unit), am_E l g d_X6_leastSpilt 55 [some (.ref (v0)), none, some (.int (v2)), some (.int (v3)), none, some (.int (v5))] [] (am_of B u) (am_r (am_bP B u) (t j4z))) ?_ (fun j4 hj4 => ?_)
        · intro j4z
          refine e_aload_n dX6_leastSpilt_55 rfl ?_
          refine e_iload dX6_leastSpilt_56 rfl ?_
          refine q_callVP (As := [_]) rfl dX6_leastSpilt_58 lm_Pourings_66 (am_fitB rfl) yo_X6_spilt ys_X6_spilt rfl rfl (by decide) (congrArg Prod.fst hv0.1) rfl (Nat.le_of_ble_eq_true rfl) (Nat.le_of_ble_eq_true rfl) (s_X6_spilt hL _ _ hv0 _) (fun q5 => ?_)
          refine e_istore dX6_leastSpilt_61 (by decide) (LS1 := [_, none, _, _, _, _]) rfl ?_
          refine e_iinc dX6_leastSpilt_63 rfl (v := _ + 1) rfl (by decide) (LS1 := [_, none, _, _, _, _]) rfl ?_
          refine e_goto dX6_leastSpilt_66 (tgt := 13) (by decide) ?_
          exact ih q5 (v5 + 1)
        · refine e_if2_eq dX6_leastSpilt_41 (tgt := 55) (by decide) ?_ ?_
          · refine e_msk [true, false, true, true, false, true] (LS1 := [_, none, _, _, none, _]) rfl ?_
            exact hj4 () 
          · refine e_aload_n dX6_leastSpilt_44 rfl ?_
            refine e_iload dX6_leastSpilt_45 rfl ?_
            refine q_callVP (As := [_]) rfl dX6_leastSpilt_47 lm_Pourings_66 (am_fitB rfl) yo_X6_spilt ys_X6_spilt rfl rfl (by decide) (congrArg Prod.fst hv0.1) rfl (Nat.le_of_ble_eq_true rfl) (Nat.le_of_ble_eq_true rfl) (s_X6_spilt hL _ _ hv0 _) (fun q6 => ?_)
            refine e_iload dX6_leastSpilt_50 rfl ?_
            refine e_if2_ge dX6_leastSpilt_52 (tgt := 63) (by decide) ?_ ?_
            · refine e_iinc dX6_leastSpilt_63 rfl (v := _ + 1) rfl (by decide) (LS1 := [_, none, _, _, _, _]) rfl ?_
              refine e_goto dX6_leastSpilt_66 (tgt := 13) (by decide) ?_
              exact ih v4 (v5 + 1)
            · refine e_msk [true, false, true, true, false, true] (LS1 := [_, none, _, _, none, _]) rfl ?_
              exact hj4 () 

set_option maxRecDepth 100000 in
set_option maxHeartbeats 4000000 in
theorem s_X6_leastSpilt {l : Launch} {g : am_G} {B : am_M} {pl : Nat} (hL : am_Lay B pl) (a0 : Nat) (a1 : Int32) (a2 : Int32) (h0 : am_isPour B a0) (u : am_U) : am_E l g d_X6_leastSpilt 0 (am_ent d_X6_leastSpilt [.ref (a0), .int (a1), .int (a2)]) [] (am_of B u) (am_r (am_bP B u) (f_X6_leastSpilt a0 a1 a2 u)) := by
  unfold f_X6_leastSpilt
  show am_E l g d_X6_leastSpilt 0 [some (.ref (a0)), some (.int (a1)), some (.int (a2)), none, none, none] [] (am_of B u) _
  refine e_aload_n dX6_leastSpilt_0 rfl ?_
  refine e_iload_n dX6_leastSpilt_1 rfl ?_
  refine q_callVP (As := [_]) rfl dX6_leastSpilt_2 lm_Pourings_46 (am_fitB rfl) yo_X6_slotOf ys_X6_slotOf rfl rfl (by decide) (congrArg Prod.fst h0.1) rfl (Nat.le_of_ble_eq_true rfl) (Nat.le_of_ble_eq_true rfl) (s_X6_slotOf hL _ _ h0 _) (fun q1 => ?_)
  refine e_istore_n dX6_leastSpilt_5 (by decide) (LS1 := [_, _, _, _, none, none]) rfl ?_
  refine e_bipush dX6_leastSpilt_6 (v := ((-9) : Int32)) (by decide) ?_
  refine e_istore dX6_leastSpilt_8 (by decide) (LS1 := [_, _, _, _, _, none]) rfl ?_
  refine e_iconst dX6_leastSpilt_10 (v := 0) (by decide) ?_
  refine e_istore dX6_leastSpilt_11 (by decide) (LS1 := [_, _, _, _, _, _]) rfl ?_
  refine e_msk [true, false, true, true, true, true] (LS1 := [_, none, _, _, _, _]) rfl ?_
  refine s_X6_leastSpilt_13 hL _ _ _ _ h0 _ _ _

def f_X7_readJar (tx : Nat) (a1 : Nat) (a2 : Int32) (u : am_U) : Option (Int32 × am_U) :=
  (f_X7_sign tx u).bind (fun q1 =>
  (f_X2_byLetter q1).bind (fun q2 =>
  if ¬ q2 = ((-9) : Int32) then (
    let u3 : am_U := am_w u 7 1 ((u 7 1) + 1)
    (f_X7_figure tx u3).bind (fun q4 =>
    if ¬ q4 = ((-9) : Int32) then (
      let u5 : am_U := am_w u3 7 1 ((u3 7 1) + 1)
      (f_X7_figure tx u5).bind (fun q6 =>
      am_jn (fun (j7v4 : Int32) (j7u : am_U) =>
        (f_X10_isWithin j7v4 1 20).bind (fun q8 =>
        if ¬ q8 = 0 then (
          am_ck (am_ix a2 6) (
          let u9 : am_U := am_w j7u (a1 + 3) a2.toNatClampNeg q2
          let u11 : am_U := am_w u9 (a1 + 4) a2.toNatClampNeg j7v4
          some (1, u11)))
        else (
          some (0, j7u)))) (fun j7 =>
      if q6 = ((-9) : Int32) then (
        j7 q4 u5)
      else (
        (f_X7_figure tx u5).bind (fun q12 =>
        let u13 : am_U := am_w u5 7 1 ((u5 7 1) + 1)
        j7 ((10 * q4) + q12) u13)))))
    else (
      some (0, u3))))
  else (
    some (0, u))))
set_option maxRecDepth 100000 in
set_option maxHeartbeats 4000000 in
theorem s_X7_readJar {l : Launch} {g : am_G} {B : am_M} {pl : Nat} (hL : am_Lay B pl) {tx : Nat} (htx : am_av (am_ro B 7 0) = .ref tx) (hT : am_isRow B tx) (a1 : Nat) (a2 : Int32) (h1 : am_isPlan B a1) (u : am_U) : am_E l g d_X7_readJar 0 (am_ent d_X7_readJar [.ref (7), .ref (a1), .int (a2)]) [] (am_of B u) (am_r (am_bI B) (f_X7_readJar tx a1 a2 u)) := by
  unfold f_X7_readJar
  show am_E l g d_X7_readJar 0 [some (.ref (7)), some (.ref (a1)), some (.int (a2)), none, none] [] (am_of B u) _
  refine e_aload_n dX7_readJar_0 rfl ?_
  refine q_callVP (As := []) rfl dX7_readJar_1 lm_Reader_65 (am_fitB rfl) yo_X7_sign ys_X7_sign rfl rfl (by decide) (am_Lk hL rfl) rfl (Nat.le_of_ble_eq_true rfl) (Nat.le_of_ble_eq_true rfl) (s_X7_sign hL htx hT   _) (fun q1 => ?_)
  refine q_callSP (As := [_]) rfl dX7_readJar_4 lm_Reader_72 (am_fitB rfl) yo_X2_byLetter ys_X2_byLetter rfl (Nat.le_of_ble_eq_true rfl) (Nat.le_of_ble_eq_true rfl) (s_X2_byLetter hL _  _) (fun q2 => ?_)
  refine e_istore_n dX7_readJar_7 (by decide) (LS1 := [_, _, _, _, none]) rfl ?_
  refine e_iload_n dX7_readJar_8 rfl ?_
  refine e_bipush dX7_readJar_9 (v := ((-9) : Int32)) (by decide) ?_
  refine e_if2_ne dX7_readJar_11 (tgt := 16) (by decide) ?_ ?_
  · refine e_aload_n dX7_readJar_16 rfl ?_
    refine e_dup dX7_readJar_17 rfl ?_
    refine q_getI dX7_readJar_18 lf_Reader_15 (by decide) (am_Lk hL rfl) ?_
    refine e_iconst dX7_readJar_21 (v := 1) (by decide) ?_
    refine e_iadd dX7_readJar_22 ?_
    refine q_putI dX7_readJar_23 lf_Reader_15 rfl (by decide) (am_Lk hL rfl) ?_
    refine e_aload_n dX7_readJar_26 rfl ?_
    refine q_callVP (As := []) rfl dX7_readJar_27 lm_Reader_36 (am_fitB rfl) yo_X7_figure ys_X7_figure rfl rfl (by decide) (am_Lk hL rfl) rfl (Nat.le_of_ble_eq_true rfl) (Nat.le_of_ble_eq_true rfl) (s_X7_figure hL htx hT   _) (fun q4 => ?_)
    refine e_istore dX7_readJar_30 (by decide) (LS1 := [_, _, _, _, _]) rfl ?_
    refine e_iload dX7_readJar_32 rfl ?_
    refine e_bipush dX7_readJar_34 (v := ((-9) : Int32)) (by decide) ?_
    refine e_if2_ne dX7_readJar_36 (tgt := 41) (by decide) ?_ ?_
    · refine e_aload_n dX7_readJar_41 rfl ?_
      refine e_dup dX7_readJar_42 rfl ?_
      refine q_getI dX7_readJar_43 lf_Reader_15 (by decide) (am_Lk hL rfl) ?_
      refine e_iconst dX7_readJar_46 (v := 1) (by decide) ?_
      refine e_iadd dX7_readJar_47 ?_
      refine q_putI dX7_readJar_48 lf_Reader_15 rfl (by decide) (am_Lk hL rfl) ?_
      refine e_aload_n dX7_readJar_51 rfl ?_
      refine q_callVP (As := []) rfl dX7_readJar_52 lm_Reader_36 (am_fitB rfl) yo_X7_figure ys_X7_figure rfl rfl (by decide) (am_Lk hL rfl) rfl (Nat.le_of_ble_eq_true rfl) (Nat.le_of_ble_eq_true rfl) (s_X7_figure hL htx hT   _) (fun q6 => ?_)
      refine e_bipush dX7_readJar_55 (v := ((-9) : Int32)) (by decide) ?_
      refine e_jn (P := fun t : Int32 → am_U → Option (Int32 × am_U) => ∀ (j7v4 : Int32) (j7u : am_U), am_E l g d_X7_readJar 82 [none, some (.ref (a1)), some (.int (a2)), some (.int (q2)), some (.int (j7v4))] [] (am_of B j7u) (am_r (am_bI B) (t j7v4 j7u))) ?_ (fun j7 hj7 => ?_)
      · intro j7v4 j7u
        refine e_iload dX7_readJar_82 rfl ?_
        refine e_iconst dX7_readJar_84 (v := 1) (by decide) ?_
        refine e_bipush dX7_readJar_85 (v := 20) (by decide) ?_
        refine q_callSP (As := [_, _, _]) rfl dX7_readJar_87 lm_Reader_40 (am_fitB rfl) yo_X10_isWithin ys_X10_isWithin rfl (Nat.le_of_ble_eq_true rfl) (Nat.le_of_ble_eq_true rfl) (s_X10_isWithin hL _ _ _  _) (fun q8 => ?_)
        refine e_if_ne dX7_readJar_90 (tgt := 95) (by decide) ?_ ?_
        · refine e_aload_n dX7_readJar_95 rfl ?_
          refine q_getR (r := a1 + 3) dX7_readJar_96 lf_Reader_78 rfl (by decide) (congrArg Prod.fst h1.1) (am_avs h1.2.1.2.2.1) ?_
          refine e_iload_n dX7_readJar_99 rfl ?_
          refine e_iload_n dX7_readJar_100 rfl ?_
          refine q_iastH dX7_readJar_101 h1.2.2.2.2.1 (fun i10 => ?_)
          refine e_aload_n dX7_readJar_102 rfl ?_
          refine q_getR (r := a1 + 4) dX7_readJar_103 lf_Reader_81 rfl (by decide) (congrArg Prod.fst h1.1) (am_avs h1.2.1.2.2.2) ?_
          refine e_iload_n dX7_readJar_106 rfl ?_
          refine e_iload dX7_readJar_107 rfl ?_
          refine q_iastC (jn := _) dX7_readJar_109 h1.2.2.2.2.2 i10 rfl ?_
          refine e_iconst dX7_readJar_110 (v := 1) (by decide) ?_
          exact e_zret dX7_readJar_111 rfl rfl (Or.inr rfl)
        · refine e_iconst dX7_readJar_93 (v := 0) (by decide) ?_
          exact e_zret dX7_readJar_94 rfl rfl (Or.inl rfl)
      · refine e_if2_eq dX7_readJar_57 (tgt := 82) (by decide) ?_ ?_
        · refine e_msk [false, true, true, true, true] (LS1 := [none, _, _, _, _]) rfl ?_
          exact hj7 q4 (am_w (am_w u 7 1 ((u 7 1) + 1)) 7 1 (((am_w u 7 1 ((u 7 1) + 1)) 7 1) + 1))
        · refine e_bipush dX7_readJar_60 (v := 10) (by decide) ?_
          refine e_iload dX7_readJar_62 rfl ?_
          refine e_imul dX7_readJar_64 ?_
          refine e_aload_n dX7_readJar_65 rfl ?_
          refine q_callVP (As := []) rfl dX7_readJar_66 lm_Reader_36 (am_fitB rfl) yo_X7_figure ys_X7_figure rfl rfl (by decide) (am_Lk hL rfl) rfl (Nat.le_of_ble_eq_true rfl) (Nat.le_of_ble_eq_true rfl) (s_X7_figure hL htx hT   _) (fun q12 => ?_)
          refine e_iadd dX7_readJar_69 ?_
          refine e_istore dX7_readJar_70 (by decide) (LS1 := [_, _, _, _, _]) rfl ?_
          refine e_aload_n dX7_readJar_72 rfl ?_
          refine e_dup dX7_readJar_73 rfl ?_
          refine q_getI dX7_readJar_74 lf_Reader_15 (by decide) (am_Lk hL rfl) ?_
          refine e_iconst dX7_readJar_77 (v := 1) (by decide) ?_
          refine e_iadd dX7_readJar_78 ?_
          refine q_putI dX7_readJar_79 lf_Reader_15 rfl (by decide) (am_Lk hL rfl) ?_
          refine e_msk [false, true, true, true, true] (LS1 := [none, _, _, _, _]) rfl ?_
          exact hj7 ((10 * q4) + q12) (am_w (am_w (am_w u 7 1 ((u 7 1) + 1)) 7 1 (((am_w u 7 1 ((u 7 1) + 1)) 7 1) + 1)) 7 1 (((am_w (am_w u 7 1 ((u 7 1) + 1)) 7 1 (((am_w u 7 1 ((u 7 1) + 1)) 7 1) + 1)) 7 1) + 1))
    · refine e_iconst dX7_readJar_39 (v := 0) (by decide) ?_
      exact e_zret dX7_readJar_40 rfl rfl (Or.inl rfl)
  · refine e_iconst dX7_readJar_14 (v := 0) (by decide) ?_
    exact e_zret dX7_readJar_15 rfl rfl (Or.inl rfl)

def f_X7_readLetter (tx : Nat) (a1 : Int32) (u : am_U) : Option (Int32 × am_U) :=
  (f_X7_skipBlanks tx u).bind (fun q1 =>
  (f_X7_sign tx q1).bind (fun q2 =>
  if q2 = a1 then (
    let u3 : am_U := am_w q1 7 1 ((q1 7 1) + 1)
    some (1, u3))
  else (
    some (0, q1))))
set_option maxRecDepth 100000 in
set_option maxHeartbeats 4000000 in
theorem s_X7_readLetter {l : Launch} {g : am_G} {B : am_M} {pl : Nat} (hL : am_Lay B pl) {tx : Nat} (htx : am_av (am_ro B 7 0) = .ref tx) (hT : am_isRow B tx) (a1 : Int32)  (u : am_U) : am_E l g d_X7_readLetter 0 (am_ent d_X7_readLetter [.ref (7), .int (a1)]) [] (am_of B u) (am_r (am_bI B) (f_X7_readLetter tx a1 u)) := by
  unfold f_X7_readLetter
  show am_E l g d_X7_readLetter 0 [some (.ref (7)), some (.int (a1))] [] (am_of B u) _
  refine e_aload_n dX7_readLetter_0 rfl ?_
  refine q_callVV (As := []) rfl dX7_readLetter_1 lm_Reader_62 (am_fitB rfl) yo_X7_skipBlanks ys_X7_skipBlanks rfl rfl (by decide) (am_Lk hL rfl) rfl (Nat.le_of_ble_eq_true rfl) (Nat.le_of_ble_eq_true rfl) (s_X7_skipBlanks hL htx hT   _) (fun q1 => ?_)
  refine e_aload_n dX7_readLetter_4 rfl ?_
  refine q_callVP (As := []) rfl dX7_readLetter_5 lm_Reader_65 (am_fitB rfl) yo_X7_sign ys_X7_sign rfl rfl (by decide) (am_Lk hL rfl) rfl (Nat.le_of_ble_eq_true rfl) (Nat.le_of_ble_eq_true rfl) (s_X7_sign hL htx hT   _) (fun q2 => ?_)
  refine e_iload_n dX7_readLetter_8 rfl ?_
  refine e_if2_eq dX7_readLetter_9 (tgt := 14) (by decide) ?_ ?_
  · refine e_aload_n dX7_readLetter_14 rfl ?_
    refine e_dup dX7_readLetter_15 rfl ?_
    refine q_getI dX7_readLetter_16 lf_Reader_15 (by decide) (am_Lk hL rfl) ?_
    refine e_iconst dX7_readLetter_19 (v := 1) (by decide) ?_
    refine e_iadd dX7_readLetter_20 ?_
    refine q_putI dX7_readLetter_21 lf_Reader_15 rfl (by decide) (am_Lk hL rfl) ?_
    refine e_iconst dX7_readLetter_24 (v := 1) (by decide) ?_
    exact e_zret dX7_readLetter_25 rfl rfl (Or.inr rfl)
  · refine e_iconst dX7_readLetter_12 (v := 0) (by decide) ?_
    exact e_zret dX7_readLetter_13 rfl rfl (Or.inl rfl)

def f_X10_best_26 (pl : Nat) (u : am_U) (v1 : Int32) (k66 : Int32 → Option (Int32 × am_U)) : Nat → Int32 → Int32 → Option (Int32 × am_U)
  | 0, _, _ => none
  | n + 1, v2, v3 =>
    if (u pl 2) ≤ v3 then (
      k66 v2)
    else (
      (f_X5_hoursBrought pl v3 v1 u).bind (fun q2 =>
      (f_X5_hoursBrought pl v2 v1 u).bind (fun q3 =>
      if q2 ≤ q3 then (
        f_X10_best_26 pl u v1 k66 n v2 (v3 + 1))
      else (
        f_X10_best_26 pl u v1 k66 n v3 (v3 + 1)))))
def f_X10_best (pl : Nat) (a1 : Int32) (u : am_U) : Option (Int32 × am_U) :=
  (f_X10_isPlace a1).bind (fun q1 =>
  if ¬ q1 = 0 then (
    if ¬ (u pl 2) = 0 then (
      f_X10_best_26 pl u a1 (fun (c4v2 : Int32) =>
        (f_X5_hoursBrought pl c4v2 a1 u).bind (fun q5 =>
        (f_X10_tell c4v2 q5 u).bind (fun q6 =>
        some (q6.1, q6.2)))) 20000 0 1)
    else (
      some (((-4) : Int32), u)))
  else (
    some (((-1) : Int32), u)))
set_option maxRecDepth 100000 in
set_option maxHeartbeats 4000000 in
theorem s_X10_best_26 {l : Launch} {g : am_G} {B : am_M} {pl : Nat} (hL : am_Lay B pl) (u : am_U) (v1 : Int32)  (k66 : Int32 → Option (Int32 × am_U)) (hk66 : ∀ (v2 : Int32), am_E l g d_X10_best 66 [some (.ref (4)), some (.int (v1)), some (.int (v2)), none] [] (am_of B u) (am_r (am_bI B) (k66 v2))) : ∀ (n : Nat) (v2 : Int32) (v3 : Int32), am_E l g d_X10_best 26 [some (.ref (4)), some (.int (v1)), some (.int (v2)), some (.int (v3))] [] (am_of B u) (am_r (am_bI B) (f_X10_best_26 pl u v1 k66 n v2 v3)) := by
  intro n
  induction n with
  | zero => intro v2 v3; exact am_none
  | succ n ih =>
    intro v2 v3
    unfold f_X10_best_26
    refine e_iload_n dX10_best_26 rfl ?_
    refine e_aload_n dX10_best_27 rfl ?_
    refine q_getR (r := pl) dX10_best_28 lf_N_72 rfl (by decide) (am_Lk hL rfl) (am_Lpl hL) ?_
    refine q_getI dX10_best_31 lf_N_144 (by decide) (congrArg Prod.fst (am_pln hL).1) ?_
    refine e_if2_ge dX10_best_34 (tgt := 66) (by decide) ?_ ?_
    · refine e_msk [true, true, true, false] (LS1 := [_, _, _, none]) rfl ?_
      exact hk66 v2
    · refine e_aload_n dX10_best_37 rfl ?_
      refine q_getR (r := pl) dX10_best_38 lf_N_72 rfl (by decide) (am_Lk hL rfl) (am_Lpl hL) ?_
      refine e_iload_n dX10_best_41 rfl ?_
      refine e_iload_n dX10_best_42 rfl ?_
      refine q_callVP (As := [_, _]) rfl dX10_best_43 lm_N_238 (am_fitB rfl) yo_X5_hoursBrought ys_X5_hoursBrought rfl rfl (by decide) (congrArg Prod.fst (am_pln hL).1) rfl (Nat.le_of_ble_eq_true rfl) (Nat.le_of_ble_eq_true rfl) (s_X5_hoursBrought hL _ _ _ (am_pln hL) _) (fun q2 => ?_)
      refine e_aload_n dX10_best_46 rfl ?_
      refine q_getR (r := pl) dX10_best_47 lf_N_72 rfl (by decide) (am_Lk hL rfl) (am_Lpl hL) ?_
      refine e_iload_n dX10_best_50 rfl ?_
      refine e_iload_n dX10_best_51 rfl ?_
      refine q_callVP (As := [_, _]) rfl dX10_best_52 lm_N_238 (am_fitB rfl) yo_X5_hoursBrought ys_X5_hoursBrought rfl rfl (by decide) (congrArg Prod.fst (am_pln hL).1) rfl (Nat.le_of_ble_eq_true rfl) (Nat.le_of_ble_eq_true rfl) (s_X5_hoursBrought hL _ _ _ (am_pln hL) _) (fun q3 => ?_)
      refine e_if2_le dX10_best_55 (tgt := 60) (by decide) ?_ ?_
      · refine e_iinc dX10_best_60 rfl (v := _ + 1) rfl (by decide) (LS1 := [_, _, _, _]) rfl ?_
        refine e_goto dX10_best_63 (tgt := 26) (by decide) ?_
        exact ih v2 (v3 + 1)
      · refine e_iload_n dX10_best_58 rfl ?_
        refine e_istore_n dX10_best_59 (by decide) (LS1 := [_, _, _, _]) rfl ?_
        refine e_iinc dX10_best_60 rfl (v := _ + 1) rfl (by decide) (LS1 := [_, _, _, _]) rfl ?_
        refine e_goto dX10_best_63 (tgt := 26) (by decide) ?_
        exact ih v3 (v3 + 1)

set_option maxRecDepth 100000 in
set_option maxHeartbeats 4000000 in
theorem s_X10_best {l : Launch} {g : am_G} {B : am_M} {pl : Nat} (hL : am_Lay B pl) (a1 : Int32)  (u : am_U) : am_E l g d_X10_best 0 (am_ent d_X10_best [.ref (4), .int (a1)]) [] (am_of B u) (am_r (am_bI B) (f_X10_best pl a1 u)) := by
  unfold f_X10_best
  show am_E l g d_X10_best 0 [some (.ref (4)), some (.int (a1)), none, none] [] (am_of B u) _
  refine e_iload_n dX10_best_0 rfl ?_
  refine q_callSP (As := [_]) rfl dX10_best_1 lm_N_178 (am_fitB rfl) yo_X10_isPlace ys_X10_isPlace rfl (Nat.le_of_ble_eq_true rfl) (Nat.le_of_ble_eq_true rfl) (s_X10_isPlace hL _  _) (fun q1 => ?_)
  refine e_if_ne dX10_best_4 (tgt := 9) (by decide) ?_ ?_
  · refine e_aload_n dX10_best_9 rfl ?_
    refine q_getR (r := pl) dX10_best_10 lf_N_72 rfl (by decide) (am_Lk hL rfl) (am_Lpl hL) ?_
    refine q_getI dX10_best_13 lf_N_144 (by decide) (congrArg Prod.fst (am_pln hL).1) ?_
    refine e_if_ne dX10_best_16 (tgt := 22) (by decide) ?_ ?_
    · refine e_iconst dX10_best_22 (v := 0) (by decide) ?_
      refine e_istore_n dX10_best_23 (by decide) (LS1 := [_, _, _, none]) rfl ?_
      refine e_iconst dX10_best_24 (v := 1) (by decide) ?_
      refine e_istore_n dX10_best_25 (by decide) (LS1 := [_, _, _, _]) rfl ?_
      refine s_X10_best_26 hL _ _ _ (fun c4v2 => ?_) _ _ _
      · refine e_aload_n dX10_best_66 rfl ?_
        refine e_iload_n dX10_best_67 rfl ?_
        refine e_aload_n dX10_best_68 rfl ?_
        refine q_getR (r := pl) dX10_best_69 lf_N_72 rfl (by decide) (am_Lk hL rfl) (am_Lpl hL) ?_
        refine e_iload_n dX10_best_72 rfl ?_
        refine e_iload_n dX10_best_73 rfl ?_
        refine q_callVP (As := [_, _]) rfl dX10_best_74 lm_N_238 (am_fitB rfl) yo_X5_hoursBrought ys_X5_hoursBrought rfl rfl (by decide) (congrArg Prod.fst (am_pln hL).1) rfl (Nat.le_of_ble_eq_true rfl) (Nat.le_of_ble_eq_true rfl) (s_X5_hoursBrought hL _ _ _ (am_pln hL) _) (fun q5 => ?_)
        refine q_callVI (As := [_, _]) rfl dX10_best_77 lm_N_101 (am_fitB rfl) yo_X10_tell ys_X10_tell rfl rfl (by decide) (am_Lk hL rfl) rfl (Nat.le_of_ble_eq_true rfl) (Nat.le_of_ble_eq_true rfl) (s_X10_tell hL _ _  _) (fun q6 => ?_)
        exact e_iret dX10_best_80 rfl rfl
    · refine e_bipush dX10_best_19 (v := ((-4) : Int32)) (by decide) ?_
      exact e_iret dX10_best_21 rfl rfl
  · refine e_iconst dX10_best_7 (v := ((-1) : Int32)) (by decide) ?_
    exact e_iret dX10_best_8 rfl rfl

def f_X10_brings (pl : Nat) (a1 : Int32) (a2 : Int32) (u : am_U) : Option (Int32 × am_U) :=
  (f_X10_isJar pl a1 u).bind (fun q1 =>
  if q1 = 0 then (
    some (((-1) : Int32), u))
  else (
    (f_X10_isPlace a2).bind (fun q2 =>
    if ¬ q2 = 0 then (
      (f_X5_lightBrought pl a1 a2 u).bind (fun q3 =>
      (f_X5_hoursBrought pl a1 a2 u).bind (fun q4 =>
      (f_X10_tell q3 q4 u).bind (fun q5 =>
      some (q5.1, q5.2)))))
    else (
      some (((-1) : Int32), u)))))
set_option maxRecDepth 100000 in
set_option maxHeartbeats 4000000 in
theorem s_X10_brings {l : Launch} {g : am_G} {B : am_M} {pl : Nat} (hL : am_Lay B pl) (a1 : Int32) (a2 : Int32)  (u : am_U) : am_E l g d_X10_brings 0 (am_ent d_X10_brings [.ref (4), .int (a1), .int (a2)]) [] (am_of B u) (am_r (am_bI B) (f_X10_brings pl a1 a2 u)) := by
  unfold f_X10_brings
  show am_E l g d_X10_brings 0 [some (.ref (4)), some (.int (a1)), some (.int (a2))] [] (am_of B u) _
  refine e_aload_n dX10_brings_0 rfl ?_
  refine e_iload_n dX10_brings_1 rfl ?_
  refine q_callVP (As := [_]) rfl dX10_brings_2 lm_N_147 (am_fitB rfl) yo_X10_isJar ys_X10_isJar rfl rfl (by decide) (am_Lk hL rfl) rfl (Nat.le_of_ble_eq_true rfl) (Nat.le_of_ble_eq_true rfl) (s_X10_isJar hL _  _) (fun q1 => ?_)
  refine e_if_eq dX10_brings_5 (tgt := 15) (by decide) ?_ ?_
  · refine e_iconst dX10_brings_15 (v := ((-1) : Int32)) (by decide) ?_
    exact e_iret dX10_brings_16 rfl rfl
  · refine e_iload_n dX10_brings_8 rfl ?_
    refine q_callSP (As := [_]) rfl dX10_brings_9 lm_N_178 (am_fitB rfl) yo_X10_isPlace ys_X10_isPlace rfl (Nat.le_of_ble_eq_true rfl) (Nat.le_of_ble_eq_true rfl) (s_X10_isPlace hL _  _) (fun q2 => ?_)
    refine e_if_ne dX10_brings_12 (tgt := 17) (by decide) ?_ ?_
    · refine e_aload_n dX10_brings_17 rfl ?_
      refine e_aload_n dX10_brings_18 rfl ?_
      refine q_getR (r := pl) dX10_brings_19 lf_N_72 rfl (by decide) (am_Lk hL rfl) (am_Lpl hL) ?_
      refine e_iload_n dX10_brings_22 rfl ?_
      refine e_iload_n dX10_brings_23 rfl ?_
      refine q_callVP (As := [_, _]) rfl dX10_brings_24 lm_N_235 (am_fitB rfl) yo_X5_lightBrought ys_X5_lightBrought rfl rfl (by decide) (congrArg Prod.fst (am_pln hL).1) rfl (Nat.le_of_ble_eq_true rfl) (Nat.le_of_ble_eq_true rfl) (s_X5_lightBrought hL _ _ _ (am_pln hL) _) (fun q3 => ?_)
      refine e_aload_n dX10_brings_27 rfl ?_
      refine q_getR (r := pl) dX10_brings_28 lf_N_72 rfl (by decide) (am_Lk hL rfl) (am_Lpl hL) ?_
      refine e_iload_n dX10_brings_31 rfl ?_
      refine e_iload_n dX10_brings_32 rfl ?_
      refine q_callVP (As := [_, _]) rfl dX10_brings_33 lm_N_238 (am_fitB rfl) yo_X5_hoursBrought ys_X5_hoursBrought rfl rfl (by decide) (congrArg Prod.fst (am_pln hL).1) rfl (Nat.le_of_ble_eq_true rfl) (Nat.le_of_ble_eq_true rfl) (s_X5_hoursBrought hL _ _ _ (am_pln hL) _) (fun q4 => ?_)
      refine q_callVI (As := [_, _]) rfl dX10_brings_36 lm_N_101 (am_fitB rfl) yo_X10_tell ys_X10_tell rfl rfl (by decide) (am_Lk hL rfl) rfl (Nat.le_of_ble_eq_true rfl) (Nat.le_of_ble_eq_true rfl) (s_X10_tell hL _ _  _) (fun q5 => ?_)
      exact e_iret dX10_brings_39 rfl rfl
    · refine e_iconst dX10_brings_15 (v := ((-1) : Int32)) (by decide) ?_
      exact e_iret dX10_brings_16 rfl rfl

def f_X10_doLot (pl : Nat) (a1 : Int32) (a2 : Int32) (u : am_U) : Option (Int32 × am_U) :=
  if a2 = 0 then (
    (f_X10_fill pl a1 u).bind (fun q1 =>
    some (q1.1, q1.2)))
  else   if a2 = 1 then (
    (f_X10_carry pl a1 1 u).bind (fun q2 =>
    some (q2.1, q2.2)))
  else   if a2 = 2 then (
    (f_X10_spend pl a1 1 u).bind (fun q3 =>
    some (q3.1, q3.2)))
  else   if a2 = 3 then (
    am_jn (fun (j4s0 : Int32) =>
      (f_X10_pour pl a1 j4s0 u).bind (fun q5 =>
      some (q5.1, q5.2))) (fun j4 =>
    if (u pl 2) ≤ (a1 + 1) then (
      j4 0)
    else (
      j4 (a1 + 1))))
  else (
    (f_X10_night pl u).bind (fun q6 =>
    some (q6.1, q6.2)))
set_option maxRecDepth 100000 in
set_option maxHeartbeats 4000000 in
theorem s_X10_doLot {l : Launch} {g : am_G} {B : am_M} {pl : Nat} (hL : am_Lay B pl) (a1 : Int32) (a2 : Int32)  (u : am_U) : am_E l g d_X10_doLot 0 (am_ent d_X10_doLot [.ref (4), .int (a1), .int (a2)]) [] (am_of B u) (am_r (am_bI B) (f_X10_doLot pl a1 a2 u)) := by
  unfold f_X10_doLot
  show am_E l g d_X10_doLot 0 [some (.ref (4)), some (.int (a1)), some (.int (a2))] [] (am_of B u) _
  refine e_iload_n dX10_doLot_0 rfl ?_
  refine e_sw (c := 0) (fun hc => ?_) (fun hn0 => ?_)
  · subst hc
    refine e_tabIn dX10_doLot_1 (tgt := 32) (by decide) (by decide) rfl (by decide) ?_
    refine e_aload_n dX10_doLot_32 rfl ?_
    refine e_iload_n dX10_doLot_33 rfl ?_
    refine q_callVI (As := [_]) rfl dX10_doLot_34 lm_N_403 (am_fitB rfl) yo_X10_fill ys_X10_fill rfl rfl (by decide) (am_Lk hL rfl) rfl (Nat.le_of_ble_eq_true rfl) (Nat.le_of_ble_eq_true rfl) (s_X10_fill hL _  _) (fun q1 => ?_)
    exact e_iret dX10_doLot_37 rfl rfl
  refine e_sw (c := 1) (fun hc => ?_) (fun hn1 => ?_)
  · subst hc
    refine e_tabIn dX10_doLot_1 (tgt := 38) (by decide) (by decide) rfl (by decide) ?_
    refine e_aload_n dX10_doLot_38 rfl ?_
    refine e_iload_n dX10_doLot_39 rfl ?_
    refine e_iconst dX10_doLot_40 (v := 1) (by decide) ?_
    refine q_callVI (As := [_, _]) rfl dX10_doLot_41 lm_N_405 (am_fitB rfl) yo_X10_carry ys_X10_carry rfl rfl (by decide) (am_Lk hL rfl) rfl (Nat.le_of_ble_eq_true rfl) (Nat.le_of_ble_eq_true rfl) (s_X10_carry hL _ _  _) (fun q2 => ?_)
    exact e_iret dX10_doLot_44 rfl rfl
  refine e_sw (c := 2) (fun hc => ?_) (fun hn2 => ?_)
  · subst hc
    refine e_tabIn dX10_doLot_1 (tgt := 45) (by decide) (by decide) rfl (by decide) ?_
    refine e_aload_n dX10_doLot_45 rfl ?_
    refine e_iload_n dX10_doLot_46 rfl ?_
    refine e_iconst dX10_doLot_47 (v := 1) (by decide) ?_
    refine q_callVI (As := [_, _]) rfl dX10_doLot_48 lm_N_408 (am_fitB rfl) yo_X10_spend ys_X10_spend rfl rfl (by decide) (am_Lk hL rfl) rfl (Nat.le_of_ble_eq_true rfl) (Nat.le_of_ble_eq_true rfl) (s_X10_spend hL _ _  _) (fun q3 => ?_)
    exact e_iret dX10_doLot_51 rfl rfl
  refine e_sw (c := 3) (fun hc => ?_) (fun hn3 => ?_)
  · subst hc
    refine e_tabIn dX10_doLot_1 (tgt := 52) (by decide) (by decide) rfl (by decide) ?_
    refine e_aload_n dX10_doLot_52 rfl ?_
    refine e_iload_n dX10_doLot_53 rfl ?_
    refine e_iload_n dX10_doLot_54 rfl ?_
    refine e_iconst dX10_doLot_55 (v := 1) (by decide) ?_
    refine e_iadd dX10_doLot_56 ?_
    refine e_aload_n dX10_doLot_57 rfl ?_
    refine q_getR (r := pl) dX10_doLot_58 lf_N_72 rfl (by decide) (am_Lk hL rfl) (am_Lpl hL) ?_
    refine q_getI dX10_doLot_61 lf_N_144 (by decide) (congrArg Prod.fst (am_pln hL).1) ?_
    refine e_jn (P := fun t : Int32 → Option (Int32 × am_U) => ∀ (j4s0 : Int32), am_E l g d_X10_doLot 74 [none, none, none] [.int (j4s0), .int (a1), .ref (4)] (am_of B u) (am_r (am_bI B) (t j4s0))) ?_ (fun j4 hj4 => ?_)
    · intro j4s0
      refine q_callVI (As := [_, _]) rfl dX10_doLot_74 lm_N_411 (am_fitB rfl) yo_X10_pour ys_X10_pour rfl rfl (by decide) (am_Lk hL rfl) rfl (Nat.le_of_ble_eq_true rfl) (Nat.le_of_ble_eq_true rfl) (s_X10_pour hL _ _  _) (fun q5 => ?_)
      exact e_iret dX10_doLot_77 rfl rfl
    · refine e_if2_ge dX10_doLot_64 (tgt := 73) (by decide) ?_ ?_
      · refine e_iconst dX10_doLot_73 (v := 0) (by decide) ?_
        refine e_msk [false, false, false] (LS1 := [none, none, none]) rfl ?_
        exact hj4 0
      · refine e_iload_n dX10_doLot_67 rfl ?_
        refine e_iconst dX10_doLot_68 (v := 1) (by decide) ?_
        refine e_iadd dX10_doLot_69 ?_
        refine e_goto dX10_doLot_70 (tgt := 74) (by decide) ?_
        refine e_msk [false, false, false] (LS1 := [none, none, none]) rfl ?_
        exact hj4 (a1 + 1)
  have hm0 := lv_neT hn0 (show (0 : Int32).toInt = 0 by decide)
  have hm1 := lv_neT hn1 (show (1 : Int32).toInt = 1 by decide)
  have hm2 := lv_neT hn2 (show (2 : Int32).toInt = 2 by decide)
  have hm3 := lv_neT hn3 (show (3 : Int32).toInt = 3 by decide)
  refine e_tabOut dX10_doLot_1 (tgt := 78) (by omega) (by decide) ?_
  refine e_aload_n dX10_doLot_78 rfl ?_
  refine q_callVI (As := []) rfl dX10_doLot_79 lm_N_414 (am_fitB rfl) yo_X10_night ys_X10_night rfl rfl (by decide) (am_Lk hL rfl) rfl (Nat.le_of_ble_eq_true rfl) (Nat.le_of_ble_eq_true rfl) (s_X10_night hL   _) (fun q6 => ?_)
  exact e_iret dX10_doLot_82 rfl rfl

def f_X11_best_23 (u : am_U) (v1 : Int32) (k58 : Int32 → Option (Int32 × am_U)) : Nat → Int32 → Int32 → Option (Int32 × am_U)
  | 0, _, _ => none
  | n + 1, v2, v3 =>
    if (u 60 12) ≤ v3 then (
      k58 v2)
    else (
      (f_X11_hoursAt v3 v1 u).bind (fun q2 =>
      (f_X11_hoursAt v2 v1 u).bind (fun q3 =>
      if q2 ≤ q3 then (
        f_X11_best_23 u v1 k58 n v2 (v3 + 1))
      else (
        f_X11_best_23 u v1 k58 n v3 (v3 + 1)))))
def f_X11_best (a1 : Int32) (u : am_U) : Option (Int32 × am_U) :=
  (f_X11_isPlace a1).bind (fun q1 =>
  if ¬ q1 = 0 then (
    if ¬ (u 60 12) = 0 then (
      f_X11_best_23 u a1 (fun (c4v2 : Int32) =>
        (f_X11_hoursAt c4v2 a1 u).bind (fun q5 =>
        (f_X11_tells q5 c4v2 u).bind (fun q6 =>
        some (q6.1, q6.2)))) 20000 0 1)
    else (
      some (((-4) : Int32), u)))
  else (
    some (((-1) : Int32), u)))
set_option maxRecDepth 100000 in
set_option maxHeartbeats 4000000 in
theorem s_X11_best_23 {l : Launch} {g : am_G} {B : am_M} {pl : Nat} (hL : am_Lay B pl) (u : am_U) (v1 : Int32)  (k58 : Int32 → Option (Int32 × am_U)) (hk58 : ∀ (v2 : Int32), am_E l g d_X11_best 58 [some (.ref (60)), some (.int (v1)), some (.int (v2)), none] [] (am_of B u) (am_r (am_bI B) (k58 v2))) : ∀ (n : Nat) (v2 : Int32) (v3 : Int32), am_E l g d_X11_best 23 [some (.ref (60)), some (.int (v1)), some (.int (v2)), some (.int (v3))] [] (am_of B u) (am_r (am_bI B) (f_X11_best_23 u v1 k58 n v2 v3)) := by
  intro n
  induction n with
  | zero => intro v2 v3; exact am_none
  | succ n ih =>
    intro v2 v3
    unfold f_X11_best_23
    refine e_iload_n dX11_best_23 rfl ?_
    refine e_aload_n dX11_best_24 rfl ?_
    refine q_getI dX11_best_25 lf_M_184 (by decide) (am_Lk hL rfl) ?_
    refine e_if2_ge dX11_best_28 (tgt := 58) (by decide) ?_ ?_
    · refine e_msk [true, true, true, false] (LS1 := [_, _, _, none]) rfl ?_
      exact hk58 v2
    · refine e_aload_n dX11_best_31 rfl ?_
      refine e_iload_n dX11_best_32 rfl ?_
      refine e_iload_n dX11_best_33 rfl ?_
      refine q_callVP (As := [_, _]) rfl dX11_best_34 lm_M_234 (am_fitB rfl) yo_X11_hoursAt ys_X11_hoursAt rfl rfl (by decide) (am_Lk hL rfl) rfl (Nat.le_of_ble_eq_true rfl) (Nat.le_of_ble_eq_true rfl) (s_X11_hoursAt hL _ _  _) (fun q2 => ?_)
      refine e_aload_n dX11_best_37 rfl ?_
      refine e_iload_n dX11_best_38 rfl ?_
      refine e_iload_n dX11_best_39 rfl ?_
      refine q_callVP (As := [_, _]) rfl dX11_best_40 lm_M_234 (am_fitB rfl) yo_X11_hoursAt ys_X11_hoursAt rfl rfl (by decide) (am_Lk hL rfl) rfl (Nat.le_of_ble_eq_true rfl) (Nat.le_of_ble_eq_true rfl) (s_X11_hoursAt hL _ _  _) (fun q3 => ?_)
      refine e_if2_le dX11_best_43 (tgt := 50) (by decide) ?_ ?_
      · refine e_iload_n dX11_best_50 rfl ?_
        refine e_istore_n dX11_best_51 (by decide) (LS1 := [_, _, _, _]) rfl ?_
        refine e_iinc dX11_best_52 rfl (v := _ + 1) rfl (by decide) (LS1 := [_, _, _, _]) rfl ?_
        refine e_goto dX11_best_55 (tgt := 23) (by decide) ?_
        exact ih v2 (v3 + 1)
      · refine e_iload_n dX11_best_46 rfl ?_
        refine e_goto dX11_best_47 (tgt := 51) (by decide) ?_
        refine e_istore_n dX11_best_51 (by decide) (LS1 := [_, _, _, _]) rfl ?_
        refine e_iinc dX11_best_52 rfl (v := _ + 1) rfl (by decide) (LS1 := [_, _, _, _]) rfl ?_
        refine e_goto dX11_best_55 (tgt := 23) (by decide) ?_
        exact ih v3 (v3 + 1)

set_option maxRecDepth 100000 in
set_option maxHeartbeats 4000000 in
theorem s_X11_best {l : Launch} {g : am_G} {B : am_M} {pl : Nat} (hL : am_Lay B pl) (a1 : Int32)  (u : am_U) : am_E l g d_X11_best 0 (am_ent d_X11_best [.ref (60), .int (a1)]) [] (am_of B u) (am_r (am_bI B) (f_X11_best a1 u)) := by
  unfold f_X11_best
  show am_E l g d_X11_best 0 [some (.ref (60)), some (.int (a1)), none, none] [] (am_of B u) _
  refine e_iload_n dX11_best_0 rfl ?_
  refine q_callSP (As := [_]) rfl dX11_best_1 lm_M_215 (am_fitB rfl) yo_X11_isPlace ys_X11_isPlace rfl (Nat.le_of_ble_eq_true rfl) (Nat.le_of_ble_eq_true rfl) (s_X11_isPlace hL _  _) (fun q1 => ?_)
  refine e_if_ne dX11_best_4 (tgt := 9) (by decide) ?_ ?_
  · refine e_aload_n dX11_best_9 rfl ?_
    refine q_getI dX11_best_10 lf_M_184 (by decide) (am_Lk hL rfl) ?_
    refine e_if_ne dX11_best_13 (tgt := 19) (by decide) ?_ ?_
    · refine e_iconst dX11_best_19 (v := 0) (by decide) ?_
      refine e_istore_n dX11_best_20 (by decide) (LS1 := [_, _, _, none]) rfl ?_
      refine e_iconst dX11_best_21 (v := 1) (by decide) ?_
      refine e_istore_n dX11_best_22 (by decide) (LS1 := [_, _, _, _]) rfl ?_
      refine s_X11_best_23 hL _ _ _ (fun c4v2 => ?_) _ _ _
      · refine e_aload_n dX11_best_58 rfl ?_
        refine e_aload_n dX11_best_59 rfl ?_
        refine e_iload_n dX11_best_60 rfl ?_
        refine e_iload_n dX11_best_61 rfl ?_
        refine q_callVP (As := [_, _]) rfl dX11_best_62 lm_M_234 (am_fitB rfl) yo_X11_hoursAt ys_X11_hoursAt rfl rfl (by decide) (am_Lk hL rfl) rfl (Nat.le_of_ble_eq_true rfl) (Nat.le_of_ble_eq_true rfl) (s_X11_hoursAt hL _ _  _) (fun q5 => ?_)
        refine e_iload_n dX11_best_65 rfl ?_
        refine q_callVI (As := [_, _]) rfl dX11_best_66 lm_M_125 (am_fitB rfl) yo_X11_tells ys_X11_tells rfl rfl (by decide) (am_Lk hL rfl) rfl (Nat.le_of_ble_eq_true rfl) (Nat.le_of_ble_eq_true rfl) (s_X11_tells hL _ _  _) (fun q6 => ?_)
        exact e_iret dX11_best_69 rfl rfl
    · refine e_bipush dX11_best_16 (v := ((-4) : Int32)) (by decide) ?_
      exact e_iret dX11_best_18 rfl rfl
  · refine e_iconst dX11_best_7 (v := ((-1) : Int32)) (by decide) ?_
    exact e_iret dX11_best_8 rfl rfl

def f_X11_brings (a1 : Int32) (a2 : Int32) (u : am_U) : Option (Int32 × am_U) :=
  (f_X11_isJar a1 u).bind (fun q1 =>
  if q1 = 0 then (
    some (((-1) : Int32), u))
  else (
    (f_X11_isPlace a2).bind (fun q2 =>
    if q2 = 0 then (
      some (((-1) : Int32), u))
    else (
      (f_X11_hoursAt a1 a2 u).bind (fun q3 =>
      (f_X11_broughtTo a1 a2 u).bind (fun q4 =>
      (f_X11_tells q3 q4 u).bind (fun q5 =>
      some (q5.1, q5.2))))))))
set_option maxRecDepth 100000 in
set_option maxHeartbeats 4000000 in
theorem s_X11_brings {l : Launch} {g : am_G} {B : am_M} {pl : Nat} (hL : am_Lay B pl) (a1 : Int32) (a2 : Int32)  (u : am_U) : am_E l g d_X11_brings 0 (am_ent d_X11_brings [.ref (60), .int (a1), .int (a2)]) [] (am_of B u) (am_r (am_bI B) (f_X11_brings a1 a2 u)) := by
  unfold f_X11_brings
  show am_E l g d_X11_brings 0 [some (.ref (60)), some (.int (a1)), some (.int (a2))] [] (am_of B u) _
  refine e_aload_n dX11_brings_0 rfl ?_
  refine e_iload_n dX11_brings_1 rfl ?_
  refine q_callVP (As := [_]) rfl dX11_brings_2 lm_M_200 (am_fitB rfl) yo_X11_isJar ys_X11_isJar rfl rfl (by decide) (am_Lk hL rfl) rfl (Nat.le_of_ble_eq_true rfl) (Nat.le_of_ble_eq_true rfl) (s_X11_isJar hL _  _) (fun q1 => ?_)
  refine e_if_eq dX11_brings_5 (tgt := 34) (by decide) ?_ ?_
  · refine e_iconst dX11_brings_34 (v := ((-1) : Int32)) (by decide) ?_
    exact e_iret dX11_brings_35 rfl rfl
  · refine e_iload_n dX11_brings_8 rfl ?_
    refine q_callSP (As := [_]) rfl dX11_brings_9 lm_M_215 (am_fitB rfl) yo_X11_isPlace ys_X11_isPlace rfl (Nat.le_of_ble_eq_true rfl) (Nat.le_of_ble_eq_true rfl) (s_X11_isPlace hL _  _) (fun q2 => ?_)
    refine e_if_eq dX11_brings_12 (tgt := 34) (by decide) ?_ ?_
    · refine e_iconst dX11_brings_34 (v := ((-1) : Int32)) (by decide) ?_
      exact e_iret dX11_brings_35 rfl rfl
    · refine e_aload_n dX11_brings_15 rfl ?_
      refine e_aload_n dX11_brings_16 rfl ?_
      refine e_iload_n dX11_brings_17 rfl ?_
      refine e_iload_n dX11_brings_18 rfl ?_
      refine q_callVP (As := [_, _]) rfl dX11_brings_19 lm_M_234 (am_fitB rfl) yo_X11_hoursAt ys_X11_hoursAt rfl rfl (by decide) (am_Lk hL rfl) rfl (Nat.le_of_ble_eq_true rfl) (Nat.le_of_ble_eq_true rfl) (s_X11_hoursAt hL _ _  _) (fun q3 => ?_)
      refine e_aload_n dX11_brings_22 rfl ?_
      refine e_iload_n dX11_brings_23 rfl ?_
      refine e_iload_n dX11_brings_24 rfl ?_
      refine q_callVP (As := [_, _]) rfl dX11_brings_25 lm_M_231 (am_fitB rfl) yo_X11_broughtTo ys_X11_broughtTo rfl rfl (by decide) (am_Lk hL rfl) rfl (Nat.le_of_ble_eq_true rfl) (Nat.le_of_ble_eq_true rfl) (s_X11_broughtTo hL _ _  _) (fun q4 => ?_)
      refine q_callVI (As := [_, _]) rfl dX11_brings_28 lm_M_125 (am_fitB rfl) yo_X11_tells ys_X11_tells rfl rfl (by decide) (am_Lk hL rfl) rfl (Nat.le_of_ble_eq_true rfl) (Nat.le_of_ble_eq_true rfl) (s_X11_tells hL _ _  _) (fun q5 => ?_)
      refine e_goto dX11_brings_31 (tgt := 35) (by decide) ?_
      exact e_iret dX11_brings_35 rfl rfl

def f_X11_fault (a1 : Int32) (u : am_U) : Option (Int32 × am_U) :=
  (f_X11_isText a1).bind (fun q1 =>
  if ¬ q1 = 0 then (
    am_ck (am_ix a1 4) (
    if 0 ≤ (u 65 a1.toNatClampNeg) then (
      (f_X11_faultOf a1 u).bind (fun q3 =>
      some (q3.1, q3.2)))
    else (
      (f_X11_meets 1 u).bind (fun q4 =>
      some (q4.1, q4.2)))))
  else (
    some (((-1) : Int32), u)))
set_option maxRecDepth 100000 in
set_option maxHeartbeats 4000000 in
theorem s_X11_fault {l : Launch} {g : am_G} {B : am_M} {pl : Nat} (hL : am_Lay B pl) (a1 : Int32)  (u : am_U) : am_E l g d_X11_fault 0 (am_ent d_X11_fault [.ref (60), .int (a1)]) [] (am_of B u) (am_r (am_bI B) (f_X11_fault a1 u)) := by
  unfold f_X11_fault
  show am_E l g d_X11_fault 0 [some (.ref (60)), some (.int (a1))] [] (am_of B u) _
  refine e_iload_n dX11_fault_0 rfl ?_
  refine q_callSP (As := [_]) rfl dX11_fault_1 lm_M_128 (am_fitB rfl) yo_X11_isText ys_X11_isText rfl (Nat.le_of_ble_eq_true rfl) (Nat.le_of_ble_eq_true rfl) (s_X11_isText hL _  _) (fun q1 => ?_)
  refine e_if_ne dX11_fault_4 (tgt := 9) (by decide) ?_ ?_
  · refine e_aload_n dX11_fault_9 rfl ?_
    refine q_getR (r := 65) dX11_fault_10 lf_M_22 rfl (by decide) (am_Lk hL rfl) (am_Lr hL rfl) ?_
    refine e_iload_n dX11_fault_13 rfl ?_
    refine q_ialdH dX11_fault_14 (am_Ls hL rfl) (fun i2 => ?_)
    refine e_if_ge dX11_fault_15 (tgt := 26) (by decide) ?_ ?_
    · refine e_aload_n dX11_fault_26 rfl ?_
      refine e_iload_n dX11_fault_27 rfl ?_
      refine q_callVI (As := [_]) rfl dX11_fault_28 lm_M_175 (am_fitB rfl) yo_X11_faultOf ys_X11_faultOf rfl rfl (by decide) (am_Lk hL rfl) rfl (Nat.le_of_ble_eq_true rfl) (Nat.le_of_ble_eq_true rfl) (s_X11_faultOf hL _  _) (fun q3 => ?_)
      exact e_iret dX11_fault_31 rfl rfl
    · refine e_aload_n dX11_fault_18 rfl ?_
      refine e_iconst dX11_fault_19 (v := 1) (by decide) ?_
      refine q_callVI (As := [_]) rfl dX11_fault_20 lm_M_117 (am_fitB rfl) yo_X11_meets ys_X11_meets rfl rfl (by decide) (am_Lk hL rfl) rfl (Nat.le_of_ble_eq_true rfl) (Nat.le_of_ble_eq_true rfl) (s_X11_meets hL _  _) (fun q4 => ?_)
      refine e_goto dX11_fault_23 (tgt := 31) (by decide) ?_
      exact e_iret dX11_fault_31 rfl rfl
  · refine e_iconst dX11_fault_7 (v := ((-1) : Int32)) (by decide) ?_
    exact e_iret dX11_fault_8 rfl rfl

def f_X11_land_63 (k87 : am_U → Option (Int32 × am_U)) : Nat → Int32 → am_U → Option (Int32 × am_U)
  | 0, _, _ => none
  | n + 1, v2, u =>
    if 8 ≤ v2 then (
      k87 u)
    else (
      am_ck (am_ix v2 8) (
      let u8 : am_U := am_w u 67 v2.toNatClampNeg (u 71 v2.toNatClampNeg)
      f_X11_land_63 k87 n (v2 + 1) u8))
def f_X11_land_89 (k112 : am_U → Option (Int32 × am_U)) : Nat → Int32 → am_U → Option (Int32 × am_U)
  | 0, _, _ => none
  | n + 1, v2, u =>
    if 5 ≤ v2 then (
      k112 u)
    else (
      am_ck (am_ix v2 5) (
      let u11 : am_U := am_w u 68 v2.toNatClampNeg (u 72 v2.toNatClampNeg)
      f_X11_land_89 k112 n (v2 + 1) u11))
def f_X11_land_114 (k152 : am_U → Option (Int32 × am_U)) : Nat → Int32 → am_U → Option (Int32 × am_U)
  | 0, _, _ => none
  | n + 1, v2, u =>
    if (u 60 12) ≤ v2 then (
      k152 u)
    else (
      am_ck (am_ix v2 6) (
      let u14 : am_U := am_w u 69 v2.toNatClampNeg (u 73 v2.toNatClampNeg)
      let u15 : am_U := am_w u14 70 v2.toNatClampNeg (u14 74 v2.toNatClampNeg)
      f_X11_land_114 k152 n (v2 + 1) u15))
def f_X11_land_154 (k173 : am_U → Option (Int32 × am_U)) : Nat → Int32 → am_U → Option (Int32 × am_U)
  | 0, _, _ => none
  | n + 1, v2, u =>
    if 30 ≤ v2 then (
      k173 u)
    else (
      am_ck (am_ix v2 30) (
      let u17 : am_U := am_w u 75 v2.toNatClampNeg 0
      f_X11_land_154 k173 n (v2 + 1) u17))
def f_X11_land_175 (k193 : am_U → Option (Int32 × am_U)) : Nat → Int32 → am_U → Option (Int32 × am_U)
  | 0, _, _ => none
  | n + 1, v2, u =>
    if 3 ≤ v2 then (
      k193 u)
    else (
      am_ck (am_ix v2 3) (
      let u20 : am_U := am_w u 77 v2.toNatClampNeg 0
      f_X11_land_175 k193 n (v2 + 1) u20))
def f_X11_land (a1 : Int32) (u : am_U) : Option (Int32 × am_U) :=
  (f_X11_isText a1).bind (fun q1 =>
  if ¬ q1 = 0 then (
    am_ck (am_ix a1 4) (
    if 0 ≤ (u 65 a1.toNatClampNeg) then (
      (f_X11_faultOf a1 u).bind (fun q3 =>
      if q3.1 = ((-9) : Int32) then (
        let u4 : am_U := am_w q3.2 60 8 (q3.2 60 17)
        let u5 : am_U := am_w u4 60 9 (u4 60 18)
        let u6 : am_U := am_w u5 60 12 (u5 60 20)
        f_X11_land_63 (fun (c9u : am_U) =>
          f_X11_land_89 (fun (c12u : am_U) =>
            f_X11_land_114 (fun (c16u : am_U) =>
              f_X11_land_154 (fun (c19u : am_U) =>
                f_X11_land_175 (fun (c21u : am_U) =>
                  let u22 : am_U := am_w c21u 60 26 0
                  let u23 : am_U := am_w u22 60 40 0
                  some (u23 60 12, u23)) 20000 0 c19u) 20000 0 c16u) 20000 0 c12u) 20000 1 c9u) 20000 0 u6)
      else (
        some (((-4) : Int32), q3.2))))
    else (
      (f_X11_meets 1 u).bind (fun q24 =>
      some (q24.1, q24.2)))))
  else (
    some (((-1) : Int32), u)))
set_option maxRecDepth 100000 in
set_option maxHeartbeats 4000000 in
theorem s_X11_land_63 {l : Launch} {g : am_G} {B : am_M} {pl : Nat} (hL : am_Lay B pl)   (k87 : am_U → Option (Int32 × am_U)) (hk87 : ∀  (u : am_U), am_E l g d_X11_land 87 [some (.ref (60)), none, none] [] (am_of B u) (am_r (am_bI B) (k87 u))) : ∀ (n : Nat) (v2 : Int32) (u : am_U), am_E l g d_X11_land 63 [some (.ref (60)), none, some (.int (v2))] [] (am_of B u) (am_r (am_bI B) (f_X11_land_63 k87 n v2 u)) := by
  intro n
  induction n with
  | zero => intro v2 u; exact am_none
  | succ n ih =>
    intro v2 u
    unfold f_X11_land_63
    refine e_iload_n dX11_land_63 rfl ?_
    refine e_bipush dX11_land_64 (v := 8) (by decide) ?_
    refine e_if2_ge dX11_land_66 (tgt := 87) (by decide) ?_ ?_
    · refine e_msk [true, false, false] (LS1 := [_, none, none]) rfl ?_
      exact hk87 u
    · refine e_aload_n dX11_land_69 rfl ?_
      refine q_getR (r := 67) dX11_land_70 lf_M_29 rfl (by decide) (am_Lk hL rfl) (am_Lr hL rfl) ?_
      refine e_iload_n dX11_land_73 rfl ?_
      refine e_aload_n dX11_land_74 rfl ?_
      refine q_getR (r := 71) dX11_land_75 lf_M_41 rfl (by decide) (am_Lk hL rfl) (am_Lr hL rfl) ?_
      refine e_iload_n dX11_land_78 rfl ?_
      refine q_ialdH dX11_land_79 (am_Ls hL rfl) (fun i7 => ?_)
      refine q_iastC (jn := _) dX11_land_80 (am_Ls hL rfl) i7 rfl ?_
      refine e_iinc dX11_land_81 rfl (v := _ + 1) rfl (by decide) (LS1 := [_, none, _]) rfl ?_
      refine e_goto dX11_land_84 (tgt := 63) (by decide) ?_
      exact ih (v2 + 1) (am_w u 67 v2.toNatClampNeg (u 71 v2.toNatClampNeg))

set_option maxRecDepth 100000 in
set_option maxHeartbeats 4000000 in
theorem s_X11_land_89 {l : Launch} {g : am_G} {B : am_M} {pl : Nat} (hL : am_Lay B pl)   (k112 : am_U → Option (Int32 × am_U)) (hk112 : ∀  (u : am_U), am_E l g d_X11_land 112 [some (.ref (60)), none, none] [] (am_of B u) (am_r (am_bI B) (k112 u))) : ∀ (n : Nat) (v2 : Int32) (u : am_U), am_E l g d_X11_land 89 [some (.ref (60)), none, some (.int (v2))] [] (am_of B u) (am_r (am_bI B) (f_X11_land_89 k112 n v2 u)) := by
  intro n
  induction n with
  | zero => intro v2 u; exact am_none
  | succ n ih =>
    intro v2 u
    unfold f_X11_land_89
    refine e_iload_n dX11_land_89 rfl ?_
    refine e_iconst dX11_land_90 (v := 5) (by decide) ?_
    refine e_if2_ge dX11_land_91 (tgt := 112) (by decide) ?_ ?_
    · refine e_msk [true, false, false] (LS1 := [_, none, none]) rfl ?_
      exact hk112 u
    · refine e_aload_n dX11_land_94 rfl ?_
      refine q_getR (r := 68) dX11_land_95 lf_M_32 rfl (by decide) (am_Lk hL rfl) (am_Lr hL rfl) ?_
      refine e_iload_n dX11_land_98 rfl ?_
      refine e_aload_n dX11_land_99 rfl ?_
      refine q_getR (r := 72) dX11_land_100 lf_M_44 rfl (by decide) (am_Lk hL rfl) (am_Lr hL rfl) ?_
      refine e_iload_n dX11_land_103 rfl ?_
      refine q_ialdH dX11_land_104 (am_Ls hL rfl) (fun i10 => ?_)
      refine q_iastC (jn := _) dX11_land_105 (am_Ls hL rfl) i10 rfl ?_
      refine e_iinc dX11_land_106 rfl (v := _ + 1) rfl (by decide) (LS1 := [_, none, _]) rfl ?_
      refine e_goto dX11_land_109 (tgt := 89) (by decide) ?_
      exact ih (v2 + 1) (am_w u 68 v2.toNatClampNeg (u 72 v2.toNatClampNeg))

set_option maxRecDepth 100000 in
set_option maxHeartbeats 4000000 in
theorem s_X11_land_114 {l : Launch} {g : am_G} {B : am_M} {pl : Nat} (hL : am_Lay B pl)   (k152 : am_U → Option (Int32 × am_U)) (hk152 : ∀  (u : am_U), am_E l g d_X11_land 152 [some (.ref (60)), none, none] [] (am_of B u) (am_r (am_bI B) (k152 u))) : ∀ (n : Nat) (v2 : Int32) (u : am_U), am_E l g d_X11_land 114 [some (.ref (60)), none, some (.int (v2))] [] (am_of B u) (am_r (am_bI B) (f_X11_land_114 k152 n v2 u)) := by
  intro n
  induction n with
  | zero => intro v2 u; exact am_none
  | succ n ih =>
    intro v2 u
    unfold f_X11_land_114
    refine e_iload_n dX11_land_114 rfl ?_
    refine e_aload_n dX11_land_115 rfl ?_
    refine q_getI dX11_land_116 lf_M_184 (by decide) (am_Lk hL rfl) ?_
    refine e_if2_ge dX11_land_119 (tgt := 152) (by decide) ?_ ?_
    · refine e_msk [true, false, false] (LS1 := [_, none, none]) rfl ?_
      exact hk152 u
    · refine e_aload_n dX11_land_122 rfl ?_
      refine q_getR (r := 69) dX11_land_123 lf_M_35 rfl (by decide) (am_Lk hL rfl) (am_Lr hL rfl) ?_
      refine e_iload_n dX11_land_126 rfl ?_
      refine e_aload_n dX11_land_127 rfl ?_
      refine q_getR (r := 73) dX11_land_128 lf_M_47 rfl (by decide) (am_Lk hL rfl) (am_Lr hL rfl) ?_
      refine e_iload_n dX11_land_131 rfl ?_
      refine q_ialdH dX11_land_132 (am_Ls hL rfl) (fun i13 => ?_)
      refine q_iastC (jn := _) dX11_land_133 (am_Ls hL rfl) i13 rfl ?_
      refine e_aload_n dX11_land_134 rfl ?_
      refine q_getR (r := 70) dX11_land_135 lf_M_38 rfl (by decide) (am_Lk hL rfl) (am_Lr hL rfl) ?_
      refine e_iload_n dX11_land_138 rfl ?_
      refine e_aload_n dX11_land_139 rfl ?_
      refine q_getR (r := 74) dX11_land_140 lf_M_50 rfl (by decide) (am_Lk hL rfl) (am_Lr hL rfl) ?_
      refine e_iload_n dX11_land_143 rfl ?_
      refine q_ialdC (jn := _) dX11_land_144 (am_Ls hL rfl) i13 rfl ?_
      refine q_iastC (jn := _) dX11_land_145 (am_Ls hL rfl) i13 rfl ?_
      refine e_iinc dX11_land_146 rfl (v := _ + 1) rfl (by decide) (LS1 := [_, none, _]) rfl ?_
      refine e_goto dX11_land_149 (tgt := 114) (by decide) ?_
      exact ih (v2 + 1) (am_w (am_w u 69 v2.toNatClampNeg (u 73 v2.toNatClampNeg)) 70 v2.toNatClampNeg ((am_w u 69 v2.toNatClampNeg (u 73 v2.toNatClampNeg)) 74 v2.toNatClampNeg))

set_option maxRecDepth 100000 in
set_option maxHeartbeats 4000000 in
theorem s_X11_land_154 {l : Launch} {g : am_G} {B : am_M} {pl : Nat} (hL : am_Lay B pl)   (k173 : am_U → Option (Int32 × am_U)) (hk173 : ∀  (u : am_U), am_E l g d_X11_land 173 [some (.ref (60)), none, none] [] (am_of B u) (am_r (am_bI B) (k173 u))) : ∀ (n : Nat) (v2 : Int32) (u : am_U), am_E l g d_X11_land 154 [some (.ref (60)), none, some (.int (v2))] [] (am_of B u) (am_r (am_bI B) (f_X11_land_154 k173 n v2 u)) := by
  intro n
  induction n with
  | zero => intro v2 u; exact am_none
  | succ n ih =>
    intro v2 u
    unfold f_X11_land_154
    refine e_iload_n dX11_land_154 rfl ?_
    refine e_bipush dX11_land_155 (v := 30) (by decide) ?_
    refine e_if2_ge dX11_land_157 (tgt := 173) (by decide) ?_ ?_
    · refine e_msk [true, false, false] (LS1 := [_, none, none]) rfl ?_
      exact hk173 u
    · refine e_aload_n dX11_land_160 rfl ?_
      refine q_getR (r := 75) dX11_land_161 lf_M_53 rfl (by decide) (am_Lk hL rfl) (am_Lr hL rfl) ?_
      refine e_iload_n dX11_land_164 rfl ?_
      refine e_iconst dX11_land_165 (v := 0) (by decide) ?_
      refine q_iastH dX11_land_166 (am_Ls hL rfl) (fun i18 => ?_)
      refine e_iinc dX11_land_167 rfl (v := _ + 1) rfl (by decide) (LS1 := [_, none, _]) rfl ?_
      refine e_goto dX11_land_170 (tgt := 154) (by decide) ?_
      exact ih (v2 + 1) (am_w u 75 v2.toNatClampNeg 0)

set_option maxRecDepth 100000 in
set_option maxHeartbeats 4000000 in
theorem s_X11_land_175 {l : Launch} {g : am_G} {B : am_M} {pl : Nat} (hL : am_Lay B pl)   (k193 : am_U → Option (Int32 × am_U)) (hk193 : ∀  (u : am_U), am_E l g d_X11_land 193 [some (.ref (60)), none, none] [] (am_of B u) (am_r (am_bI B) (k193 u))) : ∀ (n : Nat) (v2 : Int32) (u : am_U), am_E l g d_X11_land 175 [some (.ref (60)), none, some (.int (v2))] [] (am_of B u) (am_r (am_bI B) (f_X11_land_175 k193 n v2 u)) := by
  intro n
  induction n with
  | zero => intro v2 u; exact am_none
  | succ n ih =>
    intro v2 u
    unfold f_X11_land_175
    refine e_iload_n dX11_land_175 rfl ?_
    refine e_iconst dX11_land_176 (v := 3) (by decide) ?_
    refine e_if2_ge dX11_land_177 (tgt := 193) (by decide) ?_ ?_
    · refine e_msk [true, false, false] (LS1 := [_, none, none]) rfl ?_
      exact hk193 u
    · refine e_aload_n dX11_land_180 rfl ?_
      refine q_getR (r := 77) dX11_land_181 lf_M_59 rfl (by decide) (am_Lk hL rfl) (am_Lr hL rfl) ?_
      refine e_iload_n dX11_land_184 rfl ?_
      refine e_iconst dX11_land_185 (v := 0) (by decide) ?_
      refine q_zast dX11_land_186 (am_Ls hL rfl) (Or.inl rfl) ?_
      refine e_iinc dX11_land_187 rfl (v := _ + 1) rfl (by decide) (LS1 := [_, none, _]) rfl ?_
      refine e_goto dX11_land_190 (tgt := 175) (by decide) ?_
      exact ih (v2 + 1) (am_w u 77 v2.toNatClampNeg 0)

set_option maxRecDepth 100000 in
set_option maxHeartbeats 4000000 in
theorem s_X11_land {l : Launch} {g : am_G} {B : am_M} {pl : Nat} (hL : am_Lay B pl) (a1 : Int32)  (u : am_U) : am_E l g d_X11_land 0 (am_ent d_X11_land [.ref (60), .int (a1)]) [] (am_of B u) (am_r (am_bI B) (f_X11_land a1 u)) := by
  unfold f_X11_land
  show am_E l g d_X11_land 0 [some (.ref (60)), some (.int (a1)), none] [] (am_of B u) _
  refine e_iload_n dX11_land_0 rfl ?_
  refine q_callSP (As := [_]) rfl dX11_land_1 lm_M_128 (am_fitB rfl) yo_X11_isText ys_X11_isText rfl (Nat.le_of_ble_eq_true rfl) (Nat.le_of_ble_eq_true rfl) (s_X11_isText hL _  _) (fun q1 => ?_)
  refine e_if_ne dX11_land_4 (tgt := 9) (by decide) ?_ ?_
  · refine e_aload_n dX11_land_9 rfl ?_
    refine q_getR (r := 65) dX11_land_10 lf_M_22 rfl (by decide) (am_Lk hL rfl) (am_Lr hL rfl) ?_
    refine e_iload_n dX11_land_13 rfl ?_
    refine q_ialdH dX11_land_14 (am_Ls hL rfl) (fun i2 => ?_)
    refine e_if_ge dX11_land_15 (tgt := 24) (by decide) ?_ ?_
    · refine e_aload_n dX11_land_24 rfl ?_
      refine e_iload_n dX11_land_25 rfl ?_
      refine q_callVI (As := [_]) rfl dX11_land_26 lm_M_175 (am_fitB rfl) yo_X11_faultOf ys_X11_faultOf rfl rfl (by decide) (am_Lk hL rfl) rfl (Nat.le_of_ble_eq_true rfl) (Nat.le_of_ble_eq_true rfl) (s_X11_faultOf hL _  _) (fun q3 => ?_)
      refine e_bipush dX11_land_29 (v := ((-9) : Int32)) (by decide) ?_
      refine e_if2_eq dX11_land_31 (tgt := 37) (by decide) ?_ ?_
      · refine e_aload_n dX11_land_37 rfl ?_
        refine e_aload_n dX11_land_38 rfl ?_
        refine q_getI dX11_land_39 lf_M_147 (by decide) (am_Lk hL rfl) ?_
        refine q_putI dX11_land_42 lf_M_178 rfl (by decide) (am_Lk hL rfl) ?_
        refine e_aload_n dX11_land_45 rfl ?_
        refine e_aload_n dX11_land_46 rfl ?_
        refine q_getI dX11_land_47 lf_M_150 (by decide) (am_Lk hL rfl) ?_
        refine q_putI dX11_land_50 lf_M_181 rfl (by decide) (am_Lk hL rfl) ?_
        refine e_aload_n dX11_land_53 rfl ?_
        refine e_aload_n dX11_land_54 rfl ?_
        refine q_getI dX11_land_55 lf_M_160 (by decide) (am_Lk hL rfl) ?_
        refine q_putI dX11_land_58 lf_M_184 rfl (by decide) (am_Lk hL rfl) ?_
        refine e_iconst dX11_land_61 (v := 0) (by decide) ?_
        refine e_istore_n dX11_land_62 (by decide) (LS1 := [_, _, _]) rfl ?_
        refine e_msk [true, false, true] (LS1 := [_, none, _]) rfl ?_
        refine s_X11_land_63 hL _ (fun c9u => ?_) _ _ _
        · refine e_iconst dX11_land_87 (v := 1) (by decide) ?_
          refine e_istore_n dX11_land_88 (by decide) (LS1 := [_, none, _]) rfl ?_
          refine s_X11_land_89 hL _ (fun c12u => ?_) _ _ _
          · refine e_iconst dX11_land_112 (v := 0) (by decide) ?_
            refine e_istore_n dX11_land_113 (by decide) (LS1 := [_, none, _]) rfl ?_
            refine s_X11_land_114 hL _ (fun c16u => ?_) _ _ _
            · refine e_iconst dX11_land_152 (v := 0) (by decide) ?_
              refine e_istore_n dX11_land_153 (by decide) (LS1 := [_, none, _]) rfl ?_
              refine s_X11_land_154 hL _ (fun c19u => ?_) _ _ _
              · refine e_iconst dX11_land_173 (v := 0) (by decide) ?_
                refine e_istore_n dX11_land_174 (by decide) (LS1 := [_, none, _]) rfl ?_
                refine s_X11_land_175 hL _ (fun c21u => ?_) _ _ _
                · refine e_aload_n dX11_land_193 rfl ?_
                  refine e_iconst dX11_land_194 (v := 0) (by decide) ?_
                  refine q_putI dX11_land_195 lf_M_187 rfl (by decide) (am_Lk hL rfl) ?_
                  refine e_aload_n dX11_land_198 rfl ?_
                  refine e_iconst dX11_land_199 (v := 0) (by decide) ?_
                  refine q_putI dX11_land_200 lf_M_190 rfl (by decide) (am_Lk hL rfl) ?_
                  refine e_aload_n dX11_land_203 rfl ?_
                  refine q_getI dX11_land_204 lf_M_184 (by decide) (am_Lk hL rfl) ?_
                  exact e_iret dX11_land_207 rfl rfl
      · refine e_bipush dX11_land_34 (v := ((-4) : Int32)) (by decide) ?_
        exact e_iret dX11_land_36 rfl rfl
    · refine e_aload_n dX11_land_18 rfl ?_
      refine e_iconst dX11_land_19 (v := 1) (by decide) ?_
      refine q_callVI (As := [_]) rfl dX11_land_20 lm_M_117 (am_fitB rfl) yo_X11_meets ys_X11_meets rfl rfl (by decide) (am_Lk hL rfl) rfl (Nat.le_of_ble_eq_true rfl) (Nat.le_of_ble_eq_true rfl) (s_X11_meets hL _  _) (fun q24 => ?_)
      exact e_iret dX11_land_23 rfl rfl
  · refine e_iconst dX11_land_7 (v := ((-1) : Int32)) (by decide) ?_
    exact e_iret dX11_land_8 rfl rfl

