def f_X11_lit_2 (v1 : Int32) (k20 : am_U → Option (Int32 × am_U)) : Nat → Int32 → am_U → Option (Int32 × am_U)
  | 0, _, _ => none
  | n + 1, v2, u =>
    if 5 ≤ v2 then (
      k20 u)
    else (
      am_ck (am_ix v2 5) (
      let u1 : am_U := am_w u 79 v2.toNatClampNeg 0
      f_X11_lit_2 v1 k20 n (v2 + 1) u1))
def f_X11_lit_34 (k98 : am_U → Option (Int32 × am_U)) : Nat → Int32 → Int32 → am_U → Option (Int32 × am_U)
  | 0, _, _, _ => none
  | n + 1, v2, v3, u =>
    if v3 < 0 then (
      k98 u)
    else (
      am_ck (am_ix (v2 - v2 / 5 * 5) 5) (
      am_jn (fun (j6s0 : Int32) =>
        let u7 : am_U := am_w u 79 (v2 - v2 / 5 * 5).toNatClampNeg ((u 79 (v2 - v2 / 5 * 5).toNatClampNeg) + j6s0)
        if ¬ (v2 - v2 / 5 * 5) = 0 then (
          let u8 : am_U := am_w u7 60 31 ((u7 60 31) + 1)
          f_X11_lit_34 k98 n (v2 / 5) (v3 + (-1)) u8)
        else (
          let u9 : am_U := am_w u7 60 31 ((u7 60 31) + 0)
          f_X11_lit_34 k98 n (v2 / 5) (v3 + (-1)) u9)) (fun j6 =>
      if ¬ (v2 - v2 / 5 * 5) = 0 then (
        (f_X11_hoursAt v3 (v2 - v2 / 5 * 5) u).bind (fun q10 =>
        j6 q10))
      else (
        j6 0))))
def f_X11_lit_103 (u : am_U) : Nat → Int32 → Int32 → Option (Int32 × am_U)
  | 0, _, _ => none
  | n + 1, v3, v4 =>
    if 5 ≤ v4 then (
      some (v3, u))
    else (
      am_ck (am_ix v4 5) (
      am_jn (fun (j13z : Unit) =>
        f_X11_lit_103 u n (v3 + 0) (v4 + 1)) (fun j13 =>
      if (u 68 v4.toNatClampNeg) ≤ 0 then (
        j13 () )
      else (
        if (u 79 v4.toNatClampNeg) < (u 68 v4.toNatClampNeg) then (
          j13 () )
        else (
          f_X11_lit_103 u n (v3 + 1) (v4 + 1))))))
def f_X11_lit (a1 : Int32) (u : am_U) : Option (Int32 × am_U) :=
  f_X11_lit_2 a1 (fun (c3u : am_U) =>
    let u4 : am_U := am_w c3u 60 31 0
    f_X11_lit_34 (fun (c11u : am_U) =>
      f_X11_lit_103 c11u 20000 0 1) 20000 a1 ((u4 60 12) - 1) u4) 20000 0 u
set_option maxRecDepth 100000 in
set_option maxHeartbeats 4000000 in
theorem s_X11_lit_2 {l : Launch} {g : am_G} {B : am_M} {pl : Nat} (hL : am_Lay B pl) (v1 : Int32)  (k20 : am_U → Option (Int32 × am_U)) (hk20 : ∀  (u : am_U), am_E l g d_X11_lit 20 [some (.ref (60)), some (.int (v1)), none, none, none] [] (am_of B u) (am_r (am_bI B) (k20 u))) : ∀ (n : Nat) (v2 : Int32) (u : am_U), am_E l g d_X11_lit 2 [some (.ref (60)), some (.int (v1)), some (.int (v2)), none, none] [] (am_of B u) (am_r (am_bI B) (f_X11_lit_2 v1 k20 n v2 u)) := by
  intro n
  induction n with
  | zero => intro v2 u; exact am_none
  | succ n ih =>
    intro v2 u
    unfold f_X11_lit_2
    refine e_iload_n dX11_lit_2 rfl ?_
    refine e_iconst dX11_lit_3 (v := 5) (by decide) ?_
    refine e_if2_ge dX11_lit_4 (tgt := 20) (by decide) ?_ ?_
    · refine e_msk [true, true, false, false, false] (LS1 := [_, _, none, none, none]) rfl ?_
      exact hk20 u
    · refine e_aload_n dX11_lit_7 rfl ?_
      refine q_getR (r := 79) dX11_lit_8 lf_M_66 rfl (by decide) (am_Lk hL rfl) (am_Lr hL rfl) ?_
      refine e_iload_n dX11_lit_11 rfl ?_
      refine e_iconst dX11_lit_12 (v := 0) (by decide) ?_
      refine q_iastH dX11_lit_13 (am_Ls hL rfl) (fun i2 => ?_)
      refine e_iinc dX11_lit_14 rfl (v := _ + 1) rfl (by decide) (LS1 := [_, _, _, none, none]) rfl ?_
      refine e_goto dX11_lit_17 (tgt := 2) (by decide) ?_
      exact ih (v2 + 1) (am_w u 79 v2.toNatClampNeg 0)

set_option maxRecDepth 100000 in
set_option maxHeartbeats 4000000 in
theorem s_X11_lit_34 {l : Launch} {g : am_G} {B : am_M} {pl : Nat} (hL : am_Lay B pl)   (k98 : am_U → Option (Int32 × am_U)) (hk98 : ∀  (u : am_U), am_E l g d_X11_lit 98 [some (.ref (60)), none, none, none, none] [] (am_of B u) (am_r (am_bI B) (k98 u))) : ∀ (n : Nat) (v2 : Int32) (v3 : Int32) (u : am_U), am_E l g d_X11_lit 34 [some (.ref (60)), none, some (.int (v2)), some (.int (v3)), none] [] (am_of B u) (am_r (am_bI B) (f_X11_lit_34 k98 n v2 v3 u)) := by
  intro n
  induction n with
  | zero => intro v2 v3 u; exact am_none
  | succ n ih =>
    intro v2 v3 u
    unfold f_X11_lit_34
    refine e_iload_n dX11_lit_34 rfl ?_
    refine e_if_lt dX11_lit_35 (tgt := 98) (by decide) ?_ ?_
    · refine e_msk [true, false, false, false, false] (LS1 := [_, none, none, none, none]) rfl ?_
      exact hk98 u
    · refine e_iload_n dX11_lit_38 rfl ?_
      refine e_iconst dX11_lit_39 (v := 5) (by decide) ?_
      refine e_irem dX11_lit_40 (by decide) ?_
      refine e_istore dX11_lit_41 (by decide) (LS1 := [_, none, _, _, _]) rfl ?_
      refine e_iload_n dX11_lit_43 rfl ?_
      refine e_iconst dX11_lit_44 (v := 5) (by decide) ?_
      refine e_idiv dX11_lit_45 (by decide) ?_
      refine e_istore_n dX11_lit_46 (by decide) (LS1 := [_, none, _, _, _]) rfl ?_
      refine e_aload_n dX11_lit_47 rfl ?_
      refine q_getR (r := 79) dX11_lit_48 lf_M_66 rfl (by decide) (am_Lk hL rfl) (am_Lr hL rfl) ?_
      refine e_iload dX11_lit_51 rfl ?_
      refine e_dup2 dX11_lit_53 rfl rfl ?_
      refine q_ialdH dX11_lit_54 (am_Ls hL rfl) (fun i5 => ?_)
      refine e_iload dX11_lit_55 rfl ?_
      refine e_jn (P := fun t : Int32 → Option (Int32 × am_U) => ∀ (j6s0 : Int32), am_E l g d_X11_lit 71 [some (.ref (60)), none, some (.int (v2 / 5)), some (.int (v3)), some (.int (v2 - v2 / 5 * 5))] [.int (j6s0), .int (u 79 (v2 - v2 / 5 * 5).toNatClampNeg), .int (v2 - v2 / 5 * 5), .ref (79)] (am_of B u) (am_r (am_bI B) (t j6s0))) ?_ (fun j6 hj6 => ?_)
      · intro j6s0
        refine e_iadd dX11_lit_71 ?_
        refine q_iastC (jn := _) dX11_lit_72 (am_Ls hL rfl) i5 rfl ?_
        refine e_aload_n dX11_lit_73 rfl ?_
        refine e_dup dX11_lit_74 rfl ?_
        refine q_getI dX11_lit_75 lf_M_237 (by decide) (am_Lk hL rfl) ?_
        refine e_iload dX11_lit_78 rfl ?_
        refine e_if_ne dX11_lit_80 (tgt := 87) (by decide) ?_ ?_
        · refine e_iconst dX11_lit_87 (v := 1) (by decide) ?_
          refine e_iadd dX11_lit_88 ?_
          refine q_putI dX11_lit_89 lf_M_237 rfl (by decide) (am_Lk hL rfl) ?_
          refine e_iinc dX11_lit_92 rfl (v := _ + (-1)) rfl (by decide) (LS1 := [_, none, _, _, _]) rfl ?_
          refine e_goto dX11_lit_95 (tgt := 34) (by decide) ?_
          refine e_msk [true, false, true, true, false] (LS1 := [_, none, _, _, none]) rfl ?_
          exact ih (v2 / 5) (v3 + (-1)) (am_w (am_w u 79 (v2 - v2 / 5 * 5).toNatClampNeg ((u 79 (v2 - v2 / 5 * 5).toNatClampNeg) + j6s0)) 60 31 (((am_w u 79 (v2 - v2 / 5 * 5).toNatClampNeg ((u 79 (v2 - v2 / 5 * 5).toNatClampNeg) + j6s0)) 60 31) + 1))
        · refine e_iconst dX11_lit_83 (v := 0) (by decide) ?_
          refine e_goto dX11_lit_84 (tgt := 88) (by decide) ?_
          refine e_iadd dX11_lit_88 ?_
          refine q_putI dX11_lit_89 lf_M_237 rfl (by decide) (am_Lk hL rfl) ?_
          refine e_iinc dX11_lit_92 rfl (v := _ + (-1)) rfl (by decide) (LS1 := [_, none, _, _, _]) rfl ?_
          refine e_goto dX11_lit_95 (tgt := 34) (by decide) ?_
          refine e_msk [true, false, true, true, false] (LS1 := [_, none, _, _, none]) rfl ?_
          exact ih (v2 / 5) (v3 + (-1)) (am_w (am_w u 79 (v2 - v2 / 5 * 5).toNatClampNeg ((u 79 (v2 - v2 / 5 * 5).toNatClampNeg) + j6s0)) 60 31 (((am_w u 79 (v2 - v2 / 5 * 5).toNatClampNeg ((u 79 (v2 - v2 / 5 * 5).toNatClampNeg) + j6s0)) 60 31) + 0))
      · refine e_if_ne dX11_lit_57 (tgt := 64) (by decide) ?_ ?_
        · refine e_aload_n dX11_lit_64 rfl ?_
          refine e_iload_n dX11_lit_65 rfl ?_
          refine e_iload dX11_lit_66 rfl ?_
          refine q_callVP (As := [_, _]) rfl dX11_lit_68 lm_M_234 (am_fitB rfl) yo_X11_hoursAt ys_X11_hoursAt rfl rfl (by decide) (am_Lk hL rfl) rfl (Nat.le_of_ble_eq_true rfl) (Nat.le_of_ble_eq_true rfl) (s_X11_hoursAt hL _ _  _) (fun q10 => ?_)
          refine e_msk [true, false, true, true, true] (LS1 := [_, none, _, _, _]) rfl ?_
          exact hj6 q10
        · refine e_iconst dX11_lit_60 (v := 0) (by decide) ?_
          refine e_goto dX11_lit_61 (tgt := 71) (by decide) ?_
          refine e_msk [true, false, true, true, true] (LS1 := [_, none, _, _, _]) rfl ?_
          exact hj6 0

set_option maxRecDepth 100000 in
set_option maxHeartbeats 4000000 in
theorem s_X11_lit_103 {l : Launch} {g : am_G} {B : am_M} {pl : Nat} (hL : am_Lay B pl) (u : am_U)     : ∀ (n : Nat) (v3 : Int32) (v4 : Int32), am_E l g d_X11_lit 103 [some (.ref (60)), none, none, some (.int (v3)), some (.int (v4))] [] (am_of B u) (am_r (am_bI B) (f_X11_lit_103 u n v3 v4)) := by
  intro n
  induction n with
  | zero => intro v3 v4; exact am_none
  | succ n ih =>
    intro v3 v4
    unfold f_X11_lit_103
    refine e_iload dX11_lit_103 rfl ?_
    refine e_iconst dX11_lit_105 (v := 5) (by decide) ?_
    refine e_if2_ge dX11_lit_106 (tgt := 150) (by decide) ?_ ?_
    · refine e_iload_n dX11_lit_150 rfl ?_
      exact e_iret dX11_lit_151 rfl rfl
    · refine e_iload_n dX11_lit_109 rfl ?_
      refine e_aload_n dX11_lit_110 rfl ?_
      refine q_getR (r := 68) dX11_lit_111 lf_M_32 rfl (by decide) (am_Lk hL rfl) (am_Lr hL rfl) ?_
      refine e_iload dX11_lit_114 rfl ?_
      refine q_ialdH dX11_lit_116 (am_Ls hL rfl) (fun i12 => ?_)
      refine e_jn (P := fun t : Unit → Option (Int32 × am_U) => ∀ (j13z : Unit), am_E l g d_X11_lit 141 [some (.ref (60)), none, none, none, some (.int (v4))] [.int (v3)] (am_of B u) (am_r (am_bI B) (t j13z))) ?_ (fun j13 hj13 => ?_)
      · intro j13z
        refine e_iconst dX11_lit_141 (v := 0) (by decide) ?_
        refine e_iadd dX11_lit_142 ?_
        refine e_istore_n dX11_lit_143 (by decide) (LS1 := [_, none, none, _, _]) rfl ?_
        refine e_iinc dX11_lit_144 rfl (v := _ + 1) rfl (by decide) (LS1 := [_, none, none, _, _]) rfl ?_
        refine e_goto dX11_lit_147 (tgt := 103) (by decide) ?_
        exact ih (v3 + 0) (v4 + 1)
      · refine e_if_le dX11_lit_117 (tgt := 141) (by decide) ?_ ?_
        · refine e_msk [true, false, false, false, true] (LS1 := [_, none, none, none, _]) rfl ?_
          exact hj13 () 
        · refine e_aload_n dX11_lit_120 rfl ?_
          refine q_getR (r := 79) dX11_lit_121 lf_M_66 rfl (by decide) (am_Lk hL rfl) (am_Lr hL rfl) ?_
          refine e_iload dX11_lit_124 rfl ?_
          refine q_ialdC (jn := _) dX11_lit_126 (am_Ls hL rfl) i12 rfl ?_
          refine e_aload_n dX11_lit_127 rfl ?_
          refine q_getR (r := 68) dX11_lit_128 lf_M_32 rfl (by decide) (am_Lk hL rfl) (am_Lr hL rfl) ?_
          refine e_iload dX11_lit_131 rfl ?_
          refine q_ialdC (jn := _) dX11_lit_133 (am_Ls hL rfl) i12 rfl ?_
          refine e_if2_lt dX11_lit_134 (tgt := 141) (by decide) ?_ ?_
          · refine e_msk [true, false, false, false, true] (LS1 := [_, none, none, none, _]) rfl ?_
            exact hj13 () 
          · refine e_iconst dX11_lit_137 (v := 1) (by decide) ?_
            refine e_goto dX11_lit_138 (tgt := 142) (by decide) ?_
            refine e_iadd dX11_lit_142 ?_
            refine e_istore_n dX11_lit_143 (by decide) (LS1 := [_, none, none, _, _]) rfl ?_
            refine e_iinc dX11_lit_144 rfl (v := _ + 1) rfl (by decide) (LS1 := [_, none, none, _, _]) rfl ?_
            refine e_goto dX11_lit_147 (tgt := 103) (by decide) ?_
            exact ih (v3 + 1) (v4 + 1)

set_option maxRecDepth 100000 in
set_option maxHeartbeats 4000000 in
theorem s_X11_lit {l : Launch} {g : am_G} {B : am_M} {pl : Nat} (hL : am_Lay B pl) (a1 : Int32)  (u : am_U) : am_E l g d_X11_lit 0 (am_ent d_X11_lit [.ref (60), .int (a1)]) [] (am_of B u) (am_r (am_bI B) (f_X11_lit a1 u)) := by
  unfold f_X11_lit
  show am_E l g d_X11_lit 0 [some (.ref (60)), some (.int (a1)), none, none, none] [] (am_of B u) _
  refine e_iconst dX11_lit_0 (v := 0) (by decide) ?_
  refine e_istore_n dX11_lit_1 (by decide) (LS1 := [_, _, _, none, none]) rfl ?_
  refine s_X11_lit_2 hL _ _ (fun c3u => ?_) _ _ _
  · refine e_aload_n dX11_lit_20 rfl ?_
    refine e_iconst dX11_lit_21 (v := 0) (by decide) ?_
    refine q_putI dX11_lit_22 lf_M_237 rfl (by decide) (am_Lk hL rfl) ?_
    refine e_iload_n dX11_lit_25 rfl ?_
    refine e_istore_n dX11_lit_26 (by decide) (LS1 := [_, _, _, none, none]) rfl ?_
    refine e_aload_n dX11_lit_27 rfl ?_
    refine q_getI dX11_lit_28 lf_M_184 (by decide) (am_Lk hL rfl) ?_
    refine e_iconst dX11_lit_31 (v := 1) (by decide) ?_
    refine e_isub dX11_lit_32 ?_
    refine e_istore_n dX11_lit_33 (by decide) (LS1 := [_, _, _, _, none]) rfl ?_
    refine e_msk [true, false, true, true, false] (LS1 := [_, none, _, _, none]) rfl ?_
    refine s_X11_lit_34 hL _ (fun c11u => ?_) _ _ _ _
    · refine e_iconst dX11_lit_98 (v := 0) (by decide) ?_
      refine e_istore_n dX11_lit_99 (by decide) (LS1 := [_, none, none, _, none]) rfl ?_
      refine e_iconst dX11_lit_100 (v := 1) (by decide) ?_
      refine e_istore dX11_lit_101 (by decide) (LS1 := [_, none, none, _, _]) rfl ?_
      refine s_X11_lit_103 hL _  _ _ _

def f_X11_lots_43 (v1 : Int32) : Nat → Int64 → Int32 → Int32 → am_U → Option (Int32 × am_U)
  | 0, _, _, _, _ => none
  | n + 1, v3, v5, v6, u =>
    if v1 ≤ v6 then (
      some (v5, u))
    else (
      am_ck (!((u 60 12).toInt64 == 0)) (
      let x3 : Int32 := ((((48271 : Int64) * v3) - ((48271 : Int64) * v3) / (2147483647 : Int64) * (2147483647 : Int64)) - (((48271 : Int64) * v3) - ((48271 : Int64) * v3) / (2147483647 : Int64) * (2147483647 : Int64)) / ((u 60 12).toInt64) * ((u 60 12).toInt64)).toInt32
      am_jn (fun (j4v8 : Int32) (j4u : am_U) =>
        if j4v8 < 0 then (
          f_X11_lots_43 v1 n (((48271 : Int64) * v3) - ((48271 : Int64) * v3) / (2147483647 : Int64) * (2147483647 : Int64)) (v5 + 0) (v6 + 1) j4u)
        else (
          f_X11_lots_43 v1 n (((48271 : Int64) * v3) - ((48271 : Int64) * v3) / (2147483647 : Int64) * (2147483647 : Int64)) (v5 + 1) (v6 + 1) j4u)) (fun j4 =>
      if ((((((48271 : Int64) * v3) - ((48271 : Int64) * v3) / (2147483647 : Int64) * (2147483647 : Int64)) / (64 : Int64)) - ((((48271 : Int64) * v3) - ((48271 : Int64) * v3) / (2147483647 : Int64) * (2147483647 : Int64)) / (64 : Int64)) / (5 : Int64) * (5 : Int64)).toInt32) = 0 then (
        (f_X11_fill x3 u).bind (fun q5 =>
        j4 q5.1 q5.2))
      else       if ((((((48271 : Int64) * v3) - ((48271 : Int64) * v3) / (2147483647 : Int64) * (2147483647 : Int64)) / (64 : Int64)) - ((((48271 : Int64) * v3) - ((48271 : Int64) * v3) / (2147483647 : Int64) * (2147483647 : Int64)) / (64 : Int64)) / (5 : Int64) * (5 : Int64)).toInt32) = 1 then (
        (f_X11_carry x3 1 u).bind (fun q6 =>
        j4 q6.1 q6.2))
      else       if ((((((48271 : Int64) * v3) - ((48271 : Int64) * v3) / (2147483647 : Int64) * (2147483647 : Int64)) / (64 : Int64)) - ((((48271 : Int64) * v3) - ((48271 : Int64) * v3) / (2147483647 : Int64) * (2147483647 : Int64)) / (64 : Int64)) / (5 : Int64) * (5 : Int64)).toInt32) = 2 then (
        (f_X11_spend x3 1 u).bind (fun q7 =>
        j4 q7.1 q7.2))
      else       if ((((((48271 : Int64) * v3) - ((48271 : Int64) * v3) / (2147483647 : Int64) * (2147483647 : Int64)) / (64 : Int64)) - ((((48271 : Int64) * v3) - ((48271 : Int64) * v3) / (2147483647 : Int64) * (2147483647 : Int64)) / (64 : Int64)) / (5 : Int64) * (5 : Int64)).toInt32) = 3 then (
        am_ck (!(u 60 12 == 0)) (
        (f_X11_pour x3 ((x3 + 1) - (x3 + 1) / (u 60 12) * (u 60 12)) u).bind (fun q8 =>
        j4 q8.1 q8.2)))
      else (
        (f_X11_night u).bind (fun q9 =>
        j4 q9.1 q9.2)))))
def f_X11_lots (a1 : Int32) (a2 : Int32) (u : am_U) : Option (Int32 × am_U) :=
  (f_X11_in a1 1 40).bind (fun q1 =>
  if q1 = 0 then (
    some (((-1) : Int32), u))
  else (
    (f_X11_in a2 1 2147483646).bind (fun q2 =>
    if ¬ q2 = 0 then (
      if 2 ≤ (u 60 12) then (
        f_X11_lots_43 a1 20000 a2.toInt64 0 0 u)
      else (
        some (((-4) : Int32), u)))
    else (
      some (((-1) : Int32), u)))))
set_option maxRecDepth 100000 in
set_option maxHeartbeats 4000000 in
theorem s_X11_lots_43 {l : Launch} {g : am_G} {B : am_M} {pl : Nat} (hL : am_Lay B pl) (v1 : Int32)    : ∀ (n : Nat) (v3 : Int64) (v5 : Int32) (v6 : Int32) (u : am_U), am_E l g d_X11_lots 43 [some (.ref (60)), some (.int (v1)), none, some (.long (v3)), none, some (.int (v5)), some (.int (v6)), none, none] [] (am_of B u) (am_r (am_bI B) (f_X11_lots_43 v1 n v3 v5 v6 u)) := by
  intro n
  induction n with
  | zero => intro v3 v5 v6 u; exact am_none
  | succ n ih =>
    intro v3 v5 v6 u
    unfold f_X11_lots_43
    refine e_iload dX11_lots_43 rfl ?_
    refine e_iload_n dX11_lots_45 rfl ?_
    refine e_if2_ge dX11_lots_46 (tgt := 190) (by decide) ?_ ?_
    · refine e_iload dX11_lots_190 rfl ?_
      exact e_iret dX11_lots_192 rfl rfl
    · refine e_ldc2 dX11_lots_49 ll_M_305 ?_
      refine e_lload_n dX11_lots_52 rfl ?_
      refine e_lmul dX11_lots_53 ?_
      refine e_ldc2 dX11_lots_54 ll_M_307 ?_
      refine e_lrem dX11_lots_57 (by decide) ?_
      refine e_lstore_n dX11_lots_58 (by decide) (LS1 := [_, _, none, _, none, _, _, none, none]) rfl ?_
      refine e_lload_n dX11_lots_59 rfl ?_
      refine e_aload_n dX11_lots_60 rfl ?_
      refine q_getI dX11_lots_61 lf_M_184 (by decide) (am_Lk hL rfl) ?_
      refine e_i2l dX11_lots_64 ?_
      refine e_lremq dX11_lots_65 ?_
      refine e_l2i dX11_lots_66 ?_
      refine e_istore dX11_lots_67 (by decide) (LS1 := [_, _, none, _, none, _, _, _, none]) rfl ?_
      refine e_lload_n dX11_lots_69 rfl ?_
      refine e_ldc2 dX11_lots_70 ll_M_309 ?_
      refine e_ldiv dX11_lots_73 (by decide) ?_
      refine e_ldc2 dX11_lots_74 ll_M_311 ?_
      refine e_lrem dX11_lots_77 (by decide) ?_
      refine e_l2i dX11_lots_78 ?_
      refine e_jn (P := fun t : Int32 → am_U → Option (Int32 × am_U) => ∀ (j4v8 : Int32) (j4u : am_U), am_E l g d_X11_lots 169 [some (.ref (60)), some (.int (v1)), none, some (.long (((48271 : Int64) * v3) - ((48271 : Int64) * v3) / (2147483647 : Int64) * (2147483647 : Int64))), none, some (.int (v5)), some (.int (v6)), none, some (.int (j4v8))] [] (am_of B j4u) (am_r (am_bI B) (t j4v8 j4u))) ?_ (fun j4 hj4 => ?_)
      · intro j4v8 j4u
        refine e_iload dX11_lots_169 rfl ?_
        refine e_iload dX11_lots_171 rfl ?_
        refine e_if_lt dX11_lots_173 (tgt := 180) (by decide) ?_ ?_
        · refine e_iconst dX11_lots_180 (v := 0) (by decide) ?_
          refine e_iadd dX11_lots_181 ?_
          refine e_istore dX11_lots_182 (by decide) (LS1 := [_, _, none, _, none, _, _, none, _]) rfl ?_
          refine e_iinc dX11_lots_184 rfl (v := _ + 1) rfl (by decide) (LS1 := [_, _, none, _, none, _, _, none, _]) rfl ?_
          refine e_goto dX11_lots_187 (tgt := 43) (by decide) ?_
          refine e_msk [true, true, false, true, false, true, true, false, false] (LS1 := [_, _, none, _, none, _, _, none, none]) rfl ?_
          exact ih (((48271 : Int64) * v3) - ((48271 : Int64) * v3) / (2147483647 : Int64) * (2147483647 : Int64)) (v5 + 0) (v6 + 1) j4u
        · refine e_iconst dX11_lots_176 (v := 1) (by decide) ?_
          refine e_goto dX11_lots_177 (tgt := 181) (by decide) ?_
          refine e_iadd dX11_lots_181 ?_
          refine e_istore dX11_lots_182 (by decide) (LS1 := [_, _, none, _, none, _, _, none, _]) rfl ?_
          refine e_iinc dX11_lots_184 rfl (v := _ + 1) rfl (by decide) (LS1 := [_, _, none, _, none, _, _, none, _]) rfl ?_
          refine e_goto dX11_lots_187 (tgt := 43) (by decide) ?_
          refine e_msk [true, true, false, true, false, true, true, false, false] (LS1 := [_, _, none, _, none, _, _, none, none]) rfl ?_
          exact ih (((48271 : Int64) * v3) - ((48271 : Int64) * v3) / (2147483647 : Int64) * (2147483647 : Int64)) (v5 + 1) (v6 + 1) j4u
      · refine e_sw (c := 0) (fun hc => ?_) (fun hn0 => ?_)
        · rw [hc]
          refine e_tabIn dX11_lots_79 (tgt := 108) (by decide) (by decide) rfl (by decide) ?_
          refine e_aload_n dX11_lots_108 rfl ?_
          refine e_iload dX11_lots_109 rfl ?_
          refine q_callVI (As := [_]) rfl dX11_lots_111 lm_M_313 (am_fitB rfl) yo_X11_fill ys_X11_fill rfl rfl (by decide) (am_Lk hL rfl) rfl (Nat.le_of_ble_eq_true rfl) (Nat.le_of_ble_eq_true rfl) (s_X11_fill hL _  _) (fun q5 => ?_)
          refine e_istore dX11_lots_114 (by decide) (LS1 := [_, _, none, _, none, _, _, _, _]) rfl ?_
          refine e_goto dX11_lots_116 (tgt := 169) (by decide) ?_
          refine e_msk [true, true, false, true, false, true, true, false, true] (LS1 := [_, _, none, _, none, _, _, none, _]) rfl ?_
          exact hj4 q5.1 q5.2
        refine e_sw (c := 1) (fun hc => ?_) (fun hn1 => ?_)
        · rw [hc]
          refine e_tabIn dX11_lots_79 (tgt := 119) (by decide) (by decide) rfl (by decide) ?_
          refine e_aload_n dX11_lots_119 rfl ?_
          refine e_iload dX11_lots_120 rfl ?_
          refine e_iconst dX11_lots_122 (v := 1) (by decide) ?_
          refine q_callVI (As := [_, _]) rfl dX11_lots_123 lm_M_316 (am_fitB rfl) yo_X11_carry ys_X11_carry rfl rfl (by decide) (am_Lk hL rfl) rfl (Nat.le_of_ble_eq_true rfl) (Nat.le_of_ble_eq_true rfl) (s_X11_carry hL _ _  _) (fun q6 => ?_)
          refine e_istore dX11_lots_126 (by decide) (LS1 := [_, _, none, _, none, _, _, _, _]) rfl ?_
          refine e_goto dX11_lots_128 (tgt := 169) (by decide) ?_
          refine e_msk [true, true, false, true, false, true, true, false, true] (LS1 := [_, _, none, _, none, _, _, none, _]) rfl ?_
          exact hj4 q6.1 q6.2
        refine e_sw (c := 2) (fun hc => ?_) (fun hn2 => ?_)
        · rw [hc]
          refine e_tabIn dX11_lots_79 (tgt := 131) (by decide) (by decide) rfl (by decide) ?_
          refine e_aload_n dX11_lots_131 rfl ?_
          refine e_iload dX11_lots_132 rfl ?_
          refine e_iconst dX11_lots_134 (v := 1) (by decide) ?_
          refine q_callVI (As := [_, _]) rfl dX11_lots_135 lm_M_319 (am_fitB rfl) yo_X11_spend ys_X11_spend rfl rfl (by decide) (am_Lk hL rfl) rfl (Nat.le_of_ble_eq_true rfl) (Nat.le_of_ble_eq_true rfl) (s_X11_spend hL _ _  _) (fun q7 => ?_)
          refine e_istore dX11_lots_138 (by decide) (LS1 := [_, _, none, _, none, _, _, _, _]) rfl ?_
          refine e_goto dX11_lots_140 (tgt := 169) (by decide) ?_
          refine e_msk [true, true, false, true, false, true, true, false, true] (LS1 := [_, _, none, _, none, _, _, none, _]) rfl ?_
          exact hj4 q7.1 q7.2
        refine e_sw (c := 3) (fun hc => ?_) (fun hn3 => ?_)
        · rw [hc]
          refine e_tabIn dX11_lots_79 (tgt := 143) (by decide) (by decide) rfl (by decide) ?_
          refine e_aload_n dX11_lots_143 rfl ?_
          refine e_iload dX11_lots_144 rfl ?_
          refine e_iload dX11_lots_146 rfl ?_
          refine e_iconst dX11_lots_148 (v := 1) (by decide) ?_
          refine e_iadd dX11_lots_149 ?_
          refine e_aload_n dX11_lots_150 rfl ?_
          refine q_getI dX11_lots_151 lf_M_184 (by decide) (am_Lk hL rfl) ?_
          refine e_remq dX11_lots_154 ?_
          refine q_callVI (As := [_, _]) rfl dX11_lots_155 lm_M_322 (am_fitB rfl) yo_X11_pour ys_X11_pour rfl rfl (by decide) (am_Lk hL rfl) rfl (Nat.le_of_ble_eq_true rfl) (Nat.le_of_ble_eq_true rfl) (s_X11_pour hL _ _  _) (fun q8 => ?_)
          refine e_istore dX11_lots_158 (by decide) (LS1 := [_, _, none, _, none, _, _, _, _]) rfl ?_
          refine e_goto dX11_lots_160 (tgt := 169) (by decide) ?_
          refine e_msk [true, true, false, true, false, true, true, false, true] (LS1 := [_, _, none, _, none, _, _, none, _]) rfl ?_
          exact hj4 q8.1 q8.2
        have hm0 := lv_neT hn0 (show (0 : Int32).toInt = 0 by decide)
        have hm1 := lv_neT hn1 (show (1 : Int32).toInt = 1 by decide)
        have hm2 := lv_neT hn2 (show (2 : Int32).toInt = 2 by decide)
        have hm3 := lv_neT hn3 (show (3 : Int32).toInt = 3 by decide)
        refine e_tabOut dX11_lots_79 (tgt := 163) (by omega) (by decide) ?_
        refine e_aload_n dX11_lots_163 rfl ?_
        refine q_callVI (As := []) rfl dX11_lots_164 lm_M_325 (am_fitB rfl) yo_X11_night ys_X11_night rfl rfl (by decide) (am_Lk hL rfl) rfl (Nat.le_of_ble_eq_true rfl) (Nat.le_of_ble_eq_true rfl) (s_X11_night hL   _) (fun q9 => ?_)
        refine e_istore dX11_lots_167 (by decide) (LS1 := [_, _, none, _, none, _, _, _, _]) rfl ?_
        refine e_msk [true, true, false, true, false, true, true, false, true] (LS1 := [_, _, none, _, none, _, _, none, _]) rfl ?_
        exact hj4 q9.1 q9.2

set_option maxRecDepth 100000 in
set_option maxHeartbeats 4000000 in
theorem s_X11_lots {l : Launch} {g : am_G} {B : am_M} {pl : Nat} (hL : am_Lay B pl) (a1 : Int32) (a2 : Int32)  (u : am_U) : am_E l g d_X11_lots 0 (am_ent d_X11_lots [.ref (60), .int (a1), .int (a2)]) [] (am_of B u) (am_r (am_bI B) (f_X11_lots a1 a2 u)) := by
  unfold f_X11_lots
  show am_E l g d_X11_lots 0 [some (.ref (60)), some (.int (a1)), some (.int (a2)), none, none, none, none, none, none] [] (am_of B u) _
  refine e_iload_n dX11_lots_0 rfl ?_
  refine e_iconst dX11_lots_1 (v := 1) (by decide) ?_
  refine e_bipush dX11_lots_2 (v := 40) (by decide) ?_
  refine q_callSP (As := [_, _, _]) rfl dX11_lots_4 lm_M_106 (am_fitB rfl) yo_X11_in ys_X11_in rfl (Nat.le_of_ble_eq_true rfl) (Nat.le_of_ble_eq_true rfl) (s_X11_in hL _ _ _  _) (fun q1 => ?_)
  refine e_if_eq dX11_lots_7 (tgt := 21) (by decide) ?_ ?_
  · refine e_iconst dX11_lots_21 (v := ((-1) : Int32)) (by decide) ?_
    exact e_iret dX11_lots_22 rfl rfl
  · refine e_iload_n dX11_lots_10 rfl ?_
    refine e_iconst dX11_lots_11 (v := 1) (by decide) ?_
    refine e_ldcw dX11_lots_12 lc_M_304 ?_
    refine q_callSP (As := [_, _, _]) rfl dX11_lots_15 lm_M_106 (am_fitB rfl) yo_X11_in ys_X11_in rfl (Nat.le_of_ble_eq_true rfl) (Nat.le_of_ble_eq_true rfl) (s_X11_in hL _ _ _  _) (fun q2 => ?_)
    refine e_if_ne dX11_lots_18 (tgt := 23) (by decide) ?_ ?_
    · refine e_aload_n dX11_lots_23 rfl ?_
      refine q_getI dX11_lots_24 lf_M_184 (by decide) (am_Lk hL rfl) ?_
      refine e_iconst dX11_lots_27 (v := 2) (by decide) ?_
      refine e_if2_ge dX11_lots_28 (tgt := 34) (by decide) ?_ ?_
      · refine e_iload_n dX11_lots_34 rfl ?_
        refine e_i2l dX11_lots_35 ?_
        refine e_lstore_n dX11_lots_36 (by decide) (LS1 := [_, _, _, _, none, none, none, none, none]) rfl ?_
        refine e_iconst dX11_lots_37 (v := 0) (by decide) ?_
        refine e_istore dX11_lots_38 (by decide) (LS1 := [_, _, _, _, none, _, none, none, none]) rfl ?_
        refine e_iconst dX11_lots_40 (v := 0) (by decide) ?_
        refine e_istore dX11_lots_41 (by decide) (LS1 := [_, _, _, _, none, _, _, none, none]) rfl ?_
        refine e_msk [true, true, false, true, false, true, true, false, false] (LS1 := [_, _, none, _, none, _, _, none, none]) rfl ?_
        refine s_X11_lots_43 hL _ _ _ _ _ _
      · refine e_bipush dX11_lots_31 (v := ((-4) : Int32)) (by decide) ?_
        exact e_iret dX11_lots_33 rfl rfl
    · refine e_iconst dX11_lots_21 (v := ((-1) : Int32)) (by decide) ?_
      exact e_iret dX11_lots_22 rfl rfl

def f_X11_needStates (a1 : Int32) (a2 : Int32) (u : am_U) : Option (Int32 × am_U) :=
  if a1 = 0 then (
    some (((-1) : Int32), u))
  else (
    (f_X11_isJar a2 u).bind (fun q1 =>
    if ¬ q1 = 0 then (
      (f_X11_layHere a2 u).bind (fun q2 =>
      if (q2 60 32) ≤ 3 then (
        (f_X11_layStates q2).bind (fun q3 =>
        some (0, q3)))
      else (
        some (((-6) : Int32), q2))))
    else (
      some (((-1) : Int32), u))))
set_option maxRecDepth 100000 in
set_option maxHeartbeats 4000000 in
theorem s_X11_needStates {l : Launch} {g : am_G} {B : am_M} {pl : Nat} (hL : am_Lay B pl) (a1 : Int32) (a2 : Int32)  (u : am_U) : am_E l g d_X11_needStates 0 (am_ent d_X11_needStates [.ref (60), .int (a1), .int (a2)]) [] (am_of B u) (am_r (am_bI B) (f_X11_needStates a1 a2 u)) := by
  unfold f_X11_needStates
  show am_E l g d_X11_needStates 0 [some (.ref (60)), some (.int (a1)), some (.int (a2))] [] (am_of B u) _
  refine e_iload_n dX11_needStates_0 rfl ?_
  refine e_if_eq dX11_needStates_1 (tgt := 12) (by decide) ?_ ?_
  · refine e_iconst dX11_needStates_12 (v := ((-1) : Int32)) (by decide) ?_
    exact e_iret dX11_needStates_13 rfl rfl
  · refine e_aload_n dX11_needStates_4 rfl ?_
    refine e_iload_n dX11_needStates_5 rfl ?_
    refine q_callVP (As := [_]) rfl dX11_needStates_6 lm_M_200 (am_fitB rfl) yo_X11_isJar ys_X11_isJar rfl rfl (by decide) (am_Lk hL rfl) rfl (Nat.le_of_ble_eq_true rfl) (Nat.le_of_ble_eq_true rfl) (s_X11_isJar hL _  _) (fun q1 => ?_)
    refine e_if_ne dX11_needStates_9 (tgt := 14) (by decide) ?_ ?_
    · refine e_aload_n dX11_needStates_14 rfl ?_
      refine e_iload_n dX11_needStates_15 rfl ?_
      refine q_callVV (As := [_]) rfl dX11_needStates_16 lm_M_273 (am_fitB rfl) yo_X11_layHere ys_X11_layHere rfl rfl (by decide) (am_Lk hL rfl) rfl (Nat.le_of_ble_eq_true rfl) (Nat.le_of_ble_eq_true rfl) (s_X11_layHere hL _  _) (fun q2 => ?_)
      refine e_aload_n dX11_needStates_19 rfl ?_
      refine q_getI dX11_needStates_20 lf_M_256 (by decide) (am_Lk hL rfl) ?_
      refine e_iconst dX11_needStates_23 (v := 3) (by decide) ?_
      refine e_if2_le dX11_needStates_24 (tgt := 30) (by decide) ?_ ?_
      · refine e_aload_n dX11_needStates_30 rfl ?_
        refine q_callVV (As := []) rfl dX11_needStates_31 lm_M_276 (am_fitB rfl) yo_X11_layStates ys_X11_layStates rfl rfl (by decide) (am_Lk hL rfl) rfl (Nat.le_of_ble_eq_true rfl) (Nat.le_of_ble_eq_true rfl) (s_X11_layStates hL   _) (fun q3 => ?_)
        refine e_iconst dX11_needStates_34 (v := 0) (by decide) ?_
        exact e_iret dX11_needStates_35 rfl rfl
      · refine e_bipush dX11_needStates_27 (v := ((-6) : Int32)) (by decide) ?_
        exact e_iret dX11_needStates_29 rfl rfl
    · refine e_iconst dX11_needStates_12 (v := ((-1) : Int32)) (by decide) ?_
      exact e_iret dX11_needStates_13 rfl rfl

def f_X11_needs_30 (u : am_U) (v1 : Int32) (v2 : Int32) (v3 : Int32) (k70 : Int32 → Option (Int32 × am_U)) : Nat → Int32 → Int32 → Option (Int32 × am_U)
  | 0, _, _ => none
  | n + 1, v4, v5 =>
    if (u 60 12) ≤ v5 then (
      k70 v4)
    else (
      (f_X11_has v3 v5).bind (fun q2 =>
      if q2 = 0 then (
        f_X11_needs_30 u v1 v2 v3 k70 n (v4 + 0) (v5 + 1))
      else (
        (f_X11_hoursAt v5 v1 u).bind (fun q3 =>
        f_X11_needs_30 u v1 v2 v3 k70 n (v4 + q3) (v5 + 1)))))
def f_X11_needs_14 (u : am_U) (v1 : Int32) (k110 : Int32 → Option (Int32 × am_U)) : Nat → Int32 → Int32 → Option (Int32 × am_U)
  | 0, _, _ => none
  | n + 1, v2, v3 =>
    if (1 <<< ((u 60 12) &&& 31)) ≤ v3 then (
      k110 v2)
    else (
      f_X11_needs_30 u v1 v2 v3 (fun (c4v4 : Int32) =>
        am_ck (am_ix v1 5) (
        if c4v4 < (u 68 v1.toNatClampNeg) then (
          f_X11_needs_14 u v1 k110 n v2 (v3 + 1))
        else (
          am_jn (fun (j6z : Unit) =>
            f_X11_needs_14 u v1 k110 n v3 (v3 + 1)) (fun j6 =>
          if v2 = ((-9) : Int32) then (
            j6 () )
          else (
            (f_X11_bits v3).bind (fun q7 =>
            (f_X11_bits v2).bind (fun q8 =>
            if q8 ≤ q7 then (
              f_X11_needs_14 u v1 k110 n v2 (v3 + 1))
            else (
              j6 () )))))))) 20000 0 0)
def f_X11_needs (a1 : Int32) (u : am_U) : Option (Int32 × am_U) :=
  (f_X11_isValley a1).bind (fun q1 =>
  if ¬ q1 = 0 then (
    f_X11_needs_14 u a1 (fun (c9v2 : Int32) =>
      if ¬ c9v2 = ((-9) : Int32) then (
        (f_X11_bits c9v2).bind (fun q10 =>
        (f_X11_tells c9v2 q10 u).bind (fun q11 =>
        some (q11.1, q11.2))))
      else (
        some (((-9) : Int32), u))) 20000 ((-9) : Int32) 0)
  else (
    some (((-1) : Int32), u)))
set_option maxRecDepth 100000 in
set_option maxHeartbeats 4000000 in
theorem s_X11_needs_30 {l : Launch} {g : am_G} {B : am_M} {pl : Nat} (hL : am_Lay B pl) (u : am_U) (v1 : Int32) (v2 : Int32) (v3 : Int32)  (k70 : Int32 → Option (Int32 × am_U)) (hk70 : ∀ (v4 : Int32), am_E l g d_X11_needs 70 [some (.ref (60)), some (.int (v1)), some (.int (v2)), some (.int (v3)), some (.int (v4)), none] [] (am_of B u) (am_r (am_bI B) (k70 v4))) : ∀ (n : Nat) (v4 : Int32) (v5 : Int32), am_E l g d_X11_needs 30 [some (.ref (60)), some (.int (v1)), some (.int (v2)), some (.int (v3)), some (.int (v4)), some (.int (v5))] [] (am_of B u) (am_r (am_bI B) (f_X11_needs_30 u v1 v2 v3 k70 n v4 v5)) := by
  intro n
  induction n with
  | zero => intro v4 v5; exact am_none
  | succ n ih =>
    intro v4 v5
    unfold f_X11_needs_30
    refine e_iload dX11_needs_30 rfl ?_
    refine e_aload_n dX11_needs_32 rfl ?_
    refine q_getI dX11_needs_33 lf_M_184 (by decide) (am_Lk hL rfl) ?_
    refine e_if2_ge dX11_needs_36 (tgt := 70) (by decide) ?_ ?_
    · refine e_msk [true, true, true, true, true, false] (LS1 := [_, _, _, _, _, none]) rfl ?_
      exact hk70 v4
    · refine e_iload dX11_needs_39 rfl ?_
      refine e_iload_n dX11_needs_41 rfl ?_
      refine e_iload dX11_needs_42 rfl ?_
      refine q_callSP (As := [_, _]) rfl dX11_needs_44 lm_M_246 (am_fitB rfl) yo_X11_has ys_X11_has rfl (Nat.le_of_ble_eq_true rfl) (Nat.le_of_ble_eq_true rfl) (s_X11_has hL _ _  _) (fun q2 => ?_)
      refine e_if_eq dX11_needs_47 (tgt := 60) (by decide) ?_ ?_
      · refine e_iconst dX11_needs_60 (v := 0) (by decide) ?_
        refine e_iadd dX11_needs_61 ?_
        refine e_istore dX11_needs_62 (by decide) (LS1 := [_, _, _, _, _, _]) rfl ?_
        refine e_iinc dX11_needs_64 rfl (v := _ + 1) rfl (by decide) (LS1 := [_, _, _, _, _, _]) rfl ?_
        refine e_goto dX11_needs_67 (tgt := 30) (by decide) ?_
        exact ih (v4 + 0) (v5 + 1)
      · refine e_aload_n dX11_needs_50 rfl ?_
        refine e_iload dX11_needs_51 rfl ?_
        refine e_iload_n dX11_needs_53 rfl ?_
        refine q_callVP (As := [_, _]) rfl dX11_needs_54 lm_M_234 (am_fitB rfl) yo_X11_hoursAt ys_X11_hoursAt rfl rfl (by decide) (am_Lk hL rfl) rfl (Nat.le_of_ble_eq_true rfl) (Nat.le_of_ble_eq_true rfl) (s_X11_hoursAt hL _ _  _) (fun q3 => ?_)
        refine e_goto dX11_needs_57 (tgt := 61) (by decide) ?_
        refine e_iadd dX11_needs_61 ?_
        refine e_istore dX11_needs_62 (by decide) (LS1 := [_, _, _, _, _, _]) rfl ?_
        refine e_iinc dX11_needs_64 rfl (v := _ + 1) rfl (by decide) (LS1 := [_, _, _, _, _, _]) rfl ?_
        refine e_goto dX11_needs_67 (tgt := 30) (by decide) ?_
        exact ih (v4 + q3) (v5 + 1)

set_option maxRecDepth 100000 in
set_option maxHeartbeats 4000000 in
theorem s_X11_needs_14 {l : Launch} {g : am_G} {B : am_M} {pl : Nat} (hL : am_Lay B pl) (u : am_U) (v1 : Int32)  (k110 : Int32 → Option (Int32 × am_U)) (hk110 : ∀ (v2 : Int32), am_E l g d_X11_needs 110 [some (.ref (60)), none, some (.int (v2)), none, none, none] [] (am_of B u) (am_r (am_bI B) (k110 v2))) : ∀ (n : Nat) (v2 : Int32) (v3 : Int32), am_E l g d_X11_needs 14 [some (.ref (60)), some (.int (v1)), some (.int (v2)), some (.int (v3)), none, none] [] (am_of B u) (am_r (am_bI B) (f_X11_needs_14 u v1 k110 n v2 v3)) := by
  intro n
  induction n with
  | zero => intro v2 v3; exact am_none
  | succ n ih =>
    intro v2 v3
    unfold f_X11_needs_14
    refine e_iload_n dX11_needs_14 rfl ?_
    refine e_iconst dX11_needs_15 (v := 1) (by decide) ?_
    refine e_aload_n dX11_needs_16 rfl ?_
    refine q_getI dX11_needs_17 lf_M_184 (by decide) (am_Lk hL rfl) ?_
    refine e_ishl dX11_needs_20 ?_
    refine e_if2_ge dX11_needs_21 (tgt := 110) (by decide) ?_ ?_
    · refine e_msk [true, false, true, false, false, false] (LS1 := [_, none, _, none, none, none]) rfl ?_
      exact hk110 v2
    · refine e_iconst dX11_needs_24 (v := 0) (by decide) ?_
      refine e_istore dX11_needs_25 (by decide) (LS1 := [_, _, _, _, _, none]) rfl ?_
      refine e_iconst dX11_needs_27 (v := 0) (by decide) ?_
      refine e_istore dX11_needs_28 (by decide) (LS1 := [_, _, _, _, _, _]) rfl ?_
      refine s_X11_needs_30 hL _ _ _ _ _ (fun c4v4 => ?_) _ _ _
      · refine e_iload dX11_needs_70 rfl ?_
        refine e_aload_n dX11_needs_72 rfl ?_
        refine q_getR (r := 68) dX11_needs_73 lf_M_32 rfl (by decide) (am_Lk hL rfl) (am_Lr hL rfl) ?_
        refine e_iload_n dX11_needs_76 rfl ?_
        refine q_ialdH dX11_needs_77 (am_Ls hL rfl) (fun i5 => ?_)
        refine e_if2_lt dX11_needs_78 (tgt := 102) (by decide) ?_ ?_
        · refine e_iload_n dX11_needs_102 rfl ?_
          refine e_istore_n dX11_needs_103 (by decide) (LS1 := [_, _, _, _, _, none]) rfl ?_
          refine e_iinc dX11_needs_104 rfl (v := _ + 1) rfl (by decide) (LS1 := [_, _, _, _, _, none]) rfl ?_
          refine e_goto dX11_needs_107 (tgt := 14) (by decide) ?_
          refine e_msk [true, true, true, true, false, false] (LS1 := [_, _, _, _, none, none]) rfl ?_
          exact ih v2 (v3 + 1)
        · refine e_iload_n dX11_needs_81 rfl ?_
          refine e_bipush dX11_needs_82 (v := ((-9) : Int32)) (by decide) ?_
          refine e_jn (P := fun t : Unit → Option (Int32 × am_U) => ∀ (j6z : Unit), am_E l g d_X11_needs 98 [some (.ref (60)), some (.int (v1)), none, some (.int (v3)), none, none] [] (am_of B u) (am_r (am_bI B) (t j6z))) ?_ (fun j6 hj6 => ?_)
          · intro j6z
            refine e_iload_n dX11_needs_98 rfl ?_
            refine e_goto dX11_needs_99 (tgt := 103) (by decide) ?_
            refine e_istore_n dX11_needs_103 (by decide) (LS1 := [_, _, _, _, none, none]) rfl ?_
            refine e_iinc dX11_needs_104 rfl (v := _ + 1) rfl (by decide) (LS1 := [_, _, _, _, none, none]) rfl ?_
            refine e_goto dX11_needs_107 (tgt := 14) (by decide) ?_
            exact ih v3 (v3 + 1)
          · refine e_if2_eq dX11_needs_84 (tgt := 98) (by decide) ?_ ?_
            · refine e_msk [true, true, false, true, false, false] (LS1 := [_, _, none, _, none, none]) rfl ?_
              exact hj6 () 
            · refine e_iload_n dX11_needs_87 rfl ?_
              refine q_callSP (As := [_]) rfl dX11_needs_88 lm_M_249 (am_fitB rfl) yo_X11_bits ys_X11_bits rfl (Nat.le_of_ble_eq_true rfl) (Nat.le_of_ble_eq_true rfl) (s_X11_bits hL _  _) (fun q7 => ?_)
              refine e_iload_n dX11_needs_91 rfl ?_
              refine q_callSP (As := [_]) rfl dX11_needs_92 lm_M_249 (am_fitB rfl) yo_X11_bits ys_X11_bits rfl (Nat.le_of_ble_eq_true rfl) (Nat.le_of_ble_eq_true rfl) (s_X11_bits hL _  _) (fun q8 => ?_)
              refine e_if2_ge dX11_needs_95 (tgt := 102) (by decide) ?_ ?_
              · refine e_iload_n dX11_needs_102 rfl ?_
                refine e_istore_n dX11_needs_103 (by decide) (LS1 := [_, _, _, _, _, none]) rfl ?_
                refine e_iinc dX11_needs_104 rfl (v := _ + 1) rfl (by decide) (LS1 := [_, _, _, _, _, none]) rfl ?_
                refine e_goto dX11_needs_107 (tgt := 14) (by decide) ?_
                refine e_msk [true, true, true, true, false, false] (LS1 := [_, _, _, _, none, none]) rfl ?_
                exact ih v2 (v3 + 1)
              · refine e_msk [true, true, false, true, false, false] (LS1 := [_, _, none, _, none, none]) rfl ?_
                exact hj6 () 

set_option maxRecDepth 100000 in
set_option maxHeartbeats 4000000 in
theorem s_X11_needs {l : Launch} {g : am_G} {B : am_M} {pl : Nat} (hL : am_Lay B pl) (a1 : Int32)  (u : am_U) : am_E l g d_X11_needs 0 (am_ent d_X11_needs [.ref (60), .int (a1)]) [] (am_of B u) (am_r (am_bI B) (f_X11_needs a1 u)) := by
  unfold f_X11_needs
  show am_E l g d_X11_needs 0 [some (.ref (60)), some (.int (a1)), none, none, none, none] [] (am_of B u) _
  refine e_iload_n dX11_needs_0 rfl ?_
  refine q_callSP (As := [_]) rfl dX11_needs_1 lm_M_243 (am_fitB rfl) yo_X11_isValley ys_X11_isValley rfl (Nat.le_of_ble_eq_true rfl) (Nat.le_of_ble_eq_true rfl) (s_X11_isValley hL _  _) (fun q1 => ?_)
  refine e_if_ne dX11_needs_4 (tgt := 9) (by decide) ?_ ?_
  · refine e_bipush dX11_needs_9 (v := ((-9) : Int32)) (by decide) ?_
    refine e_istore_n dX11_needs_11 (by decide) (LS1 := [_, _, _, none, none, none]) rfl ?_
    refine e_iconst dX11_needs_12 (v := 0) (by decide) ?_
    refine e_istore_n dX11_needs_13 (by decide) (LS1 := [_, _, _, _, none, none]) rfl ?_
    refine s_X11_needs_14 hL _ _ _ (fun c9v2 => ?_) _ _ _
    · refine e_iload_n dX11_needs_110 rfl ?_
      refine e_bipush dX11_needs_111 (v := ((-9) : Int32)) (by decide) ?_
      refine e_if2_ne dX11_needs_113 (tgt := 121) (by decide) ?_ ?_
      · refine e_aload_n dX11_needs_121 rfl ?_
        refine e_iload_n dX11_needs_122 rfl ?_
        refine e_iload_n dX11_needs_123 rfl ?_
        refine q_callSP (As := [_]) rfl dX11_needs_124 lm_M_249 (am_fitB rfl) yo_X11_bits ys_X11_bits rfl (Nat.le_of_ble_eq_true rfl) (Nat.le_of_ble_eq_true rfl) (s_X11_bits hL _  _) (fun q10 => ?_)
        refine q_callVI (As := [_, _]) rfl dX11_needs_127 lm_M_125 (am_fitB rfl) yo_X11_tells ys_X11_tells rfl rfl (by decide) (am_Lk hL rfl) rfl (Nat.le_of_ble_eq_true rfl) (Nat.le_of_ble_eq_true rfl) (s_X11_tells hL _ _  _) (fun q11 => ?_)
        exact e_iret dX11_needs_130 rfl rfl
      · refine e_bipush dX11_needs_116 (v := ((-9) : Int32)) (by decide) ?_
        refine e_goto dX11_needs_118 (tgt := 130) (by decide) ?_
        exact e_iret dX11_needs_130 rfl rfl
  · refine e_iconst dX11_needs_7 (v := ((-1) : Int32)) (by decide) ?_
    exact e_iret dX11_needs_8 rfl rfl

def f_X11_test_17 (k74 : Int32 → Int32 → am_U → Option (Int32 × am_U)) : Nat → Int32 → Int32 → Int32 → am_U → Option (Int32 × am_U)
  | 0, _, _, _, _ => none
  | n + 1, v1, v2, v3, u =>
    if (1 <<< ((u 60 12) &&& 31)) ≤ v3 then (
      k74 v1 v2 u)
    else (
      (f_X11_leftBy v3 u).bind (fun q1 =>
      am_jn (fun (j2z : Unit) =>
        f_X11_test_17 k74 n v3 q1.1 (v3 + 1) q1.2) (fun j2 =>
      if v1 = ((-9) : Int32) then (
        j2 () )
      else (
        if q1.1 < v2 then (
          j2 () )
        else (
          if ¬ q1.1 = v2 then (
            f_X11_test_17 k74 n v1 v2 (v3 + 1) q1.2)
          else (
            (f_X11_bits v3).bind (fun q3 =>
            (f_X11_bits v1).bind (fun q4 =>
            if q4 ≤ q3 then (
              f_X11_test_17 k74 n v1 v2 (v3 + 1) q1.2)
            else (
              j2 () )))))))))
def f_X11_test (u : am_U) : Option (Int32 × am_U) :=
  if ¬ (u 60 12) = 0 then (
    f_X11_test_17 (fun (c5v1 : Int32) (c5v2 : Int32) (c5u : am_U) =>
      if ¬ c5v2 = 0 then (
        (f_X11_tells c5v2 c5v1 c5u).bind (fun q6 =>
        some (q6.1, q6.2)))
      else (
        (f_X11_meets 4 c5u).bind (fun q7 =>
        some (q7.1, q7.2)))) 20000 ((-9) : Int32) 0 1 u)
  else (
    some (((-4) : Int32), u))
set_option maxRecDepth 100000 in
set_option maxHeartbeats 4000000 in
theorem s_X11_test_17 {l : Launch} {g : am_G} {B : am_M} {pl : Nat} (hL : am_Lay B pl)   (k74 : Int32 → Int32 → am_U → Option (Int32 × am_U)) (hk74 : ∀ (v1 : Int32) (v2 : Int32) (u : am_U), am_E l g d_X11_test 74 [some (.ref (60)), some (.int (v1)), some (.int (v2)), none, none] [] (am_of B u) (am_r (am_bI B) (k74 v1 v2 u))) : ∀ (n : Nat) (v1 : Int32) (v2 : Int32) (v3 : Int32) (u : am_U), am_E l g d_X11_test 17 [some (.ref (60)), some (.int (v1)), some (.int (v2)), some (.int (v3)), none] [] (am_of B u) (am_r (am_bI B) (f_X11_test_17 k74 n v1 v2 v3 u)) := by
  intro n
  induction n with
  | zero => intro v1 v2 v3 u; exact am_none
  | succ n ih =>
    intro v1 v2 v3 u
    unfold f_X11_test_17
    refine e_iload_n dX11_test_17 rfl ?_
    refine e_iconst dX11_test_18 (v := 1) (by decide) ?_
    refine e_aload_n dX11_test_19 rfl ?_
    refine q_getI dX11_test_20 lf_M_184 (by decide) (am_Lk hL rfl) ?_
    refine e_ishl dX11_test_23 ?_
    refine e_if2_ge dX11_test_24 (tgt := 74) (by decide) ?_ ?_
    · refine e_msk [true, true, true, false, false] (LS1 := [_, _, _, none, none]) rfl ?_
      exact hk74 v1 v2 u
    · refine e_aload_n dX11_test_27 rfl ?_
      refine e_iload_n dX11_test_28 rfl ?_
      refine q_callVI (As := [_]) rfl dX11_test_29 lm_M_301 (am_fitB rfl) yo_X11_leftBy ys_X11_leftBy rfl rfl (by decide) (am_Lk hL rfl) rfl (Nat.le_of_ble_eq_true rfl) (Nat.le_of_ble_eq_true rfl) (s_X11_leftBy hL _  _) (fun q1 => ?_)
      refine e_istore dX11_test_32 (by decide) (LS1 := [_, _, _, _, _]) rfl ?_
      refine e_iload_n dX11_test_34 rfl ?_
      refine e_bipush dX11_test_35 (v := ((-9) : Int32)) (by decide) ?_
      refine e_jn (P := fun t : Unit → Option (Int32 × am_U) => ∀ (j2z : Unit), am_E l g d_X11_test 63 [some (.ref (60)), none, none, some (.int (v3)), some (.int (q1.1))] [] (am_of B q1.2) (am_r (am_bI B) (t j2z))) ?_ (fun j2 hj2 => ?_)
      · intro j2z
        refine e_iload_n dX11_test_63 rfl ?_
        refine e_istore_n dX11_test_64 (by decide) (LS1 := [_, _, none, _, _]) rfl ?_
        refine e_iload dX11_test_65 rfl ?_
        refine e_istore_n dX11_test_67 (by decide) (LS1 := [_, _, _, _, _]) rfl ?_
        refine e_iinc dX11_test_68 rfl (v := _ + 1) rfl (by decide) (LS1 := [_, _, _, _, _]) rfl ?_
        refine e_goto dX11_test_71 (tgt := 17) (by decide) ?_
        refine e_msk [true, true, true, true, false] (LS1 := [_, _, _, _, none]) rfl ?_
        exact ih v3 q1.1 (v3 + 1) q1.2
      · refine e_if2_eq dX11_test_37 (tgt := 63) (by decide) ?_ ?_
        · refine e_msk [true, false, false, true, true] (LS1 := [_, none, none, _, _]) rfl ?_
          exact hj2 () 
        · refine e_iload dX11_test_40 rfl ?_
          refine e_iload_n dX11_test_42 rfl ?_
          refine e_if2_lt dX11_test_43 (tgt := 63) (by decide) ?_ ?_
          · refine e_msk [true, false, false, true, true] (LS1 := [_, none, none, _, _]) rfl ?_
            exact hj2 () 
          · refine e_iload dX11_test_46 rfl ?_
            refine e_iload_n dX11_test_48 rfl ?_
            refine e_if2_ne dX11_test_49 (tgt := 68) (by decide) ?_ ?_
            · refine e_iinc dX11_test_68 rfl (v := _ + 1) rfl (by decide) (LS1 := [_, _, _, _, _]) rfl ?_
              refine e_goto dX11_test_71 (tgt := 17) (by decide) ?_
              refine e_msk [true, true, true, true, false] (LS1 := [_, _, _, _, none]) rfl ?_
              exact ih v1 v2 (v3 + 1) q1.2
            · refine e_iload_n dX11_test_52 rfl ?_
              refine q_callSP (As := [_]) rfl dX11_test_53 lm_M_249 (am_fitB rfl) yo_X11_bits ys_X11_bits rfl (Nat.le_of_ble_eq_true rfl) (Nat.le_of_ble_eq_true rfl) (s_X11_bits hL _  _) (fun q3 => ?_)
              refine e_iload_n dX11_test_56 rfl ?_
              refine q_callSP (As := [_]) rfl dX11_test_57 lm_M_249 (am_fitB rfl) yo_X11_bits ys_X11_bits rfl (Nat.le_of_ble_eq_true rfl) (Nat.le_of_ble_eq_true rfl) (s_X11_bits hL _  _) (fun q4 => ?_)
              refine e_if2_ge dX11_test_60 (tgt := 68) (by decide) ?_ ?_
              · refine e_iinc dX11_test_68 rfl (v := _ + 1) rfl (by decide) (LS1 := [_, _, _, _, _]) rfl ?_
                refine e_goto dX11_test_71 (tgt := 17) (by decide) ?_
                refine e_msk [true, true, true, true, false] (LS1 := [_, _, _, _, none]) rfl ?_
                exact ih v1 v2 (v3 + 1) q1.2
              · refine e_msk [true, false, false, true, true] (LS1 := [_, none, none, _, _]) rfl ?_
                exact hj2 () 

set_option maxRecDepth 100000 in
set_option maxHeartbeats 4000000 in
theorem s_X11_test {l : Launch} {g : am_G} {B : am_M} {pl : Nat} (hL : am_Lay B pl)   (u : am_U) : am_E l g d_X11_test 0 (am_ent d_X11_test [.ref (60)]) [] (am_of B u) (am_r (am_bI B) (f_X11_test u)) := by
  unfold f_X11_test
  show am_E l g d_X11_test 0 [some (.ref (60)), none, none, none, none] [] (am_of B u) _
  refine e_aload_n dX11_test_0 rfl ?_
  refine q_getI dX11_test_1 lf_M_184 (by decide) (am_Lk hL rfl) ?_
  refine e_if_ne dX11_test_4 (tgt := 10) (by decide) ?_ ?_
  · refine e_bipush dX11_test_10 (v := ((-9) : Int32)) (by decide) ?_
    refine e_istore_n dX11_test_12 (by decide) (LS1 := [_, _, none, none, none]) rfl ?_
    refine e_iconst dX11_test_13 (v := 0) (by decide) ?_
    refine e_istore_n dX11_test_14 (by decide) (LS1 := [_, _, _, none, none]) rfl ?_
    refine e_iconst dX11_test_15 (v := 1) (by decide) ?_
    refine e_istore_n dX11_test_16 (by decide) (LS1 := [_, _, _, _, none]) rfl ?_
    refine s_X11_test_17 hL _ (fun c5v1 c5v2 c5u => ?_) _ _ _ _ _
    · refine e_iload_n dX11_test_74 rfl ?_
      refine e_if_ne dX11_test_75 (tgt := 86) (by decide) ?_ ?_
      · refine e_aload_n dX11_test_86 rfl ?_
        refine e_iload_n dX11_test_87 rfl ?_
        refine e_iload_n dX11_test_88 rfl ?_
        refine q_callVI (As := [_, _]) rfl dX11_test_89 lm_M_125 (am_fitB rfl) yo_X11_tells ys_X11_tells rfl rfl (by decide) (am_Lk hL rfl) rfl (Nat.le_of_ble_eq_true rfl) (Nat.le_of_ble_eq_true rfl) (s_X11_tells hL _ _  _) (fun q6 => ?_)
        exact e_iret dX11_test_92 rfl rfl
      · refine e_aload_n dX11_test_78 rfl ?_
        refine e_iconst dX11_test_79 (v := 4) (by decide) ?_
        refine q_callVI (As := [_]) rfl dX11_test_80 lm_M_117 (am_fitB rfl) yo_X11_meets ys_X11_meets rfl rfl (by decide) (am_Lk hL rfl) rfl (Nat.le_of_ble_eq_true rfl) (Nat.le_of_ble_eq_true rfl) (s_X11_meets hL _  _) (fun q7 => ?_)
        refine e_goto dX11_test_83 (tgt := 92) (by decide) ?_
        exact e_iret dX11_test_92 rfl rfl
  · refine e_bipush dX11_test_7 (v := ((-4) : Int32)) (by decide) ?_
    exact e_iret dX11_test_9 rfl rfl

def f_X5_hoursOfSet_5 (u : am_U) (v0 : Nat) (v1 : Int32) (v2 : Int32) : Nat → Int32 → Int32 → Option (Int32)
  | 0, _, _ => none
  | n + 1, v3, v4 =>
    if (u v0 2) ≤ v4 then (
      some v3)
    else (
      if ¬ ((v1 >>> (v4 &&& 31)) &&& 1) = 1 then (
        f_X5_hoursOfSet_5 u v0 v1 v2 n v3 (v4 + 1))
      else (
        (f_X5_hoursBrought v0 v4 v2 u).bind (fun q1 =>
        f_X5_hoursOfSet_5 u v0 v1 v2 n (v3 + q1) (v4 + 1))))
def f_X5_hoursOfSet (a0 : Nat) (a1 : Int32) (a2 : Int32) (u : am_U) : Option (Int32) :=
  f_X5_hoursOfSet_5 u a0 a1 a2 20000 0 0
set_option maxRecDepth 100000 in
set_option maxHeartbeats 4000000 in
theorem s_X5_hoursOfSet_5 {l : Launch} {g : am_G} {B : am_M} {pl : Nat} (hL : am_Lay B pl) (u : am_U) (v0 : Nat) (v1 : Int32) (v2 : Int32) (hv0 : am_isPlan B v0)   : ∀ (n : Nat) (v3 : Int32) (v4 : Int32), am_E l g d_X5_hoursOfSet 5 [some (.ref (v0)), some (.int (v1)), some (.int (v2)), some (.int (v3)), some (.int (v4))] [] (am_of B u) (am_r (am_bP B u) (f_X5_hoursOfSet_5 u v0 v1 v2 n v3 v4)) := by
  intro n
  induction n with
  | zero => intro v3 v4; exact am_none
  | succ n ih =>
    intro v3 v4
    unfold f_X5_hoursOfSet_5
    refine e_iload dX5_hoursOfSet_5 rfl ?_
    refine e_aload_n dX5_hoursOfSet_7 rfl ?_
    refine q_getI dX5_hoursOfSet_8 lf_Plan_28 (by decide) (congrArg Prod.fst hv0.1) ?_
    refine e_if2_ge dX5_hoursOfSet_11 (tgt := 40) (by decide) ?_ ?_
    · refine e_iload_n dX5_hoursOfSet_40 rfl ?_
      exact e_iret dX5_hoursOfSet_41 rfl rfl
    · refine e_iload_n dX5_hoursOfSet_14 rfl ?_
      refine e_iload dX5_hoursOfSet_15 rfl ?_
      refine e_ishr dX5_hoursOfSet_17 ?_
      refine e_iconst dX5_hoursOfSet_18 (v := 1) (by decide) ?_
      refine e_iand dX5_hoursOfSet_19 ?_
      refine e_iconst dX5_hoursOfSet_20 (v := 1) (by decide) ?_
      refine e_if2_ne dX5_hoursOfSet_21 (tgt := 34) (by decide) ?_ ?_
      · refine e_iinc dX5_hoursOfSet_34 rfl (v := _ + 1) rfl (by decide) (LS1 := [_, _, _, _, _]) rfl ?_
        refine e_goto dX5_hoursOfSet_37 (tgt := 5) (by decide) ?_
        exact ih v3 (v4 + 1)
      · refine e_iload_n dX5_hoursOfSet_24 rfl ?_
        refine e_aload_n dX5_hoursOfSet_25 rfl ?_
        refine e_iload dX5_hoursOfSet_26 rfl ?_
        refine e_iload_n dX5_hoursOfSet_28 rfl ?_
        refine q_callVP (As := [_, _]) rfl dX5_hoursOfSet_29 lm_Plan_48 (am_fitB rfl) yo_X5_hoursBrought ys_X5_hoursBrought rfl rfl (by decide) (congrArg Prod.fst hv0.1) rfl (Nat.le_of_ble_eq_true rfl) (Nat.le_of_ble_eq_true rfl) (s_X5_hoursBrought hL _ _ _ hv0 _) (fun q1 => ?_)
        refine e_iadd dX5_hoursOfSet_32 ?_
        refine e_istore_n dX5_hoursOfSet_33 (by decide) (LS1 := [_, _, _, _, _]) rfl ?_
        refine e_iinc dX5_hoursOfSet_34 rfl (v := _ + 1) rfl (by decide) (LS1 := [_, _, _, _, _]) rfl ?_
        refine e_goto dX5_hoursOfSet_37 (tgt := 5) (by decide) ?_
        exact ih (v3 + q1) (v4 + 1)

set_option maxRecDepth 100000 in
set_option maxHeartbeats 4000000 in
theorem s_X5_hoursOfSet {l : Launch} {g : am_G} {B : am_M} {pl : Nat} (hL : am_Lay B pl) (a0 : Nat) (a1 : Int32) (a2 : Int32) (h0 : am_isPlan B a0) (u : am_U) : am_E l g d_X5_hoursOfSet 0 (am_ent d_X5_hoursOfSet [.ref (a0), .int (a1), .int (a2)]) [] (am_of B u) (am_r (am_bP B u) (f_X5_hoursOfSet a0 a1 a2 u)) := by
  unfold f_X5_hoursOfSet
  show am_E l g d_X5_hoursOfSet 0 [some (.ref (a0)), some (.int (a1)), some (.int (a2)), none, none] [] (am_of B u) _
  refine e_iconst dX5_hoursOfSet_0 (v := 0) (by decide) ?_
  refine e_istore_n dX5_hoursOfSet_1 (by decide) (LS1 := [_, _, _, _, none]) rfl ?_
  refine e_iconst dX5_hoursOfSet_2 (v := 0) (by decide) ?_
  refine e_istore dX5_hoursOfSet_3 (by decide) (LS1 := [_, _, _, _, _]) rfl ?_
  refine s_X5_hoursOfSet_5 hL _ _ _ _ h0 _ _ _

def f_X7_readJars_11 (tx : Nat) (v1 : Nat) (k58 : am_U → Option (Int32 × am_U)) : Nat → Int32 → am_U → Option (Int32 × am_U)
  | 0, _, _ => none
  | n + 1, v2, u =>
    if 6 ≤ v2 then (
      k58 u)
    else (
      (f_X7_sign tx u).bind (fun q3 =>
      if q3 = 1000 then (
        k58 u)
      else (
        (f_X7_readJar tx v1 v2 u).bind (fun q4 =>
        if ¬ q4.1 = 0 then (
          let u5 : am_U := am_w q4.2 v1 2 ((q4.2 v1 2) + 1)
          (f_X7_skipBlanks tx u5).bind (fun q6 =>
          f_X7_readJars_11 tx v1 k58 n (v2 + 1) q6))
        else (
          some (0, q4.2))))))
def f_X7_readJars (tx : Nat) (a1 : Nat) (u : am_U) : Option (Int32 × am_U) :=
  let u1 : am_U := am_w u a1 2 0
  (f_X7_skipBlanks tx u1).bind (fun q2 =>
  f_X7_readJars_11 tx a1 (fun (c7u : am_U) =>
    (f_X7_sign tx c7u).bind (fun q8 =>
    if ¬ q8 = 1000 then (
      some (0, c7u))
    else (
      some (1, c7u)))) 20000 0 q2)
set_option maxRecDepth 100000 in
set_option maxHeartbeats 4000000 in
theorem s_X7_readJars_11 {l : Launch} {g : am_G} {B : am_M} {pl : Nat} (hL : am_Lay B pl) {tx : Nat} (htx : am_av (am_ro B 7 0) = .ref tx) (hT : am_isRow B tx) (v1 : Nat) (hv1 : am_isPlan B v1) (k58 : am_U → Option (Int32 × am_U)) (hk58 : ∀  (u : am_U), am_E l g d_X7_readJars 58 [some (.ref (7)), none, none] [] (am_of B u) (am_r (am_bI B) (k58 u))) : ∀ (n : Nat) (v2 : Int32) (u : am_U), am_E l g d_X7_readJars 11 [some (.ref (7)), some (.ref (v1)), some (.int (v2))] [] (am_of B u) (am_r (am_bI B) (f_X7_readJars_11 tx v1 k58 n v2 u)) := by
  intro n
  induction n with
  | zero => intro v2 u; exact am_none
  | succ n ih =>
    intro v2 u
    unfold f_X7_readJars_11
    refine e_iload_n dX7_readJars_11 rfl ?_
    refine e_bipush dX7_readJars_12 (v := 6) (by decide) ?_
    refine e_if2_ge dX7_readJars_14 (tgt := 58) (by decide) ?_ ?_
    · refine e_msk [true, false, false] (LS1 := [_, none, none]) rfl ?_
      exact hk58 u
    · refine e_aload_n dX7_readJars_17 rfl ?_
      refine q_callVP (As := []) rfl dX7_readJars_18 lm_Reader_65 (am_fitB rfl) yo_X7_sign ys_X7_sign rfl rfl (by decide) (am_Lk hL rfl) rfl (Nat.le_of_ble_eq_true rfl) (Nat.le_of_ble_eq_true rfl) (s_X7_sign hL htx hT   _) (fun q3 => ?_)
      refine e_sipush dX7_readJars_21 (v := 1000) (by decide) ?_
      refine e_if2_eq dX7_readJars_24 (tgt := 58) (by decide) ?_ ?_
      · refine e_msk [true, false, false] (LS1 := [_, none, none]) rfl ?_
        exact hk58 u
      · refine e_aload_n dX7_readJars_27 rfl ?_
        refine e_aload_n dX7_readJars_28 rfl ?_
        refine e_iload_n dX7_readJars_29 rfl ?_
        refine q_callVI (As := [_, _]) rfl dX7_readJars_30 lm_Reader_68 (am_fitB rfl) yo_X7_readJar ys_X7_readJar rfl rfl (by decide) (am_Lk hL rfl) rfl (Nat.le_of_ble_eq_true rfl) (Nat.le_of_ble_eq_true rfl) (s_X7_readJar hL htx hT _ _ hv1 _) (fun q4 => ?_)
        refine e_if_ne dX7_readJars_33 (tgt := 38) (by decide) ?_ ?_
        · refine e_aload_n dX7_readJars_38 rfl ?_
          refine e_dup dX7_readJars_39 rfl ?_
          refine q_getI dX7_readJars_40 lf_Reader_59 (by decide) (congrArg Prod.fst hv1.1) ?_
          refine e_iconst dX7_readJars_43 (v := 1) (by decide) ?_
          refine e_iadd dX7_readJars_44 ?_
          refine q_putI dX7_readJars_45 lf_Reader_59 rfl (by decide) (congrArg Prod.fst hv1.1) ?_
          refine e_aload_n dX7_readJars_48 rfl ?_
          refine q_callVV (As := []) rfl dX7_readJars_49 lm_Reader_62 (am_fitB rfl) yo_X7_skipBlanks ys_X7_skipBlanks rfl rfl (by decide) (am_Lk hL rfl) rfl (Nat.le_of_ble_eq_true rfl) (Nat.le_of_ble_eq_true rfl) (s_X7_skipBlanks hL htx hT   _) (fun q6 => ?_)
          refine e_iinc dX7_readJars_52 rfl (v := _ + 1) rfl (by decide) (LS1 := [_, _, _]) rfl ?_
          refine e_goto dX7_readJars_55 (tgt := 11) (by decide) ?_
          exact ih (v2 + 1) q6
        · refine e_iconst dX7_readJars_36 (v := 0) (by decide) ?_
          exact e_zret dX7_readJars_37 rfl rfl (Or.inl rfl)

set_option maxRecDepth 100000 in
set_option maxHeartbeats 4000000 in
theorem s_X7_readJars {l : Launch} {g : am_G} {B : am_M} {pl : Nat} (hL : am_Lay B pl) {tx : Nat} (htx : am_av (am_ro B 7 0) = .ref tx) (hT : am_isRow B tx) (a1 : Nat) (h1 : am_isPlan B a1) (u : am_U) : am_E l g d_X7_readJars 0 (am_ent d_X7_readJars [.ref (7), .ref (a1)]) [] (am_of B u) (am_r (am_bI B) (f_X7_readJars tx a1 u)) := by
  unfold f_X7_readJars
  show am_E l g d_X7_readJars 0 [some (.ref (7)), some (.ref (a1)), none] [] (am_of B u) _
  refine e_aload_n dX7_readJars_0 rfl ?_
  refine e_iconst dX7_readJars_1 (v := 0) (by decide) ?_
  refine q_putI dX7_readJars_2 lf_Reader_59 rfl (by decide) (congrArg Prod.fst h1.1) ?_
  refine e_aload_n dX7_readJars_5 rfl ?_
  refine q_callVV (As := []) rfl dX7_readJars_6 lm_Reader_62 (am_fitB rfl) yo_X7_skipBlanks ys_X7_skipBlanks rfl rfl (by decide) (am_Lk hL rfl) rfl (Nat.le_of_ble_eq_true rfl) (Nat.le_of_ble_eq_true rfl) (s_X7_skipBlanks hL htx hT   _) (fun q2 => ?_)
  refine e_iconst dX7_readJars_9 (v := 0) (by decide) ?_
  refine e_istore_n dX7_readJars_10 (by decide) (LS1 := [_, _, _]) rfl ?_
  refine s_X7_readJars_11 hL htx hT _ h1 _ (fun c7u => ?_) _ _ _
  · refine e_aload_n dX7_readJars_58 rfl ?_
    refine q_callVP (As := []) rfl dX7_readJars_59 lm_Reader_65 (am_fitB rfl) yo_X7_sign ys_X7_sign rfl rfl (by decide) (am_Lk hL rfl) rfl (Nat.le_of_ble_eq_true rfl) (Nat.le_of_ble_eq_true rfl) (s_X7_sign hL htx hT   _) (fun q8 => ?_)
    refine e_sipush dX7_readJars_62 (v := 1000) (by decide) ?_
    refine e_if2_ne dX7_readJars_65 (tgt := 72) (by decide) ?_ ?_
    · refine e_iconst dX7_readJars_72 (v := 0) (by decide) ?_
      exact e_zret dX7_readJars_73 rfl rfl (Or.inl rfl)
    · refine e_iconst dX7_readJars_68 (v := 1) (by decide) ?_
      refine e_goto dX7_readJars_69 (tgt := 73) (by decide) ?_
      exact e_zret dX7_readJars_73 rfl rfl (Or.inr rfl)

def f_X7_readMules (tx : Nat) (a1 : Nat) (u : am_U) : Option (Int32 × am_U) :=
  (f_X7_readLetter tx 121 u).bind (fun q1 =>
  if q1.1 = 0 then (
    some (0, q1.2))
  else (
    (f_X7_figure tx q1.2).bind (fun q2 =>
    (f_X10_isWithin q2 1 6).bind (fun q3 =>
    if ¬ q3 = 0 then (
      (f_X7_figure tx q1.2).bind (fun q4 =>
      let u5 : am_U := am_w q1.2 a1 0 q4
      let u6 : am_U := am_w u5 7 1 ((u5 7 1) + 1)
      some (1, u6)))
    else (
      some (0, q1.2))))))
set_option maxRecDepth 100000 in
set_option maxHeartbeats 4000000 in
theorem s_X7_readMules {l : Launch} {g : am_G} {B : am_M} {pl : Nat} (hL : am_Lay B pl) {tx : Nat} (htx : am_av (am_ro B 7 0) = .ref tx) (hT : am_isRow B tx) (a1 : Nat) (h1 : am_isPlan B a1) (u : am_U) : am_E l g d_X7_readMules 0 (am_ent d_X7_readMules [.ref (7), .ref (a1)]) [] (am_of B u) (am_r (am_bI B) (f_X7_readMules tx a1 u)) := by
  unfold f_X7_readMules
  show am_E l g d_X7_readMules 0 [some (.ref (7)), some (.ref (a1))] [] (am_of B u) _
  refine e_aload_n dX7_readMules_0 rfl ?_
  refine e_bipush dX7_readMules_1 (v := 121) (by decide) ?_
  refine q_callVI (As := [_]) rfl dX7_readMules_3 lm_Reader_32 (am_fitB rfl) yo_X7_readLetter ys_X7_readLetter rfl rfl (by decide) (am_Lk hL rfl) rfl (Nat.le_of_ble_eq_true rfl) (Nat.le_of_ble_eq_true rfl) (s_X7_readLetter hL htx hT _  _) (fun q1 => ?_)
  refine e_if_eq dX7_readMules_6 (tgt := 22) (by decide) ?_ ?_
  · refine e_iconst dX7_readMules_22 (v := 0) (by decide) ?_
    exact e_zret dX7_readMules_23 rfl rfl (Or.inl rfl)
  · refine e_aload_n dX7_readMules_9 rfl ?_
    refine q_callVP (As := []) rfl dX7_readMules_10 lm_Reader_36 (am_fitB rfl) yo_X7_figure ys_X7_figure rfl rfl (by decide) (am_Lk hL rfl) rfl (Nat.le_of_ble_eq_true rfl) (Nat.le_of_ble_eq_true rfl) (s_X7_figure hL htx hT   _) (fun q2 => ?_)
    refine e_iconst dX7_readMules_13 (v := 1) (by decide) ?_
    refine e_bipush dX7_readMules_14 (v := 6) (by decide) ?_
    refine q_callSP (As := [_, _, _]) rfl dX7_readMules_16 lm_Reader_40 (am_fitB rfl) yo_X10_isWithin ys_X10_isWithin rfl (Nat.le_of_ble_eq_true rfl) (Nat.le_of_ble_eq_true rfl) (s_X10_isWithin hL _ _ _  _) (fun q3 => ?_)
    refine e_if_ne dX7_readMules_19 (tgt := 24) (by decide) ?_ ?_
    · refine e_aload_n dX7_readMules_24 rfl ?_
      refine e_aload_n dX7_readMules_25 rfl ?_
      refine q_callVP (As := []) rfl dX7_readMules_26 lm_Reader_36 (am_fitB rfl) yo_X7_figure ys_X7_figure rfl rfl (by decide) (am_Lk hL rfl) rfl (Nat.le_of_ble_eq_true rfl) (Nat.le_of_ble_eq_true rfl) (s_X7_figure hL htx hT   _) (fun q4 => ?_)
      refine q_putI dX7_readMules_29 lf_Reader_44 rfl (by decide) (congrArg Prod.fst h1.1) ?_
      refine e_aload_n dX7_readMules_32 rfl ?_
      refine e_dup dX7_readMules_33 rfl ?_
      refine q_getI dX7_readMules_34 lf_Reader_15 (by decide) (am_Lk hL rfl) ?_
      refine e_iconst dX7_readMules_37 (v := 1) (by decide) ?_
      refine e_iadd dX7_readMules_38 ?_
      refine q_putI dX7_readMules_39 lf_Reader_15 rfl (by decide) (am_Lk hL rfl) ?_
      refine e_iconst dX7_readMules_42 (v := 1) (by decide) ?_
      exact e_zret dX7_readMules_43 rfl rfl (Or.inr rfl)
    · refine e_iconst dX7_readMules_22 (v := 0) (by decide) ?_
      exact e_zret dX7_readMules_23 rfl rfl (Or.inl rfl)

def f_X7_readNeeds_13 (tx : Nat) (v1 : Nat) : Nat → Int32 → am_U → Option (Int32 × am_U)
  | 0, _, _ => none
  | n + 1, v2, u =>
    if 5 ≤ v2 then (
      some (1, u))
    else (
      (f_X7_figure tx u).bind (fun q2 =>
      if ¬ q2 = ((-9) : Int32) then (
        (f_X7_figure tx u).bind (fun q3 =>
        am_ck (am_ix v2 5) (
        let u4 : am_U := am_w u (v1 + 2) v2.toNatClampNeg q3
        let u6 : am_U := am_w u4 7 1 ((u4 7 1) + 1)
        f_X7_readNeeds_13 tx v1 n (v2 + 1) u6)))
      else (
        some (0, u))))
def f_X7_readNeeds (tx : Nat) (a1 : Nat) (u : am_U) : Option (Int32 × am_U) :=
  (f_X7_readLetter tx 118 u).bind (fun q1 =>
  if ¬ q1.1 = 0 then (
    f_X7_readNeeds_13 tx a1 20000 1 q1.2)
  else (
    some (0, q1.2)))
set_option maxRecDepth 100000 in
set_option maxHeartbeats 4000000 in
theorem s_X7_readNeeds_13 {l : Launch} {g : am_G} {B : am_M} {pl : Nat} (hL : am_Lay B pl) {tx : Nat} (htx : am_av (am_ro B 7 0) = .ref tx) (hT : am_isRow B tx) (v1 : Nat) (hv1 : am_isPlan B v1)   : ∀ (n : Nat) (v2 : Int32) (u : am_U), am_E l g d_X7_readNeeds 13 [some (.ref (7)), some (.ref (v1)), some (.int (v2))] [] (am_of B u) (am_r (am_bI B) (f_X7_readNeeds_13 tx v1 n v2 u)) := by
  intro n
  induction n with
  | zero => intro v2 u; exact am_none
  | succ n ih =>
    intro v2 u
    unfold f_X7_readNeeds_13
    refine e_iload_n dX7_readNeeds_13 rfl ?_
    refine e_iconst dX7_readNeeds_14 (v := 5) (by decide) ?_
    refine e_if2_ge dX7_readNeeds_15 (tgt := 55) (by decide) ?_ ?_
    · refine e_iconst dX7_readNeeds_55 (v := 1) (by decide) ?_
      exact e_zret dX7_readNeeds_56 rfl rfl (Or.inr rfl)
    · refine e_aload_n dX7_readNeeds_18 rfl ?_
      refine q_callVP (As := []) rfl dX7_readNeeds_19 lm_Reader_36 (am_fitB rfl) yo_X7_figure ys_X7_figure rfl rfl (by decide) (am_Lk hL rfl) rfl (Nat.le_of_ble_eq_true rfl) (Nat.le_of_ble_eq_true rfl) (s_X7_figure hL htx hT   _) (fun q2 => ?_)
      refine e_bipush dX7_readNeeds_22 (v := ((-9) : Int32)) (by decide) ?_
      refine e_if2_ne dX7_readNeeds_24 (tgt := 29) (by decide) ?_ ?_
      · refine e_aload_n dX7_readNeeds_29 rfl ?_
        refine q_getR (r := v1 + 2) dX7_readNeeds_30 lf_Reader_56 rfl (by decide) (congrArg Prod.fst hv1.1) (am_avs hv1.2.1.2.1) ?_
        refine e_iload_n dX7_readNeeds_33 rfl ?_
        refine e_aload_n dX7_readNeeds_34 rfl ?_
        refine q_callVP (As := []) rfl dX7_readNeeds_35 lm_Reader_36 (am_fitB rfl) yo_X7_figure ys_X7_figure rfl rfl (by decide) (am_Lk hL rfl) rfl (Nat.le_of_ble_eq_true rfl) (Nat.le_of_ble_eq_true rfl) (s_X7_figure hL htx hT   _) (fun q3 => ?_)
        refine q_iastH dX7_readNeeds_38 hv1.2.2.2.1 (fun i5 => ?_)
        refine e_aload_n dX7_readNeeds_39 rfl ?_
        refine e_dup dX7_readNeeds_40 rfl ?_
        refine q_getI dX7_readNeeds_41 lf_Reader_15 (by decide) (am_Lk hL rfl) ?_
        refine e_iconst dX7_readNeeds_44 (v := 1) (by decide) ?_
        refine e_iadd dX7_readNeeds_45 ?_
        refine q_putI dX7_readNeeds_46 lf_Reader_15 rfl (by decide) (am_Lk hL rfl) ?_
        refine e_iinc dX7_readNeeds_49 rfl (v := _ + 1) rfl (by decide) (LS1 := [_, _, _]) rfl ?_
        refine e_goto dX7_readNeeds_52 (tgt := 13) (by decide) ?_
        exact ih (v2 + 1) (am_w (am_w u (v1 + 2) v2.toNatClampNeg q3) 7 1 (((am_w u (v1 + 2) v2.toNatClampNeg q3) 7 1) + 1))
      · refine e_iconst dX7_readNeeds_27 (v := 0) (by decide) ?_
        exact e_zret dX7_readNeeds_28 rfl rfl (Or.inl rfl)

set_option maxRecDepth 100000 in
set_option maxHeartbeats 4000000 in
theorem s_X7_readNeeds {l : Launch} {g : am_G} {B : am_M} {pl : Nat} (hL : am_Lay B pl) {tx : Nat} (htx : am_av (am_ro B 7 0) = .ref tx) (hT : am_isRow B tx) (a1 : Nat) (h1 : am_isPlan B a1) (u : am_U) : am_E l g d_X7_readNeeds 0 (am_ent d_X7_readNeeds [.ref (7), .ref (a1)]) [] (am_of B u) (am_r (am_bI B) (f_X7_readNeeds tx a1 u)) := by
  unfold f_X7_readNeeds
  show am_E l g d_X7_readNeeds 0 [some (.ref (7)), some (.ref (a1)), none] [] (am_of B u) _
  refine e_aload_n dX7_readNeeds_0 rfl ?_
  refine e_bipush dX7_readNeeds_1 (v := 118) (by decide) ?_
  refine q_callVI (As := [_]) rfl dX7_readNeeds_3 lm_Reader_32 (am_fitB rfl) yo_X7_readLetter ys_X7_readLetter rfl rfl (by decide) (am_Lk hL rfl) rfl (Nat.le_of_ble_eq_true rfl) (Nat.le_of_ble_eq_true rfl) (s_X7_readLetter hL htx hT _  _) (fun q1 => ?_)
  refine e_if_ne dX7_readNeeds_6 (tgt := 11) (by decide) ?_ ?_
  · refine e_iconst dX7_readNeeds_11 (v := 1) (by decide) ?_
    refine e_istore_n dX7_readNeeds_12 (by decide) (LS1 := [_, _, _]) rfl ?_
    refine s_X7_readNeeds_13 hL htx hT _ h1 _ _ _
  · refine e_iconst dX7_readNeeds_9 (v := 0) (by decide) ?_
    exact e_zret dX7_readNeeds_10 rfl rfl (Or.inl rfl)

def f_X7_readSuns_16 (tx : Nat) (v1 : Nat) (k73 : am_U → Option (Int32 × am_U)) : Nat → am_U → Option (Int32 × am_U)
  | 0, _ => none
  | n + 1, u =>
    if 8 ≤ (u v1 1) then (
      k73 u)
    else (
      (f_X7_figure tx u).bind (fun q3 =>
      (f_X10_isWithin q3 0 1).bind (fun q4 =>
      if q4 = 0 then (
        k73 u)
      else (
        (f_X7_figure tx u).bind (fun q5 =>
        am_ck (am_ix (u v1 1) 8) (
        let u6 : am_U := am_w u (v1 + 1) (u v1 1).toNatClampNeg q5
        let u8 : am_U := am_w u6 v1 1 ((u6 v1 1) + 1)
        let u9 : am_U := am_w u8 7 1 ((u8 7 1) + 1)
        f_X7_readSuns_16 tx v1 k73 n u9))))))
def f_X7_readSuns (tx : Nat) (a1 : Nat) (u : am_U) : Option (Int32 × am_U) :=
  (f_X7_readLetter tx 115 u).bind (fun q1 =>
  if ¬ q1.1 = 0 then (
    let u2 : am_U := am_w q1.2 a1 1 0
    f_X7_readSuns_16 tx a1 (fun (c10u : am_U) =>
      if (c10u a1 1) ≤ 0 then (
        some (0, c10u))
      else (
        some (1, c10u))) 20000 u2)
  else (
    some (0, q1.2)))
set_option maxRecDepth 100000 in
set_option maxHeartbeats 4000000 in
theorem s_X7_readSuns_16 {l : Launch} {g : am_G} {B : am_M} {pl : Nat} (hL : am_Lay B pl) {tx : Nat} (htx : am_av (am_ro B 7 0) = .ref tx) (hT : am_isRow B tx) (v1 : Nat) (hv1 : am_isPlan B v1) (k73 : am_U → Option (Int32 × am_U)) (hk73 : ∀  (u : am_U), am_E l g d_X7_readSuns 73 [none, some (.ref (v1))] [] (am_of B u) (am_r (am_bI B) (k73 u))) : ∀ (n : Nat) (u : am_U), am_E l g d_X7_readSuns 16 [some (.ref (7)), some (.ref (v1))] [] (am_of B u) (am_r (am_bI B) (f_X7_readSuns_16 tx v1 k73 n u)) := by
  intro n
  induction n with
  | zero => intro u; exact am_none
  | succ n ih =>
    intro u
    unfold f_X7_readSuns_16
    refine e_aload_n dX7_readSuns_16 rfl ?_
    refine q_getI dX7_readSuns_17 lf_Reader_49 (by decide) (congrArg Prod.fst hv1.1) ?_
    refine e_bipush dX7_readSuns_20 (v := 8) (by decide) ?_
    refine e_if2_ge dX7_readSuns_22 (tgt := 73) (by decide) ?_ ?_
    · refine e_msk [false, true] (LS1 := [none, _]) rfl ?_
      exact hk73 u
    · refine e_aload_n dX7_readSuns_25 rfl ?_
      refine q_callVP (As := []) rfl dX7_readSuns_26 lm_Reader_36 (am_fitB rfl) yo_X7_figure ys_X7_figure rfl rfl (by decide) (am_Lk hL rfl) rfl (Nat.le_of_ble_eq_true rfl) (Nat.le_of_ble_eq_true rfl) (s_X7_figure hL htx hT   _) (fun q3 => ?_)
      refine e_iconst dX7_readSuns_29 (v := 0) (by decide) ?_
      refine e_iconst dX7_readSuns_30 (v := 1) (by decide) ?_
      refine q_callSP (As := [_, _, _]) rfl dX7_readSuns_31 lm_Reader_40 (am_fitB rfl) yo_X10_isWithin ys_X10_isWithin rfl (Nat.le_of_ble_eq_true rfl) (Nat.le_of_ble_eq_true rfl) (s_X10_isWithin hL _ _ _  _) (fun q4 => ?_)
      refine e_if_eq dX7_readSuns_34 (tgt := 73) (by decide) ?_ ?_
      · refine e_msk [false, true] (LS1 := [none, _]) rfl ?_
        exact hk73 u
      · refine e_aload_n dX7_readSuns_37 rfl ?_
        refine q_getR (r := v1 + 1) dX7_readSuns_38 lf_Reader_52 rfl (by decide) (congrArg Prod.fst hv1.1) (am_avs hv1.2.1.1) ?_
        refine e_aload_n dX7_readSuns_41 rfl ?_
        refine q_getI dX7_readSuns_42 lf_Reader_49 (by decide) (congrArg Prod.fst hv1.1) ?_
        refine e_aload_n dX7_readSuns_45 rfl ?_
        refine q_callVP (As := []) rfl dX7_readSuns_46 lm_Reader_36 (am_fitB rfl) yo_X7_figure ys_X7_figure rfl rfl (by decide) (am_Lk hL rfl) rfl (Nat.le_of_ble_eq_true rfl) (Nat.le_of_ble_eq_true rfl) (s_X7_figure hL htx hT   _) (fun q5 => ?_)
        refine q_iastH dX7_readSuns_49 hv1.2.2.1 (fun i7 => ?_)
        refine e_aload_n dX7_readSuns_50 rfl ?_
        refine e_dup dX7_readSuns_51 rfl ?_
        refine q_getI dX7_readSuns_52 lf_Reader_49 (by decide) (congrArg Prod.fst hv1.1) ?_
        refine e_iconst dX7_readSuns_55 (v := 1) (by decide) ?_
        refine e_iadd dX7_readSuns_56 ?_
        refine q_putI dX7_readSuns_57 lf_Reader_49 rfl (by decide) (congrArg Prod.fst hv1.1) ?_
        refine e_aload_n dX7_readSuns_60 rfl ?_
        refine e_dup dX7_readSuns_61 rfl ?_
        refine q_getI dX7_readSuns_62 lf_Reader_15 (by decide) (am_Lk hL rfl) ?_
        refine e_iconst dX7_readSuns_65 (v := 1) (by decide) ?_
        refine e_iadd dX7_readSuns_66 ?_
        refine q_putI dX7_readSuns_67 lf_Reader_15 rfl (by decide) (am_Lk hL rfl) ?_
        refine e_goto dX7_readSuns_70 (tgt := 16) (by decide) ?_
        exact ih (am_w (am_w (am_w u (v1 + 1) (u v1 1).toNatClampNeg q5) v1 1 (((am_w u (v1 + 1) (u v1 1).toNatClampNeg q5) v1 1) + 1)) 7 1 (((am_w (am_w u (v1 + 1) (u v1 1).toNatClampNeg q5) v1 1 (((am_w u (v1 + 1) (u v1 1).toNatClampNeg q5) v1 1) + 1)) 7 1) + 1))

set_option maxRecDepth 100000 in
set_option maxHeartbeats 4000000 in
theorem s_X7_readSuns {l : Launch} {g : am_G} {B : am_M} {pl : Nat} (hL : am_Lay B pl) {tx : Nat} (htx : am_av (am_ro B 7 0) = .ref tx) (hT : am_isRow B tx) (a1 : Nat) (h1 : am_isPlan B a1) (u : am_U) : am_E l g d_X7_readSuns 0 (am_ent d_X7_readSuns [.ref (7), .ref (a1)]) [] (am_of B u) (am_r (am_bI B) (f_X7_readSuns tx a1 u)) := by
  unfold f_X7_readSuns
  show am_E l g d_X7_readSuns 0 [some (.ref (7)), some (.ref (a1))] [] (am_of B u) _
  refine e_aload_n dX7_readSuns_0 rfl ?_
  refine e_bipush dX7_readSuns_1 (v := 115) (by decide) ?_
  refine q_callVI (As := [_]) rfl dX7_readSuns_3 lm_Reader_32 (am_fitB rfl) yo_X7_readLetter ys_X7_readLetter rfl rfl (by decide) (am_Lk hL rfl) rfl (Nat.le_of_ble_eq_true rfl) (Nat.le_of_ble_eq_true rfl) (s_X7_readLetter hL htx hT _  _) (fun q1 => ?_)
  refine e_if_ne dX7_readSuns_6 (tgt := 11) (by decide) ?_ ?_
  · refine e_aload_n dX7_readSuns_11 rfl ?_
    refine e_iconst dX7_readSuns_12 (v := 0) (by decide) ?_
    refine q_putI dX7_readSuns_13 lf_Reader_49 rfl (by decide) (congrArg Prod.fst h1.1) ?_
    refine s_X7_readSuns_16 hL htx hT _ h1 _ (fun c10u => ?_) _ _
    · refine e_aload_n dX7_readSuns_73 rfl ?_
      refine q_getI dX7_readSuns_74 lf_Reader_49 (by decide) (congrArg Prod.fst h1.1) ?_
      refine e_if_le dX7_readSuns_77 (tgt := 84) (by decide) ?_ ?_
      · refine e_iconst dX7_readSuns_84 (v := 0) (by decide) ?_
        exact e_zret dX7_readSuns_85 rfl rfl (Or.inl rfl)
      · refine e_iconst dX7_readSuns_80 (v := 1) (by decide) ?_
        refine e_goto dX7_readSuns_81 (tgt := 85) (by decide) ?_
        exact e_zret dX7_readSuns_85 rfl rfl (Or.inr rfl)
  · refine e_iconst dX7_readSuns_9 (v := 0) (by decide) ?_
    exact e_zret dX7_readSuns_10 rfl rfl (Or.inl rfl)

