def f_X10_text (a1 : Int32) (a2 : Int32) (u : am_U) : Option (Int32 × am_U) :=
  (f_X10_isWithin a1 0 3).bind (fun q1 =>
  if q1 = 0 then (
    some (((-1) : Int32), u))
  else (
    am_ck (am_ix a1 4) (
    (f_X10_makeRow (2 * a1.toNatClampNeg + 52) a2 32 u).bind (fun q3 =>
    some (q3.1, q3.2)))))
set_option maxRecDepth 100000 in
set_option maxHeartbeats 4000000 in
theorem s_X10_text {l : Launch} {g : am_G} {B : am_M} {pl : Nat} (hL : am_Lay B pl) (a1 : Int32) (a2 : Int32)  (u : am_U) : am_E l g d_X10_text 0 (am_ent d_X10_text [.ref (4), .int (a1), .int (a2)]) [] (am_of B u) (am_r (am_bI B) (f_X10_text a1 a2 u)) := by
  unfold f_X10_text
  show am_E l g d_X10_text 0 [some (.ref (4)), some (.int (a1)), some (.int (a2))] [] (am_of B u) _
  refine e_iload_n dX10_text_0 rfl ?_
  refine e_iconst dX10_text_1 (v := 0) (by decide) ?_
  refine e_iconst dX10_text_2 (v := 3) (by decide) ?_
  refine q_callSP (As := [_, _, _]) rfl dX10_text_3 lm_N_86 (am_fitB rfl) yo_X10_isWithin ys_X10_isWithin rfl (Nat.le_of_ble_eq_true rfl) (Nat.le_of_ble_eq_true rfl) (s_X10_isWithin hL _ _ _  _) (fun q1 => ?_)
  refine e_if_eq dX10_text_6 (tgt := 25) (by decide) ?_ ?_
  · refine e_iconst dX10_text_25 (v := ((-1) : Int32)) (by decide) ?_
    exact e_iret dX10_text_26 rfl rfl
  · refine e_aload_n dX10_text_9 rfl ?_
    refine e_aload_n dX10_text_10 rfl ?_
    refine q_getR (r := 6) dX10_text_11 lf_N_15 rfl (by decide) (am_Lk hL rfl) (am_Lr hL rfl) ?_
    refine e_iload_n dX10_text_14 rfl ?_
    refine q_aald (n := 4) (rid := 2 * a1.toNatClampNeg + 52) dX10_text_15 (am_rows6 hL).1 (fun h => ((am_rows6 hL).2 _ h).1) (fun i2 => ?_)
    refine e_iload_n dX10_text_16 rfl ?_
    refine e_bipush dX10_text_17 (v := 32) (by decide) ?_
    refine q_callVI (As := [_, _, _]) rfl dX10_text_19 lm_N_90 (am_fitB rfl) yo_X10_makeRow ys_X10_makeRow rfl rfl (by decide) (am_Lk hL rfl) rfl (Nat.le_of_ble_eq_true rfl) (Nat.le_of_ble_eq_true rfl) (s_X10_makeRow hL _ _ _ ((am_rows6 hL).2 _ i2).2 _) (fun q3 => ?_)
    refine e_goto dX10_text_22 (tgt := 26) (by decide) ?_
    exact e_iret dX10_text_26 rfl rfl

def f_X10_undo (u : am_U) : Option (Int32 × am_U) :=
  if ¬ (u 14 3) = 0 then (
    (f_X1_takeBack u).bind (fun q1 =>
    some (q1.1, q1.2)))
  else (
    some (((-4) : Int32), u))
set_option maxRecDepth 100000 in
set_option maxHeartbeats 4000000 in
theorem s_X10_undo {l : Launch} {g : am_G} {B : am_M} {pl : Nat} (hL : am_Lay B pl)   (u : am_U) : am_E l g d_X10_undo 0 (am_ent d_X10_undo [.ref (4)]) [] (am_of B u) (am_r (am_bI B) (f_X10_undo u)) := by
  unfold f_X10_undo
  show am_E l g d_X10_undo 0 [some (.ref (4))] [] (am_of B u) _
  refine e_aload_n dX10_undo_0 rfl ?_
  refine q_getR (r := 14) dX10_undo_1 lf_N_35 rfl (by decide) (am_Lk hL rfl) (am_Lr hL rfl) ?_
  refine q_getI dX10_undo_4 lf_N_224 (by decide) (am_Lk hL rfl) ?_
  refine e_if_ne dX10_undo_7 (tgt := 15) (by decide) ?_ ?_
  · refine e_aload_n dX10_undo_15 rfl ?_
    refine q_getR (r := 14) dX10_undo_16 lf_N_35 rfl (by decide) (am_Lk hL rfl) (am_Lr hL rfl) ?_
    refine e_aload_n dX10_undo_19 rfl ?_
    refine q_getR (r := 8) dX10_undo_20 lf_N_28 rfl (by decide) (am_Lk hL rfl) (am_Lr hL rfl) ?_
    refine q_callVI (As := [_]) rfl dX10_undo_23 lm_N_225 (am_fitB rfl) yo_X1_takeBack ys_X1_takeBack rfl rfl (by decide) (am_Lk hL rfl) rfl (Nat.le_of_ble_eq_true rfl) (Nat.le_of_ble_eq_true rfl) (s_X1_takeBack hL   _) (fun q1 => ?_)
    exact e_iret dX10_undo_26 rfl rfl
  · refine e_bipush dX10_undo_10 (v := ((-4) : Int32)) (by decide) ?_
    refine e_goto dX10_undo_12 (tgt := 26) (by decide) ?_
    exact e_iret dX10_undo_26 rfl rfl

def f_X11_faultOf_25 (v1 : Int32) (k132 : am_U → Option (Int32 × am_U)) : Nat → am_U → Option (Int32 × am_U)
  | 0, _ => none
  | n + 1, u =>
    am_ck (am_ix v1 4) (
    if (u 65 v1.toNatClampNeg) ≤ (u 60 15) then (
      k132 u)
    else (
      (f_X11_byteAt v1 (u 60 15) u).bind (fun q7 =>
      if ¬ q7 = 32 then (
        if ¬ (u 60 17) = 0 then (
          if ¬ (u 60 18) = 0 then (
            if ¬ (u 60 19) = 0 then (
              (f_X11_readsJar v1 u).bind (fun q8 =>
              if ¬ q8.1 = 0 then (
                f_X11_faultOf_25 v1 k132 n q8.2)
              else (
                some (q8.2 60 15, q8.2))))
            else (
              (f_X11_readsNeeds v1 u).bind (fun q9 =>
              if q9.1 = 0 then (
                some (q9.2 60 15, q9.2))
              else (
                f_X11_faultOf_25 v1 k132 n q9.2))))
          else (
            (f_X11_readsSuns v1 u).bind (fun q10 =>
            if q10.1 = 0 then (
              some (q10.2 60 15, q10.2))
            else (
              f_X11_faultOf_25 v1 k132 n q10.2))))
        else (
          (f_X11_readsMules v1 u).bind (fun q11 =>
          if q11.1 = 0 then (
            some (q11.2 60 15, q11.2))
          else (
            f_X11_faultOf_25 v1 k132 n q11.2))))
      else (
        let u12 : am_U := am_w u 60 15 ((u 60 15) + 1)
        f_X11_faultOf_25 v1 k132 n u12))))
def f_X11_faultOf (a1 : Int32) (u : am_U) : Option (Int32 × am_U) :=
  let u1 : am_U := am_w u 60 15 0
  let u2 : am_U := am_w u1 60 17 0
  let u3 : am_U := am_w u2 60 18 0
  let u4 : am_U := am_w u3 60 19 0
  let u5 : am_U := am_w u4 60 20 0
  f_X11_faultOf_25 a1 (fun (c13u : am_U) =>
    if (c13u 60 19) = 0 then (
      am_ck (am_ix a1 4) (
      some (c13u 65 a1.toNatClampNeg, c13u)))
    else (
      some (((-9) : Int32), c13u))) 20000 u5
set_option maxRecDepth 100000 in
set_option maxHeartbeats 4000000 in
theorem s_X11_faultOf_25 {l : Launch} {g : am_G} {B : am_M} {pl : Nat} (hL : am_Lay B pl) (v1 : Int32)  (k132 : am_U → Option (Int32 × am_U)) (hk132 : ∀  (u : am_U), am_E l g d_X11_faultOf 132 [some (.ref (60)), some (.int (v1))] [] (am_of B u) (am_r (am_bI B) (k132 u))) : ∀ (n : Nat) (u : am_U), am_E l g d_X11_faultOf 25 [some (.ref (60)), some (.int (v1))] [] (am_of B u) (am_r (am_bI B) (f_X11_faultOf_25 v1 k132 n u)) := by
  intro n
  induction n with
  | zero => intro u; exact am_none
  | succ n ih =>
    intro u
    unfold f_X11_faultOf_25
    refine e_aload_n dX11_faultOf_25 rfl ?_
    refine q_getI dX11_faultOf_26 lf_M_131 (by decide) (am_Lk hL rfl) ?_
    refine e_aload_n dX11_faultOf_29 rfl ?_
    refine q_getR (r := 65) dX11_faultOf_30 lf_M_22 rfl (by decide) (am_Lk hL rfl) (am_Lr hL rfl) ?_
    refine e_iload_n dX11_faultOf_33 rfl ?_
    refine q_ialdH dX11_faultOf_34 (am_Ls hL rfl) (fun i6 => ?_)
    refine e_if2_ge dX11_faultOf_35 (tgt := 132) (by decide) ?_ ?_
    · exact hk132 u
    · refine e_aload_n dX11_faultOf_38 rfl ?_
      refine e_iload_n dX11_faultOf_39 rfl ?_
      refine e_aload_n dX11_faultOf_40 rfl ?_
      refine q_getI dX11_faultOf_41 lf_M_131 (by decide) (am_Lk hL rfl) ?_
      refine q_callVP (As := [_, _]) rfl dX11_faultOf_44 lm_M_134 (am_fitB rfl) yo_X11_byteAt ys_X11_byteAt rfl rfl (by decide) (am_Lk hL rfl) rfl (Nat.le_of_ble_eq_true rfl) (Nat.le_of_ble_eq_true rfl) (s_X11_byteAt hL _ _  _) (fun q7 => ?_)
      refine e_bipush dX11_faultOf_47 (v := 32) (by decide) ?_
      refine e_if2_ne dX11_faultOf_49 (tgt := 65) (by decide) ?_ ?_
      · refine e_aload_n dX11_faultOf_65 rfl ?_
        refine q_getI dX11_faultOf_66 lf_M_147 (by decide) (am_Lk hL rfl) ?_
        refine e_if_ne dX11_faultOf_69 (tgt := 83) (by decide) ?_ ?_
        · refine e_aload_n dX11_faultOf_83 rfl ?_
          refine q_getI dX11_faultOf_84 lf_M_150 (by decide) (am_Lk hL rfl) ?_
          refine e_if_ne dX11_faultOf_87 (tgt := 101) (by decide) ?_ ?_
          · refine e_aload_n dX11_faultOf_101 rfl ?_
            refine q_getZ dX11_faultOf_102 lf_M_153 (by decide) (am_Lk hL rfl) ?_
            refine e_if_ne dX11_faultOf_105 (tgt := 119) (by decide) ?_ ?_
            · refine e_aload_n dX11_faultOf_119 rfl ?_
              refine e_iload_n dX11_faultOf_120 rfl ?_
              refine q_callVI (As := [_]) rfl dX11_faultOf_121 lm_M_172 (am_fitB rfl) yo_X11_readsJar ys_X11_readsJar rfl rfl (by decide) (am_Lk hL rfl) rfl (Nat.le_of_ble_eq_true rfl) (Nat.le_of_ble_eq_true rfl) (s_X11_readsJar hL _  _) (fun q8 => ?_)
              refine e_if_ne dX11_faultOf_124 (tgt := 25) (by decide) ?_ ?_
              · exact ih q8.2
              · refine e_aload_n dX11_faultOf_127 rfl ?_
                refine q_getI dX11_faultOf_128 lf_M_131 (by decide) (am_Lk hL rfl) ?_
                exact e_iret dX11_faultOf_131 rfl rfl
            · refine e_aload_n dX11_faultOf_108 rfl ?_
              refine e_iload_n dX11_faultOf_109 rfl ?_
              refine q_callVI (As := [_]) rfl dX11_faultOf_110 lm_M_169 (am_fitB rfl) yo_X11_readsNeeds ys_X11_readsNeeds rfl rfl (by decide) (am_Lk hL rfl) rfl (Nat.le_of_ble_eq_true rfl) (Nat.le_of_ble_eq_true rfl) (s_X11_readsNeeds hL _  _) (fun q9 => ?_)
              refine e_if_eq dX11_faultOf_113 (tgt := 127) (by decide) ?_ ?_
              · refine e_aload_n dX11_faultOf_127 rfl ?_
                refine q_getI dX11_faultOf_128 lf_M_131 (by decide) (am_Lk hL rfl) ?_
                exact e_iret dX11_faultOf_131 rfl rfl
              · refine e_goto dX11_faultOf_116 (tgt := 25) (by decide) ?_
                exact ih q9.2
          · refine e_aload_n dX11_faultOf_90 rfl ?_
            refine e_iload_n dX11_faultOf_91 rfl ?_
            refine q_callVI (As := [_]) rfl dX11_faultOf_92 lm_M_166 (am_fitB rfl) yo_X11_readsSuns ys_X11_readsSuns rfl rfl (by decide) (am_Lk hL rfl) rfl (Nat.le_of_ble_eq_true rfl) (Nat.le_of_ble_eq_true rfl) (s_X11_readsSuns hL _  _) (fun q10 => ?_)
            refine e_if_eq dX11_faultOf_95 (tgt := 127) (by decide) ?_ ?_
            · refine e_aload_n dX11_faultOf_127 rfl ?_
              refine q_getI dX11_faultOf_128 lf_M_131 (by decide) (am_Lk hL rfl) ?_
              exact e_iret dX11_faultOf_131 rfl rfl
            · refine e_goto dX11_faultOf_98 (tgt := 25) (by decide) ?_
              exact ih q10.2
        · refine e_aload_n dX11_faultOf_72 rfl ?_
          refine e_iload_n dX11_faultOf_73 rfl ?_
          refine q_callVI (As := [_]) rfl dX11_faultOf_74 lm_M_163 (am_fitB rfl) yo_X11_readsMules ys_X11_readsMules rfl rfl (by decide) (am_Lk hL rfl) rfl (Nat.le_of_ble_eq_true rfl) (Nat.le_of_ble_eq_true rfl) (s_X11_readsMules hL _  _) (fun q11 => ?_)
          refine e_if_eq dX11_faultOf_77 (tgt := 127) (by decide) ?_ ?_
          · refine e_aload_n dX11_faultOf_127 rfl ?_
            refine q_getI dX11_faultOf_128 lf_M_131 (by decide) (am_Lk hL rfl) ?_
            exact e_iret dX11_faultOf_131 rfl rfl
          · refine e_goto dX11_faultOf_80 (tgt := 25) (by decide) ?_
            exact ih q11.2
      · refine e_aload_n dX11_faultOf_52 rfl ?_
        refine e_dup dX11_faultOf_53 rfl ?_
        refine q_getI dX11_faultOf_54 lf_M_131 (by decide) (am_Lk hL rfl) ?_
        refine e_iconst dX11_faultOf_57 (v := 1) (by decide) ?_
        refine e_iadd dX11_faultOf_58 ?_
        refine q_putI dX11_faultOf_59 lf_M_131 rfl (by decide) (am_Lk hL rfl) ?_
        refine e_goto dX11_faultOf_62 (tgt := 25) (by decide) ?_
        exact ih (am_w u 60 15 ((u 60 15) + 1))

set_option maxRecDepth 100000 in
set_option maxHeartbeats 4000000 in
theorem s_X11_faultOf {l : Launch} {g : am_G} {B : am_M} {pl : Nat} (hL : am_Lay B pl) (a1 : Int32)  (u : am_U) : am_E l g d_X11_faultOf 0 (am_ent d_X11_faultOf [.ref (60), .int (a1)]) [] (am_of B u) (am_r (am_bI B) (f_X11_faultOf a1 u)) := by
  unfold f_X11_faultOf
  show am_E l g d_X11_faultOf 0 [some (.ref (60)), some (.int (a1))] [] (am_of B u) _
  refine e_aload_n dX11_faultOf_0 rfl ?_
  refine e_iconst dX11_faultOf_1 (v := 0) (by decide) ?_
  refine q_putI dX11_faultOf_2 lf_M_131 rfl (by decide) (am_Lk hL rfl) ?_
  refine e_aload_n dX11_faultOf_5 rfl ?_
  refine e_iconst dX11_faultOf_6 (v := 0) (by decide) ?_
  refine q_putI dX11_faultOf_7 lf_M_147 rfl (by decide) (am_Lk hL rfl) ?_
  refine e_aload_n dX11_faultOf_10 rfl ?_
  refine e_iconst dX11_faultOf_11 (v := 0) (by decide) ?_
  refine q_putI dX11_faultOf_12 lf_M_150 rfl (by decide) (am_Lk hL rfl) ?_
  refine e_aload_n dX11_faultOf_15 rfl ?_
  refine e_iconst dX11_faultOf_16 (v := 0) (by decide) ?_
  refine q_putZ dX11_faultOf_17 lf_M_153 rfl (by decide) (am_Lk hL rfl) (Or.inl rfl) ?_
  refine e_aload_n dX11_faultOf_20 rfl ?_
  refine e_iconst dX11_faultOf_21 (v := 0) (by decide) ?_
  refine q_putI dX11_faultOf_22 lf_M_160 rfl (by decide) (am_Lk hL rfl) ?_
  refine s_X11_faultOf_25 hL _ _ (fun c13u => ?_) _ _
  · refine e_aload_n dX11_faultOf_132 rfl ?_
    refine q_getZ dX11_faultOf_133 lf_M_153 (by decide) (am_Lk hL rfl) ?_
    refine e_if_eq dX11_faultOf_136 (tgt := 144) (by decide) ?_ ?_
    · refine e_aload_n dX11_faultOf_144 rfl ?_
      refine q_getR (r := 65) dX11_faultOf_145 lf_M_22 rfl (by decide) (am_Lk hL rfl) (am_Lr hL rfl) ?_
      refine e_iload_n dX11_faultOf_148 rfl ?_
      refine q_ialdH dX11_faultOf_149 (am_Ls hL rfl) (fun i14 => ?_)
      exact e_iret dX11_faultOf_150 rfl rfl
    · refine e_bipush dX11_faultOf_139 (v := ((-9) : Int32)) (by decide) ?_
      refine e_goto dX11_faultOf_141 (tgt := 150) (by decide) ?_
      exact e_iret dX11_faultOf_150 rfl rfl

def f_X11_hoursAt (a1 : Int32) (a2 : Int32) (u : am_U) : Option (Int32) :=
  (f_X11_broughtTo a1 a2 u).bind (fun q1 =>
  am_ck (am_ix a1 6) (
  (f_X11_costOf (u 69 a1.toNatClampNeg)).bind (fun q3 =>
  am_ck (!(q3 == 0)) (
  some (q1 / q3)))))
set_option maxRecDepth 100000 in
set_option maxHeartbeats 4000000 in
theorem s_X11_hoursAt {l : Launch} {g : am_G} {B : am_M} {pl : Nat} (hL : am_Lay B pl) (a1 : Int32) (a2 : Int32)  (u : am_U) : am_E l g d_X11_hoursAt 0 (am_ent d_X11_hoursAt [.ref (60), .int (a1), .int (a2)]) [] (am_of B u) (am_r (am_bP B u) (f_X11_hoursAt a1 a2 u)) := by
  unfold f_X11_hoursAt
  show am_E l g d_X11_hoursAt 0 [some (.ref (60)), some (.int (a1)), some (.int (a2))] [] (am_of B u) _
  refine e_aload_n dX11_hoursAt_0 rfl ?_
  refine e_iload_n dX11_hoursAt_1 rfl ?_
  refine e_iload_n dX11_hoursAt_2 rfl ?_
  refine q_callVP (As := [_, _]) rfl dX11_hoursAt_3 lm_M_231 (am_fitB rfl) yo_X11_broughtTo ys_X11_broughtTo rfl rfl (by decide) (am_Lk hL rfl) rfl (Nat.le_of_ble_eq_true rfl) (Nat.le_of_ble_eq_true rfl) (s_X11_broughtTo hL _ _  _) (fun q1 => ?_)
  refine e_aload_n dX11_hoursAt_6 rfl ?_
  refine q_getR (r := 69) dX11_hoursAt_7 lf_M_35 rfl (by decide) (am_Lk hL rfl) (am_Lr hL rfl) ?_
  refine e_iload_n dX11_hoursAt_10 rfl ?_
  refine q_ialdH dX11_hoursAt_11 (am_Ls hL rfl) (fun i2 => ?_)
  refine q_callSP (As := [_]) rfl dX11_hoursAt_12 lm_M_209 (am_fitB rfl) yo_X11_costOf ys_X11_costOf rfl (Nat.le_of_ble_eq_true rfl) (Nat.le_of_ble_eq_true rfl) (s_X11_costOf hL _  _) (fun q3 => ?_)
  refine e_divq dX11_hoursAt_15 ?_
  exact e_iret dX11_hoursAt_16 rfl rfl

def f_X11_layStates_2 (k23 : am_U → Option (am_U)) : Nat → Int32 → am_U → Option (am_U)
  | 0, _, _ => none
  | n + 1, v1, u =>
    if 9261 ≤ v1 then (
      k23 u)
    else (
      am_ck (am_ix v1 9261) (
      let u1 : am_U := am_w u 82 v1.toNatClampNeg ((-9) : Int32)
      f_X11_layStates_2 k23 n (v1 + 1) u1))
def f_X11_layStates_25 (k58 : am_U → Option (am_U)) : Nat → Int32 → am_U → Option (am_U)
  | 0, _, _ => none
  | n + 1, v1, u =>
    if (u 60 32) ≤ v1 then (
      k58 u)
    else (
      am_ck (am_ix v1 6) (
      am_ck (am_ix (0 + (u 80 v1.toNatClampNeg)) 30) (
      am_ck (am_ix v1 3) (
      let u6 : am_U := am_w u 81 v1.toNatClampNeg (u 75 (0 + (u 80 v1.toNatClampNeg)).toNatClampNeg)
      f_X11_layStates_25 k58 n (v1 + 1) u6))))
def f_X11_layStates_107 (v1 : Int32) (v2 : Int32) (k148 : am_U → Option (am_U)) : Nat → Int32 → am_U → Option (am_U)
  | 0, _, _ => none
  | n + 1, v3, u =>
    if (u 60 32) ≤ v3 then (
      k148 u)
    else (
      am_ck (am_ix v1 9261) (
      (f_X11_look (u 83 v1.toNatClampNeg) u).bind (fun q15 =>
      if v2 = v3 then (
        f_X11_layStates_107 v1 v2 k148 n (v3 + 1) q15)
      else (
        (f_X11_step (q15 83 v1.toNatClampNeg) v2 v3 q15).bind (fun q16 =>
        f_X11_layStates_107 v1 v2 k148 n (v3 + 1) q16)))))
def f_X11_layStates_97 (v1 : Int32) (k154 : am_U → Option (am_U)) : Nat → Int32 → am_U → Option (am_U)
  | 0, _, _ => none
  | n + 1, v2, u =>
    if (u 60 32) ≤ v2 then (
      k154 u)
    else (
      f_X11_layStates_107 v1 v2 (fun (c17u : am_U) =>
        f_X11_layStates_97 v1 k154 n (v2 + 1) c17u) 20000 0 u)
def f_X11_layStates_87  : Nat → Int32 → am_U → Option (am_U)
  | 0, _, _ => none
  | n + 1, v1, u =>
    if (u 60 39) ≤ v1 then (
      some u)
    else (
      f_X11_layStates_97 v1 (fun (c18u : am_U) =>
        f_X11_layStates_87 n (v1 + 1) c18u) 20000 0 u)
def f_X11_layStates (u : am_U) : Option (am_U) :=
  f_X11_layStates_2 (fun (c3u : am_U) =>
    f_X11_layStates_25 (fun (c8u : am_U) =>
      (f_X11_code c8u).bind (fun q9 =>
      let u10 : am_U := am_w c8u 83 0 q9
      am_ck (am_ix (u10 83 0) 9261) (
      let u11 : am_U := am_w u10 82 (u10 83 0).toNatClampNeg 0
      let u13 : am_U := am_w u11 60 39 1
      f_X11_layStates_87  20000 0 u13))) 20000 0 c3u) 20000 0 u
set_option maxRecDepth 100000 in
set_option maxHeartbeats 4000000 in
theorem s_X11_layStates_2 {l : Launch} {g : am_G} {B : am_M} {pl : Nat} (hL : am_Lay B pl)   (k23 : am_U → Option (am_U)) (hk23 : ∀  (u : am_U), am_E l g d_X11_layStates 23 [some (.ref (60)), none, none, none] [] (am_of B u) (am_r (am_bV B) (k23 u))) : ∀ (n : Nat) (v1 : Int32) (u : am_U), am_E l g d_X11_layStates 2 [some (.ref (60)), some (.int (v1)), none, none] [] (am_of B u) (am_r (am_bV B) (f_X11_layStates_2 k23 n v1 u)) := by
  intro n
  induction n with
  | zero => intro v1 u; exact am_none
  | succ n ih =>
    intro v1 u
    unfold f_X11_layStates_2
    refine e_iload_n dX11_layStates_2 rfl ?_
    refine e_sipush dX11_layStates_3 (v := 9261) (by decide) ?_
    refine e_if2_ge dX11_layStates_6 (tgt := 23) (by decide) ?_ ?_
    · refine e_msk [true, false, false, false] (LS1 := [_, none, none, none]) rfl ?_
      exact hk23 u
    · refine e_aload_n dX11_layStates_9 rfl ?_
      refine q_getR (r := 82) dX11_layStates_10 lf_M_75 rfl (by decide) (am_Lk hL rfl) (am_Lr hL rfl) ?_
      refine e_iload_n dX11_layStates_13 rfl ?_
      refine e_bipush dX11_layStates_14 (v := ((-9) : Int32)) (by decide) ?_
      refine q_iastH dX11_layStates_16 (am_Ls hL rfl) (fun i2 => ?_)
      refine e_iinc dX11_layStates_17 rfl (v := _ + 1) rfl (by decide) (LS1 := [_, _, none, none]) rfl ?_
      refine e_goto dX11_layStates_20 (tgt := 2) (by decide) ?_
      exact ih (v1 + 1) (am_w u 82 v1.toNatClampNeg ((-9) : Int32))

set_option maxRecDepth 100000 in
set_option maxHeartbeats 4000000 in
theorem s_X11_layStates_25 {l : Launch} {g : am_G} {B : am_M} {pl : Nat} (hL : am_Lay B pl)   (k58 : am_U → Option (am_U)) (hk58 : ∀  (u : am_U), am_E l g d_X11_layStates 58 [some (.ref (60)), none, none, none] [] (am_of B u) (am_r (am_bV B) (k58 u))) : ∀ (n : Nat) (v1 : Int32) (u : am_U), am_E l g d_X11_layStates 25 [some (.ref (60)), some (.int (v1)), none, none] [] (am_of B u) (am_r (am_bV B) (f_X11_layStates_25 k58 n v1 u)) := by
  intro n
  induction n with
  | zero => intro v1 u; exact am_none
  | succ n ih =>
    intro v1 u
    unfold f_X11_layStates_25
    refine e_iload_n dX11_layStates_25 rfl ?_
    refine e_aload_n dX11_layStates_26 rfl ?_
    refine q_getI dX11_layStates_27 lf_M_256 (by decide) (am_Lk hL rfl) ?_
    refine e_if2_ge dX11_layStates_30 (tgt := 58) (by decide) ?_ ?_
    · refine e_msk [true, false, false, false] (LS1 := [_, none, none, none]) rfl ?_
      exact hk58 u
    · refine e_aload_n dX11_layStates_33 rfl ?_
      refine q_getR (r := 81) dX11_layStates_34 lf_M_72 rfl (by decide) (am_Lk hL rfl) (am_Lr hL rfl) ?_
      refine e_iload_n dX11_layStates_37 rfl ?_
      refine e_aload_n dX11_layStates_38 rfl ?_
      refine q_getR (r := 75) dX11_layStates_39 lf_M_53 rfl (by decide) (am_Lk hL rfl) (am_Lr hL rfl) ?_
      refine e_iconst dX11_layStates_42 (v := 0) (by decide) ?_
      refine e_aload_n dX11_layStates_43 rfl ?_
      refine q_getR (r := 80) dX11_layStates_44 lf_M_69 rfl (by decide) (am_Lk hL rfl) (am_Lr hL rfl) ?_
      refine e_iload_n dX11_layStates_47 rfl ?_
      refine q_ialdH dX11_layStates_48 (am_Ls hL rfl) (fun i4 => ?_)
      refine e_iadd dX11_layStates_49 ?_
      refine q_ialdH dX11_layStates_50 (am_Ls hL rfl) (fun i5 => ?_)
      refine q_iastH dX11_layStates_51 (am_Ls hL rfl) (fun i7 => ?_)
      refine e_iinc dX11_layStates_52 rfl (v := _ + 1) rfl (by decide) (LS1 := [_, _, none, none]) rfl ?_
      refine e_goto dX11_layStates_55 (tgt := 25) (by decide) ?_
      exact ih (v1 + 1) (am_w u 81 v1.toNatClampNeg (u 75 (0 + (u 80 v1.toNatClampNeg)).toNatClampNeg))

set_option maxRecDepth 100000 in
set_option maxHeartbeats 4000000 in
theorem s_X11_layStates_107 {l : Launch} {g : am_G} {B : am_M} {pl : Nat} (hL : am_Lay B pl) (v1 : Int32) (v2 : Int32)  (k148 : am_U → Option (am_U)) (hk148 : ∀  (u : am_U), am_E l g d_X11_layStates 148 [some (.ref (60)), some (.int (v1)), some (.int (v2)), none] [] (am_of B u) (am_r (am_bV B) (k148 u))) : ∀ (n : Nat) (v3 : Int32) (u : am_U), am_E l g d_X11_layStates 107 [some (.ref (60)), some (.int (v1)), some (.int (v2)), some (.int (v3))] [] (am_of B u) (am_r (am_bV B) (f_X11_layStates_107 v1 v2 k148 n v3 u)) := by
  intro n
  induction n with
  | zero => intro v3 u; exact am_none
  | succ n ih =>
    intro v3 u
    unfold f_X11_layStates_107
    refine e_iload_n dX11_layStates_107 rfl ?_
    refine e_aload_n dX11_layStates_108 rfl ?_
    refine q_getI dX11_layStates_109 lf_M_256 (by decide) (am_Lk hL rfl) ?_
    refine e_if2_ge dX11_layStates_112 (tgt := 148) (by decide) ?_ ?_
    · refine e_msk [true, true, true, false] (LS1 := [_, _, _, none]) rfl ?_
      exact hk148 u
    · refine e_aload_n dX11_layStates_115 rfl ?_
      refine e_aload_n dX11_layStates_116 rfl ?_
      refine q_getR (r := 83) dX11_layStates_117 lf_M_78 rfl (by decide) (am_Lk hL rfl) (am_Lr hL rfl) ?_
      refine e_iload_n dX11_layStates_120 rfl ?_
      refine q_ialdH dX11_layStates_121 (am_Ls hL rfl) (fun i14 => ?_)
      refine q_callVV (As := [_]) rfl dX11_layStates_122 lm_M_266 (am_fitB rfl) yo_X11_look ys_X11_look rfl rfl (by decide) (am_Lk hL rfl) rfl (Nat.le_of_ble_eq_true rfl) (Nat.le_of_ble_eq_true rfl) (s_X11_look hL _  _) (fun q15 => ?_)
      refine e_iload_n dX11_layStates_125 rfl ?_
      refine e_iload_n dX11_layStates_126 rfl ?_
      refine e_if2_eq dX11_layStates_127 (tgt := 142) (by decide) ?_ ?_
      · refine e_iinc dX11_layStates_142 rfl (v := _ + 1) rfl (by decide) (LS1 := [_, _, _, _]) rfl ?_
        refine e_goto dX11_layStates_145 (tgt := 107) (by decide) ?_
        exact ih (v3 + 1) q15
      · refine e_aload_n dX11_layStates_130 rfl ?_
        refine e_aload_n dX11_layStates_131 rfl ?_
        refine q_getR (r := 83) dX11_layStates_132 lf_M_78 rfl (by decide) (am_Lk hL rfl) (am_Lr hL rfl) ?_
        refine e_iload_n dX11_layStates_135 rfl ?_
        refine q_ialdC (jn := _) dX11_layStates_136 (am_Ls hL rfl) i14 rfl ?_
        refine e_iload_n dX11_layStates_137 rfl ?_
        refine e_iload_n dX11_layStates_138 rfl ?_
        refine q_callVV (As := [_, _, _]) rfl dX11_layStates_139 lm_M_269 (am_fitB rfl) yo_X11_step ys_X11_step rfl rfl (by decide) (am_Lk hL rfl) rfl (Nat.le_of_ble_eq_true rfl) (Nat.le_of_ble_eq_true rfl) (s_X11_step hL _ _ _  _) (fun q16 => ?_)
        refine e_iinc dX11_layStates_142 rfl (v := _ + 1) rfl (by decide) (LS1 := [_, _, _, _]) rfl ?_
        refine e_goto dX11_layStates_145 (tgt := 107) (by decide) ?_
        exact ih (v3 + 1) q16

set_option maxRecDepth 100000 in
set_option maxHeartbeats 4000000 in
theorem s_X11_layStates_97 {l : Launch} {g : am_G} {B : am_M} {pl : Nat} (hL : am_Lay B pl) (v1 : Int32)  (k154 : am_U → Option (am_U)) (hk154 : ∀  (u : am_U), am_E l g d_X11_layStates 154 [some (.ref (60)), some (.int (v1)), none, none] [] (am_of B u) (am_r (am_bV B) (k154 u))) : ∀ (n : Nat) (v2 : Int32) (u : am_U), am_E l g d_X11_layStates 97 [some (.ref (60)), some (.int (v1)), some (.int (v2)), none] [] (am_of B u) (am_r (am_bV B) (f_X11_layStates_97 v1 k154 n v2 u)) := by
  intro n
  induction n with
  | zero => intro v2 u; exact am_none
  | succ n ih =>
    intro v2 u
    unfold f_X11_layStates_97
    refine e_iload_n dX11_layStates_97 rfl ?_
    refine e_aload_n dX11_layStates_98 rfl ?_
    refine q_getI dX11_layStates_99 lf_M_256 (by decide) (am_Lk hL rfl) ?_
    refine e_if2_ge dX11_layStates_102 (tgt := 154) (by decide) ?_ ?_
    · refine e_msk [true, true, false, false] (LS1 := [_, _, none, none]) rfl ?_
      exact hk154 u
    · refine e_iconst dX11_layStates_105 (v := 0) (by decide) ?_
      refine e_istore_n dX11_layStates_106 (by decide) (LS1 := [_, _, _, _]) rfl ?_
      refine s_X11_layStates_107 hL _ _ _ (fun c17u => ?_) _ _ _
      · refine e_iinc dX11_layStates_148 rfl (v := _ + 1) rfl (by decide) (LS1 := [_, _, _, none]) rfl ?_
        refine e_goto dX11_layStates_151 (tgt := 97) (by decide) ?_
        exact ih (v2 + 1) c17u

set_option maxRecDepth 100000 in
set_option maxHeartbeats 4000000 in
theorem s_X11_layStates_87 {l : Launch} {g : am_G} {B : am_M} {pl : Nat} (hL : am_Lay B pl)     : ∀ (n : Nat) (v1 : Int32) (u : am_U), am_E l g d_X11_layStates 87 [some (.ref (60)), some (.int (v1)), none, none] [] (am_of B u) (am_r (am_bV B) (f_X11_layStates_87 n v1 u)) := by
  intro n
  induction n with
  | zero => intro v1 u; exact am_none
  | succ n ih =>
    intro v1 u
    unfold f_X11_layStates_87
    refine e_iload_n dX11_layStates_87 rfl ?_
    refine e_aload_n dX11_layStates_88 rfl ?_
    refine q_getI dX11_layStates_89 lf_M_263 (by decide) (am_Lk hL rfl) ?_
    refine e_if2_ge dX11_layStates_92 (tgt := 160) (by decide) ?_ ?_
    · exact e_vret dX11_layStates_160 rfl rfl
    · refine e_iconst dX11_layStates_95 (v := 0) (by decide) ?_
      refine e_istore_n dX11_layStates_96 (by decide) (LS1 := [_, _, _, none]) rfl ?_
      refine s_X11_layStates_97 hL _ _ (fun c18u => ?_) _ _ _
      · refine e_iinc dX11_layStates_154 rfl (v := _ + 1) rfl (by decide) (LS1 := [_, _, none, none]) rfl ?_
        refine e_goto dX11_layStates_157 (tgt := 87) (by decide) ?_
        exact ih (v1 + 1) c18u

set_option maxRecDepth 100000 in
set_option maxHeartbeats 4000000 in
theorem s_X11_layStates {l : Launch} {g : am_G} {B : am_M} {pl : Nat} (hL : am_Lay B pl)   (u : am_U) : am_E l g d_X11_layStates 0 (am_ent d_X11_layStates [.ref (60)]) [] (am_of B u) (am_r (am_bV B) (f_X11_layStates u)) := by
  unfold f_X11_layStates
  show am_E l g d_X11_layStates 0 [some (.ref (60)), none, none, none] [] (am_of B u) _
  refine e_iconst dX11_layStates_0 (v := 0) (by decide) ?_
  refine e_istore_n dX11_layStates_1 (by decide) (LS1 := [_, _, none, none]) rfl ?_
  refine s_X11_layStates_2 hL _ (fun c3u => ?_) _ _ _
  · refine e_iconst dX11_layStates_23 (v := 0) (by decide) ?_
    refine e_istore_n dX11_layStates_24 (by decide) (LS1 := [_, _, none, none]) rfl ?_
    refine s_X11_layStates_25 hL _ (fun c8u => ?_) _ _ _
    · refine e_aload_n dX11_layStates_58 rfl ?_
      refine q_getR (r := 83) dX11_layStates_59 lf_M_78 rfl (by decide) (am_Lk hL rfl) (am_Lr hL rfl) ?_
      refine e_iconst dX11_layStates_62 (v := 0) (by decide) ?_
      refine e_aload_n dX11_layStates_63 rfl ?_
      refine q_callVP (As := []) rfl dX11_layStates_64 lm_M_259 (am_fitB rfl) yo_X11_code ys_X11_code rfl rfl (by decide) (am_Lk hL rfl) rfl (Nat.le_of_ble_eq_true rfl) (Nat.le_of_ble_eq_true rfl) (s_X11_code hL   _) (fun q9 => ?_)
      refine q_iastC (jn := 0) dX11_layStates_67 (am_Ls hL rfl) (by decide) (by decide) ?_
      refine e_aload_n dX11_layStates_68 rfl ?_
      refine q_getR (r := 82) dX11_layStates_69 lf_M_75 rfl (by decide) (am_Lk hL rfl) (am_Lr hL rfl) ?_
      refine e_aload_n dX11_layStates_72 rfl ?_
      refine q_getR (r := 83) dX11_layStates_73 lf_M_78 rfl (by decide) (am_Lk hL rfl) (am_Lr hL rfl) ?_
      refine e_iconst dX11_layStates_76 (v := 0) (by decide) ?_
      refine q_ialdC (jn := 0) dX11_layStates_77 (am_Ls hL rfl) (by decide) (by decide) ?_
      refine e_iconst dX11_layStates_78 (v := 0) (by decide) ?_
      refine q_iastH dX11_layStates_79 (am_Ls hL rfl) (fun i12 => ?_)
      refine e_aload_n dX11_layStates_80 rfl ?_
      refine e_iconst dX11_layStates_81 (v := 1) (by decide) ?_
      refine q_putI dX11_layStates_82 lf_M_263 rfl (by decide) (am_Lk hL rfl) ?_
      refine e_iconst dX11_layStates_85 (v := 0) (by decide) ?_
      refine e_istore_n dX11_layStates_86 (by decide) (LS1 := [_, _, none, none]) rfl ?_
      refine s_X11_layStates_87 hL  _ _ _

def f_X11_leftBy_2 (v1 : Int32) (k21 : am_U → Option (Int32 × am_U)) : Nat → Int32 → am_U → Option (Int32 × am_U)
  | 0, _, _ => none
  | n + 1, v2, u =>
    if 121 ≤ v2 then (
      k21 u)
    else (
      am_ck (am_ix v2 121) (
      let u1 : am_U := am_w u 88 v2.toNatClampNeg 0
      f_X11_leftBy_2 v1 k21 n (v2 + 1) u1))
def f_X11_leftBy_25 (v1 : Int32) : Nat → Int32 → Int32 → am_U → Option (Int32 × am_U)
  | 0, _, _, _ => none
  | n + 1, v2, v3, u =>
    if (1 <<< ((u 60 12) &&& 31)) ≤ v3 then (
      some (v2, u))
    else (
      (f_X11_fits v3 u).bind (fun q4 =>
      if q4 = 0 then (
        f_X11_leftBy_25 v1 n v2 (v3 + 1) u)
      else (
        (f_X11_burns v1 v3 u).bind (fun q5 =>
        am_ck (am_ix q5 121) (
        let u7 : am_U := am_w u 88 q5.toNatClampNeg ((u 88 q5.toNatClampNeg) + 1)
        (f_X11_greater v2 (u7 88 q5.toNatClampNeg)).bind (fun q8 =>
        f_X11_leftBy_25 v1 n q8 (v3 + 1) u7))))))
def f_X11_leftBy (a1 : Int32) (u : am_U) : Option (Int32 × am_U) :=
  f_X11_leftBy_2 a1 (fun (c3u : am_U) =>
    f_X11_leftBy_25 a1 20000 0 0 c3u) 20000 0 u
set_option maxRecDepth 100000 in
set_option maxHeartbeats 4000000 in
theorem s_X11_leftBy_2 {l : Launch} {g : am_G} {B : am_M} {pl : Nat} (hL : am_Lay B pl) (v1 : Int32)  (k21 : am_U → Option (Int32 × am_U)) (hk21 : ∀  (u : am_U), am_E l g d_X11_leftBy 21 [some (.ref (60)), some (.int (v1)), none, none, none] [] (am_of B u) (am_r (am_bI B) (k21 u))) : ∀ (n : Nat) (v2 : Int32) (u : am_U), am_E l g d_X11_leftBy 2 [some (.ref (60)), some (.int (v1)), some (.int (v2)), none, none] [] (am_of B u) (am_r (am_bI B) (f_X11_leftBy_2 v1 k21 n v2 u)) := by
  intro n
  induction n with
  | zero => intro v2 u; exact am_none
  | succ n ih =>
    intro v2 u
    unfold f_X11_leftBy_2
    refine e_iload_n dX11_leftBy_2 rfl ?_
    refine e_bipush dX11_leftBy_3 (v := 121) (by decide) ?_
    refine e_if2_ge dX11_leftBy_5 (tgt := 21) (by decide) ?_ ?_
    · refine e_msk [true, true, false, false, false] (LS1 := [_, _, none, none, none]) rfl ?_
      exact hk21 u
    · refine e_aload_n dX11_leftBy_8 rfl ?_
      refine q_getR (r := 88) dX11_leftBy_9 lf_M_93 rfl (by decide) (am_Lk hL rfl) (am_Lr hL rfl) ?_
      refine e_iload_n dX11_leftBy_12 rfl ?_
      refine e_iconst dX11_leftBy_13 (v := 0) (by decide) ?_
      refine q_iastH dX11_leftBy_14 (am_Ls hL rfl) (fun i2 => ?_)
      refine e_iinc dX11_leftBy_15 rfl (v := _ + 1) rfl (by decide) (LS1 := [_, _, _, none, none]) rfl ?_
      refine e_goto dX11_leftBy_18 (tgt := 2) (by decide) ?_
      exact ih (v2 + 1) (am_w u 88 v2.toNatClampNeg 0)

set_option maxRecDepth 100000 in
set_option maxHeartbeats 4000000 in
theorem s_X11_leftBy_25 {l : Launch} {g : am_G} {B : am_M} {pl : Nat} (hL : am_Lay B pl) (v1 : Int32)    : ∀ (n : Nat) (v2 : Int32) (v3 : Int32) (u : am_U), am_E l g d_X11_leftBy 25 [some (.ref (60)), some (.int (v1)), some (.int (v2)), some (.int (v3)), none] [] (am_of B u) (am_r (am_bI B) (f_X11_leftBy_25 v1 n v2 v3 u)) := by
  intro n
  induction n with
  | zero => intro v2 v3 u; exact am_none
  | succ n ih =>
    intro v2 v3 u
    unfold f_X11_leftBy_25
    refine e_iload_n dX11_leftBy_25 rfl ?_
    refine e_iconst dX11_leftBy_26 (v := 1) (by decide) ?_
    refine e_aload_n dX11_leftBy_27 rfl ?_
    refine q_getI dX11_leftBy_28 lf_M_184 (by decide) (am_Lk hL rfl) ?_
    refine e_ishl dX11_leftBy_31 ?_
    refine e_if2_ge dX11_leftBy_32 (tgt := 80) (by decide) ?_ ?_
    · refine e_iload_n dX11_leftBy_80 rfl ?_
      exact e_iret dX11_leftBy_81 rfl rfl
    · refine e_aload_n dX11_leftBy_35 rfl ?_
      refine e_iload_n dX11_leftBy_36 rfl ?_
      refine q_callVP (As := [_]) rfl dX11_leftBy_37 lm_M_298 (am_fitB rfl) yo_X11_fits ys_X11_fits rfl rfl (by decide) (am_Lk hL rfl) rfl (Nat.le_of_ble_eq_true rfl) (Nat.le_of_ble_eq_true rfl) (s_X11_fits hL _  _) (fun q4 => ?_)
      refine e_if_eq dX11_leftBy_40 (tgt := 74) (by decide) ?_ ?_
      · refine e_iinc dX11_leftBy_74 rfl (v := _ + 1) rfl (by decide) (LS1 := [_, _, _, _, none]) rfl ?_
        refine e_goto dX11_leftBy_77 (tgt := 25) (by decide) ?_
        exact ih v2 (v3 + 1) u
      · refine e_aload_n dX11_leftBy_43 rfl ?_
        refine e_iload_n dX11_leftBy_44 rfl ?_
        refine e_iload_n dX11_leftBy_45 rfl ?_
        refine q_callVP (As := [_, _]) rfl dX11_leftBy_46 lm_M_295 (am_fitB rfl) yo_X11_burns ys_X11_burns rfl rfl (by decide) (am_Lk hL rfl) rfl (Nat.le_of_ble_eq_true rfl) (Nat.le_of_ble_eq_true rfl) (s_X11_burns hL _ _  _) (fun q5 => ?_)
        refine e_istore dX11_leftBy_49 (by decide) (LS1 := [_, _, _, _, _]) rfl ?_
        refine e_aload_n dX11_leftBy_51 rfl ?_
        refine q_getR (r := 88) dX11_leftBy_52 lf_M_93 rfl (by decide) (am_Lk hL rfl) (am_Lr hL rfl) ?_
        refine e_iload dX11_leftBy_55 rfl ?_
        refine e_dup2 dX11_leftBy_57 rfl rfl ?_
        refine q_ialdH dX11_leftBy_58 (am_Ls hL rfl) (fun i6 => ?_)
        refine e_iconst dX11_leftBy_59 (v := 1) (by decide) ?_
        refine e_iadd dX11_leftBy_60 ?_
        refine q_iastC (jn := _) dX11_leftBy_61 (am_Ls hL rfl) i6 rfl ?_
        refine e_iload_n dX11_leftBy_62 rfl ?_
        refine e_aload_n dX11_leftBy_63 rfl ?_
        refine q_getR (r := 88) dX11_leftBy_64 lf_M_93 rfl (by decide) (am_Lk hL rfl) (am_Lr hL rfl) ?_
        refine e_iload dX11_leftBy_67 rfl ?_
        refine q_ialdC (jn := _) dX11_leftBy_69 (am_Ls hL rfl) i6 rfl ?_
        refine q_callSP (As := [_, _]) rfl dX11_leftBy_70 lm_M_292 (am_fitB rfl) yo_X11_greater ys_X11_greater rfl (Nat.le_of_ble_eq_true rfl) (Nat.le_of_ble_eq_true rfl) (s_X11_greater hL _ _  _) (fun q8 => ?_)
        refine e_istore_n dX11_leftBy_73 (by decide) (LS1 := [_, _, _, _, _]) rfl ?_
        refine e_iinc dX11_leftBy_74 rfl (v := _ + 1) rfl (by decide) (LS1 := [_, _, _, _, _]) rfl ?_
        refine e_goto dX11_leftBy_77 (tgt := 25) (by decide) ?_
        refine e_msk [true, true, true, true, false] (LS1 := [_, _, _, _, none]) rfl ?_
        exact ih q8 (v3 + 1) (am_w u 88 q5.toNatClampNeg ((u 88 q5.toNatClampNeg) + 1))

set_option maxRecDepth 100000 in
set_option maxHeartbeats 4000000 in
theorem s_X11_leftBy {l : Launch} {g : am_G} {B : am_M} {pl : Nat} (hL : am_Lay B pl) (a1 : Int32)  (u : am_U) : am_E l g d_X11_leftBy 0 (am_ent d_X11_leftBy [.ref (60), .int (a1)]) [] (am_of B u) (am_r (am_bI B) (f_X11_leftBy a1 u)) := by
  unfold f_X11_leftBy
  show am_E l g d_X11_leftBy 0 [some (.ref (60)), some (.int (a1)), none, none, none] [] (am_of B u) _
  refine e_iconst dX11_leftBy_0 (v := 0) (by decide) ?_
  refine e_istore_n dX11_leftBy_1 (by decide) (LS1 := [_, _, _, none, none]) rfl ?_
  refine s_X11_leftBy_2 hL _ _ (fun c3u => ?_) _ _ _
  · refine e_iconst dX11_leftBy_21 (v := 0) (by decide) ?_
    refine e_istore_n dX11_leftBy_22 (by decide) (LS1 := [_, _, _, none, none]) rfl ?_
    refine e_iconst dX11_leftBy_23 (v := 0) (by decide) ?_
    refine e_istore_n dX11_leftBy_24 (by decide) (LS1 := [_, _, _, _, none]) rfl ?_
    refine s_X11_leftBy_25 hL _ _ _ _ _

def f_X11_mark (a1 : Int32) (a2 : Int32) (u : am_U) : Option (Int32 × am_U) :=
  (f_X11_isJar a1 u).bind (fun q1 =>
  if q1 = 0 then (
    some (((-1) : Int32), u))
  else (
    (f_X11_in a2 1 5).bind (fun q2 =>
    if ¬ q2 = 0 then (
      am_ck (am_ix a1 6) (
      am_jn (fun (j4z : Unit) =>
        am_ck (am_ix (0 + a1) 30) (
        let x6 : Int32 := u 75 (0 + a1).toNatClampNeg
        if a2 = 1 then (
          (f_X11_tenth (2 * x6)).bind (fun q7 =>
          (f_X11_tenth x6).bind (fun q8 =>
          some (q7 - q8, u))))
        else         if a2 = 2 then (
          (f_X11_leakNow a1 u).bind (fun q9 =>
          if q9 ≤ 0 then (
            some (((-9) : Int32), u))
          else (
            some (0, u))))
        else         if a2 = 3 then (
          (f_X11_costOf (u 69 a1.toNatClampNeg)).bind (fun q10 =>
          am_ck (!(q10 == 0)) (
          some (x6 - (x6 / q10), u))))
        else         if a2 = 4 then (
          some (x6, u))
        else (
          some (x6 - x6 / 3 * 3, u)))) (fun j4 =>
      if (u 69 a1.toNatClampNeg) = a2 then (
        j4 () )
      else (
        am_jn (fun (j11z : Unit) =>
          am_jn (fun (j12z : Unit) =>
            (f_X11_meets 3 u).bind (fun q13 =>
            some (q13.1, q13.2))) (fun j12 =>
          if ¬ a2 = 3 then (
            j12 () )
          else (
            if (u 69 a1.toNatClampNeg) = 5 then (
              j4 () )
            else (
              j12 () )))) (fun j11 =>
        if ¬ a2 = 2 then (
          j11 () )
        else (
          if (u 69 a1.toNatClampNeg) = 4 then (
            j4 () )
          else (
            j11 () )))))))
    else (
      some (((-1) : Int32), u)))))
set_option maxRecDepth 100000 in
set_option maxHeartbeats 4000000 in
theorem s_X11_mark {l : Launch} {g : am_G} {B : am_M} {pl : Nat} (hL : am_Lay B pl) (a1 : Int32) (a2 : Int32)  (u : am_U) : am_E l g d_X11_mark 0 (am_ent d_X11_mark [.ref (60), .int (a1), .int (a2)]) [] (am_of B u) (am_r (am_bI B) (f_X11_mark a1 a2 u)) := by
  unfold f_X11_mark
  show am_E l g d_X11_mark 0 [some (.ref (60)), some (.int (a1)), some (.int (a2)), none, none] [] (am_of B u) _
  refine e_aload_n dX11_mark_0 rfl ?_
  refine e_iload_n dX11_mark_1 rfl ?_
  refine q_callVP (As := [_]) rfl dX11_mark_2 lm_M_200 (am_fitB rfl) yo_X11_isJar ys_X11_isJar rfl rfl (by decide) (am_Lk hL rfl) rfl (Nat.le_of_ble_eq_true rfl) (Nat.le_of_ble_eq_true rfl) (s_X11_isJar hL _  _) (fun q1 => ?_)
  refine e_if_eq dX11_mark_5 (tgt := 17) (by decide) ?_ ?_
  · refine e_iconst dX11_mark_17 (v := ((-1) : Int32)) (by decide) ?_
    exact e_iret dX11_mark_18 rfl rfl
  · refine e_iload_n dX11_mark_8 rfl ?_
    refine e_iconst dX11_mark_9 (v := 1) (by decide) ?_
    refine e_iconst dX11_mark_10 (v := 5) (by decide) ?_
    refine q_callSP (As := [_, _, _]) rfl dX11_mark_11 lm_M_106 (am_fitB rfl) yo_X11_in ys_X11_in rfl (Nat.le_of_ble_eq_true rfl) (Nat.le_of_ble_eq_true rfl) (s_X11_in hL _ _ _  _) (fun q2 => ?_)
    refine e_if_ne dX11_mark_14 (tgt := 19) (by decide) ?_ ?_
    · refine e_aload_n dX11_mark_19 rfl ?_
      refine q_getR (r := 69) dX11_mark_20 lf_M_35 rfl (by decide) (am_Lk hL rfl) (am_Lr hL rfl) ?_
      refine e_iload_n dX11_mark_23 rfl ?_
      refine q_ialdH dX11_mark_24 (am_Ls hL rfl) (fun i3 => ?_)
      refine e_istore_n dX11_mark_25 (by decide) (LS1 := [_, _, _, _, none]) rfl ?_
      refine e_iload_n dX11_mark_26 rfl ?_
      refine e_iload_n dX11_mark_27 rfl ?_
      refine e_jn (P := fun t : Unit → Option (Int32 × am_U) => ∀ (j4z : Unit), am_E l g d_X11_mark 57 [some (.ref (60)), some (.int (a1)), some (.int (a2)), some (.int (u 69 a1.toNatClampNeg)), none] [] (am_of B u) (am_r (am_bI B) (t j4z))) ?_ (fun j4 hj4 => ?_)
      · intro j4z
        refine e_aload_n dX11_mark_57 rfl ?_
        refine q_getR (r := 75) dX11_mark_58 lf_M_53 rfl (by decide) (am_Lk hL rfl) (am_Lr hL rfl) ?_
        refine e_iconst dX11_mark_61 (v := 0) (by decide) ?_
        refine e_iload_n dX11_mark_62 rfl ?_
        refine e_iadd dX11_mark_63 ?_
        refine q_ialdH dX11_mark_64 (am_Ls hL rfl) (fun i5 => ?_)
        refine e_istore dX11_mark_65 (by decide) (LS1 := [_, _, _, _, _]) rfl ?_
        refine e_iload_n dX11_mark_67 rfl ?_
        refine e_sw (c := 1) (fun hc => ?_) (fun hn0 => ?_)
        · subst hc
          refine e_tabIn dX11_mark_68 (tgt := 100) (by decide) (by decide) rfl (by decide) ?_
          refine e_iconst dX11_mark_100 (v := 2) (by decide) ?_
          refine e_iload dX11_mark_101 rfl ?_
          refine e_imul dX11_mark_103 ?_
          refine q_callSP (As := [_]) rfl dX11_mark_104 lm_M_193 (am_fitB rfl) yo_X11_tenth ys_X11_tenth rfl (Nat.le_of_ble_eq_true rfl) (Nat.le_of_ble_eq_true rfl) (s_X11_tenth hL _  _) (fun q7 => ?_)
          refine e_iload dX11_mark_107 rfl ?_
          refine q_callSP (As := [_]) rfl dX11_mark_109 lm_M_193 (am_fitB rfl) yo_X11_tenth ys_X11_tenth rfl (Nat.le_of_ble_eq_true rfl) (Nat.le_of_ble_eq_true rfl) (s_X11_tenth hL _  _) (fun q8 => ?_)
          refine e_isub dX11_mark_112 ?_
          exact e_iret dX11_mark_113 rfl rfl
        refine e_sw (c := 2) (fun hc => ?_) (fun hn1 => ?_)
        · subst hc
          refine e_tabIn dX11_mark_68 (tgt := 114) (by decide) (by decide) rfl (by decide) ?_
          refine e_aload_n dX11_mark_114 rfl ?_
          refine e_iload_n dX11_mark_115 rfl ?_
          refine q_callVP (As := [_]) rfl dX11_mark_116 lm_M_206 (am_fitB rfl) yo_X11_leakNow ys_X11_leakNow rfl rfl (by decide) (am_Lk hL rfl) rfl (Nat.le_of_ble_eq_true rfl) (Nat.le_of_ble_eq_true rfl) (s_X11_leakNow hL _  _) (fun q9 => ?_)
          refine e_if_le dX11_mark_119 (tgt := 126) (by decide) ?_ ?_
          · refine e_bipush dX11_mark_126 (v := ((-9) : Int32)) (by decide) ?_
            exact e_iret dX11_mark_128 rfl rfl
          · refine e_iconst dX11_mark_122 (v := 0) (by decide) ?_
            refine e_goto dX11_mark_123 (tgt := 128) (by decide) ?_
            exact e_iret dX11_mark_128 rfl rfl
        refine e_sw (c := 3) (fun hc => ?_) (fun hn2 => ?_)
        · subst hc
          refine e_tabIn dX11_mark_68 (tgt := 129) (by decide) (by decide) rfl (by decide) ?_
          refine e_iload dX11_mark_129 rfl ?_
          refine e_iload dX11_mark_131 rfl ?_
          refine e_iload_n dX11_mark_133 rfl ?_
          refine q_callSP (As := [_]) rfl dX11_mark_134 lm_M_209 (am_fitB rfl) yo_X11_costOf ys_X11_costOf rfl (Nat.le_of_ble_eq_true rfl) (Nat.le_of_ble_eq_true rfl) (s_X11_costOf hL _  _) (fun q10 => ?_)
          refine e_divq dX11_mark_137 ?_
          refine e_isub dX11_mark_138 ?_
          exact e_iret dX11_mark_139 rfl rfl
        refine e_sw (c := 4) (fun hc => ?_) (fun hn3 => ?_)
        · subst hc
          refine e_tabIn dX11_mark_68 (tgt := 140) (by decide) (by decide) rfl (by decide) ?_
          refine e_iload dX11_mark_140 rfl ?_
          exact e_iret dX11_mark_142 rfl rfl
        have hm0 := lv_neT hn0 (show (1 : Int32).toInt = 1 by decide)
        have hm1 := lv_neT hn1 (show (2 : Int32).toInt = 2 by decide)
        have hm2 := lv_neT hn2 (show (3 : Int32).toInt = 3 by decide)
        have hm3 := lv_neT hn3 (show (4 : Int32).toInt = 4 by decide)
        refine e_tabOut dX11_mark_68 (tgt := 143) (by omega) (by decide) ?_
        refine e_iload dX11_mark_143 rfl ?_
        refine e_iconst dX11_mark_145 (v := 3) (by decide) ?_
        refine e_irem dX11_mark_146 (by decide) ?_
        exact e_iret dX11_mark_147 rfl rfl
      · refine e_if2_eq dX11_mark_28 (tgt := 57) (by decide) ?_ ?_
        · refine e_msk [true, true, true, true, false] (LS1 := [_, _, _, _, none]) rfl ?_
          exact hj4 () 
        · refine e_iload_n dX11_mark_31 rfl ?_
          refine e_iconst dX11_mark_32 (v := 2) (by decide) ?_
          refine e_jn (P := fun t : Unit → Option (Int32 × am_U) => ∀ (j11z : Unit), am_E l g d_X11_mark 41 [some (.ref (60)), some (.int (a1)), some (.int (a2)), some (.int (u 69 a1.toNatClampNeg)), none] [] (am_of B u) (am_r (am_bI B) (t j11z))) ?_ (fun j11 hj11 => ?_)
          · intro j11z
            refine e_iload_n dX11_mark_41 rfl ?_
            refine e_iconst dX11_mark_42 (v := 3) (by decide) ?_
            refine e_jn (P := fun t : Unit → Option (Int32 × am_U) => ∀ (j12z : Unit), am_E l g d_X11_mark 51 [some (.ref (60)), none, none, none, none] [] (am_of B u) (am_r (am_bI B) (t j12z))) ?_ (fun j12 hj12 => ?_)
            · intro j12z
              refine e_aload_n dX11_mark_51 rfl ?_
              refine e_iconst dX11_mark_52 (v := 3) (by decide) ?_
              refine q_callVI (As := [_]) rfl dX11_mark_53 lm_M_117 (am_fitB rfl) yo_X11_meets ys_X11_meets rfl rfl (by decide) (am_Lk hL rfl) rfl (Nat.le_of_ble_eq_true rfl) (Nat.le_of_ble_eq_true rfl) (s_X11_meets hL _  _) (fun q13 => ?_)
              exact e_iret dX11_mark_56 rfl rfl
            · refine e_if2_ne dX11_mark_43 (tgt := 51) (by decide) ?_ ?_
              · refine e_msk [true, false, false, false, false] (LS1 := [_, none, none, none, none]) rfl ?_
                exact hj12 () 
              · refine e_iload_n dX11_mark_46 rfl ?_
                refine e_iconst dX11_mark_47 (v := 5) (by decide) ?_
                refine e_if2_eq dX11_mark_48 (tgt := 57) (by decide) ?_ ?_
                · refine e_msk [true, true, true, true, false] (LS1 := [_, _, _, _, none]) rfl ?_
                  exact hj4 () 
                · refine e_msk [true, false, false, false, false] (LS1 := [_, none, none, none, none]) rfl ?_
                  exact hj12 () 
          · refine e_if2_ne dX11_mark_33 (tgt := 41) (by decide) ?_ ?_
            · refine e_msk [true, true, true, true, false] (LS1 := [_, _, _, _, none]) rfl ?_
              exact hj11 () 
            · refine e_iload_n dX11_mark_36 rfl ?_
              refine e_iconst dX11_mark_37 (v := 4) (by decide) ?_
              refine e_if2_eq dX11_mark_38 (tgt := 57) (by decide) ?_ ?_
              · refine e_msk [true, true, true, true, false] (LS1 := [_, _, _, _, none]) rfl ?_
                exact hj4 () 
              · refine e_msk [true, true, true, true, false] (LS1 := [_, _, _, _, none]) rfl ?_
                exact hj11 () 
    · refine e_iconst dX11_mark_17 (v := ((-1) : Int32)) (by decide) ?_
      exact e_iret dX11_mark_18 rfl rfl

def f_X11_mixed_16 (u : am_U) (k53 : Int32 → Int32 → Option (Int32 × am_U)) : Nat → Int32 → Int32 → Int32 → Option (Int32 × am_U)
  | 0, _, _, _ => none
  | n + 1, v1, v2, v3 =>
    if (1 <<< ((u 60 12) &&& 31)) ≤ v3 then (
      k53 v1 v2)
    else (
      (f_X11_fits v3 u).bind (fun q1 =>
      if q1 = 0 then (
        f_X11_mixed_16 u k53 n v1 v2 (v3 + 1))
      else (
        if ¬ v1 = 0 then (
          f_X11_mixed_16 u k53 n (v1 + 1) v2 (v3 + 1))
        else (
          f_X11_mixed_16 u k53 n (v1 + 1) v3 (v3 + 1)))))
def f_X11_mixed (u : am_U) : Option (Int32 × am_U) :=
  if ¬ (u 60 12) = 0 then (
    f_X11_mixed_16 u (fun (c2v1 : Int32) (c2v2 : Int32) =>
      if ¬ c2v1 = 0 then (
        (f_X11_tells c2v2 c2v1 u).bind (fun q3 =>
        some (q3.1, q3.2)))
      else (
        some (((-9) : Int32), u))) 20000 0 0 0)
  else (
    some (((-4) : Int32), u))
set_option maxRecDepth 100000 in
set_option maxHeartbeats 4000000 in
theorem s_X11_mixed_16 {l : Launch} {g : am_G} {B : am_M} {pl : Nat} (hL : am_Lay B pl) (u : am_U)   (k53 : Int32 → Int32 → Option (Int32 × am_U)) (hk53 : ∀ (v1 : Int32) (v2 : Int32), am_E l g d_X11_mixed 53 [some (.ref (60)), some (.int (v1)), some (.int (v2)), none] [] (am_of B u) (am_r (am_bI B) (k53 v1 v2))) : ∀ (n : Nat) (v1 : Int32) (v2 : Int32) (v3 : Int32), am_E l g d_X11_mixed 16 [some (.ref (60)), some (.int (v1)), some (.int (v2)), some (.int (v3))] [] (am_of B u) (am_r (am_bI B) (f_X11_mixed_16 u k53 n v1 v2 v3)) := by
  intro n
  induction n with
  | zero => intro v1 v2 v3; exact am_none
  | succ n ih =>
    intro v1 v2 v3
    unfold f_X11_mixed_16
    refine e_iload_n dX11_mixed_16 rfl ?_
    refine e_iconst dX11_mixed_17 (v := 1) (by decide) ?_
    refine e_aload_n dX11_mixed_18 rfl ?_
    refine q_getI dX11_mixed_19 lf_M_184 (by decide) (am_Lk hL rfl) ?_
    refine e_ishl dX11_mixed_22 ?_
    refine e_if2_ge dX11_mixed_23 (tgt := 53) (by decide) ?_ ?_
    · refine e_msk [true, true, true, false] (LS1 := [_, _, _, none]) rfl ?_
      exact hk53 v1 v2
    · refine e_aload_n dX11_mixed_26 rfl ?_
      refine e_iload_n dX11_mixed_27 rfl ?_
      refine q_callVP (As := [_]) rfl dX11_mixed_28 lm_M_298 (am_fitB rfl) yo_X11_fits ys_X11_fits rfl rfl (by decide) (am_Lk hL rfl) rfl (Nat.le_of_ble_eq_true rfl) (Nat.le_of_ble_eq_true rfl) (s_X11_fits hL _  _) (fun q1 => ?_)
      refine e_if_eq dX11_mixed_31 (tgt := 47) (by decide) ?_ ?_
      · refine e_iinc dX11_mixed_47 rfl (v := _ + 1) rfl (by decide) (LS1 := [_, _, _, _]) rfl ?_
        refine e_goto dX11_mixed_50 (tgt := 16) (by decide) ?_
        exact ih v1 v2 (v3 + 1)
      · refine e_iload_n dX11_mixed_34 rfl ?_
        refine e_if_ne dX11_mixed_35 (tgt := 42) (by decide) ?_ ?_
        · refine e_iload_n dX11_mixed_42 rfl ?_
          refine e_istore_n dX11_mixed_43 (by decide) (LS1 := [_, _, _, _]) rfl ?_
          refine e_iinc dX11_mixed_44 rfl (v := _ + 1) rfl (by decide) (LS1 := [_, _, _, _]) rfl ?_
          refine e_iinc dX11_mixed_47 rfl (v := _ + 1) rfl (by decide) (LS1 := [_, _, _, _]) rfl ?_
          refine e_goto dX11_mixed_50 (tgt := 16) (by decide) ?_
          exact ih (v1 + 1) v2 (v3 + 1)
        · refine e_iload_n dX11_mixed_38 rfl ?_
          refine e_goto dX11_mixed_39 (tgt := 43) (by decide) ?_
          refine e_istore_n dX11_mixed_43 (by decide) (LS1 := [_, _, _, _]) rfl ?_
          refine e_iinc dX11_mixed_44 rfl (v := _ + 1) rfl (by decide) (LS1 := [_, _, _, _]) rfl ?_
          refine e_iinc dX11_mixed_47 rfl (v := _ + 1) rfl (by decide) (LS1 := [_, _, _, _]) rfl ?_
          refine e_goto dX11_mixed_50 (tgt := 16) (by decide) ?_
          exact ih (v1 + 1) v3 (v3 + 1)

set_option maxRecDepth 100000 in
set_option maxHeartbeats 4000000 in
theorem s_X11_mixed {l : Launch} {g : am_G} {B : am_M} {pl : Nat} (hL : am_Lay B pl)   (u : am_U) : am_E l g d_X11_mixed 0 (am_ent d_X11_mixed [.ref (60)]) [] (am_of B u) (am_r (am_bI B) (f_X11_mixed u)) := by
  unfold f_X11_mixed
  show am_E l g d_X11_mixed 0 [some (.ref (60)), none, none, none] [] (am_of B u) _
  refine e_aload_n dX11_mixed_0 rfl ?_
  refine q_getI dX11_mixed_1 lf_M_184 (by decide) (am_Lk hL rfl) ?_
  refine e_if_ne dX11_mixed_4 (tgt := 10) (by decide) ?_ ?_
  · refine e_iconst dX11_mixed_10 (v := 0) (by decide) ?_
    refine e_istore_n dX11_mixed_11 (by decide) (LS1 := [_, _, none, none]) rfl ?_
    refine e_iconst dX11_mixed_12 (v := 0) (by decide) ?_
    refine e_istore_n dX11_mixed_13 (by decide) (LS1 := [_, _, _, none]) rfl ?_
    refine e_iconst dX11_mixed_14 (v := 0) (by decide) ?_
    refine e_istore_n dX11_mixed_15 (by decide) (LS1 := [_, _, _, _]) rfl ?_
    refine s_X11_mixed_16 hL _ _ (fun c2v1 c2v2 => ?_) _ _ _ _
    · refine e_iload_n dX11_mixed_53 rfl ?_
      refine e_if_ne dX11_mixed_54 (tgt := 62) (by decide) ?_ ?_
      · refine e_aload_n dX11_mixed_62 rfl ?_
        refine e_iload_n dX11_mixed_63 rfl ?_
        refine e_iload_n dX11_mixed_64 rfl ?_
        refine q_callVI (As := [_, _]) rfl dX11_mixed_65 lm_M_125 (am_fitB rfl) yo_X11_tells ys_X11_tells rfl rfl (by decide) (am_Lk hL rfl) rfl (Nat.le_of_ble_eq_true rfl) (Nat.le_of_ble_eq_true rfl) (s_X11_tells hL _ _  _) (fun q3 => ?_)
        exact e_iret dX11_mixed_68 rfl rfl
      · refine e_bipush dX11_mixed_57 (v := ((-9) : Int32)) (by decide) ?_
        refine e_goto dX11_mixed_59 (tgt := 68) (by decide) ?_
        exact e_iret dX11_mixed_68 rfl rfl
  · refine e_bipush dX11_mixed_7 (v := ((-4) : Int32)) (by decide) ?_
    exact e_iret dX11_mixed_9 rfl rfl

def f_X11_night_25 (k61 : Int32 → am_U → Option (Int32 × am_U)) : Nat → Int32 → Int32 → am_U → Option (Int32 × am_U)
  | 0, _, _, _ => none
  | n + 1, v1, v2, u =>
    if (u 60 12) ≤ v2 then (
      k61 v1 u)
    else (
      (f_X11_leakNow v2 u).bind (fun q2 =>
      am_ck (am_ix (0 + v2) 30) (
      let u4 : am_U := am_w u 75 (0 + v2).toNatClampNeg ((u 75 (0 + v2).toNatClampNeg) - q2)
      f_X11_night_25 k61 n (v1 + q2) (v2 + 1) u4)))
def f_X11_night_65 (v1 : Int32) (k150 : Int32 → am_U → Option (Int32 × am_U)) : Nat → Int32 → Int32 → am_U → Option (Int32 × am_U)
  | 0, _, _, _ => none
  | n + 1, v2, v3, u =>
    if 5 ≤ v3 then (
      k150 v2 u)
    else (
      am_jn (fun (j6s0 : Int32) =>
        am_ck (am_ix (23 + v3) 30) (
        am_jn (fun (j8s0 : Int32) =>
          let u9 : am_U := am_w u 75 (23 + v3).toNatClampNeg ((u 75 (23 + v3).toNatClampNeg) + j8s0)
          am_jn (fun (j10s0 : Int32) =>
            am_ck (am_ix (18 + v3) 30) (
            let u11 : am_U := am_w u9 75 (18 + v3).toNatClampNeg 0
            f_X11_night_65 v1 k150 n (v2 + j10s0) (v3 + 1) u11)) (fun j10 =>
          if j6s0 = 0 then (
            j10 0)
          else (
            j10 1))) (fun j8 =>
        if j6s0 = 0 then (
          j8 0)
        else (
          j8 1)))) (fun j6 =>
      am_jn (fun (j13z : Unit) =>
        j6 0) (fun j13 =>
      if v3 ≤ 0 then (
        j13 () )
      else (
        am_ck (am_ix (18 + v3) 30) (
        am_ck (am_ix v3 5) (
        if (u 68 v3.toNatClampNeg) ≤ (u 75 (18 + v3).toNatClampNeg) then (
          j13 () )
        else (
          j6 1)))))))
def f_X11_night (u : am_U) : Option (Int32 × am_U) :=
  if ¬ (u 75 28) = 999 then (
    (f_X11_remembers 5 u).bind (fun q1 =>
    f_X11_night_25 (fun (c5v1 : Int32) (c5u : am_U) =>
      f_X11_night_65 c5v1 (fun (c16v2 : Int32) (c16u : am_U) =>
        let u17 : am_U := am_w c16u 75 28 ((c16u 75 28) + 1)
        let u18 : am_U := am_w u17 75 29 0
        (f_X11_tells c16v2 c5v1 u18).bind (fun q19 =>
        some (q19.1, q19.2))) 20000 0 0 c5u) 20000 0 0 q1))
  else (
    some (((-2) : Int32), u))
set_option maxRecDepth 100000 in
set_option maxHeartbeats 4000000 in
theorem s_X11_night_25 {l : Launch} {g : am_G} {B : am_M} {pl : Nat} (hL : am_Lay B pl)   (k61 : Int32 → am_U → Option (Int32 × am_U)) (hk61 : ∀ (v1 : Int32) (u : am_U), am_E l g d_X11_night 61 [some (.ref (60)), some (.int (v1)), none, none, none] [] (am_of B u) (am_r (am_bI B) (k61 v1 u))) : ∀ (n : Nat) (v1 : Int32) (v2 : Int32) (u : am_U), am_E l g d_X11_night 25 [some (.ref (60)), some (.int (v1)), some (.int (v2)), none, none] [] (am_of B u) (am_r (am_bI B) (f_X11_night_25 k61 n v1 v2 u)) := by
  intro n
  induction n with
  | zero => intro v1 v2 u; exact am_none
  | succ n ih =>
    intro v1 v2 u
    unfold f_X11_night_25
    refine e_iload_n dX11_night_25 rfl ?_
    refine e_aload_n dX11_night_26 rfl ?_
    refine q_getI dX11_night_27 lf_M_184 (by decide) (am_Lk hL rfl) ?_
    refine e_if2_ge dX11_night_30 (tgt := 61) (by decide) ?_ ?_
    · refine e_msk [true, true, false, false, false] (LS1 := [_, _, none, none, none]) rfl ?_
      exact hk61 v1 u
    · refine e_aload_n dX11_night_33 rfl ?_
      refine e_iload_n dX11_night_34 rfl ?_
      refine q_callVP (As := [_]) rfl dX11_night_35 lm_M_206 (am_fitB rfl) yo_X11_leakNow ys_X11_leakNow rfl rfl (by decide) (am_Lk hL rfl) rfl (Nat.le_of_ble_eq_true rfl) (Nat.le_of_ble_eq_true rfl) (s_X11_leakNow hL _  _) (fun q2 => ?_)
      refine e_istore_n dX11_night_38 (by decide) (LS1 := [_, _, _, _, none]) rfl ?_
      refine e_aload_n dX11_night_39 rfl ?_
      refine q_getR (r := 75) dX11_night_40 lf_M_53 rfl (by decide) (am_Lk hL rfl) (am_Lr hL rfl) ?_
      refine e_iconst dX11_night_43 (v := 0) (by decide) ?_
      refine e_iload_n dX11_night_44 rfl ?_
      refine e_iadd dX11_night_45 ?_
      refine e_dup2 dX11_night_46 rfl rfl ?_
      refine q_ialdH dX11_night_47 (am_Ls hL rfl) (fun i3 => ?_)
      refine e_iload_n dX11_night_48 rfl ?_
      refine e_isub dX11_night_49 ?_
      refine q_iastC (jn := _) dX11_night_50 (am_Ls hL rfl) i3 rfl ?_
      refine e_iload_n dX11_night_51 rfl ?_
      refine e_iload_n dX11_night_52 rfl ?_
      refine e_iadd dX11_night_53 ?_
      refine e_istore_n dX11_night_54 (by decide) (LS1 := [_, _, _, _, none]) rfl ?_
      refine e_iinc dX11_night_55 rfl (v := _ + 1) rfl (by decide) (LS1 := [_, _, _, _, none]) rfl ?_
      refine e_goto dX11_night_58 (tgt := 25) (by decide) ?_
      refine e_msk [true, true, true, false, false] (LS1 := [_, _, _, none, none]) rfl ?_
      exact ih (v1 + q2) (v2 + 1) (am_w u 75 (0 + v2).toNatClampNeg ((u 75 (0 + v2).toNatClampNeg) - q2))

set_option maxRecDepth 100000 in
set_option maxHeartbeats 4000000 in
theorem s_X11_night_65 {l : Launch} {g : am_G} {B : am_M} {pl : Nat} (hL : am_Lay B pl) (v1 : Int32)  (k150 : Int32 → am_U → Option (Int32 × am_U)) (hk150 : ∀ (v2 : Int32) (u : am_U), am_E l g d_X11_night 150 [some (.ref (60)), some (.int (v1)), some (.int (v2)), none, none] [] (am_of B u) (am_r (am_bI B) (k150 v2 u))) : ∀ (n : Nat) (v2 : Int32) (v3 : Int32) (u : am_U), am_E l g d_X11_night 65 [some (.ref (60)), some (.int (v1)), some (.int (v2)), some (.int (v3)), none] [] (am_of B u) (am_r (am_bI B) (f_X11_night_65 v1 k150 n v2 v3 u)) := by
  intro n
  induction n with
  | zero => intro v2 v3 u; exact am_none
  | succ n ih =>
    intro v2 v3 u
    unfold f_X11_night_65
    refine e_iload_n dX11_night_65 rfl ?_
    refine e_iconst dX11_night_66 (v := 5) (by decide) ?_
    refine e_if2_ge dX11_night_67 (tgt := 150) (by decide) ?_ ?_
    · refine e_msk [true, true, true, false, false] (LS1 := [_, _, _, none, none]) rfl ?_
      exact hk150 v2 u
    · refine e_iload_n dX11_night_70 rfl ?_
      refine e_jn (P := fun t : Int32 → Option (Int32 × am_U) => ∀ (j6s0 : Int32), am_E l g d_X11_night 97 [some (.ref (60)), some (.int (v1)), some (.int (v2)), some (.int (v3)), none] [.int (j6s0)] (am_of B u) (am_r (am_bI B) (t j6s0))) ?_ (fun j6 hj6 => ?_)
      · intro j6s0
        refine e_istore dX11_night_97 (by decide) (LS1 := [_, _, _, _, _]) rfl ?_
        refine e_aload_n dX11_night_99 rfl ?_
        refine q_getR (r := 75) dX11_night_100 lf_M_53 rfl (by decide) (am_Lk hL rfl) (am_Lr hL rfl) ?_
        refine e_bipush dX11_night_103 (v := 23) (by decide) ?_
        refine e_iload_n dX11_night_105 rfl ?_
        refine e_iadd dX11_night_106 ?_
        refine e_dup2 dX11_night_107 rfl rfl ?_
        refine q_ialdH dX11_night_108 (am_Ls hL rfl) (fun i7 => ?_)
        refine e_iload dX11_night_109 rfl ?_
        refine e_jn (P := fun t : Int32 → Option (Int32 × am_U) => ∀ (j8s0 : Int32), am_E l g d_X11_night 119 [some (.ref (60)), some (.int (v1)), some (.int (v2)), some (.int (v3)), some (.int (j6s0))] [.int (j8s0), .int (u 75 (23 + v3).toNatClampNeg), .int (23 + v3), .ref (75)] (am_of B u) (am_r (am_bI B) (t j8s0))) ?_ (fun j8 hj8 => ?_)
        · intro j8s0
          refine e_iadd dX11_night_119 ?_
          refine q_iastC (jn := _) dX11_night_120 (am_Ls hL rfl) i7 rfl ?_
          refine e_iload_n dX11_night_121 rfl ?_
          refine e_iload dX11_night_122 rfl ?_
          refine e_jn (P := fun t : Int32 → Option (Int32 × am_U) => ∀ (j10s0 : Int32), am_E l g d_X11_night 132 [some (.ref (60)), some (.int (v1)), none, some (.int (v3)), none] [.int (j10s0), .int (v2)] (am_of B (am_w u 75 (23 + v3).toNatClampNeg ((u 75 (23 + v3).toNatClampNeg) + j8s0))) (am_r (am_bI B) (t j10s0))) ?_ (fun j10 hj10 => ?_)
          · intro j10s0
            refine e_iadd dX11_night_132 ?_
            refine e_istore_n dX11_night_133 (by decide) (LS1 := [_, _, _, _, none]) rfl ?_
            refine e_aload_n dX11_night_134 rfl ?_
            refine q_getR (r := 75) dX11_night_135 lf_M_53 rfl (by decide) (am_Lk hL rfl) (am_Lr hL rfl) ?_
            refine e_bipush dX11_night_138 (v := 18) (by decide) ?_
            refine e_iload_n dX11_night_140 rfl ?_
            refine e_iadd dX11_night_141 ?_
            refine e_iconst dX11_night_142 (v := 0) (by decide) ?_
            refine q_iastH dX11_night_143 (am_Ls hL rfl) (fun i12 => ?_)
            refine e_iinc dX11_night_144 rfl (v := _ + 1) rfl (by decide) (LS1 := [_, _, _, _, none]) rfl ?_
            refine e_goto dX11_night_147 (tgt := 65) (by decide) ?_
            exact ih (v2 + j10s0) (v3 + 1) (am_w (am_w u 75 (23 + v3).toNatClampNeg ((u 75 (23 + v3).toNatClampNeg) + j8s0)) 75 (18 + v3).toNatClampNeg 0)
          · refine e_if_eq dX11_night_124 (tgt := 131) (by decide) ?_ ?_
            · refine e_iconst dX11_night_131 (v := 0) (by decide) ?_
              refine e_msk [true, true, false, true, false] (LS1 := [_, _, none, _, none]) rfl ?_
              exact hj10 0
            · refine e_iconst dX11_night_127 (v := 1) (by decide) ?_
              refine e_goto dX11_night_128 (tgt := 132) (by decide) ?_
              refine e_msk [true, true, false, true, false] (LS1 := [_, _, none, _, none]) rfl ?_
              exact hj10 1
        · refine e_if_eq dX11_night_111 (tgt := 118) (by decide) ?_ ?_
          · refine e_iconst dX11_night_118 (v := 0) (by decide) ?_
            refine e_msk [true, true, true, true, true] (LS1 := [_, _, _, _, _]) rfl ?_
            exact hj8 0
          · refine e_iconst dX11_night_114 (v := 1) (by decide) ?_
            refine e_goto dX11_night_115 (tgt := 119) (by decide) ?_
            refine e_msk [true, true, true, true, true] (LS1 := [_, _, _, _, _]) rfl ?_
            exact hj8 1
      · refine e_jn (P := fun t : Unit → Option (Int32 × am_U) => ∀ (j13z : Unit), am_E l g d_X11_night 96 [some (.ref (60)), some (.int (v1)), some (.int (v2)), some (.int (v3)), none] [] (am_of B u) (am_r (am_bI B) (t j13z))) ?_ (fun j13 hj13 => ?_)
        · intro j13z
          refine e_iconst dX11_night_96 (v := 0) (by decide) ?_
          refine e_msk [true, true, true, true, false] (LS1 := [_, _, _, _, none]) rfl ?_
          exact hj6 0
        · refine e_if_le dX11_night_71 (tgt := 96) (by decide) ?_ ?_
          · refine e_msk [true, true, true, true, false] (LS1 := [_, _, _, _, none]) rfl ?_
            exact hj13 () 
          · refine e_aload_n dX11_night_74 rfl ?_
            refine q_getR (r := 75) dX11_night_75 lf_M_53 rfl (by decide) (am_Lk hL rfl) (am_Lr hL rfl) ?_
            refine e_bipush dX11_night_78 (v := 18) (by decide) ?_
            refine e_iload_n dX11_night_80 rfl ?_
            refine e_iadd dX11_night_81 ?_
            refine q_ialdH dX11_night_82 (am_Ls hL rfl) (fun i14 => ?_)
            refine e_aload_n dX11_night_83 rfl ?_
            refine q_getR (r := 68) dX11_night_84 lf_M_32 rfl (by decide) (am_Lk hL rfl) (am_Lr hL rfl) ?_
            refine e_iload_n dX11_night_87 rfl ?_
            refine q_ialdH dX11_night_88 (am_Ls hL rfl) (fun i15 => ?_)
            refine e_if2_ge dX11_night_89 (tgt := 96) (by decide) ?_ ?_
            · refine e_msk [true, true, true, true, false] (LS1 := [_, _, _, _, none]) rfl ?_
              exact hj13 () 
            · refine e_iconst dX11_night_92 (v := 1) (by decide) ?_
              refine e_goto dX11_night_93 (tgt := 97) (by decide) ?_
              refine e_msk [true, true, true, true, false] (LS1 := [_, _, _, _, none]) rfl ?_
              exact hj6 1

set_option maxRecDepth 100000 in
set_option maxHeartbeats 4000000 in
theorem s_X11_night {l : Launch} {g : am_G} {B : am_M} {pl : Nat} (hL : am_Lay B pl)   (u : am_U) : am_E l g d_X11_night 0 (am_ent d_X11_night [.ref (60)]) [] (am_of B u) (am_r (am_bI B) (f_X11_night u)) := by
  unfold f_X11_night
  show am_E l g d_X11_night 0 [some (.ref (60)), none, none, none, none] [] (am_of B u) _
  refine e_aload_n dX11_night_0 rfl ?_
  refine q_getR (r := 75) dX11_night_1 lf_M_53 rfl (by decide) (am_Lk hL rfl) (am_Lr hL rfl) ?_
  refine e_bipush dX11_night_4 (v := 28) (by decide) ?_
  refine q_ialdC (jn := 28) dX11_night_6 (am_Ls hL rfl) (by decide) (by decide) ?_
  refine e_sipush dX11_night_7 (v := 999) (by decide) ?_
  refine e_if2_ne dX11_night_10 (tgt := 16) (by decide) ?_ ?_
  · refine e_aload_n dX11_night_16 rfl ?_
    refine e_iconst dX11_night_17 (v := 5) (by decide) ?_
    refine q_callVV (As := [_]) rfl dX11_night_18 lm_M_224 (am_fitB rfl) yo_X11_remembers ys_X11_remembers rfl rfl (by decide) (am_Lk hL rfl) rfl (Nat.le_of_ble_eq_true rfl) (Nat.le_of_ble_eq_true rfl) (s_X11_remembers hL _  _) (fun q1 => ?_)
    refine e_iconst dX11_night_21 (v := 0) (by decide) ?_
    refine e_istore_n dX11_night_22 (by decide) (LS1 := [_, _, none, none, none]) rfl ?_
    refine e_iconst dX11_night_23 (v := 0) (by decide) ?_
    refine e_istore_n dX11_night_24 (by decide) (LS1 := [_, _, _, none, none]) rfl ?_
    refine s_X11_night_25 hL _ (fun c5v1 c5u => ?_) _ _ _ _
    · refine e_iconst dX11_night_61 (v := 0) (by decide) ?_
      refine e_istore_n dX11_night_62 (by decide) (LS1 := [_, _, _, none, none]) rfl ?_
      refine e_iconst dX11_night_63 (v := 0) (by decide) ?_
      refine e_istore_n dX11_night_64 (by decide) (LS1 := [_, _, _, _, none]) rfl ?_
      refine s_X11_night_65 hL _ _ (fun c16v2 c16u => ?_) _ _ _ _
      · refine e_aload_n dX11_night_150 rfl ?_
        refine q_getR (r := 75) dX11_night_151 lf_M_53 rfl (by decide) (am_Lk hL rfl) (am_Lr hL rfl) ?_
        refine e_bipush dX11_night_154 (v := 28) (by decide) ?_
        refine e_dup2 dX11_night_156 rfl rfl ?_
        refine q_ialdC (jn := 28) dX11_night_157 (am_Ls hL rfl) (by decide) (by decide) ?_
        refine e_iconst dX11_night_158 (v := 1) (by decide) ?_
        refine e_iadd dX11_night_159 ?_
        refine q_iastC (jn := 28) dX11_night_160 (am_Ls hL rfl) (by decide) (by decide) ?_
        refine e_aload_n dX11_night_161 rfl ?_
        refine q_getR (r := 75) dX11_night_162 lf_M_53 rfl (by decide) (am_Lk hL rfl) (am_Lr hL rfl) ?_
        refine e_bipush dX11_night_165 (v := 29) (by decide) ?_
        refine e_iconst dX11_night_167 (v := 0) (by decide) ?_
        refine q_iastC (jn := 29) dX11_night_168 (am_Ls hL rfl) (by decide) (by decide) ?_
        refine e_aload_n dX11_night_169 rfl ?_
        refine e_iload_n dX11_night_170 rfl ?_
        refine e_iload_n dX11_night_171 rfl ?_
        refine q_callVI (As := [_, _]) rfl dX11_night_172 lm_M_125 (am_fitB rfl) yo_X11_tells ys_X11_tells rfl rfl (by decide) (am_Lk hL rfl) rfl (Nat.le_of_ble_eq_true rfl) (Nat.le_of_ble_eq_true rfl) (s_X11_tells hL _ _  _) (fun q19 => ?_)
        exact e_iret dX11_night_175 rfl rfl
  · refine e_bipush dX11_night_13 (v := ((-2) : Int32)) (by decide) ?_
    exact e_iret dX11_night_15 rfl rfl

