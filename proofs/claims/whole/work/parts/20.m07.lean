def f_X11_broughtTo_10 (u : am_U) (v1 : Int32) (v2 : Int32) : Nat → Int32 → Int32 → Option (Int32)
  | 0, _, _ => none
  | n + 1, v3, v4 =>
    if v2 ≤ v4 then (
      some v3)
    else (
      am_ck (am_ix v1 6) (
      (f_X11_leakOf (u 69 v1.toNatClampNeg) v3 0).bind (fun q3 =>
      f_X11_broughtTo_10 u v1 v2 n (v3 - q3) (v4 + 1))))
def f_X11_broughtTo (a1 : Int32) (a2 : Int32) (u : am_U) : Option (Int32) :=
  am_ck (am_ix a1 6) (
  f_X11_broughtTo_10 u a1 a2 20000 (u 70 a1.toNatClampNeg) 0)
set_option maxRecDepth 100000 in
set_option maxHeartbeats 4000000 in
theorem s_X11_broughtTo_10 {l : Launch} {g : am_G} {B : am_M} {pl : Nat} (hL : am_Lay B pl) (u : am_U) (v1 : Int32) (v2 : Int32)    : ∀ (n : Nat) (v3 : Int32) (v4 : Int32), am_E l g d_X11_broughtTo 10 [some (.ref (60)), some (.int (v1)), some (.int (v2)), some (.int (v3)), some (.int (v4))] [] (am_of B u) (am_r (am_bP B u) (f_X11_broughtTo_10 u v1 v2 n v3 v4)) := by
  intro n
  induction n with
  | zero => intro v3 v4; exact am_none
  | succ n ih =>
    intro v3 v4
    unfold f_X11_broughtTo_10
    refine e_iload dX11_broughtTo_10 rfl ?_
    refine e_iload_n dX11_broughtTo_12 rfl ?_
    refine e_if2_ge dX11_broughtTo_13 (tgt := 36) (by decide) ?_ ?_
    · refine e_iload_n dX11_broughtTo_36 rfl ?_
      exact e_iret dX11_broughtTo_37 rfl rfl
    · refine e_iload_n dX11_broughtTo_16 rfl ?_
      refine e_aload_n dX11_broughtTo_17 rfl ?_
      refine q_getR (r := 69) dX11_broughtTo_18 lf_M_35 rfl (by decide) (am_Lk hL rfl) (am_Lr hL rfl) ?_
      refine e_iload_n dX11_broughtTo_21 rfl ?_
      refine q_ialdH dX11_broughtTo_22 (am_Ls hL rfl) (fun i2 => ?_)
      refine e_iload_n dX11_broughtTo_23 rfl ?_
      refine e_iconst dX11_broughtTo_24 (v := 0) (by decide) ?_
      refine q_callSP (As := [_, _, _]) rfl dX11_broughtTo_25 lm_M_196 (am_fitB rfl) yo_X11_leakOf ys_X11_leakOf rfl (Nat.le_of_ble_eq_true rfl) (Nat.le_of_ble_eq_true rfl) (s_X11_leakOf hL _ _ _  _) (fun q3 => ?_)
      refine e_isub dX11_broughtTo_28 ?_
      refine e_istore_n dX11_broughtTo_29 (by decide) (LS1 := [_, _, _, _, _]) rfl ?_
      refine e_iinc dX11_broughtTo_30 rfl (v := _ + 1) rfl (by decide) (LS1 := [_, _, _, _, _]) rfl ?_
      refine e_goto dX11_broughtTo_33 (tgt := 10) (by decide) ?_
      exact ih (v3 - q3) (v4 + 1)

set_option maxRecDepth 100000 in
set_option maxHeartbeats 4000000 in
theorem s_X11_broughtTo {l : Launch} {g : am_G} {B : am_M} {pl : Nat} (hL : am_Lay B pl) (a1 : Int32) (a2 : Int32)  (u : am_U) : am_E l g d_X11_broughtTo 0 (am_ent d_X11_broughtTo [.ref (60), .int (a1), .int (a2)]) [] (am_of B u) (am_r (am_bP B u) (f_X11_broughtTo a1 a2 u)) := by
  unfold f_X11_broughtTo
  show am_E l g d_X11_broughtTo 0 [some (.ref (60)), some (.int (a1)), some (.int (a2)), none, none] [] (am_of B u) _
  refine e_aload_n dX11_broughtTo_0 rfl ?_
  refine q_getR (r := 70) dX11_broughtTo_1 lf_M_38 rfl (by decide) (am_Lk hL rfl) (am_Lr hL rfl) ?_
  refine e_iload_n dX11_broughtTo_4 rfl ?_
  refine q_ialdH dX11_broughtTo_5 (am_Ls hL rfl) (fun i1 => ?_)
  refine e_istore_n dX11_broughtTo_6 (by decide) (LS1 := [_, _, _, _, none]) rfl ?_
  refine e_iconst dX11_broughtTo_7 (v := 0) (by decide) ?_
  refine e_istore dX11_broughtTo_8 (by decide) (LS1 := [_, _, _, _, _]) rfl ?_
  refine s_X11_broughtTo_10 hL _ _ _ _ _ _

def f_X11_carry (a1 : Int32) (a2 : Int32) (u : am_U) : Option (Int32 × am_U) :=
  (f_X11_isJar a1 u).bind (fun q1 =>
  if q1 = 0 then (
    some (((-1) : Int32), u))
  else (
    (f_X11_in a2 0 1).bind (fun q2 =>
    if ¬ q2 = 0 then (
      am_ck (am_ix (6 + a1) 30) (
      am_jn (fun (j4s0 : Int32) =>
        let x5 : Int32 := (u 75 (6 + a1).toNatClampNeg) + j4s0
        (f_X11_isPlace x5).bind (fun q6 =>
        if q6 = 0 then (
          some (((-4) : Int32), u))
        else (
          if (u 75 29) < (u 60 8) then (
            (f_X11_remembers 1 u).bind (fun q7 =>
            let u8 : am_U := am_w q7 75 (6 + a1).toNatClampNeg x5
            let u9 : am_U := am_w u8 75 29 ((u8 75 29) + 1)
            some (x5, u9)))
          else (
            some (((-4) : Int32), u))))) (fun j4 =>
      if ¬ a2 = 1 then (
        j4 ((-1) : Int32))
      else (
        j4 1))))
    else (
      some (((-1) : Int32), u)))))
set_option maxRecDepth 100000 in
set_option maxHeartbeats 4000000 in
theorem s_X11_carry {l : Launch} {g : am_G} {B : am_M} {pl : Nat} (hL : am_Lay B pl) (a1 : Int32) (a2 : Int32)  (u : am_U) : am_E l g d_X11_carry 0 (am_ent d_X11_carry [.ref (60), .int (a1), .int (a2)]) [] (am_of B u) (am_r (am_bI B) (f_X11_carry a1 a2 u)) := by
  unfold f_X11_carry
  show am_E l g d_X11_carry 0 [some (.ref (60)), some (.int (a1)), some (.int (a2)), none] [] (am_of B u) _
  refine e_aload_n dX11_carry_0 rfl ?_
  refine e_iload_n dX11_carry_1 rfl ?_
  refine q_callVP (As := [_]) rfl dX11_carry_2 lm_M_200 (am_fitB rfl) yo_X11_isJar ys_X11_isJar rfl rfl (by decide) (am_Lk hL rfl) rfl (Nat.le_of_ble_eq_true rfl) (Nat.le_of_ble_eq_true rfl) (s_X11_isJar hL _  _) (fun q1 => ?_)
  refine e_if_eq dX11_carry_5 (tgt := 17) (by decide) ?_ ?_
  · refine e_iconst dX11_carry_17 (v := ((-1) : Int32)) (by decide) ?_
    exact e_iret dX11_carry_18 rfl rfl
  · refine e_iload_n dX11_carry_8 rfl ?_
    refine e_iconst dX11_carry_9 (v := 0) (by decide) ?_
    refine e_iconst dX11_carry_10 (v := 1) (by decide) ?_
    refine q_callSP (As := [_, _, _]) rfl dX11_carry_11 lm_M_106 (am_fitB rfl) yo_X11_in ys_X11_in rfl (Nat.le_of_ble_eq_true rfl) (Nat.le_of_ble_eq_true rfl) (s_X11_in hL _ _ _  _) (fun q2 => ?_)
    refine e_if_ne dX11_carry_14 (tgt := 19) (by decide) ?_ ?_
    · refine e_aload_n dX11_carry_19 rfl ?_
      refine q_getR (r := 75) dX11_carry_20 lf_M_53 rfl (by decide) (am_Lk hL rfl) (am_Lr hL rfl) ?_
      refine e_bipush dX11_carry_23 (v := 6) (by decide) ?_
      refine e_iload_n dX11_carry_25 rfl ?_
      refine e_iadd dX11_carry_26 ?_
      refine q_ialdH dX11_carry_27 (am_Ls hL rfl) (fun i3 => ?_)
      refine e_iload_n dX11_carry_28 rfl ?_
      refine e_iconst dX11_carry_29 (v := 1) (by decide) ?_
      refine e_jn (P := fun t : Int32 → Option (Int32 × am_U) => ∀ (j4s0 : Int32), am_E l g d_X11_carry 38 [some (.ref (60)), some (.int (a1)), none, none] [.int (j4s0), .int (u 75 (6 + a1).toNatClampNeg)] (am_of B u) (am_r (am_bI B) (t j4s0))) ?_ (fun j4 hj4 => ?_)
      · intro j4s0
        refine e_iadd dX11_carry_38 ?_
        refine e_istore_n dX11_carry_39 (by decide) (LS1 := [_, _, none, _]) rfl ?_
        refine e_iload_n dX11_carry_40 rfl ?_
        refine q_callSP (As := [_]) rfl dX11_carry_41 lm_M_215 (am_fitB rfl) yo_X11_isPlace ys_X11_isPlace rfl (Nat.le_of_ble_eq_true rfl) (Nat.le_of_ble_eq_true rfl) (s_X11_isPlace hL _  _) (fun q6 => ?_)
        refine e_if_eq dX11_carry_44 (tgt := 61) (by decide) ?_ ?_
        · refine e_bipush dX11_carry_61 (v := ((-4) : Int32)) (by decide) ?_
          exact e_iret dX11_carry_63 rfl rfl
        · refine e_aload_n dX11_carry_47 rfl ?_
          refine q_getR (r := 75) dX11_carry_48 lf_M_53 rfl (by decide) (am_Lk hL rfl) (am_Lr hL rfl) ?_
          refine e_bipush dX11_carry_51 (v := 29) (by decide) ?_
          refine q_ialdC (jn := 29) dX11_carry_53 (am_Ls hL rfl) (by decide) (by decide) ?_
          refine e_aload_n dX11_carry_54 rfl ?_
          refine q_getI dX11_carry_55 lf_M_178 (by decide) (am_Lk hL rfl) ?_
          refine e_if2_lt dX11_carry_58 (tgt := 64) (by decide) ?_ ?_
          · refine e_aload_n dX11_carry_64 rfl ?_
            refine e_iconst dX11_carry_65 (v := 1) (by decide) ?_
            refine q_callVV (As := [_]) rfl dX11_carry_66 lm_M_224 (am_fitB rfl) yo_X11_remembers ys_X11_remembers rfl rfl (by decide) (am_Lk hL rfl) rfl (Nat.le_of_ble_eq_true rfl) (Nat.le_of_ble_eq_true rfl) (s_X11_remembers hL _  _) (fun q7 => ?_)
            refine e_aload_n dX11_carry_69 rfl ?_
            refine q_getR (r := 75) dX11_carry_70 lf_M_53 rfl (by decide) (am_Lk hL rfl) (am_Lr hL rfl) ?_
            refine e_bipush dX11_carry_73 (v := 6) (by decide) ?_
            refine e_iload_n dX11_carry_75 rfl ?_
            refine e_iadd dX11_carry_76 ?_
            refine e_iload_n dX11_carry_77 rfl ?_
            refine q_iastC (jn := _) dX11_carry_78 (am_Ls hL rfl) i3 rfl ?_
            refine e_aload_n dX11_carry_79 rfl ?_
            refine q_getR (r := 75) dX11_carry_80 lf_M_53 rfl (by decide) (am_Lk hL rfl) (am_Lr hL rfl) ?_
            refine e_bipush dX11_carry_83 (v := 29) (by decide) ?_
            refine e_dup2 dX11_carry_85 rfl rfl ?_
            refine q_ialdC (jn := 29) dX11_carry_86 (am_Ls hL rfl) (by decide) (by decide) ?_
            refine e_iconst dX11_carry_87 (v := 1) (by decide) ?_
            refine e_iadd dX11_carry_88 ?_
            refine q_iastC (jn := 29) dX11_carry_89 (am_Ls hL rfl) (by decide) (by decide) ?_
            refine e_iload_n dX11_carry_90 rfl ?_
            exact e_iret dX11_carry_91 rfl rfl
          · refine e_bipush dX11_carry_61 (v := ((-4) : Int32)) (by decide) ?_
            exact e_iret dX11_carry_63 rfl rfl
      · refine e_if2_ne dX11_carry_30 (tgt := 37) (by decide) ?_ ?_
        · refine e_iconst dX11_carry_37 (v := ((-1) : Int32)) (by decide) ?_
          refine e_msk [true, true, false, false] (LS1 := [_, _, none, none]) rfl ?_
          exact hj4 ((-1) : Int32)
        · refine e_iconst dX11_carry_33 (v := 1) (by decide) ?_
          refine e_goto dX11_carry_34 (tgt := 38) (by decide) ?_
          refine e_msk [true, true, false, false] (LS1 := [_, _, none, none]) rfl ?_
          exact hj4 1
    · refine e_iconst dX11_carry_17 (v := ((-1) : Int32)) (by decide) ?_
      exact e_iret dX11_carry_18 rfl rfl

def f_X11_copy_104 (v1 : Int32) (v2 : Int32) (v3 : Int32) (v4 : Int32) (v5 : Int32) (k133 : am_U → Option (Int32 × am_U)) : Nat → Int32 → am_U → Option (Int32 × am_U)
  | 0, _, _ => none
  | n + 1, v6, u =>
    if v5 ≤ v6 then (
      k133 u)
    else (
      (f_X11_rowAt v1 (v2 + v6) u).bind (fun q9 =>
      am_ck (am_ix v6 60) (
      let u10 : am_U := am_w u 64 v6.toNatClampNeg q9
      f_X11_copy_104 v1 v2 v3 v4 v5 k133 n (v6 + 1) u10)))
def f_X11_copy_136 (v3 : Int32) (v4 : Int32) (v5 : Int32) : Nat → Int32 → am_U → Option (Int32 × am_U)
  | 0, _, _ => none
  | n + 1, v6, u =>
    if v5 ≤ v6 then (
      some (1, u))
    else (
      am_ck (am_ix v6 60) (
      am_ck (am_ix (((60 * v3) + v4) + v6) 360) (
      let u14 : am_U := am_w u 63 (((60 * v3) + v4) + v6).toNatClampNeg (u 64 v6.toNatClampNeg)
      f_X11_copy_136 v3 v4 v5 n (v6 + 1) u14)))
def f_X11_copy (a1 : Int32) (a2 : Int32) (a3 : Int32) (a4 : Int32) (a5 : Int32) (u : am_U) : Option (Int32 × am_U) :=
  (f_X11_isRow a1).bind (fun q1 =>
  if q1 = 0 then (
    some (((-1) : Int32), u))
  else (
    (f_X11_isRow a3).bind (fun q2 =>
    if ¬ q2 = 0 then (
      if 0 ≤ a5 then (
        am_ck (am_ix a1 6) (
        am_jn (fun (j4z : Unit) =>
          (f_X11_meets 1 u).bind (fun q5 =>
          some (q5.1, q5.2))) (fun j4 =>
        if (u 62 a1.toNatClampNeg) < 0 then (
          j4 () )
        else (
          am_ck (am_ix a3 6) (
          if 0 ≤ (u 62 a3.toNatClampNeg) then (
            am_jn (fun (j7z : Unit) =>
              (f_X11_meets 2 u).bind (fun q8 =>
              some (q8.1, q8.2))) (fun j7 =>
            if a2 < 0 then (
              j7 () )
            else (
              if a4 < 0 then (
                j7 () )
              else (
                if 0 < (lg_cmp (a2.toInt64 + a5.toInt64) ((u 62 a1.toNatClampNeg).toInt64)) then (
                  j7 () )
                else (
                  if (lg_cmp (a4.toInt64 + a5.toInt64) ((u 62 a3.toNatClampNeg).toInt64)) ≤ 0 then (
                    f_X11_copy_104 a1 a2 a3 a4 a5 (fun (c12u : am_U) =>
                      f_X11_copy_136 a3 a4 a5 20000 0 c12u) 20000 0 u)
                  else (
                    j7 () ))))))
          else (
            j4 () ))))))
      else (
        (f_X11_meets 5 u).bind (fun q16 =>
        some (q16.1, q16.2))))
    else (
      some (((-1) : Int32), u)))))
set_option maxRecDepth 100000 in
set_option maxHeartbeats 4000000 in
theorem s_X11_copy_104 {l : Launch} {g : am_G} {B : am_M} {pl : Nat} (hL : am_Lay B pl) (v1 : Int32) (v2 : Int32) (v3 : Int32) (v4 : Int32) (v5 : Int32)  (k133 : am_U → Option (Int32 × am_U)) (hk133 : ∀  (u : am_U), am_E l g d_X11_copy 133 [some (.ref (60)), none, none, some (.int (v3)), some (.int (v4)), some (.int (v5)), none] [] (am_of B u) (am_r (am_bI B) (k133 u))) : ∀ (n : Nat) (v6 : Int32) (u : am_U), am_E l g d_X11_copy 104 [some (.ref (60)), some (.int (v1)), some (.int (v2)), some (.int (v3)), some (.int (v4)), some (.int (v5)), some (.int (v6))] [] (am_of B u) (am_r (am_bI B) (f_X11_copy_104 v1 v2 v3 v4 v5 k133 n v6 u)) := by
  intro n
  induction n with
  | zero => intro v6 u; exact am_none
  | succ n ih =>
    intro v6 u
    unfold f_X11_copy_104
    refine e_iload dX11_copy_104 rfl ?_
    refine e_iload dX11_copy_106 rfl ?_
    refine e_if2_ge dX11_copy_108 (tgt := 133) (by decide) ?_ ?_
    · refine e_msk [true, false, false, true, true, true, false] (LS1 := [_, none, none, _, _, _, none]) rfl ?_
      exact hk133 u
    · refine e_aload_n dX11_copy_111 rfl ?_
      refine q_getR (r := 64) dX11_copy_112 lf_M_19 rfl (by decide) (am_Lk hL rfl) (am_Lr hL rfl) ?_
      refine e_iload dX11_copy_115 rfl ?_
      refine e_aload_n dX11_copy_117 rfl ?_
      refine e_iload_n dX11_copy_118 rfl ?_
      refine e_iload_n dX11_copy_119 rfl ?_
      refine e_iload dX11_copy_120 rfl ?_
      refine e_iadd dX11_copy_122 ?_
      refine q_callVP (As := [_, _]) rfl dX11_copy_123 lm_M_121 (am_fitB rfl) yo_X11_rowAt ys_X11_rowAt rfl rfl (by decide) (am_Lk hL rfl) rfl (Nat.le_of_ble_eq_true rfl) (Nat.le_of_ble_eq_true rfl) (s_X11_rowAt hL _ _  _) (fun q9 => ?_)
      refine q_iastH dX11_copy_126 (am_Ls hL rfl) (fun i11 => ?_)
      refine e_iinc dX11_copy_127 rfl (v := _ + 1) rfl (by decide) (LS1 := [_, _, _, _, _, _, _]) rfl ?_
      refine e_goto dX11_copy_130 (tgt := 104) (by decide) ?_
      exact ih (v6 + 1) (am_w u 64 v6.toNatClampNeg q9)

set_option maxRecDepth 100000 in
set_option maxHeartbeats 4000000 in
theorem s_X11_copy_136 {l : Launch} {g : am_G} {B : am_M} {pl : Nat} (hL : am_Lay B pl) (v3 : Int32) (v4 : Int32) (v5 : Int32)    : ∀ (n : Nat) (v6 : Int32) (u : am_U), am_E l g d_X11_copy 136 [some (.ref (60)), none, none, some (.int (v3)), some (.int (v4)), some (.int (v5)), some (.int (v6))] [] (am_of B u) (am_r (am_bI B) (f_X11_copy_136 v3 v4 v5 n v6 u)) := by
  intro n
  induction n with
  | zero => intro v6 u; exact am_none
  | succ n ih =>
    intro v6 u
    unfold f_X11_copy_136
    refine e_iload dX11_copy_136 rfl ?_
    refine e_iload dX11_copy_138 rfl ?_
    refine e_if2_ge dX11_copy_140 (tgt := 171) (by decide) ?_ ?_
    · refine e_iconst dX11_copy_171 (v := 1) (by decide) ?_
      exact e_iret dX11_copy_172 rfl rfl
    · refine e_aload_n dX11_copy_143 rfl ?_
      refine q_getR (r := 63) dX11_copy_144 lf_M_16 rfl (by decide) (am_Lk hL rfl) (am_Lr hL rfl) ?_
      refine e_bipush dX11_copy_147 (v := 60) (by decide) ?_
      refine e_iload_n dX11_copy_149 rfl ?_
      refine e_imul dX11_copy_150 ?_
      refine e_iload dX11_copy_151 rfl ?_
      refine e_iadd dX11_copy_153 ?_
      refine e_iload dX11_copy_154 rfl ?_
      refine e_iadd dX11_copy_156 ?_
      refine e_aload_n dX11_copy_157 rfl ?_
      refine q_getR (r := 64) dX11_copy_158 lf_M_19 rfl (by decide) (am_Lk hL rfl) (am_Lr hL rfl) ?_
      refine e_iload dX11_copy_161 rfl ?_
      refine q_ialdH dX11_copy_163 (am_Ls hL rfl) (fun i13 => ?_)
      refine q_iastH dX11_copy_164 (am_Ls hL rfl) (fun i15 => ?_)
      refine e_iinc dX11_copy_165 rfl (v := _ + 1) rfl (by decide) (LS1 := [_, none, none, _, _, _, _]) rfl ?_
      refine e_goto dX11_copy_168 (tgt := 136) (by decide) ?_
      exact ih (v6 + 1) (am_w u 63 (((60 * v3) + v4) + v6).toNatClampNeg (u 64 v6.toNatClampNeg))

set_option maxRecDepth 100000 in
set_option maxHeartbeats 4000000 in
theorem s_X11_copy {l : Launch} {g : am_G} {B : am_M} {pl : Nat} (hL : am_Lay B pl) (a1 : Int32) (a2 : Int32) (a3 : Int32) (a4 : Int32) (a5 : Int32)  (u : am_U) : am_E l g d_X11_copy 0 (am_ent d_X11_copy [.ref (60), .int (a1), .int (a2), .int (a3), .int (a4), .int (a5)]) [] (am_of B u) (am_r (am_bI B) (f_X11_copy a1 a2 a3 a4 a5 u)) := by
  unfold f_X11_copy
  show am_E l g d_X11_copy 0 [some (.ref (60)), some (.int (a1)), some (.int (a2)), some (.int (a3)), some (.int (a4)), some (.int (a5)), none] [] (am_of B u) _
  refine e_iload_n dX11_copy_0 rfl ?_
  refine q_callSP (As := [_]) rfl dX11_copy_1 lm_M_113 (am_fitB rfl) yo_X11_isRow ys_X11_isRow rfl (Nat.le_of_ble_eq_true rfl) (Nat.le_of_ble_eq_true rfl) (s_X11_isRow hL _  _) (fun q1 => ?_)
  refine e_if_eq dX11_copy_4 (tgt := 14) (by decide) ?_ ?_
  · refine e_iconst dX11_copy_14 (v := ((-1) : Int32)) (by decide) ?_
    exact e_iret dX11_copy_15 rfl rfl
  · refine e_iload_n dX11_copy_7 rfl ?_
    refine q_callSP (As := [_]) rfl dX11_copy_8 lm_M_113 (am_fitB rfl) yo_X11_isRow ys_X11_isRow rfl (Nat.le_of_ble_eq_true rfl) (Nat.le_of_ble_eq_true rfl) (s_X11_isRow hL _  _) (fun q2 => ?_)
    refine e_if_ne dX11_copy_11 (tgt := 16) (by decide) ?_ ?_
    · refine e_iload dX11_copy_16 rfl ?_
      refine e_if_ge dX11_copy_18 (tgt := 27) (by decide) ?_ ?_
      · refine e_aload_n dX11_copy_27 rfl ?_
        refine q_getR (r := 62) dX11_copy_28 lf_M_13 rfl (by decide) (am_Lk hL rfl) (am_Lr hL rfl) ?_
        refine e_iload_n dX11_copy_31 rfl ?_
        refine q_ialdH dX11_copy_32 (am_Ls hL rfl) (fun i3 => ?_)
        refine e_jn (P := fun t : Unit → Option (Int32 × am_U) => ∀ (j4z : Unit), am_E l g d_X11_copy 45 [some (.ref (60)), none, none, none, none, none, none] [] (am_of B u) (am_r (am_bI B) (t j4z))) ?_ (fun j4 hj4 => ?_)
        · intro j4z
          refine e_aload_n dX11_copy_45 rfl ?_
          refine e_iconst dX11_copy_46 (v := 1) (by decide) ?_
          refine q_callVI (As := [_]) rfl dX11_copy_47 lm_M_117 (am_fitB rfl) yo_X11_meets ys_X11_meets rfl rfl (by decide) (am_Lk hL rfl) rfl (Nat.le_of_ble_eq_true rfl) (Nat.le_of_ble_eq_true rfl) (s_X11_meets hL _  _) (fun q5 => ?_)
          exact e_iret dX11_copy_50 rfl rfl
        · refine e_if_lt dX11_copy_33 (tgt := 45) (by decide) ?_ ?_
          · refine e_msk [true, false, false, false, false, false, false] (LS1 := [_, none, none, none, none, none, none]) rfl ?_
            exact hj4 () 
          · refine e_aload_n dX11_copy_36 rfl ?_
            refine q_getR (r := 62) dX11_copy_37 lf_M_13 rfl (by decide) (am_Lk hL rfl) (am_Lr hL rfl) ?_
            refine e_iload_n dX11_copy_40 rfl ?_
            refine q_ialdH dX11_copy_41 (am_Ls hL rfl) (fun i6 => ?_)
            refine e_if_ge dX11_copy_42 (tgt := 51) (by decide) ?_ ?_
            · refine e_iload_n dX11_copy_51 rfl ?_
              refine e_jn (P := fun t : Unit → Option (Int32 × am_U) => ∀ (j7z : Unit), am_E l g d_X11_copy 95 [some (.ref (60)), none, none, none, none, none, none] [] (am_of B u) (am_r (am_bI B) (t j7z))) ?_ (fun j7 hj7 => ?_)
              · intro j7z
                refine e_aload_n dX11_copy_95 rfl ?_
                refine e_iconst dX11_copy_96 (v := 2) (by decide) ?_
                refine q_callVI (As := [_]) rfl dX11_copy_97 lm_M_117 (am_fitB rfl) yo_X11_meets ys_X11_meets rfl rfl (by decide) (am_Lk hL rfl) rfl (Nat.le_of_ble_eq_true rfl) (Nat.le_of_ble_eq_true rfl) (s_X11_meets hL _  _) (fun q8 => ?_)
                exact e_iret dX11_copy_100 rfl rfl
              · refine e_if_lt dX11_copy_52 (tgt := 95) (by decide) ?_ ?_
                · refine e_msk [true, false, false, false, false, false, false] (LS1 := [_, none, none, none, none, none, none]) rfl ?_
                  exact hj7 () 
                · refine e_iload dX11_copy_55 rfl ?_
                  refine e_if_lt dX11_copy_57 (tgt := 95) (by decide) ?_ ?_
                  · refine e_msk [true, false, false, false, false, false, false] (LS1 := [_, none, none, none, none, none, none]) rfl ?_
                    exact hj7 () 
                  · refine e_iload_n dX11_copy_60 rfl ?_
                    refine e_i2l dX11_copy_61 ?_
                    refine e_iload dX11_copy_62 rfl ?_
                    refine e_i2l dX11_copy_64 ?_
                    refine e_ladd dX11_copy_65 ?_
                    refine e_aload_n dX11_copy_66 rfl ?_
                    refine q_getR (r := 62) dX11_copy_67 lf_M_13 rfl (by decide) (am_Lk hL rfl) (am_Lr hL rfl) ?_
                    refine e_iload_n dX11_copy_70 rfl ?_
                    refine q_ialdC (jn := _) dX11_copy_71 (am_Ls hL rfl) i3 rfl ?_
                    refine e_i2l dX11_copy_72 ?_
                    refine e_lcmp dX11_copy_73 ?_
                    refine e_if_gt dX11_copy_74 (tgt := 95) (by decide) ?_ ?_
                    · refine e_msk [true, false, false, false, false, false, false] (LS1 := [_, none, none, none, none, none, none]) rfl ?_
                      exact hj7 () 
                    · refine e_iload dX11_copy_77 rfl ?_
                      refine e_i2l dX11_copy_79 ?_
                      refine e_iload dX11_copy_80 rfl ?_
                      refine e_i2l dX11_copy_82 ?_
                      refine e_ladd dX11_copy_83 ?_
                      refine e_aload_n dX11_copy_84 rfl ?_
                      refine q_getR (r := 62) dX11_copy_85 lf_M_13 rfl (by decide) (am_Lk hL rfl) (am_Lr hL rfl) ?_
                      refine e_iload_n dX11_copy_88 rfl ?_
                      refine q_ialdC (jn := _) dX11_copy_89 (am_Ls hL rfl) i6 rfl ?_
                      refine e_i2l dX11_copy_90 ?_
                      refine e_lcmp dX11_copy_91 ?_
                      refine e_if_le dX11_copy_92 (tgt := 101) (by decide) ?_ ?_
                      · refine e_iconst dX11_copy_101 (v := 0) (by decide) ?_
                        refine e_istore dX11_copy_102 (by decide) (LS1 := [_, _, _, _, _, _, _]) rfl ?_
                        refine s_X11_copy_104 hL _ _ _ _ _ _ (fun c12u => ?_) _ _ _
                        · refine e_iconst dX11_copy_133 (v := 0) (by decide) ?_
                          refine e_istore dX11_copy_134 (by decide) (LS1 := [_, none, none, _, _, _, _]) rfl ?_
                          refine s_X11_copy_136 hL _ _ _ _ _ _
                      · refine e_msk [true, false, false, false, false, false, false] (LS1 := [_, none, none, none, none, none, none]) rfl ?_
                        exact hj7 () 
            · refine e_msk [true, false, false, false, false, false, false] (LS1 := [_, none, none, none, none, none, none]) rfl ?_
              exact hj4 () 
      · refine e_aload_n dX11_copy_21 rfl ?_
        refine e_iconst dX11_copy_22 (v := 5) (by decide) ?_
        refine q_callVI (As := [_]) rfl dX11_copy_23 lm_M_117 (am_fitB rfl) yo_X11_meets ys_X11_meets rfl rfl (by decide) (am_Lk hL rfl) rfl (Nat.le_of_ble_eq_true rfl) (Nat.le_of_ble_eq_true rfl) (s_X11_meets hL _  _) (fun q16 => ?_)
        exact e_iret dX11_copy_26 rfl rfl
    · refine e_iconst dX11_copy_14 (v := ((-1) : Int32)) (by decide) ?_
      exact e_iret dX11_copy_15 rfl rfl

def f_X11_count (a1 : Int32) (u : am_U) : Option (Int32) :=
  (f_X11_in a1 0 9).bind (fun q1 =>
  if q1 = 0 then (
    some ((-1) : Int32))
  else (
    (f_X11_counted a1 u).bind (fun q2 =>
    some q2)))
set_option maxRecDepth 100000 in
set_option maxHeartbeats 4000000 in
theorem s_X11_count {l : Launch} {g : am_G} {B : am_M} {pl : Nat} (hL : am_Lay B pl) (a1 : Int32)  (u : am_U) : am_E l g d_X11_count 0 (am_ent d_X11_count [.ref (60), .int (a1)]) [] (am_of B u) (am_r (am_bP B u) (f_X11_count a1 u)) := by
  unfold f_X11_count
  show am_E l g d_X11_count 0 [some (.ref (60)), some (.int (a1))] [] (am_of B u) _
  refine e_iload_n dX11_count_0 rfl ?_
  refine e_iconst dX11_count_1 (v := 0) (by decide) ?_
  refine e_bipush dX11_count_2 (v := 9) (by decide) ?_
  refine q_callSP (As := [_, _, _]) rfl dX11_count_4 lm_M_106 (am_fitB rfl) yo_X11_in ys_X11_in rfl (Nat.le_of_ble_eq_true rfl) (Nat.le_of_ble_eq_true rfl) (s_X11_in hL _ _ _  _) (fun q1 => ?_)
  refine e_if_eq dX11_count_7 (tgt := 18) (by decide) ?_ ?_
  · refine e_iconst dX11_count_18 (v := ((-1) : Int32)) (by decide) ?_
    exact e_iret dX11_count_19 rfl rfl
  · refine e_aload_n dX11_count_10 rfl ?_
    refine e_iload_n dX11_count_11 rfl ?_
    refine q_callVP (As := [_]) rfl dX11_count_12 lm_M_337 (am_fitB rfl) yo_X11_counted ys_X11_counted rfl rfl (by decide) (am_Lk hL rfl) rfl (Nat.le_of_ble_eq_true rfl) (Nat.le_of_ble_eq_true rfl) (s_X11_counted hL _  _) (fun q2 => ?_)
    refine e_goto dX11_count_15 (tgt := 19) (by decide) ?_
    exact e_iret dX11_count_19 rfl rfl

def f_X11_fill (a1 : Int32) (u : am_U) : Option (Int32 × am_U) :=
  (f_X11_isJar a1 u).bind (fun q1 =>
  if ¬ q1 = 0 then (
    am_ck (am_ix (6 + a1) 30) (
    if ¬ (u 75 (6 + a1).toNatClampNeg) = 0 then (
      some (((-4) : Int32), u))
    else (
      (f_X11_shines (u 75 28) u).bind (fun q3 =>
      if ¬ q3 = 0 then (
        (f_X11_remembers 0 u).bind (fun q4 =>
        am_ck (am_ix a1 6) (
        am_ck (am_ix (0 + a1) 30) (
        let x7 : Int32 := (q4 70 a1.toNatClampNeg) - (q4 75 (0 + a1).toNatClampNeg)
        let u8 : am_U := am_w q4 75 (0 + a1).toNatClampNeg (q4 70 a1.toNatClampNeg)
        am_ck (am_ix (12 + a1) 30) (
        let u9 : am_U := am_w u8 75 (12 + a1).toNatClampNeg 0
        some (x7, u9))))))
      else (
        some (((-4) : Int32), u))))))
  else (
    some (((-1) : Int32), u)))
set_option maxRecDepth 100000 in
set_option maxHeartbeats 4000000 in
theorem s_X11_fill {l : Launch} {g : am_G} {B : am_M} {pl : Nat} (hL : am_Lay B pl) (a1 : Int32)  (u : am_U) : am_E l g d_X11_fill 0 (am_ent d_X11_fill [.ref (60), .int (a1)]) [] (am_of B u) (am_r (am_bI B) (f_X11_fill a1 u)) := by
  unfold f_X11_fill
  show am_E l g d_X11_fill 0 [some (.ref (60)), some (.int (a1)), none] [] (am_of B u) _
  refine e_aload_n dX11_fill_0 rfl ?_
  refine e_iload_n dX11_fill_1 rfl ?_
  refine q_callVP (As := [_]) rfl dX11_fill_2 lm_M_200 (am_fitB rfl) yo_X11_isJar ys_X11_isJar rfl rfl (by decide) (am_Lk hL rfl) rfl (Nat.le_of_ble_eq_true rfl) (Nat.le_of_ble_eq_true rfl) (s_X11_isJar hL _  _) (fun q1 => ?_)
  refine e_if_ne dX11_fill_5 (tgt := 10) (by decide) ?_ ?_
  · refine e_aload_n dX11_fill_10 rfl ?_
    refine q_getR (r := 75) dX11_fill_11 lf_M_53 rfl (by decide) (am_Lk hL rfl) (am_Lr hL rfl) ?_
    refine e_bipush dX11_fill_14 (v := 6) (by decide) ?_
    refine e_iload_n dX11_fill_16 rfl ?_
    refine e_iadd dX11_fill_17 ?_
    refine q_ialdH dX11_fill_18 (am_Ls hL rfl) (fun i2 => ?_)
    refine e_if_ne dX11_fill_19 (tgt := 36) (by decide) ?_ ?_
    · refine e_bipush dX11_fill_36 (v := ((-4) : Int32)) (by decide) ?_
      exact e_iret dX11_fill_38 rfl rfl
    · refine e_aload_n dX11_fill_22 rfl ?_
      refine e_aload_n dX11_fill_23 rfl ?_
      refine q_getR (r := 75) dX11_fill_24 lf_M_53 rfl (by decide) (am_Lk hL rfl) (am_Lr hL rfl) ?_
      refine e_bipush dX11_fill_27 (v := 28) (by decide) ?_
      refine q_ialdC (jn := 28) dX11_fill_29 (am_Ls hL rfl) (by decide) (by decide) ?_
      refine q_callVP (As := [_]) rfl dX11_fill_30 lm_M_221 (am_fitB rfl) yo_X11_shines ys_X11_shines rfl rfl (by decide) (am_Lk hL rfl) rfl (Nat.le_of_ble_eq_true rfl) (Nat.le_of_ble_eq_true rfl) (s_X11_shines hL _  _) (fun q3 => ?_)
      refine e_if_ne dX11_fill_33 (tgt := 39) (by decide) ?_ ?_
      · refine e_aload_n dX11_fill_39 rfl ?_
        refine e_iconst dX11_fill_40 (v := 0) (by decide) ?_
        refine q_callVV (As := [_]) rfl dX11_fill_41 lm_M_224 (am_fitB rfl) yo_X11_remembers ys_X11_remembers rfl rfl (by decide) (am_Lk hL rfl) rfl (Nat.le_of_ble_eq_true rfl) (Nat.le_of_ble_eq_true rfl) (s_X11_remembers hL _  _) (fun q4 => ?_)
        refine e_aload_n dX11_fill_44 rfl ?_
        refine q_getR (r := 70) dX11_fill_45 lf_M_38 rfl (by decide) (am_Lk hL rfl) (am_Lr hL rfl) ?_
        refine e_iload_n dX11_fill_48 rfl ?_
        refine q_ialdH dX11_fill_49 (am_Ls hL rfl) (fun i5 => ?_)
        refine e_aload_n dX11_fill_50 rfl ?_
        refine q_getR (r := 75) dX11_fill_51 lf_M_53 rfl (by decide) (am_Lk hL rfl) (am_Lr hL rfl) ?_
        refine e_iconst dX11_fill_54 (v := 0) (by decide) ?_
        refine e_iload_n dX11_fill_55 rfl ?_
        refine e_iadd dX11_fill_56 ?_
        refine q_ialdH dX11_fill_57 (am_Ls hL rfl) (fun i6 => ?_)
        refine e_isub dX11_fill_58 ?_
        refine e_istore_n dX11_fill_59 (by decide) (LS1 := [_, _, _]) rfl ?_
        refine e_aload_n dX11_fill_60 rfl ?_
        refine q_getR (r := 75) dX11_fill_61 lf_M_53 rfl (by decide) (am_Lk hL rfl) (am_Lr hL rfl) ?_
        refine e_iconst dX11_fill_64 (v := 0) (by decide) ?_
        refine e_iload_n dX11_fill_65 rfl ?_
        refine e_iadd dX11_fill_66 ?_
        refine e_aload_n dX11_fill_67 rfl ?_
        refine q_getR (r := 70) dX11_fill_68 lf_M_38 rfl (by decide) (am_Lk hL rfl) (am_Lr hL rfl) ?_
        refine e_iload_n dX11_fill_71 rfl ?_
        refine q_ialdC (jn := _) dX11_fill_72 (am_Ls hL rfl) i5 rfl ?_
        refine q_iastC (jn := _) dX11_fill_73 (am_Ls hL rfl) i6 rfl ?_
        refine e_aload_n dX11_fill_74 rfl ?_
        refine q_getR (r := 75) dX11_fill_75 lf_M_53 rfl (by decide) (am_Lk hL rfl) (am_Lr hL rfl) ?_
        refine e_bipush dX11_fill_78 (v := 12) (by decide) ?_
        refine e_iload_n dX11_fill_80 rfl ?_
        refine e_iadd dX11_fill_81 ?_
        refine e_iconst dX11_fill_82 (v := 0) (by decide) ?_
        refine q_iastH dX11_fill_83 (am_Ls hL rfl) (fun i10 => ?_)
        refine e_iload_n dX11_fill_84 rfl ?_
        exact e_iret dX11_fill_85 rfl rfl
      · refine e_bipush dX11_fill_36 (v := ((-4) : Int32)) (by decide) ?_
        exact e_iret dX11_fill_38 rfl rfl
  · refine e_iconst dX11_fill_8 (v := ((-1) : Int32)) (by decide) ?_
    exact e_iret dX11_fill_9 rfl rfl

def f_X11_firstState_2 (v1 : Int32) (v2 : Int32) : Nat → Int32 → am_U → Option (Int32 × am_U)
  | 0, _, _ => none
  | n + 1, v3, u =>
    if (u 60 39) ≤ v3 then (
      some (((-9) : Int32), u))
    else (
      am_ck (am_ix v3 9261) (
      (f_X11_holds (u 83 v3.toNatClampNeg) v1 v2 u).bind (fun q2 =>
      if q2.1 = 0 then (
        f_X11_firstState_2 v1 v2 n (v3 + 1) q2.2)
      else (
        some (q2.2 83 v3.toNatClampNeg, q2.2)))))
def f_X11_firstState (a1 : Int32) (a2 : Int32) (u : am_U) : Option (Int32 × am_U) :=
  f_X11_firstState_2 a1 a2 20000 0 u
set_option maxRecDepth 100000 in
set_option maxHeartbeats 4000000 in
theorem s_X11_firstState_2 {l : Launch} {g : am_G} {B : am_M} {pl : Nat} (hL : am_Lay B pl) (v1 : Int32) (v2 : Int32)    : ∀ (n : Nat) (v3 : Int32) (u : am_U), am_E l g d_X11_firstState 2 [some (.ref (60)), some (.int (v1)), some (.int (v2)), some (.int (v3))] [] (am_of B u) (am_r (am_bI B) (f_X11_firstState_2 v1 v2 n v3 u)) := by
  intro n
  induction n with
  | zero => intro v3 u; exact am_none
  | succ n ih =>
    intro v3 u
    unfold f_X11_firstState_2
    refine e_iload_n dX11_firstState_2 rfl ?_
    refine e_aload_n dX11_firstState_3 rfl ?_
    refine q_getI dX11_firstState_4 lf_M_263 (by decide) (am_Lk hL rfl) ?_
    refine e_if2_ge dX11_firstState_7 (tgt := 38) (by decide) ?_ ?_
    · refine e_bipush dX11_firstState_38 (v := ((-9) : Int32)) (by decide) ?_
      exact e_iret dX11_firstState_40 rfl rfl
    · refine e_aload_n dX11_firstState_10 rfl ?_
      refine e_aload_n dX11_firstState_11 rfl ?_
      refine q_getR (r := 83) dX11_firstState_12 lf_M_78 rfl (by decide) (am_Lk hL rfl) (am_Lr hL rfl) ?_
      refine e_iload_n dX11_firstState_15 rfl ?_
      refine q_ialdH dX11_firstState_16 (am_Ls hL rfl) (fun i1 => ?_)
      refine e_iload_n dX11_firstState_17 rfl ?_
      refine e_iload_n dX11_firstState_18 rfl ?_
      refine q_callVI (As := [_, _, _]) rfl dX11_firstState_19 lm_M_279 (am_fitB rfl) yo_X11_holds ys_X11_holds rfl rfl (by decide) (am_Lk hL rfl) rfl (Nat.le_of_ble_eq_true rfl) (Nat.le_of_ble_eq_true rfl) (s_X11_holds hL _ _ _  _) (fun q2 => ?_)
      refine e_if_eq dX11_firstState_22 (tgt := 32) (by decide) ?_ ?_
      · refine e_iinc dX11_firstState_32 rfl (v := _ + 1) rfl (by decide) (LS1 := [_, _, _, _]) rfl ?_
        refine e_goto dX11_firstState_35 (tgt := 2) (by decide) ?_
        exact ih (v3 + 1) q2.2
      · refine e_aload_n dX11_firstState_25 rfl ?_
        refine q_getR (r := 83) dX11_firstState_26 lf_M_78 rfl (by decide) (am_Lk hL rfl) (am_Lr hL rfl) ?_
        refine e_iload_n dX11_firstState_29 rfl ?_
        refine q_ialdC (jn := _) dX11_firstState_30 (am_Ls hL rfl) i1 rfl ?_
        exact e_iret dX11_firstState_31 rfl rfl

set_option maxRecDepth 100000 in
set_option maxHeartbeats 4000000 in
theorem s_X11_firstState {l : Launch} {g : am_G} {B : am_M} {pl : Nat} (hL : am_Lay B pl) (a1 : Int32) (a2 : Int32)  (u : am_U) : am_E l g d_X11_firstState 0 (am_ent d_X11_firstState [.ref (60), .int (a1), .int (a2)]) [] (am_of B u) (am_r (am_bI B) (f_X11_firstState a1 a2 u)) := by
  unfold f_X11_firstState
  show am_E l g d_X11_firstState 0 [some (.ref (60)), some (.int (a1)), some (.int (a2)), none] [] (am_of B u) _
  refine e_iconst dX11_firstState_0 (v := 0) (by decide) ?_
  refine e_istore_n dX11_firstState_1 (by decide) (LS1 := [_, _, _, _]) rfl ?_
  refine s_X11_firstState_2 hL _ _ _ _ _

def f_X11_fits_4 (u : am_U) (v1 : Int32) : Nat → Int32 → Int32 → Option (Int32)
  | 0, _, _ => none
  | n + 1, v2, v3 =>
    if (u 60 40) ≤ v3 then (
      am_ck (v2 == 0 || v2 == 1) (some v2))
    else (
      if v2 = 0 then (
        f_X11_fits_4 u v1 n 0 (v3 + 1))
      else (
        am_ck (am_ix v3 8) (
        (f_X11_burns (u 86 v3.toNatClampNeg) v1 u).bind (fun q2 =>
        if ¬ q2 = (u 87 v3.toNatClampNeg) then (
          f_X11_fits_4 u v1 n 0 (v3 + 1))
        else (
          f_X11_fits_4 u v1 n 1 (v3 + 1))))))
def f_X11_fits (a1 : Int32) (u : am_U) : Option (Int32) :=
  f_X11_fits_4 u a1 20000 1 0
set_option maxRecDepth 100000 in
set_option maxHeartbeats 4000000 in
theorem s_X11_fits_4 {l : Launch} {g : am_G} {B : am_M} {pl : Nat} (hL : am_Lay B pl) (u : am_U) (v1 : Int32)    : ∀ (n : Nat) (v2 : Int32) (v3 : Int32), am_E l g d_X11_fits 4 [some (.ref (60)), some (.int (v1)), some (.int (v2)), some (.int (v3))] [] (am_of B u) (am_r (am_bP B u) (f_X11_fits_4 u v1 n v2 v3)) := by
  intro n
  induction n with
  | zero => intro v2 v3; exact am_none
  | succ n ih =>
    intro v2 v3
    unfold f_X11_fits_4
    refine e_iload_n dX11_fits_4 rfl ?_
    refine e_aload_n dX11_fits_5 rfl ?_
    refine q_getI dX11_fits_6 lf_M_190 (by decide) (am_Lk hL rfl) ?_
    refine e_if2_ge dX11_fits_9 (tgt := 48) (by decide) ?_ ?_
    · refine e_iload_n dX11_fits_48 rfl ?_
      exact e_zretq dX11_fits_49 rfl rfl
    · refine e_iload_n dX11_fits_12 rfl ?_
      refine e_if_eq dX11_fits_13 (tgt := 40) (by decide) ?_ ?_
      · refine e_iconst dX11_fits_40 (v := 0) (by decide) ?_
        refine e_istore_n dX11_fits_41 (by decide) (LS1 := [_, _, _, _]) rfl ?_
        refine e_iinc dX11_fits_42 rfl (v := _ + 1) rfl (by decide) (LS1 := [_, _, _, _]) rfl ?_
        refine e_goto dX11_fits_45 (tgt := 4) (by decide) ?_
        exact ih 0 (v3 + 1)
      · refine e_aload_n dX11_fits_16 rfl ?_
        refine e_aload_n dX11_fits_17 rfl ?_
        refine q_getR (r := 86) dX11_fits_18 lf_M_87 rfl (by decide) (am_Lk hL rfl) (am_Lr hL rfl) ?_
        refine e_iload_n dX11_fits_21 rfl ?_
        refine q_ialdH dX11_fits_22 (am_Ls hL rfl) (fun i1 => ?_)
        refine e_iload_n dX11_fits_23 rfl ?_
        refine q_callVP (As := [_, _]) rfl dX11_fits_24 lm_M_295 (am_fitB rfl) yo_X11_burns ys_X11_burns rfl rfl (by decide) (am_Lk hL rfl) rfl (Nat.le_of_ble_eq_true rfl) (Nat.le_of_ble_eq_true rfl) (s_X11_burns hL _ _  _) (fun q2 => ?_)
        refine e_aload_n dX11_fits_27 rfl ?_
        refine q_getR (r := 87) dX11_fits_28 lf_M_90 rfl (by decide) (am_Lk hL rfl) (am_Lr hL rfl) ?_
        refine e_iload_n dX11_fits_31 rfl ?_
        refine q_ialdC (jn := _) dX11_fits_32 (am_Ls hL rfl) i1 rfl ?_
        refine e_if2_ne dX11_fits_33 (tgt := 40) (by decide) ?_ ?_
        · refine e_iconst dX11_fits_40 (v := 0) (by decide) ?_
          refine e_istore_n dX11_fits_41 (by decide) (LS1 := [_, _, _, _]) rfl ?_
          refine e_iinc dX11_fits_42 rfl (v := _ + 1) rfl (by decide) (LS1 := [_, _, _, _]) rfl ?_
          refine e_goto dX11_fits_45 (tgt := 4) (by decide) ?_
          exact ih 0 (v3 + 1)
        · refine e_iconst dX11_fits_36 (v := 1) (by decide) ?_
          refine e_goto dX11_fits_37 (tgt := 41) (by decide) ?_
          refine e_istore_n dX11_fits_41 (by decide) (LS1 := [_, _, _, _]) rfl ?_
          refine e_iinc dX11_fits_42 rfl (v := _ + 1) rfl (by decide) (LS1 := [_, _, _, _]) rfl ?_
          refine e_goto dX11_fits_45 (tgt := 4) (by decide) ?_
          exact ih 1 (v3 + 1)

set_option maxRecDepth 100000 in
set_option maxHeartbeats 4000000 in
theorem s_X11_fits {l : Launch} {g : am_G} {B : am_M} {pl : Nat} (hL : am_Lay B pl) (a1 : Int32)  (u : am_U) : am_E l g d_X11_fits 0 (am_ent d_X11_fits [.ref (60), .int (a1)]) [] (am_of B u) (am_r (am_bP B u) (f_X11_fits a1 u)) := by
  unfold f_X11_fits
  show am_E l g d_X11_fits 0 [some (.ref (60)), some (.int (a1)), none, none] [] (am_of B u) _
  refine e_iconst dX11_fits_0 (v := 1) (by decide) ?_
  refine e_istore_n dX11_fits_1 (by decide) (LS1 := [_, _, _, none]) rfl ?_
  refine e_iconst dX11_fits_2 (v := 0) (by decide) ?_
  refine e_istore_n dX11_fits_3 (by decide) (LS1 := [_, _, _, _]) rfl ?_
  refine s_X11_fits_4 hL _ _ _ _ _

def f_X11_jar (a1 : Int32) (a2 : Int32) (u : am_U) : Option (Int32 × am_U) :=
  (f_X11_isJar a1 u).bind (fun q1 =>
  if q1 = 0 then (
    some (((-1) : Int32), u))
  else (
    (f_X11_in a2 0 4).bind (fun q2 =>
    if q2 = 0 then (
      some (((-1) : Int32), u))
    else (
      (f_X11_jarTells a1 a2 u).bind (fun q3 =>
      (f_X11_tells q3 1 u).bind (fun q4 =>
      some (q4.1, q4.2)))))))
set_option maxRecDepth 100000 in
set_option maxHeartbeats 4000000 in
theorem s_X11_jar {l : Launch} {g : am_G} {B : am_M} {pl : Nat} (hL : am_Lay B pl) (a1 : Int32) (a2 : Int32)  (u : am_U) : am_E l g d_X11_jar 0 (am_ent d_X11_jar [.ref (60), .int (a1), .int (a2)]) [] (am_of B u) (am_r (am_bI B) (f_X11_jar a1 a2 u)) := by
  unfold f_X11_jar
  show am_E l g d_X11_jar 0 [some (.ref (60)), some (.int (a1)), some (.int (a2))] [] (am_of B u) _
  refine e_aload_n dX11_jar_0 rfl ?_
  refine e_iload_n dX11_jar_1 rfl ?_
  refine q_callVP (As := [_]) rfl dX11_jar_2 lm_M_200 (am_fitB rfl) yo_X11_isJar ys_X11_isJar rfl rfl (by decide) (am_Lk hL rfl) rfl (Nat.le_of_ble_eq_true rfl) (Nat.le_of_ble_eq_true rfl) (s_X11_isJar hL _  _) (fun q1 => ?_)
  refine e_if_eq dX11_jar_5 (tgt := 31) (by decide) ?_ ?_
  · refine e_iconst dX11_jar_31 (v := ((-1) : Int32)) (by decide) ?_
    exact e_iret dX11_jar_32 rfl rfl
  · refine e_iload_n dX11_jar_8 rfl ?_
    refine e_iconst dX11_jar_9 (v := 0) (by decide) ?_
    refine e_iconst dX11_jar_10 (v := 4) (by decide) ?_
    refine q_callSP (As := [_, _, _]) rfl dX11_jar_11 lm_M_106 (am_fitB rfl) yo_X11_in ys_X11_in rfl (Nat.le_of_ble_eq_true rfl) (Nat.le_of_ble_eq_true rfl) (s_X11_in hL _ _ _  _) (fun q2 => ?_)
    refine e_if_eq dX11_jar_14 (tgt := 31) (by decide) ?_ ?_
    · refine e_iconst dX11_jar_31 (v := ((-1) : Int32)) (by decide) ?_
      exact e_iret dX11_jar_32 rfl rfl
    · refine e_aload_n dX11_jar_17 rfl ?_
      refine e_aload_n dX11_jar_18 rfl ?_
      refine e_iload_n dX11_jar_19 rfl ?_
      refine e_iload_n dX11_jar_20 rfl ?_
      refine q_callVP (As := [_, _]) rfl dX11_jar_21 lm_M_203 (am_fitB rfl) yo_X11_jarTells ys_X11_jarTells rfl rfl (by decide) (am_Lk hL rfl) rfl (Nat.le_of_ble_eq_true rfl) (Nat.le_of_ble_eq_true rfl) (s_X11_jarTells hL _ _  _) (fun q3 => ?_)
      refine e_iconst dX11_jar_24 (v := 1) (by decide) ?_
      refine q_callVI (As := [_, _]) rfl dX11_jar_25 lm_M_125 (am_fitB rfl) yo_X11_tells ys_X11_tells rfl rfl (by decide) (am_Lk hL rfl) rfl (Nat.le_of_ble_eq_true rfl) (Nat.le_of_ble_eq_true rfl) (s_X11_tells hL _ _  _) (fun q4 => ?_)
      refine e_goto dX11_jar_28 (tgt := 32) (by decide) ?_
      exact e_iret dX11_jar_32 rfl rfl

def f_X11_lay (a1 : Int32) (a2 : Int32) (a3 : Int32) (u : am_U) : Option (Int32 × am_U) :=
  (f_X11_isRow a1).bind (fun q1 =>
  if ¬ q1 = 0 then (
    am_ck (am_ix a1 6) (
    if 0 ≤ (u 62 a1.toNatClampNeg) then (
      (f_X11_in a2 0 ((u 62 a1.toNatClampNeg) - 1)).bind (fun q3 =>
      if ¬ q3 = 0 then (
        (f_X11_rowAt a1 a2 u).bind (fun q4 =>
        am_ck (am_ix ((60 * a1) + a2) 360) (
        let u5 : am_U := am_w u 63 ((60 * a1) + a2).toNatClampNeg a3
        (f_X11_tells q4 1 u5).bind (fun q7 =>
        some (q7.1, q7.2)))))
      else (
        (f_X11_meets 2 u).bind (fun q8 =>
        some (q8.1, q8.2)))))
    else (
      (f_X11_meets 1 u).bind (fun q9 =>
      some (q9.1, q9.2)))))
  else (
    some (((-1) : Int32), u)))
set_option maxRecDepth 100000 in
set_option maxHeartbeats 4000000 in
theorem s_X11_lay {l : Launch} {g : am_G} {B : am_M} {pl : Nat} (hL : am_Lay B pl) (a1 : Int32) (a2 : Int32) (a3 : Int32)  (u : am_U) : am_E l g d_X11_lay 0 (am_ent d_X11_lay [.ref (60), .int (a1), .int (a2), .int (a3)]) [] (am_of B u) (am_r (am_bI B) (f_X11_lay a1 a2 a3 u)) := by
  unfold f_X11_lay
  show am_E l g d_X11_lay 0 [some (.ref (60)), some (.int (a1)), some (.int (a2)), some (.int (a3)), none] [] (am_of B u) _
  refine e_iload_n dX11_lay_0 rfl ?_
  refine q_callSP (As := [_]) rfl dX11_lay_1 lm_M_113 (am_fitB rfl) yo_X11_isRow ys_X11_isRow rfl (Nat.le_of_ble_eq_true rfl) (Nat.le_of_ble_eq_true rfl) (s_X11_isRow hL _  _) (fun q1 => ?_)
  refine e_if_ne dX11_lay_4 (tgt := 9) (by decide) ?_ ?_
  · refine e_aload_n dX11_lay_9 rfl ?_
    refine q_getR (r := 62) dX11_lay_10 lf_M_13 rfl (by decide) (am_Lk hL rfl) (am_Lr hL rfl) ?_
    refine e_iload_n dX11_lay_13 rfl ?_
    refine q_ialdH dX11_lay_14 (am_Ls hL rfl) (fun i2 => ?_)
    refine e_if_ge dX11_lay_15 (tgt := 24) (by decide) ?_ ?_
    · refine e_iload_n dX11_lay_24 rfl ?_
      refine e_iconst dX11_lay_25 (v := 0) (by decide) ?_
      refine e_aload_n dX11_lay_26 rfl ?_
      refine q_getR (r := 62) dX11_lay_27 lf_M_13 rfl (by decide) (am_Lk hL rfl) (am_Lr hL rfl) ?_
      refine e_iload_n dX11_lay_30 rfl ?_
      refine q_ialdC (jn := _) dX11_lay_31 (am_Ls hL rfl) i2 rfl ?_
      refine e_iconst dX11_lay_32 (v := 1) (by decide) ?_
      refine e_isub dX11_lay_33 ?_
      refine q_callSP (As := [_, _, _]) rfl dX11_lay_34 lm_M_106 (am_fitB rfl) yo_X11_in ys_X11_in rfl (Nat.le_of_ble_eq_true rfl) (Nat.le_of_ble_eq_true rfl) (s_X11_in hL _ _ _  _) (fun q3 => ?_)
      refine e_if_ne dX11_lay_37 (tgt := 46) (by decide) ?_ ?_
      · refine e_aload_n dX11_lay_46 rfl ?_
        refine e_iload_n dX11_lay_47 rfl ?_
        refine e_iload_n dX11_lay_48 rfl ?_
        refine q_callVP (As := [_, _]) rfl dX11_lay_49 lm_M_121 (am_fitB rfl) yo_X11_rowAt ys_X11_rowAt rfl rfl (by decide) (am_Lk hL rfl) rfl (Nat.le_of_ble_eq_true rfl) (Nat.le_of_ble_eq_true rfl) (s_X11_rowAt hL _ _  _) (fun q4 => ?_)
        refine e_istore dX11_lay_52 (by decide) (LS1 := [_, _, _, _, _]) rfl ?_
        refine e_aload_n dX11_lay_54 rfl ?_
        refine q_getR (r := 63) dX11_lay_55 lf_M_16 rfl (by decide) (am_Lk hL rfl) (am_Lr hL rfl) ?_
        refine e_bipush dX11_lay_58 (v := 60) (by decide) ?_
        refine e_iload_n dX11_lay_60 rfl ?_
        refine e_imul dX11_lay_61 ?_
        refine e_iload_n dX11_lay_62 rfl ?_
        refine e_iadd dX11_lay_63 ?_
        refine e_iload_n dX11_lay_64 rfl ?_
        refine q_iastH dX11_lay_65 (am_Ls hL rfl) (fun i6 => ?_)
        refine e_aload_n dX11_lay_66 rfl ?_
        refine e_iload dX11_lay_67 rfl ?_
        refine e_iconst dX11_lay_69 (v := 1) (by decide) ?_
        refine q_callVI (As := [_, _]) rfl dX11_lay_70 lm_M_125 (am_fitB rfl) yo_X11_tells ys_X11_tells rfl rfl (by decide) (am_Lk hL rfl) rfl (Nat.le_of_ble_eq_true rfl) (Nat.le_of_ble_eq_true rfl) (s_X11_tells hL _ _  _) (fun q7 => ?_)
        exact e_iret dX11_lay_73 rfl rfl
      · refine e_aload_n dX11_lay_40 rfl ?_
        refine e_iconst dX11_lay_41 (v := 2) (by decide) ?_
        refine q_callVI (As := [_]) rfl dX11_lay_42 lm_M_117 (am_fitB rfl) yo_X11_meets ys_X11_meets rfl rfl (by decide) (am_Lk hL rfl) rfl (Nat.le_of_ble_eq_true rfl) (Nat.le_of_ble_eq_true rfl) (s_X11_meets hL _  _) (fun q8 => ?_)
        exact e_iret dX11_lay_45 rfl rfl
    · refine e_aload_n dX11_lay_18 rfl ?_
      refine e_iconst dX11_lay_19 (v := 1) (by decide) ?_
      refine q_callVI (As := [_]) rfl dX11_lay_20 lm_M_117 (am_fitB rfl) yo_X11_meets ys_X11_meets rfl rfl (by decide) (am_Lk hL rfl) rfl (Nat.le_of_ble_eq_true rfl) (Nat.le_of_ble_eq_true rfl) (s_X11_meets hL _  _) (fun q9 => ?_)
      exact e_iret dX11_lay_23 rfl rfl
  · refine e_iconst dX11_lay_7 (v := ((-1) : Int32)) (by decide) ?_
    exact e_iret dX11_lay_8 rfl rfl

def f_X11_leakNow (a1 : Int32) (u : am_U) : Option (Int32) :=
  am_ck (am_ix a1 6) (
  am_ck (am_ix (0 + a1) 30) (
  am_ck (am_ix (12 + a1) 30) (
  am_jn (fun (j4s0 : Int32) =>
    (f_X11_leakOf (u 69 a1.toNatClampNeg) (u 75 (0 + a1).toNatClampNeg) j4s0).bind (fun q5 =>
    some q5)) (fun j4 =>
  if ¬ (u 75 (12 + a1).toNatClampNeg) = 1 then (
    j4 0)
  else (
    j4 1)))))
set_option maxRecDepth 100000 in
set_option maxHeartbeats 4000000 in
theorem s_X11_leakNow {l : Launch} {g : am_G} {B : am_M} {pl : Nat} (hL : am_Lay B pl) (a1 : Int32)  (u : am_U) : am_E l g d_X11_leakNow 0 (am_ent d_X11_leakNow [.ref (60), .int (a1)]) [] (am_of B u) (am_r (am_bP B u) (f_X11_leakNow a1 u)) := by
  unfold f_X11_leakNow
  show am_E l g d_X11_leakNow 0 [some (.ref (60)), some (.int (a1))] [] (am_of B u) _
  refine e_aload_n dX11_leakNow_0 rfl ?_
  refine q_getR (r := 69) dX11_leakNow_1 lf_M_35 rfl (by decide) (am_Lk hL rfl) (am_Lr hL rfl) ?_
  refine e_iload_n dX11_leakNow_4 rfl ?_
  refine q_ialdH dX11_leakNow_5 (am_Ls hL rfl) (fun i1 => ?_)
  refine e_aload_n dX11_leakNow_6 rfl ?_
  refine q_getR (r := 75) dX11_leakNow_7 lf_M_53 rfl (by decide) (am_Lk hL rfl) (am_Lr hL rfl) ?_
  refine e_iconst dX11_leakNow_10 (v := 0) (by decide) ?_
  refine e_iload_n dX11_leakNow_11 rfl ?_
  refine e_iadd dX11_leakNow_12 ?_
  refine q_ialdH dX11_leakNow_13 (am_Ls hL rfl) (fun i2 => ?_)
  refine e_aload_n dX11_leakNow_14 rfl ?_
  refine q_getR (r := 75) dX11_leakNow_15 lf_M_53 rfl (by decide) (am_Lk hL rfl) (am_Lr hL rfl) ?_
  refine e_bipush dX11_leakNow_18 (v := 12) (by decide) ?_
  refine e_iload_n dX11_leakNow_20 rfl ?_
  refine e_iadd dX11_leakNow_21 ?_
  refine q_ialdH dX11_leakNow_22 (am_Ls hL rfl) (fun i3 => ?_)
  refine e_iconst dX11_leakNow_23 (v := 1) (by decide) ?_
  refine e_jn (P := fun t : Int32 → Option (Int32) => ∀ (j4s0 : Int32), am_E l g d_X11_leakNow 32 [none, none] [.int (j4s0), .int (u 75 (0 + a1).toNatClampNeg), .int (u 69 a1.toNatClampNeg)] (am_of B u) (am_r (am_bP B u) (t j4s0))) ?_ (fun j4 hj4 => ?_)
  · intro j4s0
    refine q_callSP (As := [_, _, _]) rfl dX11_leakNow_32 lm_M_196 (am_fitB rfl) yo_X11_leakOf ys_X11_leakOf rfl (Nat.le_of_ble_eq_true rfl) (Nat.le_of_ble_eq_true rfl) (s_X11_leakOf hL _ _ _  _) (fun q5 => ?_)
    exact e_iret dX11_leakNow_35 rfl rfl
  · refine e_if2_ne dX11_leakNow_24 (tgt := 31) (by decide) ?_ ?_
    · refine e_iconst dX11_leakNow_31 (v := 0) (by decide) ?_
      refine e_msk [false, false] (LS1 := [none, none]) rfl ?_
      exact hj4 0
    · refine e_iconst dX11_leakNow_27 (v := 1) (by decide) ?_
      refine e_goto dX11_leakNow_28 (tgt := 32) (by decide) ?_
      refine e_msk [false, false] (LS1 := [none, none]) rfl ?_
      exact hj4 1

def f_X11_lower (u : am_U) : Option (Int64) :=
  if ¬ (u 60 12) = 0 then (
    (f_X11_sizeAll u).bind (fun q1 =>
    (f_X11_common u).bind (fun q2 =>
    am_ck (!(q2 == 0)) (
    some ((q1 / q2).toInt64)))))
  else (
    some (1 : Int64))
set_option maxRecDepth 100000 in
set_option maxHeartbeats 4000000 in
theorem s_X11_lower {l : Launch} {g : am_G} {B : am_M} {pl : Nat} (hL : am_Lay B pl)   (u : am_U) : am_E l g d_X11_lower 0 (am_ent d_X11_lower [.ref (60)]) [] (am_of B u) (am_r (am_bN B u) (f_X11_lower u)) := by
  unfold f_X11_lower
  show am_E l g d_X11_lower 0 [some (.ref (60))] [] (am_of B u) _
  refine e_aload_n dX11_lower_0 rfl ?_
  refine q_getI dX11_lower_1 lf_M_184 (by decide) (am_Lk hL rfl) ?_
  refine e_if_ne dX11_lower_4 (tgt := 11) (by decide) ?_ ?_
  · refine e_aload_n dX11_lower_11 rfl ?_
    refine q_callVP (As := []) rfl dX11_lower_12 lm_M_331 (am_fitB rfl) yo_X11_sizeAll ys_X11_sizeAll rfl rfl (by decide) (am_Lk hL rfl) rfl (Nat.le_of_ble_eq_true rfl) (Nat.le_of_ble_eq_true rfl) (s_X11_sizeAll hL   _) (fun q1 => ?_)
    refine e_aload_n dX11_lower_15 rfl ?_
    refine q_callVP (As := []) rfl dX11_lower_16 lm_M_334 (am_fitB rfl) yo_X11_common ys_X11_common rfl rfl (by decide) (am_Lk hL rfl) rfl (Nat.le_of_ble_eq_true rfl) (Nat.le_of_ble_eq_true rfl) (s_X11_common hL   _) (fun q2 => ?_)
    refine e_divq dX11_lower_19 ?_
    refine e_i2l dX11_lower_20 ?_
    exact e_lret dX11_lower_21 rfl rfl
  · refine e_lconst dX11_lower_7 (v := 1) (by decide) ?_
    refine e_goto dX11_lower_8 (tgt := 21) (by decide) ?_
    exact e_lret dX11_lower_21 rfl rfl

def f_X11_mean_44 (u : am_U) (v1 : Int32) (k72 : Int64 → Option (Int32 × am_U)) : Nat → Int64 → Int32 → Option (Int32 × am_U)
  | 0, _, _ => none
  | n + 1, v2, v4 =>
    am_ck (am_ix v1 6) (
    if (u 62 v1.toNatClampNeg) ≤ v4 then (
      k72 v2)
    else (
      (f_X11_rowAt v1 v4 u).bind (fun q4 =>
      f_X11_mean_44 u v1 k72 n (v2 + q4.toInt64) (v4 + 1))))
def f_X11_mean (a1 : Int32) (u : am_U) : Option (Int32 × am_U) :=
  (f_X11_isRow a1).bind (fun q1 =>
  if ¬ q1 = 0 then (
    am_ck (am_ix a1 6) (
    if 0 ≤ (u 62 a1.toNatClampNeg) then (
      if ¬ (u 62 a1.toNatClampNeg) = 0 then (
        f_X11_mean_44 u a1 (fun (c5v2 : Int64) =>
          am_ck (!((u 62 a1.toNatClampNeg).toInt64 == 0)) (
          (f_X11_tells ((c5v2 / ((u 62 a1.toNatClampNeg).toInt64)).toInt32) 1 u).bind (fun q6 =>
          some (q6.1, q6.2)))) 20000 (0 : Int64) 0)
      else (
        (f_X11_meets 4 u).bind (fun q7 =>
        some (q7.1, q7.2))))
    else (
      (f_X11_meets 1 u).bind (fun q8 =>
      some (q8.1, q8.2)))))
  else (
    some (((-1) : Int32), u)))
set_option maxRecDepth 100000 in
set_option maxHeartbeats 4000000 in
theorem s_X11_mean_44 {l : Launch} {g : am_G} {B : am_M} {pl : Nat} (hL : am_Lay B pl) (u : am_U) (v1 : Int32)  (k72 : Int64 → Option (Int32 × am_U)) (hk72 : ∀ (v2 : Int64), am_E l g d_X11_mean 72 [some (.ref (60)), some (.int (v1)), some (.long (v2)), none, none] [] (am_of B u) (am_r (am_bI B) (k72 v2))) : ∀ (n : Nat) (v2 : Int64) (v4 : Int32), am_E l g d_X11_mean 44 [some (.ref (60)), some (.int (v1)), some (.long (v2)), none, some (.int (v4))] [] (am_of B u) (am_r (am_bI B) (f_X11_mean_44 u v1 k72 n v2 v4)) := by
  intro n
  induction n with
  | zero => intro v2 v4; exact am_none
  | succ n ih =>
    intro v2 v4
    unfold f_X11_mean_44
    refine e_iload dX11_mean_44 rfl ?_
    refine e_aload_n dX11_mean_46 rfl ?_
    refine q_getR (r := 62) dX11_mean_47 lf_M_13 rfl (by decide) (am_Lk hL rfl) (am_Lr hL rfl) ?_
    refine e_iload_n dX11_mean_50 rfl ?_
    refine q_ialdH dX11_mean_51 (am_Ls hL rfl) (fun i3 => ?_)
    refine e_if2_ge dX11_mean_52 (tgt := 72) (by decide) ?_ ?_
    · refine e_msk [true, true, true, false, false] (LS1 := [_, _, _, none, none]) rfl ?_
      exact hk72 v2
    · refine e_lload_n dX11_mean_55 rfl ?_
      refine e_aload_n dX11_mean_56 rfl ?_
      refine e_iload_n dX11_mean_57 rfl ?_
      refine e_iload dX11_mean_58 rfl ?_
      refine q_callVP (As := [_, _]) rfl dX11_mean_60 lm_M_121 (am_fitB rfl) yo_X11_rowAt ys_X11_rowAt rfl rfl (by decide) (am_Lk hL rfl) rfl (Nat.le_of_ble_eq_true rfl) (Nat.le_of_ble_eq_true rfl) (s_X11_rowAt hL _ _  _) (fun q4 => ?_)
      refine e_i2l dX11_mean_63 ?_
      refine e_ladd dX11_mean_64 ?_
      refine e_lstore_n dX11_mean_65 (by decide) (LS1 := [_, _, _, none, _]) rfl ?_
      refine e_iinc dX11_mean_66 rfl (v := _ + 1) rfl (by decide) (LS1 := [_, _, _, none, _]) rfl ?_
      refine e_goto dX11_mean_69 (tgt := 44) (by decide) ?_
      exact ih (v2 + q4.toInt64) (v4 + 1)

set_option maxRecDepth 100000 in
set_option maxHeartbeats 4000000 in
theorem s_X11_mean {l : Launch} {g : am_G} {B : am_M} {pl : Nat} (hL : am_Lay B pl) (a1 : Int32)  (u : am_U) : am_E l g d_X11_mean 0 (am_ent d_X11_mean [.ref (60), .int (a1)]) [] (am_of B u) (am_r (am_bI B) (f_X11_mean a1 u)) := by
  unfold f_X11_mean
  show am_E l g d_X11_mean 0 [some (.ref (60)), some (.int (a1)), none, none, none] [] (am_of B u) _
  refine e_iload_n dX11_mean_0 rfl ?_
  refine q_callSP (As := [_]) rfl dX11_mean_1 lm_M_113 (am_fitB rfl) yo_X11_isRow ys_X11_isRow rfl (Nat.le_of_ble_eq_true rfl) (Nat.le_of_ble_eq_true rfl) (s_X11_isRow hL _  _) (fun q1 => ?_)
  refine e_if_ne dX11_mean_4 (tgt := 9) (by decide) ?_ ?_
  · refine e_aload_n dX11_mean_9 rfl ?_
    refine q_getR (r := 62) dX11_mean_10 lf_M_13 rfl (by decide) (am_Lk hL rfl) (am_Lr hL rfl) ?_
    refine e_iload_n dX11_mean_13 rfl ?_
    refine q_ialdH dX11_mean_14 (am_Ls hL rfl) (fun i2 => ?_)
    refine e_if_ge dX11_mean_15 (tgt := 24) (by decide) ?_ ?_
    · refine e_aload_n dX11_mean_24 rfl ?_
      refine q_getR (r := 62) dX11_mean_25 lf_M_13 rfl (by decide) (am_Lk hL rfl) (am_Lr hL rfl) ?_
      refine e_iload_n dX11_mean_28 rfl ?_
      refine q_ialdC (jn := _) dX11_mean_29 (am_Ls hL rfl) i2 rfl ?_
      refine e_if_ne dX11_mean_30 (tgt := 39) (by decide) ?_ ?_
      · refine e_lconst dX11_mean_39 (v := 0) (by decide) ?_
        refine e_lstore_n dX11_mean_40 (by decide) (LS1 := [_, _, _, none, none]) rfl ?_
        refine e_iconst dX11_mean_41 (v := 0) (by decide) ?_
        refine e_istore dX11_mean_42 (by decide) (LS1 := [_, _, _, none, _]) rfl ?_
        refine s_X11_mean_44 hL _ _ _ (fun c5v2 => ?_) _ _ _
        · refine e_aload_n dX11_mean_72 rfl ?_
          refine e_lload_n dX11_mean_73 rfl ?_
          refine e_aload_n dX11_mean_74 rfl ?_
          refine q_getR (r := 62) dX11_mean_75 lf_M_13 rfl (by decide) (am_Lk hL rfl) (am_Lr hL rfl) ?_
          refine e_iload_n dX11_mean_78 rfl ?_
          refine q_ialdC (jn := _) dX11_mean_79 (am_Ls hL rfl) i2 rfl ?_
          refine e_i2l dX11_mean_80 ?_
          refine e_ldivq dX11_mean_81 ?_
          refine e_l2i dX11_mean_82 ?_
          refine e_iconst dX11_mean_83 (v := 1) (by decide) ?_
          refine q_callVI (As := [_, _]) rfl dX11_mean_84 lm_M_125 (am_fitB rfl) yo_X11_tells ys_X11_tells rfl rfl (by decide) (am_Lk hL rfl) rfl (Nat.le_of_ble_eq_true rfl) (Nat.le_of_ble_eq_true rfl) (s_X11_tells hL _ _  _) (fun q6 => ?_)
          exact e_iret dX11_mean_87 rfl rfl
      · refine e_aload_n dX11_mean_33 rfl ?_
        refine e_iconst dX11_mean_34 (v := 4) (by decide) ?_
        refine q_callVI (As := [_]) rfl dX11_mean_35 lm_M_117 (am_fitB rfl) yo_X11_meets ys_X11_meets rfl rfl (by decide) (am_Lk hL rfl) rfl (Nat.le_of_ble_eq_true rfl) (Nat.le_of_ble_eq_true rfl) (s_X11_meets hL _  _) (fun q7 => ?_)
        exact e_iret dX11_mean_38 rfl rfl
    · refine e_aload_n dX11_mean_18 rfl ?_
      refine e_iconst dX11_mean_19 (v := 1) (by decide) ?_
      refine q_callVI (As := [_]) rfl dX11_mean_20 lm_M_117 (am_fitB rfl) yo_X11_meets ys_X11_meets rfl rfl (by decide) (am_Lk hL rfl) rfl (Nat.le_of_ble_eq_true rfl) (Nat.le_of_ble_eq_true rfl) (s_X11_meets hL _  _) (fun q8 => ?_)
      exact e_iret dX11_mean_23 rfl rfl
  · refine e_iconst dX11_mean_7 (v := ((-1) : Int32)) (by decide) ?_
    exact e_iret dX11_mean_8 rfl rfl

