def f_X10_leakAll_4 (pl : Nat) : Nat → Int32 → Int32 → am_U → Option (Int32 × am_U)
  | 0, _, _, _ => none
  | n + 1, v1, v2, u =>
    if (u pl 2) ≤ v2 then (
      some (v1, u))
    else (
      am_ck (am_ix v2 6) (
      am_jn (fun (j2s0 : Int32) =>
        (f_X2_leaked (u (pl + 3) v2.toNatClampNeg) (u 9 v2.toNatClampNeg) j2s0).bind (fun q3 =>
        let u4 : am_U := am_w u 9 v2.toNatClampNeg ((u 9 v2.toNatClampNeg) - q3)
        f_X10_leakAll_4 pl n (v1 + q3) (v2 + 1) u4)) (fun j2 =>
      if (u 11 v2.toNatClampNeg) = 0 then (
        j2 0)
      else (
        j2 1))))
def f_X10_leakAll (pl : Nat) (u : am_U) : Option (Int32 × am_U) :=
  f_X10_leakAll_4 pl 20000 0 0 u
set_option maxRecDepth 100000 in
set_option maxHeartbeats 4000000 in
theorem s_X10_leakAll_4 {l : Launch} {g : am_G} {B : am_M} {pl : Nat} (hL : am_Lay B pl)     : ∀ (n : Nat) (v1 : Int32) (v2 : Int32) (u : am_U), am_E l g d_X10_leakAll 4 [some (.ref (4)), some (.int (v1)), some (.int (v2)), none] [] (am_of B u) (am_r (am_bI B) (f_X10_leakAll_4 pl n v1 v2 u)) := by
  intro n
  induction n with
  | zero => intro v1 v2 u; exact am_none
  | succ n ih =>
    intro v1 v2 u
    unfold f_X10_leakAll_4
    refine e_iload_n dX10_leakAll_4 rfl ?_
    refine e_aload_n dX10_leakAll_5 rfl ?_
    refine q_getR (r := pl) dX10_leakAll_6 lf_N_72 rfl (by decide) (am_Lk hL rfl) (am_Lpl hL) ?_
    refine q_getI dX10_leakAll_9 lf_N_144 (by decide) (congrArg Prod.fst (am_pln hL).1) ?_
    refine e_if2_ge dX10_leakAll_12 (tgt := 77) (by decide) ?_ ?_
    · refine e_iload_n dX10_leakAll_77 rfl ?_
      exact e_iret dX10_leakAll_78 rfl rfl
    · refine e_aload_n dX10_leakAll_15 rfl ?_
      refine q_getR (r := pl) dX10_leakAll_16 lf_N_72 rfl (by decide) (am_Lk hL rfl) (am_Lpl hL) ?_
      refine q_getR (r := pl + 3) dX10_leakAll_19 lf_N_156 rfl (by decide) (congrArg Prod.fst (am_pln hL).1) (am_avs (am_pln hL).2.1.2.2.1) ?_
      refine e_iload_n dX10_leakAll_22 rfl ?_
      refine q_ialdH dX10_leakAll_23 (am_pln hL).2.2.2.2.1 (fun i1 => ?_)
      refine e_aload_n dX10_leakAll_24 rfl ?_
      refine q_getR (r := 8) dX10_leakAll_25 lf_N_28 rfl (by decide) (am_Lk hL rfl) (am_Lr hL rfl) ?_
      refine q_getR (r := 9) dX10_leakAll_28 lf_N_162 rfl (by decide) (am_Lk hL rfl) (am_Lr hL rfl) ?_
      refine e_iload_n dX10_leakAll_31 rfl ?_
      refine q_ialdC (jn := _) dX10_leakAll_32 (am_Ls hL rfl) i1 rfl ?_
      refine e_aload_n dX10_leakAll_33 rfl ?_
      refine q_getR (r := 8) dX10_leakAll_34 lf_N_28 rfl (by decide) (am_Lk hL rfl) (am_Lr hL rfl) ?_
      refine q_getR (r := 11) dX10_leakAll_37 lf_N_169 rfl (by decide) (am_Lk hL rfl) (am_Lr hL rfl) ?_
      refine e_iload_n dX10_leakAll_40 rfl ?_
      refine q_ialdC (jn := _) dX10_leakAll_41 (am_Ls hL rfl) i1 rfl ?_
      refine e_jn (P := fun t : Int32 → Option (Int32 × am_U) => ∀ (j2s0 : Int32), am_E l g d_X10_leakAll 50 [some (.ref (4)), some (.int (v1)), some (.int (v2)), none] [.int (j2s0), .int (u 9 v2.toNatClampNeg), .int (u (pl + 3) v2.toNatClampNeg)] (am_of B u) (am_r (am_bI B) (t j2s0))) ?_ (fun j2 hj2 => ?_)
      · intro j2s0
        refine q_callSP (As := [_, _, _]) rfl dX10_leakAll_50 lm_N_165 (am_fitB rfl) yo_X2_leaked ys_X2_leaked rfl (Nat.le_of_ble_eq_true rfl) (Nat.le_of_ble_eq_true rfl) (s_X2_leaked hL _ _ _  _) (fun q3 => ?_)
        refine e_istore_n dX10_leakAll_53 (by decide) (LS1 := [_, _, _, _]) rfl ?_
        refine e_aload_n dX10_leakAll_54 rfl ?_
        refine q_getR (r := 8) dX10_leakAll_55 lf_N_28 rfl (by decide) (am_Lk hL rfl) (am_Lr hL rfl) ?_
        refine q_getR (r := 9) dX10_leakAll_58 lf_N_162 rfl (by decide) (am_Lk hL rfl) (am_Lr hL rfl) ?_
        refine e_iload_n dX10_leakAll_61 rfl ?_
        refine e_dup2 dX10_leakAll_62 rfl rfl ?_
        refine q_ialdC (jn := _) dX10_leakAll_63 (am_Ls hL rfl) i1 rfl ?_
        refine e_iload_n dX10_leakAll_64 rfl ?_
        refine e_isub dX10_leakAll_65 ?_
        refine q_iastC (jn := _) dX10_leakAll_66 (am_Ls hL rfl) i1 rfl ?_
        refine e_iload_n dX10_leakAll_67 rfl ?_
        refine e_iload_n dX10_leakAll_68 rfl ?_
        refine e_iadd dX10_leakAll_69 ?_
        refine e_istore_n dX10_leakAll_70 (by decide) (LS1 := [_, _, _, _]) rfl ?_
        refine e_iinc dX10_leakAll_71 rfl (v := _ + 1) rfl (by decide) (LS1 := [_, _, _, _]) rfl ?_
        refine e_goto dX10_leakAll_74 (tgt := 4) (by decide) ?_
        refine e_msk [true, true, true, false] (LS1 := [_, _, _, none]) rfl ?_
        exact ih (v1 + q3) (v2 + 1) (am_w u 9 v2.toNatClampNeg ((u 9 v2.toNatClampNeg) - q3))
      · refine e_if_eq dX10_leakAll_42 (tgt := 49) (by decide) ?_ ?_
        · refine e_iconst dX10_leakAll_49 (v := 0) (by decide) ?_
          refine e_msk [true, true, true, false] (LS1 := [_, _, _, none]) rfl ?_
          exact hj2 0
        · refine e_iconst dX10_leakAll_45 (v := 1) (by decide) ?_
          refine e_goto dX10_leakAll_46 (tgt := 50) (by decide) ?_
          refine e_msk [true, true, true, false] (LS1 := [_, _, _, none]) rfl ?_
          exact hj2 1

set_option maxRecDepth 100000 in
set_option maxHeartbeats 4000000 in
theorem s_X10_leakAll {l : Launch} {g : am_G} {B : am_M} {pl : Nat} (hL : am_Lay B pl)   (u : am_U) : am_E l g d_X10_leakAll 0 (am_ent d_X10_leakAll [.ref (4)]) [] (am_of B u) (am_r (am_bI B) (f_X10_leakAll pl u)) := by
  unfold f_X10_leakAll
  show am_E l g d_X10_leakAll 0 [some (.ref (4)), none, none, none] [] (am_of B u) _
  refine e_iconst dX10_leakAll_0 (v := 0) (by decide) ?_
  refine e_istore_n dX10_leakAll_1 (by decide) (LS1 := [_, _, none, none]) rfl ?_
  refine e_iconst dX10_leakAll_2 (v := 0) (by decide) ?_
  refine e_istore_n dX10_leakAll_3 (by decide) (LS1 := [_, _, _, none]) rfl ?_
  refine s_X10_leakAll_4 hL  _ _ _ _

def f_X10_makeRow (a1 : Nat) (a2 : Int32) (a3 : Int32) (u : am_U) : Option (Int32 × am_U) :=
  if a2 ≤ 60 then (
    if 0 ≤ a2 then (
      (f_X8_makeAnew a1 a2 a3 u).bind (fun q1 =>
      some (a2, q1)))
    else (
      (f_X10_find 5 u).bind (fun q2 =>
      some (q2.1, q2.2))))
  else (
    some (((-1) : Int32), u))
set_option maxRecDepth 100000 in
set_option maxHeartbeats 4000000 in
theorem s_X10_makeRow {l : Launch} {g : am_G} {B : am_M} {pl : Nat} (hL : am_Lay B pl) (a1 : Nat) (a2 : Int32) (a3 : Int32) (h1 : am_isRow B a1) (u : am_U) : am_E l g d_X10_makeRow 0 (am_ent d_X10_makeRow [.ref (4), .ref (a1), .int (a2), .int (a3)]) [] (am_of B u) (am_r (am_bI B) (f_X10_makeRow a1 a2 a3 u)) := by
  unfold f_X10_makeRow
  show am_E l g d_X10_makeRow 0 [some (.ref (4)), some (.ref (a1)), some (.int (a2)), some (.int (a3))] [] (am_of B u) _
  refine e_iload_n dX10_makeRow_0 rfl ?_
  refine e_bipush dX10_makeRow_1 (v := 60) (by decide) ?_
  refine e_if2_le dX10_makeRow_3 (tgt := 8) (by decide) ?_ ?_
  · refine e_iload_n dX10_makeRow_8 rfl ?_
    refine e_if_ge dX10_makeRow_9 (tgt := 18) (by decide) ?_ ?_
    · refine e_aload_n dX10_makeRow_18 rfl ?_
      refine e_iload_n dX10_makeRow_19 rfl ?_
      refine e_iload_n dX10_makeRow_20 rfl ?_
      refine q_callVV (As := [_, _]) rfl dX10_makeRow_21 lm_N_379 (am_fitB rfl) yo_X8_makeAnew ys_X8_makeAnew rfl rfl (by decide) (congrArg Prod.fst h1.1) rfl (Nat.le_of_ble_eq_true rfl) (Nat.le_of_ble_eq_true rfl) (s_X8_makeAnew hL _ _ _ h1 _) (fun q1 => ?_)
      refine e_iload_n dX10_makeRow_24 rfl ?_
      exact e_iret dX10_makeRow_25 rfl rfl
    · refine e_aload_n dX10_makeRow_12 rfl ?_
      refine e_iconst dX10_makeRow_13 (v := 5) (by decide) ?_
      refine q_callVI (As := [_]) rfl dX10_makeRow_14 lm_N_113 (am_fitB rfl) yo_X10_find ys_X10_find rfl rfl (by decide) (am_Lk hL rfl) rfl (Nat.le_of_ble_eq_true rfl) (Nat.le_of_ble_eq_true rfl) (s_X10_find hL _  _) (fun q2 => ?_)
      exact e_iret dX10_makeRow_17 rfl rfl
  · refine e_iconst dX10_makeRow_6 (v := ((-1) : Int32)) (by decide) ?_
    exact e_iret dX10_makeRow_7 rfl rfl

def f_X10_mark (pl : Nat) (a1 : Int32) (a2 : Int32) (u : am_U) : Option (Int32 × am_U) :=
  (f_X10_isJar pl a1 u).bind (fun q1 =>
  if q1 = 0 then (
    some (((-1) : Int32), u))
  else (
    (f_X10_isWithin a2 1 5).bind (fun q2 =>
    if ¬ q2 = 0 then (
      am_ck (am_ix a1 6) (
      (f_X2_is (u (pl + 3) a1.toNatClampNeg) a2).bind (fun q4 =>
      if ¬ q4 = 0 then (
        let x5 : Int32 := u (pl + 3) a1.toNatClampNeg
        if a2 = 1 then (
          (f_X2_leaked x5 (u 9 a1.toNatClampNeg) 1).bind (fun q6 =>
          (f_X2_leaked 0 (u 9 a1.toNatClampNeg) 1).bind (fun q7 =>
          some (q6 - q7, u))))
        else         if a2 = 2 then (
          am_jn (fun (j8s0 : Int32) =>
            (f_X2_leaked x5 (u 9 a1.toNatClampNeg) j8s0).bind (fun q9 =>
            if q9 ≤ 0 then (
              some (((-9) : Int32), u))
            else (
              some (0, u)))) (fun j8 =>
          if (u 11 a1.toNatClampNeg) = 0 then (
            j8 0)
          else (
            j8 1)))
        else         if a2 = 3 then (
          (f_X2_hours 0 (u 9 a1.toNatClampNeg)).bind (fun q10 =>
          (f_X2_hours x5 (u 9 a1.toNatClampNeg)).bind (fun q11 =>
          some (q10 - q11, u))))
        else         if a2 = 4 then (
          (f_X2_hours x5 (u 9 a1.toNatClampNeg)).bind (fun q12 =>
          some (q12, u)))
        else (
          (f_X2_hours x5 (u 9 a1.toNatClampNeg)).bind (fun q13 =>
          (f_X2_anHour x5).bind (fun q14 =>
          some ((u 9 a1.toNatClampNeg) - (q13 * q14), u)))))
      else (
        (f_X10_find 3 u).bind (fun q15 =>
        some (q15.1, q15.2))))))
    else (
      some (((-1) : Int32), u)))))
set_option maxRecDepth 100000 in
set_option maxHeartbeats 4000000 in
theorem s_X10_mark {l : Launch} {g : am_G} {B : am_M} {pl : Nat} (hL : am_Lay B pl) (a1 : Int32) (a2 : Int32)  (u : am_U) : am_E l g d_X10_mark 0 (am_ent d_X10_mark [.ref (4), .int (a1), .int (a2)]) [] (am_of B u) (am_r (am_bI B) (f_X10_mark pl a1 a2 u)) := by
  unfold f_X10_mark
  show am_E l g d_X10_mark 0 [some (.ref (4)), some (.int (a1)), some (.int (a2)), none, none] [] (am_of B u) _
  refine e_aload_n dX10_mark_0 rfl ?_
  refine e_iload_n dX10_mark_1 rfl ?_
  refine q_callVP (As := [_]) rfl dX10_mark_2 lm_N_147 (am_fitB rfl) yo_X10_isJar ys_X10_isJar rfl rfl (by decide) (am_Lk hL rfl) rfl (Nat.le_of_ble_eq_true rfl) (Nat.le_of_ble_eq_true rfl) (s_X10_isJar hL _  _) (fun q1 => ?_)
  refine e_if_eq dX10_mark_5 (tgt := 17) (by decide) ?_ ?_
  · refine e_iconst dX10_mark_17 (v := ((-1) : Int32)) (by decide) ?_
    exact e_iret dX10_mark_18 rfl rfl
  · refine e_iload_n dX10_mark_8 rfl ?_
    refine e_iconst dX10_mark_9 (v := 1) (by decide) ?_
    refine e_iconst dX10_mark_10 (v := 5) (by decide) ?_
    refine q_callSP (As := [_, _, _]) rfl dX10_mark_11 lm_N_86 (am_fitB rfl) yo_X10_isWithin ys_X10_isWithin rfl (Nat.le_of_ble_eq_true rfl) (Nat.le_of_ble_eq_true rfl) (s_X10_isWithin hL _ _ _  _) (fun q2 => ?_)
    refine e_if_ne dX10_mark_14 (tgt := 19) (by decide) ?_ ?_
    · refine e_aload_n dX10_mark_19 rfl ?_
      refine q_getR (r := pl) dX10_mark_20 lf_N_72 rfl (by decide) (am_Lk hL rfl) (am_Lpl hL) ?_
      refine q_getR (r := pl + 3) dX10_mark_23 lf_N_156 rfl (by decide) (congrArg Prod.fst (am_pln hL).1) (am_avs (am_pln hL).2.1.2.2.1) ?_
      refine e_iload_n dX10_mark_26 rfl ?_
      refine q_ialdH dX10_mark_27 (am_pln hL).2.2.2.2.1 (fun i3 => ?_)
      refine e_iload_n dX10_mark_28 rfl ?_
      refine q_callSP (As := [_, _]) rfl dX10_mark_29 lm_N_159 (am_fitB rfl) yo_X2_is ys_X2_is rfl (Nat.le_of_ble_eq_true rfl) (Nat.le_of_ble_eq_true rfl) (s_X2_is hL _ _  _) (fun q4 => ?_)
      refine e_if_ne dX10_mark_32 (tgt := 41) (by decide) ?_ ?_
      · refine e_aload_n dX10_mark_41 rfl ?_
        refine q_getR (r := pl) dX10_mark_42 lf_N_72 rfl (by decide) (am_Lk hL rfl) (am_Lpl hL) ?_
        refine q_getR (r := pl + 3) dX10_mark_45 lf_N_156 rfl (by decide) (congrArg Prod.fst (am_pln hL).1) (am_avs (am_pln hL).2.1.2.2.1) ?_
        refine e_iload_n dX10_mark_48 rfl ?_
        refine q_ialdC (jn := _) dX10_mark_49 (am_pln hL).2.2.2.2.1 i3 rfl ?_
        refine e_istore_n dX10_mark_50 (by decide) (LS1 := [_, _, _, _, none]) rfl ?_
        refine e_aload_n dX10_mark_51 rfl ?_
        refine q_getR (r := 8) dX10_mark_52 lf_N_28 rfl (by decide) (am_Lk hL rfl) (am_Lr hL rfl) ?_
        refine q_getR (r := 9) dX10_mark_55 lf_N_162 rfl (by decide) (am_Lk hL rfl) (am_Lr hL rfl) ?_
        refine e_iload_n dX10_mark_58 rfl ?_
        refine q_ialdC (jn := _) dX10_mark_59 (am_Ls hL rfl) i3 rfl ?_
        refine e_istore dX10_mark_60 (by decide) (LS1 := [_, _, _, _, _]) rfl ?_
        refine e_iload_n dX10_mark_62 rfl ?_
        refine e_sw (c := 1) (fun hc => ?_) (fun hn0 => ?_)
        · subst hc
          refine e_tabIn dX10_mark_63 (tgt := 92) (by decide) (by decide) rfl (by decide) ?_
          refine e_iload_n dX10_mark_92 rfl ?_
          refine e_iload dX10_mark_93 rfl ?_
          refine e_iconst dX10_mark_95 (v := 1) (by decide) ?_
          refine q_callSP (As := [_, _, _]) rfl dX10_mark_96 lm_N_165 (am_fitB rfl) yo_X2_leaked ys_X2_leaked rfl (Nat.le_of_ble_eq_true rfl) (Nat.le_of_ble_eq_true rfl) (s_X2_leaked hL _ _ _  _) (fun q6 => ?_)
          refine e_iconst dX10_mark_99 (v := 0) (by decide) ?_
          refine e_iload dX10_mark_100 rfl ?_
          refine e_iconst dX10_mark_102 (v := 1) (by decide) ?_
          refine q_callSP (As := [_, _, _]) rfl dX10_mark_103 lm_N_165 (am_fitB rfl) yo_X2_leaked ys_X2_leaked rfl (Nat.le_of_ble_eq_true rfl) (Nat.le_of_ble_eq_true rfl) (s_X2_leaked hL _ _ _  _) (fun q7 => ?_)
          refine e_isub dX10_mark_106 ?_
          exact e_iret dX10_mark_107 rfl rfl
        refine e_sw (c := 2) (fun hc => ?_) (fun hn1 => ?_)
        · subst hc
          refine e_tabIn dX10_mark_63 (tgt := 108) (by decide) (by decide) rfl (by decide) ?_
          refine e_iload_n dX10_mark_108 rfl ?_
          refine e_iload dX10_mark_109 rfl ?_
          refine e_aload_n dX10_mark_111 rfl ?_
          refine q_getR (r := 8) dX10_mark_112 lf_N_28 rfl (by decide) (am_Lk hL rfl) (am_Lr hL rfl) ?_
          refine q_getR (r := 11) dX10_mark_115 lf_N_169 rfl (by decide) (am_Lk hL rfl) (am_Lr hL rfl) ?_
          refine e_iload_n dX10_mark_118 rfl ?_
          refine q_ialdC (jn := _) dX10_mark_119 (am_Ls hL rfl) i3 rfl ?_
          refine e_jn (P := fun t : Int32 → Option (Int32 × am_U) => ∀ (j8s0 : Int32), am_E l g d_X10_mark 128 [none, none, none, none, none] [.int (j8s0), .int (u 9 a1.toNatClampNeg), .int (u (pl + 3) a1.toNatClampNeg)] (am_of B u) (am_r (am_bI B) (t j8s0))) ?_ (fun j8 hj8 => ?_)
          · intro j8s0
            refine q_callSP (As := [_, _, _]) rfl dX10_mark_128 lm_N_165 (am_fitB rfl) yo_X2_leaked ys_X2_leaked rfl (Nat.le_of_ble_eq_true rfl) (Nat.le_of_ble_eq_true rfl) (s_X2_leaked hL _ _ _  _) (fun q9 => ?_)
            refine e_if_le dX10_mark_131 (tgt := 138) (by decide) ?_ ?_
            · refine e_bipush dX10_mark_138 (v := ((-9) : Int32)) (by decide) ?_
              exact e_iret dX10_mark_140 rfl rfl
            · refine e_iconst dX10_mark_134 (v := 0) (by decide) ?_
              refine e_goto dX10_mark_135 (tgt := 140) (by decide) ?_
              exact e_iret dX10_mark_140 rfl rfl
          · refine e_if_eq dX10_mark_120 (tgt := 127) (by decide) ?_ ?_
            · refine e_iconst dX10_mark_127 (v := 0) (by decide) ?_
              refine e_msk [false, false, false, false, false] (LS1 := [none, none, none, none, none]) rfl ?_
              exact hj8 0
            · refine e_iconst dX10_mark_123 (v := 1) (by decide) ?_
              refine e_goto dX10_mark_124 (tgt := 128) (by decide) ?_
              refine e_msk [false, false, false, false, false] (LS1 := [none, none, none, none, none]) rfl ?_
              exact hj8 1
        refine e_sw (c := 3) (fun hc => ?_) (fun hn2 => ?_)
        · subst hc
          refine e_tabIn dX10_mark_63 (tgt := 141) (by decide) (by decide) rfl (by decide) ?_
          refine e_iconst dX10_mark_141 (v := 0) (by decide) ?_
          refine e_iload dX10_mark_142 rfl ?_
          refine q_callSP (As := [_, _]) rfl dX10_mark_144 lm_N_172 (am_fitB rfl) yo_X2_hours ys_X2_hours rfl (Nat.le_of_ble_eq_true rfl) (Nat.le_of_ble_eq_true rfl) (s_X2_hours hL _ _  _) (fun q10 => ?_)
          refine e_iload_n dX10_mark_147 rfl ?_
          refine e_iload dX10_mark_148 rfl ?_
          refine q_callSP (As := [_, _]) rfl dX10_mark_150 lm_N_172 (am_fitB rfl) yo_X2_hours ys_X2_hours rfl (Nat.le_of_ble_eq_true rfl) (Nat.le_of_ble_eq_true rfl) (s_X2_hours hL _ _  _) (fun q11 => ?_)
          refine e_isub dX10_mark_153 ?_
          exact e_iret dX10_mark_154 rfl rfl
        refine e_sw (c := 4) (fun hc => ?_) (fun hn3 => ?_)
        · subst hc
          refine e_tabIn dX10_mark_63 (tgt := 155) (by decide) (by decide) rfl (by decide) ?_
          refine e_iload_n dX10_mark_155 rfl ?_
          refine e_iload dX10_mark_156 rfl ?_
          refine q_callSP (As := [_, _]) rfl dX10_mark_158 lm_N_172 (am_fitB rfl) yo_X2_hours ys_X2_hours rfl (Nat.le_of_ble_eq_true rfl) (Nat.le_of_ble_eq_true rfl) (s_X2_hours hL _ _  _) (fun q12 => ?_)
          exact e_iret dX10_mark_161 rfl rfl
        have hm0 := lv_neT hn0 (show (1 : Int32).toInt = 1 by decide)
        have hm1 := lv_neT hn1 (show (2 : Int32).toInt = 2 by decide)
        have hm2 := lv_neT hn2 (show (3 : Int32).toInt = 3 by decide)
        have hm3 := lv_neT hn3 (show (4 : Int32).toInt = 4 by decide)
        refine e_tabOut dX10_mark_63 (tgt := 162) (by omega) (by decide) ?_
        refine e_iload dX10_mark_162 rfl ?_
        refine e_iload_n dX10_mark_164 rfl ?_
        refine e_iload dX10_mark_165 rfl ?_
        refine q_callSP (As := [_, _]) rfl dX10_mark_167 lm_N_172 (am_fitB rfl) yo_X2_hours ys_X2_hours rfl (Nat.le_of_ble_eq_true rfl) (Nat.le_of_ble_eq_true rfl) (s_X2_hours hL _ _  _) (fun q13 => ?_)
        refine e_iload_n dX10_mark_170 rfl ?_
        refine q_callSP (As := [_]) rfl dX10_mark_171 lm_N_175 (am_fitB rfl) yo_X2_anHour ys_X2_anHour rfl (Nat.le_of_ble_eq_true rfl) (Nat.le_of_ble_eq_true rfl) (s_X2_anHour hL _  _) (fun q14 => ?_)
        refine e_imul dX10_mark_174 ?_
        refine e_isub dX10_mark_175 ?_
        exact e_iret dX10_mark_176 rfl rfl
      · refine e_aload_n dX10_mark_35 rfl ?_
        refine e_iconst dX10_mark_36 (v := 3) (by decide) ?_
        refine q_callVI (As := [_]) rfl dX10_mark_37 lm_N_113 (am_fitB rfl) yo_X10_find ys_X10_find rfl rfl (by decide) (am_Lk hL rfl) rfl (Nat.le_of_ble_eq_true rfl) (Nat.le_of_ble_eq_true rfl) (s_X10_find hL _  _) (fun q15 => ?_)
        exact e_iret dX10_mark_40 rfl rfl
    · refine e_iconst dX10_mark_17 (v := ((-1) : Int32)) (by decide) ?_
      exact e_iret dX10_mark_18 rfl rfl

def f_X10_mean (a1 : Int32) (u : am_U) : Option (Int32 × am_U) :=
  (f_X10_refuseRow 5 a1 u).bind (fun q1 =>
  if q1.1 = 0 then (
    am_ck (am_ix a1 6) (
    if ¬ (q1.2 (2 * a1.toNatClampNeg + 40) 1) = 0 then (
      (f_X8_sum (2 * a1.toNatClampNeg + 40) q1.2).bind (fun q3 =>
      am_ck (!((q1.2 (2 * a1.toNatClampNeg + 40) 1).toInt64 == 0)) (
      (f_X10_tell 1 ((q3 / ((q1.2 (2 * a1.toNatClampNeg + 40) 1).toInt64)).toInt32) q1.2).bind (fun q4 =>
      some (q4.1, q4.2)))))
    else (
      (f_X10_find 4 q1.2).bind (fun q5 =>
      some (q5.1, q5.2)))))
  else (
    some (q1.1, q1.2)))
set_option maxRecDepth 100000 in
set_option maxHeartbeats 4000000 in
theorem s_X10_mean {l : Launch} {g : am_G} {B : am_M} {pl : Nat} (hL : am_Lay B pl) (a1 : Int32)  (u : am_U) : am_E l g d_X10_mean 0 (am_ent d_X10_mean [.ref (4), .int (a1)]) [] (am_of B u) (am_r (am_bI B) (f_X10_mean a1 u)) := by
  unfold f_X10_mean
  show am_E l g d_X10_mean 0 [some (.ref (4)), some (.int (a1)), none, none] [] (am_of B u) _
  refine e_aload_n dX10_mean_0 rfl ?_
  refine e_aload_n dX10_mean_1 rfl ?_
  refine q_getR (r := 5) dX10_mean_2 lf_N_11 rfl (by decide) (am_Lk hL rfl) (am_Lr hL rfl) ?_
  refine e_iload_n dX10_mean_5 rfl ?_
  refine q_callVI (As := [_, _]) rfl dX10_mean_6 lm_N_105 (am_fitB rfl) yo_X10_refuseRow ys_X10_refuseRow rfl rfl (by decide) (am_Lk hL rfl) rfl (Nat.le_of_ble_eq_true rfl) (Nat.le_of_ble_eq_true rfl) (s_X10_refuseRow hL _ _ (am_rows5 hL) _) (fun q1 => ?_)
  refine e_istore_n dX10_mean_9 (by decide) (LS1 := [_, _, _, none]) rfl ?_
  refine e_iload_n dX10_mean_10 rfl ?_
  refine e_if_eq dX10_mean_11 (tgt := 16) (by decide) ?_ ?_
  · refine e_aload_n dX10_mean_16 rfl ?_
    refine q_getR (r := 5) dX10_mean_17 lf_N_11 rfl (by decide) (am_Lk hL rfl) (am_Lr hL rfl) ?_
    refine e_iload_n dX10_mean_20 rfl ?_
    refine q_aald (n := 6) (rid := 2 * a1.toNatClampNeg + 40) dX10_mean_21 (am_rows5 hL).1 (fun h => ((am_rows5 hL).2 _ h).1) (fun i2 => ?_)
    refine e_astore_n dX10_mean_22 (by decide) (LS1 := [_, _, _, _]) rfl ?_
    refine e_aload_n dX10_mean_23 rfl ?_
    refine q_getI dX10_mean_24 lf_N_109 (by decide) (congrArg Prod.fst ((am_rows5 hL).2 _ i2).2.1) ?_
    refine e_if_ne dX10_mean_27 (tgt := 36) (by decide) ?_ ?_
    · refine e_aload_n dX10_mean_36 rfl ?_
      refine e_iconst dX10_mean_37 (v := 1) (by decide) ?_
      refine e_aload_n dX10_mean_38 rfl ?_
      refine q_callVN (As := []) rfl dX10_mean_39 lm_N_131 (am_fitB rfl) yo_X8_sum ys_X8_sum rfl rfl (by decide) (congrArg Prod.fst ((am_rows5 hL).2 _ i2).2.1) rfl (Nat.le_of_ble_eq_true rfl) (Nat.le_of_ble_eq_true rfl) (s_X8_sum hL _ ((am_rows5 hL).2 _ i2).2 _) (fun q3 => ?_)
      refine e_aload_n dX10_mean_42 rfl ?_
      refine q_getI dX10_mean_43 lf_N_109 (by decide) (congrArg Prod.fst ((am_rows5 hL).2 _ i2).2.1) ?_
      refine e_i2l dX10_mean_46 ?_
      refine e_ldivq dX10_mean_47 ?_
      refine e_l2i dX10_mean_48 ?_
      refine q_callVI (As := [_, _]) rfl dX10_mean_49 lm_N_101 (am_fitB rfl) yo_X10_tell ys_X10_tell rfl rfl (by decide) (am_Lk hL rfl) rfl (Nat.le_of_ble_eq_true rfl) (Nat.le_of_ble_eq_true rfl) (s_X10_tell hL _ _  _) (fun q4 => ?_)
      exact e_iret dX10_mean_52 rfl rfl
    · refine e_aload_n dX10_mean_30 rfl ?_
      refine e_iconst dX10_mean_31 (v := 4) (by decide) ?_
      refine q_callVI (As := [_]) rfl dX10_mean_32 lm_N_113 (am_fitB rfl) yo_X10_find ys_X10_find rfl rfl (by decide) (am_Lk hL rfl) rfl (Nat.le_of_ble_eq_true rfl) (Nat.le_of_ble_eq_true rfl) (s_X10_find hL _  _) (fun q5 => ?_)
      exact e_iret dX10_mean_35 rfl rfl
  · refine e_iload_n dX10_mean_14 rfl ?_
    exact e_iret dX10_mean_15 rfl rfl

def f_X10_on (a1 : Int32) (u : am_U) : Option (Int32 × am_U) :=
  (f_X10_isWithin a1 0 2).bind (fun q1 =>
  if ¬ q1 = 0 then (
    am_ck (am_ix a1 3) (
    if ¬ (u 20 a1.toNatClampNeg) = ((-1) : Int32) then (
      (f_X4_recall 18 90 a1 u).bind (fun q3 =>
      (f_X1_clear q3).bind (fun q4 =>
      some (q4 8 5, q4))))
    else (
      (f_X10_find 1 u).bind (fun q5 =>
      some (q5.1, q5.2)))))
  else (
    some (((-1) : Int32), u)))
set_option maxRecDepth 100000 in
set_option maxHeartbeats 4000000 in
theorem s_X10_on {l : Launch} {g : am_G} {B : am_M} {pl : Nat} (hL : am_Lay B pl) (a1 : Int32)  (u : am_U) : am_E l g d_X10_on 0 (am_ent d_X10_on [.ref (4), .int (a1)]) [] (am_of B u) (am_r (am_bI B) (f_X10_on a1 u)) := by
  unfold f_X10_on
  show am_E l g d_X10_on 0 [some (.ref (4)), some (.int (a1))] [] (am_of B u) _
  refine e_iload_n dX10_on_0 rfl ?_
  refine e_iconst dX10_on_1 (v := 0) (by decide) ?_
  refine e_iconst dX10_on_2 (v := 2) (by decide) ?_
  refine q_callSP (As := [_, _, _]) rfl dX10_on_3 lm_N_86 (am_fitB rfl) yo_X10_isWithin ys_X10_isWithin rfl (Nat.le_of_ble_eq_true rfl) (Nat.le_of_ble_eq_true rfl) (s_X10_isWithin hL _ _ _  _) (fun q1 => ?_)
  refine e_if_ne dX10_on_6 (tgt := 11) (by decide) ?_ ?_
  · refine e_aload_n dX10_on_11 rfl ?_
    refine q_getR (r := 20) dX10_on_12 lf_N_48 rfl (by decide) (am_Lk hL rfl) (am_Lr hL rfl) ?_
    refine e_iload_n dX10_on_15 rfl ?_
    refine q_ialdH dX10_on_16 (am_Ls hL rfl) (fun i2 => ?_)
    refine e_iconst dX10_on_17 (v := ((-1) : Int32)) (by decide) ?_
    refine e_if2_ne dX10_on_18 (tgt := 27) (by decide) ?_ ?_
    · refine e_aload_n dX10_on_27 rfl ?_
      refine q_getR (r := 18) dX10_on_28 lf_N_44 rfl (by decide) (am_Lk hL rfl) (am_Lr hL rfl) ?_
      refine e_iload_n dX10_on_31 rfl ?_
      refine e_aload_n dX10_on_32 rfl ?_
      refine q_getR (r := 8) dX10_on_33 lf_N_28 rfl (by decide) (am_Lk hL rfl) (am_Lr hL rfl) ?_
      refine q_callVV (As := [_, _]) rfl dX10_on_36 lm_N_232 (am_fitB rfl) yo_X4_recall ys_X4_recall rfl rfl (by decide) (am_Lk hL rfl) rfl (Nat.le_of_ble_eq_true rfl) (Nat.le_of_ble_eq_true rfl) (s_X4_recall hL _ _ _ (am_mem18 hL) _) (fun q3 => ?_)
      refine e_aload_n dX10_on_39 rfl ?_
      refine q_getR (r := 14) dX10_on_40 lf_N_35 rfl (by decide) (am_Lk hL rfl) (am_Lr hL rfl) ?_
      refine q_callVV (As := []) rfl dX10_on_43 lm_N_142 (am_fitB rfl) yo_X1_clear ys_X1_clear rfl rfl (by decide) (am_Lk hL rfl) rfl (Nat.le_of_ble_eq_true rfl) (Nat.le_of_ble_eq_true rfl) (s_X1_clear hL   _) (fun q4 => ?_)
      refine e_aload_n dX10_on_46 rfl ?_
      refine q_getR (r := 8) dX10_on_47 lf_N_28 rfl (by decide) (am_Lk hL rfl) (am_Lr hL rfl) ?_
      refine q_getI dX10_on_50 lf_N_190 (by decide) (am_Lk hL rfl) ?_
      exact e_iret dX10_on_53 rfl rfl
    · refine e_aload_n dX10_on_21 rfl ?_
      refine e_iconst dX10_on_22 (v := 1) (by decide) ?_
      refine q_callVI (As := [_]) rfl dX10_on_23 lm_N_113 (am_fitB rfl) yo_X10_find ys_X10_find rfl rfl (by decide) (am_Lk hL rfl) rfl (Nat.le_of_ble_eq_true rfl) (Nat.le_of_ble_eq_true rfl) (s_X10_find hL _  _) (fun q5 => ?_)
      exact e_iret dX10_on_26 rfl rfl
  · refine e_iconst dX10_on_9 (v := ((-1) : Int32)) (by decide) ?_
    exact e_iret dX10_on_10 rfl rfl

def f_X10_place (pl : Nat) (a1 : Int32) (a2 : Int32) (u : am_U) : Option (Int32 × am_U) :=
  (f_X10_isPlace a1).bind (fun q1 =>
  if q1 = 0 then (
    some (((-1) : Int32), u))
  else (
    (f_X10_isWithin a2 0 3).bind (fun q2 =>
    if ¬ q2 = 0 then (
      (f_X10_placeTells pl a1 a2 u).bind (fun q3 =>
      (f_X10_tell 1 q3 u).bind (fun q4 =>
      some (q4.1, q4.2))))
    else (
      some (((-1) : Int32), u)))))
set_option maxRecDepth 100000 in
set_option maxHeartbeats 4000000 in
theorem s_X10_place {l : Launch} {g : am_G} {B : am_M} {pl : Nat} (hL : am_Lay B pl) (a1 : Int32) (a2 : Int32)  (u : am_U) : am_E l g d_X10_place 0 (am_ent d_X10_place [.ref (4), .int (a1), .int (a2)]) [] (am_of B u) (am_r (am_bI B) (f_X10_place pl a1 a2 u)) := by
  unfold f_X10_place
  show am_E l g d_X10_place 0 [some (.ref (4)), some (.int (a1)), some (.int (a2))] [] (am_of B u) _
  refine e_iload_n dX10_place_0 rfl ?_
  refine q_callSP (As := [_]) rfl dX10_place_1 lm_N_178 (am_fitB rfl) yo_X10_isPlace ys_X10_isPlace rfl (Nat.le_of_ble_eq_true rfl) (Nat.le_of_ble_eq_true rfl) (s_X10_isPlace hL _  _) (fun q1 => ?_)
  refine e_if_eq dX10_place_4 (tgt := 16) (by decide) ?_ ?_
  · refine e_iconst dX10_place_16 (v := ((-1) : Int32)) (by decide) ?_
    exact e_iret dX10_place_17 rfl rfl
  · refine e_iload_n dX10_place_7 rfl ?_
    refine e_iconst dX10_place_8 (v := 0) (by decide) ?_
    refine e_iconst dX10_place_9 (v := 3) (by decide) ?_
    refine q_callSP (As := [_, _, _]) rfl dX10_place_10 lm_N_86 (am_fitB rfl) yo_X10_isWithin ys_X10_isWithin rfl (Nat.le_of_ble_eq_true rfl) (Nat.le_of_ble_eq_true rfl) (s_X10_isWithin hL _ _ _  _) (fun q2 => ?_)
    refine e_if_ne dX10_place_13 (tgt := 18) (by decide) ?_ ?_
    · refine e_aload_n dX10_place_18 rfl ?_
      refine e_iconst dX10_place_19 (v := 1) (by decide) ?_
      refine e_aload_n dX10_place_20 rfl ?_
      refine e_iload_n dX10_place_21 rfl ?_
      refine e_iload_n dX10_place_22 rfl ?_
      refine q_callVP (As := [_, _]) rfl dX10_place_23 lm_N_181 (am_fitB rfl) yo_X10_placeTells ys_X10_placeTells rfl rfl (by decide) (am_Lk hL rfl) rfl (Nat.le_of_ble_eq_true rfl) (Nat.le_of_ble_eq_true rfl) (s_X10_placeTells hL _ _  _) (fun q3 => ?_)
      refine q_callVI (As := [_, _]) rfl dX10_place_26 lm_N_101 (am_fitB rfl) yo_X10_tell ys_X10_tell rfl rfl (by decide) (am_Lk hL rfl) rfl (Nat.le_of_ble_eq_true rfl) (Nat.le_of_ble_eq_true rfl) (s_X10_tell hL _ _  _) (fun q4 => ?_)
      exact e_iret dX10_place_29 rfl rfl
    · refine e_iconst dX10_place_16 (v := ((-1) : Int32)) (by decide) ?_
      exact e_iret dX10_place_17 rfl rfl

def f_X10_refusePlace (a1 : Nat) (a2 : Int32) (a3 : Int32) (u : am_U) : Option (Int32 × am_U) :=
  (f_X10_refuseRow a1 a2 u).bind (fun q1 =>
  if q1.1 = 0 then (
    am_ck (am_ix a2 (am_rln a1)) (
    (f_X8_has (am_rid a1 a2.toNatClampNeg) a3 q1.2).bind (fun q3 =>
    if q3 = 0 then (
      (f_X10_find 2 q1.2).bind (fun q4 =>
      some (q4.1, q4.2)))
    else (
      some (0, q1.2)))))
  else (
    some (q1.1, q1.2)))
set_option maxRecDepth 100000 in
set_option maxHeartbeats 4000000 in
theorem s_X10_refusePlace {l : Launch} {g : am_G} {B : am_M} {pl : Nat} (hL : am_Lay B pl) (a1 : Nat) (a2 : Int32) (a3 : Int32) (h1 : am_isRows B a1) (u : am_U) : am_E l g d_X10_refusePlace 0 (am_ent d_X10_refusePlace [.ref (4), .ref (a1), .int (a2), .int (a3)]) [] (am_of B u) (am_r (am_bI B) (f_X10_refusePlace a1 a2 a3 u)) := by
  unfold f_X10_refusePlace
  show am_E l g d_X10_refusePlace 0 [some (.ref (4)), some (.ref (a1)), some (.int (a2)), some (.int (a3)), none] [] (am_of B u) _
  refine e_aload_n dX10_refusePlace_0 rfl ?_
  refine e_aload_n dX10_refusePlace_1 rfl ?_
  refine e_iload_n dX10_refusePlace_2 rfl ?_
  refine q_callVI (As := [_, _]) rfl dX10_refusePlace_3 lm_N_105 (am_fitB rfl) yo_X10_refuseRow ys_X10_refuseRow rfl rfl (by decide) (am_Lk hL rfl) rfl (Nat.le_of_ble_eq_true rfl) (Nat.le_of_ble_eq_true rfl) (s_X10_refuseRow hL _ _ h1 _) (fun q1 => ?_)
  refine e_istore dX10_refusePlace_6 (by decide) (LS1 := [_, _, _, _, _]) rfl ?_
  refine e_iload dX10_refusePlace_8 rfl ?_
  refine e_if_eq dX10_refusePlace_10 (tgt := 16) (by decide) ?_ ?_
  · refine e_aload_n dX10_refusePlace_16 rfl ?_
    refine e_iload_n dX10_refusePlace_17 rfl ?_
    refine q_aald (n := am_rln a1) (rid := am_rid a1 a2.toNatClampNeg) dX10_refusePlace_18 h1.1 (fun h => (h1.2 _ h).1) (fun i2 => ?_)
    refine e_iload_n dX10_refusePlace_19 rfl ?_
    refine q_callVP (As := [_]) rfl dX10_refusePlace_20 lm_N_376 (am_fitB rfl) yo_X8_has ys_X8_has rfl rfl (by decide) (congrArg Prod.fst (h1.2 _ i2).2.1) rfl (Nat.le_of_ble_eq_true rfl) (Nat.le_of_ble_eq_true rfl) (s_X8_has hL _ _ (h1.2 _ i2).2 _) (fun q3 => ?_)
    refine e_if_eq dX10_refusePlace_23 (tgt := 30) (by decide) ?_ ?_
    · refine e_aload_n dX10_refusePlace_30 rfl ?_
      refine e_iconst dX10_refusePlace_31 (v := 2) (by decide) ?_
      refine q_callVI (As := [_]) rfl dX10_refusePlace_32 lm_N_113 (am_fitB rfl) yo_X10_find ys_X10_find rfl rfl (by decide) (am_Lk hL rfl) rfl (Nat.le_of_ble_eq_true rfl) (Nat.le_of_ble_eq_true rfl) (s_X10_find hL _  _) (fun q4 => ?_)
      exact e_iret dX10_refusePlace_35 rfl rfl
    · refine e_iconst dX10_refusePlace_26 (v := 0) (by decide) ?_
      refine e_goto dX10_refusePlace_27 (tgt := 35) (by decide) ?_
      exact e_iret dX10_refusePlace_35 rfl rfl
  · refine e_iload dX10_refusePlace_13 rfl ?_
    exact e_iret dX10_refusePlace_15 rfl rfl

def f_X10_refusePouring_25 (pl : Nat) (u : am_U) (v1 : Int32) (k68 : Int32 → Option (Int32)) : Nat → Int32 → Int32 → Option (Int32)
  | 0, _, _ => none
  | n + 1, v3, v4 =>
    if (u pl 2) ≤ v4 then (
      k68 v3)
    else (
      am_ck (am_ix v4 6) (
      am_ck (am_ix v1 6) (
      if ¬ (u 10 v4.toNatClampNeg) = (u 10 v1.toNatClampNeg) then (
        f_X10_refusePouring_25 pl u v1 k68 n v3 (v4 + 1))
      else (
        f_X10_refusePouring_25 pl u v1 k68 n (v3 + 1) (v4 + 1)))))
def f_X10_refusePouring (pl : Nat) (a1 : Int32) (a2 : Int32) (u : am_U) : Option (Int32) :=
  (f_X10_isJar pl a1 u).bind (fun q1 =>
  if q1 = 0 then (
    some ((-1) : Int32))
  else (
    (f_X10_isWithin a2 0 20).bind (fun q2 =>
    if ¬ q2 = 0 then (
      f_X10_refusePouring_25 pl u a1 (fun (c5v3 : Int32) =>
        if c5v3 ≤ 3 then (
          some 0)
        else (
          some ((-6) : Int32))) 20000 0 0)
    else (
      some ((-1) : Int32)))))
set_option maxRecDepth 100000 in
set_option maxHeartbeats 4000000 in
theorem s_X10_refusePouring_25 {l : Launch} {g : am_G} {B : am_M} {pl : Nat} (hL : am_Lay B pl) (u : am_U) (v1 : Int32)  (k68 : Int32 → Option (Int32)) (hk68 : ∀ (v3 : Int32), am_E l g d_X10_refusePouring 68 [none, none, none, some (.int (v3)), none] [] (am_of B u) (am_r (am_bP B u) (k68 v3))) : ∀ (n : Nat) (v3 : Int32) (v4 : Int32), am_E l g d_X10_refusePouring 25 [some (.ref (4)), some (.int (v1)), none, some (.int (v3)), some (.int (v4))] [] (am_of B u) (am_r (am_bP B u) (f_X10_refusePouring_25 pl u v1 k68 n v3 v4)) := by
  intro n
  induction n with
  | zero => intro v3 v4; exact am_none
  | succ n ih =>
    intro v3 v4
    unfold f_X10_refusePouring_25
    refine e_iload dX10_refusePouring_25 rfl ?_
    refine e_aload_n dX10_refusePouring_27 rfl ?_
    refine q_getR (r := pl) dX10_refusePouring_28 lf_N_72 rfl (by decide) (am_Lk hL rfl) (am_Lpl hL) ?_
    refine q_getI dX10_refusePouring_31 lf_N_144 (by decide) (congrArg Prod.fst (am_pln hL).1) ?_
    refine e_if2_ge dX10_refusePouring_34 (tgt := 68) (by decide) ?_ ?_
    · refine e_msk [false, false, false, true, false] (LS1 := [none, none, none, _, none]) rfl ?_
      exact hk68 v3
    · refine e_aload_n dX10_refusePouring_37 rfl ?_
      refine q_getR (r := 8) dX10_refusePouring_38 lf_N_28 rfl (by decide) (am_Lk hL rfl) (am_Lr hL rfl) ?_
      refine q_getR (r := 10) dX10_refusePouring_41 lf_N_187 rfl (by decide) (am_Lk hL rfl) (am_Lr hL rfl) ?_
      refine e_iload dX10_refusePouring_44 rfl ?_
      refine q_ialdH dX10_refusePouring_46 (am_Ls hL rfl) (fun i3 => ?_)
      refine e_aload_n dX10_refusePouring_47 rfl ?_
      refine q_getR (r := 8) dX10_refusePouring_48 lf_N_28 rfl (by decide) (am_Lk hL rfl) (am_Lr hL rfl) ?_
      refine q_getR (r := 10) dX10_refusePouring_51 lf_N_187 rfl (by decide) (am_Lk hL rfl) (am_Lr hL rfl) ?_
      refine e_iload_n dX10_refusePouring_54 rfl ?_
      refine q_ialdH dX10_refusePouring_55 (am_Ls hL rfl) (fun i4 => ?_)
      refine e_if2_ne dX10_refusePouring_56 (tgt := 62) (by decide) ?_ ?_
      · refine e_iinc dX10_refusePouring_62 rfl (v := _ + 1) rfl (by decide) (LS1 := [_, _, none, _, _]) rfl ?_
        refine e_goto dX10_refusePouring_65 (tgt := 25) (by decide) ?_
        exact ih v3 (v4 + 1)
      · refine e_iinc dX10_refusePouring_59 rfl (v := _ + 1) rfl (by decide) (LS1 := [_, _, none, _, _]) rfl ?_
        refine e_iinc dX10_refusePouring_62 rfl (v := _ + 1) rfl (by decide) (LS1 := [_, _, none, _, _]) rfl ?_
        refine e_goto dX10_refusePouring_65 (tgt := 25) (by decide) ?_
        exact ih (v3 + 1) (v4 + 1)

set_option maxRecDepth 100000 in
set_option maxHeartbeats 4000000 in
theorem s_X10_refusePouring {l : Launch} {g : am_G} {B : am_M} {pl : Nat} (hL : am_Lay B pl) (a1 : Int32) (a2 : Int32)  (u : am_U) : am_E l g d_X10_refusePouring 0 (am_ent d_X10_refusePouring [.ref (4), .int (a1), .int (a2)]) [] (am_of B u) (am_r (am_bP B u) (f_X10_refusePouring pl a1 a2 u)) := by
  unfold f_X10_refusePouring
  show am_E l g d_X10_refusePouring 0 [some (.ref (4)), some (.int (a1)), some (.int (a2)), none, none] [] (am_of B u) _
  refine e_aload_n dX10_refusePouring_0 rfl ?_
  refine e_iload_n dX10_refusePouring_1 rfl ?_
  refine q_callVP (As := [_]) rfl dX10_refusePouring_2 lm_N_147 (am_fitB rfl) yo_X10_isJar ys_X10_isJar rfl rfl (by decide) (am_Lk hL rfl) rfl (Nat.le_of_ble_eq_true rfl) (Nat.le_of_ble_eq_true rfl) (s_X10_isJar hL _  _) (fun q1 => ?_)
  refine e_if_eq dX10_refusePouring_5 (tgt := 18) (by decide) ?_ ?_
  · refine e_iconst dX10_refusePouring_18 (v := ((-1) : Int32)) (by decide) ?_
    exact e_iret dX10_refusePouring_19 rfl rfl
  · refine e_iload_n dX10_refusePouring_8 rfl ?_
    refine e_iconst dX10_refusePouring_9 (v := 0) (by decide) ?_
    refine e_bipush dX10_refusePouring_10 (v := 20) (by decide) ?_
    refine q_callSP (As := [_, _, _]) rfl dX10_refusePouring_12 lm_N_86 (am_fitB rfl) yo_X10_isWithin ys_X10_isWithin rfl (Nat.le_of_ble_eq_true rfl) (Nat.le_of_ble_eq_true rfl) (s_X10_isWithin hL _ _ _  _) (fun q2 => ?_)
    refine e_if_ne dX10_refusePouring_15 (tgt := 20) (by decide) ?_ ?_
    · refine e_iconst dX10_refusePouring_20 (v := 0) (by decide) ?_
      refine e_istore_n dX10_refusePouring_21 (by decide) (LS1 := [_, _, _, _, none]) rfl ?_
      refine e_iconst dX10_refusePouring_22 (v := 0) (by decide) ?_
      refine e_istore dX10_refusePouring_23 (by decide) (LS1 := [_, _, _, _, _]) rfl ?_
      refine e_msk [true, true, false, true, true] (LS1 := [_, _, none, _, _]) rfl ?_
      refine s_X10_refusePouring_25 hL _ _ _ (fun c5v3 => ?_) _ _ _
      · refine e_iload_n dX10_refusePouring_68 rfl ?_
        refine e_iconst dX10_refusePouring_69 (v := 3) (by decide) ?_
        refine e_if2_le dX10_refusePouring_70 (tgt := 78) (by decide) ?_ ?_
        · refine e_iconst dX10_refusePouring_78 (v := 0) (by decide) ?_
          exact e_iret dX10_refusePouring_79 rfl rfl
        · refine e_bipush dX10_refusePouring_73 (v := ((-6) : Int32)) (by decide) ?_
          refine e_goto dX10_refusePouring_75 (tgt := 79) (by decide) ?_
          exact e_iret dX10_refusePouring_79 rfl rfl
    · refine e_iconst dX10_refusePouring_18 (v := ((-1) : Int32)) (by decide) ?_
      exact e_iret dX10_refusePouring_19 rfl rfl

def f_X10_store_27 (u : am_U) (v1 : Int32) (v2 : Int32) (k46 : Int32 → Option (Int32 × am_U)) : Nat → Int32 → Int32 → Option (Int32 × am_U)
  | 0, _, _ => none
  | n + 1, v3, v4 =>
    if v2 ≤ v4 then (
      k46 v3)
    else (
      (f_X2_leastAheadOfNight v3).bind (fun q3 =>
      f_X10_store_27 u v1 v2 k46 n (v1 + q3) (v4 + 1)))
def f_X10_store_54 (u : am_U) (v1 : Int32) (v2 : Int32) (v3 : Int32) (k80 : Int32 → Option (Int32 × am_U)) : Nat → Int32 → Int32 → Option (Int32 × am_U)
  | 0, _, _ => none
  | n + 1, v4, v5 =>
    if v2 ≤ v5 then (
      k80 v4)
    else (
      (f_X2_leaked 0 v4 1).bind (fun q5 =>
      f_X10_store_54 u v1 v2 v3 k80 n ((v4 - q5) - v1) (v5 + 1)))
def f_X10_store (a1 : Int32) (a2 : Int32) (u : am_U) : Option (Int32 × am_U) :=
  (f_X10_isWithin a1 1 9).bind (fun q1 =>
  if q1 = 0 then (
    some (((-1) : Int32), u))
  else (
    (f_X10_isWithin a2 1 20).bind (fun q2 =>
    if ¬ q2 = 0 then (
      f_X10_store_27 u a1 a2 (fun (c4v3 : Int32) =>
        f_X10_store_54 u a1 a2 c4v3 (fun (c6v4 : Int32) =>
          (f_X10_tell c4v3 c6v4 u).bind (fun q7 =>
          some (q7.1, q7.2))) 20000 (c4v3 - a1) 1) 20000 a1 1)
    else (
      some (((-1) : Int32), u)))))
set_option maxRecDepth 100000 in
set_option maxHeartbeats 4000000 in
theorem s_X10_store_27 {l : Launch} {g : am_G} {B : am_M} {pl : Nat} (hL : am_Lay B pl) (u : am_U) (v1 : Int32) (v2 : Int32)  (k46 : Int32 → Option (Int32 × am_U)) (hk46 : ∀ (v3 : Int32), am_E l g d_X10_store 46 [some (.ref (4)), some (.int (v1)), some (.int (v2)), some (.int (v3)), none, none] [] (am_of B u) (am_r (am_bI B) (k46 v3))) : ∀ (n : Nat) (v3 : Int32) (v4 : Int32), am_E l g d_X10_store 27 [some (.ref (4)), some (.int (v1)), some (.int (v2)), some (.int (v3)), some (.int (v4)), none] [] (am_of B u) (am_r (am_bI B) (f_X10_store_27 u v1 v2 k46 n v3 v4)) := by
  intro n
  induction n with
  | zero => intro v3 v4; exact am_none
  | succ n ih =>
    intro v3 v4
    unfold f_X10_store_27
    refine e_iload dX10_store_27 rfl ?_
    refine e_iload_n dX10_store_29 rfl ?_
    refine e_if2_ge dX10_store_30 (tgt := 46) (by decide) ?_ ?_
    · refine e_msk [true, true, true, true, false, false] (LS1 := [_, _, _, _, none, none]) rfl ?_
      exact hk46 v3
    · refine e_iload_n dX10_store_33 rfl ?_
      refine e_iload_n dX10_store_34 rfl ?_
      refine q_callSP (As := [_]) rfl dX10_store_35 lm_N_265 (am_fitB rfl) yo_X2_leastAheadOfNight ys_X2_leastAheadOfNight rfl (Nat.le_of_ble_eq_true rfl) (Nat.le_of_ble_eq_true rfl) (s_X2_leastAheadOfNight hL _  _) (fun q3 => ?_)
      refine e_iadd dX10_store_38 ?_
      refine e_istore_n dX10_store_39 (by decide) (LS1 := [_, _, _, _, _, none]) rfl ?_
      refine e_iinc dX10_store_40 rfl (v := _ + 1) rfl (by decide) (LS1 := [_, _, _, _, _, none]) rfl ?_
      refine e_goto dX10_store_43 (tgt := 27) (by decide) ?_
      exact ih (v1 + q3) (v4 + 1)

set_option maxRecDepth 100000 in
set_option maxHeartbeats 4000000 in
theorem s_X10_store_54 {l : Launch} {g : am_G} {B : am_M} {pl : Nat} (hL : am_Lay B pl) (u : am_U) (v1 : Int32) (v2 : Int32) (v3 : Int32)  (k80 : Int32 → Option (Int32 × am_U)) (hk80 : ∀ (v4 : Int32), am_E l g d_X10_store 80 [some (.ref (4)), none, none, some (.int (v3)), some (.int (v4)), none] [] (am_of B u) (am_r (am_bI B) (k80 v4))) : ∀ (n : Nat) (v4 : Int32) (v5 : Int32), am_E l g d_X10_store 54 [some (.ref (4)), some (.int (v1)), some (.int (v2)), some (.int (v3)), some (.int (v4)), some (.int (v5))] [] (am_of B u) (am_r (am_bI B) (f_X10_store_54 u v1 v2 v3 k80 n v4 v5)) := by
  intro n
  induction n with
  | zero => intro v4 v5; exact am_none
  | succ n ih =>
    intro v4 v5
    unfold f_X10_store_54
    refine e_iload dX10_store_54 rfl ?_
    refine e_iload_n dX10_store_56 rfl ?_
    refine e_if2_ge dX10_store_57 (tgt := 80) (by decide) ?_ ?_
    · refine e_msk [true, false, false, true, true, false] (LS1 := [_, none, none, _, _, none]) rfl ?_
      exact hk80 v4
    · refine e_iload dX10_store_60 rfl ?_
      refine e_iconst dX10_store_62 (v := 0) (by decide) ?_
      refine e_iload dX10_store_63 rfl ?_
      refine e_iconst dX10_store_65 (v := 1) (by decide) ?_
      refine q_callSP (As := [_, _, _]) rfl dX10_store_66 lm_N_165 (am_fitB rfl) yo_X2_leaked ys_X2_leaked rfl (Nat.le_of_ble_eq_true rfl) (Nat.le_of_ble_eq_true rfl) (s_X2_leaked hL _ _ _  _) (fun q5 => ?_)
      refine e_isub dX10_store_69 ?_
      refine e_iload_n dX10_store_70 rfl ?_
      refine e_isub dX10_store_71 ?_
      refine e_istore dX10_store_72 (by decide) (LS1 := [_, _, _, _, _, _]) rfl ?_
      refine e_iinc dX10_store_74 rfl (v := _ + 1) rfl (by decide) (LS1 := [_, _, _, _, _, _]) rfl ?_
      refine e_goto dX10_store_77 (tgt := 54) (by decide) ?_
      exact ih ((v4 - q5) - v1) (v5 + 1)

set_option maxRecDepth 100000 in
set_option maxHeartbeats 4000000 in
theorem s_X10_store {l : Launch} {g : am_G} {B : am_M} {pl : Nat} (hL : am_Lay B pl) (a1 : Int32) (a2 : Int32)  (u : am_U) : am_E l g d_X10_store 0 (am_ent d_X10_store [.ref (4), .int (a1), .int (a2)]) [] (am_of B u) (am_r (am_bI B) (f_X10_store a1 a2 u)) := by
  unfold f_X10_store
  show am_E l g d_X10_store 0 [some (.ref (4)), some (.int (a1)), some (.int (a2)), none, none, none] [] (am_of B u) _
  refine e_iload_n dX10_store_0 rfl ?_
  refine e_iconst dX10_store_1 (v := 1) (by decide) ?_
  refine e_bipush dX10_store_2 (v := 9) (by decide) ?_
  refine q_callSP (As := [_, _, _]) rfl dX10_store_4 lm_N_86 (am_fitB rfl) yo_X10_isWithin ys_X10_isWithin rfl (Nat.le_of_ble_eq_true rfl) (Nat.le_of_ble_eq_true rfl) (s_X10_isWithin hL _ _ _  _) (fun q1 => ?_)
  refine e_if_eq dX10_store_7 (tgt := 20) (by decide) ?_ ?_
  · refine e_iconst dX10_store_20 (v := ((-1) : Int32)) (by decide) ?_
    exact e_iret dX10_store_21 rfl rfl
  · refine e_iload_n dX10_store_10 rfl ?_
    refine e_iconst dX10_store_11 (v := 1) (by decide) ?_
    refine e_bipush dX10_store_12 (v := 20) (by decide) ?_
    refine q_callSP (As := [_, _, _]) rfl dX10_store_14 lm_N_86 (am_fitB rfl) yo_X10_isWithin ys_X10_isWithin rfl (Nat.le_of_ble_eq_true rfl) (Nat.le_of_ble_eq_true rfl) (s_X10_isWithin hL _ _ _  _) (fun q2 => ?_)
    refine e_if_ne dX10_store_17 (tgt := 22) (by decide) ?_ ?_
    · refine e_iload_n dX10_store_22 rfl ?_
      refine e_istore_n dX10_store_23 (by decide) (LS1 := [_, _, _, _, none, none]) rfl ?_
      refine e_iconst dX10_store_24 (v := 1) (by decide) ?_
      refine e_istore dX10_store_25 (by decide) (LS1 := [_, _, _, _, _, none]) rfl ?_
      refine s_X10_store_27 hL _ _ _ _ (fun c4v3 => ?_) _ _ _
      · refine e_iload_n dX10_store_46 rfl ?_
        refine e_iload_n dX10_store_47 rfl ?_
        refine e_isub dX10_store_48 ?_
        refine e_istore dX10_store_49 (by decide) (LS1 := [_, _, _, _, _, none]) rfl ?_
        refine e_iconst dX10_store_51 (v := 1) (by decide) ?_
        refine e_istore dX10_store_52 (by decide) (LS1 := [_, _, _, _, _, _]) rfl ?_
        refine s_X10_store_54 hL _ _ _ _ _ (fun c6v4 => ?_) _ _ _
        · refine e_aload_n dX10_store_80 rfl ?_
          refine e_iload_n dX10_store_81 rfl ?_
          refine e_iload dX10_store_82 rfl ?_
          refine q_callVI (As := [_, _]) rfl dX10_store_84 lm_N_101 (am_fitB rfl) yo_X10_tell ys_X10_tell rfl rfl (by decide) (am_Lk hL rfl) rfl (Nat.le_of_ble_eq_true rfl) (Nat.le_of_ble_eq_true rfl) (s_X10_tell hL _ _  _) (fun q7 => ?_)
          exact e_iret dX10_store_87 rfl rfl
    · refine e_iconst dX10_store_20 (v := ((-1) : Int32)) (by decide) ?_
      exact e_iret dX10_store_21 rfl rfl

def f_X10_tear (a1 : Int32) (u : am_U) : Option (Int32 × am_U) :=
  (f_X10_refuseRow 5 a1 u).bind (fun q1 =>
  if q1.1 = 0 then (
    am_ck (am_ix a1 6) (
    let u3 : am_U := am_w q1.2 (2 * a1.toNatClampNeg + 40) 1 ((-1) : Int32)
    some (1, u3)))
  else (
    some (q1.1, q1.2)))
set_option maxRecDepth 100000 in
set_option maxHeartbeats 4000000 in
theorem s_X10_tear {l : Launch} {g : am_G} {B : am_M} {pl : Nat} (hL : am_Lay B pl) (a1 : Int32)  (u : am_U) : am_E l g d_X10_tear 0 (am_ent d_X10_tear [.ref (4), .int (a1)]) [] (am_of B u) (am_r (am_bI B) (f_X10_tear a1 u)) := by
  unfold f_X10_tear
  show am_E l g d_X10_tear 0 [some (.ref (4)), some (.int (a1)), none] [] (am_of B u) _
  refine e_aload_n dX10_tear_0 rfl ?_
  refine e_aload_n dX10_tear_1 rfl ?_
  refine q_getR (r := 5) dX10_tear_2 lf_N_11 rfl (by decide) (am_Lk hL rfl) (am_Lr hL rfl) ?_
  refine e_iload_n dX10_tear_5 rfl ?_
  refine q_callVI (As := [_, _]) rfl dX10_tear_6 lm_N_105 (am_fitB rfl) yo_X10_refuseRow ys_X10_refuseRow rfl rfl (by decide) (am_Lk hL rfl) rfl (Nat.le_of_ble_eq_true rfl) (Nat.le_of_ble_eq_true rfl) (s_X10_refuseRow hL _ _ (am_rows5 hL) _) (fun q1 => ?_)
  refine e_istore_n dX10_tear_9 (by decide) (LS1 := [_, _, _]) rfl ?_
  refine e_iload_n dX10_tear_10 rfl ?_
  refine e_if_eq dX10_tear_11 (tgt := 16) (by decide) ?_ ?_
  · refine e_aload_n dX10_tear_16 rfl ?_
    refine q_getR (r := 5) dX10_tear_17 lf_N_11 rfl (by decide) (am_Lk hL rfl) (am_Lr hL rfl) ?_
    refine e_iload_n dX10_tear_20 rfl ?_
    refine q_aald (n := 6) (rid := 2 * a1.toNatClampNeg + 40) dX10_tear_21 (am_rows5 hL).1 (fun h => ((am_rows5 hL).2 _ h).1) (fun i2 => ?_)
    refine e_iconst dX10_tear_22 (v := ((-1) : Int32)) (by decide) ?_
    refine q_putI dX10_tear_23 lf_N_109 rfl (by decide) (congrArg Prod.fst ((am_rows5 hL).2 _ i2).2.1) ?_
    refine e_iconst dX10_tear_26 (v := 1) (by decide) ?_
    exact e_iret dX10_tear_27 rfl rfl
  · refine e_iload_n dX10_tear_14 rfl ?_
    exact e_iret dX10_tear_15 rfl rfl

def f_X10_theft_72 (u : am_U) (v2 : Int32) (v4 : Nat) (k119 : Int32 → Int32 → Option (Int32 × am_U)) : Nat → Int32 → Option (Int32 × am_U)
  | 0, _ => none
  | n + 1, v5 =>
    if (u v4 1) ≤ v5 then (
      some (((-9) : Int32), u))
    else (
      am_ck (am_ix (v5 - 1) 60) (
      let x6 : Int32 := u (v4 + 1) (v5 - 1).toNatClampNeg
      (f_X2_leaked v2 x6 0).bind (fun q7 =>
      am_ck (am_ix v5 60) (
      if (x6 - q7) ≤ (u (v4 + 1) v5.toNatClampNeg) then (
        f_X10_theft_72 u v2 v4 k119 n (v5 + 1))
      else (
        k119 v5 (x6 - q7))))))
def f_X10_theft (a1 : Int32) (a2 : Int32) (u : am_U) : Option (Int32 × am_U) :=
  (f_X10_isWithin a2 0 5).bind (fun q1 =>
  am_jn (fun (j2s0 : Int32) (j2u : am_U) =>
    if j2s0 = 0 then (
      am_ck (am_ix a1 6) (
      if 2 ≤ (j2u (2 * a1.toNatClampNeg + 40) 1) then (
        (f_X8_isAllWithin (2 * a1.toNatClampNeg + 40) 0 20 j2u).bind (fun q4 =>
        if ¬ q4 = 0 then (
          f_X10_theft_72 j2u a2 (2 * a1.toNatClampNeg + 40) (fun (c9v5 : Int32) (c9v7 : Int32) =>
            am_ck (am_ix c9v5 60) (
            (f_X10_tell c9v5 (c9v7 - (j2u ((2 * a1.toNatClampNeg + 40) + 1) c9v5.toNatClampNeg)) j2u).bind (fun q11 =>
            some (q11.1, q11.2)))) 20000 1)
        else (
          (f_X10_find 3 j2u).bind (fun q12 =>
          some (q12.1, q12.2)))))
      else (
        (f_X10_find 5 j2u).bind (fun q13 =>
        some (q13.1, q13.2)))))
    else (
      some (j2s0, j2u))) (fun j2 =>
  if q1 = 0 then (
    j2 ((-1) : Int32) u)
  else (
    (f_X10_refuseRow 5 a1 u).bind (fun q14 =>
    j2 q14.1 q14.2))))
set_option maxRecDepth 100000 in
set_option maxHeartbeats 4000000 in
theorem s_X10_theft_72 {l : Launch} {g : am_G} {B : am_M} {pl : Nat} (hL : am_Lay B pl) (u : am_U) (v2 : Int32) (v4 : Nat) (hv4 : am_isRow B v4) (k119 : Int32 → Int32 → Option (Int32 × am_U)) (hk119 : ∀ (v5 : Int32) (v7 : Int32), am_E l g d_X10_theft 119 [some (.ref (4)), none, none, none, some (.ref (v4)), some (.int (v5)), none, some (.int (v7))] [] (am_of B u) (am_r (am_bI B) (k119 v5 v7))) : ∀ (n : Nat) (v5 : Int32), am_E l g d_X10_theft 72 [some (.ref (4)), none, some (.int (v2)), none, some (.ref (v4)), some (.int (v5)), none, none] [] (am_of B u) (am_r (am_bI B) (f_X10_theft_72 u v2 v4 k119 n v5)) := by
  intro n
  induction n with
  | zero => intro v5; exact am_none
  | succ n ih =>
    intro v5
    unfold f_X10_theft_72
    refine e_iload dX10_theft_72 rfl ?_
    refine e_aload dX10_theft_74 rfl ?_
    refine q_getI dX10_theft_76 lf_N_109 (by decide) (congrArg Prod.fst hv4.1) ?_
    refine e_if2_ge dX10_theft_79 (tgt := 143) (by decide) ?_ ?_
    · refine e_bipush dX10_theft_143 (v := ((-9) : Int32)) (by decide) ?_
      exact e_iret dX10_theft_145 rfl rfl
    · refine e_aload dX10_theft_82 rfl ?_
      refine q_getR (r := v4 + 1) dX10_theft_84 lf_N_98 rfl (by decide) (congrArg Prod.fst hv4.1) (am_avs hv4.2.1) ?_
      refine e_iload dX10_theft_87 rfl ?_
      refine e_iconst dX10_theft_89 (v := 1) (by decide) ?_
      refine e_isub dX10_theft_90 ?_
      refine q_ialdH dX10_theft_91 hv4.2.2 (fun i5 => ?_)
      refine e_istore dX10_theft_92 (by decide) (LS1 := [_, none, _, none, _, _, _, none]) rfl ?_
      refine e_iload dX10_theft_94 rfl ?_
      refine e_iload_n dX10_theft_96 rfl ?_
      refine e_iload dX10_theft_97 rfl ?_
      refine e_iconst dX10_theft_99 (v := 0) (by decide) ?_
      refine q_callSP (As := [_, _, _]) rfl dX10_theft_100 lm_N_165 (am_fitB rfl) yo_X2_leaked ys_X2_leaked rfl (Nat.le_of_ble_eq_true rfl) (Nat.le_of_ble_eq_true rfl) (s_X2_leaked hL _ _ _  _) (fun q7 => ?_)
      refine e_isub dX10_theft_103 ?_
      refine e_istore dX10_theft_104 (by decide) (LS1 := [_, none, _, none, _, _, _, _]) rfl ?_
      refine e_aload dX10_theft_106 rfl ?_
      refine q_getR (r := v4 + 1) dX10_theft_108 lf_N_98 rfl (by decide) (congrArg Prod.fst hv4.1) (am_avs hv4.2.1) ?_
      refine e_iload dX10_theft_111 rfl ?_
      refine q_ialdH dX10_theft_113 hv4.2.2 (fun i8 => ?_)
      refine e_iload dX10_theft_114 rfl ?_
      refine e_if2_ge dX10_theft_116 (tgt := 137) (by decide) ?_ ?_
      · refine e_iinc dX10_theft_137 rfl (v := _ + 1) rfl (by decide) (LS1 := [_, none, _, none, _, _, _, _]) rfl ?_
        refine e_goto dX10_theft_140 (tgt := 72) (by decide) ?_
        refine e_msk [true, false, true, false, true, true, false, false] (LS1 := [_, none, _, none, _, _, none, none]) rfl ?_
        exact ih (v5 + 1)
      · refine e_msk [true, false, false, false, true, true, false, true] (LS1 := [_, none, none, none, _, _, none, _]) rfl ?_
        exact hk119 v5 ((u (v4 + 1) (v5 - 1).toNatClampNeg) - q7)

set_option maxRecDepth 100000 in
set_option maxHeartbeats 4000000 in
theorem s_X10_theft {l : Launch} {g : am_G} {B : am_M} {pl : Nat} (hL : am_Lay B pl) (a1 : Int32) (a2 : Int32)  (u : am_U) : am_E l g d_X10_theft 0 (am_ent d_X10_theft [.ref (4), .int (a1), .int (a2)]) [] (am_of B u) (am_r (am_bI B) (f_X10_theft a1 a2 u)) := by
  unfold f_X10_theft
  show am_E l g d_X10_theft 0 [some (.ref (4)), some (.int (a1)), some (.int (a2)), none, none, none, none, none] [] (am_of B u) _
  refine e_iload_n dX10_theft_0 rfl ?_
  refine e_iconst dX10_theft_1 (v := 0) (by decide) ?_
  refine e_iconst dX10_theft_2 (v := 5) (by decide) ?_
  refine q_callSP (As := [_, _, _]) rfl dX10_theft_3 lm_N_86 (am_fitB rfl) yo_X10_isWithin ys_X10_isWithin rfl (Nat.le_of_ble_eq_true rfl) (Nat.le_of_ble_eq_true rfl) (s_X10_isWithin hL _ _ _  _) (fun q1 => ?_)
  refine e_jn (P := fun t : Int32 → am_U → Option (Int32 × am_U) => ∀ (j2s0 : Int32) (j2u : am_U), am_E l g d_X10_theft 22 [some (.ref (4)), some (.int (a1)), some (.int (a2)), none, none, none, none, none] [.int (j2s0)] (am_of B j2u) (am_r (am_bI B) (t j2s0 j2u))) ?_ (fun j2 hj2 => ?_)
  · intro j2s0 j2u
    refine e_istore_n dX10_theft_22 (by decide) (LS1 := [_, _, _, _, none, none, none, none]) rfl ?_
    refine e_iload_n dX10_theft_23 rfl ?_
    refine e_if_eq dX10_theft_24 (tgt := 29) (by decide) ?_ ?_
    · refine e_aload_n dX10_theft_29 rfl ?_
      refine q_getR (r := 5) dX10_theft_30 lf_N_11 rfl (by decide) (am_Lk hL rfl) (am_Lr hL rfl) ?_
      refine e_iload_n dX10_theft_33 rfl ?_
      refine q_aald (n := 6) (rid := 2 * a1.toNatClampNeg + 40) dX10_theft_34 (am_rows5 hL).1 (fun h => ((am_rows5 hL).2 _ h).1) (fun i3 => ?_)
      refine e_astore dX10_theft_35 (by decide) (LS1 := [_, _, _, _, _, none, none, none]) rfl ?_
      refine e_aload dX10_theft_37 rfl ?_
      refine q_getI dX10_theft_39 lf_N_109 (by decide) (congrArg Prod.fst ((am_rows5 hL).2 _ i3).2.1) ?_
      refine e_iconst dX10_theft_42 (v := 2) (by decide) ?_
      refine e_if2_ge dX10_theft_43 (tgt := 52) (by decide) ?_ ?_
      · refine e_aload dX10_theft_52 rfl ?_
        refine e_iconst dX10_theft_54 (v := 0) (by decide) ?_
        refine e_bipush dX10_theft_55 (v := 20) (by decide) ?_
        refine q_callVP (As := [_, _]) rfl dX10_theft_57 lm_N_320 (am_fitB rfl) yo_X8_isAllWithin ys_X8_isAllWithin rfl rfl (by decide) (congrArg Prod.fst ((am_rows5 hL).2 _ i3).2.1) rfl (Nat.le_of_ble_eq_true rfl) (Nat.le_of_ble_eq_true rfl) (s_X8_isAllWithin hL _ _ _ ((am_rows5 hL).2 _ i3).2 _) (fun q4 => ?_)
        refine e_if_ne dX10_theft_60 (tgt := 69) (by decide) ?_ ?_
        · refine e_iconst dX10_theft_69 (v := 1) (by decide) ?_
          refine e_istore dX10_theft_70 (by decide) (LS1 := [_, _, _, _, _, _, none, none]) rfl ?_
          refine e_msk [true, false, true, false, true, true, false, false] (LS1 := [_, none, _, none, _, _, none, none]) rfl ?_
          refine s_X10_theft_72 hL _ _ _ ((am_rows5 hL).2 _ i3).2 _ (fun c9v5 c9v7 => ?_) _ _
          · refine e_aload_n dX10_theft_119 rfl ?_
            refine e_iload dX10_theft_120 rfl ?_
            refine e_iload dX10_theft_122 rfl ?_
            refine e_aload dX10_theft_124 rfl ?_
            refine q_getR (r := (2 * a1.toNatClampNeg + 40) + 1) dX10_theft_126 lf_N_98 rfl (by decide) (congrArg Prod.fst ((am_rows5 hL).2 _ i3).2.1) (am_avs ((am_rows5 hL).2 _ i3).2.2.1) ?_
            refine e_iload dX10_theft_129 rfl ?_
            refine q_ialdH dX10_theft_131 ((am_rows5 hL).2 _ i3).2.2.2 (fun i10 => ?_)
            refine e_isub dX10_theft_132 ?_
            refine q_callVI (As := [_, _]) rfl dX10_theft_133 lm_N_101 (am_fitB rfl) yo_X10_tell ys_X10_tell rfl rfl (by decide) (am_Lk hL rfl) rfl (Nat.le_of_ble_eq_true rfl) (Nat.le_of_ble_eq_true rfl) (s_X10_tell hL _ _  _) (fun q11 => ?_)
            exact e_iret dX10_theft_136 rfl rfl
        · refine e_aload_n dX10_theft_63 rfl ?_
          refine e_iconst dX10_theft_64 (v := 3) (by decide) ?_
          refine q_callVI (As := [_]) rfl dX10_theft_65 lm_N_113 (am_fitB rfl) yo_X10_find ys_X10_find rfl rfl (by decide) (am_Lk hL rfl) rfl (Nat.le_of_ble_eq_true rfl) (Nat.le_of_ble_eq_true rfl) (s_X10_find hL _  _) (fun q12 => ?_)
          exact e_iret dX10_theft_68 rfl rfl
      · refine e_aload_n dX10_theft_46 rfl ?_
        refine e_iconst dX10_theft_47 (v := 5) (by decide) ?_
        refine q_callVI (As := [_]) rfl dX10_theft_48 lm_N_113 (am_fitB rfl) yo_X10_find ys_X10_find rfl rfl (by decide) (am_Lk hL rfl) rfl (Nat.le_of_ble_eq_true rfl) (Nat.le_of_ble_eq_true rfl) (s_X10_find hL _  _) (fun q13 => ?_)
        exact e_iret dX10_theft_51 rfl rfl
    · refine e_iload_n dX10_theft_27 rfl ?_
      exact e_iret dX10_theft_28 rfl rfl
  · refine e_if_eq dX10_theft_6 (tgt := 21) (by decide) ?_ ?_
    · refine e_iconst dX10_theft_21 (v := ((-1) : Int32)) (by decide) ?_
      refine e_msk [true, true, true, false, false, false, false, false] (LS1 := [_, _, _, none, none, none, none, none]) rfl ?_
      exact hj2 ((-1) : Int32) u
    · refine e_aload_n dX10_theft_9 rfl ?_
      refine e_aload_n dX10_theft_10 rfl ?_
      refine q_getR (r := 5) dX10_theft_11 lf_N_11 rfl (by decide) (am_Lk hL rfl) (am_Lr hL rfl) ?_
      refine e_iload_n dX10_theft_14 rfl ?_
      refine q_callVI (As := [_, _]) rfl dX10_theft_15 lm_N_105 (am_fitB rfl) yo_X10_refuseRow ys_X10_refuseRow rfl rfl (by decide) (am_Lk hL rfl) rfl (Nat.le_of_ble_eq_true rfl) (Nat.le_of_ble_eq_true rfl) (s_X10_refuseRow hL _ _ (am_rows5 hL) _) (fun q14 => ?_)
      refine e_goto dX10_theft_18 (tgt := 22) (by decide) ?_
      refine e_msk [true, true, true, false, false, false, false, false] (LS1 := [_, _, _, none, none, none, none, none]) rfl ?_
      exact hj2 q14.1 q14.2

def f_X11_at (a1 : Int32) (a2 : Int32) (u : am_U) : Option (Int32 × am_U) :=
  (f_X11_isRow a1).bind (fun q1 =>
  if ¬ q1 = 0 then (
    am_ck (am_ix a1 6) (
    if 0 ≤ (u 62 a1.toNatClampNeg) then (
      (f_X11_in a2 0 ((u 62 a1.toNatClampNeg) - 1)).bind (fun q3 =>
      if q3 = 0 then (
        (f_X11_meets 2 u).bind (fun q4 =>
        some (q4.1, q4.2)))
      else (
        (f_X11_rowAt a1 a2 u).bind (fun q5 =>
        (f_X11_tells q5 1 u).bind (fun q6 =>
        some (q6.1, q6.2))))))
    else (
      (f_X11_meets 1 u).bind (fun q7 =>
      some (q7.1, q7.2)))))
  else (
    some (((-1) : Int32), u)))
set_option maxRecDepth 100000 in
set_option maxHeartbeats 4000000 in
theorem s_X11_at {l : Launch} {g : am_G} {B : am_M} {pl : Nat} (hL : am_Lay B pl) (a1 : Int32) (a2 : Int32)  (u : am_U) : am_E l g d_X11_at 0 (am_ent d_X11_at [.ref (60), .int (a1), .int (a2)]) [] (am_of B u) (am_r (am_bI B) (f_X11_at a1 a2 u)) := by
  unfold f_X11_at
  show am_E l g d_X11_at 0 [some (.ref (60)), some (.int (a1)), some (.int (a2))] [] (am_of B u) _
  refine e_iload_n dX11_at_0 rfl ?_
  refine q_callSP (As := [_]) rfl dX11_at_1 lm_M_113 (am_fitB rfl) yo_X11_isRow ys_X11_isRow rfl (Nat.le_of_ble_eq_true rfl) (Nat.le_of_ble_eq_true rfl) (s_X11_isRow hL _  _) (fun q1 => ?_)
  refine e_if_ne dX11_at_4 (tgt := 9) (by decide) ?_ ?_
  · refine e_aload_n dX11_at_9 rfl ?_
    refine q_getR (r := 62) dX11_at_10 lf_M_13 rfl (by decide) (am_Lk hL rfl) (am_Lr hL rfl) ?_
    refine e_iload_n dX11_at_13 rfl ?_
    refine q_ialdH dX11_at_14 (am_Ls hL rfl) (fun i2 => ?_)
    refine e_if_ge dX11_at_15 (tgt := 24) (by decide) ?_ ?_
    · refine e_iload_n dX11_at_24 rfl ?_
      refine e_iconst dX11_at_25 (v := 0) (by decide) ?_
      refine e_aload_n dX11_at_26 rfl ?_
      refine q_getR (r := 62) dX11_at_27 lf_M_13 rfl (by decide) (am_Lk hL rfl) (am_Lr hL rfl) ?_
      refine e_iload_n dX11_at_30 rfl ?_
      refine q_ialdC (jn := _) dX11_at_31 (am_Ls hL rfl) i2 rfl ?_
      refine e_iconst dX11_at_32 (v := 1) (by decide) ?_
      refine e_isub dX11_at_33 ?_
      refine q_callSP (As := [_, _, _]) rfl dX11_at_34 lm_M_106 (am_fitB rfl) yo_X11_in ys_X11_in rfl (Nat.le_of_ble_eq_true rfl) (Nat.le_of_ble_eq_true rfl) (s_X11_in hL _ _ _  _) (fun q3 => ?_)
      refine e_if_eq dX11_at_37 (tgt := 54) (by decide) ?_ ?_
      · refine e_aload_n dX11_at_54 rfl ?_
        refine e_iconst dX11_at_55 (v := 2) (by decide) ?_
        refine q_callVI (As := [_]) rfl dX11_at_56 lm_M_117 (am_fitB rfl) yo_X11_meets ys_X11_meets rfl rfl (by decide) (am_Lk hL rfl) rfl (Nat.le_of_ble_eq_true rfl) (Nat.le_of_ble_eq_true rfl) (s_X11_meets hL _  _) (fun q4 => ?_)
        exact e_iret dX11_at_59 rfl rfl
      · refine e_aload_n dX11_at_40 rfl ?_
        refine e_aload_n dX11_at_41 rfl ?_
        refine e_iload_n dX11_at_42 rfl ?_
        refine e_iload_n dX11_at_43 rfl ?_
        refine q_callVP (As := [_, _]) rfl dX11_at_44 lm_M_121 (am_fitB rfl) yo_X11_rowAt ys_X11_rowAt rfl rfl (by decide) (am_Lk hL rfl) rfl (Nat.le_of_ble_eq_true rfl) (Nat.le_of_ble_eq_true rfl) (s_X11_rowAt hL _ _  _) (fun q5 => ?_)
        refine e_iconst dX11_at_47 (v := 1) (by decide) ?_
        refine q_callVI (As := [_, _]) rfl dX11_at_48 lm_M_125 (am_fitB rfl) yo_X11_tells ys_X11_tells rfl rfl (by decide) (am_Lk hL rfl) rfl (Nat.le_of_ble_eq_true rfl) (Nat.le_of_ble_eq_true rfl) (s_X11_tells hL _ _  _) (fun q6 => ?_)
        refine e_goto dX11_at_51 (tgt := 59) (by decide) ?_
        exact e_iret dX11_at_59 rfl rfl
    · refine e_aload_n dX11_at_18 rfl ?_
      refine e_iconst dX11_at_19 (v := 1) (by decide) ?_
      refine q_callVI (As := [_]) rfl dX11_at_20 lm_M_117 (am_fitB rfl) yo_X11_meets ys_X11_meets rfl rfl (by decide) (am_Lk hL rfl) rfl (Nat.le_of_ble_eq_true rfl) (Nat.le_of_ble_eq_true rfl) (s_X11_meets hL _  _) (fun q7 => ?_)
      exact e_iret dX11_at_23 rfl rfl
  · refine e_iconst dX11_at_7 (v := ((-1) : Int32)) (by decide) ?_
    exact e_iret dX11_at_8 rfl rfl

