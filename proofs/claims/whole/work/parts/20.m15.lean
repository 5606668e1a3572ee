def f_X10_lots_46 (pl : Nat) (v1 : Int32) : Nat → Int32 → Int64 → Int32 → am_U → Option (Int32 × am_U)
  | 0, _, _, _, _ => none
  | n + 1, v3, v4, v6, u =>
    if v1 ≤ v6 then (
      some (v3, u))
    else (
      am_ck (!((u pl 2).toInt64 == 0)) (
      (f_X10_doLot pl ((((v4 * (48271 : Int64)) - (v4 * (48271 : Int64)) / (2147483647 : Int64) * (2147483647 : Int64)) - ((v4 * (48271 : Int64)) - (v4 * (48271 : Int64)) / (2147483647 : Int64) * (2147483647 : Int64)) / ((u pl 2).toInt64) * ((u pl 2).toInt64)).toInt32) (((((v4 * (48271 : Int64)) - (v4 * (48271 : Int64)) / (2147483647 : Int64) * (2147483647 : Int64)) / (64 : Int64)) - (((v4 * (48271 : Int64)) - (v4 * (48271 : Int64)) / (2147483647 : Int64) * (2147483647 : Int64)) / (64 : Int64)) / (5 : Int64) * (5 : Int64)).toInt32) u).bind (fun q3 =>
      if q3.1 < 0 then (
        f_X10_lots_46 pl v1 n v3 ((v4 * (48271 : Int64)) - (v4 * (48271 : Int64)) / (2147483647 : Int64) * (2147483647 : Int64)) (v6 + 1) q3.2)
      else (
        f_X10_lots_46 pl v1 n (v3 + 1) ((v4 * (48271 : Int64)) - (v4 * (48271 : Int64)) / (2147483647 : Int64) * (2147483647 : Int64)) (v6 + 1) q3.2))))
def f_X10_lots (pl : Nat) (a1 : Int32) (a2 : Int32) (u : am_U) : Option (Int32 × am_U) :=
  (f_X10_isWithin a1 1 40).bind (fun q1 =>
  if q1 = 0 then (
    some (((-1) : Int32), u))
  else (
    (f_X10_isWithin a2 1 2147483646).bind (fun q2 =>
    if ¬ q2 = 0 then (
      if 2 ≤ (u pl 2) then (
        f_X10_lots_46 pl a1 20000 0 a2.toInt64 0 u)
      else (
        some (((-4) : Int32), u)))
    else (
      some (((-1) : Int32), u)))))
set_option maxRecDepth 100000 in
set_option maxHeartbeats 4000000 in
theorem s_X10_lots_46 {l : Launch} {g : am_G} {B : am_M} {pl : Nat} (hL : am_Lay B pl) (v1 : Int32)    : ∀ (n : Nat) (v3 : Int32) (v4 : Int64) (v6 : Int32) (u : am_U), am_E l g d_X10_lots 46 [some (.ref (4)), some (.int (v1)), none, some (.int (v3)), some (.long (v4)), none, some (.int (v6))] [] (am_of B u) (am_r (am_bI B) (f_X10_lots_46 pl v1 n v3 v4 v6 u)) := by
  intro n
  induction n with
  | zero => intro v3 v4 v6 u; exact am_none
  | succ n ih =>
    intro v3 v4 v6 u
    unfold f_X10_lots_46
    refine e_iload dX10_lots_46 rfl ?_
    refine e_iload_n dX10_lots_48 rfl ?_
    refine e_if2_ge dX10_lots_49 (tgt := 103) (by decide) ?_ ?_
    · refine e_iload_n dX10_lots_103 rfl ?_
      exact e_iret dX10_lots_104 rfl rfl
    · refine e_lload dX10_lots_52 rfl ?_
      refine e_ldc2 dX10_lots_54 ll_N_328 ?_
      refine e_lmul dX10_lots_57 ?_
      refine e_ldc2 dX10_lots_58 ll_N_330 ?_
      refine e_lrem dX10_lots_61 (by decide) ?_
      refine e_lstore dX10_lots_62 (by decide) (LS1 := [_, _, none, _, _, none, _]) rfl ?_
      refine e_aload_n dX10_lots_64 rfl ?_
      refine e_lload dX10_lots_65 rfl ?_
      refine e_aload_n dX10_lots_67 rfl ?_
      refine q_getR (r := pl) dX10_lots_68 lf_N_72 rfl (by decide) (am_Lk hL rfl) (am_Lpl hL) ?_
      refine q_getI dX10_lots_71 lf_N_144 (by decide) (congrArg Prod.fst (am_pln hL).1) ?_
      refine e_i2l dX10_lots_74 ?_
      refine e_lremq dX10_lots_75 ?_
      refine e_l2i dX10_lots_76 ?_
      refine e_lload dX10_lots_77 rfl ?_
      refine e_ldc2 dX10_lots_79 ll_N_332 ?_
      refine e_ldiv dX10_lots_82 (by decide) ?_
      refine e_ldc2 dX10_lots_83 ll_N_334 ?_
      refine e_lrem dX10_lots_86 (by decide) ?_
      refine e_l2i dX10_lots_87 ?_
      refine q_callVI (As := [_, _]) rfl dX10_lots_88 lm_N_336 (am_fitB rfl) yo_X10_doLot ys_X10_doLot rfl rfl (by decide) (am_Lk hL rfl) rfl (Nat.le_of_ble_eq_true rfl) (Nat.le_of_ble_eq_true rfl) (s_X10_doLot hL _ _  _) (fun q3 => ?_)
      refine e_if_lt dX10_lots_91 (tgt := 97) (by decide) ?_ ?_
      · refine e_iinc dX10_lots_97 rfl (v := _ + 1) rfl (by decide) (LS1 := [_, _, none, _, _, none, _]) rfl ?_
        refine e_goto dX10_lots_100 (tgt := 46) (by decide) ?_
        exact ih v3 ((v4 * (48271 : Int64)) - (v4 * (48271 : Int64)) / (2147483647 : Int64) * (2147483647 : Int64)) (v6 + 1) q3.2
      · refine e_iinc dX10_lots_94 rfl (v := _ + 1) rfl (by decide) (LS1 := [_, _, none, _, _, none, _]) rfl ?_
        refine e_iinc dX10_lots_97 rfl (v := _ + 1) rfl (by decide) (LS1 := [_, _, none, _, _, none, _]) rfl ?_
        refine e_goto dX10_lots_100 (tgt := 46) (by decide) ?_
        exact ih (v3 + 1) ((v4 * (48271 : Int64)) - (v4 * (48271 : Int64)) / (2147483647 : Int64) * (2147483647 : Int64)) (v6 + 1) q3.2

set_option maxRecDepth 100000 in
set_option maxHeartbeats 4000000 in
theorem s_X10_lots {l : Launch} {g : am_G} {B : am_M} {pl : Nat} (hL : am_Lay B pl) (a1 : Int32) (a2 : Int32)  (u : am_U) : am_E l g d_X10_lots 0 (am_ent d_X10_lots [.ref (4), .int (a1), .int (a2)]) [] (am_of B u) (am_r (am_bI B) (f_X10_lots pl a1 a2 u)) := by
  unfold f_X10_lots
  show am_E l g d_X10_lots 0 [some (.ref (4)), some (.int (a1)), some (.int (a2)), none, none, none, none] [] (am_of B u) _
  refine e_iload_n dX10_lots_0 rfl ?_
  refine e_iconst dX10_lots_1 (v := 1) (by decide) ?_
  refine e_bipush dX10_lots_2 (v := 40) (by decide) ?_
  refine q_callSP (As := [_, _, _]) rfl dX10_lots_4 lm_N_86 (am_fitB rfl) yo_X10_isWithin ys_X10_isWithin rfl (Nat.le_of_ble_eq_true rfl) (Nat.le_of_ble_eq_true rfl) (s_X10_isWithin hL _ _ _  _) (fun q1 => ?_)
  refine e_if_eq dX10_lots_7 (tgt := 21) (by decide) ?_ ?_
  · refine e_iconst dX10_lots_21 (v := ((-1) : Int32)) (by decide) ?_
    exact e_iret dX10_lots_22 rfl rfl
  · refine e_iload_n dX10_lots_10 rfl ?_
    refine e_iconst dX10_lots_11 (v := 1) (by decide) ?_
    refine e_ldcw dX10_lots_12 lc_N_327 ?_
    refine q_callSP (As := [_, _, _]) rfl dX10_lots_15 lm_N_86 (am_fitB rfl) yo_X10_isWithin ys_X10_isWithin rfl (Nat.le_of_ble_eq_true rfl) (Nat.le_of_ble_eq_true rfl) (s_X10_isWithin hL _ _ _  _) (fun q2 => ?_)
    refine e_if_ne dX10_lots_18 (tgt := 23) (by decide) ?_ ?_
    · refine e_aload_n dX10_lots_23 rfl ?_
      refine q_getR (r := pl) dX10_lots_24 lf_N_72 rfl (by decide) (am_Lk hL rfl) (am_Lpl hL) ?_
      refine q_getI dX10_lots_27 lf_N_144 (by decide) (congrArg Prod.fst (am_pln hL).1) ?_
      refine e_iconst dX10_lots_30 (v := 2) (by decide) ?_
      refine e_if2_ge dX10_lots_31 (tgt := 37) (by decide) ?_ ?_
      · refine e_iconst dX10_lots_37 (v := 0) (by decide) ?_
        refine e_istore_n dX10_lots_38 (by decide) (LS1 := [_, _, _, _, none, none, none]) rfl ?_
        refine e_iload_n dX10_lots_39 rfl ?_
        refine e_i2l dX10_lots_40 ?_
        refine e_lstore dX10_lots_41 (by decide) (LS1 := [_, _, _, _, _, none, none]) rfl ?_
        refine e_iconst dX10_lots_43 (v := 0) (by decide) ?_
        refine e_istore dX10_lots_44 (by decide) (LS1 := [_, _, _, _, _, none, _]) rfl ?_
        refine e_msk [true, true, false, true, true, false, true] (LS1 := [_, _, none, _, _, none, _]) rfl ?_
        refine s_X10_lots_46 hL _ _ _ _ _ _
      · refine e_bipush dX10_lots_34 (v := ((-4) : Int32)) (by decide) ?_
        exact e_iret dX10_lots_36 rfl rfl
    · refine e_iconst dX10_lots_21 (v := ((-1) : Int32)) (by decide) ?_
      exact e_iret dX10_lots_22 rfl rfl

def f_X10_needs_14 (pl : Nat) (u : am_U) (v1 : Int32) (k85 : Int32 → Option (Int32 × am_U)) : Nat → Int32 → Int32 → Option (Int32 × am_U)
  | 0, _, _ => none
  | n + 1, v2, v3 =>
    if (1 <<< ((u pl 2) &&& 31)) ≤ v3 then (
      k85 v2)
    else (
      am_jn (fun (j2s0 : Int32) =>
        if j2s0 = 0 then (
          f_X10_needs_14 pl u v1 k85 n v2 (v3 + 1))
        else (
          (f_X5_hoursOfSet pl v3 v1 u).bind (fun q3 =>
          am_ck (am_ix v1 5) (
          if q3 < (u (pl + 2) v1.toNatClampNeg) then (
            f_X10_needs_14 pl u v1 k85 n v2 (v3 + 1))
          else (
            f_X10_needs_14 pl u v1 k85 n v3 (v3 + 1)))))) (fun j2 =>
      am_jn (fun (j5z : Unit) =>
        j2 1) (fun j5 =>
      if v2 = ((-9) : Int32) then (
        j5 () )
      else (
        (f_J6_bitCount_0f7a4 v3).bind (fun q6 =>
        (f_J6_bitCount_0f7a4 v2).bind (fun q7 =>
        if q7 ≤ q6 then (
          j2 0)
        else (
          j5 () )))))))
def f_X10_needs (pl : Nat) (a1 : Int32) (u : am_U) : Option (Int32 × am_U) :=
  (f_X10_isValley a1).bind (fun q1 =>
  if ¬ q1 = 0 then (
    f_X10_needs_14 pl u a1 (fun (c8v2 : Int32) =>
      if ¬ c8v2 = ((-9) : Int32) then (
        (f_J6_bitCount_0f7a4 c8v2).bind (fun q9 =>
        (f_X10_tell q9 c8v2 u).bind (fun q10 =>
        some (q10.1, q10.2))))
      else (
        some (((-9) : Int32), u))) 20000 ((-9) : Int32) 0)
  else (
    some (((-1) : Int32), u)))
set_option maxRecDepth 100000 in
set_option maxHeartbeats 4000000 in
theorem s_X10_needs_14 {l : Launch} {g : am_G} {B : am_M} {pl : Nat} (hL : am_Lay B pl) (u : am_U) (v1 : Int32)  (k85 : Int32 → Option (Int32 × am_U)) (hk85 : ∀ (v2 : Int32), am_E l g d_X10_needs 85 [some (.ref (4)), none, some (.int (v2)), none, none] [] (am_of B u) (am_r (am_bI B) (k85 v2))) : ∀ (n : Nat) (v2 : Int32) (v3 : Int32), am_E l g d_X10_needs 14 [some (.ref (4)), some (.int (v1)), some (.int (v2)), some (.int (v3)), none] [] (am_of B u) (am_r (am_bI B) (f_X10_needs_14 pl u v1 k85 n v2 v3)) := by
  intro n
  induction n with
  | zero => intro v2 v3; exact am_none
  | succ n ih =>
    intro v2 v3
    unfold f_X10_needs_14
    refine e_iload_n dX10_needs_14 rfl ?_
    refine e_iconst dX10_needs_15 (v := 1) (by decide) ?_
    refine e_aload_n dX10_needs_16 rfl ?_
    refine q_getR (r := pl) dX10_needs_17 lf_N_72 rfl (by decide) (am_Lk hL rfl) (am_Lpl hL) ?_
    refine q_getI dX10_needs_20 lf_N_144 (by decide) (congrArg Prod.fst (am_pln hL).1) ?_
    refine e_ishl dX10_needs_23 ?_
    refine e_if2_ge dX10_needs_24 (tgt := 85) (by decide) ?_ ?_
    · refine e_msk [true, false, true, false, false] (LS1 := [_, none, _, none, none]) rfl ?_
      exact hk85 v2
    · refine e_iload_n dX10_needs_27 rfl ?_
      refine e_bipush dX10_needs_28 (v := ((-9) : Int32)) (by decide) ?_
      refine e_jn (P := fun t : Int32 → Option (Int32 × am_U) => ∀ (j2s0 : Int32), am_E l g d_X10_needs 49 [some (.ref (4)), some (.int (v1)), some (.int (v2)), some (.int (v3)), none] [.int (j2s0)] (am_of B u) (am_r (am_bI B) (t j2s0))) ?_ (fun j2 hj2 => ?_)
      · intro j2s0
        refine e_istore dX10_needs_49 (by decide) (LS1 := [_, _, _, _, _]) rfl ?_
        refine e_iload dX10_needs_51 rfl ?_
        refine e_if_eq dX10_needs_53 (tgt := 79) (by decide) ?_ ?_
        · refine e_iinc dX10_needs_79 rfl (v := _ + 1) rfl (by decide) (LS1 := [_, _, _, _, _]) rfl ?_
          refine e_goto dX10_needs_82 (tgt := 14) (by decide) ?_
          refine e_msk [true, true, true, true, false] (LS1 := [_, _, _, _, none]) rfl ?_
          exact ih v2 (v3 + 1)
        · refine e_aload_n dX10_needs_56 rfl ?_
          refine q_getR (r := pl) dX10_needs_57 lf_N_72 rfl (by decide) (am_Lk hL rfl) (am_Lpl hL) ?_
          refine e_iload_n dX10_needs_60 rfl ?_
          refine e_iload_n dX10_needs_61 rfl ?_
          refine q_callVP (As := [_, _]) rfl dX10_needs_62 lm_N_259 (am_fitB rfl) yo_X5_hoursOfSet ys_X5_hoursOfSet rfl rfl (by decide) (congrArg Prod.fst (am_pln hL).1) rfl (Nat.le_of_ble_eq_true rfl) (Nat.le_of_ble_eq_true rfl) (s_X5_hoursOfSet hL _ _ _ (am_pln hL) _) (fun q3 => ?_)
          refine e_aload_n dX10_needs_65 rfl ?_
          refine q_getR (r := pl) dX10_needs_66 lf_N_72 rfl (by decide) (am_Lk hL rfl) (am_Lpl hL) ?_
          refine q_getR (r := pl + 2) dX10_needs_69 lf_N_262 rfl (by decide) (congrArg Prod.fst (am_pln hL).1) (am_avs (am_pln hL).2.1.2.1) ?_
          refine e_iload_n dX10_needs_72 rfl ?_
          refine q_ialdH dX10_needs_73 (am_pln hL).2.2.2.1 (fun i4 => ?_)
          refine e_if2_lt dX10_needs_74 (tgt := 79) (by decide) ?_ ?_
          · refine e_iinc dX10_needs_79 rfl (v := _ + 1) rfl (by decide) (LS1 := [_, _, _, _, _]) rfl ?_
            refine e_goto dX10_needs_82 (tgt := 14) (by decide) ?_
            refine e_msk [true, true, true, true, false] (LS1 := [_, _, _, _, none]) rfl ?_
            exact ih v2 (v3 + 1)
          · refine e_iload_n dX10_needs_77 rfl ?_
            refine e_istore_n dX10_needs_78 (by decide) (LS1 := [_, _, _, _, _]) rfl ?_
            refine e_iinc dX10_needs_79 rfl (v := _ + 1) rfl (by decide) (LS1 := [_, _, _, _, _]) rfl ?_
            refine e_goto dX10_needs_82 (tgt := 14) (by decide) ?_
            refine e_msk [true, true, true, true, false] (LS1 := [_, _, _, _, none]) rfl ?_
            exact ih v3 (v3 + 1)
      · refine e_jn (P := fun t : Unit → Option (Int32 × am_U) => ∀ (j5z : Unit), am_E l g d_X10_needs 44 [some (.ref (4)), some (.int (v1)), some (.int (v2)), some (.int (v3)), none] [] (am_of B u) (am_r (am_bI B) (t j5z))) ?_ (fun j5 hj5 => ?_)
        · intro j5z
          refine e_iconst dX10_needs_44 (v := 1) (by decide) ?_
          refine e_goto dX10_needs_45 (tgt := 49) (by decide) ?_
          refine e_msk [true, true, true, true, false] (LS1 := [_, _, _, _, none]) rfl ?_
          exact hj2 1
        · refine e_if2_eq dX10_needs_30 (tgt := 44) (by decide) ?_ ?_
          · refine e_msk [true, true, true, true, false] (LS1 := [_, _, _, _, none]) rfl ?_
            exact hj5 () 
          · refine e_iload_n dX10_needs_33 rfl ?_
            refine q_callSP (As := [_]) rfl dX10_needs_34 lm_N_254 (am_fitB rfl) yo_J6_bitCount_0f7a4 ys_J6_bitCount_0f7a4 rfl (Nat.le_of_ble_eq_true rfl) (Nat.le_of_ble_eq_true rfl) (s_J6_bitCount_0f7a4 hL _  _) (fun q6 => ?_)
            refine e_iload_n dX10_needs_37 rfl ?_
            refine q_callSP (As := [_]) rfl dX10_needs_38 lm_N_254 (am_fitB rfl) yo_J6_bitCount_0f7a4 ys_J6_bitCount_0f7a4 rfl (Nat.le_of_ble_eq_true rfl) (Nat.le_of_ble_eq_true rfl) (s_J6_bitCount_0f7a4 hL _  _) (fun q7 => ?_)
            refine e_if2_ge dX10_needs_41 (tgt := 48) (by decide) ?_ ?_
            · refine e_iconst dX10_needs_48 (v := 0) (by decide) ?_
              refine e_msk [true, true, true, true, false] (LS1 := [_, _, _, _, none]) rfl ?_
              exact hj2 0
            · refine e_msk [true, true, true, true, false] (LS1 := [_, _, _, _, none]) rfl ?_
              exact hj5 () 

set_option maxRecDepth 100000 in
set_option maxHeartbeats 4000000 in
theorem s_X10_needs {l : Launch} {g : am_G} {B : am_M} {pl : Nat} (hL : am_Lay B pl) (a1 : Int32)  (u : am_U) : am_E l g d_X10_needs 0 (am_ent d_X10_needs [.ref (4), .int (a1)]) [] (am_of B u) (am_r (am_bI B) (f_X10_needs pl a1 u)) := by
  unfold f_X10_needs
  show am_E l g d_X10_needs 0 [some (.ref (4)), some (.int (a1)), none, none, none] [] (am_of B u) _
  refine e_iload_n dX10_needs_0 rfl ?_
  refine q_callSP (As := [_]) rfl dX10_needs_1 lm_N_251 (am_fitB rfl) yo_X10_isValley ys_X10_isValley rfl (Nat.le_of_ble_eq_true rfl) (Nat.le_of_ble_eq_true rfl) (s_X10_isValley hL _  _) (fun q1 => ?_)
  refine e_if_ne dX10_needs_4 (tgt := 9) (by decide) ?_ ?_
  · refine e_bipush dX10_needs_9 (v := ((-9) : Int32)) (by decide) ?_
    refine e_istore_n dX10_needs_11 (by decide) (LS1 := [_, _, _, none, none]) rfl ?_
    refine e_iconst dX10_needs_12 (v := 0) (by decide) ?_
    refine e_istore_n dX10_needs_13 (by decide) (LS1 := [_, _, _, _, none]) rfl ?_
    refine s_X10_needs_14 hL _ _ _ (fun c8v2 => ?_) _ _ _
    · refine e_iload_n dX10_needs_85 rfl ?_
      refine e_bipush dX10_needs_86 (v := ((-9) : Int32)) (by decide) ?_
      refine e_if2_ne dX10_needs_88 (tgt := 96) (by decide) ?_ ?_
      · refine e_aload_n dX10_needs_96 rfl ?_
        refine e_iload_n dX10_needs_97 rfl ?_
        refine q_callSP (As := [_]) rfl dX10_needs_98 lm_N_254 (am_fitB rfl) yo_J6_bitCount_0f7a4 ys_J6_bitCount_0f7a4 rfl (Nat.le_of_ble_eq_true rfl) (Nat.le_of_ble_eq_true rfl) (s_J6_bitCount_0f7a4 hL _  _) (fun q9 => ?_)
        refine e_iload_n dX10_needs_101 rfl ?_
        refine q_callVI (As := [_, _]) rfl dX10_needs_102 lm_N_101 (am_fitB rfl) yo_X10_tell ys_X10_tell rfl rfl (by decide) (am_Lk hL rfl) rfl (Nat.le_of_ble_eq_true rfl) (Nat.le_of_ble_eq_true rfl) (s_X10_tell hL _ _  _) (fun q10 => ?_)
        exact e_iret dX10_needs_105 rfl rfl
      · refine e_bipush dX10_needs_91 (v := ((-9) : Int32)) (by decide) ?_
        refine e_goto dX10_needs_93 (tgt := 105) (by decide) ?_
        exact e_iret dX10_needs_105 rfl rfl
  · refine e_iconst dX10_needs_7 (v := ((-1) : Int32)) (by decide) ?_
    exact e_iret dX10_needs_8 rfl rfl

def f_X11_loads_14 (u : am_U) (k32 : Int32 → Option (Int32 × am_U)) : Nat → Int32 → Int32 → Option (Int32 × am_U)
  | 0, _, _ => none
  | n + 1, v1, v2 =>
    if (u 60 12) ≤ v2 then (
      k32 v1)
    else (
      f_X11_loads_14 u k32 n (v1 * 5) (v2 + 1))
def f_X11_loads_42 (v1 : Int32) (k94 : Int32 → Int32 → am_U → Option (Int32 × am_U)) : Nat → Int32 → Int32 → Int32 → Int32 → am_U → Option (Int32 × am_U)
  | 0, _, _, _, _, _ => none
  | n + 1, v2, v3, v4, v5, u =>
    if v1 ≤ v5 then (
      k94 v2 v4 u)
    else (
      (f_X11_lit v5 u).bind (fun q2 =>
      am_jn (fun (j3z : Unit) =>
        f_X11_loads_42 v1 k94 n q2.1 (q2.2 60 31) v5 (v5 + 1) q2.2) (fun j3 =>
      if v2 < q2.1 then (
        j3 () )
      else (
        if ¬ q2.1 = v2 then (
          f_X11_loads_42 v1 k94 n v2 v3 v4 (v5 + 1) q2.2)
        else (
          if v3 ≤ (q2.2 60 31) then (
            f_X11_loads_42 v1 k94 n v2 v3 v4 (v5 + 1) q2.2)
          else (
            j3 () ))))))
def f_X11_loads (u : am_U) : Option (Int32 × am_U) :=
  if ¬ (u 60 12) = 0 then (
    f_X11_loads_14 u (fun (c1v1 : Int32) =>
      f_X11_loads_42 c1v1 (fun (c4v2 : Int32) (c4v4 : Int32) (c4u : am_U) =>
        (f_X11_tells c4v4 c4v2 c4u).bind (fun q5 =>
        some (q5.1, q5.2))) 20000 ((-1) : Int32) 0 0 0 u) 20000 1 0)
  else (
    some (((-4) : Int32), u))
set_option maxRecDepth 100000 in
set_option maxHeartbeats 4000000 in
theorem s_X11_loads_14 {l : Launch} {g : am_G} {B : am_M} {pl : Nat} (hL : am_Lay B pl) (u : am_U)   (k32 : Int32 → Option (Int32 × am_U)) (hk32 : ∀ (v1 : Int32), am_E l g d_X11_loads 32 [some (.ref (60)), some (.int (v1)), none, none, none, none, none] [] (am_of B u) (am_r (am_bI B) (k32 v1))) : ∀ (n : Nat) (v1 : Int32) (v2 : Int32), am_E l g d_X11_loads 14 [some (.ref (60)), some (.int (v1)), some (.int (v2)), none, none, none, none] [] (am_of B u) (am_r (am_bI B) (f_X11_loads_14 u k32 n v1 v2)) := by
  intro n
  induction n with
  | zero => intro v1 v2; exact am_none
  | succ n ih =>
    intro v1 v2
    unfold f_X11_loads_14
    refine e_iload_n dX11_loads_14 rfl ?_
    refine e_aload_n dX11_loads_15 rfl ?_
    refine q_getI dX11_loads_16 lf_M_184 (by decide) (am_Lk hL rfl) ?_
    refine e_if2_ge dX11_loads_19 (tgt := 32) (by decide) ?_ ?_
    · refine e_msk [true, true, false, false, false, false, false] (LS1 := [_, _, none, none, none, none, none]) rfl ?_
      exact hk32 v1
    · refine e_iload_n dX11_loads_22 rfl ?_
      refine e_iconst dX11_loads_23 (v := 5) (by decide) ?_
      refine e_imul dX11_loads_24 ?_
      refine e_istore_n dX11_loads_25 (by decide) (LS1 := [_, _, _, none, none, none, none]) rfl ?_
      refine e_iinc dX11_loads_26 rfl (v := _ + 1) rfl (by decide) (LS1 := [_, _, _, none, none, none, none]) rfl ?_
      refine e_goto dX11_loads_29 (tgt := 14) (by decide) ?_
      exact ih (v1 * 5) (v2 + 1)

set_option maxRecDepth 100000 in
set_option maxHeartbeats 4000000 in
theorem s_X11_loads_42 {l : Launch} {g : am_G} {B : am_M} {pl : Nat} (hL : am_Lay B pl) (v1 : Int32)  (k94 : Int32 → Int32 → am_U → Option (Int32 × am_U)) (hk94 : ∀ (v2 : Int32) (v4 : Int32) (u : am_U), am_E l g d_X11_loads 94 [some (.ref (60)), none, some (.int (v2)), none, some (.int (v4)), none, none] [] (am_of B u) (am_r (am_bI B) (k94 v2 v4 u))) : ∀ (n : Nat) (v2 : Int32) (v3 : Int32) (v4 : Int32) (v5 : Int32) (u : am_U), am_E l g d_X11_loads 42 [some (.ref (60)), some (.int (v1)), some (.int (v2)), some (.int (v3)), some (.int (v4)), some (.int (v5)), none] [] (am_of B u) (am_r (am_bI B) (f_X11_loads_42 v1 k94 n v2 v3 v4 v5 u)) := by
  intro n
  induction n with
  | zero => intro v2 v3 v4 v5 u; exact am_none
  | succ n ih =>
    intro v2 v3 v4 v5 u
    unfold f_X11_loads_42
    refine e_iload dX11_loads_42 rfl ?_
    refine e_iload_n dX11_loads_44 rfl ?_
    refine e_if2_ge dX11_loads_45 (tgt := 94) (by decide) ?_ ?_
    · refine e_msk [true, false, true, false, true, false, false] (LS1 := [_, none, _, none, _, none, none]) rfl ?_
      exact hk94 v2 v4 u
    · refine e_aload_n dX11_loads_48 rfl ?_
      refine e_iload dX11_loads_49 rfl ?_
      refine q_callVI (As := [_]) rfl dX11_loads_51 lm_M_240 (am_fitB rfl) yo_X11_lit ys_X11_lit rfl rfl (by decide) (am_Lk hL rfl) rfl (Nat.le_of_ble_eq_true rfl) (Nat.le_of_ble_eq_true rfl) (s_X11_lit hL _  _) (fun q2 => ?_)
      refine e_istore dX11_loads_54 (by decide) (LS1 := [_, _, _, _, _, _, _]) rfl ?_
      refine e_iload dX11_loads_56 rfl ?_
      refine e_iload_n dX11_loads_58 rfl ?_
      refine e_jn (P := fun t : Unit → Option (Int32 × am_U) => ∀ (j3z : Unit), am_E l g d_X11_loads 76 [some (.ref (60)), some (.int (v1)), none, none, none, some (.int (v5)), some (.int (q2.1))] [] (am_of B q2.2) (am_r (am_bI B) (t j3z))) ?_ (fun j3 hj3 => ?_)
      · intro j3z
        refine e_iload dX11_loads_76 rfl ?_
        refine e_istore_n dX11_loads_78 (by decide) (LS1 := [_, _, _, none, none, _, _]) rfl ?_
        refine e_aload_n dX11_loads_79 rfl ?_
        refine q_getI dX11_loads_80 lf_M_237 (by decide) (am_Lk hL rfl) ?_
        refine e_istore_n dX11_loads_83 (by decide) (LS1 := [_, _, _, _, none, _, _]) rfl ?_
        refine e_iload dX11_loads_84 rfl ?_
        refine e_istore dX11_loads_86 (by decide) (LS1 := [_, _, _, _, _, _, _]) rfl ?_
        refine e_iinc dX11_loads_88 rfl (v := _ + 1) rfl (by decide) (LS1 := [_, _, _, _, _, _, _]) rfl ?_
        refine e_goto dX11_loads_91 (tgt := 42) (by decide) ?_
        refine e_msk [true, true, true, true, true, true, false] (LS1 := [_, _, _, _, _, _, none]) rfl ?_
        exact ih q2.1 (q2.2 60 31) v5 (v5 + 1) q2.2
      · refine e_if2_gt dX11_loads_59 (tgt := 76) (by decide) ?_ ?_
        · refine e_msk [true, true, false, false, false, true, true] (LS1 := [_, _, none, none, none, _, _]) rfl ?_
          exact hj3 () 
        · refine e_iload dX11_loads_62 rfl ?_
          refine e_iload_n dX11_loads_64 rfl ?_
          refine e_if2_ne dX11_loads_65 (tgt := 88) (by decide) ?_ ?_
          · refine e_iinc dX11_loads_88 rfl (v := _ + 1) rfl (by decide) (LS1 := [_, _, _, _, _, _, _]) rfl ?_
            refine e_goto dX11_loads_91 (tgt := 42) (by decide) ?_
            refine e_msk [true, true, true, true, true, true, false] (LS1 := [_, _, _, _, _, _, none]) rfl ?_
            exact ih v2 v3 v4 (v5 + 1) q2.2
          · refine e_aload_n dX11_loads_68 rfl ?_
            refine q_getI dX11_loads_69 lf_M_237 (by decide) (am_Lk hL rfl) ?_
            refine e_iload_n dX11_loads_72 rfl ?_
            refine e_if2_ge dX11_loads_73 (tgt := 88) (by decide) ?_ ?_
            · refine e_iinc dX11_loads_88 rfl (v := _ + 1) rfl (by decide) (LS1 := [_, _, _, _, _, _, _]) rfl ?_
              refine e_goto dX11_loads_91 (tgt := 42) (by decide) ?_
              refine e_msk [true, true, true, true, true, true, false] (LS1 := [_, _, _, _, _, _, none]) rfl ?_
              exact ih v2 v3 v4 (v5 + 1) q2.2
            · refine e_msk [true, true, false, false, false, true, true] (LS1 := [_, _, none, none, none, _, _]) rfl ?_
              exact hj3 () 

set_option maxRecDepth 100000 in
set_option maxHeartbeats 4000000 in
theorem s_X11_loads {l : Launch} {g : am_G} {B : am_M} {pl : Nat} (hL : am_Lay B pl)   (u : am_U) : am_E l g d_X11_loads 0 (am_ent d_X11_loads [.ref (60)]) [] (am_of B u) (am_r (am_bI B) (f_X11_loads u)) := by
  unfold f_X11_loads
  show am_E l g d_X11_loads 0 [some (.ref (60)), none, none, none, none, none, none] [] (am_of B u) _
  refine e_aload_n dX11_loads_0 rfl ?_
  refine q_getI dX11_loads_1 lf_M_184 (by decide) (am_Lk hL rfl) ?_
  refine e_if_ne dX11_loads_4 (tgt := 10) (by decide) ?_ ?_
  · refine e_iconst dX11_loads_10 (v := 1) (by decide) ?_
    refine e_istore_n dX11_loads_11 (by decide) (LS1 := [_, _, none, none, none, none, none]) rfl ?_
    refine e_iconst dX11_loads_12 (v := 0) (by decide) ?_
    refine e_istore_n dX11_loads_13 (by decide) (LS1 := [_, _, _, none, none, none, none]) rfl ?_
    refine s_X11_loads_14 hL _ _ (fun c1v1 => ?_) _ _ _
    · refine e_iconst dX11_loads_32 (v := ((-1) : Int32)) (by decide) ?_
      refine e_istore_n dX11_loads_33 (by decide) (LS1 := [_, _, _, none, none, none, none]) rfl ?_
      refine e_iconst dX11_loads_34 (v := 0) (by decide) ?_
      refine e_istore_n dX11_loads_35 (by decide) (LS1 := [_, _, _, _, none, none, none]) rfl ?_
      refine e_iconst dX11_loads_36 (v := 0) (by decide) ?_
      refine e_istore dX11_loads_37 (by decide) (LS1 := [_, _, _, _, _, none, none]) rfl ?_
      refine e_iconst dX11_loads_39 (v := 0) (by decide) ?_
      refine e_istore dX11_loads_40 (by decide) (LS1 := [_, _, _, _, _, _, none]) rfl ?_
      refine s_X11_loads_42 hL _ _ (fun c4v2 c4v4 c4u => ?_) _ _ _ _ _ _
      · refine e_aload_n dX11_loads_94 rfl ?_
        refine e_iload dX11_loads_95 rfl ?_
        refine e_iload_n dX11_loads_97 rfl ?_
        refine q_callVI (As := [_, _]) rfl dX11_loads_98 lm_M_125 (am_fitB rfl) yo_X11_tells ys_X11_tells rfl rfl (by decide) (am_Lk hL rfl) rfl (Nat.le_of_ble_eq_true rfl) (Nat.le_of_ble_eq_true rfl) (s_X11_tells hL _ _  _) (fun q5 => ?_)
        exact e_iret dX11_loads_101 rfl rfl
  · refine e_bipush dX11_loads_7 (v := ((-4) : Int32)) (by decide) ?_
    exact e_iret dX11_loads_9 rfl rfl

def f_X11_loss_38 (v1 : Int32) (v2 : Int32) (v4 : Int32) : Nat → Int32 → Int32 → am_U → Option (Int32 × am_U)
  | 0, _, _, _ => none
  | n + 1, v5, v6, u =>
    if (u 60 39) ≤ v6 then (
      some (v5, u))
    else (
      am_ck (am_ix v6 9261) (
      (f_X11_holds (u 83 v6.toNatClampNeg) v1 v2 u).bind (fun q5 =>
      if q5.1 = 0 then (
        f_X11_loss_38 v1 v2 v4 n v5 (v6 + 1) q5.2)
      else (
        (f_X11_sumOf (q5.2 83 v6.toNatClampNeg) q5.2).bind (fun q6 =>
        am_jn (fun (j7z : Unit) =>
          f_X11_loss_38 v1 v2 v4 n (v4 - q6.1) (v6 + 1) q6.2) (fun j7 =>
        if v5 = ((-9) : Int32) then (
          j7 () )
        else (
          if v5 ≤ (v4 - q6.1) then (
            f_X11_loss_38 v1 v2 v4 n v5 (v6 + 1) q6.2)
          else (
            j7 () ))))))))
def f_X11_loss (a1 : Int32) (a2 : Int32) (u : am_U) : Option (Int32 × am_U) :=
  (f_X11_in a2 0 20).bind (fun q1 =>
  (f_X11_needStates q1 a1 u).bind (fun q2 =>
  if 0 ≤ q2.1 then (
    (f_X11_sumOf (q2.2 83 0) q2.2).bind (fun q3 =>
    f_X11_loss_38 a1 a2 q3.1 20000 ((-9) : Int32) 0 q3.2))
  else (
    some (q2.1, q2.2))))
set_option maxRecDepth 100000 in
set_option maxHeartbeats 4000000 in
theorem s_X11_loss_38 {l : Launch} {g : am_G} {B : am_M} {pl : Nat} (hL : am_Lay B pl) (v1 : Int32) (v2 : Int32) (v4 : Int32)    : ∀ (n : Nat) (v5 : Int32) (v6 : Int32) (u : am_U), am_E l g d_X11_loss 38 [some (.ref (60)), some (.int (v1)), some (.int (v2)), none, some (.int (v4)), some (.int (v5)), some (.int (v6)), none] [] (am_of B u) (am_r (am_bI B) (f_X11_loss_38 v1 v2 v4 n v5 v6 u)) := by
  intro n
  induction n with
  | zero => intro v5 v6 u; exact am_none
  | succ n ih =>
    intro v5 v6 u
    unfold f_X11_loss_38
    refine e_iload dX11_loss_38 rfl ?_
    refine e_aload_n dX11_loss_40 rfl ?_
    refine q_getI dX11_loss_41 lf_M_263 (by decide) (am_Lk hL rfl) ?_
    refine e_if2_ge dX11_loss_44 (tgt := 108) (by decide) ?_ ?_
    · refine e_iload dX11_loss_108 rfl ?_
      exact e_iret dX11_loss_110 rfl rfl
    · refine e_aload_n dX11_loss_47 rfl ?_
      refine e_aload_n dX11_loss_48 rfl ?_
      refine q_getR (r := 83) dX11_loss_49 lf_M_78 rfl (by decide) (am_Lk hL rfl) (am_Lr hL rfl) ?_
      refine e_iload dX11_loss_52 rfl ?_
      refine q_ialdH dX11_loss_54 (am_Ls hL rfl) (fun i4 => ?_)
      refine e_iload_n dX11_loss_55 rfl ?_
      refine e_iload_n dX11_loss_56 rfl ?_
      refine q_callVI (As := [_, _, _]) rfl dX11_loss_57 lm_M_279 (am_fitB rfl) yo_X11_holds ys_X11_holds rfl rfl (by decide) (am_Lk hL rfl) rfl (Nat.le_of_ble_eq_true rfl) (Nat.le_of_ble_eq_true rfl) (s_X11_holds hL _ _ _  _) (fun q5 => ?_)
      refine e_if_eq dX11_loss_60 (tgt := 102) (by decide) ?_ ?_
      · refine e_iinc dX11_loss_102 rfl (v := _ + 1) rfl (by decide) (LS1 := [_, _, _, none, _, _, _, none]) rfl ?_
        refine e_goto dX11_loss_105 (tgt := 38) (by decide) ?_
        exact ih v5 (v6 + 1) q5.2
      · refine e_iload dX11_loss_63 rfl ?_
        refine e_aload_n dX11_loss_65 rfl ?_
        refine e_aload_n dX11_loss_66 rfl ?_
        refine q_getR (r := 83) dX11_loss_67 lf_M_78 rfl (by decide) (am_Lk hL rfl) (am_Lr hL rfl) ?_
        refine e_iload dX11_loss_70 rfl ?_
        refine q_ialdC (jn := _) dX11_loss_72 (am_Ls hL rfl) i4 rfl ?_
        refine q_callVI (As := [_]) rfl dX11_loss_73 lm_M_289 (am_fitB rfl) yo_X11_sumOf ys_X11_sumOf rfl rfl (by decide) (am_Lk hL rfl) rfl (Nat.le_of_ble_eq_true rfl) (Nat.le_of_ble_eq_true rfl) (s_X11_sumOf hL _  _) (fun q6 => ?_)
        refine e_isub dX11_loss_76 ?_
        refine e_istore dX11_loss_77 (by decide) (LS1 := [_, _, _, none, _, _, _, _]) rfl ?_
        refine e_iload dX11_loss_79 rfl ?_
        refine e_bipush dX11_loss_81 (v := ((-9) : Int32)) (by decide) ?_
        refine e_jn (P := fun t : Unit → Option (Int32 × am_U) => ∀ (j7z : Unit), am_E l g d_X11_loss 93 [some (.ref (60)), some (.int (v1)), some (.int (v2)), none, some (.int (v4)), none, some (.int (v6)), some (.int (v4 - q6.1))] [] (am_of B q6.2) (am_r (am_bI B) (t j7z))) ?_ (fun j7 hj7 => ?_)
        · intro j7z
          refine e_iload dX11_loss_93 rfl ?_
          refine e_goto dX11_loss_95 (tgt := 100) (by decide) ?_
          refine e_istore dX11_loss_100 (by decide) (LS1 := [_, _, _, none, _, _, _, _]) rfl ?_
          refine e_iinc dX11_loss_102 rfl (v := _ + 1) rfl (by decide) (LS1 := [_, _, _, none, _, _, _, _]) rfl ?_
          refine e_goto dX11_loss_105 (tgt := 38) (by decide) ?_
          refine e_msk [true, true, true, false, true, true, true, false] (LS1 := [_, _, _, none, _, _, _, none]) rfl ?_
          exact ih (v4 - q6.1) (v6 + 1) q6.2
        · refine e_if2_eq dX11_loss_83 (tgt := 93) (by decide) ?_ ?_
          · refine e_msk [true, true, true, false, true, false, true, true] (LS1 := [_, _, _, none, _, none, _, _]) rfl ?_
            exact hj7 () 
          · refine e_iload dX11_loss_86 rfl ?_
            refine e_iload dX11_loss_88 rfl ?_
            refine e_if2_ge dX11_loss_90 (tgt := 98) (by decide) ?_ ?_
            · refine e_iload dX11_loss_98 rfl ?_
              refine e_istore dX11_loss_100 (by decide) (LS1 := [_, _, _, none, _, _, _, _]) rfl ?_
              refine e_iinc dX11_loss_102 rfl (v := _ + 1) rfl (by decide) (LS1 := [_, _, _, none, _, _, _, _]) rfl ?_
              refine e_goto dX11_loss_105 (tgt := 38) (by decide) ?_
              refine e_msk [true, true, true, false, true, true, true, false] (LS1 := [_, _, _, none, _, _, _, none]) rfl ?_
              exact ih v5 (v6 + 1) q6.2
            · refine e_msk [true, true, true, false, true, false, true, true] (LS1 := [_, _, _, none, _, none, _, _]) rfl ?_
              exact hj7 () 

set_option maxRecDepth 100000 in
set_option maxHeartbeats 4000000 in
theorem s_X11_loss {l : Launch} {g : am_G} {B : am_M} {pl : Nat} (hL : am_Lay B pl) (a1 : Int32) (a2 : Int32)  (u : am_U) : am_E l g d_X11_loss 0 (am_ent d_X11_loss [.ref (60), .int (a1), .int (a2)]) [] (am_of B u) (am_r (am_bI B) (f_X11_loss a1 a2 u)) := by
  unfold f_X11_loss
  show am_E l g d_X11_loss 0 [some (.ref (60)), some (.int (a1)), some (.int (a2)), none, none, none, none, none] [] (am_of B u) _
  refine e_aload_n dX11_loss_0 rfl ?_
  refine e_iload_n dX11_loss_1 rfl ?_
  refine e_iconst dX11_loss_2 (v := 0) (by decide) ?_
  refine e_bipush dX11_loss_3 (v := 20) (by decide) ?_
  refine q_callSP (As := [_, _, _]) rfl dX11_loss_5 lm_M_106 (am_fitB rfl) yo_X11_in ys_X11_in rfl (Nat.le_of_ble_eq_true rfl) (Nat.le_of_ble_eq_true rfl) (s_X11_in hL _ _ _  _) (fun q1 => ?_)
  refine e_iload_n dX11_loss_8 rfl ?_
  refine q_callVI (As := [_, _]) rfl dX11_loss_9 lm_M_282 (am_fitB rfl) yo_X11_needStates ys_X11_needStates rfl rfl (by decide) (am_Lk hL rfl) rfl (Nat.le_of_ble_eq_true rfl) (Nat.le_of_ble_eq_true rfl) (s_X11_needStates hL _ _  _) (fun q2 => ?_)
  refine e_istore_n dX11_loss_12 (by decide) (LS1 := [_, _, _, _, none, none, none, none]) rfl ?_
  refine e_iload_n dX11_loss_13 rfl ?_
  refine e_if_ge dX11_loss_14 (tgt := 19) (by decide) ?_ ?_
  · refine e_aload_n dX11_loss_19 rfl ?_
    refine e_aload_n dX11_loss_20 rfl ?_
    refine q_getR (r := 83) dX11_loss_21 lf_M_78 rfl (by decide) (am_Lk hL rfl) (am_Lr hL rfl) ?_
    refine e_iconst dX11_loss_24 (v := 0) (by decide) ?_
    refine q_ialdC (jn := 0) dX11_loss_25 (am_Ls hL rfl) (by decide) (by decide) ?_
    refine q_callVI (As := [_]) rfl dX11_loss_26 lm_M_289 (am_fitB rfl) yo_X11_sumOf ys_X11_sumOf rfl rfl (by decide) (am_Lk hL rfl) rfl (Nat.le_of_ble_eq_true rfl) (Nat.le_of_ble_eq_true rfl) (s_X11_sumOf hL _  _) (fun q3 => ?_)
    refine e_istore dX11_loss_29 (by decide) (LS1 := [_, _, _, _, _, none, none, none]) rfl ?_
    refine e_bipush dX11_loss_31 (v := ((-9) : Int32)) (by decide) ?_
    refine e_istore dX11_loss_33 (by decide) (LS1 := [_, _, _, _, _, _, none, none]) rfl ?_
    refine e_iconst dX11_loss_35 (v := 0) (by decide) ?_
    refine e_istore dX11_loss_36 (by decide) (LS1 := [_, _, _, _, _, _, _, none]) rfl ?_
    refine e_msk [true, true, true, false, true, true, true, false] (LS1 := [_, _, _, none, _, _, _, none]) rfl ?_
    refine s_X11_loss_38 hL _ _ _ _ _ _ _
  · refine e_iload_n dX11_loss_17 rfl ?_
    exact e_iret dX11_loss_18 rfl rfl

def f_X11_most_41 (u : am_U) (v1 : Int32) (v4 : Int32) (k83 : Int32 → Option (Int32 × am_U)) : Nat → Int32 → Int32 → Option (Int32 × am_U)
  | 0, _, _ => none
  | n + 1, v3, v5 =>
    if (u 60 32) ≤ v5 then (
      k83 v3)
    else (
      am_ck (am_ix v5 6) (
      if ¬ (u 80 v5.toNatClampNeg) = v1 then (
        f_X11_most_41 u v1 v4 k83 n v3 (v5 + 1))
      else (
        am_ck (am_ix v5 3) (
        (f_X11_greater v3 (u 81 v5.toNatClampNeg)).bind (fun q6 =>
        f_X11_most_41 u v1 v4 k83 n q6 (v5 + 1))))))
def f_X11_most_18 (v1 : Int32) (k89 : Int32 → am_U → Option (Int32 × am_U)) : Nat → Int32 → Int32 → am_U → Option (Int32 × am_U)
  | 0, _, _, _ => none
  | n + 1, v3, v4, u =>
    if (u 60 39) ≤ v4 then (
      k89 v3 u)
    else (
      am_ck (am_ix v4 9261) (
      (f_X11_look (u 83 v4.toNatClampNeg) u).bind (fun q3 =>
      f_X11_most_41 q3 v1 v4 (fun (c7v3 : Int32) =>
        f_X11_most_18 v1 k89 n c7v3 (v4 + 1) q3) 20000 v3 0)))
def f_X11_most (a1 : Int32) (u : am_U) : Option (Int32 × am_U) :=
  (f_X11_needStates 1 a1 u).bind (fun q1 =>
  if 0 ≤ q1.1 then (
    f_X11_most_18 a1 (fun (c8v3 : Int32) (c8u : am_U) =>
      (f_X11_tells (c8u 60 39) c8v3 c8u).bind (fun q9 =>
      some (q9.1, q9.2))) 20000 0 0 q1.2)
  else (
    some (q1.1, q1.2)))
set_option maxRecDepth 100000 in
set_option maxHeartbeats 4000000 in
theorem s_X11_most_41 {l : Launch} {g : am_G} {B : am_M} {pl : Nat} (hL : am_Lay B pl) (u : am_U) (v1 : Int32) (v4 : Int32)  (k83 : Int32 → Option (Int32 × am_U)) (hk83 : ∀ (v3 : Int32), am_E l g d_X11_most 83 [some (.ref (60)), some (.int (v1)), none, some (.int (v3)), some (.int (v4)), none] [] (am_of B u) (am_r (am_bI B) (k83 v3))) : ∀ (n : Nat) (v3 : Int32) (v5 : Int32), am_E l g d_X11_most 41 [some (.ref (60)), some (.int (v1)), none, some (.int (v3)), some (.int (v4)), some (.int (v5))] [] (am_of B u) (am_r (am_bI B) (f_X11_most_41 u v1 v4 k83 n v3 v5)) := by
  intro n
  induction n with
  | zero => intro v3 v5; exact am_none
  | succ n ih =>
    intro v3 v5
    unfold f_X11_most_41
    refine e_iload dX11_most_41 rfl ?_
    refine e_aload_n dX11_most_43 rfl ?_
    refine q_getI dX11_most_44 lf_M_256 (by decide) (am_Lk hL rfl) ?_
    refine e_if2_ge dX11_most_47 (tgt := 83) (by decide) ?_ ?_
    · refine e_msk [true, true, false, true, true, false] (LS1 := [_, _, none, _, _, none]) rfl ?_
      exact hk83 v3
    · refine e_aload_n dX11_most_50 rfl ?_
      refine q_getR (r := 80) dX11_most_51 lf_M_69 rfl (by decide) (am_Lk hL rfl) (am_Lr hL rfl) ?_
      refine e_iload dX11_most_54 rfl ?_
      refine q_ialdH dX11_most_56 (am_Ls hL rfl) (fun i4 => ?_)
      refine e_iload_n dX11_most_57 rfl ?_
      refine e_if2_ne dX11_most_58 (tgt := 75) (by decide) ?_ ?_
      · refine e_iload_n dX11_most_75 rfl ?_
        refine e_istore_n dX11_most_76 (by decide) (LS1 := [_, _, none, _, _, _]) rfl ?_
        refine e_iinc dX11_most_77 rfl (v := _ + 1) rfl (by decide) (LS1 := [_, _, none, _, _, _]) rfl ?_
        refine e_goto dX11_most_80 (tgt := 41) (by decide) ?_
        exact ih v3 (v5 + 1)
      · refine e_iload_n dX11_most_61 rfl ?_
        refine e_aload_n dX11_most_62 rfl ?_
        refine q_getR (r := 81) dX11_most_63 lf_M_72 rfl (by decide) (am_Lk hL rfl) (am_Lr hL rfl) ?_
        refine e_iload dX11_most_66 rfl ?_
        refine q_ialdH dX11_most_68 (am_Ls hL rfl) (fun i5 => ?_)
        refine q_callSP (As := [_, _]) rfl dX11_most_69 lm_M_292 (am_fitB rfl) yo_X11_greater ys_X11_greater rfl (Nat.le_of_ble_eq_true rfl) (Nat.le_of_ble_eq_true rfl) (s_X11_greater hL _ _  _) (fun q6 => ?_)
        refine e_goto dX11_most_72 (tgt := 76) (by decide) ?_
        refine e_istore_n dX11_most_76 (by decide) (LS1 := [_, _, none, _, _, _]) rfl ?_
        refine e_iinc dX11_most_77 rfl (v := _ + 1) rfl (by decide) (LS1 := [_, _, none, _, _, _]) rfl ?_
        refine e_goto dX11_most_80 (tgt := 41) (by decide) ?_
        exact ih q6 (v5 + 1)

set_option maxRecDepth 100000 in
set_option maxHeartbeats 4000000 in
theorem s_X11_most_18 {l : Launch} {g : am_G} {B : am_M} {pl : Nat} (hL : am_Lay B pl) (v1 : Int32)  (k89 : Int32 → am_U → Option (Int32 × am_U)) (hk89 : ∀ (v3 : Int32) (u : am_U), am_E l g d_X11_most 89 [some (.ref (60)), none, none, some (.int (v3)), none, none] [] (am_of B u) (am_r (am_bI B) (k89 v3 u))) : ∀ (n : Nat) (v3 : Int32) (v4 : Int32) (u : am_U), am_E l g d_X11_most 18 [some (.ref (60)), some (.int (v1)), none, some (.int (v3)), some (.int (v4)), none] [] (am_of B u) (am_r (am_bI B) (f_X11_most_18 v1 k89 n v3 v4 u)) := by
  intro n
  induction n with
  | zero => intro v3 v4 u; exact am_none
  | succ n ih =>
    intro v3 v4 u
    unfold f_X11_most_18
    refine e_iload dX11_most_18 rfl ?_
    refine e_aload_n dX11_most_20 rfl ?_
    refine q_getI dX11_most_21 lf_M_263 (by decide) (am_Lk hL rfl) ?_
    refine e_if2_ge dX11_most_24 (tgt := 89) (by decide) ?_ ?_
    · refine e_msk [true, false, false, true, false, false] (LS1 := [_, none, none, _, none, none]) rfl ?_
      exact hk89 v3 u
    · refine e_aload_n dX11_most_27 rfl ?_
      refine e_aload_n dX11_most_28 rfl ?_
      refine q_getR (r := 83) dX11_most_29 lf_M_78 rfl (by decide) (am_Lk hL rfl) (am_Lr hL rfl) ?_
      refine e_iload dX11_most_32 rfl ?_
      refine q_ialdH dX11_most_34 (am_Ls hL rfl) (fun i2 => ?_)
      refine q_callVV (As := [_]) rfl dX11_most_35 lm_M_266 (am_fitB rfl) yo_X11_look ys_X11_look rfl rfl (by decide) (am_Lk hL rfl) rfl (Nat.le_of_ble_eq_true rfl) (Nat.le_of_ble_eq_true rfl) (s_X11_look hL _  _) (fun q3 => ?_)
      refine e_iconst dX11_most_38 (v := 0) (by decide) ?_
      refine e_istore dX11_most_39 (by decide) (LS1 := [_, _, none, _, _, _]) rfl ?_
      refine s_X11_most_41 hL _ _ _ _ (fun c7v3 => ?_) _ _ _
      · refine e_iinc dX11_most_83 rfl (v := _ + 1) rfl (by decide) (LS1 := [_, _, none, _, _, none]) rfl ?_
        refine e_goto dX11_most_86 (tgt := 18) (by decide) ?_
        exact ih c7v3 (v4 + 1) q3

set_option maxRecDepth 100000 in
set_option maxHeartbeats 4000000 in
theorem s_X11_most {l : Launch} {g : am_G} {B : am_M} {pl : Nat} (hL : am_Lay B pl) (a1 : Int32)  (u : am_U) : am_E l g d_X11_most 0 (am_ent d_X11_most [.ref (60), .int (a1)]) [] (am_of B u) (am_r (am_bI B) (f_X11_most a1 u)) := by
  unfold f_X11_most
  show am_E l g d_X11_most 0 [some (.ref (60)), some (.int (a1)), none, none, none, none] [] (am_of B u) _
  refine e_aload_n dX11_most_0 rfl ?_
  refine e_iconst dX11_most_1 (v := 1) (by decide) ?_
  refine e_iload_n dX11_most_2 rfl ?_
  refine q_callVI (As := [_, _]) rfl dX11_most_3 lm_M_282 (am_fitB rfl) yo_X11_needStates ys_X11_needStates rfl rfl (by decide) (am_Lk hL rfl) rfl (Nat.le_of_ble_eq_true rfl) (Nat.le_of_ble_eq_true rfl) (s_X11_needStates hL _ _  _) (fun q1 => ?_)
  refine e_istore_n dX11_most_6 (by decide) (LS1 := [_, _, _, none, none, none]) rfl ?_
  refine e_iload_n dX11_most_7 rfl ?_
  refine e_if_ge dX11_most_8 (tgt := 13) (by decide) ?_ ?_
  · refine e_iconst dX11_most_13 (v := 0) (by decide) ?_
    refine e_istore_n dX11_most_14 (by decide) (LS1 := [_, _, _, _, none, none]) rfl ?_
    refine e_iconst dX11_most_15 (v := 0) (by decide) ?_
    refine e_istore dX11_most_16 (by decide) (LS1 := [_, _, _, _, _, none]) rfl ?_
    refine e_msk [true, true, false, true, true, false] (LS1 := [_, _, none, _, _, none]) rfl ?_
    refine s_X11_most_18 hL _ _ (fun c8v3 c8u => ?_) _ _ _ _
    · refine e_aload_n dX11_most_89 rfl ?_
      refine e_aload_n dX11_most_90 rfl ?_
      refine q_getI dX11_most_91 lf_M_263 (by decide) (am_Lk hL rfl) ?_
      refine e_iload_n dX11_most_94 rfl ?_
      refine q_callVI (As := [_, _]) rfl dX11_most_95 lm_M_125 (am_fitB rfl) yo_X11_tells ys_X11_tells rfl rfl (by decide) (am_Lk hL rfl) rfl (Nat.le_of_ble_eq_true rfl) (Nat.le_of_ble_eq_true rfl) (s_X11_tells hL _ _  _) (fun q9 => ?_)
      exact e_iret dX11_most_98 rfl rfl
  · refine e_iload_n dX11_most_11 rfl ?_
    exact e_iret dX11_most_12 rfl rfl

def f_X11_pours (a1 : Int32) (a2 : Int32) (u : am_U) : Option (Int32 × am_U) :=
  (f_X11_in a2 0 20).bind (fun q1 =>
  (f_X11_needStates q1 a1 u).bind (fun q2 =>
  if 0 ≤ q2.1 then (
    (f_X11_firstState a1 a2 q2.2).bind (fun q3 =>
    if ¬ q3.1 = ((-9) : Int32) then (
      am_ck (am_ix q3.1 9261) (
      if (q3.2 82 q3.1.toNatClampNeg) ≤ 60 then (
        (f_X11_sumOf (q3.2 83 0) q3.2).bind (fun q5 =>
        (f_X11_sumOf q3.1 q5.2).bind (fun q6 =>
        (f_X11_tells (q5.1 - q6.1) (q6.2 82 q3.1.toNatClampNeg) q6.2).bind (fun q7 =>
        some (q7.1, q7.2)))))
      else (
        some (((-6) : Int32), q3.2))))
    else (
      some (((-9) : Int32), q3.2))))
  else (
    some (q2.1, q2.2))))
set_option maxRecDepth 100000 in
set_option maxHeartbeats 4000000 in
theorem s_X11_pours {l : Launch} {g : am_G} {B : am_M} {pl : Nat} (hL : am_Lay B pl) (a1 : Int32) (a2 : Int32)  (u : am_U) : am_E l g d_X11_pours 0 (am_ent d_X11_pours [.ref (60), .int (a1), .int (a2)]) [] (am_of B u) (am_r (am_bI B) (f_X11_pours a1 a2 u)) := by
  unfold f_X11_pours
  show am_E l g d_X11_pours 0 [some (.ref (60)), some (.int (a1)), some (.int (a2)), none, none] [] (am_of B u) _
  refine e_aload_n dX11_pours_0 rfl ?_
  refine e_iload_n dX11_pours_1 rfl ?_
  refine e_iconst dX11_pours_2 (v := 0) (by decide) ?_
  refine e_bipush dX11_pours_3 (v := 20) (by decide) ?_
  refine q_callSP (As := [_, _, _]) rfl dX11_pours_5 lm_M_106 (am_fitB rfl) yo_X11_in ys_X11_in rfl (Nat.le_of_ble_eq_true rfl) (Nat.le_of_ble_eq_true rfl) (s_X11_in hL _ _ _  _) (fun q1 => ?_)
  refine e_iload_n dX11_pours_8 rfl ?_
  refine q_callVI (As := [_, _]) rfl dX11_pours_9 lm_M_282 (am_fitB rfl) yo_X11_needStates ys_X11_needStates rfl rfl (by decide) (am_Lk hL rfl) rfl (Nat.le_of_ble_eq_true rfl) (Nat.le_of_ble_eq_true rfl) (s_X11_needStates hL _ _  _) (fun q2 => ?_)
  refine e_istore_n dX11_pours_12 (by decide) (LS1 := [_, _, _, _, none]) rfl ?_
  refine e_iload_n dX11_pours_13 rfl ?_
  refine e_if_ge dX11_pours_14 (tgt := 19) (by decide) ?_ ?_
  · refine e_aload_n dX11_pours_19 rfl ?_
    refine e_iload_n dX11_pours_20 rfl ?_
    refine e_iload_n dX11_pours_21 rfl ?_
    refine q_callVI (As := [_, _]) rfl dX11_pours_22 lm_M_286 (am_fitB rfl) yo_X11_firstState ys_X11_firstState rfl rfl (by decide) (am_Lk hL rfl) rfl (Nat.le_of_ble_eq_true rfl) (Nat.le_of_ble_eq_true rfl) (s_X11_firstState hL _ _  _) (fun q3 => ?_)
    refine e_istore dX11_pours_25 (by decide) (LS1 := [_, _, _, _, _]) rfl ?_
    refine e_iload dX11_pours_27 rfl ?_
    refine e_bipush dX11_pours_29 (v := ((-9) : Int32)) (by decide) ?_
    refine e_if2_ne dX11_pours_31 (tgt := 37) (by decide) ?_ ?_
    · refine e_aload_n dX11_pours_37 rfl ?_
      refine q_getR (r := 82) dX11_pours_38 lf_M_75 rfl (by decide) (am_Lk hL rfl) (am_Lr hL rfl) ?_
      refine e_iload dX11_pours_41 rfl ?_
      refine q_ialdH dX11_pours_43 (am_Ls hL rfl) (fun i4 => ?_)
      refine e_bipush dX11_pours_44 (v := 60) (by decide) ?_
      refine e_if2_le dX11_pours_46 (tgt := 54) (by decide) ?_ ?_
      · refine e_aload_n dX11_pours_54 rfl ?_
        refine e_aload_n dX11_pours_55 rfl ?_
        refine e_aload_n dX11_pours_56 rfl ?_
        refine q_getR (r := 83) dX11_pours_57 lf_M_78 rfl (by decide) (am_Lk hL rfl) (am_Lr hL rfl) ?_
        refine e_iconst dX11_pours_60 (v := 0) (by decide) ?_
        refine q_ialdC (jn := 0) dX11_pours_61 (am_Ls hL rfl) (by decide) (by decide) ?_
        refine q_callVI (As := [_]) rfl dX11_pours_62 lm_M_289 (am_fitB rfl) yo_X11_sumOf ys_X11_sumOf rfl rfl (by decide) (am_Lk hL rfl) rfl (Nat.le_of_ble_eq_true rfl) (Nat.le_of_ble_eq_true rfl) (s_X11_sumOf hL _  _) (fun q5 => ?_)
        refine e_aload_n dX11_pours_65 rfl ?_
        refine e_iload dX11_pours_66 rfl ?_
        refine q_callVI (As := [_]) rfl dX11_pours_68 lm_M_289 (am_fitB rfl) yo_X11_sumOf ys_X11_sumOf rfl rfl (by decide) (am_Lk hL rfl) rfl (Nat.le_of_ble_eq_true rfl) (Nat.le_of_ble_eq_true rfl) (s_X11_sumOf hL _  _) (fun q6 => ?_)
        refine e_isub dX11_pours_71 ?_
        refine e_aload_n dX11_pours_72 rfl ?_
        refine q_getR (r := 82) dX11_pours_73 lf_M_75 rfl (by decide) (am_Lk hL rfl) (am_Lr hL rfl) ?_
        refine e_iload dX11_pours_76 rfl ?_
        refine q_ialdC (jn := _) dX11_pours_78 (am_Ls hL rfl) i4 rfl ?_
        refine q_callVI (As := [_, _]) rfl dX11_pours_79 lm_M_125 (am_fitB rfl) yo_X11_tells ys_X11_tells rfl rfl (by decide) (am_Lk hL rfl) rfl (Nat.le_of_ble_eq_true rfl) (Nat.le_of_ble_eq_true rfl) (s_X11_tells hL _ _  _) (fun q7 => ?_)
        exact e_iret dX11_pours_82 rfl rfl
      · refine e_bipush dX11_pours_49 (v := ((-6) : Int32)) (by decide) ?_
        refine e_goto dX11_pours_51 (tgt := 82) (by decide) ?_
        exact e_iret dX11_pours_82 rfl rfl
    · refine e_bipush dX11_pours_34 (v := ((-9) : Int32)) (by decide) ?_
      exact e_iret dX11_pours_36 rfl rfl
  · refine e_iload_n dX11_pours_17 rfl ?_
    exact e_iret dX11_pours_18 rfl rfl

def f_X11_way_85 (v3 : Int32) (v5 : Int32) (v6 : Int32) (k111 : am_U → Option (Int32 × am_U)) : Nat → Int32 → am_U → Option (Int32 × am_U)
  | 0, _, _ => none
  | n + 1, v7, u =>
    if 60 ≤ v7 then (
      k111 u)
    else (
      am_ck (am_ix ((60 * v3) + v7) 360) (
      let u9 : am_U := am_w u 63 ((60 * v3) + v7).toNatClampNeg 0
      f_X11_way_85 v3 v5 v6 k111 n (v7 + 1) u9))
def f_X11_way_117 (v3 : Int32) (v6 : Int32) : Nat → Int32 → Int32 → am_U → Option (Int32 × am_U)
  | 0, _, _, _ => none
  | n + 1, v5, v7, u =>
    if v7 < 0 then (
      some (v6, u))
    else (
      am_ck (am_ix v5 9261) (
      am_ck (am_ix ((60 * v3) + v7) 360) (
      let u13 : am_U := am_w u 63 ((60 * v3) + v7).toNatClampNeg (u 85 v5.toNatClampNeg)
      f_X11_way_117 v3 v6 n (u13 84 v5.toNatClampNeg) (v7 + (-1)) u13)))
def f_X11_way (a1 : Int32) (a2 : Int32) (a3 : Int32) (u : am_U) : Option (Int32 × am_U) :=
  (f_X11_isRow a3).bind (fun q1 =>
  am_jn (fun (j2s0 : Int32) =>
    (f_X11_needStates j2s0 a1 u).bind (fun q3 =>
    if 0 ≤ q3.1 then (
      (f_X11_firstState a1 a2 q3.2).bind (fun q4 =>
      if ¬ q4.1 = ((-9) : Int32) then (
        am_ck (am_ix q4.1 9261) (
        let x6 : Int32 := q4.2 82 q4.1.toNatClampNeg
        if x6 ≤ 60 then (
          am_ck (am_ix a3 6) (
          let u7 : am_U := am_w q4.2 62 a3.toNatClampNeg x6
          f_X11_way_85 a3 q4.1 x6 (fun (c11u : am_U) =>
            f_X11_way_117 a3 x6 20000 q4.1 (x6 - 1) c11u) 20000 0 u7))
        else (
          some (((-6) : Int32), q4.2))))
      else (
        some (((-9) : Int32), q4.2))))
    else (
      some (q3.1, q3.2)))) (fun j2 =>
  am_jn (fun (j15z : Unit) =>
    j2 0) (fun j15 =>
  if q1 = 0 then (
    j15 () )
  else (
    (f_X11_in a2 0 20).bind (fun q16 =>
    if q16 = 0 then (
      j15 () )
    else (
      j2 1))))))
set_option maxRecDepth 100000 in
set_option maxHeartbeats 4000000 in
theorem s_X11_way_85 {l : Launch} {g : am_G} {B : am_M} {pl : Nat} (hL : am_Lay B pl) (v3 : Int32) (v5 : Int32) (v6 : Int32)  (k111 : am_U → Option (Int32 × am_U)) (hk111 : ∀  (u : am_U), am_E l g d_X11_way 111 [some (.ref (60)), none, none, some (.int (v3)), none, some (.int (v5)), some (.int (v6)), none] [] (am_of B u) (am_r (am_bI B) (k111 u))) : ∀ (n : Nat) (v7 : Int32) (u : am_U), am_E l g d_X11_way 85 [some (.ref (60)), none, none, some (.int (v3)), none, some (.int (v5)), some (.int (v6)), some (.int (v7))] [] (am_of B u) (am_r (am_bI B) (f_X11_way_85 v3 v5 v6 k111 n v7 u)) := by
  intro n
  induction n with
  | zero => intro v7 u; exact am_none
  | succ n ih =>
    intro v7 u
    unfold f_X11_way_85
    refine e_iload dX11_way_85 rfl ?_
    refine e_bipush dX11_way_87 (v := 60) (by decide) ?_
    refine e_if2_ge dX11_way_89 (tgt := 111) (by decide) ?_ ?_
    · refine e_msk [true, false, false, true, false, true, true, false] (LS1 := [_, none, none, _, none, _, _, none]) rfl ?_
      exact hk111 u
    · refine e_aload_n dX11_way_92 rfl ?_
      refine q_getR (r := 63) dX11_way_93 lf_M_16 rfl (by decide) (am_Lk hL rfl) (am_Lr hL rfl) ?_
      refine e_bipush dX11_way_96 (v := 60) (by decide) ?_
      refine e_iload_n dX11_way_98 rfl ?_
      refine e_imul dX11_way_99 ?_
      refine e_iload dX11_way_100 rfl ?_
      refine e_iadd dX11_way_102 ?_
      refine e_iconst dX11_way_103 (v := 0) (by decide) ?_
      refine q_iastH dX11_way_104 (am_Ls hL rfl) (fun i10 => ?_)
      refine e_iinc dX11_way_105 rfl (v := _ + 1) rfl (by decide) (LS1 := [_, none, none, _, none, _, _, _]) rfl ?_
      refine e_goto dX11_way_108 (tgt := 85) (by decide) ?_
      exact ih (v7 + 1) (am_w u 63 ((60 * v3) + v7).toNatClampNeg 0)

set_option maxRecDepth 100000 in
set_option maxHeartbeats 4000000 in
theorem s_X11_way_117 {l : Launch} {g : am_G} {B : am_M} {pl : Nat} (hL : am_Lay B pl) (v3 : Int32) (v6 : Int32)    : ∀ (n : Nat) (v5 : Int32) (v7 : Int32) (u : am_U), am_E l g d_X11_way 117 [some (.ref (60)), none, none, some (.int (v3)), none, some (.int (v5)), some (.int (v6)), some (.int (v7))] [] (am_of B u) (am_r (am_bI B) (f_X11_way_117 v3 v6 n v5 v7 u)) := by
  intro n
  induction n with
  | zero => intro v5 v7 u; exact am_none
  | succ n ih =>
    intro v5 v7 u
    unfold f_X11_way_117
    refine e_iload dX11_way_117 rfl ?_
    refine e_if_lt dX11_way_119 (tgt := 156) (by decide) ?_ ?_
    · refine e_iload dX11_way_156 rfl ?_
      exact e_iret dX11_way_158 rfl rfl
    · refine e_aload_n dX11_way_122 rfl ?_
      refine q_getR (r := 63) dX11_way_123 lf_M_16 rfl (by decide) (am_Lk hL rfl) (am_Lr hL rfl) ?_
      refine e_bipush dX11_way_126 (v := 60) (by decide) ?_
      refine e_iload_n dX11_way_128 rfl ?_
      refine e_imul dX11_way_129 ?_
      refine e_iload dX11_way_130 rfl ?_
      refine e_iadd dX11_way_132 ?_
      refine e_aload_n dX11_way_133 rfl ?_
      refine q_getR (r := 85) dX11_way_134 lf_M_84 rfl (by decide) (am_Lk hL rfl) (am_Lr hL rfl) ?_
      refine e_iload dX11_way_137 rfl ?_
      refine q_ialdH dX11_way_139 (am_Ls hL rfl) (fun i12 => ?_)
      refine q_iastH dX11_way_140 (am_Ls hL rfl) (fun i14 => ?_)
      refine e_aload_n dX11_way_141 rfl ?_
      refine q_getR (r := 84) dX11_way_142 lf_M_81 rfl (by decide) (am_Lk hL rfl) (am_Lr hL rfl) ?_
      refine e_iload dX11_way_145 rfl ?_
      refine q_ialdC (jn := _) dX11_way_147 (am_Ls hL rfl) i12 rfl ?_
      refine e_istore dX11_way_148 (by decide) (LS1 := [_, none, none, _, none, _, _, _]) rfl ?_
      refine e_iinc dX11_way_150 rfl (v := _ + (-1)) rfl (by decide) (LS1 := [_, none, none, _, none, _, _, _]) rfl ?_
      refine e_goto dX11_way_153 (tgt := 117) (by decide) ?_
      exact ih ((am_w u 63 ((60 * v3) + v7).toNatClampNeg (u 85 v5.toNatClampNeg)) 84 v5.toNatClampNeg) (v7 + (-1)) (am_w u 63 ((60 * v3) + v7).toNatClampNeg (u 85 v5.toNatClampNeg))

set_option maxRecDepth 100000 in
set_option maxHeartbeats 4000000 in
theorem s_X11_way {l : Launch} {g : am_G} {B : am_M} {pl : Nat} (hL : am_Lay B pl) (a1 : Int32) (a2 : Int32) (a3 : Int32)  (u : am_U) : am_E l g d_X11_way 0 (am_ent d_X11_way [.ref (60), .int (a1), .int (a2), .int (a3)]) [] (am_of B u) (am_r (am_bI B) (f_X11_way a1 a2 a3 u)) := by
  unfold f_X11_way
  show am_E l g d_X11_way 0 [some (.ref (60)), some (.int (a1)), some (.int (a2)), some (.int (a3)), none, none, none, none] [] (am_of B u) _
  refine e_aload_n dX11_way_0 rfl ?_
  refine e_iload_n dX11_way_1 rfl ?_
  refine q_callSP (As := [_]) rfl dX11_way_2 lm_M_113 (am_fitB rfl) yo_X11_isRow ys_X11_isRow rfl (Nat.le_of_ble_eq_true rfl) (Nat.le_of_ble_eq_true rfl) (s_X11_isRow hL _  _) (fun q1 => ?_)
  refine e_jn (P := fun t : Int32 → Option (Int32 × am_U) => ∀ (j2s0 : Int32), am_E l g d_X11_way 23 [some (.ref (60)), some (.int (a1)), some (.int (a2)), some (.int (a3)), none, none, none, none] [.int (j2s0), .ref (60)] (am_of B u) (am_r (am_bI B) (t j2s0))) ?_ (fun j2 hj2 => ?_)
  · intro j2s0
    refine e_iload_n dX11_way_23 rfl ?_
    refine q_callVI (As := [_, _]) rfl dX11_way_24 lm_M_282 (am_fitB rfl) yo_X11_needStates ys_X11_needStates rfl rfl (by decide) (am_Lk hL rfl) rfl (Nat.le_of_ble_eq_true rfl) (Nat.le_of_ble_eq_true rfl) (s_X11_needStates hL _ _  _) (fun q3 => ?_)
    refine e_istore dX11_way_27 (by decide) (LS1 := [_, _, _, _, _, none, none, none]) rfl ?_
    refine e_iload dX11_way_29 rfl ?_
    refine e_if_ge dX11_way_31 (tgt := 37) (by decide) ?_ ?_
    · refine e_aload_n dX11_way_37 rfl ?_
      refine e_iload_n dX11_way_38 rfl ?_
      refine e_iload_n dX11_way_39 rfl ?_
      refine q_callVI (As := [_, _]) rfl dX11_way_40 lm_M_286 (am_fitB rfl) yo_X11_firstState ys_X11_firstState rfl rfl (by decide) (am_Lk hL rfl) rfl (Nat.le_of_ble_eq_true rfl) (Nat.le_of_ble_eq_true rfl) (s_X11_firstState hL _ _  _) (fun q4 => ?_)
      refine e_istore dX11_way_43 (by decide) (LS1 := [_, _, _, _, _, _, none, none]) rfl ?_
      refine e_iload dX11_way_45 rfl ?_
      refine e_bipush dX11_way_47 (v := ((-9) : Int32)) (by decide) ?_
      refine e_if2_ne dX11_way_49 (tgt := 55) (by decide) ?_ ?_
      · refine e_aload_n dX11_way_55 rfl ?_
        refine q_getR (r := 82) dX11_way_56 lf_M_75 rfl (by decide) (am_Lk hL rfl) (am_Lr hL rfl) ?_
        refine e_iload dX11_way_59 rfl ?_
        refine q_ialdH dX11_way_61 (am_Ls hL rfl) (fun i5 => ?_)
        refine e_istore dX11_way_62 (by decide) (LS1 := [_, _, _, _, _, _, _, none]) rfl ?_
        refine e_iload dX11_way_64 rfl ?_
        refine e_bipush dX11_way_66 (v := 60) (by decide) ?_
        refine e_if2_le dX11_way_68 (tgt := 74) (by decide) ?_ ?_
        · refine e_aload_n dX11_way_74 rfl ?_
          refine q_getR (r := 62) dX11_way_75 lf_M_13 rfl (by decide) (am_Lk hL rfl) (am_Lr hL rfl) ?_
          refine e_iload_n dX11_way_78 rfl ?_
          refine e_iload dX11_way_79 rfl ?_
          refine q_iastH dX11_way_81 (am_Ls hL rfl) (fun i8 => ?_)
          refine e_iconst dX11_way_82 (v := 0) (by decide) ?_
          refine e_istore dX11_way_83 (by decide) (LS1 := [_, _, _, _, _, _, _, _]) rfl ?_
          refine e_msk [true, false, false, true, false, true, true, true] (LS1 := [_, none, none, _, none, _, _, _]) rfl ?_
          refine s_X11_way_85 hL _ _ _ _ (fun c11u => ?_) _ _ _
          · refine e_iload dX11_way_111 rfl ?_
            refine e_iconst dX11_way_113 (v := 1) (by decide) ?_
            refine e_isub dX11_way_114 ?_
            refine e_istore dX11_way_115 (by decide) (LS1 := [_, none, none, _, none, _, _, _]) rfl ?_
            refine s_X11_way_117 hL _ _ _ _ _ _
        · refine e_bipush dX11_way_71 (v := ((-6) : Int32)) (by decide) ?_
          exact e_iret dX11_way_73 rfl rfl
      · refine e_bipush dX11_way_52 (v := ((-9) : Int32)) (by decide) ?_
        exact e_iret dX11_way_54 rfl rfl
    · refine e_iload dX11_way_34 rfl ?_
      exact e_iret dX11_way_36 rfl rfl
  · refine e_jn (P := fun t : Unit → Option (Int32 × am_U) => ∀ (j15z : Unit), am_E l g d_X11_way 22 [some (.ref (60)), some (.int (a1)), some (.int (a2)), some (.int (a3)), none, none, none, none] [.ref (60)] (am_of B u) (am_r (am_bI B) (t j15z))) ?_ (fun j15 hj15 => ?_)
    · intro j15z
      refine e_iconst dX11_way_22 (v := 0) (by decide) ?_
      refine e_msk [true, true, true, true, false, false, false, false] (LS1 := [_, _, _, _, none, none, none, none]) rfl ?_
      exact hj2 0
    · refine e_if_eq dX11_way_5 (tgt := 22) (by decide) ?_ ?_
      · refine e_msk [true, true, true, true, false, false, false, false] (LS1 := [_, _, _, _, none, none, none, none]) rfl ?_
        exact hj15 () 
      · refine e_iload_n dX11_way_8 rfl ?_
        refine e_iconst dX11_way_9 (v := 0) (by decide) ?_
        refine e_bipush dX11_way_10 (v := 20) (by decide) ?_
        refine q_callSP (As := [_, _, _]) rfl dX11_way_12 lm_M_106 (am_fitB rfl) yo_X11_in ys_X11_in rfl (Nat.le_of_ble_eq_true rfl) (Nat.le_of_ble_eq_true rfl) (s_X11_in hL _ _ _  _) (fun q16 => ?_)
        refine e_if_eq dX11_way_15 (tgt := 22) (by decide) ?_ ?_
        · refine e_msk [true, true, true, true, false, false, false, false] (LS1 := [_, _, _, _, none, none, none, none]) rfl ?_
          exact hj15 () 
        · refine e_iconst dX11_way_18 (v := 1) (by decide) ?_
          refine e_goto dX11_way_19 (tgt := 23) (by decide) ?_
          refine e_msk [true, true, true, true, false, false, false, false] (LS1 := [_, _, _, _, none, none, none, none]) rfl ?_
          exact hj2 1

def f_X3_priceLighting_3 (v1 : Nat) (v2 : Int32) (v3 : Int32) : Nat → Int32 → am_U → Option (am_U)
  | 0, _, _ => none
  | n + 1, v4, u =>
    if v3 ≤ v4 then (
      some u)
    else (
      (f_X5_hoursOfSet v1 v4 v2 u).bind (fun q1 =>
      am_ck (am_ix v2 5) (
      am_jn (fun (j3s0 : Int32) =>
        (f_J6_bitCount_0f7a4 v4).bind (fun q4 =>
        if j3s0 = 0 then (
          am_ck (am_ix v4 64) (
          let u5 : am_U := am_w u 28 v4.toNatClampNeg 1000000000
          f_X3_priceLighting_3 v1 v2 v3 n (v4 + 1) u5))
        else (
          (f_X3_figuresOf v1 v4 v2 u).bind (fun q7 =>
          am_ck (am_ix v4 64) (
          let u8 : am_U := am_w u 28 v4.toNatClampNeg (((q4 * 15625) + q7) - 1000000)
          f_X3_priceLighting_3 v1 v2 v3 n (v4 + 1) u8))))) (fun j3 =>
      if q1 < (u (v1 + 2) v2.toNatClampNeg) then (
        j3 0)
      else (
        j3 1)))))
def f_X3_priceLighting (a1 : Nat) (a2 : Int32) (a3 : Int32) (u : am_U) : Option (am_U) :=
  f_X3_priceLighting_3 a1 a2 a3 20000 0 u
set_option maxRecDepth 100000 in
set_option maxHeartbeats 4000000 in
theorem s_X3_priceLighting_3 {l : Launch} {g : am_G} {B : am_M} {pl : Nat} (hL : am_Lay B pl) (v1 : Nat) (v2 : Int32) (v3 : Int32) (hv1 : am_isPlan B v1)   : ∀ (n : Nat) (v4 : Int32) (u : am_U), am_E l g d_X3_priceLighting 3 [some (.ref (26)), some (.ref (v1)), some (.int (v2)), some (.int (v3)), some (.int (v4)), none, none] [] (am_of B u) (am_r (am_bV B) (f_X3_priceLighting_3 v1 v2 v3 n v4 u)) := by
  intro n
  induction n with
  | zero => intro v4 u; exact am_none
  | succ n ih =>
    intro v4 u
    unfold f_X3_priceLighting_3
    refine e_iload dX3_priceLighting_3 rfl ?_
    refine e_iload_n dX3_priceLighting_5 rfl ?_
    refine e_if2_ge dX3_priceLighting_6 (tgt := 79) (by decide) ?_ ?_
    · exact e_vret dX3_priceLighting_79 rfl rfl
    · refine e_aload_n dX3_priceLighting_9 rfl ?_
      refine e_iload dX3_priceLighting_10 rfl ?_
      refine e_iload_n dX3_priceLighting_12 rfl ?_
      refine q_callVP (As := [_, _]) rfl dX3_priceLighting_13 lm_Loads_58 (am_fitB rfl) yo_X5_hoursOfSet ys_X5_hoursOfSet rfl rfl (by decide) (congrArg Prod.fst hv1.1) rfl (Nat.le_of_ble_eq_true rfl) (Nat.le_of_ble_eq_true rfl) (s_X5_hoursOfSet hL _ _ _ hv1 _) (fun q1 => ?_)
      refine e_aload_n dX3_priceLighting_16 rfl ?_
      refine q_getR (r := v1 + 2) dX3_priceLighting_17 lf_Loads_31 rfl (by decide) (congrArg Prod.fst hv1.1) (am_avs hv1.2.1.2.1) ?_
      refine e_iload_n dX3_priceLighting_20 rfl ?_
      refine q_ialdH dX3_priceLighting_21 hv1.2.2.2.1 (fun i2 => ?_)
      refine e_jn (P := fun t : Int32 → Option (am_U) => ∀ (j3s0 : Int32), am_E l g d_X3_priceLighting 30 [some (.ref (26)), some (.ref (v1)), some (.int (v2)), some (.int (v3)), some (.int (v4)), none, none] [.int (j3s0)] (am_of B u) (am_r (am_bV B) (t j3s0))) ?_ (fun j3 hj3 => ?_)
      · intro j3s0
        refine e_istore dX3_priceLighting_30 (by decide) (LS1 := [_, _, _, _, _, _, none]) rfl ?_
        refine e_iload dX3_priceLighting_32 rfl ?_
        refine q_callSP (As := [_]) rfl dX3_priceLighting_34 lm_Loads_61 (am_fitB rfl) yo_J6_bitCount_0f7a4 ys_J6_bitCount_0f7a4 rfl (Nat.le_of_ble_eq_true rfl) (Nat.le_of_ble_eq_true rfl) (s_J6_bitCount_0f7a4 hL _  _) (fun q4 => ?_)
        refine e_sipush dX3_priceLighting_37 (v := 15625) (by decide) ?_
        refine e_imul dX3_priceLighting_40 ?_
        refine e_istore dX3_priceLighting_41 (by decide) (LS1 := [_, _, _, _, _, _, _]) rfl ?_
        refine e_aload_n dX3_priceLighting_43 rfl ?_
        refine q_getR (r := 28) dX3_priceLighting_44 lf_Loads_15 rfl (by decide) (am_Lk hL rfl) (am_Lr hL rfl) ?_
        refine e_iload dX3_priceLighting_47 rfl ?_
        refine e_iload dX3_priceLighting_49 rfl ?_
        refine e_if_eq dX3_priceLighting_51 (tgt := 70) (by decide) ?_ ?_
        · refine e_ldc dX3_priceLighting_70 lc_Loads_24 ?_
          refine q_iastH dX3_priceLighting_72 (am_Ls hL rfl) (fun i6 => ?_)
          refine e_iinc dX3_priceLighting_73 rfl (v := _ + 1) rfl (by decide) (LS1 := [_, _, _, _, _, _, _]) rfl ?_
          refine e_goto dX3_priceLighting_76 (tgt := 3) (by decide) ?_
          refine e_msk [true, true, true, true, true, false, false] (LS1 := [_, _, _, _, _, none, none]) rfl ?_
          exact ih (v4 + 1) (am_w u 28 v4.toNatClampNeg 1000000000)
        · refine e_iload dX3_priceLighting_54 rfl ?_
          refine e_aload_n dX3_priceLighting_56 rfl ?_
          refine e_iload dX3_priceLighting_57 rfl ?_
          refine e_iload_n dX3_priceLighting_59 rfl ?_
          refine q_callSP (As := [_, _, _]) rfl dX3_priceLighting_60 lm_Loads_67 (am_fitB rfl) yo_X3_figuresOf ys_X3_figuresOf rfl (Nat.le_of_ble_eq_true rfl) (Nat.le_of_ble_eq_true rfl) (s_X3_figuresOf hL _ _ _ hv1 _) (fun q7 => ?_)
          refine e_iadd dX3_priceLighting_63 ?_
          refine e_ldc dX3_priceLighting_64 lc_Loads_51 ?_
          refine e_isub dX3_priceLighting_66 ?_
          refine e_goto dX3_priceLighting_67 (tgt := 72) (by decide) ?_
          refine q_iastH dX3_priceLighting_72 (am_Ls hL rfl) (fun i9 => ?_)
          refine e_iinc dX3_priceLighting_73 rfl (v := _ + 1) rfl (by decide) (LS1 := [_, _, _, _, _, _, _]) rfl ?_
          refine e_goto dX3_priceLighting_76 (tgt := 3) (by decide) ?_
          refine e_msk [true, true, true, true, true, false, false] (LS1 := [_, _, _, _, _, none, none]) rfl ?_
          exact ih (v4 + 1) (am_w u 28 v4.toNatClampNeg (((q4 * 15625) + q7) - 1000000))
      · refine e_if2_lt dX3_priceLighting_22 (tgt := 29) (by decide) ?_ ?_
        · refine e_iconst dX3_priceLighting_29 (v := 0) (by decide) ?_
          refine e_msk [true, true, true, true, true, false, false] (LS1 := [_, _, _, _, _, none, none]) rfl ?_
          exact hj3 0
        · refine e_iconst dX3_priceLighting_25 (v := 1) (by decide) ?_
          refine e_goto dX3_priceLighting_26 (tgt := 30) (by decide) ?_
          refine e_msk [true, true, true, true, true, false, false] (LS1 := [_, _, _, _, _, none, none]) rfl ?_
          exact hj3 1

set_option maxRecDepth 100000 in
set_option maxHeartbeats 4000000 in
theorem s_X3_priceLighting {l : Launch} {g : am_G} {B : am_M} {pl : Nat} (hL : am_Lay B pl) (a1 : Nat) (a2 : Int32) (a3 : Int32) (h1 : am_isPlan B a1) (u : am_U) : am_E l g d_X3_priceLighting 0 (am_ent d_X3_priceLighting [.ref (26), .ref (a1), .int (a2), .int (a3)]) [] (am_of B u) (am_r (am_bV B) (f_X3_priceLighting a1 a2 a3 u)) := by
  unfold f_X3_priceLighting
  show am_E l g d_X3_priceLighting 0 [some (.ref (26)), some (.ref (a1)), some (.int (a2)), some (.int (a3)), none, none, none] [] (am_of B u) _
  refine e_iconst dX3_priceLighting_0 (v := 0) (by decide) ?_
  refine e_istore dX3_priceLighting_1 (by decide) (LS1 := [_, _, _, _, _, none, none]) rfl ?_
  refine s_X3_priceLighting_3 hL _ _ _ h1 _ _ _

