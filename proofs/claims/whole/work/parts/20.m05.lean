def f_X4_save (a0 n0 : Nat) (a1 : Int32) (u : am_U) : Option (am_U) :=
  (f_X4_isSlot a0 n0 (a1 * 30) u).bind (fun q1 =>
  if ¬ q1 = 0 then (
    am_ck (am_cp 0 ((a1 * 30) + 0) 6 6 n0) (
    let u2 : am_U := am_rw u (a0 + 1) (va_cpy (u 9) (u (a0 + 1)) (0 : Int32).toNatClampNeg ((a1 * 30) + 0).toNatClampNeg (6 : Int32).toNatClampNeg)
    am_ck (am_cp 0 ((a1 * 30) + 6) 6 6 n0) (
    let u3 : am_U := am_rw u2 (a0 + 1) (va_cpy (u2 10) (u2 (a0 + 1)) (0 : Int32).toNatClampNeg ((a1 * 30) + 6).toNatClampNeg (6 : Int32).toNatClampNeg)
    am_ck (am_cp 0 ((a1 * 30) + 12) 6 6 n0) (
    let u4 : am_U := am_rw u3 (a0 + 1) (va_cpy (u3 11) (u3 (a0 + 1)) (0 : Int32).toNatClampNeg ((a1 * 30) + 12).toNatClampNeg (6 : Int32).toNatClampNeg)
    am_ck (am_cp 0 ((a1 * 30) + 18) 5 5 n0) (
    let u5 : am_U := am_rw u4 (a0 + 1) (va_cpy (u4 12) (u4 (a0 + 1)) (0 : Int32).toNatClampNeg ((a1 * 30) + 18).toNatClampNeg (5 : Int32).toNatClampNeg)
    am_ck (am_cp 0 ((a1 * 30) + 23) 5 5 n0) (
    let u6 : am_U := am_rw u5 (a0 + 1) (va_cpy (u5 13) (u5 (a0 + 1)) (0 : Int32).toNatClampNeg ((a1 * 30) + 23).toNatClampNeg (5 : Int32).toNatClampNeg)
    am_ck (am_ix ((a1 * 30) + 28) n0) (
    let u7 : am_U := am_w u6 (a0 + 1) ((a1 * 30) + 28).toNatClampNeg (u6 8 5)
    am_ck (am_ix ((a1 * 30) + 29) n0) (
    let u9 : am_U := am_w u7 (a0 + 1) ((a1 * 30) + 29).toNatClampNeg (u7 8 6)
    some u9))))))))
  else (
    some u))
set_option maxRecDepth 100000 in
set_option maxHeartbeats 4000000 in
theorem s_X4_save {l : Launch} {g : am_G} {B : am_M} {pl : Nat} (hL : am_Lay B pl) (a0 n0 : Nat) (a1 : Int32) (h0 : am_isMem B a0 n0) (u : am_U) : am_E l g d_X4_save 0 (am_ent d_X4_save [.ref (a0), .int (a1), .ref (8)]) [] (am_of B u) (am_r (am_bV B) (f_X4_save a0 n0 a1 u)) := by
  unfold f_X4_save
  show am_E l g d_X4_save 0 [some (.ref (a0)), some (.int (a1)), some (.ref (8)), none] [] (am_of B u) _
  refine e_iload_n dX4_save_0 rfl ?_
  refine e_bipush dX4_save_1 (v := 30) (by decide) ?_
  refine e_imul dX4_save_3 ?_
  refine e_istore_n dX4_save_4 (by decide) (LS1 := [_, _, _, _]) rfl ?_
  refine e_aload_n dX4_save_5 rfl ?_
  refine e_iload_n dX4_save_6 rfl ?_
  refine q_callVP (As := [_]) rfl dX4_save_7 lm_Memory_21 (am_fitB rfl) yo_X4_isSlot ys_X4_isSlot rfl rfl (by decide) (congrArg Prod.fst h0.1) rfl (Nat.le_of_ble_eq_true rfl) (Nat.le_of_ble_eq_true rfl) (s_X4_isSlot hL _ _ _ h0 _) (fun q1 => ?_)
  refine e_if_ne dX4_save_10 (tgt := 14) (by decide) ?_ ?_
  · refine e_aload_n dX4_save_14 rfl ?_
    refine q_getR (r := 9) dX4_save_15 lf_Memory_25 rfl (by decide) (am_Lk hL rfl) (am_Lr hL rfl) ?_
    refine e_iconst dX4_save_18 (v := 0) (by decide) ?_
    refine e_aload_n dX4_save_19 rfl ?_
    refine q_getR (r := a0 + 1) dX4_save_20 lf_Memory_17 rfl (by decide) (congrArg Prod.fst h0.1) (am_avs h0.2.1) ?_
    refine e_iload_n dX4_save_23 rfl ?_
    refine e_iconst dX4_save_24 (v := 0) (by decide) ?_
    refine e_iadd dX4_save_25 ?_
    refine e_bipush dX4_save_26 (v := 6) (by decide) ?_
    refine q_copy dX4_save_28 lm_Memory_30 lw_nat lw_cps lw_sys (am_Ls hL rfl) h0.2.2 (by decide) (by decide +kernel) ?_
    refine e_aload_n dX4_save_31 rfl ?_
    refine q_getR (r := 10) dX4_save_32 lf_Memory_36 rfl (by decide) (am_Lk hL rfl) (am_Lr hL rfl) ?_
    refine e_iconst dX4_save_35 (v := 0) (by decide) ?_
    refine e_aload_n dX4_save_36 rfl ?_
    refine q_getR (r := a0 + 1) dX4_save_37 lf_Memory_17 rfl (by decide) (congrArg Prod.fst h0.1) (am_avs h0.2.1) ?_
    refine e_iload_n dX4_save_40 rfl ?_
    refine e_bipush dX4_save_41 (v := 6) (by decide) ?_
    refine e_iadd dX4_save_43 ?_
    refine e_bipush dX4_save_44 (v := 6) (by decide) ?_
    refine q_copy dX4_save_46 lm_Memory_30 lw_nat lw_cps lw_sys (am_Ls hL rfl) h0.2.2 (by decide) (by decide +kernel) ?_
    refine e_aload_n dX4_save_49 rfl ?_
    refine q_getR (r := 11) dX4_save_50 lf_Memory_39 rfl (by decide) (am_Lk hL rfl) (am_Lr hL rfl) ?_
    refine e_iconst dX4_save_53 (v := 0) (by decide) ?_
    refine e_aload_n dX4_save_54 rfl ?_
    refine q_getR (r := a0 + 1) dX4_save_55 lf_Memory_17 rfl (by decide) (congrArg Prod.fst h0.1) (am_avs h0.2.1) ?_
    refine e_iload_n dX4_save_58 rfl ?_
    refine e_bipush dX4_save_59 (v := 12) (by decide) ?_
    refine e_iadd dX4_save_61 ?_
    refine e_bipush dX4_save_62 (v := 6) (by decide) ?_
    refine q_copy dX4_save_64 lm_Memory_30 lw_nat lw_cps lw_sys (am_Ls hL rfl) h0.2.2 (by decide) (by decide +kernel) ?_
    refine e_aload_n dX4_save_67 rfl ?_
    refine q_getR (r := 12) dX4_save_68 lf_Memory_42 rfl (by decide) (am_Lk hL rfl) (am_Lr hL rfl) ?_
    refine e_iconst dX4_save_71 (v := 0) (by decide) ?_
    refine e_aload_n dX4_save_72 rfl ?_
    refine q_getR (r := a0 + 1) dX4_save_73 lf_Memory_17 rfl (by decide) (congrArg Prod.fst h0.1) (am_avs h0.2.1) ?_
    refine e_iload_n dX4_save_76 rfl ?_
    refine e_bipush dX4_save_77 (v := 18) (by decide) ?_
    refine e_iadd dX4_save_79 ?_
    refine e_iconst dX4_save_80 (v := 5) (by decide) ?_
    refine q_copy dX4_save_81 lm_Memory_30 lw_nat lw_cps lw_sys (am_Ls hL rfl) h0.2.2 (by decide) (by decide +kernel) ?_
    refine e_aload_n dX4_save_84 rfl ?_
    refine q_getR (r := 13) dX4_save_85 lf_Memory_45 rfl (by decide) (am_Lk hL rfl) (am_Lr hL rfl) ?_
    refine e_iconst dX4_save_88 (v := 0) (by decide) ?_
    refine e_aload_n dX4_save_89 rfl ?_
    refine q_getR (r := a0 + 1) dX4_save_90 lf_Memory_17 rfl (by decide) (congrArg Prod.fst h0.1) (am_avs h0.2.1) ?_
    refine e_iload_n dX4_save_93 rfl ?_
    refine e_bipush dX4_save_94 (v := 23) (by decide) ?_
    refine e_iadd dX4_save_96 ?_
    refine e_iconst dX4_save_97 (v := 5) (by decide) ?_
    refine q_copy dX4_save_98 lm_Memory_30 lw_nat lw_cps lw_sys (am_Ls hL rfl) h0.2.2 (by decide) (by decide +kernel) ?_
    refine e_aload_n dX4_save_101 rfl ?_
    refine q_getR (r := a0 + 1) dX4_save_102 lf_Memory_17 rfl (by decide) (congrArg Prod.fst h0.1) (am_avs h0.2.1) ?_
    refine e_iload_n dX4_save_105 rfl ?_
    refine e_bipush dX4_save_106 (v := 28) (by decide) ?_
    refine e_iadd dX4_save_108 ?_
    refine e_aload_n dX4_save_109 rfl ?_
    refine q_getI dX4_save_110 lf_Memory_48 (by decide) (am_Lk hL rfl) ?_
    refine q_iastH dX4_save_113 h0.2.2 (fun i8 => ?_)
    refine e_aload_n dX4_save_114 rfl ?_
    refine q_getR (r := a0 + 1) dX4_save_115 lf_Memory_17 rfl (by decide) (congrArg Prod.fst h0.1) (am_avs h0.2.1) ?_
    refine e_iload_n dX4_save_118 rfl ?_
    refine e_bipush dX4_save_119 (v := 29) (by decide) ?_
    refine e_iadd dX4_save_121 ?_
    refine e_aload_n dX4_save_122 rfl ?_
    refine q_getI dX4_save_123 lf_Memory_52 (by decide) (am_Lk hL rfl) ?_
    refine q_iastH dX4_save_126 h0.2.2 (fun i10 => ?_)
    exact e_vret dX4_save_127 rfl rfl
  · exact e_vret dX4_save_13 rfl rfl

def f_X5_countOf_4 (u : am_U) (v0 : Nat) (v1 : Int32) : Nat → Int32 → Int32 → Option (Int32)
  | 0, _, _ => none
  | n + 1, v2, v3 =>
    if (u v0 2) ≤ v3 then (
      some v2)
    else (
      am_ck (am_ix v3 6) (
      (f_X2_is (u (v0 + 3) v3.toNatClampNeg) v1).bind (fun q2 =>
      if q2 = 0 then (
        f_X5_countOf_4 u v0 v1 n v2 (v3 + 1))
      else (
        f_X5_countOf_4 u v0 v1 n (v2 + 1) (v3 + 1)))))
def f_X5_countOf (a0 : Nat) (a1 : Int32) (u : am_U) : Option (Int32) :=
  f_X5_countOf_4 u a0 a1 20000 0 0
set_option maxRecDepth 100000 in
set_option maxHeartbeats 4000000 in
theorem s_X5_countOf_4 {l : Launch} {g : am_G} {B : am_M} {pl : Nat} (hL : am_Lay B pl) (u : am_U) (v0 : Nat) (v1 : Int32) (hv0 : am_isPlan B v0)   : ∀ (n : Nat) (v2 : Int32) (v3 : Int32), am_E l g d_X5_countOf 4 [some (.ref (v0)), some (.int (v1)), some (.int (v2)), some (.int (v3))] [] (am_of B u) (am_r (am_bP B u) (f_X5_countOf_4 u v0 v1 n v2 v3)) := by
  intro n
  induction n with
  | zero => intro v2 v3; exact am_none
  | succ n ih =>
    intro v2 v3
    unfold f_X5_countOf_4
    refine e_iload_n dX5_countOf_4 rfl ?_
    refine e_aload_n dX5_countOf_5 rfl ?_
    refine q_getI dX5_countOf_6 lf_Plan_28 (by decide) (congrArg Prod.fst hv0.1) ?_
    refine e_if2_ge dX5_countOf_9 (tgt := 34) (by decide) ?_ ?_
    · refine e_iload_n dX5_countOf_34 rfl ?_
      exact e_iret dX5_countOf_35 rfl rfl
    · refine e_aload_n dX5_countOf_12 rfl ?_
      refine q_getR (r := v0 + 3) dX5_countOf_13 lf_Plan_18 rfl (by decide) (congrArg Prod.fst hv0.1) (am_avs hv0.2.1.2.2.1) ?_
      refine e_iload_n dX5_countOf_16 rfl ?_
      refine q_ialdH dX5_countOf_17 hv0.2.2.2.2.1 (fun i1 => ?_)
      refine e_iload_n dX5_countOf_18 rfl ?_
      refine q_callSP (As := [_, _]) rfl dX5_countOf_19 lm_Plan_31 (am_fitB rfl) yo_X2_is ys_X2_is rfl (Nat.le_of_ble_eq_true rfl) (Nat.le_of_ble_eq_true rfl) (s_X2_is hL _ _  _) (fun q2 => ?_)
      refine e_if_eq dX5_countOf_22 (tgt := 28) (by decide) ?_ ?_
      · refine e_iinc dX5_countOf_28 rfl (v := _ + 1) rfl (by decide) (LS1 := [_, _, _, _]) rfl ?_
        refine e_goto dX5_countOf_31 (tgt := 4) (by decide) ?_
        exact ih v2 (v3 + 1)
      · refine e_iinc dX5_countOf_25 rfl (v := _ + 1) rfl (by decide) (LS1 := [_, _, _, _]) rfl ?_
        refine e_iinc dX5_countOf_28 rfl (v := _ + 1) rfl (by decide) (LS1 := [_, _, _, _]) rfl ?_
        refine e_goto dX5_countOf_31 (tgt := 4) (by decide) ?_
        exact ih (v2 + 1) (v3 + 1)

set_option maxRecDepth 100000 in
set_option maxHeartbeats 4000000 in
theorem s_X5_countOf {l : Launch} {g : am_G} {B : am_M} {pl : Nat} (hL : am_Lay B pl) (a0 : Nat) (a1 : Int32) (h0 : am_isPlan B a0) (u : am_U) : am_E l g d_X5_countOf 0 (am_ent d_X5_countOf [.ref (a0), .int (a1)]) [] (am_of B u) (am_r (am_bP B u) (f_X5_countOf a0 a1 u)) := by
  unfold f_X5_countOf
  show am_E l g d_X5_countOf 0 [some (.ref (a0)), some (.int (a1)), none, none] [] (am_of B u) _
  refine e_iconst dX5_countOf_0 (v := 0) (by decide) ?_
  refine e_istore_n dX5_countOf_1 (by decide) (LS1 := [_, _, _, none]) rfl ?_
  refine e_iconst dX5_countOf_2 (v := 0) (by decide) ?_
  refine e_istore_n dX5_countOf_3 (by decide) (LS1 := [_, _, _, _]) rfl ?_
  refine s_X5_countOf_4 hL _ _ _ h0 _ _ _

def f_X6_comeTo (a0 : Nat) (a1 : Int32) (a2 : Int32) (a3 : Int32) (u : am_U) : Option (am_U) :=
  (f_X10_isWithin a1 0 9260).bind (fun q1 =>
  if q1 = 0 then (
    some u)
  else (
    am_ck (am_ix a1 9261) (
    if (u (a0 + 3) a1.toNatClampNeg) = (u a0 5) then (
      some u)
    else (
      if 9261 ≤ (u a0 7) then (
        some u)
      else (
        let u3 : am_U := am_w u (a0 + 3) a1.toNatClampNeg (u a0 5)
        am_ck (am_ix (u3 a0 7) 9261) (
        let u4 : am_U := am_w u3 (a0 + 1) (u3 a0 7).toNatClampNeg a1
        am_ck (am_ix (u4 a0 7) 9261) (
        let u6 : am_U := am_w u4 (a0 + 2) (u4 a0 7).toNatClampNeg ((36 * a2) + a3)
        let u8 : am_U := am_w u6 a0 7 ((u6 a0 7) + 1)
        some u8)))))))
set_option maxRecDepth 100000 in
set_option maxHeartbeats 4000000 in
theorem s_X6_comeTo {l : Launch} {g : am_G} {B : am_M} {pl : Nat} (hL : am_Lay B pl) (a0 : Nat) (a1 : Int32) (a2 : Int32) (a3 : Int32) (h0 : am_isPour B a0) (u : am_U) : am_E l g d_X6_comeTo 0 (am_ent d_X6_comeTo [.ref (a0), .int (a1), .int (a2), .int (a3)]) [] (am_of B u) (am_r (am_bV B) (f_X6_comeTo a0 a1 a2 a3 u)) := by
  unfold f_X6_comeTo
  show am_E l g d_X6_comeTo 0 [some (.ref (a0)), some (.int (a1)), some (.int (a2)), some (.int (a3))] [] (am_of B u) _
  refine e_iload_n dX6_comeTo_0 rfl ?_
  refine e_iconst dX6_comeTo_1 (v := 0) (by decide) ?_
  refine e_sipush dX6_comeTo_2 (v := 9260) (by decide) ?_
  refine q_callSP (As := [_, _, _]) rfl dX6_comeTo_5 lm_Pourings_100 (am_fitB rfl) yo_X10_isWithin ys_X10_isWithin rfl (Nat.le_of_ble_eq_true rfl) (Nat.le_of_ble_eq_true rfl) (s_X10_isWithin hL _ _ _  _) (fun q1 => ?_)
  refine e_if_eq dX6_comeTo_8 (tgt := 79) (by decide) ?_ ?_
  · exact e_vret dX6_comeTo_79 rfl rfl
  · refine e_aload_n dX6_comeTo_11 rfl ?_
    refine q_getR (r := a0 + 3) dX6_comeTo_12 lf_Pourings_18 rfl (by decide) (congrArg Prod.fst h0.1) (am_avs h0.2.1.2.2.1) ?_
    refine e_iload_n dX6_comeTo_15 rfl ?_
    refine q_ialdH dX6_comeTo_16 h0.2.2.2.2.1 (fun i2 => ?_)
    refine e_aload_n dX6_comeTo_17 rfl ?_
    refine q_getI dX6_comeTo_18 lf_Pourings_27 (by decide) (congrArg Prod.fst h0.1) ?_
    refine e_if2_eq dX6_comeTo_21 (tgt := 79) (by decide) ?_ ?_
    · exact e_vret dX6_comeTo_79 rfl rfl
    · refine e_aload_n dX6_comeTo_24 rfl ?_
      refine q_getI dX6_comeTo_25 lf_Pourings_31 (by decide) (congrArg Prod.fst h0.1) ?_
      refine e_sipush dX6_comeTo_28 (v := 9261) (by decide) ?_
      refine e_if2_ge dX6_comeTo_31 (tgt := 79) (by decide) ?_ ?_
      · exact e_vret dX6_comeTo_79 rfl rfl
      · refine e_aload_n dX6_comeTo_34 rfl ?_
        refine q_getR (r := a0 + 3) dX6_comeTo_35 lf_Pourings_18 rfl (by decide) (congrArg Prod.fst h0.1) (am_avs h0.2.1.2.2.1) ?_
        refine e_iload_n dX6_comeTo_38 rfl ?_
        refine e_aload_n dX6_comeTo_39 rfl ?_
        refine q_getI dX6_comeTo_40 lf_Pourings_27 (by decide) (congrArg Prod.fst h0.1) ?_
        refine q_iastC (jn := _) dX6_comeTo_43 h0.2.2.2.2.1 i2 rfl ?_
        refine e_aload_n dX6_comeTo_44 rfl ?_
        refine q_getR (r := a0 + 1) dX6_comeTo_45 lf_Pourings_11 rfl (by decide) (congrArg Prod.fst h0.1) (am_avs h0.2.1.1) ?_
        refine e_aload_n dX6_comeTo_48 rfl ?_
        refine q_getI dX6_comeTo_49 lf_Pourings_31 (by decide) (congrArg Prod.fst h0.1) ?_
        refine e_iload_n dX6_comeTo_52 rfl ?_
        refine q_iastH dX6_comeTo_53 h0.2.2.1 (fun i5 => ?_)
        refine e_aload_n dX6_comeTo_54 rfl ?_
        refine q_getR (r := a0 + 2) dX6_comeTo_55 lf_Pourings_15 rfl (by decide) (congrArg Prod.fst h0.1) (am_avs h0.2.1.2.1) ?_
        refine e_aload_n dX6_comeTo_58 rfl ?_
        refine q_getI dX6_comeTo_59 lf_Pourings_31 (by decide) (congrArg Prod.fst h0.1) ?_
        refine e_bipush dX6_comeTo_62 (v := 36) (by decide) ?_
        refine e_iload_n dX6_comeTo_64 rfl ?_
        refine e_imul dX6_comeTo_65 ?_
        refine e_iload_n dX6_comeTo_66 rfl ?_
        refine e_iadd dX6_comeTo_67 ?_
        refine q_iastH dX6_comeTo_68 h0.2.2.2.1 (fun i7 => ?_)
        refine e_aload_n dX6_comeTo_69 rfl ?_
        refine e_dup dX6_comeTo_70 rfl ?_
        refine q_getI dX6_comeTo_71 lf_Pourings_31 (by decide) (congrArg Prod.fst h0.1) ?_
        refine e_iconst dX6_comeTo_74 (v := 1) (by decide) ?_
        refine e_iadd dX6_comeTo_75 ?_
        refine q_putI dX6_comeTo_76 lf_Pourings_31 rfl (by decide) (congrArg Prod.fst h0.1) ?_
        exact e_vret dX6_comeTo_79 rfl rfl

def f_X6_firstWith_9 (u : am_U) (v0 : Nat) (v2 : Int32) (v3 : Int32) : Nat → Int32 → Option (Int32)
  | 0, _ => none
  | n + 1, v4 =>
    if (u v0 7) ≤ v4 then (
      some ((-9) : Int32))
    else (
      am_ck (am_ix v4 9261) (
      (f_X6_held (u (v0 + 1) v4.toNatClampNeg) v3 u).bind (fun q3 =>
      if ¬ q3 = v2 then (
        f_X6_firstWith_9 u v0 v2 v3 n (v4 + 1))
      else (
        some v4))))
def f_X6_firstWith (a0 : Nat) (a1 : Int32) (a2 : Int32) (u : am_U) : Option (Int32) :=
  (f_X6_slotOf a0 a1 u).bind (fun q1 =>
  f_X6_firstWith_9 u a0 a2 q1 20000 0)
set_option maxRecDepth 100000 in
set_option maxHeartbeats 4000000 in
theorem s_X6_firstWith_9 {l : Launch} {g : am_G} {B : am_M} {pl : Nat} (hL : am_Lay B pl) (u : am_U) (v0 : Nat) (v2 : Int32) (v3 : Int32) (hv0 : am_isPour B v0)   : ∀ (n : Nat) (v4 : Int32), am_E l g d_X6_firstWith 9 [some (.ref (v0)), none, some (.int (v2)), some (.int (v3)), some (.int (v4))] [] (am_of B u) (am_r (am_bP B u) (f_X6_firstWith_9 u v0 v2 v3 n v4)) := by
  intro n
  induction n with
  | zero => intro v4; exact am_none
  | succ n ih =>
    intro v4
    unfold f_X6_firstWith_9
    refine e_iload dX6_firstWith_9 rfl ?_
    refine e_aload_n dX6_firstWith_11 rfl ?_
    refine q_getI dX6_firstWith_12 lf_Pourings_31 (by decide) (congrArg Prod.fst hv0.1) ?_
    refine e_if2_ge dX6_firstWith_15 (tgt := 42) (by decide) ?_ ?_
    · refine e_bipush dX6_firstWith_42 (v := ((-9) : Int32)) (by decide) ?_
      exact e_iret dX6_firstWith_44 rfl rfl
    · refine e_aload_n dX6_firstWith_18 rfl ?_
      refine q_getR (r := v0 + 1) dX6_firstWith_19 lf_Pourings_11 rfl (by decide) (congrArg Prod.fst hv0.1) (am_avs hv0.2.1.1) ?_
      refine e_iload dX6_firstWith_22 rfl ?_
      refine q_ialdH dX6_firstWith_24 hv0.2.2.1 (fun i2 => ?_)
      refine e_iload_n dX6_firstWith_25 rfl ?_
      refine q_callSP (As := [_, _]) rfl dX6_firstWith_26 lm_Pourings_50 (am_fitB rfl) yo_X6_held ys_X6_held rfl (Nat.le_of_ble_eq_true rfl) (Nat.le_of_ble_eq_true rfl) (s_X6_held hL _ _  _) (fun q3 => ?_)
      refine e_iload_n dX6_firstWith_29 rfl ?_
      refine e_if2_ne dX6_firstWith_30 (tgt := 36) (by decide) ?_ ?_
      · refine e_iinc dX6_firstWith_36 rfl (v := _ + 1) rfl (by decide) (LS1 := [_, none, _, _, _]) rfl ?_
        refine e_goto dX6_firstWith_39 (tgt := 9) (by decide) ?_
        exact ih (v4 + 1)
      · refine e_iload dX6_firstWith_33 rfl ?_
        exact e_iret dX6_firstWith_35 rfl rfl

set_option maxRecDepth 100000 in
set_option maxHeartbeats 4000000 in
theorem s_X6_firstWith {l : Launch} {g : am_G} {B : am_M} {pl : Nat} (hL : am_Lay B pl) (a0 : Nat) (a1 : Int32) (a2 : Int32) (h0 : am_isPour B a0) (u : am_U) : am_E l g d_X6_firstWith 0 (am_ent d_X6_firstWith [.ref (a0), .int (a1), .int (a2)]) [] (am_of B u) (am_r (am_bP B u) (f_X6_firstWith a0 a1 a2 u)) := by
  unfold f_X6_firstWith
  show am_E l g d_X6_firstWith 0 [some (.ref (a0)), some (.int (a1)), some (.int (a2)), none, none] [] (am_of B u) _
  refine e_aload_n dX6_firstWith_0 rfl ?_
  refine e_iload_n dX6_firstWith_1 rfl ?_
  refine q_callVP (As := [_]) rfl dX6_firstWith_2 lm_Pourings_46 (am_fitB rfl) yo_X6_slotOf ys_X6_slotOf rfl rfl (by decide) (congrArg Prod.fst h0.1) rfl (Nat.le_of_ble_eq_true rfl) (Nat.le_of_ble_eq_true rfl) (s_X6_slotOf hL _ _ h0 _) (fun q1 => ?_)
  refine e_istore_n dX6_firstWith_5 (by decide) (LS1 := [_, _, _, _, none]) rfl ?_
  refine e_iconst dX6_firstWith_6 (v := 0) (by decide) ?_
  refine e_istore dX6_firstWith_7 (by decide) (LS1 := [_, _, _, _, _]) rfl ?_
  refine e_msk [true, false, true, true, true] (LS1 := [_, none, _, _, _]) rfl ?_
  refine s_X6_firstWith_9 hL _ _ _ _ h0 _ _

def f_X6_mostIn_11 (u : am_U) (v0 : Nat) (v2 : Int32) : Nat → Int32 → Int32 → Option (Int32)
  | 0, _, _ => none
  | n + 1, v3, v4 =>
    if (u v0 7) ≤ v4 then (
      some v3)
    else (
      am_ck (am_ix v4 9261) (
      (f_X6_held (u (v0 + 1) v4.toNatClampNeg) v2 u).bind (fun q3 =>
      (f_J9_max_7cf53 v3 q3).bind (fun q4 =>
      f_X6_mostIn_11 u v0 v2 n q4 (v4 + 1)))))
def f_X6_mostIn (a0 : Nat) (a1 : Int32) (u : am_U) : Option (Int32) :=
  (f_X6_slotOf a0 a1 u).bind (fun q1 =>
  f_X6_mostIn_11 u a0 q1 20000 0 0)
set_option maxRecDepth 100000 in
set_option maxHeartbeats 4000000 in
theorem s_X6_mostIn_11 {l : Launch} {g : am_G} {B : am_M} {pl : Nat} (hL : am_Lay B pl) (u : am_U) (v0 : Nat) (v2 : Int32) (hv0 : am_isPour B v0)   : ∀ (n : Nat) (v3 : Int32) (v4 : Int32), am_E l g d_X6_mostIn 11 [some (.ref (v0)), none, some (.int (v2)), some (.int (v3)), some (.int (v4))] [] (am_of B u) (am_r (am_bP B u) (f_X6_mostIn_11 u v0 v2 n v3 v4)) := by
  intro n
  induction n with
  | zero => intro v3 v4; exact am_none
  | succ n ih =>
    intro v3 v4
    unfold f_X6_mostIn_11
    refine e_iload dX6_mostIn_11 rfl ?_
    refine e_aload_n dX6_mostIn_13 rfl ?_
    refine q_getI dX6_mostIn_14 lf_Pourings_31 (by decide) (congrArg Prod.fst hv0.1) ?_
    refine e_if2_ge dX6_mostIn_17 (tgt := 42) (by decide) ?_ ?_
    · refine e_iload_n dX6_mostIn_42 rfl ?_
      exact e_iret dX6_mostIn_43 rfl rfl
    · refine e_iload_n dX6_mostIn_20 rfl ?_
      refine e_aload_n dX6_mostIn_21 rfl ?_
      refine q_getR (r := v0 + 1) dX6_mostIn_22 lf_Pourings_11 rfl (by decide) (congrArg Prod.fst hv0.1) (am_avs hv0.2.1.1) ?_
      refine e_iload dX6_mostIn_25 rfl ?_
      refine q_ialdH dX6_mostIn_27 hv0.2.2.1 (fun i2 => ?_)
      refine e_iload_n dX6_mostIn_28 rfl ?_
      refine q_callSP (As := [_, _]) rfl dX6_mostIn_29 lm_Pourings_50 (am_fitB rfl) yo_X6_held ys_X6_held rfl (Nat.le_of_ble_eq_true rfl) (Nat.le_of_ble_eq_true rfl) (s_X6_held hL _ _  _) (fun q3 => ?_)
      refine q_callSP (As := [_, _]) rfl dX6_mostIn_32 lm_Pourings_69 (am_fitB rfl) yo_J9_max_7cf53 ys_J9_max_7cf53 rfl (Nat.le_of_ble_eq_true rfl) (Nat.le_of_ble_eq_true rfl) (s_J9_max_7cf53 hL _ _  _) (fun q4 => ?_)
      refine e_istore_n dX6_mostIn_35 (by decide) (LS1 := [_, none, _, _, _]) rfl ?_
      refine e_iinc dX6_mostIn_36 rfl (v := _ + 1) rfl (by decide) (LS1 := [_, none, _, _, _]) rfl ?_
      refine e_goto dX6_mostIn_39 (tgt := 11) (by decide) ?_
      exact ih q4 (v4 + 1)

set_option maxRecDepth 100000 in
set_option maxHeartbeats 4000000 in
theorem s_X6_mostIn {l : Launch} {g : am_G} {B : am_M} {pl : Nat} (hL : am_Lay B pl) (a0 : Nat) (a1 : Int32) (h0 : am_isPour B a0) (u : am_U) : am_E l g d_X6_mostIn 0 (am_ent d_X6_mostIn [.ref (a0), .int (a1)]) [] (am_of B u) (am_r (am_bP B u) (f_X6_mostIn a0 a1 u)) := by
  unfold f_X6_mostIn
  show am_E l g d_X6_mostIn 0 [some (.ref (a0)), some (.int (a1)), none, none, none] [] (am_of B u) _
  refine e_aload_n dX6_mostIn_0 rfl ?_
  refine e_iload_n dX6_mostIn_1 rfl ?_
  refine q_callVP (As := [_]) rfl dX6_mostIn_2 lm_Pourings_46 (am_fitB rfl) yo_X6_slotOf ys_X6_slotOf rfl rfl (by decide) (congrArg Prod.fst h0.1) rfl (Nat.le_of_ble_eq_true rfl) (Nat.le_of_ble_eq_true rfl) (s_X6_slotOf hL _ _ h0 _) (fun q1 => ?_)
  refine e_istore_n dX6_mostIn_5 (by decide) (LS1 := [_, _, _, none, none]) rfl ?_
  refine e_iconst dX6_mostIn_6 (v := 0) (by decide) ?_
  refine e_istore_n dX6_mostIn_7 (by decide) (LS1 := [_, _, _, _, none]) rfl ?_
  refine e_iconst dX6_mostIn_8 (v := 0) (by decide) ?_
  refine e_istore dX6_mostIn_9 (by decide) (LS1 := [_, _, _, _, _]) rfl ?_
  refine e_msk [true, false, true, true, true] (LS1 := [_, none, _, _, _]) rfl ?_
  refine s_X6_mostIn_11 hL _ _ _ h0 _ _ _

def f_X6_total (a0 : Int32) (u : am_U) : Option (Int32) :=
  (f_X6_held a0 0 u).bind (fun q1 =>
  (f_X6_held a0 1 u).bind (fun q2 =>
  (f_X6_held a0 2 u).bind (fun q3 =>
  some ((q1 + q2) + q3))))
set_option maxRecDepth 100000 in
set_option maxHeartbeats 4000000 in
theorem s_X6_total {l : Launch} {g : am_G} {B : am_M} {pl : Nat} (hL : am_Lay B pl) (a0 : Int32)  (u : am_U) : am_E l g d_X6_total 0 (am_ent d_X6_total [.int (a0)]) [] (am_of B u) (am_r (am_bP B u) (f_X6_total a0 u)) := by
  unfold f_X6_total
  show am_E l g d_X6_total 0 [some (.int (a0))] [] (am_of B u) _
  refine e_iload_n dX6_total_0 rfl ?_
  refine e_iconst dX6_total_1 (v := 0) (by decide) ?_
  refine q_callSP (As := [_, _]) rfl dX6_total_2 lm_Pourings_50 (am_fitB rfl) yo_X6_held ys_X6_held rfl (Nat.le_of_ble_eq_true rfl) (Nat.le_of_ble_eq_true rfl) (s_X6_held hL _ _  _) (fun q1 => ?_)
  refine e_iload_n dX6_total_5 rfl ?_
  refine e_iconst dX6_total_6 (v := 1) (by decide) ?_
  refine q_callSP (As := [_, _]) rfl dX6_total_7 lm_Pourings_50 (am_fitB rfl) yo_X6_held ys_X6_held rfl (Nat.le_of_ble_eq_true rfl) (Nat.le_of_ble_eq_true rfl) (s_X6_held hL _ _  _) (fun q2 => ?_)
  refine e_iadd dX6_total_10 ?_
  refine e_iload_n dX6_total_11 rfl ?_
  refine e_iconst dX6_total_12 (v := 2) (by decide) ?_
  refine q_callSP (As := [_, _]) rfl dX6_total_13 lm_Pourings_50 (am_fitB rfl) yo_X6_held ys_X6_held rfl (Nat.le_of_ble_eq_true rfl) (Nat.le_of_ble_eq_true rfl) (s_X6_held hL _ _  _) (fun q3 => ?_)
  refine e_iadd dX6_total_16 ?_
  exact e_iret dX6_total_17 rfl rfl

def f_X7_sign (tx : Nat) (u : am_U) : Option (Int32) :=
  (f_X8_has tx (u 7 1) u).bind (fun q1 =>
  if q1 = 0 then (
    some 1000)
  else (
    am_ck (am_ix (u 7 1) 60) (
    some (u (tx + 1) (u 7 1).toNatClampNeg))))
set_option maxRecDepth 100000 in
set_option maxHeartbeats 4000000 in
theorem s_X7_sign {l : Launch} {g : am_G} {B : am_M} {pl : Nat} (hL : am_Lay B pl) {tx : Nat} (htx : am_av (am_ro B 7 0) = .ref tx) (hT : am_isRow B tx)   (u : am_U) : am_E l g d_X7_sign 0 (am_ent d_X7_sign [.ref (7)]) [] (am_of B u) (am_r (am_bP B u) (f_X7_sign tx u)) := by
  unfold f_X7_sign
  show am_E l g d_X7_sign 0 [some (.ref (7))] [] (am_of B u) _
  refine e_aload_n dX7_sign_0 rfl ?_
  refine q_getR (r := tx) dX7_sign_1 lf_Reader_9 rfl (by decide) (am_Lk hL rfl) htx ?_
  refine e_ifnull dX7_sign_4 ?_
  refine e_aload_n dX7_sign_7 rfl ?_
  refine q_getR (r := tx) dX7_sign_8 lf_Reader_9 rfl (by decide) (am_Lk hL rfl) htx ?_
  refine e_aload_n dX7_sign_11 rfl ?_
  refine q_getI dX7_sign_12 lf_Reader_15 (by decide) (am_Lk hL rfl) ?_
  refine q_callVP (As := [_]) rfl dX7_sign_15 lm_Reader_84 (am_fitB rfl) yo_X8_has ys_X8_has rfl rfl (by decide) (congrArg Prod.fst hT.1) rfl (Nat.le_of_ble_eq_true rfl) (Nat.le_of_ble_eq_true rfl) (s_X8_has hL _ _ hT _) (fun q1 => ?_)
  refine e_if_eq dX7_sign_18 (tgt := 36) (by decide) ?_ ?_
  · refine e_sipush dX7_sign_36 (v := 1000) (by decide) ?_
    exact e_iret dX7_sign_39 rfl rfl
  · refine e_aload_n dX7_sign_21 rfl ?_
    refine q_getR (r := tx) dX7_sign_22 lf_Reader_9 rfl (by decide) (am_Lk hL rfl) htx ?_
    refine q_getR (r := tx + 1) dX7_sign_25 lf_Reader_90 rfl (by decide) (congrArg Prod.fst hT.1) (am_avs hT.2.1) ?_
    refine e_aload_n dX7_sign_28 rfl ?_
    refine q_getI dX7_sign_29 lf_Reader_15 (by decide) (am_Lk hL rfl) ?_
    refine q_ialdH dX7_sign_32 hT.2.2 (fun i2 => ?_)
    refine e_goto dX7_sign_33 (tgt := 39) (by decide) ?_
    exact e_iret dX7_sign_39 rfl rfl

def f_X8_isAllWithin_2 (u : am_U) (v0 : Nat) (v1 : Int32) (v2 : Int32) : Nat → Int32 → Option (Int32)
  | 0, _ => none
  | n + 1, v3 =>
    if (u v0 1) ≤ v3 then (
      some 1)
    else (
      am_ck (am_ix v3 60) (
      (f_X10_isWithin (u (v0 + 1) v3.toNatClampNeg) v1 v2).bind (fun q2 =>
      if ¬ q2 = 0 then (
        f_X8_isAllWithin_2 u v0 v1 v2 n (v3 + 1))
      else (
        some 0))))
def f_X8_isAllWithin (a0 : Nat) (a1 : Int32) (a2 : Int32) (u : am_U) : Option (Int32) :=
  f_X8_isAllWithin_2 u a0 a1 a2 20000 0
set_option maxRecDepth 100000 in
set_option maxHeartbeats 4000000 in
theorem s_X8_isAllWithin_2 {l : Launch} {g : am_G} {B : am_M} {pl : Nat} (hL : am_Lay B pl) (u : am_U) (v0 : Nat) (v1 : Int32) (v2 : Int32) (hv0 : am_isRow B v0)   : ∀ (n : Nat) (v3 : Int32), am_E l g d_X8_isAllWithin 2 [some (.ref (v0)), some (.int (v1)), some (.int (v2)), some (.int (v3))] [] (am_of B u) (am_r (am_bP B u) (f_X8_isAllWithin_2 u v0 v1 v2 n v3)) := by
  intro n
  induction n with
  | zero => intro v3; exact am_none
  | succ n ih =>
    intro v3
    unfold f_X8_isAllWithin_2
    refine e_iload_n dX8_isAllWithin_2 rfl ?_
    refine e_aload_n dX8_isAllWithin_3 rfl ?_
    refine q_getI dX8_isAllWithin_4 lf_Row_15 (by decide) (congrArg Prod.fst hv0.1) ?_
    refine e_if2_ge dX8_isAllWithin_7 (tgt := 32) (by decide) ?_ ?_
    · refine e_iconst dX8_isAllWithin_32 (v := 1) (by decide) ?_
      exact e_zret dX8_isAllWithin_33 rfl rfl (Or.inr rfl)
    · refine e_aload_n dX8_isAllWithin_10 rfl ?_
      refine q_getR (r := v0 + 1) dX8_isAllWithin_11 lf_Row_9 rfl (by decide) (congrArg Prod.fst hv0.1) (am_avs hv0.2.1) ?_
      refine e_iload_n dX8_isAllWithin_14 rfl ?_
      refine q_ialdH dX8_isAllWithin_15 hv0.2.2 (fun i1 => ?_)
      refine e_iload_n dX8_isAllWithin_16 rfl ?_
      refine e_iload_n dX8_isAllWithin_17 rfl ?_
      refine q_callSP (As := [_, _, _]) rfl dX8_isAllWithin_18 lm_Row_25 (am_fitB rfl) yo_X10_isWithin ys_X10_isWithin rfl (Nat.le_of_ble_eq_true rfl) (Nat.le_of_ble_eq_true rfl) (s_X10_isWithin hL _ _ _  _) (fun q2 => ?_)
      refine e_if_ne dX8_isAllWithin_21 (tgt := 26) (by decide) ?_ ?_
      · refine e_iinc dX8_isAllWithin_26 rfl (v := _ + 1) rfl (by decide) (LS1 := [_, _, _, _]) rfl ?_
        refine e_goto dX8_isAllWithin_29 (tgt := 2) (by decide) ?_
        exact ih (v3 + 1)
      · refine e_iconst dX8_isAllWithin_24 (v := 0) (by decide) ?_
        exact e_zret dX8_isAllWithin_25 rfl rfl (Or.inl rfl)

set_option maxRecDepth 100000 in
set_option maxHeartbeats 4000000 in
theorem s_X8_isAllWithin {l : Launch} {g : am_G} {B : am_M} {pl : Nat} (hL : am_Lay B pl) (a0 : Nat) (a1 : Int32) (a2 : Int32) (h0 : am_isRow B a0) (u : am_U) : am_E l g d_X8_isAllWithin 0 (am_ent d_X8_isAllWithin [.ref (a0), .int (a1), .int (a2)]) [] (am_of B u) (am_r (am_bP B u) (f_X8_isAllWithin a0 a1 a2 u)) := by
  unfold f_X8_isAllWithin
  show am_E l g d_X8_isAllWithin 0 [some (.ref (a0)), some (.int (a1)), some (.int (a2)), none] [] (am_of B u) _
  refine e_iconst dX8_isAllWithin_0 (v := 0) (by decide) ?_
  refine e_istore_n dX8_isAllWithin_1 (by decide) (LS1 := [_, _, _, _]) rfl ?_
  refine s_X8_isAllWithin_2 hL _ _ _ _ h0 _ _

def f_X8_makeAnew (a0 : Nat) (a1 : Int32) (a2 : Int32) (u : am_U) : Option (am_U) :=
  let u1 : am_U := am_w u a0 1 a1
  (f_J7_fill_53178 (a0 + 1) 60 a2 u1).bind (fun q2 =>
  some q2)
set_option maxRecDepth 100000 in
set_option maxHeartbeats 4000000 in
theorem s_X8_makeAnew {l : Launch} {g : am_G} {B : am_M} {pl : Nat} (hL : am_Lay B pl) (a0 : Nat) (a1 : Int32) (a2 : Int32) (h0 : am_isRow B a0) (u : am_U) : am_E l g d_X8_makeAnew 0 (am_ent d_X8_makeAnew [.ref (a0), .int (a1), .int (a2)]) [] (am_of B u) (am_r (am_bV B) (f_X8_makeAnew a0 a1 a2 u)) := by
  unfold f_X8_makeAnew
  show am_E l g d_X8_makeAnew 0 [some (.ref (a0)), some (.int (a1)), some (.int (a2))] [] (am_of B u) _
  refine e_aload_n dX8_makeAnew_0 rfl ?_
  refine e_iload_n dX8_makeAnew_1 rfl ?_
  refine q_putI dX8_makeAnew_2 lf_Row_15 rfl (by decide) (congrArg Prod.fst h0.1) ?_
  refine e_aload_n dX8_makeAnew_5 rfl ?_
  refine q_getR (r := a0 + 1) dX8_makeAnew_6 lf_Row_9 rfl (by decide) (congrArg Prod.fst h0.1) (am_avs h0.2.1) ?_
  refine e_iload_n dX8_makeAnew_9 rfl ?_
  refine q_callSV (As := [_, _]) rfl dX8_makeAnew_10 lm_Row_19 (am_fitB rfl) yo_J7_fill_53178 ys_J7_fill_53178 rfl (Nat.le_of_ble_eq_true rfl) (Nat.le_of_ble_eq_true rfl) (s_J7_fill_53178 hL _ _ _ h0.2.2 _) (fun q2 => ?_)
  exact e_vret dX8_makeAnew_13 rfl rfl

def f_X9_clear (u : am_U) : Option (am_U) :=
  (f_J7_fill_53178 9 6 0 u).bind (fun q1 =>
  (f_J7_fill_53178 10 6 0 q1).bind (fun q2 =>
  (f_J7_fill_53178 11 6 0 q2).bind (fun q3 =>
  (f_J7_fill_53178 12 5 0 q3).bind (fun q4 =>
  (f_J7_fill_53178 13 5 0 q4).bind (fun q5 =>
  let u6 : am_U := am_w q5 8 5 0
  let u7 : am_U := am_w u6 8 6 0
  some u7)))))
set_option maxRecDepth 100000 in
set_option maxHeartbeats 4000000 in
theorem s_X9_clear {l : Launch} {g : am_G} {B : am_M} {pl : Nat} (hL : am_Lay B pl)   (u : am_U) : am_E l g d_X9_clear 0 (am_ent d_X9_clear [.ref (8)]) [] (am_of B u) (am_r (am_bV B) (f_X9_clear u)) := by
  unfold f_X9_clear
  show am_E l g d_X9_clear 0 [some (.ref (8))] [] (am_of B u) _
  refine e_aload_n dX9_clear_0 rfl ?_
  refine q_getR (r := 9) dX9_clear_1 lf_Scene_9 rfl (by decide) (am_Lk hL rfl) (am_Lr hL rfl) ?_
  refine e_iconst dX9_clear_4 (v := 0) (by decide) ?_
  refine q_callSV (As := [_, _]) rfl dX9_clear_5 lm_Scene_27 (am_fitB rfl) yo_J7_fill_53178 ys_J7_fill_53178 rfl (Nat.le_of_ble_eq_true rfl) (Nat.le_of_ble_eq_true rfl) (s_J7_fill_53178 hL _ _ _ (am_Ls hL rfl) _) (fun q1 => ?_)
  refine e_aload_n dX9_clear_8 rfl ?_
  refine q_getR (r := 10) dX9_clear_9 lf_Scene_15 rfl (by decide) (am_Lk hL rfl) (am_Lr hL rfl) ?_
  refine e_iconst dX9_clear_12 (v := 0) (by decide) ?_
  refine q_callSV (As := [_, _]) rfl dX9_clear_13 lm_Scene_27 (am_fitB rfl) yo_J7_fill_53178 ys_J7_fill_53178 rfl (Nat.le_of_ble_eq_true rfl) (Nat.le_of_ble_eq_true rfl) (s_J7_fill_53178 hL _ _ _ (am_Ls hL rfl) _) (fun q2 => ?_)
  refine e_aload_n dX9_clear_16 rfl ?_
  refine q_getR (r := 11) dX9_clear_17 lf_Scene_18 rfl (by decide) (am_Lk hL rfl) (am_Lr hL rfl) ?_
  refine e_iconst dX9_clear_20 (v := 0) (by decide) ?_
  refine q_callSV (As := [_, _]) rfl dX9_clear_21 lm_Scene_27 (am_fitB rfl) yo_J7_fill_53178 ys_J7_fill_53178 rfl (Nat.le_of_ble_eq_true rfl) (Nat.le_of_ble_eq_true rfl) (s_J7_fill_53178 hL _ _ _ (am_Ls hL rfl) _) (fun q3 => ?_)
  refine e_aload_n dX9_clear_24 rfl ?_
  refine q_getR (r := 12) dX9_clear_25 lf_Scene_21 rfl (by decide) (am_Lk hL rfl) (am_Lr hL rfl) ?_
  refine e_iconst dX9_clear_28 (v := 0) (by decide) ?_
  refine q_callSV (As := [_, _]) rfl dX9_clear_29 lm_Scene_27 (am_fitB rfl) yo_J7_fill_53178 ys_J7_fill_53178 rfl (Nat.le_of_ble_eq_true rfl) (Nat.le_of_ble_eq_true rfl) (s_J7_fill_53178 hL _ _ _ (am_Ls hL rfl) _) (fun q4 => ?_)
  refine e_aload_n dX9_clear_32 rfl ?_
  refine q_getR (r := 13) dX9_clear_33 lf_Scene_24 rfl (by decide) (am_Lk hL rfl) (am_Lr hL rfl) ?_
  refine e_iconst dX9_clear_36 (v := 0) (by decide) ?_
  refine q_callSV (As := [_, _]) rfl dX9_clear_37 lm_Scene_27 (am_fitB rfl) yo_J7_fill_53178 ys_J7_fill_53178 rfl (Nat.le_of_ble_eq_true rfl) (Nat.le_of_ble_eq_true rfl) (s_J7_fill_53178 hL _ _ _ (am_Ls hL rfl) _) (fun q5 => ?_)
  refine e_aload_n dX9_clear_40 rfl ?_
  refine e_iconst dX9_clear_41 (v := 0) (by decide) ?_
  refine q_putI dX9_clear_42 lf_Scene_33 rfl (by decide) (am_Lk hL rfl) ?_
  refine e_aload_n dX9_clear_45 rfl ?_
  refine e_iconst dX9_clear_46 (v := 0) (by decide) ?_
  refine q_putI dX9_clear_47 lf_Scene_37 rfl (by decide) (am_Lk hL rfl) ?_
  exact e_vret dX9_clear_50 rfl rfl

def f_X9_startDay (u : am_U) : Option (am_U) :=
  (f_J7_fill_53178 12 5 0 u).bind (fun q1 =>
  let u2 : am_U := am_w q1 8 6 0
  let u3 : am_U := am_w u2 8 5 ((u2 8 5) + 1)
  some u3)
set_option maxRecDepth 100000 in
set_option maxHeartbeats 4000000 in
theorem s_X9_startDay {l : Launch} {g : am_G} {B : am_M} {pl : Nat} (hL : am_Lay B pl)   (u : am_U) : am_E l g d_X9_startDay 0 (am_ent d_X9_startDay [.ref (8)]) [] (am_of B u) (am_r (am_bV B) (f_X9_startDay u)) := by
  unfold f_X9_startDay
  show am_E l g d_X9_startDay 0 [some (.ref (8))] [] (am_of B u) _
  refine e_aload_n dX9_startDay_0 rfl ?_
  refine q_getR (r := 12) dX9_startDay_1 lf_Scene_21 rfl (by decide) (am_Lk hL rfl) (am_Lr hL rfl) ?_
  refine e_iconst dX9_startDay_4 (v := 0) (by decide) ?_
  refine q_callSV (As := [_, _]) rfl dX9_startDay_5 lm_Scene_27 (am_fitB rfl) yo_J7_fill_53178 ys_J7_fill_53178 rfl (Nat.le_of_ble_eq_true rfl) (Nat.le_of_ble_eq_true rfl) (s_J7_fill_53178 hL _ _ _ (am_Ls hL rfl) _) (fun q1 => ?_)
  refine e_aload_n dX9_startDay_8 rfl ?_
  refine e_iconst dX9_startDay_9 (v := 0) (by decide) ?_
  refine q_putI dX9_startDay_10 lf_Scene_37 rfl (by decide) (am_Lk hL rfl) ?_
  refine e_aload_n dX9_startDay_13 rfl ?_
  refine e_dup dX9_startDay_14 rfl ?_
  refine q_getI dX9_startDay_15 lf_Scene_33 (by decide) (am_Lk hL rfl) ?_
  refine e_iconst dX9_startDay_18 (v := 1) (by decide) ?_
  refine e_iadd dX9_startDay_19 ?_
  refine q_putI dX9_startDay_20 lf_Scene_33 rfl (by decide) (am_Lk hL rfl) ?_
  exact e_vret dX9_startDay_23 rfl rfl

def f_X0_gather_7 (v1 : Nat) : Nat → Int32 → am_U → Option (Int32 × am_U)
  | 0, _, _ => none
  | n + 1, v2, u =>
    if (1 <<< ((u v1 2) &&& 31)) ≤ v2 then (
      some (u 21 5, u))
    else (
      (f_X0_canBe v2 v1 u).bind (fun q2 =>
      if q2 = 0 then (
        f_X0_gather_7 v1 n (v2 + 1) u)
      else (
        am_ck (am_ix (u 21 5) 64) (
        let u3 : am_U := am_w u 24 (u 21 5).toNatClampNeg v2
        let u5 : am_U := am_w u3 21 5 ((u3 21 5) + 1)
        f_X0_gather_7 v1 n (v2 + 1) u5))))
def f_X0_gather (a1 : Nat) (u : am_U) : Option (Int32 × am_U) :=
  let u1 : am_U := am_w u 21 5 0
  f_X0_gather_7 a1 20000 0 u1
set_option maxRecDepth 100000 in
set_option maxHeartbeats 4000000 in
theorem s_X0_gather_7 {l : Launch} {g : am_G} {B : am_M} {pl : Nat} (hL : am_Lay B pl) (v1 : Nat) (hv1 : am_isPlan B v1)   : ∀ (n : Nat) (v2 : Int32) (u : am_U), am_E l g d_X0_gather 7 [some (.ref (21)), some (.ref (v1)), some (.int (v2))] [] (am_of B u) (am_r (am_bI B) (f_X0_gather_7 v1 n v2 u)) := by
  intro n
  induction n with
  | zero => intro v2 u; exact am_none
  | succ n ih =>
    intro v2 u
    unfold f_X0_gather_7
    refine e_iload_n dX0_gather_7 rfl ?_
    refine e_iconst dX0_gather_8 (v := 1) (by decide) ?_
    refine e_aload_n dX0_gather_9 rfl ?_
    refine q_getI dX0_gather_10 lf_Burnings_31 (by decide) (congrArg Prod.fst hv1.1) ?_
    refine e_ishl dX0_gather_13 ?_
    refine e_if2_ge dX0_gather_14 (tgt := 52) (by decide) ?_ ?_
    · refine e_aload_n dX0_gather_52 rfl ?_
      refine q_getI dX0_gather_53 lf_Burnings_28 (by decide) (am_Lk hL rfl) ?_
      exact e_iret dX0_gather_56 rfl rfl
    · refine e_aload_n dX0_gather_17 rfl ?_
      refine e_iload_n dX0_gather_18 rfl ?_
      refine e_aload_n dX0_gather_19 rfl ?_
      refine q_callVP (As := [_, _]) rfl dX0_gather_20 lm_Burnings_36 (am_fitB rfl) yo_X0_canBe ys_X0_canBe rfl rfl (by decide) (am_Lk hL rfl) rfl (Nat.le_of_ble_eq_true rfl) (Nat.le_of_ble_eq_true rfl) (s_X0_canBe hL _ _ hv1 _) (fun q2 => ?_)
      refine e_if_eq dX0_gather_23 (tgt := 46) (by decide) ?_ ?_
      · refine e_iinc dX0_gather_46 rfl (v := _ + 1) rfl (by decide) (LS1 := [_, _, _]) rfl ?_
        refine e_goto dX0_gather_49 (tgt := 7) (by decide) ?_
        exact ih (v2 + 1) u
      · refine e_aload_n dX0_gather_26 rfl ?_
        refine q_getR (r := 24) dX0_gather_27 lf_Burnings_18 rfl (by decide) (am_Lk hL rfl) (am_Lr hL rfl) ?_
        refine e_aload_n dX0_gather_30 rfl ?_
        refine q_getI dX0_gather_31 lf_Burnings_28 (by decide) (am_Lk hL rfl) ?_
        refine e_iload_n dX0_gather_34 rfl ?_
        refine q_iastH dX0_gather_35 (am_Ls hL rfl) (fun i4 => ?_)
        refine e_aload_n dX0_gather_36 rfl ?_
        refine e_dup dX0_gather_37 rfl ?_
        refine q_getI dX0_gather_38 lf_Burnings_28 (by decide) (am_Lk hL rfl) ?_
        refine e_iconst dX0_gather_41 (v := 1) (by decide) ?_
        refine e_iadd dX0_gather_42 ?_
        refine q_putI dX0_gather_43 lf_Burnings_28 rfl (by decide) (am_Lk hL rfl) ?_
        refine e_iinc dX0_gather_46 rfl (v := _ + 1) rfl (by decide) (LS1 := [_, _, _]) rfl ?_
        refine e_goto dX0_gather_49 (tgt := 7) (by decide) ?_
        exact ih (v2 + 1) (am_w (am_w u 24 (u 21 5).toNatClampNeg v2) 21 5 (((am_w u 24 (u 21 5).toNatClampNeg v2) 21 5) + 1))

set_option maxRecDepth 100000 in
set_option maxHeartbeats 4000000 in
theorem s_X0_gather {l : Launch} {g : am_G} {B : am_M} {pl : Nat} (hL : am_Lay B pl) (a1 : Nat) (h1 : am_isPlan B a1) (u : am_U) : am_E l g d_X0_gather 0 (am_ent d_X0_gather [.ref (21), .ref (a1)]) [] (am_of B u) (am_r (am_bI B) (f_X0_gather a1 u)) := by
  unfold f_X0_gather
  show am_E l g d_X0_gather 0 [some (.ref (21)), some (.ref (a1)), none] [] (am_of B u) _
  refine e_aload_n dX0_gather_0 rfl ?_
  refine e_iconst dX0_gather_1 (v := 0) (by decide) ?_
  refine q_putI dX0_gather_2 lf_Burnings_28 rfl (by decide) (am_Lk hL rfl) ?_
  refine e_iconst dX0_gather_5 (v := 0) (by decide) ?_
  refine e_istore_n dX0_gather_6 (by decide) (LS1 := [_, _, _]) rfl ?_
  refine s_X0_gather_7 hL _ h1 _ _ _

def f_X0_nextToBurn_12 (v1 : Nat) : Nat → Int32 → Int32 → Int32 → am_U → Option (Int32 × am_U)
  | 0, _, _, _, _ => none
  | n + 1, v2, v3, v4, u =>
    if (1 <<< ((u v1 2) &&& 31)) ≤ v4 then (
      some (v2, u))
    else (
      (f_X0_mostLeft v4 v1 u).bind (fun q2 =>
      (f_J6_bitCount_0f7a4 v4).bind (fun q3 =>
      (f_J6_bitCount_0f7a4 v2).bind (fun q4 =>
      am_jn (fun (j5s0 : Int32) =>
        am_jn (fun (j6z : Unit) =>
          f_X0_nextToBurn_12 v1 n v4 q2.1 (v4 + 1) q2.2) (fun j6 =>
        if q2.1 < v3 then (
          j6 () )
        else (
          if ¬ q2.1 = v3 then (
            f_X0_nextToBurn_12 v1 n v2 v3 (v4 + 1) q2.2)
          else (
            if j5s0 = 0 then (
              f_X0_nextToBurn_12 v1 n v2 v3 (v4 + 1) q2.2)
            else (
              j6 () ))))) (fun j5 =>
      if q4 ≤ q3 then (
        j5 0)
      else (
        j5 1))))))
def f_X0_nextToBurn (a1 : Nat) (u : am_U) : Option (Int32 × am_U) :=
  (f_X0_mostLeft 1 a1 u).bind (fun q1 =>
  f_X0_nextToBurn_12 a1 20000 1 q1.1 2 q1.2)
set_option maxRecDepth 100000 in
set_option maxHeartbeats 4000000 in
theorem s_X0_nextToBurn_12 {l : Launch} {g : am_G} {B : am_M} {pl : Nat} (hL : am_Lay B pl) (v1 : Nat) (hv1 : am_isPlan B v1)   : ∀ (n : Nat) (v2 : Int32) (v3 : Int32) (v4 : Int32) (u : am_U), am_E l g d_X0_nextToBurn 12 [some (.ref (21)), some (.ref (v1)), some (.int (v2)), some (.int (v3)), some (.int (v4)), none, none] [] (am_of B u) (am_r (am_bI B) (f_X0_nextToBurn_12 v1 n v2 v3 v4 u)) := by
  intro n
  induction n with
  | zero => intro v2 v3 v4 u; exact am_none
  | succ n ih =>
    intro v2 v3 v4 u
    unfold f_X0_nextToBurn_12
    refine e_iload dX0_nextToBurn_12 rfl ?_
    refine e_iconst dX0_nextToBurn_14 (v := 1) (by decide) ?_
    refine e_aload_n dX0_nextToBurn_15 rfl ?_
    refine q_getI dX0_nextToBurn_16 lf_Burnings_31 (by decide) (congrArg Prod.fst hv1.1) ?_
    refine e_ishl dX0_nextToBurn_19 ?_
    refine e_if2_ge dX0_nextToBurn_20 (tgt := 80) (by decide) ?_ ?_
    · refine e_iload_n dX0_nextToBurn_80 rfl ?_
      exact e_iret dX0_nextToBurn_81 rfl rfl
    · refine e_aload_n dX0_nextToBurn_23 rfl ?_
      refine e_iload dX0_nextToBurn_24 rfl ?_
      refine e_aload_n dX0_nextToBurn_26 rfl ?_
      refine q_callVI (As := [_, _]) rfl dX0_nextToBurn_27 lm_Burnings_40 (am_fitB rfl) yo_X0_mostLeft ys_X0_mostLeft rfl rfl (by decide) (am_Lk hL rfl) rfl (Nat.le_of_ble_eq_true rfl) (Nat.le_of_ble_eq_true rfl) (s_X0_mostLeft hL _ _ hv1 _) (fun q2 => ?_)
      refine e_istore dX0_nextToBurn_30 (by decide) (LS1 := [_, _, _, _, _, _, none]) rfl ?_
      refine e_iload dX0_nextToBurn_32 rfl ?_
      refine q_callSP (As := [_]) rfl dX0_nextToBurn_34 lm_Burnings_44 (am_fitB rfl) yo_J6_bitCount_0f7a4 ys_J6_bitCount_0f7a4 rfl (Nat.le_of_ble_eq_true rfl) (Nat.le_of_ble_eq_true rfl) (s_J6_bitCount_0f7a4 hL _  _) (fun q3 => ?_)
      refine e_iload_n dX0_nextToBurn_37 rfl ?_
      refine q_callSP (As := [_]) rfl dX0_nextToBurn_38 lm_Burnings_44 (am_fitB rfl) yo_J6_bitCount_0f7a4 ys_J6_bitCount_0f7a4 rfl (Nat.le_of_ble_eq_true rfl) (Nat.le_of_ble_eq_true rfl) (s_J6_bitCount_0f7a4 hL _  _) (fun q4 => ?_)
      refine e_jn (P := fun t : Int32 → Option (Int32 × am_U) => ∀ (j5s0 : Int32), am_E l g d_X0_nextToBurn 49 [some (.ref (21)), some (.ref (v1)), some (.int (v2)), some (.int (v3)), some (.int (v4)), some (.int (q2.1)), none] [.int (j5s0)] (am_of B q2.2) (am_r (am_bI B) (t j5s0))) ?_ (fun j5 hj5 => ?_)
      · intro j5s0
        refine e_istore dX0_nextToBurn_49 (by decide) (LS1 := [_, _, _, _, _, _, _]) rfl ?_
        refine e_iload dX0_nextToBurn_51 rfl ?_
        refine e_iload_n dX0_nextToBurn_53 rfl ?_
        refine e_jn (P := fun t : Unit → Option (Int32 × am_U) => ∀ (j6z : Unit), am_E l g d_X0_nextToBurn 68 [some (.ref (21)), some (.ref (v1)), none, none, some (.int (v4)), some (.int (q2.1)), none] [] (am_of B q2.2) (am_r (am_bI B) (t j6z))) ?_ (fun j6 hj6 => ?_)
        · intro j6z
          refine e_iload dX0_nextToBurn_68 rfl ?_
          refine e_istore_n dX0_nextToBurn_70 (by decide) (LS1 := [_, _, _, none, _, _, none]) rfl ?_
          refine e_iload dX0_nextToBurn_71 rfl ?_
          refine e_istore_n dX0_nextToBurn_73 (by decide) (LS1 := [_, _, _, _, _, _, none]) rfl ?_
          refine e_iinc dX0_nextToBurn_74 rfl (v := _ + 1) rfl (by decide) (LS1 := [_, _, _, _, _, _, none]) rfl ?_
          refine e_goto dX0_nextToBurn_77 (tgt := 12) (by decide) ?_
          refine e_msk [true, true, true, true, true, false, false] (LS1 := [_, _, _, _, _, none, none]) rfl ?_
          exact ih v4 q2.1 (v4 + 1) q2.2
        · refine e_if2_lt dX0_nextToBurn_54 (tgt := 68) (by decide) ?_ ?_
          · refine e_msk [true, true, false, false, true, true, false] (LS1 := [_, _, none, none, _, _, none]) rfl ?_
            exact hj6 () 
          · refine e_iload dX0_nextToBurn_57 rfl ?_
            refine e_iload_n dX0_nextToBurn_59 rfl ?_
            refine e_if2_ne dX0_nextToBurn_60 (tgt := 74) (by decide) ?_ ?_
            · refine e_iinc dX0_nextToBurn_74 rfl (v := _ + 1) rfl (by decide) (LS1 := [_, _, _, _, _, _, _]) rfl ?_
              refine e_goto dX0_nextToBurn_77 (tgt := 12) (by decide) ?_
              refine e_msk [true, true, true, true, true, false, false] (LS1 := [_, _, _, _, _, none, none]) rfl ?_
              exact ih v2 v3 (v4 + 1) q2.2
            · refine e_iload dX0_nextToBurn_63 rfl ?_
              refine e_if_eq dX0_nextToBurn_65 (tgt := 74) (by decide) ?_ ?_
              · refine e_iinc dX0_nextToBurn_74 rfl (v := _ + 1) rfl (by decide) (LS1 := [_, _, _, _, _, _, _]) rfl ?_
                refine e_goto dX0_nextToBurn_77 (tgt := 12) (by decide) ?_
                refine e_msk [true, true, true, true, true, false, false] (LS1 := [_, _, _, _, _, none, none]) rfl ?_
                exact ih v2 v3 (v4 + 1) q2.2
              · refine e_msk [true, true, false, false, true, true, false] (LS1 := [_, _, none, none, _, _, none]) rfl ?_
                exact hj6 () 
      · refine e_if2_ge dX0_nextToBurn_41 (tgt := 48) (by decide) ?_ ?_
        · refine e_iconst dX0_nextToBurn_48 (v := 0) (by decide) ?_
          refine e_msk [true, true, true, true, true, true, false] (LS1 := [_, _, _, _, _, _, none]) rfl ?_
          exact hj5 0
        · refine e_iconst dX0_nextToBurn_44 (v := 1) (by decide) ?_
          refine e_goto dX0_nextToBurn_45 (tgt := 49) (by decide) ?_
          refine e_msk [true, true, true, true, true, true, false] (LS1 := [_, _, _, _, _, _, none]) rfl ?_
          exact hj5 1

set_option maxRecDepth 100000 in
set_option maxHeartbeats 4000000 in
theorem s_X0_nextToBurn {l : Launch} {g : am_G} {B : am_M} {pl : Nat} (hL : am_Lay B pl) (a1 : Nat) (h1 : am_isPlan B a1) (u : am_U) : am_E l g d_X0_nextToBurn 0 (am_ent d_X0_nextToBurn [.ref (21), .ref (a1)]) [] (am_of B u) (am_r (am_bI B) (f_X0_nextToBurn a1 u)) := by
  unfold f_X0_nextToBurn
  show am_E l g d_X0_nextToBurn 0 [some (.ref (21)), some (.ref (a1)), none, none, none, none, none] [] (am_of B u) _
  refine e_iconst dX0_nextToBurn_0 (v := 1) (by decide) ?_
  refine e_istore_n dX0_nextToBurn_1 (by decide) (LS1 := [_, _, _, none, none, none, none]) rfl ?_
  refine e_aload_n dX0_nextToBurn_2 rfl ?_
  refine e_iload_n dX0_nextToBurn_3 rfl ?_
  refine e_aload_n dX0_nextToBurn_4 rfl ?_
  refine q_callVI (As := [_, _]) rfl dX0_nextToBurn_5 lm_Burnings_40 (am_fitB rfl) yo_X0_mostLeft ys_X0_mostLeft rfl rfl (by decide) (am_Lk hL rfl) rfl (Nat.le_of_ble_eq_true rfl) (Nat.le_of_ble_eq_true rfl) (s_X0_mostLeft hL _ _ h1 _) (fun q1 => ?_)
  refine e_istore_n dX0_nextToBurn_8 (by decide) (LS1 := [_, _, _, _, none, none, none]) rfl ?_
  refine e_iconst dX0_nextToBurn_9 (v := 2) (by decide) ?_
  refine e_istore dX0_nextToBurn_10 (by decide) (LS1 := [_, _, _, _, _, none, none]) rfl ?_
  refine s_X0_nextToBurn_12 hL _ h1 _ _ _ _ _

def f_X10_count (pl : Nat) (a1 : Int32) (u : am_U) : Option (Int32) :=
  if a1 = 0 then (
    some (u pl 2))
  else   if a1 = 1 then (
    (f_X10_allLight pl u).bind (fun q1 =>
    some q1))
  else   if a1 = 2 then (
    some (u 8 5))
  else   if a1 = 3 then (
    some ((u pl 0) - (u 8 6)))
  else   if a1 = 4 then (
    (f_X5_countOf pl 2 u).bind (fun q2 =>
    some q2))
  else   if a1 = 5 then (
    (f_X5_countOf pl 3 u).bind (fun q3 =>
    some q3))
  else   if a1 = 6 then (
    (f_X10_countThere 5 u).bind (fun q4 =>
    some q4))
  else   if a1 = 7 then (
    (f_X10_countThere 6 u).bind (fun q5 =>
    some q5))
  else   if a1 = 8 then (
    some (u 14 3))
  else   if a1 = 9 then (
    some (u 21 4))
  else (
    some ((-1) : Int32))
set_option maxRecDepth 100000 in
set_option maxHeartbeats 4000000 in
theorem s_X10_count {l : Launch} {g : am_G} {B : am_M} {pl : Nat} (hL : am_Lay B pl) (a1 : Int32)  (u : am_U) : am_E l g d_X10_count 0 (am_ent d_X10_count [.ref (4), .int (a1)]) [] (am_of B u) (am_r (am_bP B u) (f_X10_count pl a1 u)) := by
  unfold f_X10_count
  show am_E l g d_X10_count 0 [some (.ref (4)), some (.int (a1))] [] (am_of B u) _
  refine e_iload_n dX10_count_0 rfl ?_
  refine e_sw (c := 0) (fun hc => ?_) (fun hn0 => ?_)
  · subst hc
    refine e_tabIn dX10_count_1 (tgt := 56) (by decide) (by decide) rfl (by decide) ?_
    refine e_aload_n dX10_count_56 rfl ?_
    refine q_getR (r := pl) dX10_count_57 lf_N_72 rfl (by decide) (am_Lk hL rfl) (am_Lpl hL) ?_
    refine q_getI dX10_count_60 lf_N_144 (by decide) (congrArg Prod.fst (am_pln hL).1) ?_
    exact e_iret dX10_count_63 rfl rfl
  refine e_sw (c := 1) (fun hc => ?_) (fun hn1 => ?_)
  · subst hc
    refine e_tabIn dX10_count_1 (tgt := 64) (by decide) (by decide) rfl (by decide) ?_
    refine e_aload_n dX10_count_64 rfl ?_
    refine q_callVP (As := []) rfl dX10_count_65 lm_N_342 (am_fitB rfl) yo_X10_allLight ys_X10_allLight rfl rfl (by decide) (am_Lk hL rfl) rfl (Nat.le_of_ble_eq_true rfl) (Nat.le_of_ble_eq_true rfl) (s_X10_allLight hL   _) (fun q1 => ?_)
    exact e_iret dX10_count_68 rfl rfl
  refine e_sw (c := 2) (fun hc => ?_) (fun hn2 => ?_)
  · subst hc
    refine e_tabIn dX10_count_1 (tgt := 69) (by decide) (by decide) rfl (by decide) ?_
    refine e_aload_n dX10_count_69 rfl ?_
    refine q_getR (r := 8) dX10_count_70 lf_N_28 rfl (by decide) (am_Lk hL rfl) (am_Lr hL rfl) ?_
    refine q_getI dX10_count_73 lf_N_190 (by decide) (am_Lk hL rfl) ?_
    exact e_iret dX10_count_76 rfl rfl
  refine e_sw (c := 3) (fun hc => ?_) (fun hn3 => ?_)
  · subst hc
    refine e_tabIn dX10_count_1 (tgt := 77) (by decide) (by decide) rfl (by decide) ?_
    refine e_aload_n dX10_count_77 rfl ?_
    refine q_getR (r := pl) dX10_count_78 lf_N_72 rfl (by decide) (am_Lk hL rfl) (am_Lpl hL) ?_
    refine q_getI dX10_count_81 lf_N_203 (by decide) (congrArg Prod.fst (am_pln hL).1) ?_
    refine e_aload_n dX10_count_84 rfl ?_
    refine q_getR (r := 8) dX10_count_85 lf_N_28 rfl (by decide) (am_Lk hL rfl) (am_Lr hL rfl) ?_
    refine q_getI dX10_count_88 lf_N_200 (by decide) (am_Lk hL rfl) ?_
    refine e_isub dX10_count_91 ?_
    exact e_iret dX10_count_92 rfl rfl
  refine e_sw (c := 4) (fun hc => ?_) (fun hn4 => ?_)
  · subst hc
    refine e_tabIn dX10_count_1 (tgt := 93) (by decide) (by decide) rfl (by decide) ?_
    refine e_aload_n dX10_count_93 rfl ?_
    refine q_getR (r := pl) dX10_count_94 lf_N_72 rfl (by decide) (am_Lk hL rfl) (am_Lpl hL) ?_
    refine e_iconst dX10_count_97 (v := 2) (by decide) ?_
    refine q_callVP (As := [_]) rfl dX10_count_98 lm_N_351 (am_fitB rfl) yo_X5_countOf ys_X5_countOf rfl rfl (by decide) (congrArg Prod.fst (am_pln hL).1) rfl (Nat.le_of_ble_eq_true rfl) (Nat.le_of_ble_eq_true rfl) (s_X5_countOf hL _ _ (am_pln hL) _) (fun q2 => ?_)
    exact e_iret dX10_count_101 rfl rfl
  refine e_sw (c := 5) (fun hc => ?_) (fun hn5 => ?_)
  · subst hc
    refine e_tabIn dX10_count_1 (tgt := 102) (by decide) (by decide) rfl (by decide) ?_
    refine e_aload_n dX10_count_102 rfl ?_
    refine q_getR (r := pl) dX10_count_103 lf_N_72 rfl (by decide) (am_Lk hL rfl) (am_Lpl hL) ?_
    refine e_iconst dX10_count_106 (v := 3) (by decide) ?_
    refine q_callVP (As := [_]) rfl dX10_count_107 lm_N_351 (am_fitB rfl) yo_X5_countOf ys_X5_countOf rfl rfl (by decide) (congrArg Prod.fst (am_pln hL).1) rfl (Nat.le_of_ble_eq_true rfl) (Nat.le_of_ble_eq_true rfl) (s_X5_countOf hL _ _ (am_pln hL) _) (fun q3 => ?_)
    exact e_iret dX10_count_110 rfl rfl
  refine e_sw (c := 6) (fun hc => ?_) (fun hn6 => ?_)
  · subst hc
    refine e_tabIn dX10_count_1 (tgt := 111) (by decide) (by decide) rfl (by decide) ?_
    refine e_aload_n dX10_count_111 rfl ?_
    refine q_getR (r := 5) dX10_count_112 lf_N_11 rfl (by decide) (am_Lk hL rfl) (am_Lr hL rfl) ?_
    refine q_callSP (As := [_]) rfl dX10_count_115 lm_N_354 (am_fitB rfl) yo_X10_countThere ys_X10_countThere rfl (Nat.le_of_ble_eq_true rfl) (Nat.le_of_ble_eq_true rfl) (s_X10_countThere hL _ (am_rows5 hL) _) (fun q4 => ?_)
    exact e_iret dX10_count_118 rfl rfl
  refine e_sw (c := 7) (fun hc => ?_) (fun hn7 => ?_)
  · subst hc
    refine e_tabIn dX10_count_1 (tgt := 119) (by decide) (by decide) rfl (by decide) ?_
    refine e_aload_n dX10_count_119 rfl ?_
    refine q_getR (r := 6) dX10_count_120 lf_N_15 rfl (by decide) (am_Lk hL rfl) (am_Lr hL rfl) ?_
    refine q_callSP (As := [_]) rfl dX10_count_123 lm_N_354 (am_fitB rfl) yo_X10_countThere ys_X10_countThere rfl (Nat.le_of_ble_eq_true rfl) (Nat.le_of_ble_eq_true rfl) (s_X10_countThere hL _ (am_rows6 hL) _) (fun q5 => ?_)
    exact e_iret dX10_count_126 rfl rfl
  refine e_sw (c := 8) (fun hc => ?_) (fun hn8 => ?_)
  · subst hc
    refine e_tabIn dX10_count_1 (tgt := 127) (by decide) (by decide) rfl (by decide) ?_
    refine e_aload_n dX10_count_127 rfl ?_
    refine q_getR (r := 14) dX10_count_128 lf_N_35 rfl (by decide) (am_Lk hL rfl) (am_Lr hL rfl) ?_
    refine q_getI dX10_count_131 lf_N_224 (by decide) (am_Lk hL rfl) ?_
    exact e_iret dX10_count_134 rfl rfl
  refine e_sw (c := 9) (fun hc => ?_) (fun hn9 => ?_)
  · subst hc
    refine e_tabIn dX10_count_1 (tgt := 135) (by decide) (by decide) rfl (by decide) ?_
    refine e_aload_n dX10_count_135 rfl ?_
    refine q_getR (r := 21) dX10_count_136 lf_N_55 rfl (by decide) (am_Lk hL rfl) (am_Lr hL rfl) ?_
    refine q_getI dX10_count_139 lf_N_143 (by decide) (am_Lk hL rfl) ?_
    exact e_iret dX10_count_142 rfl rfl
  have hm0 := lv_neT hn0 (show (0 : Int32).toInt = 0 by decide)
  have hm1 := lv_neT hn1 (show (1 : Int32).toInt = 1 by decide)
  have hm2 := lv_neT hn2 (show (2 : Int32).toInt = 2 by decide)
  have hm3 := lv_neT hn3 (show (3 : Int32).toInt = 3 by decide)
  have hm4 := lv_neT hn4 (show (4 : Int32).toInt = 4 by decide)
  have hm5 := lv_neT hn5 (show (5 : Int32).toInt = 5 by decide)
  have hm6 := lv_neT hn6 (show (6 : Int32).toInt = 6 by decide)
  have hm7 := lv_neT hn7 (show (7 : Int32).toInt = 7 by decide)
  have hm8 := lv_neT hn8 (show (8 : Int32).toInt = 8 by decide)
  have hm9 := lv_neT hn9 (show (9 : Int32).toInt = 9 by decide)
  refine e_tabOut dX10_count_1 (tgt := 143) (by omega) (by decide) ?_
  refine e_iconst dX10_count_143 (v := ((-1) : Int32)) (by decide) ?_
  exact e_iret dX10_count_144 rfl rfl

def f_X10_isValley (a0 : Int32) : Option (Int32) :=
  (f_X10_isPlace a0).bind (fun q1 =>
  if q1 = 0 then (
    some 0)
  else (
    if a0 = 0 then (
      some 0)
    else (
      some 1)))
set_option maxRecDepth 100000 in
set_option maxHeartbeats 4000000 in
theorem s_X10_isValley {l : Launch} {g : am_G} {B : am_M} {pl : Nat} (hL : am_Lay B pl) (a0 : Int32)  (u : am_U) : am_E l g d_X10_isValley 0 (am_ent d_X10_isValley [.int (a0)]) [] (am_of B u) (am_r (am_bP B u) (f_X10_isValley a0)) := by
  unfold f_X10_isValley
  show am_E l g d_X10_isValley 0 [some (.int (a0))] [] (am_of B u) _
  refine e_iload_n dX10_isValley_0 rfl ?_
  refine q_callSP (As := [_]) rfl dX10_isValley_1 lm_N_178 (am_fitB rfl) yo_X10_isPlace ys_X10_isPlace rfl (Nat.le_of_ble_eq_true rfl) (Nat.le_of_ble_eq_true rfl) (s_X10_isPlace hL _  _) (fun q1 => ?_)
  refine e_if_eq dX10_isValley_4 (tgt := 15) (by decide) ?_ ?_
  · refine e_iconst dX10_isValley_15 (v := 0) (by decide) ?_
    exact e_zret dX10_isValley_16 rfl rfl (Or.inl rfl)
  · refine e_iload_n dX10_isValley_7 rfl ?_
    refine e_if_eq dX10_isValley_8 (tgt := 15) (by decide) ?_ ?_
    · refine e_iconst dX10_isValley_15 (v := 0) (by decide) ?_
      exact e_zret dX10_isValley_16 rfl rfl (Or.inl rfl)
    · refine e_iconst dX10_isValley_11 (v := 1) (by decide) ?_
      refine e_goto dX10_isValley_12 (tgt := 16) (by decide) ?_
      exact e_zret dX10_isValley_16 rfl rfl (Or.inr rfl)

def f_X10_jar (pl : Nat) (a1 : Int32) (a2 : Int32) (u : am_U) : Option (Int32 × am_U) :=
  (f_X10_isJar pl a1 u).bind (fun q1 =>
  if q1 = 0 then (
    some (((-1) : Int32), u))
  else (
    (f_X10_isWithin a2 0 4).bind (fun q2 =>
    if ¬ q2 = 0 then (
      (f_X10_jarTells pl a1 a2 u).bind (fun q3 =>
      (f_X10_tell 1 q3 u).bind (fun q4 =>
      some (q4.1, q4.2))))
    else (
      some (((-1) : Int32), u)))))
set_option maxRecDepth 100000 in
set_option maxHeartbeats 4000000 in
theorem s_X10_jar {l : Launch} {g : am_G} {B : am_M} {pl : Nat} (hL : am_Lay B pl) (a1 : Int32) (a2 : Int32)  (u : am_U) : am_E l g d_X10_jar 0 (am_ent d_X10_jar [.ref (4), .int (a1), .int (a2)]) [] (am_of B u) (am_r (am_bI B) (f_X10_jar pl a1 a2 u)) := by
  unfold f_X10_jar
  show am_E l g d_X10_jar 0 [some (.ref (4)), some (.int (a1)), some (.int (a2))] [] (am_of B u) _
  refine e_aload_n dX10_jar_0 rfl ?_
  refine e_iload_n dX10_jar_1 rfl ?_
  refine q_callVP (As := [_]) rfl dX10_jar_2 lm_N_147 (am_fitB rfl) yo_X10_isJar ys_X10_isJar rfl rfl (by decide) (am_Lk hL rfl) rfl (Nat.le_of_ble_eq_true rfl) (Nat.le_of_ble_eq_true rfl) (s_X10_isJar hL _  _) (fun q1 => ?_)
  refine e_if_eq dX10_jar_5 (tgt := 17) (by decide) ?_ ?_
  · refine e_iconst dX10_jar_17 (v := ((-1) : Int32)) (by decide) ?_
    exact e_iret dX10_jar_18 rfl rfl
  · refine e_iload_n dX10_jar_8 rfl ?_
    refine e_iconst dX10_jar_9 (v := 0) (by decide) ?_
    refine e_iconst dX10_jar_10 (v := 4) (by decide) ?_
    refine q_callSP (As := [_, _, _]) rfl dX10_jar_11 lm_N_86 (am_fitB rfl) yo_X10_isWithin ys_X10_isWithin rfl (Nat.le_of_ble_eq_true rfl) (Nat.le_of_ble_eq_true rfl) (s_X10_isWithin hL _ _ _  _) (fun q2 => ?_)
    refine e_if_ne dX10_jar_14 (tgt := 19) (by decide) ?_ ?_
    · refine e_aload_n dX10_jar_19 rfl ?_
      refine e_iconst dX10_jar_20 (v := 1) (by decide) ?_
      refine e_aload_n dX10_jar_21 rfl ?_
      refine e_iload_n dX10_jar_22 rfl ?_
      refine e_iload_n dX10_jar_23 rfl ?_
      refine q_callVP (As := [_, _]) rfl dX10_jar_24 lm_N_151 (am_fitB rfl) yo_X10_jarTells ys_X10_jarTells rfl rfl (by decide) (am_Lk hL rfl) rfl (Nat.le_of_ble_eq_true rfl) (Nat.le_of_ble_eq_true rfl) (s_X10_jarTells hL _ _  _) (fun q3 => ?_)
      refine q_callVI (As := [_, _]) rfl dX10_jar_27 lm_N_101 (am_fitB rfl) yo_X10_tell ys_X10_tell rfl rfl (by decide) (am_Lk hL rfl) rfl (Nat.le_of_ble_eq_true rfl) (Nat.le_of_ble_eq_true rfl) (s_X10_tell hL _ _  _) (fun q4 => ?_)
      exact e_iret dX10_jar_30 rfl rfl
    · refine e_iconst dX10_jar_17 (v := ((-1) : Int32)) (by decide) ?_
      exact e_iret dX10_jar_18 rfl rfl

def f_X10_keep (pl : Nat) (a1 : Int32) (u : am_U) : Option (Int32 × am_U) :=
  (f_X10_isWithin a1 0 2).bind (fun q1 =>
  if ¬ q1 = 0 then (
    if ¬ (u pl 2) = 0 then (
      (f_X4_save 18 90 a1 u).bind (fun q2 =>
      am_ck (am_ix a1 3) (
      let u3 : am_U := am_w q2 20 a1.toNatClampNeg (q2 8 5)
      some (u3 8 5, u3))))
    else (
      some (((-4) : Int32), u)))
  else (
    some (((-1) : Int32), u)))
set_option maxRecDepth 100000 in
set_option maxHeartbeats 4000000 in
theorem s_X10_keep {l : Launch} {g : am_G} {B : am_M} {pl : Nat} (hL : am_Lay B pl) (a1 : Int32)  (u : am_U) : am_E l g d_X10_keep 0 (am_ent d_X10_keep [.ref (4), .int (a1)]) [] (am_of B u) (am_r (am_bI B) (f_X10_keep pl a1 u)) := by
  unfold f_X10_keep
  show am_E l g d_X10_keep 0 [some (.ref (4)), some (.int (a1))] [] (am_of B u) _
  refine e_iload_n dX10_keep_0 rfl ?_
  refine e_iconst dX10_keep_1 (v := 0) (by decide) ?_
  refine e_iconst dX10_keep_2 (v := 2) (by decide) ?_
  refine q_callSP (As := [_, _, _]) rfl dX10_keep_3 lm_N_86 (am_fitB rfl) yo_X10_isWithin ys_X10_isWithin rfl (Nat.le_of_ble_eq_true rfl) (Nat.le_of_ble_eq_true rfl) (s_X10_isWithin hL _ _ _  _) (fun q1 => ?_)
  refine e_if_ne dX10_keep_6 (tgt := 11) (by decide) ?_ ?_
  · refine e_aload_n dX10_keep_11 rfl ?_
    refine q_getR (r := pl) dX10_keep_12 lf_N_72 rfl (by decide) (am_Lk hL rfl) (am_Lpl hL) ?_
    refine q_getI dX10_keep_15 lf_N_144 (by decide) (congrArg Prod.fst (am_pln hL).1) ?_
    refine e_if_ne dX10_keep_18 (tgt := 24) (by decide) ?_ ?_
    · refine e_aload_n dX10_keep_24 rfl ?_
      refine q_getR (r := 18) dX10_keep_25 lf_N_44 rfl (by decide) (am_Lk hL rfl) (am_Lr hL rfl) ?_
      refine e_iload_n dX10_keep_28 rfl ?_
      refine e_aload_n dX10_keep_29 rfl ?_
      refine q_getR (r := 8) dX10_keep_30 lf_N_28 rfl (by decide) (am_Lk hL rfl) (am_Lr hL rfl) ?_
      refine q_callVV (As := [_, _]) rfl dX10_keep_33 lm_N_229 (am_fitB rfl) yo_X4_save ys_X4_save rfl rfl (by decide) (am_Lk hL rfl) rfl (Nat.le_of_ble_eq_true rfl) (Nat.le_of_ble_eq_true rfl) (s_X4_save hL _ _ _ (am_mem18 hL) _) (fun q2 => ?_)
      refine e_aload_n dX10_keep_36 rfl ?_
      refine q_getR (r := 20) dX10_keep_37 lf_N_48 rfl (by decide) (am_Lk hL rfl) (am_Lr hL rfl) ?_
      refine e_iload_n dX10_keep_40 rfl ?_
      refine e_aload_n dX10_keep_41 rfl ?_
      refine q_getR (r := 8) dX10_keep_42 lf_N_28 rfl (by decide) (am_Lk hL rfl) (am_Lr hL rfl) ?_
      refine q_getI dX10_keep_45 lf_N_190 (by decide) (am_Lk hL rfl) ?_
      refine q_iastH dX10_keep_48 (am_Ls hL rfl) (fun i4 => ?_)
      refine e_aload_n dX10_keep_49 rfl ?_
      refine q_getR (r := 8) dX10_keep_50 lf_N_28 rfl (by decide) (am_Lk hL rfl) (am_Lr hL rfl) ?_
      refine q_getI dX10_keep_53 lf_N_190 (by decide) (am_Lk hL rfl) ?_
      exact e_iret dX10_keep_56 rfl rfl
    · refine e_bipush dX10_keep_21 (v := ((-4) : Int32)) (by decide) ?_
      exact e_iret dX10_keep_23 rfl rfl
  · refine e_iconst dX10_keep_9 (v := ((-1) : Int32)) (by decide) ?_
    exact e_iret dX10_keep_10 rfl rfl

