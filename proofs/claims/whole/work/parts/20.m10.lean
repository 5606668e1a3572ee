def f_X1_takeBack (u : am_U) : Option (Int32 × am_U) :=
  let u1 : am_U := am_w u 14 3 ((u 14 3) - 1)
  let x2 : Int32 := ((u1 14 2) + (u1 14 3)) - ((u1 14 2) + (u1 14 3)) / 60 * 60
  (f_X4_recall 15 1800 x2 u1).bind (fun q3 =>
  am_ck (am_ix x2 60) (
  some (q3 17 x2.toNatClampNeg, q3)))
set_option maxRecDepth 100000 in
set_option maxHeartbeats 4000000 in
theorem s_X1_takeBack {l : Launch} {g : am_G} {B : am_M} {pl : Nat} (hL : am_Lay B pl)   (u : am_U) : am_E l g d_X1_takeBack 0 (am_ent d_X1_takeBack [.ref (14), .ref (8)]) [] (am_of B u) (am_r (am_bI B) (f_X1_takeBack u)) := by
  unfold f_X1_takeBack
  show am_E l g d_X1_takeBack 0 [some (.ref (14)), some (.ref (8)), none] [] (am_of B u) _
  refine e_aload_n dX1_takeBack_0 rfl ?_
  refine e_dup dX1_takeBack_1 rfl ?_
  refine q_getI dX1_takeBack_2 lf_Deeds_24 (by decide) (am_Lk hL rfl) ?_
  refine e_iconst dX1_takeBack_5 (v := 1) (by decide) ?_
  refine e_isub dX1_takeBack_6 ?_
  refine q_putI dX1_takeBack_7 lf_Deeds_24 rfl (by decide) (am_Lk hL rfl) ?_
  refine e_aload_n dX1_takeBack_10 rfl ?_
  refine q_getI dX1_takeBack_11 lf_Deeds_28 (by decide) (am_Lk hL rfl) ?_
  refine e_aload_n dX1_takeBack_14 rfl ?_
  refine q_getI dX1_takeBack_15 lf_Deeds_24 (by decide) (am_Lk hL rfl) ?_
  refine e_iadd dX1_takeBack_18 ?_
  refine e_bipush dX1_takeBack_19 (v := 60) (by decide) ?_
  refine e_irem dX1_takeBack_21 (by decide) ?_
  refine e_istore_n dX1_takeBack_22 (by decide) (LS1 := [_, _, _]) rfl ?_
  refine e_aload_n dX1_takeBack_23 rfl ?_
  refine q_getR (r := 15) dX1_takeBack_24 lf_Deeds_14 rfl (by decide) (am_Lk hL rfl) (am_Lr hL rfl) ?_
  refine e_iload_n dX1_takeBack_27 rfl ?_
  refine e_aload_n dX1_takeBack_28 rfl ?_
  refine q_callVV (As := [_, _]) rfl dX1_takeBack_29 lm_Deeds_35 (am_fitB rfl) yo_X4_recall ys_X4_recall rfl rfl (by decide) (am_Lk hL rfl) rfl (Nat.le_of_ble_eq_true rfl) (Nat.le_of_ble_eq_true rfl) (s_X4_recall hL _ _ _ (am_mem15 hL) _) (fun q3 => ?_)
  refine e_aload_n dX1_takeBack_32 rfl ?_
  refine q_getR (r := 17) dX1_takeBack_33 lf_Deeds_20 rfl (by decide) (am_Lk hL rfl) (am_Lr hL rfl) ?_
  refine e_iload_n dX1_takeBack_36 rfl ?_
  refine q_ialdH dX1_takeBack_37 (am_Ls hL rfl) (fun i4 => ?_)
  exact e_iret dX1_takeBack_38 rfl rfl

def f_X5_lightBrought_10 (u : am_U) (v0 : Nat) (v1 : Int32) (v2 : Int32) : Nat → Int32 → Int32 → Option (Int32)
  | 0, _, _ => none
  | n + 1, v3, v4 =>
    if v2 ≤ v4 then (
      some v3)
    else (
      am_ck (am_ix v1 6) (
      (f_X2_leaked (u (v0 + 3) v1.toNatClampNeg) v3 0).bind (fun q4 =>
      f_X5_lightBrought_10 u v0 v1 v2 n (v3 - q4) (v4 + 1))))
def f_X5_lightBrought (a0 : Nat) (a1 : Int32) (a2 : Int32) (u : am_U) : Option (Int32) :=
  am_ck (am_ix a1 6) (
  let x2 : Int32 := u (a0 + 4) a1.toNatClampNeg
  f_X5_lightBrought_10 u a0 a1 a2 20000 x2 0)
set_option maxRecDepth 100000 in
set_option maxHeartbeats 4000000 in
theorem s_X5_lightBrought_10 {l : Launch} {g : am_G} {B : am_M} {pl : Nat} (hL : am_Lay B pl) (u : am_U) (v0 : Nat) (v1 : Int32) (v2 : Int32) (hv0 : am_isPlan B v0)   : ∀ (n : Nat) (v3 : Int32) (v4 : Int32), am_E l g d_X5_lightBrought 10 [some (.ref (v0)), some (.int (v1)), some (.int (v2)), some (.int (v3)), some (.int (v4))] [] (am_of B u) (am_r (am_bP B u) (f_X5_lightBrought_10 u v0 v1 v2 n v3 v4)) := by
  intro n
  induction n with
  | zero => intro v3 v4; exact am_none
  | succ n ih =>
    intro v3 v4
    unfold f_X5_lightBrought_10
    refine e_iload dX5_lightBrought_10 rfl ?_
    refine e_iload_n dX5_lightBrought_12 rfl ?_
    refine e_if2_ge dX5_lightBrought_13 (tgt := 36) (by decide) ?_ ?_
    · refine e_iload_n dX5_lightBrought_36 rfl ?_
      exact e_iret dX5_lightBrought_37 rfl rfl
    · refine e_iload_n dX5_lightBrought_16 rfl ?_
      refine e_aload_n dX5_lightBrought_17 rfl ?_
      refine q_getR (r := v0 + 3) dX5_lightBrought_18 lf_Plan_18 rfl (by decide) (congrArg Prod.fst hv0.1) (am_avs hv0.2.1.2.2.1) ?_
      refine e_iload_n dX5_lightBrought_21 rfl ?_
      refine q_ialdH dX5_lightBrought_22 hv0.2.2.2.2.1 (fun i3 => ?_)
      refine e_iload_n dX5_lightBrought_23 rfl ?_
      refine e_iconst dX5_lightBrought_24 (v := 0) (by decide) ?_
      refine q_callSP (As := [_, _, _]) rfl dX5_lightBrought_25 lm_Plan_37 (am_fitB rfl) yo_X2_leaked ys_X2_leaked rfl (Nat.le_of_ble_eq_true rfl) (Nat.le_of_ble_eq_true rfl) (s_X2_leaked hL _ _ _  _) (fun q4 => ?_)
      refine e_isub dX5_lightBrought_28 ?_
      refine e_istore_n dX5_lightBrought_29 (by decide) (LS1 := [_, _, _, _, _]) rfl ?_
      refine e_iinc dX5_lightBrought_30 rfl (v := _ + 1) rfl (by decide) (LS1 := [_, _, _, _, _]) rfl ?_
      refine e_goto dX5_lightBrought_33 (tgt := 10) (by decide) ?_
      exact ih (v3 - q4) (v4 + 1)

set_option maxRecDepth 100000 in
set_option maxHeartbeats 4000000 in
theorem s_X5_lightBrought {l : Launch} {g : am_G} {B : am_M} {pl : Nat} (hL : am_Lay B pl) (a0 : Nat) (a1 : Int32) (a2 : Int32) (h0 : am_isPlan B a0) (u : am_U) : am_E l g d_X5_lightBrought 0 (am_ent d_X5_lightBrought [.ref (a0), .int (a1), .int (a2)]) [] (am_of B u) (am_r (am_bP B u) (f_X5_lightBrought a0 a1 a2 u)) := by
  unfold f_X5_lightBrought
  show am_E l g d_X5_lightBrought 0 [some (.ref (a0)), some (.int (a1)), some (.int (a2)), none, none] [] (am_of B u) _
  refine e_aload_n dX5_lightBrought_0 rfl ?_
  refine q_getR (r := a0 + 4) dX5_lightBrought_1 lf_Plan_21 rfl (by decide) (congrArg Prod.fst h0.1) (am_avs h0.2.1.2.2.2) ?_
  refine e_iload_n dX5_lightBrought_4 rfl ?_
  refine q_ialdH dX5_lightBrought_5 h0.2.2.2.2.2 (fun i1 => ?_)
  refine e_istore_n dX5_lightBrought_6 (by decide) (LS1 := [_, _, _, _, none]) rfl ?_
  refine e_iconst dX5_lightBrought_7 (v := 0) (by decide) ?_
  refine e_istore dX5_lightBrought_8 (by decide) (LS1 := [_, _, _, _, _]) rfl ?_
  refine s_X5_lightBrought_10 hL _ _ _ _ h0 _ _ _

def f_X6_pourFrom_20 (v0 : Nat) (v1 : Int32) (v2 : Int32) (v3 : Int32) (k123 : am_U → Option (am_U)) : Nat → Int32 → am_U → Option (am_U)
  | 0, _, _ => none
  | n + 1, v4, u =>
    if (u v0 6) ≤ v4 then (
      k123 u)
    else (
      (f_X6_held v2 v3 u).bind (fun q3 =>
      am_ck (am_ix v4 3) (
      (f_X6_held v2 v4 u).bind (fun q5 =>
      (f_X2_taken q3 ((u (v0 + 5) v4.toNatClampNeg) - q5)).bind (fun q6 =>
      (f_X2_comesOver q6).bind (fun q7 =>
      if v3 = v4 then (
        f_X6_pourFrom_20 v0 v1 v2 v3 k123 n (v4 + 1) u)
      else (
        if q7 ≤ 0 then (
          f_X6_pourFrom_20 v0 v1 v2 v3 k123 n (v4 + 1) u)
        else (
          am_ck (am_ix v3 3) (
          am_ck (am_ix v4 3) (
          let x8 : Int32 := (v2 - (q6 * (am_uni v3.toNatClampNeg))) + (q7 * (am_uni v4.toNatClampNeg))
          am_ck (am_ix v3 3) (
          (f_X6_comeTo v0 x8 v1 ((6 * (u (v0 + 4) v3.toNatClampNeg)) + (u (v0 + 4) v4.toNatClampNeg)) u).bind (fun q10 =>
          f_X6_pourFrom_20 v0 v1 v2 v3 k123 n (v4 + 1) q10))))))))))))
def f_X6_pourFrom_9 (v0 : Nat) (v1 : Int32) (v2 : Int32) : Nat → Int32 → am_U → Option (am_U)
  | 0, _, _ => none
  | n + 1, v3, u =>
    if (u v0 6) ≤ v3 then (
      some u)
    else (
      f_X6_pourFrom_20 v0 v1 v2 v3 (fun (c11u : am_U) =>
        f_X6_pourFrom_9 v0 v1 v2 n (v3 + 1) c11u) 20000 0 u)
def f_X6_pourFrom (a0 : Nat) (a1 : Int32) (u : am_U) : Option (am_U) :=
  am_ck (am_ix a1 9261) (
  let x2 : Int32 := u (a0 + 1) a1.toNatClampNeg
  f_X6_pourFrom_9 a0 a1 x2 20000 0 u)
set_option maxRecDepth 100000 in
set_option maxHeartbeats 4000000 in
theorem s_X6_pourFrom_20 {l : Launch} {g : am_G} {B : am_M} {pl : Nat} (hL : am_Lay B pl) (v0 : Nat) (v1 : Int32) (v2 : Int32) (v3 : Int32) (hv0 : am_isPour B v0) (k123 : am_U → Option (am_U)) (hk123 : ∀  (u : am_U), am_E l g d_X6_pourFrom 123 [some (.ref (v0)), some (.int (v1)), some (.int (v2)), some (.int (v3)), none, none, none, none] [] (am_of B u) (am_r (am_bV B) (k123 u))) : ∀ (n : Nat) (v4 : Int32) (u : am_U), am_E l g d_X6_pourFrom 20 [some (.ref (v0)), some (.int (v1)), some (.int (v2)), some (.int (v3)), some (.int (v4)), none, none, none] [] (am_of B u) (am_r (am_bV B) (f_X6_pourFrom_20 v0 v1 v2 v3 k123 n v4 u)) := by
  intro n
  induction n with
  | zero => intro v4 u; exact am_none
  | succ n ih =>
    intro v4 u
    unfold f_X6_pourFrom_20
    refine e_iload dX6_pourFrom_20 rfl ?_
    refine e_aload_n dX6_pourFrom_22 rfl ?_
    refine q_getI dX6_pourFrom_23 lf_Pourings_74 (by decide) (congrArg Prod.fst hv0.1) ?_
    refine e_if2_ge dX6_pourFrom_26 (tgt := 123) (by decide) ?_ ?_
    · refine e_msk [true, true, true, true, false, false, false, false] (LS1 := [_, _, _, _, none, none, none, none]) rfl ?_
      exact hk123 u
    · refine e_iload_n dX6_pourFrom_29 rfl ?_
      refine e_iload_n dX6_pourFrom_30 rfl ?_
      refine q_callSP (As := [_, _]) rfl dX6_pourFrom_31 lm_Pourings_50 (am_fitB rfl) yo_X6_held ys_X6_held rfl (Nat.le_of_ble_eq_true rfl) (Nat.le_of_ble_eq_true rfl) (s_X6_held hL _ _  _) (fun q3 => ?_)
      refine e_aload_n dX6_pourFrom_34 rfl ?_
      refine q_getR (r := v0 + 5) dX6_pourFrom_35 lf_Pourings_24 rfl (by decide) (congrArg Prod.fst hv0.1) (am_avs hv0.2.1.2.2.2.2) ?_
      refine e_iload dX6_pourFrom_38 rfl ?_
      refine q_ialdH dX6_pourFrom_40 hv0.2.2.2.2.2.2 (fun i4 => ?_)
      refine e_iload_n dX6_pourFrom_41 rfl ?_
      refine e_iload dX6_pourFrom_42 rfl ?_
      refine q_callSP (As := [_, _]) rfl dX6_pourFrom_44 lm_Pourings_50 (am_fitB rfl) yo_X6_held ys_X6_held rfl (Nat.le_of_ble_eq_true rfl) (Nat.le_of_ble_eq_true rfl) (s_X6_held hL _ _  _) (fun q5 => ?_)
      refine e_isub dX6_pourFrom_47 ?_
      refine q_callSP (As := [_, _]) rfl dX6_pourFrom_48 lm_Pourings_92 (am_fitB rfl) yo_X2_taken ys_X2_taken rfl (Nat.le_of_ble_eq_true rfl) (Nat.le_of_ble_eq_true rfl) (s_X2_taken hL _ _  _) (fun q6 => ?_)
      refine e_istore dX6_pourFrom_51 (by decide) (LS1 := [_, _, _, _, _, _, none, none]) rfl ?_
      refine e_iload dX6_pourFrom_53 rfl ?_
      refine q_callSP (As := [_]) rfl dX6_pourFrom_55 lm_Pourings_97 (am_fitB rfl) yo_X2_comesOver ys_X2_comesOver rfl (Nat.le_of_ble_eq_true rfl) (Nat.le_of_ble_eq_true rfl) (s_X2_comesOver hL _  _) (fun q7 => ?_)
      refine e_istore dX6_pourFrom_58 (by decide) (LS1 := [_, _, _, _, _, _, _, none]) rfl ?_
      refine e_iload_n dX6_pourFrom_60 rfl ?_
      refine e_iload dX6_pourFrom_61 rfl ?_
      refine e_if2_eq dX6_pourFrom_63 (tgt := 117) (by decide) ?_ ?_
      · refine e_iinc dX6_pourFrom_117 rfl (v := _ + 1) rfl (by decide) (LS1 := [_, _, _, _, _, _, _, none]) rfl ?_
        refine e_goto dX6_pourFrom_120 (tgt := 20) (by decide) ?_
        refine e_msk [true, true, true, true, true, false, false, false] (LS1 := [_, _, _, _, _, none, none, none]) rfl ?_
        exact ih (v4 + 1) u
      · refine e_iload dX6_pourFrom_66 rfl ?_
        refine e_if_le dX6_pourFrom_68 (tgt := 117) (by decide) ?_ ?_
        · refine e_iinc dX6_pourFrom_117 rfl (v := _ + 1) rfl (by decide) (LS1 := [_, _, _, _, _, _, _, none]) rfl ?_
          refine e_goto dX6_pourFrom_120 (tgt := 20) (by decide) ?_
          refine e_msk [true, true, true, true, true, false, false, false] (LS1 := [_, _, _, _, _, none, none, none]) rfl ?_
          exact ih (v4 + 1) u
        · refine e_iload_n dX6_pourFrom_71 rfl ?_
          refine e_iload dX6_pourFrom_72 rfl ?_
          refine e_gets (k := 3) dX6_pourFrom_74 (Or.inr ⟨rfl, lf_Pourings_89⟩) ?_
          refine e_iload_n dX6_pourFrom_77 rfl ?_
          refine q_ialdU dX6_pourFrom_78 (am_Ls hL rfl) ?_
          refine e_imul dX6_pourFrom_79 ?_
          refine e_isub dX6_pourFrom_80 ?_
          refine e_iload dX6_pourFrom_81 rfl ?_
          refine e_gets (k := 3) dX6_pourFrom_83 (Or.inr ⟨rfl, lf_Pourings_89⟩) ?_
          refine e_iload dX6_pourFrom_86 rfl ?_
          refine q_ialdU dX6_pourFrom_88 (am_Ls hL rfl) ?_
          refine e_imul dX6_pourFrom_89 ?_
          refine e_iadd dX6_pourFrom_90 ?_
          refine e_istore dX6_pourFrom_91 (by decide) (LS1 := [_, _, _, _, _, _, _, _]) rfl ?_
          refine e_aload_n dX6_pourFrom_93 rfl ?_
          refine e_iload dX6_pourFrom_94 rfl ?_
          refine e_iload_n dX6_pourFrom_96 rfl ?_
          refine e_bipush dX6_pourFrom_97 (v := 6) (by decide) ?_
          refine e_aload_n dX6_pourFrom_99 rfl ?_
          refine q_getR (r := v0 + 4) dX6_pourFrom_100 lf_Pourings_21 rfl (by decide) (congrArg Prod.fst hv0.1) (am_avs hv0.2.1.2.2.2.1) ?_
          refine e_iload_n dX6_pourFrom_103 rfl ?_
          refine q_ialdH dX6_pourFrom_104 hv0.2.2.2.2.2.1 (fun i9 => ?_)
          refine e_imul dX6_pourFrom_105 ?_
          refine e_aload_n dX6_pourFrom_106 rfl ?_
          refine q_getR (r := v0 + 4) dX6_pourFrom_107 lf_Pourings_21 rfl (by decide) (congrArg Prod.fst hv0.1) (am_avs hv0.2.1.2.2.2.1) ?_
          refine e_iload dX6_pourFrom_110 rfl ?_
          refine q_ialdC (jn := _) dX6_pourFrom_112 hv0.2.2.2.2.2.1 i4 rfl ?_
          refine e_iadd dX6_pourFrom_113 ?_
          refine q_callVV (As := [_, _, _]) rfl dX6_pourFrom_114 lm_Pourings_38 (am_fitB rfl) yo_X6_comeTo ys_X6_comeTo rfl rfl (by decide) (congrArg Prod.fst hv0.1) rfl (Nat.le_of_ble_eq_true rfl) (Nat.le_of_ble_eq_true rfl) (s_X6_comeTo hL _ _ _ _ hv0 _) (fun q10 => ?_)
          refine e_iinc dX6_pourFrom_117 rfl (v := _ + 1) rfl (by decide) (LS1 := [_, _, _, _, _, _, _, _]) rfl ?_
          refine e_goto dX6_pourFrom_120 (tgt := 20) (by decide) ?_
          refine e_msk [true, true, true, true, true, false, false, false] (LS1 := [_, _, _, _, _, none, none, none]) rfl ?_
          exact ih (v4 + 1) q10

set_option maxRecDepth 100000 in
set_option maxHeartbeats 4000000 in
theorem s_X6_pourFrom_9 {l : Launch} {g : am_G} {B : am_M} {pl : Nat} (hL : am_Lay B pl) (v0 : Nat) (v1 : Int32) (v2 : Int32) (hv0 : am_isPour B v0)   : ∀ (n : Nat) (v3 : Int32) (u : am_U), am_E l g d_X6_pourFrom 9 [some (.ref (v0)), some (.int (v1)), some (.int (v2)), some (.int (v3)), none, none, none, none] [] (am_of B u) (am_r (am_bV B) (f_X6_pourFrom_9 v0 v1 v2 n v3 u)) := by
  intro n
  induction n with
  | zero => intro v3 u; exact am_none
  | succ n ih =>
    intro v3 u
    unfold f_X6_pourFrom_9
    refine e_iload_n dX6_pourFrom_9 rfl ?_
    refine e_aload_n dX6_pourFrom_10 rfl ?_
    refine q_getI dX6_pourFrom_11 lf_Pourings_74 (by decide) (congrArg Prod.fst hv0.1) ?_
    refine e_if2_ge dX6_pourFrom_14 (tgt := 129) (by decide) ?_ ?_
    · exact e_vret dX6_pourFrom_129 rfl rfl
    · refine e_iconst dX6_pourFrom_17 (v := 0) (by decide) ?_
      refine e_istore dX6_pourFrom_18 (by decide) (LS1 := [_, _, _, _, _, none, none, none]) rfl ?_
      refine s_X6_pourFrom_20 hL _ _ _ _ hv0 _ (fun c11u => ?_) _ _ _
      · refine e_iinc dX6_pourFrom_123 rfl (v := _ + 1) rfl (by decide) (LS1 := [_, _, _, _, none, none, none, none]) rfl ?_
        refine e_goto dX6_pourFrom_126 (tgt := 9) (by decide) ?_
        exact ih (v3 + 1) c11u

set_option maxRecDepth 100000 in
set_option maxHeartbeats 4000000 in
theorem s_X6_pourFrom {l : Launch} {g : am_G} {B : am_M} {pl : Nat} (hL : am_Lay B pl) (a0 : Nat) (a1 : Int32) (h0 : am_isPour B a0) (u : am_U) : am_E l g d_X6_pourFrom 0 (am_ent d_X6_pourFrom [.ref (a0), .int (a1)]) [] (am_of B u) (am_r (am_bV B) (f_X6_pourFrom a0 a1 u)) := by
  unfold f_X6_pourFrom
  show am_E l g d_X6_pourFrom 0 [some (.ref (a0)), some (.int (a1)), none, none, none, none, none, none] [] (am_of B u) _
  refine e_aload_n dX6_pourFrom_0 rfl ?_
  refine q_getR (r := a0 + 1) dX6_pourFrom_1 lf_Pourings_11 rfl (by decide) (congrArg Prod.fst h0.1) (am_avs h0.2.1.1) ?_
  refine e_iload_n dX6_pourFrom_4 rfl ?_
  refine q_ialdH dX6_pourFrom_5 h0.2.2.1 (fun i1 => ?_)
  refine e_istore_n dX6_pourFrom_6 (by decide) (LS1 := [_, _, _, none, none, none, none, none]) rfl ?_
  refine e_iconst dX6_pourFrom_7 (v := 0) (by decide) ?_
  refine e_istore_n dX6_pourFrom_8 (by decide) (LS1 := [_, _, _, _, none, none, none, none]) rfl ?_
  refine s_X6_pourFrom_9 hL _ _ _ h0 _ _ _

def f_X6_spilt (a0 : Nat) (a1 : Int32) (u : am_U) : Option (Int32) :=
  (f_X6_total (u (a0 + 1) 0) u).bind (fun q1 =>
  am_ck (am_ix a1 9261) (
  (f_X6_total (u (a0 + 1) a1.toNatClampNeg) u).bind (fun q3 =>
  some (q1 - q3))))
set_option maxRecDepth 100000 in
set_option maxHeartbeats 4000000 in
theorem s_X6_spilt {l : Launch} {g : am_G} {B : am_M} {pl : Nat} (hL : am_Lay B pl) (a0 : Nat) (a1 : Int32) (h0 : am_isPour B a0) (u : am_U) : am_E l g d_X6_spilt 0 (am_ent d_X6_spilt [.ref (a0), .int (a1)]) [] (am_of B u) (am_r (am_bP B u) (f_X6_spilt a0 a1 u)) := by
  unfold f_X6_spilt
  show am_E l g d_X6_spilt 0 [some (.ref (a0)), some (.int (a1))] [] (am_of B u) _
  refine e_aload_n dX6_spilt_0 rfl ?_
  refine q_getR (r := a0 + 1) dX6_spilt_1 lf_Pourings_11 rfl (by decide) (congrArg Prod.fst h0.1) (am_avs h0.2.1.1) ?_
  refine e_iconst dX6_spilt_4 (v := 0) (by decide) ?_
  refine q_ialdC (jn := 0) dX6_spilt_5 h0.2.2.1 (by decide) (by decide) ?_
  refine q_callSP (As := [_]) rfl dX6_spilt_6 lm_Pourings_54 (am_fitB rfl) yo_X6_total ys_X6_total rfl (Nat.le_of_ble_eq_true rfl) (Nat.le_of_ble_eq_true rfl) (s_X6_total hL _  _) (fun q1 => ?_)
  refine e_aload_n dX6_spilt_9 rfl ?_
  refine q_getR (r := a0 + 1) dX6_spilt_10 lf_Pourings_11 rfl (by decide) (congrArg Prod.fst h0.1) (am_avs h0.2.1.1) ?_
  refine e_iload_n dX6_spilt_13 rfl ?_
  refine q_ialdH dX6_spilt_14 h0.2.2.1 (fun i2 => ?_)
  refine q_callSP (As := [_]) rfl dX6_spilt_15 lm_Pourings_54 (am_fitB rfl) yo_X6_total ys_X6_total rfl (Nat.le_of_ble_eq_true rfl) (Nat.le_of_ble_eq_true rfl) (s_X6_total hL _  _) (fun q3 => ?_)
  refine e_isub dX6_spilt_18 ?_
  exact e_iret dX6_spilt_19 rfl rfl

def f_X6_writeWay_14 (v0 : Nat) (v3 : Nat) : Nat → Int32 → Int32 → am_U → Option (am_U)
  | 0, _, _, _ => none
  | n + 1, v4, v5, u =>
    if v5 ≤ 0 then (
      some u)
    else (
      if v4 < 0 then (
        some u)
      else (
        am_ck (am_ix v5 9261) (
        am_ck (am_ix v4 60) (
        let u3 : am_U := am_w u (v3 + 1) v4.toNatClampNeg ((u (v0 + 2) v5.toNatClampNeg) - (u (v0 + 2) v5.toNatClampNeg) / 36 * 36)
        let x5 : Int32 := (u3 (v0 + 2) v5.toNatClampNeg) / 36
        f_X6_writeWay_14 v0 v3 n (v4 + (-1)) x5 u3))))
def f_X6_writeWay (a0 : Nat) (a1 : Int32) (a2 : Int32) (a3 : Nat) (u : am_U) : Option (am_U) :=
  (f_X8_makeAnew a3 a2 0 u).bind (fun q1 =>
  f_X6_writeWay_14 a0 a3 20000 (a2 - 1) a1 q1)
set_option maxRecDepth 100000 in
set_option maxHeartbeats 4000000 in
theorem s_X6_writeWay_14 {l : Launch} {g : am_G} {B : am_M} {pl : Nat} (hL : am_Lay B pl) (v0 : Nat) (v3 : Nat) (hv0 : am_isPour B v0) (hv3 : am_isRow B v3)   : ∀ (n : Nat) (v4 : Int32) (v5 : Int32) (u : am_U), am_E l g d_X6_writeWay 14 [some (.ref (v0)), none, none, some (.ref (v3)), some (.int (v4)), some (.int (v5))] [] (am_of B u) (am_r (am_bV B) (f_X6_writeWay_14 v0 v3 n v4 v5 u)) := by
  intro n
  induction n with
  | zero => intro v4 v5 u; exact am_none
  | succ n ih =>
    intro v4 v5 u
    unfold f_X6_writeWay_14
    refine e_iload dX6_writeWay_14 rfl ?_
    refine e_if_le dX6_writeWay_16 (tgt := 59) (by decide) ?_ ?_
    · exact e_vret dX6_writeWay_59 rfl rfl
    · refine e_iload dX6_writeWay_19 rfl ?_
      refine e_if_lt dX6_writeWay_21 (tgt := 59) (by decide) ?_ ?_
      · exact e_vret dX6_writeWay_59 rfl rfl
      · refine e_aload_n dX6_writeWay_24 rfl ?_
        refine q_getR (r := v3 + 1) dX6_writeWay_25 lf_Pourings_63 rfl (by decide) (congrArg Prod.fst hv3.1) (am_avs hv3.2.1) ?_
        refine e_iload dX6_writeWay_28 rfl ?_
        refine e_aload_n dX6_writeWay_30 rfl ?_
        refine q_getR (r := v0 + 2) dX6_writeWay_31 lf_Pourings_15 rfl (by decide) (congrArg Prod.fst hv0.1) (am_avs hv0.2.1.2.1) ?_
        refine e_iload dX6_writeWay_34 rfl ?_
        refine q_ialdH dX6_writeWay_36 hv0.2.2.2.1 (fun i2 => ?_)
        refine e_bipush dX6_writeWay_37 (v := 36) (by decide) ?_
        refine e_irem dX6_writeWay_39 (by decide) ?_
        refine q_iastH dX6_writeWay_40 hv3.2.2 (fun i4 => ?_)
        refine e_iinc dX6_writeWay_41 rfl (v := _ + (-1)) rfl (by decide) (LS1 := [_, none, none, _, _, _]) rfl ?_
        refine e_aload_n dX6_writeWay_44 rfl ?_
        refine q_getR (r := v0 + 2) dX6_writeWay_45 lf_Pourings_15 rfl (by decide) (congrArg Prod.fst hv0.1) (am_avs hv0.2.1.2.1) ?_
        refine e_iload dX6_writeWay_48 rfl ?_
        refine q_ialdC (jn := _) dX6_writeWay_50 hv0.2.2.2.1 i2 rfl ?_
        refine e_bipush dX6_writeWay_51 (v := 36) (by decide) ?_
        refine e_idiv dX6_writeWay_53 (by decide) ?_
        refine e_istore dX6_writeWay_54 (by decide) (LS1 := [_, none, none, _, _, _]) rfl ?_
        refine e_goto dX6_writeWay_56 (tgt := 14) (by decide) ?_
        exact ih (v4 + (-1)) (((am_w u (v3 + 1) v4.toNatClampNeg ((u (v0 + 2) v5.toNatClampNeg) - (u (v0 + 2) v5.toNatClampNeg) / 36 * 36)) (v0 + 2) v5.toNatClampNeg) / 36) (am_w u (v3 + 1) v4.toNatClampNeg ((u (v0 + 2) v5.toNatClampNeg) - (u (v0 + 2) v5.toNatClampNeg) / 36 * 36))

set_option maxRecDepth 100000 in
set_option maxHeartbeats 4000000 in
theorem s_X6_writeWay {l : Launch} {g : am_G} {B : am_M} {pl : Nat} (hL : am_Lay B pl) (a0 : Nat) (a1 : Int32) (a2 : Int32) (a3 : Nat) (h0 : am_isPour B a0) (h3 : am_isRow B a3) (u : am_U) : am_E l g d_X6_writeWay 0 (am_ent d_X6_writeWay [.ref (a0), .int (a1), .int (a2), .ref (a3)]) [] (am_of B u) (am_r (am_bV B) (f_X6_writeWay a0 a1 a2 a3 u)) := by
  unfold f_X6_writeWay
  show am_E l g d_X6_writeWay 0 [some (.ref (a0)), some (.int (a1)), some (.int (a2)), some (.ref (a3)), none, none] [] (am_of B u) _
  refine e_aload_n dX6_writeWay_0 rfl ?_
  refine e_iload_n dX6_writeWay_1 rfl ?_
  refine e_iconst dX6_writeWay_2 (v := 0) (by decide) ?_
  refine q_callVV (As := [_, _]) rfl dX6_writeWay_3 lm_Pourings_57 (am_fitB rfl) yo_X8_makeAnew ys_X8_makeAnew rfl rfl (by decide) (congrArg Prod.fst h3.1) rfl (Nat.le_of_ble_eq_true rfl) (Nat.le_of_ble_eq_true rfl) (s_X8_makeAnew hL _ _ _ h3 _) (fun q1 => ?_)
  refine e_iload_n dX6_writeWay_6 rfl ?_
  refine e_iconst dX6_writeWay_7 (v := 1) (by decide) ?_
  refine e_isub dX6_writeWay_8 ?_
  refine e_istore dX6_writeWay_9 (by decide) (LS1 := [_, _, _, _, _, none]) rfl ?_
  refine e_iload_n dX6_writeWay_11 rfl ?_
  refine e_istore dX6_writeWay_12 (by decide) (LS1 := [_, _, _, _, _, _]) rfl ?_
  refine e_msk [true, false, false, true, true, true] (LS1 := [_, none, none, _, _, _]) rfl ?_
  refine s_X6_writeWay_14 hL _ _ h0 h3 _ _ _ _

def f_X7_figure (tx : Nat) (u : am_U) : Option (Int32) :=
  (f_X7_sign tx u).bind (fun q1 =>
  (f_X10_isWithin q1 48 57).bind (fun q2 =>
  if q2 = 0 then (
    some ((-9) : Int32))
  else (
    (f_X7_sign tx u).bind (fun q3 =>
    some (q3 - 48)))))
set_option maxRecDepth 100000 in
set_option maxHeartbeats 4000000 in
theorem s_X7_figure {l : Launch} {g : am_G} {B : am_M} {pl : Nat} (hL : am_Lay B pl) {tx : Nat} (htx : am_av (am_ro B 7 0) = .ref tx) (hT : am_isRow B tx)   (u : am_U) : am_E l g d_X7_figure 0 (am_ent d_X7_figure [.ref (7)]) [] (am_of B u) (am_r (am_bP B u) (f_X7_figure tx u)) := by
  unfold f_X7_figure
  show am_E l g d_X7_figure 0 [some (.ref (7))] [] (am_of B u) _
  refine e_aload_n dX7_figure_0 rfl ?_
  refine q_callVP (As := []) rfl dX7_figure_1 lm_Reader_65 (am_fitB rfl) yo_X7_sign ys_X7_sign rfl rfl (by decide) (am_Lk hL rfl) rfl (Nat.le_of_ble_eq_true rfl) (Nat.le_of_ble_eq_true rfl) (s_X7_sign hL htx hT   _) (fun q1 => ?_)
  refine e_bipush dX7_figure_4 (v := 48) (by decide) ?_
  refine e_bipush dX7_figure_6 (v := 57) (by decide) ?_
  refine q_callSP (As := [_, _, _]) rfl dX7_figure_8 lm_Reader_40 (am_fitB rfl) yo_X10_isWithin ys_X10_isWithin rfl (Nat.le_of_ble_eq_true rfl) (Nat.le_of_ble_eq_true rfl) (s_X10_isWithin hL _ _ _  _) (fun q2 => ?_)
  refine e_if_eq dX7_figure_11 (tgt := 24) (by decide) ?_ ?_
  · refine e_bipush dX7_figure_24 (v := ((-9) : Int32)) (by decide) ?_
    exact e_iret dX7_figure_26 rfl rfl
  · refine e_aload_n dX7_figure_14 rfl ?_
    refine q_callVP (As := []) rfl dX7_figure_15 lm_Reader_65 (am_fitB rfl) yo_X7_sign ys_X7_sign rfl rfl (by decide) (am_Lk hL rfl) rfl (Nat.le_of_ble_eq_true rfl) (Nat.le_of_ble_eq_true rfl) (s_X7_sign hL htx hT   _) (fun q3 => ?_)
    refine e_bipush dX7_figure_18 (v := 48) (by decide) ?_
    refine e_isub dX7_figure_20 ?_
    refine e_goto dX7_figure_21 (tgt := 26) (by decide) ?_
    exact e_iret dX7_figure_26 rfl rfl

def f_X7_skipBlanks_0 (tx : Nat) : Nat → am_U → Option (am_U)
  | 0, _ => none
  | n + 1, u =>
    if 60 ≤ (u 7 1) then (
      some u)
    else (
      (f_X7_sign tx u).bind (fun q1 =>
      if ¬ q1 = 32 then (
        some u)
      else (
        let u2 : am_U := am_w u 7 1 ((u 7 1) + 1)
        f_X7_skipBlanks_0 tx n u2)))
def f_X7_skipBlanks (tx : Nat) (u : am_U) : Option (am_U) :=
  f_X7_skipBlanks_0 tx 20000 u
set_option maxRecDepth 100000 in
set_option maxHeartbeats 4000000 in
theorem s_X7_skipBlanks_0 {l : Launch} {g : am_G} {B : am_M} {pl : Nat} (hL : am_Lay B pl) {tx : Nat} (htx : am_av (am_ro B 7 0) = .ref tx) (hT : am_isRow B tx)     : ∀ (n : Nat) (u : am_U), am_E l g d_X7_skipBlanks 0 [some (.ref (7))] [] (am_of B u) (am_r (am_bV B) (f_X7_skipBlanks_0 tx n u)) := by
  intro n
  induction n with
  | zero => intro u; exact am_none
  | succ n ih =>
    intro u
    unfold f_X7_skipBlanks_0
    refine e_aload_n dX7_skipBlanks_0 rfl ?_
    refine q_getI dX7_skipBlanks_1 lf_Reader_15 (by decide) (am_Lk hL rfl) ?_
    refine e_bipush dX7_skipBlanks_4 (v := 60) (by decide) ?_
    refine e_if2_ge dX7_skipBlanks_6 (tgt := 31) (by decide) ?_ ?_
    · exact e_vret dX7_skipBlanks_31 rfl rfl
    · refine e_aload_n dX7_skipBlanks_9 rfl ?_
      refine q_callVP (As := []) rfl dX7_skipBlanks_10 lm_Reader_65 (am_fitB rfl) yo_X7_sign ys_X7_sign rfl rfl (by decide) (am_Lk hL rfl) rfl (Nat.le_of_ble_eq_true rfl) (Nat.le_of_ble_eq_true rfl) (s_X7_sign hL htx hT   _) (fun q1 => ?_)
      refine e_bipush dX7_skipBlanks_13 (v := 32) (by decide) ?_
      refine e_if2_ne dX7_skipBlanks_15 (tgt := 31) (by decide) ?_ ?_
      · exact e_vret dX7_skipBlanks_31 rfl rfl
      · refine e_aload_n dX7_skipBlanks_18 rfl ?_
        refine e_dup dX7_skipBlanks_19 rfl ?_
        refine q_getI dX7_skipBlanks_20 lf_Reader_15 (by decide) (am_Lk hL rfl) ?_
        refine e_iconst dX7_skipBlanks_23 (v := 1) (by decide) ?_
        refine e_iadd dX7_skipBlanks_24 ?_
        refine q_putI dX7_skipBlanks_25 lf_Reader_15 rfl (by decide) (am_Lk hL rfl) ?_
        refine e_goto dX7_skipBlanks_28 (tgt := 0) (by decide) ?_
        exact ih (am_w u 7 1 ((u 7 1) + 1))

set_option maxRecDepth 100000 in
set_option maxHeartbeats 4000000 in
theorem s_X7_skipBlanks {l : Launch} {g : am_G} {B : am_M} {pl : Nat} (hL : am_Lay B pl) {tx : Nat} (htx : am_av (am_ro B 7 0) = .ref tx) (hT : am_isRow B tx)   (u : am_U) : am_E l g d_X7_skipBlanks 0 (am_ent d_X7_skipBlanks [.ref (7)]) [] (am_of B u) (am_r (am_bV B) (f_X7_skipBlanks tx u)) := by
  unfold f_X7_skipBlanks
  show am_E l g d_X7_skipBlanks 0 [some (.ref (7))] [] (am_of B u) _
  refine s_X7_skipBlanks_0 hL htx hT  _ _

def f_X10_at (a1 : Int32) (a2 : Int32) (u : am_U) : Option (Int32 × am_U) :=
  (f_X10_refusePlace 5 a1 a2 u).bind (fun q1 =>
  if q1.1 = 0 then (
    am_ck (am_ix a1 6) (
    am_ck (am_ix a2 60) (
    (f_X10_tell 1 (q1.2 ((2 * a1.toNatClampNeg + 40) + 1) a2.toNatClampNeg) q1.2).bind (fun q4 =>
    some (q4.1, q4.2)))))
  else (
    some (q1.1, q1.2)))
set_option maxRecDepth 100000 in
set_option maxHeartbeats 4000000 in
theorem s_X10_at {l : Launch} {g : am_G} {B : am_M} {pl : Nat} (hL : am_Lay B pl) (a1 : Int32) (a2 : Int32)  (u : am_U) : am_E l g d_X10_at 0 (am_ent d_X10_at [.ref (4), .int (a1), .int (a2)]) [] (am_of B u) (am_r (am_bI B) (f_X10_at a1 a2 u)) := by
  unfold f_X10_at
  show am_E l g d_X10_at 0 [some (.ref (4)), some (.int (a1)), some (.int (a2)), none] [] (am_of B u) _
  refine e_aload_n dX10_at_0 rfl ?_
  refine e_aload_n dX10_at_1 rfl ?_
  refine q_getR (r := 5) dX10_at_2 lf_N_11 rfl (by decide) (am_Lk hL rfl) (am_Lr hL rfl) ?_
  refine e_iload_n dX10_at_5 rfl ?_
  refine e_iload_n dX10_at_6 rfl ?_
  refine q_callVI (As := [_, _, _]) rfl dX10_at_7 lm_N_94 (am_fitB rfl) yo_X10_refusePlace ys_X10_refusePlace rfl rfl (by decide) (am_Lk hL rfl) rfl (Nat.le_of_ble_eq_true rfl) (Nat.le_of_ble_eq_true rfl) (s_X10_refusePlace hL _ _ _ (am_rows5 hL) _) (fun q1 => ?_)
  refine e_istore_n dX10_at_10 (by decide) (LS1 := [_, _, _, _]) rfl ?_
  refine e_iload_n dX10_at_11 rfl ?_
  refine e_if_eq dX10_at_12 (tgt := 19) (by decide) ?_ ?_
  · refine e_aload_n dX10_at_19 rfl ?_
    refine e_iconst dX10_at_20 (v := 1) (by decide) ?_
    refine e_aload_n dX10_at_21 rfl ?_
    refine q_getR (r := 5) dX10_at_22 lf_N_11 rfl (by decide) (am_Lk hL rfl) (am_Lr hL rfl) ?_
    refine e_iload_n dX10_at_25 rfl ?_
    refine q_aald (n := 6) (rid := 2 * a1.toNatClampNeg + 40) dX10_at_26 (am_rows5 hL).1 (fun h => ((am_rows5 hL).2 _ h).1) (fun i2 => ?_)
    refine q_getR (r := (2 * a1.toNatClampNeg + 40) + 1) dX10_at_27 lf_N_98 rfl (by decide) (congrArg Prod.fst ((am_rows5 hL).2 _ i2).2.1) (am_avs ((am_rows5 hL).2 _ i2).2.2.1) ?_
    refine e_iload_n dX10_at_30 rfl ?_
    refine q_ialdH dX10_at_31 ((am_rows5 hL).2 _ i2).2.2.2 (fun i3 => ?_)
    refine q_callVI (As := [_, _]) rfl dX10_at_32 lm_N_101 (am_fitB rfl) yo_X10_tell ys_X10_tell rfl rfl (by decide) (am_Lk hL rfl) rfl (Nat.le_of_ble_eq_true rfl) (Nat.le_of_ble_eq_true rfl) (s_X10_tell hL _ _  _) (fun q4 => ?_)
    exact e_iret dX10_at_35 rfl rfl
  · refine e_iload_n dX10_at_15 rfl ?_
    refine e_goto dX10_at_16 (tgt := 35) (by decide) ?_
    exact e_iret dX10_at_35 rfl rfl

def f_X10_carry (pl : Nat) (a1 : Int32) (a2 : Int32) (u : am_U) : Option (Int32 × am_U) :=
  (f_X10_isJar pl a1 u).bind (fun q1 =>
  if q1 = 0 then (
    some (((-1) : Int32), u))
  else (
    (f_X10_isWithin a2 0 1).bind (fun q2 =>
    if ¬ q2 = 0 then (
      am_ck (am_ix a1 6) (
      am_jn (fun (j4s0 : Int32) =>
        let x5 : Int32 := (u 10 a1.toNatClampNeg) + j4s0
        (f_X10_isPlace x5).bind (fun q6 =>
        if q6 = 0 then (
          some (((-4) : Int32), u))
        else (
          if (u 8 6) < (u pl 0) then (
            (f_X1_remember 1 u).bind (fun q7 =>
            let u8 : am_U := am_w q7 10 a1.toNatClampNeg x5
            let u9 : am_U := am_w u8 8 6 ((u8 8 6) + 1)
            some (x5, u9)))
          else (
            some (((-4) : Int32), u))))) (fun j4 =>
      if ¬ a2 = 1 then (
        j4 ((-1) : Int32))
      else (
        j4 1))))
    else (
      some (((-1) : Int32), u)))))
set_option maxRecDepth 100000 in
set_option maxHeartbeats 4000000 in
theorem s_X10_carry {l : Launch} {g : am_G} {B : am_M} {pl : Nat} (hL : am_Lay B pl) (a1 : Int32) (a2 : Int32)  (u : am_U) : am_E l g d_X10_carry 0 (am_ent d_X10_carry [.ref (4), .int (a1), .int (a2)]) [] (am_of B u) (am_r (am_bI B) (f_X10_carry pl a1 a2 u)) := by
  unfold f_X10_carry
  show am_E l g d_X10_carry 0 [some (.ref (4)), some (.int (a1)), some (.int (a2)), none] [] (am_of B u) _
  refine e_aload_n dX10_carry_0 rfl ?_
  refine e_iload_n dX10_carry_1 rfl ?_
  refine q_callVP (As := [_]) rfl dX10_carry_2 lm_N_147 (am_fitB rfl) yo_X10_isJar ys_X10_isJar rfl rfl (by decide) (am_Lk hL rfl) rfl (Nat.le_of_ble_eq_true rfl) (Nat.le_of_ble_eq_true rfl) (s_X10_isJar hL _  _) (fun q1 => ?_)
  refine e_if_eq dX10_carry_5 (tgt := 17) (by decide) ?_ ?_
  · refine e_iconst dX10_carry_17 (v := ((-1) : Int32)) (by decide) ?_
    exact e_iret dX10_carry_18 rfl rfl
  · refine e_iload_n dX10_carry_8 rfl ?_
    refine e_iconst dX10_carry_9 (v := 0) (by decide) ?_
    refine e_iconst dX10_carry_10 (v := 1) (by decide) ?_
    refine q_callSP (As := [_, _, _]) rfl dX10_carry_11 lm_N_86 (am_fitB rfl) yo_X10_isWithin ys_X10_isWithin rfl (Nat.le_of_ble_eq_true rfl) (Nat.le_of_ble_eq_true rfl) (s_X10_isWithin hL _ _ _  _) (fun q2 => ?_)
    refine e_if_ne dX10_carry_14 (tgt := 19) (by decide) ?_ ?_
    · refine e_aload_n dX10_carry_19 rfl ?_
      refine q_getR (r := 8) dX10_carry_20 lf_N_28 rfl (by decide) (am_Lk hL rfl) (am_Lr hL rfl) ?_
      refine q_getR (r := 10) dX10_carry_23 lf_N_187 rfl (by decide) (am_Lk hL rfl) (am_Lr hL rfl) ?_
      refine e_iload_n dX10_carry_26 rfl ?_
      refine q_ialdH dX10_carry_27 (am_Ls hL rfl) (fun i3 => ?_)
      refine e_iload_n dX10_carry_28 rfl ?_
      refine e_iconst dX10_carry_29 (v := 1) (by decide) ?_
      refine e_jn (P := fun t : Int32 → Option (Int32 × am_U) => ∀ (j4s0 : Int32), am_E l g d_X10_carry 38 [some (.ref (4)), some (.int (a1)), none, none] [.int (j4s0), .int (u 10 a1.toNatClampNeg)] (am_of B u) (am_r (am_bI B) (t j4s0))) ?_ (fun j4 hj4 => ?_)
      · intro j4s0
        refine e_iadd dX10_carry_38 ?_
        refine e_istore_n dX10_carry_39 (by decide) (LS1 := [_, _, none, _]) rfl ?_
        refine e_iload_n dX10_carry_40 rfl ?_
        refine q_callSP (As := [_]) rfl dX10_carry_41 lm_N_178 (am_fitB rfl) yo_X10_isPlace ys_X10_isPlace rfl (Nat.le_of_ble_eq_true rfl) (Nat.le_of_ble_eq_true rfl) (s_X10_isPlace hL _  _) (fun q6 => ?_)
        refine e_if_eq dX10_carry_44 (tgt := 64) (by decide) ?_ ?_
        · refine e_bipush dX10_carry_64 (v := ((-4) : Int32)) (by decide) ?_
          exact e_iret dX10_carry_66 rfl rfl
        · refine e_aload_n dX10_carry_47 rfl ?_
          refine q_getR (r := 8) dX10_carry_48 lf_N_28 rfl (by decide) (am_Lk hL rfl) (am_Lr hL rfl) ?_
          refine q_getI dX10_carry_51 lf_N_200 (by decide) (am_Lk hL rfl) ?_
          refine e_aload_n dX10_carry_54 rfl ?_
          refine q_getR (r := pl) dX10_carry_55 lf_N_72 rfl (by decide) (am_Lk hL rfl) (am_Lpl hL) ?_
          refine q_getI dX10_carry_58 lf_N_203 (by decide) (congrArg Prod.fst (am_pln hL).1) ?_
          refine e_if2_lt dX10_carry_61 (tgt := 67) (by decide) ?_ ?_
          · refine e_aload_n dX10_carry_67 rfl ?_
            refine q_getR (r := 14) dX10_carry_68 lf_N_35 rfl (by decide) (am_Lk hL rfl) (am_Lr hL rfl) ?_
            refine e_iconst dX10_carry_71 (v := 1) (by decide) ?_
            refine e_aload_n dX10_carry_72 rfl ?_
            refine q_getR (r := 8) dX10_carry_73 lf_N_28 rfl (by decide) (am_Lk hL rfl) (am_Lr hL rfl) ?_
            refine q_callVV (As := [_, _]) rfl dX10_carry_76 lm_N_193 (am_fitB rfl) yo_X1_remember ys_X1_remember rfl rfl (by decide) (am_Lk hL rfl) rfl (Nat.le_of_ble_eq_true rfl) (Nat.le_of_ble_eq_true rfl) (s_X1_remember hL _  _) (fun q7 => ?_)
            refine e_aload_n dX10_carry_79 rfl ?_
            refine q_getR (r := 8) dX10_carry_80 lf_N_28 rfl (by decide) (am_Lk hL rfl) (am_Lr hL rfl) ?_
            refine q_getR (r := 10) dX10_carry_83 lf_N_187 rfl (by decide) (am_Lk hL rfl) (am_Lr hL rfl) ?_
            refine e_iload_n dX10_carry_86 rfl ?_
            refine e_iload_n dX10_carry_87 rfl ?_
            refine q_iastC (jn := _) dX10_carry_88 (am_Ls hL rfl) i3 rfl ?_
            refine e_aload_n dX10_carry_89 rfl ?_
            refine q_getR (r := 8) dX10_carry_90 lf_N_28 rfl (by decide) (am_Lk hL rfl) (am_Lr hL rfl) ?_
            refine e_dup dX10_carry_93 rfl ?_
            refine q_getI dX10_carry_94 lf_N_200 (by decide) (am_Lk hL rfl) ?_
            refine e_iconst dX10_carry_97 (v := 1) (by decide) ?_
            refine e_iadd dX10_carry_98 ?_
            refine q_putI dX10_carry_99 lf_N_200 rfl (by decide) (am_Lk hL rfl) ?_
            refine e_iload_n dX10_carry_102 rfl ?_
            exact e_iret dX10_carry_103 rfl rfl
          · refine e_bipush dX10_carry_64 (v := ((-4) : Int32)) (by decide) ?_
            exact e_iret dX10_carry_66 rfl rfl
      · refine e_if2_ne dX10_carry_30 (tgt := 37) (by decide) ?_ ?_
        · refine e_iconst dX10_carry_37 (v := ((-1) : Int32)) (by decide) ?_
          refine e_msk [true, true, false, false] (LS1 := [_, _, none, none]) rfl ?_
          exact hj4 ((-1) : Int32)
        · refine e_iconst dX10_carry_33 (v := 1) (by decide) ?_
          refine e_goto dX10_carry_34 (tgt := 38) (by decide) ?_
          refine e_msk [true, true, false, false] (LS1 := [_, _, none, none]) rfl ?_
          exact hj4 1
    · refine e_iconst dX10_carry_17 (v := ((-1) : Int32)) (by decide) ?_
      exact e_iret dX10_carry_18 rfl rfl

def f_X10_digest_6 (pl : Nat) (u : am_U) (k31 : Int64 → Option (Int64)) : Nat → Int64 → Int32 → Option (Int64)
  | 0, _, _ => none
  | n + 1, v1, v3 =>
    if 10 ≤ v3 then (
      k31 v1)
    else (
      (f_X10_count pl v3 u).bind (fun q1 =>
      f_X10_digest_6 pl u k31 n (((31 : Int64) * v1) + q1.toInt64) (v3 + 1)))
def f_X10_digest_47 (pl : Nat) (u : am_U) (v3 : Int32) (k74 : Int64 → Option (Int64)) : Nat → Int64 → Int32 → Option (Int64)
  | 0, _, _ => none
  | n + 1, v1, v4 =>
    if 5 ≤ v4 then (
      k74 v1)
    else (
      (f_X10_jarTells pl v3 v4 u).bind (fun q3 =>
      f_X10_digest_47 pl u v3 k74 n (((31 : Int64) * v1) + q3.toInt64) (v4 + 1)))
def f_X10_digest_33 (pl : Nat) (u : am_U) (k80 : Int64 → Option (Int64)) : Nat → Int64 → Int32 → Option (Int64)
  | 0, _, _ => none
  | n + 1, v1, v3 =>
    if (u pl 2) ≤ v3 then (
      k80 v1)
    else (
      f_X10_digest_47 pl u v3 (fun (c4v1 : Int64) =>
        f_X10_digest_33 pl u k80 n c4v1 (v3 + 1)) 20000 v1 0)
def f_X10_digest_90 (pl : Nat) (u : am_U) (v3 : Int32) (k117 : Int64 → Option (Int64)) : Nat → Int64 → Int32 → Option (Int64)
  | 0, _, _ => none
  | n + 1, v1, v4 =>
    if 4 ≤ v4 then (
      k117 v1)
    else (
      (f_X10_placeTells pl v3 v4 u).bind (fun q6 =>
      f_X10_digest_90 pl u v3 k117 n (((31 : Int64) * v1) + q6.toInt64) (v4 + 1)))
def f_X10_digest_82 (pl : Nat) (u : am_U) (k123 : Int64 → Option (Int64)) : Nat → Int64 → Int32 → Option (Int64)
  | 0, _, _ => none
  | n + 1, v1, v3 =>
    if 5 ≤ v3 then (
      k123 v1)
    else (
      f_X10_digest_90 pl u v3 (fun (c7v1 : Int64) =>
        f_X10_digest_82 pl u k123 n c7v1 (v3 + 1)) 20000 v1 0)
def f_X10_digest_125 (pl : Nat) (u : am_U) (k176 : Int64 → Option (Int64)) : Nat → Int64 → Int32 → Option (Int64)
  | 0, _, _ => none
  | n + 1, v1, v3 =>
    if (u 21 4) ≤ v3 then (
      k176 v1)
    else (
      am_ck (am_ix v3 8) (
      f_X10_digest_125 pl u k176 n (((31 : Int64) * (((31 : Int64) * v1) + ((u 22 v3.toNatClampNeg).toInt64))) + ((u 23 v3.toNatClampNeg).toInt64)) (v3 + 1)))
def f_X10_digest_178 (pl : Nat) (u : am_U) (k203 : Int64 → Option (Int64)) : Nat → Int64 → Int32 → Option (Int64)
  | 0, _, _ => none
  | n + 1, v1, v3 =>
    if 3 ≤ v3 then (
      k203 v1)
    else (
      am_ck (am_ix v3 3) (
      f_X10_digest_178 pl u k203 n (((31 : Int64) * v1) + ((u 20 v3.toNatClampNeg).toInt64)) (v3 + 1)))
def f_X10_digest (pl : Nat) (u : am_U) : Option (Int64) :=
  f_X10_digest_6 pl u (fun (c2v1 : Int64) =>
    f_X10_digest_33 pl u (fun (c5v1 : Int64) =>
      f_X10_digest_82 pl u (fun (c8v1 : Int64) =>
        f_X10_digest_125 pl u (fun (c10v1 : Int64) =>
          f_X10_digest_178 pl u (fun (c12v1 : Int64) =>
            (f_X10_digestRows c12v1 5 u).bind (fun q13 =>
            (f_X10_digestRows q13 6 u).bind (fun q14 =>
            some q14))) 20000 c10v1 0) 20000 c8v1 0) 20000 c5v1 0) 20000 c2v1 0) 20000 (17 : Int64) 0
set_option maxRecDepth 100000 in
set_option maxHeartbeats 4000000 in
theorem s_X10_digest_6 {l : Launch} {g : am_G} {B : am_M} {pl : Nat} (hL : am_Lay B pl) (u : am_U)   (k31 : Int64 → Option (Int64)) (hk31 : ∀ (v1 : Int64), am_E l g d_X10_digest 31 [some (.ref (4)), some (.long (v1)), none, none, none] [] (am_of B u) (am_r (am_bN B u) (k31 v1))) : ∀ (n : Nat) (v1 : Int64) (v3 : Int32), am_E l g d_X10_digest 6 [some (.ref (4)), some (.long (v1)), none, some (.int (v3)), none] [] (am_of B u) (am_r (am_bN B u) (f_X10_digest_6 pl u k31 n v1 v3)) := by
  intro n
  induction n with
  | zero => intro v1 v3; exact am_none
  | succ n ih =>
    intro v1 v3
    unfold f_X10_digest_6
    refine e_iload_n dX10_digest_6 rfl ?_
    refine e_bipush dX10_digest_7 (v := 10) (by decide) ?_
    refine e_if2_ge dX10_digest_9 (tgt := 31) (by decide) ?_ ?_
    · refine e_msk [true, true, false, false, false] (LS1 := [_, _, none, none, none]) rfl ?_
      exact hk31 v1
    · refine e_ldc2 dX10_digest_12 ll_N_363 ?_
      refine e_lload_n dX10_digest_15 rfl ?_
      refine e_lmul dX10_digest_16 ?_
      refine e_aload_n dX10_digest_17 rfl ?_
      refine e_iload_n dX10_digest_18 rfl ?_
      refine q_callVP (As := [_]) rfl dX10_digest_19 lm_N_365 (am_fitB rfl) yo_X10_count ys_X10_count rfl rfl (by decide) (am_Lk hL rfl) rfl (Nat.le_of_ble_eq_true rfl) (Nat.le_of_ble_eq_true rfl) (s_X10_count hL _  _) (fun q1 => ?_)
      refine e_i2l dX10_digest_22 ?_
      refine e_ladd dX10_digest_23 ?_
      refine e_lstore_n dX10_digest_24 (by decide) (LS1 := [_, _, none, _, none]) rfl ?_
      refine e_iinc dX10_digest_25 rfl (v := _ + 1) rfl (by decide) (LS1 := [_, _, none, _, none]) rfl ?_
      refine e_goto dX10_digest_28 (tgt := 6) (by decide) ?_
      exact ih (((31 : Int64) * v1) + q1.toInt64) (v3 + 1)

set_option maxRecDepth 100000 in
set_option maxHeartbeats 4000000 in
theorem s_X10_digest_47 {l : Launch} {g : am_G} {B : am_M} {pl : Nat} (hL : am_Lay B pl) (u : am_U) (v3 : Int32)  (k74 : Int64 → Option (Int64)) (hk74 : ∀ (v1 : Int64), am_E l g d_X10_digest 74 [some (.ref (4)), some (.long (v1)), none, some (.int (v3)), none] [] (am_of B u) (am_r (am_bN B u) (k74 v1))) : ∀ (n : Nat) (v1 : Int64) (v4 : Int32), am_E l g d_X10_digest 47 [some (.ref (4)), some (.long (v1)), none, some (.int (v3)), some (.int (v4))] [] (am_of B u) (am_r (am_bN B u) (f_X10_digest_47 pl u v3 k74 n v1 v4)) := by
  intro n
  induction n with
  | zero => intro v1 v4; exact am_none
  | succ n ih =>
    intro v1 v4
    unfold f_X10_digest_47
    refine e_iload dX10_digest_47 rfl ?_
    refine e_iconst dX10_digest_49 (v := 5) (by decide) ?_
    refine e_if2_ge dX10_digest_50 (tgt := 74) (by decide) ?_ ?_
    · refine e_msk [true, true, false, true, false] (LS1 := [_, _, none, _, none]) rfl ?_
      exact hk74 v1
    · refine e_ldc2 dX10_digest_53 ll_N_363 ?_
      refine e_lload_n dX10_digest_56 rfl ?_
      refine e_lmul dX10_digest_57 ?_
      refine e_aload_n dX10_digest_58 rfl ?_
      refine e_iload_n dX10_digest_59 rfl ?_
      refine e_iload dX10_digest_60 rfl ?_
      refine q_callVP (As := [_, _]) rfl dX10_digest_62 lm_N_151 (am_fitB rfl) yo_X10_jarTells ys_X10_jarTells rfl rfl (by decide) (am_Lk hL rfl) rfl (Nat.le_of_ble_eq_true rfl) (Nat.le_of_ble_eq_true rfl) (s_X10_jarTells hL _ _  _) (fun q3 => ?_)
      refine e_i2l dX10_digest_65 ?_
      refine e_ladd dX10_digest_66 ?_
      refine e_lstore_n dX10_digest_67 (by decide) (LS1 := [_, _, none, _, _]) rfl ?_
      refine e_iinc dX10_digest_68 rfl (v := _ + 1) rfl (by decide) (LS1 := [_, _, none, _, _]) rfl ?_
      refine e_goto dX10_digest_71 (tgt := 47) (by decide) ?_
      exact ih (((31 : Int64) * v1) + q3.toInt64) (v4 + 1)

set_option maxRecDepth 100000 in
set_option maxHeartbeats 4000000 in
theorem s_X10_digest_33 {l : Launch} {g : am_G} {B : am_M} {pl : Nat} (hL : am_Lay B pl) (u : am_U)   (k80 : Int64 → Option (Int64)) (hk80 : ∀ (v1 : Int64), am_E l g d_X10_digest 80 [some (.ref (4)), some (.long (v1)), none, none, none] [] (am_of B u) (am_r (am_bN B u) (k80 v1))) : ∀ (n : Nat) (v1 : Int64) (v3 : Int32), am_E l g d_X10_digest 33 [some (.ref (4)), some (.long (v1)), none, some (.int (v3)), none] [] (am_of B u) (am_r (am_bN B u) (f_X10_digest_33 pl u k80 n v1 v3)) := by
  intro n
  induction n with
  | zero => intro v1 v3; exact am_none
  | succ n ih =>
    intro v1 v3
    unfold f_X10_digest_33
    refine e_iload_n dX10_digest_33 rfl ?_
    refine e_aload_n dX10_digest_34 rfl ?_
    refine q_getR (r := pl) dX10_digest_35 lf_N_72 rfl (by decide) (am_Lk hL rfl) (am_Lpl hL) ?_
    refine q_getI dX10_digest_38 lf_N_144 (by decide) (congrArg Prod.fst (am_pln hL).1) ?_
    refine e_if2_ge dX10_digest_41 (tgt := 80) (by decide) ?_ ?_
    · refine e_msk [true, true, false, false, false] (LS1 := [_, _, none, none, none]) rfl ?_
      exact hk80 v1
    · refine e_iconst dX10_digest_44 (v := 0) (by decide) ?_
      refine e_istore dX10_digest_45 (by decide) (LS1 := [_, _, none, _, _]) rfl ?_
      refine s_X10_digest_47 hL _ _ _ (fun c4v1 => ?_) _ _ _
      · refine e_iinc dX10_digest_74 rfl (v := _ + 1) rfl (by decide) (LS1 := [_, _, none, _, none]) rfl ?_
        refine e_goto dX10_digest_77 (tgt := 33) (by decide) ?_
        exact ih c4v1 (v3 + 1)

set_option maxRecDepth 100000 in
set_option maxHeartbeats 4000000 in
theorem s_X10_digest_90 {l : Launch} {g : am_G} {B : am_M} {pl : Nat} (hL : am_Lay B pl) (u : am_U) (v3 : Int32)  (k117 : Int64 → Option (Int64)) (hk117 : ∀ (v1 : Int64), am_E l g d_X10_digest 117 [some (.ref (4)), some (.long (v1)), none, some (.int (v3)), none] [] (am_of B u) (am_r (am_bN B u) (k117 v1))) : ∀ (n : Nat) (v1 : Int64) (v4 : Int32), am_E l g d_X10_digest 90 [some (.ref (4)), some (.long (v1)), none, some (.int (v3)), some (.int (v4))] [] (am_of B u) (am_r (am_bN B u) (f_X10_digest_90 pl u v3 k117 n v1 v4)) := by
  intro n
  induction n with
  | zero => intro v1 v4; exact am_none
  | succ n ih =>
    intro v1 v4
    unfold f_X10_digest_90
    refine e_iload dX10_digest_90 rfl ?_
    refine e_iconst dX10_digest_92 (v := 4) (by decide) ?_
    refine e_if2_ge dX10_digest_93 (tgt := 117) (by decide) ?_ ?_
    · refine e_msk [true, true, false, true, false] (LS1 := [_, _, none, _, none]) rfl ?_
      exact hk117 v1
    · refine e_ldc2 dX10_digest_96 ll_N_363 ?_
      refine e_lload_n dX10_digest_99 rfl ?_
      refine e_lmul dX10_digest_100 ?_
      refine e_aload_n dX10_digest_101 rfl ?_
      refine e_iload_n dX10_digest_102 rfl ?_
      refine e_iload dX10_digest_103 rfl ?_
      refine q_callVP (As := [_, _]) rfl dX10_digest_105 lm_N_181 (am_fitB rfl) yo_X10_placeTells ys_X10_placeTells rfl rfl (by decide) (am_Lk hL rfl) rfl (Nat.le_of_ble_eq_true rfl) (Nat.le_of_ble_eq_true rfl) (s_X10_placeTells hL _ _  _) (fun q6 => ?_)
      refine e_i2l dX10_digest_108 ?_
      refine e_ladd dX10_digest_109 ?_
      refine e_lstore_n dX10_digest_110 (by decide) (LS1 := [_, _, none, _, _]) rfl ?_
      refine e_iinc dX10_digest_111 rfl (v := _ + 1) rfl (by decide) (LS1 := [_, _, none, _, _]) rfl ?_
      refine e_goto dX10_digest_114 (tgt := 90) (by decide) ?_
      exact ih (((31 : Int64) * v1) + q6.toInt64) (v4 + 1)

set_option maxRecDepth 100000 in
set_option maxHeartbeats 4000000 in
theorem s_X10_digest_82 {l : Launch} {g : am_G} {B : am_M} {pl : Nat} (hL : am_Lay B pl) (u : am_U)   (k123 : Int64 → Option (Int64)) (hk123 : ∀ (v1 : Int64), am_E l g d_X10_digest 123 [some (.ref (4)), some (.long (v1)), none, none, none] [] (am_of B u) (am_r (am_bN B u) (k123 v1))) : ∀ (n : Nat) (v1 : Int64) (v3 : Int32), am_E l g d_X10_digest 82 [some (.ref (4)), some (.long (v1)), none, some (.int (v3)), none] [] (am_of B u) (am_r (am_bN B u) (f_X10_digest_82 pl u k123 n v1 v3)) := by
  intro n
  induction n with
  | zero => intro v1 v3; exact am_none
  | succ n ih =>
    intro v1 v3
    unfold f_X10_digest_82
    refine e_iload_n dX10_digest_82 rfl ?_
    refine e_iconst dX10_digest_83 (v := 5) (by decide) ?_
    refine e_if2_ge dX10_digest_84 (tgt := 123) (by decide) ?_ ?_
    · refine e_msk [true, true, false, false, false] (LS1 := [_, _, none, none, none]) rfl ?_
      exact hk123 v1
    · refine e_iconst dX10_digest_87 (v := 0) (by decide) ?_
      refine e_istore dX10_digest_88 (by decide) (LS1 := [_, _, none, _, _]) rfl ?_
      refine s_X10_digest_90 hL _ _ _ (fun c7v1 => ?_) _ _ _
      · refine e_iinc dX10_digest_117 rfl (v := _ + 1) rfl (by decide) (LS1 := [_, _, none, _, none]) rfl ?_
        refine e_goto dX10_digest_120 (tgt := 82) (by decide) ?_
        exact ih c7v1 (v3 + 1)

set_option maxRecDepth 100000 in
set_option maxHeartbeats 4000000 in
theorem s_X10_digest_125 {l : Launch} {g : am_G} {B : am_M} {pl : Nat} (hL : am_Lay B pl) (u : am_U)   (k176 : Int64 → Option (Int64)) (hk176 : ∀ (v1 : Int64), am_E l g d_X10_digest 176 [some (.ref (4)), some (.long (v1)), none, none, none] [] (am_of B u) (am_r (am_bN B u) (k176 v1))) : ∀ (n : Nat) (v1 : Int64) (v3 : Int32), am_E l g d_X10_digest 125 [some (.ref (4)), some (.long (v1)), none, some (.int (v3)), none] [] (am_of B u) (am_r (am_bN B u) (f_X10_digest_125 pl u k176 n v1 v3)) := by
  intro n
  induction n with
  | zero => intro v1 v3; exact am_none
  | succ n ih =>
    intro v1 v3
    unfold f_X10_digest_125
    refine e_iload_n dX10_digest_125 rfl ?_
    refine e_aload_n dX10_digest_126 rfl ?_
    refine q_getR (r := 21) dX10_digest_127 lf_N_55 rfl (by decide) (am_Lk hL rfl) (am_Lr hL rfl) ?_
    refine q_getI dX10_digest_130 lf_N_143 (by decide) (am_Lk hL rfl) ?_
    refine e_if2_ge dX10_digest_133 (tgt := 176) (by decide) ?_ ?_
    · refine e_msk [true, true, false, false, false] (LS1 := [_, _, none, none, none]) rfl ?_
      exact hk176 v1
    · refine e_ldc2 dX10_digest_136 ll_N_363 ?_
      refine e_lload_n dX10_digest_139 rfl ?_
      refine e_lmul dX10_digest_140 ?_
      refine e_aload_n dX10_digest_141 rfl ?_
      refine q_getR (r := 21) dX10_digest_142 lf_N_55 rfl (by decide) (am_Lk hL rfl) (am_Lr hL rfl) ?_
      refine q_getR (r := 22) dX10_digest_145 lf_N_368 rfl (by decide) (am_Lk hL rfl) (am_Lr hL rfl) ?_
      refine e_iload_n dX10_digest_148 rfl ?_
      refine q_ialdH dX10_digest_149 (am_Ls hL rfl) (fun i9 => ?_)
      refine e_i2l dX10_digest_150 ?_
      refine e_ladd dX10_digest_151 ?_
      refine e_lstore_n dX10_digest_152 (by decide) (LS1 := [_, _, none, _, none]) rfl ?_
      refine e_ldc2 dX10_digest_153 ll_N_363 ?_
      refine e_lload_n dX10_digest_156 rfl ?_
      refine e_lmul dX10_digest_157 ?_
      refine e_aload_n dX10_digest_158 rfl ?_
      refine q_getR (r := 21) dX10_digest_159 lf_N_55 rfl (by decide) (am_Lk hL rfl) (am_Lr hL rfl) ?_
      refine q_getR (r := 23) dX10_digest_162 lf_N_371 rfl (by decide) (am_Lk hL rfl) (am_Lr hL rfl) ?_
      refine e_iload_n dX10_digest_165 rfl ?_
      refine q_ialdC (jn := _) dX10_digest_166 (am_Ls hL rfl) i9 rfl ?_
      refine e_i2l dX10_digest_167 ?_
      refine e_ladd dX10_digest_168 ?_
      refine e_lstore_n dX10_digest_169 (by decide) (LS1 := [_, _, none, _, none]) rfl ?_
      refine e_iinc dX10_digest_170 rfl (v := _ + 1) rfl (by decide) (LS1 := [_, _, none, _, none]) rfl ?_
      refine e_goto dX10_digest_173 (tgt := 125) (by decide) ?_
      exact ih (((31 : Int64) * (((31 : Int64) * v1) + ((u 22 v3.toNatClampNeg).toInt64))) + ((u 23 v3.toNatClampNeg).toInt64)) (v3 + 1)

set_option maxRecDepth 100000 in
set_option maxHeartbeats 4000000 in
theorem s_X10_digest_178 {l : Launch} {g : am_G} {B : am_M} {pl : Nat} (hL : am_Lay B pl) (u : am_U)   (k203 : Int64 → Option (Int64)) (hk203 : ∀ (v1 : Int64), am_E l g d_X10_digest 203 [some (.ref (4)), some (.long (v1)), none, none, none] [] (am_of B u) (am_r (am_bN B u) (k203 v1))) : ∀ (n : Nat) (v1 : Int64) (v3 : Int32), am_E l g d_X10_digest 178 [some (.ref (4)), some (.long (v1)), none, some (.int (v3)), none] [] (am_of B u) (am_r (am_bN B u) (f_X10_digest_178 pl u k203 n v1 v3)) := by
  intro n
  induction n with
  | zero => intro v1 v3; exact am_none
  | succ n ih =>
    intro v1 v3
    unfold f_X10_digest_178
    refine e_iload_n dX10_digest_178 rfl ?_
    refine e_iconst dX10_digest_179 (v := 3) (by decide) ?_
    refine e_if2_ge dX10_digest_180 (tgt := 203) (by decide) ?_ ?_
    · refine e_msk [true, true, false, false, false] (LS1 := [_, _, none, none, none]) rfl ?_
      exact hk203 v1
    · refine e_ldc2 dX10_digest_183 ll_N_363 ?_
      refine e_lload_n dX10_digest_186 rfl ?_
      refine e_lmul dX10_digest_187 ?_
      refine e_aload_n dX10_digest_188 rfl ?_
      refine q_getR (r := 20) dX10_digest_189 lf_N_48 rfl (by decide) (am_Lk hL rfl) (am_Lr hL rfl) ?_
      refine e_iload_n dX10_digest_192 rfl ?_
      refine q_ialdH dX10_digest_193 (am_Ls hL rfl) (fun i11 => ?_)
      refine e_i2l dX10_digest_194 ?_
      refine e_ladd dX10_digest_195 ?_
      refine e_lstore_n dX10_digest_196 (by decide) (LS1 := [_, _, none, _, none]) rfl ?_
      refine e_iinc dX10_digest_197 rfl (v := _ + 1) rfl (by decide) (LS1 := [_, _, none, _, none]) rfl ?_
      refine e_goto dX10_digest_200 (tgt := 178) (by decide) ?_
      exact ih (((31 : Int64) * v1) + ((u 20 v3.toNatClampNeg).toInt64)) (v3 + 1)

set_option maxRecDepth 100000 in
set_option maxHeartbeats 4000000 in
theorem s_X10_digest {l : Launch} {g : am_G} {B : am_M} {pl : Nat} (hL : am_Lay B pl)   (u : am_U) : am_E l g d_X10_digest 0 (am_ent d_X10_digest [.ref (4)]) [] (am_of B u) (am_r (am_bN B u) (f_X10_digest pl u)) := by
  unfold f_X10_digest
  show am_E l g d_X10_digest 0 [some (.ref (4)), none, none, none, none] [] (am_of B u) _
  refine e_ldc2 dX10_digest_0 ll_N_361 ?_
  refine e_lstore_n dX10_digest_3 (by decide) (LS1 := [_, _, none, none, none]) rfl ?_
  refine e_iconst dX10_digest_4 (v := 0) (by decide) ?_
  refine e_istore_n dX10_digest_5 (by decide) (LS1 := [_, _, none, _, none]) rfl ?_
  refine s_X10_digest_6 hL _ _ (fun c2v1 => ?_) _ _ _
  · refine e_iconst dX10_digest_31 (v := 0) (by decide) ?_
    refine e_istore_n dX10_digest_32 (by decide) (LS1 := [_, _, none, _, none]) rfl ?_
    refine s_X10_digest_33 hL _ _ (fun c5v1 => ?_) _ _ _
    · refine e_iconst dX10_digest_80 (v := 0) (by decide) ?_
      refine e_istore_n dX10_digest_81 (by decide) (LS1 := [_, _, none, _, none]) rfl ?_
      refine s_X10_digest_82 hL _ _ (fun c8v1 => ?_) _ _ _
      · refine e_iconst dX10_digest_123 (v := 0) (by decide) ?_
        refine e_istore_n dX10_digest_124 (by decide) (LS1 := [_, _, none, _, none]) rfl ?_
        refine s_X10_digest_125 hL _ _ (fun c10v1 => ?_) _ _ _
        · refine e_iconst dX10_digest_176 (v := 0) (by decide) ?_
          refine e_istore_n dX10_digest_177 (by decide) (LS1 := [_, _, none, _, none]) rfl ?_
          refine s_X10_digest_178 hL _ _ (fun c12v1 => ?_) _ _ _
          · refine e_lload_n dX10_digest_203 rfl ?_
            refine e_aload_n dX10_digest_204 rfl ?_
            refine q_getR (r := 5) dX10_digest_205 lf_N_11 rfl (by decide) (am_Lk hL rfl) (am_Lr hL rfl) ?_
            refine q_callSN (As := [_, _]) rfl dX10_digest_208 lm_N_372 (am_fitB rfl) yo_X10_digestRows ys_X10_digestRows rfl (Nat.le_of_ble_eq_true rfl) (Nat.le_of_ble_eq_true rfl) (s_X10_digestRows hL _ _ (am_rows5 hL) _) (fun q13 => ?_)
            refine e_aload_n dX10_digest_211 rfl ?_
            refine q_getR (r := 6) dX10_digest_212 lf_N_15 rfl (by decide) (am_Lk hL rfl) (am_Lr hL rfl) ?_
            refine q_callSN (As := [_, _]) rfl dX10_digest_215 lm_N_372 (am_fitB rfl) yo_X10_digestRows ys_X10_digestRows rfl (Nat.le_of_ble_eq_true rfl) (Nat.le_of_ble_eq_true rfl) (s_X10_digestRows hL _ _ (am_rows6 hL) _) (fun q14 => ?_)
            exact e_lret dX10_digest_218 rfl rfl

def f_X10_fill (pl : Nat) (a1 : Int32) (u : am_U) : Option (Int32 × am_U) :=
  (f_X10_isJar pl a1 u).bind (fun q1 =>
  if ¬ q1 = 0 then (
    am_ck (am_ix a1 6) (
    if ¬ (u 10 a1.toNatClampNeg) = 0 then (
      some (((-4) : Int32), u))
    else (
      (f_X5_isBright pl (u 8 5) u).bind (fun q3 =>
      if ¬ q3 = 0 then (
        (f_X1_remember 0 u).bind (fun q4 =>
        let x5 : Int32 := (q4 (pl + 4) a1.toNatClampNeg) - (q4 9 a1.toNatClampNeg)
        let u6 : am_U := am_w q4 9 a1.toNatClampNeg (q4 (pl + 4) a1.toNatClampNeg)
        let u7 : am_U := am_w u6 11 a1.toNatClampNeg 0
        some (x5, u7)))
      else (
        some (((-4) : Int32), u))))))
  else (
    some (((-1) : Int32), u)))
set_option maxRecDepth 100000 in
set_option maxHeartbeats 4000000 in
theorem s_X10_fill {l : Launch} {g : am_G} {B : am_M} {pl : Nat} (hL : am_Lay B pl) (a1 : Int32)  (u : am_U) : am_E l g d_X10_fill 0 (am_ent d_X10_fill [.ref (4), .int (a1)]) [] (am_of B u) (am_r (am_bI B) (f_X10_fill pl a1 u)) := by
  unfold f_X10_fill
  show am_E l g d_X10_fill 0 [some (.ref (4)), some (.int (a1)), none] [] (am_of B u) _
  refine e_aload_n dX10_fill_0 rfl ?_
  refine e_iload_n dX10_fill_1 rfl ?_
  refine q_callVP (As := [_]) rfl dX10_fill_2 lm_N_147 (am_fitB rfl) yo_X10_isJar ys_X10_isJar rfl rfl (by decide) (am_Lk hL rfl) rfl (Nat.le_of_ble_eq_true rfl) (Nat.le_of_ble_eq_true rfl) (s_X10_isJar hL _  _) (fun q1 => ?_)
  refine e_if_ne dX10_fill_5 (tgt := 10) (by decide) ?_ ?_
  · refine e_aload_n dX10_fill_10 rfl ?_
    refine q_getR (r := 8) dX10_fill_11 lf_N_28 rfl (by decide) (am_Lk hL rfl) (am_Lr hL rfl) ?_
    refine q_getR (r := 10) dX10_fill_14 lf_N_187 rfl (by decide) (am_Lk hL rfl) (am_Lr hL rfl) ?_
    refine e_iload_n dX10_fill_17 rfl ?_
    refine q_ialdH dX10_fill_18 (am_Ls hL rfl) (fun i2 => ?_)
    refine e_if_ne dX10_fill_19 (tgt := 39) (by decide) ?_ ?_
    · refine e_bipush dX10_fill_39 (v := ((-4) : Int32)) (by decide) ?_
      exact e_iret dX10_fill_41 rfl rfl
    · refine e_aload_n dX10_fill_22 rfl ?_
      refine q_getR (r := pl) dX10_fill_23 lf_N_72 rfl (by decide) (am_Lk hL rfl) (am_Lpl hL) ?_
      refine e_aload_n dX10_fill_26 rfl ?_
      refine q_getR (r := 8) dX10_fill_27 lf_N_28 rfl (by decide) (am_Lk hL rfl) (am_Lr hL rfl) ?_
      refine q_getI dX10_fill_30 lf_N_190 (by decide) (am_Lk hL rfl) ?_
      refine q_callVP (As := [_]) rfl dX10_fill_33 lm_N_184 (am_fitB rfl) yo_X5_isBright ys_X5_isBright rfl rfl (by decide) (congrArg Prod.fst (am_pln hL).1) rfl (Nat.le_of_ble_eq_true rfl) (Nat.le_of_ble_eq_true rfl) (s_X5_isBright hL _ _ (am_pln hL) _) (fun q3 => ?_)
      refine e_if_ne dX10_fill_36 (tgt := 42) (by decide) ?_ ?_
      · refine e_aload_n dX10_fill_42 rfl ?_
        refine q_getR (r := 14) dX10_fill_43 lf_N_35 rfl (by decide) (am_Lk hL rfl) (am_Lr hL rfl) ?_
        refine e_iconst dX10_fill_46 (v := 0) (by decide) ?_
        refine e_aload_n dX10_fill_47 rfl ?_
        refine q_getR (r := 8) dX10_fill_48 lf_N_28 rfl (by decide) (am_Lk hL rfl) (am_Lr hL rfl) ?_
        refine q_callVV (As := [_, _]) rfl dX10_fill_51 lm_N_193 (am_fitB rfl) yo_X1_remember ys_X1_remember rfl rfl (by decide) (am_Lk hL rfl) rfl (Nat.le_of_ble_eq_true rfl) (Nat.le_of_ble_eq_true rfl) (s_X1_remember hL _  _) (fun q4 => ?_)
        refine e_aload_n dX10_fill_54 rfl ?_
        refine q_getR (r := pl) dX10_fill_55 lf_N_72 rfl (by decide) (am_Lk hL rfl) (am_Lpl hL) ?_
        refine q_getR (r := pl + 4) dX10_fill_58 lf_N_197 rfl (by decide) (congrArg Prod.fst (am_pln hL).1) (am_avs (am_pln hL).2.1.2.2.2) ?_
        refine e_iload_n dX10_fill_61 rfl ?_
        refine q_ialdC (jn := _) dX10_fill_62 (am_pln hL).2.2.2.2.2 i2 rfl ?_
        refine e_aload_n dX10_fill_63 rfl ?_
        refine q_getR (r := 8) dX10_fill_64 lf_N_28 rfl (by decide) (am_Lk hL rfl) (am_Lr hL rfl) ?_
        refine q_getR (r := 9) dX10_fill_67 lf_N_162 rfl (by decide) (am_Lk hL rfl) (am_Lr hL rfl) ?_
        refine e_iload_n dX10_fill_70 rfl ?_
        refine q_ialdC (jn := _) dX10_fill_71 (am_Ls hL rfl) i2 rfl ?_
        refine e_isub dX10_fill_72 ?_
        refine e_istore_n dX10_fill_73 (by decide) (LS1 := [_, _, _]) rfl ?_
        refine e_aload_n dX10_fill_74 rfl ?_
        refine q_getR (r := 8) dX10_fill_75 lf_N_28 rfl (by decide) (am_Lk hL rfl) (am_Lr hL rfl) ?_
        refine q_getR (r := 9) dX10_fill_78 lf_N_162 rfl (by decide) (am_Lk hL rfl) (am_Lr hL rfl) ?_
        refine e_iload_n dX10_fill_81 rfl ?_
        refine e_aload_n dX10_fill_82 rfl ?_
        refine q_getR (r := pl) dX10_fill_83 lf_N_72 rfl (by decide) (am_Lk hL rfl) (am_Lpl hL) ?_
        refine q_getR (r := pl + 4) dX10_fill_86 lf_N_197 rfl (by decide) (congrArg Prod.fst (am_pln hL).1) (am_avs (am_pln hL).2.1.2.2.2) ?_
        refine e_iload_n dX10_fill_89 rfl ?_
        refine q_ialdC (jn := _) dX10_fill_90 (am_pln hL).2.2.2.2.2 i2 rfl ?_
        refine q_iastC (jn := _) dX10_fill_91 (am_Ls hL rfl) i2 rfl ?_
        refine e_aload_n dX10_fill_92 rfl ?_
        refine q_getR (r := 8) dX10_fill_93 lf_N_28 rfl (by decide) (am_Lk hL rfl) (am_Lr hL rfl) ?_
        refine q_getR (r := 11) dX10_fill_96 lf_N_169 rfl (by decide) (am_Lk hL rfl) (am_Lr hL rfl) ?_
        refine e_iload_n dX10_fill_99 rfl ?_
        refine e_iconst dX10_fill_100 (v := 0) (by decide) ?_
        refine q_iastC (jn := _) dX10_fill_101 (am_Ls hL rfl) i2 rfl ?_
        refine e_iload_n dX10_fill_102 rfl ?_
        exact e_iret dX10_fill_103 rfl rfl
      · refine e_bipush dX10_fill_39 (v := ((-4) : Int32)) (by decide) ?_
        exact e_iret dX10_fill_41 rfl rfl
  · refine e_iconst dX10_fill_8 (v := ((-1) : Int32)) (by decide) ?_
    exact e_iret dX10_fill_9 rfl rfl

