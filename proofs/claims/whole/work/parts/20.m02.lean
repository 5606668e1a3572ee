def f_X2_leastAheadOfNight (a0 : Int32) : Option (Int32) :=
  some (((10 * a0) + 8) / 9)
set_option maxRecDepth 100000 in
set_option maxHeartbeats 4000000 in
theorem s_X2_leastAheadOfNight {l : Launch} {g : am_G} {B : am_M} {pl : Nat} (hL : am_Lay B pl) (a0 : Int32)  (u : am_U) : am_E l g d_X2_leastAheadOfNight 0 (am_ent d_X2_leastAheadOfNight [.int (a0)]) [] (am_of B u) (am_r (am_bP B u) (f_X2_leastAheadOfNight a0)) := by
  unfold f_X2_leastAheadOfNight
  show am_E l g d_X2_leastAheadOfNight 0 [some (.int (a0))] [] (am_of B u) _
  refine e_bipush dX2_leastAheadOfNight_0 (v := 10) (by decide) ?_
  refine e_iload_n dX2_leastAheadOfNight_2 rfl ?_
  refine e_imul dX2_leastAheadOfNight_3 ?_
  refine e_bipush dX2_leastAheadOfNight_4 (v := 8) (by decide) ?_
  refine e_iadd dX2_leastAheadOfNight_6 ?_
  refine e_bipush dX2_leastAheadOfNight_7 (v := 9) (by decide) ?_
  refine e_idiv dX2_leastAheadOfNight_9 (by decide) ?_
  exact e_iret dX2_leastAheadOfNight_10 rfl rfl

def f_X2_tenthsUp (a0 : Int32) : Option (Int32) :=
  some ((a0 + 9) / 10)
set_option maxRecDepth 100000 in
set_option maxHeartbeats 4000000 in
theorem s_X2_tenthsUp {l : Launch} {g : am_G} {B : am_M} {pl : Nat} (hL : am_Lay B pl) (a0 : Int32)  (u : am_U) : am_E l g d_X2_tenthsUp 0 (am_ent d_X2_tenthsUp [.int (a0)]) [] (am_of B u) (am_r (am_bP B u) (f_X2_tenthsUp a0)) := by
  unfold f_X2_tenthsUp
  show am_E l g d_X2_tenthsUp 0 [some (.int (a0))] [] (am_of B u) _
  refine e_iload_n dX2_tenthsUp_0 rfl ?_
  refine e_bipush dX2_tenthsUp_1 (v := 9) (by decide) ?_
  refine e_iadd dX2_tenthsUp_3 ?_
  refine e_bipush dX2_tenthsUp_4 (v := 10) (by decide) ?_
  refine e_idiv dX2_tenthsUp_6 (by decide) ?_
  exact e_iret dX2_tenthsUp_7 rfl rfl

def f_X3_figuresOf_5 (u : am_U) (v0 : Nat) (v1 : Int32) (v2 : Int32) : Nat → Int32 → Int32 → Option (Int32)
  | 0, _, _ => none
  | n + 1, v3, v4 =>
    if (u v0 2) ≤ v4 then (
      some v3)
    else (
      if ¬ ((v1 >>> (v4 &&& 31)) &&& 1) = 1 then (
        f_X3_figuresOf_5 u v0 v1 v2 n ((5 * v3) + 0) (v4 + 1))
      else (
        f_X3_figuresOf_5 u v0 v1 v2 n ((5 * v3) + v2) (v4 + 1)))
def f_X3_figuresOf (a0 : Nat) (a1 : Int32) (a2 : Int32) (u : am_U) : Option (Int32) :=
  f_X3_figuresOf_5 u a0 a1 a2 20000 0 0
set_option maxRecDepth 100000 in
set_option maxHeartbeats 4000000 in
theorem s_X3_figuresOf_5 {l : Launch} {g : am_G} {B : am_M} {pl : Nat} (hL : am_Lay B pl) (u : am_U) (v0 : Nat) (v1 : Int32) (v2 : Int32) (hv0 : am_isPlan B v0)   : ∀ (n : Nat) (v3 : Int32) (v4 : Int32), am_E l g d_X3_figuresOf 5 [some (.ref (v0)), some (.int (v1)), some (.int (v2)), some (.int (v3)), some (.int (v4))] [] (am_of B u) (am_r (am_bP B u) (f_X3_figuresOf_5 u v0 v1 v2 n v3 v4)) := by
  intro n
  induction n with
  | zero => intro v3 v4; exact am_none
  | succ n ih =>
    intro v3 v4
    unfold f_X3_figuresOf_5
    refine e_iload dX3_figuresOf_5 rfl ?_
    refine e_aload_n dX3_figuresOf_7 rfl ?_
    refine q_getI dX3_figuresOf_8 lf_Loads_18 (by decide) (congrArg Prod.fst hv0.1) ?_
    refine e_if2_ge dX3_figuresOf_11 (tgt := 40) (by decide) ?_ ?_
    · refine e_iload_n dX3_figuresOf_40 rfl ?_
      exact e_iret dX3_figuresOf_41 rfl rfl
    · refine e_iconst dX3_figuresOf_14 (v := 5) (by decide) ?_
      refine e_iload_n dX3_figuresOf_15 rfl ?_
      refine e_imul dX3_figuresOf_16 ?_
      refine e_iload_n dX3_figuresOf_17 rfl ?_
      refine e_iload dX3_figuresOf_18 rfl ?_
      refine e_ishr dX3_figuresOf_20 ?_
      refine e_iconst dX3_figuresOf_21 (v := 1) (by decide) ?_
      refine e_iand dX3_figuresOf_22 ?_
      refine e_iconst dX3_figuresOf_23 (v := 1) (by decide) ?_
      refine e_if2_ne dX3_figuresOf_24 (tgt := 31) (by decide) ?_ ?_
      · refine e_iconst dX3_figuresOf_31 (v := 0) (by decide) ?_
        refine e_iadd dX3_figuresOf_32 ?_
        refine e_istore_n dX3_figuresOf_33 (by decide) (LS1 := [_, _, _, _, _]) rfl ?_
        refine e_iinc dX3_figuresOf_34 rfl (v := _ + 1) rfl (by decide) (LS1 := [_, _, _, _, _]) rfl ?_
        refine e_goto dX3_figuresOf_37 (tgt := 5) (by decide) ?_
        exact ih ((5 * v3) + 0) (v4 + 1)
      · refine e_iload_n dX3_figuresOf_27 rfl ?_
        refine e_goto dX3_figuresOf_28 (tgt := 32) (by decide) ?_
        refine e_iadd dX3_figuresOf_32 ?_
        refine e_istore_n dX3_figuresOf_33 (by decide) (LS1 := [_, _, _, _, _]) rfl ?_
        refine e_iinc dX3_figuresOf_34 rfl (v := _ + 1) rfl (by decide) (LS1 := [_, _, _, _, _]) rfl ?_
        refine e_goto dX3_figuresOf_37 (tgt := 5) (by decide) ?_
        exact ih ((5 * v3) + v2) (v4 + 1)

set_option maxRecDepth 100000 in
set_option maxHeartbeats 4000000 in
theorem s_X3_figuresOf {l : Launch} {g : am_G} {B : am_M} {pl : Nat} (hL : am_Lay B pl) (a0 : Nat) (a1 : Int32) (a2 : Int32) (h0 : am_isPlan B a0) (u : am_U) : am_E l g d_X3_figuresOf 0 (am_ent d_X3_figuresOf [.ref (a0), .int (a1), .int (a2)]) [] (am_of B u) (am_r (am_bP B u) (f_X3_figuresOf a0 a1 a2 u)) := by
  unfold f_X3_figuresOf
  show am_E l g d_X3_figuresOf 0 [some (.ref (a0)), some (.int (a1)), some (.int (a2)), none, none] [] (am_of B u) _
  refine e_iconst dX3_figuresOf_0 (v := 0) (by decide) ?_
  refine e_istore_n dX3_figuresOf_1 (by decide) (LS1 := [_, _, _, _, none]) rfl ?_
  refine e_iconst dX3_figuresOf_2 (v := 0) (by decide) ?_
  refine e_istore dX3_figuresOf_3 (by decide) (LS1 := [_, _, _, _, _]) rfl ?_
  refine s_X3_figuresOf_5 hL _ _ _ _ h0 _ _ _

def f_X4_isSlot (a0 n0 : Nat) (a1 : Int32) (u : am_U) : Option (Int32) :=
  if a1 < 0 then (
    some 0)
  else (
    if (nI n0) < (a1 + 30) then (
      some 0)
    else (
      some 1))
set_option maxRecDepth 100000 in
set_option maxHeartbeats 4000000 in
theorem s_X4_isSlot {l : Launch} {g : am_G} {B : am_M} {pl : Nat} (hL : am_Lay B pl) (a0 n0 : Nat) (a1 : Int32) (h0 : am_isMem B a0 n0) (u : am_U) : am_E l g d_X4_isSlot 0 (am_ent d_X4_isSlot [.ref (a0), .int (a1)]) [] (am_of B u) (am_r (am_bP B u) (f_X4_isSlot a0 n0 a1 u)) := by
  unfold f_X4_isSlot
  show am_E l g d_X4_isSlot 0 [some (.ref (a0)), some (.int (a1))] [] (am_of B u) _
  refine e_iload_n dX4_isSlot_0 rfl ?_
  refine e_if_lt dX4_isSlot_1 (tgt := 20) (by decide) ?_ ?_
  · refine e_iconst dX4_isSlot_20 (v := 0) (by decide) ?_
    exact e_zret dX4_isSlot_21 rfl rfl (Or.inl rfl)
  · refine e_iload_n dX4_isSlot_4 rfl ?_
    refine e_bipush dX4_isSlot_5 (v := 30) (by decide) ?_
    refine e_iadd dX4_isSlot_7 ?_
    refine e_aload_n dX4_isSlot_8 rfl ?_
    refine q_getR (r := a0 + 1) dX4_isSlot_9 lf_Memory_17 rfl (by decide) (congrArg Prod.fst h0.1) (am_avs h0.2.1) ?_
    refine q_alen (v := nI n0) dX4_isSlot_12 h0.2.2 (by decide) rfl ?_
    refine e_if2_gt dX4_isSlot_13 (tgt := 20) (by decide) ?_ ?_
    · refine e_iconst dX4_isSlot_20 (v := 0) (by decide) ?_
      exact e_zret dX4_isSlot_21 rfl rfl (Or.inl rfl)
    · refine e_iconst dX4_isSlot_16 (v := 1) (by decide) ?_
      refine e_goto dX4_isSlot_17 (tgt := 21) (by decide) ?_
      exact e_zret dX4_isSlot_21 rfl rfl (Or.inr rfl)

def f_X5_allSizes_4 (u : am_U) (v0 : Nat) : Nat → Int32 → Int32 → Option (Int32)
  | 0, _, _ => none
  | n + 1, v1, v2 =>
    if (u v0 2) ≤ v2 then (
      some v1)
    else (
      am_ck (am_ix v2 6) (
      let x2 : Int32 := v1 + (u (v0 + 4) v2.toNatClampNeg)
      f_X5_allSizes_4 u v0 n x2 (v2 + 1)))
def f_X5_allSizes (a0 : Nat) (u : am_U) : Option (Int32) :=
  f_X5_allSizes_4 u a0 20000 0 0
set_option maxRecDepth 100000 in
set_option maxHeartbeats 4000000 in
theorem s_X5_allSizes_4 {l : Launch} {g : am_G} {B : am_M} {pl : Nat} (hL : am_Lay B pl) (u : am_U) (v0 : Nat) (hv0 : am_isPlan B v0)   : ∀ (n : Nat) (v1 : Int32) (v2 : Int32), am_E l g d_X5_allSizes 4 [some (.ref (v0)), some (.int (v1)), some (.int (v2))] [] (am_of B u) (am_r (am_bP B u) (f_X5_allSizes_4 u v0 n v1 v2)) := by
  intro n
  induction n with
  | zero => intro v1 v2; exact am_none
  | succ n ih =>
    intro v1 v2
    unfold f_X5_allSizes_4
    refine e_iload_n dX5_allSizes_4 rfl ?_
    refine e_aload_n dX5_allSizes_5 rfl ?_
    refine q_getI dX5_allSizes_6 lf_Plan_28 (by decide) (congrArg Prod.fst hv0.1) ?_
    refine e_if2_ge dX5_allSizes_9 (tgt := 27) (by decide) ?_ ?_
    · refine e_iload_n dX5_allSizes_27 rfl ?_
      exact e_iret dX5_allSizes_28 rfl rfl
    · refine e_iload_n dX5_allSizes_12 rfl ?_
      refine e_aload_n dX5_allSizes_13 rfl ?_
      refine q_getR (r := v0 + 4) dX5_allSizes_14 lf_Plan_21 rfl (by decide) (congrArg Prod.fst hv0.1) (am_avs hv0.2.1.2.2.2) ?_
      refine e_iload_n dX5_allSizes_17 rfl ?_
      refine q_ialdH dX5_allSizes_18 hv0.2.2.2.2.2 (fun i1 => ?_)
      refine e_iadd dX5_allSizes_19 ?_
      refine e_istore_n dX5_allSizes_20 (by decide) (LS1 := [_, _, _]) rfl ?_
      refine e_iinc dX5_allSizes_21 rfl (v := _ + 1) rfl (by decide) (LS1 := [_, _, _]) rfl ?_
      refine e_goto dX5_allSizes_24 (tgt := 4) (by decide) ?_
      exact ih (v1 + (u (v0 + 4) v2.toNatClampNeg)) (v2 + 1)

set_option maxRecDepth 100000 in
set_option maxHeartbeats 4000000 in
theorem s_X5_allSizes {l : Launch} {g : am_G} {B : am_M} {pl : Nat} (hL : am_Lay B pl) (a0 : Nat) (h0 : am_isPlan B a0) (u : am_U) : am_E l g d_X5_allSizes 0 (am_ent d_X5_allSizes [.ref (a0)]) [] (am_of B u) (am_r (am_bP B u) (f_X5_allSizes a0 u)) := by
  unfold f_X5_allSizes
  show am_E l g d_X5_allSizes 0 [some (.ref (a0)), none, none] [] (am_of B u) _
  refine e_iconst dX5_allSizes_0 (v := 0) (by decide) ?_
  refine e_istore_n dX5_allSizes_1 (by decide) (LS1 := [_, _, none]) rfl ?_
  refine e_iconst dX5_allSizes_2 (v := 0) (by decide) ?_
  refine e_istore_n dX5_allSizes_3 (by decide) (LS1 := [_, _, _]) rfl ?_
  refine s_X5_allSizes_4 hL _ _ h0 _ _ _

def f_X5_isBright (a0 : Nat) (a1 : Int32) (u : am_U) : Option (Int32) :=
  if (u a0 1) ≤ 0 then (
    some 0)
  else (
    am_ck (!(u a0 1 == 0)) (
    am_ck (am_ix (a1 - a1 / (u a0 1) * (u a0 1)) 8) (
    if ¬ (u (a0 + 1) (a1 - a1 / (u a0 1) * (u a0 1)).toNatClampNeg) = 1 then (
      some 0)
    else (
      some 1))))
set_option maxRecDepth 100000 in
set_option maxHeartbeats 4000000 in
theorem s_X5_isBright {l : Launch} {g : am_G} {B : am_M} {pl : Nat} (hL : am_Lay B pl) (a0 : Nat) (a1 : Int32) (h0 : am_isPlan B a0) (u : am_U) : am_E l g d_X5_isBright 0 (am_ent d_X5_isBright [.ref (a0), .int (a1)]) [] (am_of B u) (am_r (am_bP B u) (f_X5_isBright a0 a1 u)) := by
  unfold f_X5_isBright
  show am_E l g d_X5_isBright 0 [some (.ref (a0)), some (.int (a1))] [] (am_of B u) _
  refine e_aload_n dX5_isBright_0 rfl ?_
  refine q_getI dX5_isBright_1 lf_Plan_24 (by decide) (congrArg Prod.fst h0.1) ?_
  refine e_if_le dX5_isBright_4 (tgt := 26) (by decide) ?_ ?_
  · refine e_iconst dX5_isBright_26 (v := 0) (by decide) ?_
    exact e_zret dX5_isBright_27 rfl rfl (Or.inl rfl)
  · refine e_aload_n dX5_isBright_7 rfl ?_
    refine q_getR (r := a0 + 1) dX5_isBright_8 lf_Plan_9 rfl (by decide) (congrArg Prod.fst h0.1) (am_avs h0.2.1.1) ?_
    refine e_iload_n dX5_isBright_11 rfl ?_
    refine e_aload_n dX5_isBright_12 rfl ?_
    refine q_getI dX5_isBright_13 lf_Plan_24 (by decide) (congrArg Prod.fst h0.1) ?_
    refine e_remq dX5_isBright_16 ?_
    refine q_ialdH dX5_isBright_17 h0.2.2.1 (fun i1 => ?_)
    refine e_iconst dX5_isBright_18 (v := 1) (by decide) ?_
    refine e_if2_ne dX5_isBright_19 (tgt := 26) (by decide) ?_ ?_
    · refine e_iconst dX5_isBright_26 (v := 0) (by decide) ?_
      exact e_zret dX5_isBright_27 rfl rfl (Or.inl rfl)
    · refine e_iconst dX5_isBright_22 (v := 1) (by decide) ?_
      refine e_goto dX5_isBright_23 (tgt := 27) (by decide) ?_
      exact e_zret dX5_isBright_27 rfl rfl (Or.inr rfl)

def f_X6_gather_11 (v0 : Nat) (v1 : Nat) (v3 : Int32) : Nat → Int32 → Int32 → am_U → Option (Int32 × am_U)
  | 0, _, _, _ => none
  | n + 1, v4, v5, u =>
    if (u v1 2) ≤ v5 then (
      some (v4, u))
    else (
      am_ck (am_ix v5 6) (
      if ¬ (u 10 v5.toNatClampNeg) = v3 then (
        f_X6_gather_11 v0 v1 v3 n v4 (v5 + 1) u)
      else (
        if 3 ≤ (u v0 6) then (
          f_X6_gather_11 v0 v1 v3 n v4 (v5 + 1) u)
        else (
          am_ck (am_ix (u v0 6) 3) (
          let u3 : am_U := am_w u (v0 + 4) (u v0 6).toNatClampNeg v5
          am_ck (am_ix (u3 v0 6) 3) (
          let u5 : am_U := am_w u3 (v0 + 5) (u3 v0 6).toNatClampNeg (u3 (v1 + 4) v5.toNatClampNeg)
          am_ck (am_ix (u5 v0 6) 3) (
          let x7 : Int32 := v4 + ((u5 9 v5.toNatClampNeg) * (am_uni (u5 v0 6).toNatClampNeg))
          let u8 : am_U := am_w u5 v0 6 ((u5 v0 6) + 1)
          f_X6_gather_11 v0 v1 v3 n x7 (v5 + 1) u8)))))))
def f_X6_gather (a0 : Nat) (a1 : Nat) (a3 : Int32) (u : am_U) : Option (Int32 × am_U) :=
  let u1 : am_U := am_w u a0 6 0
  f_X6_gather_11 a0 a1 a3 20000 0 0 u1
set_option maxRecDepth 100000 in
set_option maxHeartbeats 4000000 in
theorem s_X6_gather_11 {l : Launch} {g : am_G} {B : am_M} {pl : Nat} (hL : am_Lay B pl) (v0 : Nat) (v1 : Nat) (v3 : Int32) (hv0 : am_isPour B v0) (hv1 : am_isPlan B v1)   : ∀ (n : Nat) (v4 : Int32) (v5 : Int32) (u : am_U), am_E l g d_X6_gather 11 [some (.ref (v0)), some (.ref (v1)), some (.ref (8)), some (.int (v3)), some (.int (v4)), some (.int (v5))] [] (am_of B u) (am_r (am_bI B) (f_X6_gather_11 v0 v1 v3 n v4 v5 u)) := by
  intro n
  induction n with
  | zero => intro v4 v5 u; exact am_none
  | succ n ih =>
    intro v4 v5 u
    unfold f_X6_gather_11
    refine e_iload dX6_gather_11 rfl ?_
    refine e_aload_n dX6_gather_13 rfl ?_
    refine q_getI dX6_gather_14 lf_Pourings_77 (by decide) (congrArg Prod.fst hv1.1) ?_
    refine e_if2_ge dX6_gather_17 (tgt := 103) (by decide) ?_ ?_
    · refine e_iload dX6_gather_103 rfl ?_
      exact e_iret dX6_gather_105 rfl rfl
    · refine e_aload_n dX6_gather_20 rfl ?_
      refine q_getR (r := 10) dX6_gather_21 lf_Pourings_80 rfl (by decide) (am_Lk hL rfl) (am_Lr hL rfl) ?_
      refine e_iload dX6_gather_24 rfl ?_
      refine q_ialdH dX6_gather_26 (am_Ls hL rfl) (fun i2 => ?_)
      refine e_iload_n dX6_gather_27 rfl ?_
      refine e_if2_ne dX6_gather_28 (tgt := 97) (by decide) ?_ ?_
      · refine e_iinc dX6_gather_97 rfl (v := _ + 1) rfl (by decide) (LS1 := [_, _, _, _, _, _]) rfl ?_
        refine e_goto dX6_gather_100 (tgt := 11) (by decide) ?_
        exact ih v4 (v5 + 1) u
      · refine e_aload_n dX6_gather_31 rfl ?_
        refine q_getI dX6_gather_32 lf_Pourings_74 (by decide) (congrArg Prod.fst hv0.1) ?_
        refine e_iconst dX6_gather_35 (v := 3) (by decide) ?_
        refine e_if2_ge dX6_gather_36 (tgt := 97) (by decide) ?_ ?_
        · refine e_iinc dX6_gather_97 rfl (v := _ + 1) rfl (by decide) (LS1 := [_, _, _, _, _, _]) rfl ?_
          refine e_goto dX6_gather_100 (tgt := 11) (by decide) ?_
          exact ih v4 (v5 + 1) u
        · refine e_aload_n dX6_gather_39 rfl ?_
          refine q_getR (r := v0 + 4) dX6_gather_40 lf_Pourings_21 rfl (by decide) (congrArg Prod.fst hv0.1) (am_avs hv0.2.1.2.2.2.1) ?_
          refine e_aload_n dX6_gather_43 rfl ?_
          refine q_getI dX6_gather_44 lf_Pourings_74 (by decide) (congrArg Prod.fst hv0.1) ?_
          refine e_iload dX6_gather_47 rfl ?_
          refine q_iastH dX6_gather_49 hv0.2.2.2.2.2.1 (fun i4 => ?_)
          refine e_aload_n dX6_gather_50 rfl ?_
          refine q_getR (r := v0 + 5) dX6_gather_51 lf_Pourings_24 rfl (by decide) (congrArg Prod.fst hv0.1) (am_avs hv0.2.1.2.2.2.2) ?_
          refine e_aload_n dX6_gather_54 rfl ?_
          refine q_getI dX6_gather_55 lf_Pourings_74 (by decide) (congrArg Prod.fst hv0.1) ?_
          refine e_aload_n dX6_gather_58 rfl ?_
          refine q_getR (r := v1 + 4) dX6_gather_59 lf_Pourings_85 rfl (by decide) (congrArg Prod.fst hv1.1) (am_avs hv1.2.1.2.2.2) ?_
          refine e_iload dX6_gather_62 rfl ?_
          refine q_ialdC (jn := _) dX6_gather_64 hv1.2.2.2.2.2 i2 rfl ?_
          refine q_iastH dX6_gather_65 hv0.2.2.2.2.2.2 (fun i6 => ?_)
          refine e_iload dX6_gather_66 rfl ?_
          refine e_aload_n dX6_gather_68 rfl ?_
          refine q_getR (r := 9) dX6_gather_69 lf_Pourings_86 rfl (by decide) (am_Lk hL rfl) (am_Lr hL rfl) ?_
          refine e_iload dX6_gather_72 rfl ?_
          refine q_ialdC (jn := _) dX6_gather_74 (am_Ls hL rfl) i2 rfl ?_
          refine e_gets (k := 3) dX6_gather_75 (Or.inr ⟨rfl, lf_Pourings_89⟩) ?_
          refine e_aload_n dX6_gather_78 rfl ?_
          refine q_getI dX6_gather_79 lf_Pourings_74 (by decide) (congrArg Prod.fst hv0.1) ?_
          refine q_ialdU dX6_gather_82 (am_Ls hL rfl) ?_
          refine e_imul dX6_gather_83 ?_
          refine e_iadd dX6_gather_84 ?_
          refine e_istore dX6_gather_85 (by decide) (LS1 := [_, _, _, _, _, _]) rfl ?_
          refine e_aload_n dX6_gather_87 rfl ?_
          refine e_dup dX6_gather_88 rfl ?_
          refine q_getI dX6_gather_89 lf_Pourings_74 (by decide) (congrArg Prod.fst hv0.1) ?_
          refine e_iconst dX6_gather_92 (v := 1) (by decide) ?_
          refine e_iadd dX6_gather_93 ?_
          refine q_putI dX6_gather_94 lf_Pourings_74 rfl (by decide) (congrArg Prod.fst hv0.1) ?_
          refine e_iinc dX6_gather_97 rfl (v := _ + 1) rfl (by decide) (LS1 := [_, _, _, _, _, _]) rfl ?_
          refine e_goto dX6_gather_100 (tgt := 11) (by decide) ?_
          exact ih (v4 + (((am_w (am_w u (v0 + 4) (u v0 6).toNatClampNeg v5) (v0 + 5) ((am_w u (v0 + 4) (u v0 6).toNatClampNeg v5) v0 6).toNatClampNeg ((am_w u (v0 + 4) (u v0 6).toNatClampNeg v5) (v1 + 4) v5.toNatClampNeg)) 9 v5.toNatClampNeg) * (am_uni ((am_w (am_w u (v0 + 4) (u v0 6).toNatClampNeg v5) (v0 + 5) ((am_w u (v0 + 4) (u v0 6).toNatClampNeg v5) v0 6).toNatClampNeg ((am_w u (v0 + 4) (u v0 6).toNatClampNeg v5) (v1 + 4) v5.toNatClampNeg)) v0 6).toNatClampNeg))) (v5 + 1) (am_w (am_w (am_w u (v0 + 4) (u v0 6).toNatClampNeg v5) (v0 + 5) ((am_w u (v0 + 4) (u v0 6).toNatClampNeg v5) v0 6).toNatClampNeg ((am_w u (v0 + 4) (u v0 6).toNatClampNeg v5) (v1 + 4) v5.toNatClampNeg)) v0 6 (((am_w (am_w u (v0 + 4) (u v0 6).toNatClampNeg v5) (v0 + 5) ((am_w u (v0 + 4) (u v0 6).toNatClampNeg v5) v0 6).toNatClampNeg ((am_w u (v0 + 4) (u v0 6).toNatClampNeg v5) (v1 + 4) v5.toNatClampNeg)) v0 6) + 1))

set_option maxRecDepth 100000 in
set_option maxHeartbeats 4000000 in
theorem s_X6_gather {l : Launch} {g : am_G} {B : am_M} {pl : Nat} (hL : am_Lay B pl) (a0 : Nat) (a1 : Nat) (a3 : Int32) (h0 : am_isPour B a0) (h1 : am_isPlan B a1) (u : am_U) : am_E l g d_X6_gather 0 (am_ent d_X6_gather [.ref (a0), .ref (a1), .ref (8), .int (a3)]) [] (am_of B u) (am_r (am_bI B) (f_X6_gather a0 a1 a3 u)) := by
  unfold f_X6_gather
  show am_E l g d_X6_gather 0 [some (.ref (a0)), some (.ref (a1)), some (.ref (8)), some (.int (a3)), none, none] [] (am_of B u) _
  refine e_iconst dX6_gather_0 (v := 0) (by decide) ?_
  refine e_istore dX6_gather_1 (by decide) (LS1 := [_, _, _, _, _, none]) rfl ?_
  refine e_aload_n dX6_gather_3 rfl ?_
  refine e_iconst dX6_gather_4 (v := 0) (by decide) ?_
  refine q_putI dX6_gather_5 lf_Pourings_74 rfl (by decide) (congrArg Prod.fst h0.1) ?_
  refine e_iconst dX6_gather_8 (v := 0) (by decide) ?_
  refine e_istore dX6_gather_9 (by decide) (LS1 := [_, _, _, _, _, _]) rfl ?_
  refine s_X6_gather_11 hL _ _ _ h0 h1 _ _ _ _

def f_X6_held (a0 : Int32) (a1 : Int32) (u : am_U) : Option (Int32) :=
  am_ck (am_ix a1 3) (
  am_ck (!(am_uni a1.toNatClampNeg == 0)) (
  some ((a0 / (am_uni a1.toNatClampNeg)) - (a0 / (am_uni a1.toNatClampNeg)) / 21 * 21)))
set_option maxRecDepth 100000 in
set_option maxHeartbeats 4000000 in
theorem s_X6_held {l : Launch} {g : am_G} {B : am_M} {pl : Nat} (hL : am_Lay B pl) (a0 : Int32) (a1 : Int32)  (u : am_U) : am_E l g d_X6_held 0 (am_ent d_X6_held [.int (a0), .int (a1)]) [] (am_of B u) (am_r (am_bP B u) (f_X6_held a0 a1 u)) := by
  unfold f_X6_held
  show am_E l g d_X6_held 0 [some (.int (a0)), some (.int (a1))] [] (am_of B u) _
  refine e_iload_n dX6_held_0 rfl ?_
  refine e_gets (k := 3) dX6_held_1 (Or.inr ⟨rfl, lf_Pourings_89⟩) ?_
  refine e_iload_n dX6_held_4 rfl ?_
  refine q_ialdU dX6_held_5 (am_Ls hL rfl) ?_
  refine e_divq dX6_held_6 ?_
  refine e_bipush dX6_held_7 (v := 21) (by decide) ?_
  refine e_irem dX6_held_9 (by decide) ?_
  exact e_iret dX6_held_10 rfl rfl

def f_X6_slotOf_2 (u : am_U) (v0 : Nat) (v1 : Int32) : Nat → Int32 → Option (Int32)
  | 0, _ => none
  | n + 1, v2 =>
    if (u v0 6) ≤ v2 then (
      some 0)
    else (
      am_ck (am_ix v2 3) (
      if ¬ (u (v0 + 4) v2.toNatClampNeg) = v1 then (
        f_X6_slotOf_2 u v0 v1 n (v2 + 1))
      else (
        some v2)))
def f_X6_slotOf (a0 : Nat) (a1 : Int32) (u : am_U) : Option (Int32) :=
  f_X6_slotOf_2 u a0 a1 20000 0
set_option maxRecDepth 100000 in
set_option maxHeartbeats 4000000 in
theorem s_X6_slotOf_2 {l : Launch} {g : am_G} {B : am_M} {pl : Nat} (hL : am_Lay B pl) (u : am_U) (v0 : Nat) (v1 : Int32) (hv0 : am_isPour B v0)   : ∀ (n : Nat) (v2 : Int32), am_E l g d_X6_slotOf 2 [some (.ref (v0)), some (.int (v1)), some (.int (v2))] [] (am_of B u) (am_r (am_bP B u) (f_X6_slotOf_2 u v0 v1 n v2)) := by
  intro n
  induction n with
  | zero => intro v2; exact am_none
  | succ n ih =>
    intro v2
    unfold f_X6_slotOf_2
    refine e_iload_n dX6_slotOf_2 rfl ?_
    refine e_aload_n dX6_slotOf_3 rfl ?_
    refine q_getI dX6_slotOf_4 lf_Pourings_74 (by decide) (congrArg Prod.fst hv0.1) ?_
    refine e_if2_ge dX6_slotOf_7 (tgt := 28) (by decide) ?_ ?_
    · refine e_iconst dX6_slotOf_28 (v := 0) (by decide) ?_
      exact e_iret dX6_slotOf_29 rfl rfl
    · refine e_aload_n dX6_slotOf_10 rfl ?_
      refine q_getR (r := v0 + 4) dX6_slotOf_11 lf_Pourings_21 rfl (by decide) (congrArg Prod.fst hv0.1) (am_avs hv0.2.1.2.2.2.1) ?_
      refine e_iload_n dX6_slotOf_14 rfl ?_
      refine q_ialdH dX6_slotOf_15 hv0.2.2.2.2.2.1 (fun i1 => ?_)
      refine e_iload_n dX6_slotOf_16 rfl ?_
      refine e_if2_ne dX6_slotOf_17 (tgt := 22) (by decide) ?_ ?_
      · refine e_iinc dX6_slotOf_22 rfl (v := _ + 1) rfl (by decide) (LS1 := [_, _, _]) rfl ?_
        refine e_goto dX6_slotOf_25 (tgt := 2) (by decide) ?_
        exact ih (v2 + 1)
      · refine e_iload_n dX6_slotOf_20 rfl ?_
        exact e_iret dX6_slotOf_21 rfl rfl

set_option maxRecDepth 100000 in
set_option maxHeartbeats 4000000 in
theorem s_X6_slotOf {l : Launch} {g : am_G} {B : am_M} {pl : Nat} (hL : am_Lay B pl) (a0 : Nat) (a1 : Int32) (h0 : am_isPour B a0) (u : am_U) : am_E l g d_X6_slotOf 0 (am_ent d_X6_slotOf [.ref (a0), .int (a1)]) [] (am_of B u) (am_r (am_bP B u) (f_X6_slotOf a0 a1 u)) := by
  unfold f_X6_slotOf
  show am_E l g d_X6_slotOf 0 [some (.ref (a0)), some (.int (a1)), none] [] (am_of B u) _
  refine e_iconst dX6_slotOf_0 (v := 0) (by decide) ?_
  refine e_istore_n dX6_slotOf_1 (by decide) (LS1 := [_, _, _]) rfl ?_
  refine s_X6_slotOf_2 hL _ _ _ h0 _ _

def f_X6_steps_4 (u : am_U) (v0 : Nat) : Nat → Int32 → Int32 → Option (Int32)
  | 0, _, _ => none
  | n + 1, v2, v3 =>
    if v3 ≤ 0 then (
      some v2)
    else (
      if 9261 ≤ v2 then (
        some v2)
      else (
        am_ck (am_ix v3 9261) (
        let x2 : Int32 := (u (v0 + 2) v3.toNatClampNeg) / 36
        f_X6_steps_4 u v0 n (v2 + 1) x2)))
def f_X6_steps (a0 : Nat) (a1 : Int32) (u : am_U) : Option (Int32) :=
  f_X6_steps_4 u a0 20000 0 a1
set_option maxRecDepth 100000 in
set_option maxHeartbeats 4000000 in
theorem s_X6_steps_4 {l : Launch} {g : am_G} {B : am_M} {pl : Nat} (hL : am_Lay B pl) (u : am_U) (v0 : Nat) (hv0 : am_isPour B v0)   : ∀ (n : Nat) (v2 : Int32) (v3 : Int32), am_E l g d_X6_steps 4 [some (.ref (v0)), none, some (.int (v2)), some (.int (v3))] [] (am_of B u) (am_r (am_bP B u) (f_X6_steps_4 u v0 n v2 v3)) := by
  intro n
  induction n with
  | zero => intro v2 v3; exact am_none
  | succ n ih =>
    intro v2 v3
    unfold f_X6_steps_4
    refine e_iload_n dX6_steps_4 rfl ?_
    refine e_if_le dX6_steps_5 (tgt := 31) (by decide) ?_ ?_
    · refine e_iload_n dX6_steps_31 rfl ?_
      exact e_iret dX6_steps_32 rfl rfl
    · refine e_iload_n dX6_steps_8 rfl ?_
      refine e_sipush dX6_steps_9 (v := 9261) (by decide) ?_
      refine e_if2_ge dX6_steps_12 (tgt := 31) (by decide) ?_ ?_
      · refine e_iload_n dX6_steps_31 rfl ?_
        exact e_iret dX6_steps_32 rfl rfl
      · refine e_iinc dX6_steps_15 rfl (v := _ + 1) rfl (by decide) (LS1 := [_, none, _, _]) rfl ?_
        refine e_aload_n dX6_steps_18 rfl ?_
        refine q_getR (r := v0 + 2) dX6_steps_19 lf_Pourings_15 rfl (by decide) (congrArg Prod.fst hv0.1) (am_avs hv0.2.1.2.1) ?_
        refine e_iload_n dX6_steps_22 rfl ?_
        refine q_ialdH dX6_steps_23 hv0.2.2.2.1 (fun i1 => ?_)
        refine e_bipush dX6_steps_24 (v := 36) (by decide) ?_
        refine e_idiv dX6_steps_26 (by decide) ?_
        refine e_istore_n dX6_steps_27 (by decide) (LS1 := [_, none, _, _]) rfl ?_
        refine e_goto dX6_steps_28 (tgt := 4) (by decide) ?_
        exact ih (v2 + 1) ((u (v0 + 2) v3.toNatClampNeg) / 36)

set_option maxRecDepth 100000 in
set_option maxHeartbeats 4000000 in
theorem s_X6_steps {l : Launch} {g : am_G} {B : am_M} {pl : Nat} (hL : am_Lay B pl) (a0 : Nat) (a1 : Int32) (h0 : am_isPour B a0) (u : am_U) : am_E l g d_X6_steps 0 (am_ent d_X6_steps [.ref (a0), .int (a1)]) [] (am_of B u) (am_r (am_bP B u) (f_X6_steps a0 a1 u)) := by
  unfold f_X6_steps
  show am_E l g d_X6_steps 0 [some (.ref (a0)), some (.int (a1)), none, none] [] (am_of B u) _
  refine e_iconst dX6_steps_0 (v := 0) (by decide) ?_
  refine e_istore_n dX6_steps_1 (by decide) (LS1 := [_, _, _, none]) rfl ?_
  refine e_iload_n dX6_steps_2 rfl ?_
  refine e_istore_n dX6_steps_3 (by decide) (LS1 := [_, _, _, _]) rfl ?_
  refine e_msk [true, false, true, true] (LS1 := [_, none, _, _]) rfl ?_
  refine s_X6_steps_4 hL _ _ h0 _ _ _

def f_X8_has (a0 : Nat) (a1 : Int32) (u : am_U) : Option (Int32) :=
  if a1 < 0 then (
    some 0)
  else (
    if (u a0 1) ≤ a1 then (
      some 0)
    else (
      some 1))
set_option maxRecDepth 100000 in
set_option maxHeartbeats 4000000 in
theorem s_X8_has {l : Launch} {g : am_G} {B : am_M} {pl : Nat} (hL : am_Lay B pl) (a0 : Nat) (a1 : Int32) (h0 : am_isRow B a0) (u : am_U) : am_E l g d_X8_has 0 (am_ent d_X8_has [.ref (a0), .int (a1)]) [] (am_of B u) (am_r (am_bP B u) (f_X8_has a0 a1 u)) := by
  unfold f_X8_has
  show am_E l g d_X8_has 0 [some (.ref (a0)), some (.int (a1))] [] (am_of B u) _
  refine e_iload_n dX8_has_0 rfl ?_
  refine e_if_lt dX8_has_1 (tgt := 16) (by decide) ?_ ?_
  · refine e_iconst dX8_has_16 (v := 0) (by decide) ?_
    exact e_zret dX8_has_17 rfl rfl (Or.inl rfl)
  · refine e_iload_n dX8_has_4 rfl ?_
    refine e_aload_n dX8_has_5 rfl ?_
    refine q_getI dX8_has_6 lf_Row_15 (by decide) (congrArg Prod.fst h0.1) ?_
    refine e_if2_ge dX8_has_9 (tgt := 16) (by decide) ?_ ?_
    · refine e_iconst dX8_has_16 (v := 0) (by decide) ?_
      exact e_zret dX8_has_17 rfl rfl (Or.inl rfl)
    · refine e_iconst dX8_has_12 (v := 1) (by decide) ?_
      refine e_goto dX8_has_13 (tgt := 17) (by decide) ?_
      exact e_zret dX8_has_17 rfl rfl (Or.inr rfl)

def f_X8_hasFrom (a0 : Nat) (a1 : Int32) (a2 : Int32) (u : am_U) : Option (Int32) :=
  if a1 < 0 then (
    some 0)
  else (
    if (u a0 1) < a1 then (
      some 0)
    else (
      if ((u a0 1) - a1) < a2 then (
        some 0)
      else (
        some 1)))
set_option maxRecDepth 100000 in
set_option maxHeartbeats 4000000 in
theorem s_X8_hasFrom {l : Launch} {g : am_G} {B : am_M} {pl : Nat} (hL : am_Lay B pl) (a0 : Nat) (a1 : Int32) (a2 : Int32) (h0 : am_isRow B a0) (u : am_U) : am_E l g d_X8_hasFrom 0 (am_ent d_X8_hasFrom [.ref (a0), .int (a1), .int (a2)]) [] (am_of B u) (am_r (am_bP B u) (f_X8_hasFrom a0 a1 a2 u)) := by
  unfold f_X8_hasFrom
  show am_E l g d_X8_hasFrom 0 [some (.ref (a0)), some (.int (a1)), some (.int (a2))] [] (am_of B u) _
  refine e_iload_n dX8_hasFrom_0 rfl ?_
  refine e_if_lt dX8_hasFrom_1 (tgt := 26) (by decide) ?_ ?_
  · refine e_iconst dX8_hasFrom_26 (v := 0) (by decide) ?_
    exact e_zret dX8_hasFrom_27 rfl rfl (Or.inl rfl)
  · refine e_iload_n dX8_hasFrom_4 rfl ?_
    refine e_aload_n dX8_hasFrom_5 rfl ?_
    refine q_getI dX8_hasFrom_6 lf_Row_15 (by decide) (congrArg Prod.fst h0.1) ?_
    refine e_if2_gt dX8_hasFrom_9 (tgt := 26) (by decide) ?_ ?_
    · refine e_iconst dX8_hasFrom_26 (v := 0) (by decide) ?_
      exact e_zret dX8_hasFrom_27 rfl rfl (Or.inl rfl)
    · refine e_iload_n dX8_hasFrom_12 rfl ?_
      refine e_aload_n dX8_hasFrom_13 rfl ?_
      refine q_getI dX8_hasFrom_14 lf_Row_15 (by decide) (congrArg Prod.fst h0.1) ?_
      refine e_iload_n dX8_hasFrom_17 rfl ?_
      refine e_isub dX8_hasFrom_18 ?_
      refine e_if2_gt dX8_hasFrom_19 (tgt := 26) (by decide) ?_ ?_
      · refine e_iconst dX8_hasFrom_26 (v := 0) (by decide) ?_
        exact e_zret dX8_hasFrom_27 rfl rfl (Or.inl rfl)
      · refine e_iconst dX8_hasFrom_22 (v := 1) (by decide) ?_
        refine e_goto dX8_hasFrom_23 (tgt := 27) (by decide) ?_
        exact e_zret dX8_hasFrom_27 rfl rfl (Or.inr rfl)

def f_X8_isThere (a0 : Nat) (u : am_U) : Option (Int32) :=
  if (u a0 1) = ((-1) : Int32) then (
    some 0)
  else (
    some 1)
set_option maxRecDepth 100000 in
set_option maxHeartbeats 4000000 in
theorem s_X8_isThere {l : Launch} {g : am_G} {B : am_M} {pl : Nat} (hL : am_Lay B pl) (a0 : Nat) (h0 : am_isRow B a0) (u : am_U) : am_E l g d_X8_isThere 0 (am_ent d_X8_isThere [.ref (a0)]) [] (am_of B u) (am_r (am_bP B u) (f_X8_isThere a0 u)) := by
  unfold f_X8_isThere
  show am_E l g d_X8_isThere 0 [some (.ref (a0))] [] (am_of B u) _
  refine e_aload_n dX8_isThere_0 rfl ?_
  refine q_getI dX8_isThere_1 lf_Row_15 (by decide) (congrArg Prod.fst h0.1) ?_
  refine e_iconst dX8_isThere_4 (v := ((-1) : Int32)) (by decide) ?_
  refine e_if2_eq dX8_isThere_5 (tgt := 12) (by decide) ?_ ?_
  · refine e_iconst dX8_isThere_12 (v := 0) (by decide) ?_
    exact e_zret dX8_isThere_13 rfl rfl (Or.inl rfl)
  · refine e_iconst dX8_isThere_8 (v := 1) (by decide) ?_
    refine e_goto dX8_isThere_9 (tgt := 13) (by decide) ?_
    exact e_zret dX8_isThere_13 rfl rfl (Or.inr rfl)

def f_X8_sum_4 (u : am_U) (v0 : Nat) : Nat → Int64 → Int32 → Option (Int64)
  | 0, _, _ => none
  | n + 1, v1, v3 =>
    if (u v0 1) ≤ v3 then (
      some v1)
    else (
      am_ck (am_ix v3 60) (
      f_X8_sum_4 u v0 n (v1 + ((u (v0 + 1) v3.toNatClampNeg).toInt64)) (v3 + 1)))
def f_X8_sum (a0 : Nat) (u : am_U) : Option (Int64) :=
  f_X8_sum_4 u a0 20000 (0 : Int64) 0
set_option maxRecDepth 100000 in
set_option maxHeartbeats 4000000 in
theorem s_X8_sum_4 {l : Launch} {g : am_G} {B : am_M} {pl : Nat} (hL : am_Lay B pl) (u : am_U) (v0 : Nat) (hv0 : am_isRow B v0)   : ∀ (n : Nat) (v1 : Int64) (v3 : Int32), am_E l g d_X8_sum 4 [some (.ref (v0)), some (.long (v1)), none, some (.int (v3))] [] (am_of B u) (am_r (am_bN B u) (f_X8_sum_4 u v0 n v1 v3)) := by
  intro n
  induction n with
  | zero => intro v1 v3; exact am_none
  | succ n ih =>
    intro v1 v3
    unfold f_X8_sum_4
    refine e_iload_n dX8_sum_4 rfl ?_
    refine e_aload_n dX8_sum_5 rfl ?_
    refine q_getI dX8_sum_6 lf_Row_15 (by decide) (congrArg Prod.fst hv0.1) ?_
    refine e_if2_ge dX8_sum_9 (tgt := 28) (by decide) ?_ ?_
    · refine e_lload_n dX8_sum_28 rfl ?_
      exact e_lret dX8_sum_29 rfl rfl
    · refine e_lload_n dX8_sum_12 rfl ?_
      refine e_aload_n dX8_sum_13 rfl ?_
      refine q_getR (r := v0 + 1) dX8_sum_14 lf_Row_9 rfl (by decide) (congrArg Prod.fst hv0.1) (am_avs hv0.2.1) ?_
      refine e_iload_n dX8_sum_17 rfl ?_
      refine q_ialdH dX8_sum_18 hv0.2.2 (fun i1 => ?_)
      refine e_i2l dX8_sum_19 ?_
      refine e_ladd dX8_sum_20 ?_
      refine e_lstore_n dX8_sum_21 (by decide) (LS1 := [_, _, none, _]) rfl ?_
      refine e_iinc dX8_sum_22 rfl (v := _ + 1) rfl (by decide) (LS1 := [_, _, none, _]) rfl ?_
      refine e_goto dX8_sum_25 (tgt := 4) (by decide) ?_
      exact ih (v1 + ((u (v0 + 1) v3.toNatClampNeg).toInt64)) (v3 + 1)

set_option maxRecDepth 100000 in
set_option maxHeartbeats 4000000 in
theorem s_X8_sum {l : Launch} {g : am_G} {B : am_M} {pl : Nat} (hL : am_Lay B pl) (a0 : Nat) (h0 : am_isRow B a0) (u : am_U) : am_E l g d_X8_sum 0 (am_ent d_X8_sum [.ref (a0)]) [] (am_of B u) (am_r (am_bN B u) (f_X8_sum a0 u)) := by
  unfold f_X8_sum
  show am_E l g d_X8_sum 0 [some (.ref (a0)), none, none, none] [] (am_of B u) _
  refine e_lconst dX8_sum_0 (v := 0) (by decide) ?_
  refine e_lstore_n dX8_sum_1 (by decide) (LS1 := [_, _, none, none]) rfl ?_
  refine e_iconst dX8_sum_2 (v := 0) (by decide) ?_
  refine e_istore_n dX8_sum_3 (by decide) (LS1 := [_, _, none, _]) rfl ?_
  refine s_X8_sum_4 hL _ _ h0 _ _ _

def f_X0_canBe_2 (u : am_U) (v1 : Int32) (v2 : Nat) : Nat → Int32 → Option (Int32)
  | 0, _ => none
  | n + 1, v3 =>
    if (u 21 4) ≤ v3 then (
      some 1)
    else (
      am_ck (am_ix v3 8) (
      (f_X0_burningTime (u 22 v3.toNatClampNeg) v1 v2 u).bind (fun q2 =>
      if q2 = (u 23 v3.toNatClampNeg) then (
        f_X0_canBe_2 u v1 v2 n (v3 + 1))
      else (
        some 0))))
def f_X0_canBe (a1 : Int32) (a2 : Nat) (u : am_U) : Option (Int32) :=
  f_X0_canBe_2 u a1 a2 20000 0
set_option maxRecDepth 100000 in
set_option maxHeartbeats 4000000 in
theorem s_X0_canBe_2 {l : Launch} {g : am_G} {B : am_M} {pl : Nat} (hL : am_Lay B pl) (u : am_U) (v1 : Int32) (v2 : Nat) (hv2 : am_isPlan B v2)   : ∀ (n : Nat) (v3 : Int32), am_E l g d_X0_canBe 2 [some (.ref (21)), some (.int (v1)), some (.ref (v2)), some (.int (v3))] [] (am_of B u) (am_r (am_bP B u) (f_X0_canBe_2 u v1 v2 n v3)) := by
  intro n
  induction n with
  | zero => intro v3; exact am_none
  | succ n ih =>
    intro v3
    unfold f_X0_canBe_2
    refine e_iload_n dX0_canBe_2 rfl ?_
    refine e_aload_n dX0_canBe_3 rfl ?_
    refine q_getI dX0_canBe_4 lf_Burnings_24 (by decide) (am_Lk hL rfl) ?_
    refine e_if2_ge dX0_canBe_7 (tgt := 38) (by decide) ?_ ?_
    · refine e_iconst dX0_canBe_38 (v := 1) (by decide) ?_
      exact e_zret dX0_canBe_39 rfl rfl (Or.inr rfl)
    · refine e_aload_n dX0_canBe_10 rfl ?_
      refine q_getR (r := 22) dX0_canBe_11 lf_Burnings_9 rfl (by decide) (am_Lk hL rfl) (am_Lr hL rfl) ?_
      refine e_iload_n dX0_canBe_14 rfl ?_
      refine q_ialdH dX0_canBe_15 (am_Ls hL rfl) (fun i1 => ?_)
      refine e_iload_n dX0_canBe_16 rfl ?_
      refine e_aload_n dX0_canBe_17 rfl ?_
      refine q_callSP (As := [_, _, _]) rfl dX0_canBe_18 lm_Burnings_56 (am_fitB rfl) yo_X0_burningTime ys_X0_burningTime rfl (Nat.le_of_ble_eq_true rfl) (Nat.le_of_ble_eq_true rfl) (s_X0_burningTime hL _ _ _ hv2 _) (fun q2 => ?_)
      refine e_aload_n dX0_canBe_21 rfl ?_
      refine q_getR (r := 23) dX0_canBe_22 lf_Burnings_15 rfl (by decide) (am_Lk hL rfl) (am_Lr hL rfl) ?_
      refine e_iload_n dX0_canBe_25 rfl ?_
      refine q_ialdC (jn := _) dX0_canBe_26 (am_Ls hL rfl) i1 rfl ?_
      refine e_if2_eq dX0_canBe_27 (tgt := 32) (by decide) ?_ ?_
      · refine e_iinc dX0_canBe_32 rfl (v := _ + 1) rfl (by decide) (LS1 := [_, _, _, _]) rfl ?_
        refine e_goto dX0_canBe_35 (tgt := 2) (by decide) ?_
        exact ih (v3 + 1)
      · refine e_iconst dX0_canBe_30 (v := 0) (by decide) ?_
        exact e_zret dX0_canBe_31 rfl rfl (Or.inl rfl)

set_option maxRecDepth 100000 in
set_option maxHeartbeats 4000000 in
theorem s_X0_canBe {l : Launch} {g : am_G} {B : am_M} {pl : Nat} (hL : am_Lay B pl) (a1 : Int32) (a2 : Nat) (h2 : am_isPlan B a2) (u : am_U) : am_E l g d_X0_canBe 0 (am_ent d_X0_canBe [.ref (21), .int (a1), .ref (a2)]) [] (am_of B u) (am_r (am_bP B u) (f_X0_canBe a1 a2 u)) := by
  unfold f_X0_canBe
  show am_E l g d_X0_canBe 0 [some (.ref (21)), some (.int (a1)), some (.ref (a2)), none] [] (am_of B u) _
  refine e_iconst dX0_canBe_0 (v := 0) (by decide) ?_
  refine e_istore_n dX0_canBe_1 (by decide) (LS1 := [_, _, _, _]) rfl ?_
  refine s_X0_canBe_2 hL _ _ _ h2 _ _

def f_X0_mostLeft_13 (v1 : Int32) (v2 : Nat) : Nat → Int32 → Int32 → am_U → Option (Int32 × am_U)
  | 0, _, _, _ => none
  | n + 1, v3, v4, u =>
    if (u 21 5) ≤ v4 then (
      some (v3, u))
    else (
      am_ck (am_ix v4 64) (
      (f_X0_burningTime v1 (u 24 v4.toNatClampNeg) v2 u).bind (fun q3 =>
      am_ck (am_ix q3 121) (
      let u5 : am_U := am_w u 25 q3.toNatClampNeg ((u 25 q3.toNatClampNeg) + 1)
      (f_J9_max_7cf53 v3 (u5 25 q3.toNatClampNeg)).bind (fun q6 =>
      f_X0_mostLeft_13 v1 v2 n q6 (v4 + 1) u5)))))
def f_X0_mostLeft (a1 : Int32) (a2 : Nat) (u : am_U) : Option (Int32 × am_U) :=
  (f_J7_fill_53178 25 121 0 u).bind (fun q1 =>
  f_X0_mostLeft_13 a1 a2 20000 0 0 q1)
set_option maxRecDepth 100000 in
set_option maxHeartbeats 4000000 in
theorem s_X0_mostLeft_13 {l : Launch} {g : am_G} {B : am_M} {pl : Nat} (hL : am_Lay B pl) (v1 : Int32) (v2 : Nat) (hv2 : am_isPlan B v2)   : ∀ (n : Nat) (v3 : Int32) (v4 : Int32) (u : am_U), am_E l g d_X0_mostLeft 13 [some (.ref (21)), some (.int (v1)), some (.ref (v2)), some (.int (v3)), some (.int (v4)), none] [] (am_of B u) (am_r (am_bI B) (f_X0_mostLeft_13 v1 v2 n v3 v4 u)) := by
  intro n
  induction n with
  | zero => intro v3 v4 u; exact am_none
  | succ n ih =>
    intro v3 v4 u
    unfold f_X0_mostLeft_13
    refine e_iload dX0_mostLeft_13 rfl ?_
    refine e_aload_n dX0_mostLeft_15 rfl ?_
    refine q_getI dX0_mostLeft_16 lf_Burnings_28 (by decide) (am_Lk hL rfl) ?_
    refine e_if2_ge dX0_mostLeft_19 (tgt := 65) (by decide) ?_ ?_
    · refine e_iload_n dX0_mostLeft_65 rfl ?_
      exact e_iret dX0_mostLeft_66 rfl rfl
    · refine e_iload_n dX0_mostLeft_22 rfl ?_
      refine e_aload_n dX0_mostLeft_23 rfl ?_
      refine q_getR (r := 24) dX0_mostLeft_24 lf_Burnings_18 rfl (by decide) (am_Lk hL rfl) (am_Lr hL rfl) ?_
      refine e_iload dX0_mostLeft_27 rfl ?_
      refine q_ialdH dX0_mostLeft_29 (am_Ls hL rfl) (fun i2 => ?_)
      refine e_aload_n dX0_mostLeft_30 rfl ?_
      refine q_callSP (As := [_, _, _]) rfl dX0_mostLeft_31 lm_Burnings_56 (am_fitB rfl) yo_X0_burningTime ys_X0_burningTime rfl (Nat.le_of_ble_eq_true rfl) (Nat.le_of_ble_eq_true rfl) (s_X0_burningTime hL _ _ _ hv2 _) (fun q3 => ?_)
      refine e_istore dX0_mostLeft_34 (by decide) (LS1 := [_, _, _, _, _, _]) rfl ?_
      refine e_aload_n dX0_mostLeft_36 rfl ?_
      refine q_getR (r := 25) dX0_mostLeft_37 lf_Burnings_21 rfl (by decide) (am_Lk hL rfl) (am_Lr hL rfl) ?_
      refine e_iload dX0_mostLeft_40 rfl ?_
      refine e_dup2 dX0_mostLeft_42 rfl rfl ?_
      refine q_ialdH dX0_mostLeft_43 (am_Ls hL rfl) (fun i4 => ?_)
      refine e_iconst dX0_mostLeft_44 (v := 1) (by decide) ?_
      refine e_iadd dX0_mostLeft_45 ?_
      refine q_iastC (jn := _) dX0_mostLeft_46 (am_Ls hL rfl) i4 rfl ?_
      refine e_iload_n dX0_mostLeft_47 rfl ?_
      refine e_aload_n dX0_mostLeft_48 rfl ?_
      refine q_getR (r := 25) dX0_mostLeft_49 lf_Burnings_21 rfl (by decide) (am_Lk hL rfl) (am_Lr hL rfl) ?_
      refine e_iload dX0_mostLeft_52 rfl ?_
      refine q_ialdC (jn := _) dX0_mostLeft_54 (am_Ls hL rfl) i4 rfl ?_
      refine q_callSP (As := [_, _]) rfl dX0_mostLeft_55 lm_Burnings_60 (am_fitB rfl) yo_J9_max_7cf53 ys_J9_max_7cf53 rfl (Nat.le_of_ble_eq_true rfl) (Nat.le_of_ble_eq_true rfl) (s_J9_max_7cf53 hL _ _  _) (fun q6 => ?_)
      refine e_istore_n dX0_mostLeft_58 (by decide) (LS1 := [_, _, _, _, _, _]) rfl ?_
      refine e_iinc dX0_mostLeft_59 rfl (v := _ + 1) rfl (by decide) (LS1 := [_, _, _, _, _, _]) rfl ?_
      refine e_goto dX0_mostLeft_62 (tgt := 13) (by decide) ?_
      refine e_msk [true, true, true, true, true, false] (LS1 := [_, _, _, _, _, none]) rfl ?_
      exact ih q6 (v4 + 1) (am_w u 25 q3.toNatClampNeg ((u 25 q3.toNatClampNeg) + 1))

set_option maxRecDepth 100000 in
set_option maxHeartbeats 4000000 in
theorem s_X0_mostLeft {l : Launch} {g : am_G} {B : am_M} {pl : Nat} (hL : am_Lay B pl) (a1 : Int32) (a2 : Nat) (h2 : am_isPlan B a2) (u : am_U) : am_E l g d_X0_mostLeft 0 (am_ent d_X0_mostLeft [.ref (21), .int (a1), .ref (a2)]) [] (am_of B u) (am_r (am_bI B) (f_X0_mostLeft a1 a2 u)) := by
  unfold f_X0_mostLeft
  show am_E l g d_X0_mostLeft 0 [some (.ref (21)), some (.int (a1)), some (.ref (a2)), none, none, none] [] (am_of B u) _
  refine e_aload_n dX0_mostLeft_0 rfl ?_
  refine q_getR (r := 25) dX0_mostLeft_1 lf_Burnings_21 rfl (by decide) (am_Lk hL rfl) (am_Lr hL rfl) ?_
  refine e_iconst dX0_mostLeft_4 (v := 0) (by decide) ?_
  refine q_callSV (As := [_, _]) rfl dX0_mostLeft_5 lm_Burnings_50 (am_fitB rfl) yo_J7_fill_53178 ys_J7_fill_53178 rfl (Nat.le_of_ble_eq_true rfl) (Nat.le_of_ble_eq_true rfl) (s_J7_fill_53178 hL _ _ _ (am_Ls hL rfl) _) (fun q1 => ?_)
  refine e_iconst dX0_mostLeft_8 (v := 0) (by decide) ?_
  refine e_istore_n dX0_mostLeft_9 (by decide) (LS1 := [_, _, _, _, none, none]) rfl ?_
  refine e_iconst dX0_mostLeft_10 (v := 0) (by decide) ?_
  refine e_istore dX0_mostLeft_11 (by decide) (LS1 := [_, _, _, _, _, none]) rfl ?_
  refine s_X0_mostLeft_13 hL _ _ h2 _ _ _ _

def f_X10_burnt (pl : Nat) (a1 : Int32) (a2 : Int32) (u : am_U) : Option (Int32 × am_U) :=
  (f_X10_isWithin a1 1 ((1 <<< ((u pl 2) &&& 31)) - 1)).bind (fun q1 =>
  if q1 = 0 then (
    some (((-1) : Int32), u))
  else (
    (f_X10_isWithin a2 0 120).bind (fun q2 =>
    if ¬ q2 = 0 then (
      if ¬ (u 21 4) = 8 then (
        (f_X0_add a1 a2 u).bind (fun q3 =>
        some (q3.1, q3.2)))
      else (
        some (((-2) : Int32), u)))
    else (
      some (((-1) : Int32), u)))))
set_option maxRecDepth 100000 in
set_option maxHeartbeats 4000000 in
theorem s_X10_burnt {l : Launch} {g : am_G} {B : am_M} {pl : Nat} (hL : am_Lay B pl) (a1 : Int32) (a2 : Int32)  (u : am_U) : am_E l g d_X10_burnt 0 (am_ent d_X10_burnt [.ref (4), .int (a1), .int (a2)]) [] (am_of B u) (am_r (am_bI B) (f_X10_burnt pl a1 a2 u)) := by
  unfold f_X10_burnt
  show am_E l g d_X10_burnt 0 [some (.ref (4)), some (.int (a1)), some (.int (a2))] [] (am_of B u) _
  refine e_iload_n dX10_burnt_0 rfl ?_
  refine e_iconst dX10_burnt_1 (v := 1) (by decide) ?_
  refine e_iconst dX10_burnt_2 (v := 1) (by decide) ?_
  refine e_aload_n dX10_burnt_3 rfl ?_
  refine q_getR (r := pl) dX10_burnt_4 lf_N_72 rfl (by decide) (am_Lk hL rfl) (am_Lpl hL) ?_
  refine q_getI dX10_burnt_7 lf_N_144 (by decide) (congrArg Prod.fst (am_pln hL).1) ?_
  refine e_ishl dX10_burnt_10 ?_
  refine e_iconst dX10_burnt_11 (v := 1) (by decide) ?_
  refine e_isub dX10_burnt_12 ?_
  refine q_callSP (As := [_, _, _]) rfl dX10_burnt_13 lm_N_86 (am_fitB rfl) yo_X10_isWithin ys_X10_isWithin rfl (Nat.le_of_ble_eq_true rfl) (Nat.le_of_ble_eq_true rfl) (s_X10_isWithin hL _ _ _  _) (fun q1 => ?_)
  refine e_if_eq dX10_burnt_16 (tgt := 29) (by decide) ?_ ?_
  · refine e_iconst dX10_burnt_29 (v := ((-1) : Int32)) (by decide) ?_
    exact e_iret dX10_burnt_30 rfl rfl
  · refine e_iload_n dX10_burnt_19 rfl ?_
    refine e_iconst dX10_burnt_20 (v := 0) (by decide) ?_
    refine e_bipush dX10_burnt_21 (v := 120) (by decide) ?_
    refine q_callSP (As := [_, _, _]) rfl dX10_burnt_23 lm_N_86 (am_fitB rfl) yo_X10_isWithin ys_X10_isWithin rfl (Nat.le_of_ble_eq_true rfl) (Nat.le_of_ble_eq_true rfl) (s_X10_isWithin hL _ _ _  _) (fun q2 => ?_)
    refine e_if_ne dX10_burnt_26 (tgt := 31) (by decide) ?_ ?_
    · refine e_aload_n dX10_burnt_31 rfl ?_
      refine q_getR (r := 21) dX10_burnt_32 lf_N_55 rfl (by decide) (am_Lk hL rfl) (am_Lr hL rfl) ?_
      refine q_getI dX10_burnt_35 lf_N_143 (by decide) (am_Lk hL rfl) ?_
      refine e_bipush dX10_burnt_38 (v := 8) (by decide) ?_
      refine e_if2_ne dX10_burnt_40 (tgt := 46) (by decide) ?_ ?_
      · refine e_aload_n dX10_burnt_46 rfl ?_
        refine q_getR (r := 21) dX10_burnt_47 lf_N_55 rfl (by decide) (am_Lk hL rfl) (am_Lr hL rfl) ?_
        refine e_iload_n dX10_burnt_50 rfl ?_
        refine e_iload_n dX10_burnt_51 rfl ?_
        refine q_callVI (As := [_, _]) rfl dX10_burnt_52 lm_N_297 (am_fitB rfl) yo_X0_add ys_X0_add rfl rfl (by decide) (am_Lk hL rfl) rfl (Nat.le_of_ble_eq_true rfl) (Nat.le_of_ble_eq_true rfl) (s_X0_add hL _ _  _) (fun q3 => ?_)
        exact e_iret dX10_burnt_55 rfl rfl
      · refine e_bipush dX10_burnt_43 (v := ((-2) : Int32)) (by decide) ?_
        exact e_iret dX10_burnt_45 rfl rfl
    · refine e_iconst dX10_burnt_29 (v := ((-1) : Int32)) (by decide) ?_
      exact e_iret dX10_burnt_30 rfl rfl

def f_X10_copy (a1 : Int32) (a2 : Int32) (a3 : Int32) (a4 : Int32) (a5 : Int32) (u : am_U) : Option (Int32 × am_U) :=
  (f_X10_isWithin a1 0 5).bind (fun q1 =>
  if q1 = 0 then (
    some (((-1) : Int32), u))
  else (
    (f_X10_isWithin a3 0 5).bind (fun q2 =>
    if ¬ q2 = 0 then (
      if 0 ≤ a5 then (
        am_ck (am_ix a1 6) (
        am_ck (am_ix a3 6) (
        (f_X8_isThere (2 * a1.toNatClampNeg + 40) u).bind (fun q5 =>
        am_jn (fun (j6z : Unit) =>
          (f_X10_find 1 u).bind (fun q7 =>
          some (q7.1, q7.2))) (fun j6 =>
        if q5 = 0 then (
          j6 () )
        else (
          (f_X8_isThere (2 * a3.toNatClampNeg + 40) u).bind (fun q8 =>
          if ¬ q8 = 0 then (
            (f_X8_hasFrom (2 * a1.toNatClampNeg + 40) a2 a5 u).bind (fun q9 =>
            am_jn (fun (j10z : Unit) =>
              (f_X10_find 2 u).bind (fun q11 =>
              some (q11.1, q11.2))) (fun j10 =>
            if q9 = 0 then (
              j10 () )
            else (
              (f_X8_hasFrom (2 * a3.toNatClampNeg + 40) a4 a5 u).bind (fun q12 =>
              if ¬ q12 = 0 then (
                am_ck (am_cp a2 a4 a5 60 60) (
                let u13 : am_U := am_rw u ((2 * a3.toNatClampNeg + 40) + 1) (va_cpy (u ((2 * a1.toNatClampNeg + 40) + 1)) (u ((2 * a3.toNatClampNeg + 40) + 1)) a2.toNatClampNeg a4.toNatClampNeg a5.toNatClampNeg)
                some (1, u13)))
              else (
                j10 () ))))))
          else (
            j6 () ))))))))
      else (
        (f_X10_find 5 u).bind (fun q14 =>
        some (q14.1, q14.2))))
    else (
      some (((-1) : Int32), u)))))
set_option maxRecDepth 100000 in
set_option maxHeartbeats 4000000 in
theorem s_X10_copy {l : Launch} {g : am_G} {B : am_M} {pl : Nat} (hL : am_Lay B pl) (a1 : Int32) (a2 : Int32) (a3 : Int32) (a4 : Int32) (a5 : Int32)  (u : am_U) : am_E l g d_X10_copy 0 (am_ent d_X10_copy [.ref (4), .int (a1), .int (a2), .int (a3), .int (a4), .int (a5)]) [] (am_of B u) (am_r (am_bI B) (f_X10_copy a1 a2 a3 a4 a5 u)) := by
  unfold f_X10_copy
  show am_E l g d_X10_copy 0 [some (.ref (4)), some (.int (a1)), some (.int (a2)), some (.int (a3)), some (.int (a4)), some (.int (a5)), none, none] [] (am_of B u) _
  refine e_iload_n dX10_copy_0 rfl ?_
  refine e_iconst dX10_copy_1 (v := 0) (by decide) ?_
  refine e_iconst dX10_copy_2 (v := 5) (by decide) ?_
  refine q_callSP (As := [_, _, _]) rfl dX10_copy_3 lm_N_86 (am_fitB rfl) yo_X10_isWithin ys_X10_isWithin rfl (Nat.le_of_ble_eq_true rfl) (Nat.le_of_ble_eq_true rfl) (s_X10_isWithin hL _ _ _  _) (fun q1 => ?_)
  refine e_if_eq dX10_copy_6 (tgt := 18) (by decide) ?_ ?_
  · refine e_iconst dX10_copy_18 (v := ((-1) : Int32)) (by decide) ?_
    exact e_iret dX10_copy_19 rfl rfl
  · refine e_iload_n dX10_copy_9 rfl ?_
    refine e_iconst dX10_copy_10 (v := 0) (by decide) ?_
    refine e_iconst dX10_copy_11 (v := 5) (by decide) ?_
    refine q_callSP (As := [_, _, _]) rfl dX10_copy_12 lm_N_86 (am_fitB rfl) yo_X10_isWithin ys_X10_isWithin rfl (Nat.le_of_ble_eq_true rfl) (Nat.le_of_ble_eq_true rfl) (s_X10_isWithin hL _ _ _  _) (fun q2 => ?_)
    refine e_if_ne dX10_copy_15 (tgt := 20) (by decide) ?_ ?_
    · refine e_iload dX10_copy_20 rfl ?_
      refine e_if_ge dX10_copy_22 (tgt := 31) (by decide) ?_ ?_
      · refine e_aload_n dX10_copy_31 rfl ?_
        refine q_getR (r := 5) dX10_copy_32 lf_N_11 rfl (by decide) (am_Lk hL rfl) (am_Lr hL rfl) ?_
        refine e_iload_n dX10_copy_35 rfl ?_
        refine q_aald (n := 6) (rid := 2 * a1.toNatClampNeg + 40) dX10_copy_36 (am_rows5 hL).1 (fun h => ((am_rows5 hL).2 _ h).1) (fun i3 => ?_)
        refine e_astore dX10_copy_37 (by decide) (LS1 := [_, _, _, _, _, _, _, none]) rfl ?_
        refine e_aload_n dX10_copy_39 rfl ?_
        refine q_getR (r := 5) dX10_copy_40 lf_N_11 rfl (by decide) (am_Lk hL rfl) (am_Lr hL rfl) ?_
        refine e_iload_n dX10_copy_43 rfl ?_
        refine q_aald (n := 6) (rid := 2 * a3.toNatClampNeg + 40) dX10_copy_44 (am_rows5 hL).1 (fun h => ((am_rows5 hL).2 _ h).1) (fun i4 => ?_)
        refine e_astore dX10_copy_45 (by decide) (LS1 := [_, _, _, _, _, _, _, _]) rfl ?_
        refine e_aload dX10_copy_47 rfl ?_
        refine q_callVP (As := []) rfl dX10_copy_49 lm_N_117 (am_fitB rfl) yo_X8_isThere ys_X8_isThere rfl rfl (by decide) (congrArg Prod.fst ((am_rows5 hL).2 _ i3).2.1) rfl (Nat.le_of_ble_eq_true rfl) (Nat.le_of_ble_eq_true rfl) (s_X8_isThere hL _ ((am_rows5 hL).2 _ i3).2 _) (fun q5 => ?_)
        refine e_jn (P := fun t : Unit → Option (Int32 × am_U) => ∀ (j6z : Unit), am_E l g d_X10_copy 63 [some (.ref (4)), none, none, none, none, none, none, none] [] (am_of B u) (am_r (am_bI B) (t j6z))) ?_ (fun j6 hj6 => ?_)
        · intro j6z
          refine e_aload_n dX10_copy_63 rfl ?_
          refine e_iconst dX10_copy_64 (v := 1) (by decide) ?_
          refine q_callVI (As := [_]) rfl dX10_copy_65 lm_N_113 (am_fitB rfl) yo_X10_find ys_X10_find rfl rfl (by decide) (am_Lk hL rfl) rfl (Nat.le_of_ble_eq_true rfl) (Nat.le_of_ble_eq_true rfl) (s_X10_find hL _  _) (fun q7 => ?_)
          exact e_iret dX10_copy_68 rfl rfl
        · refine e_if_eq dX10_copy_52 (tgt := 63) (by decide) ?_ ?_
          · refine e_msk [true, false, false, false, false, false, false, false] (LS1 := [_, none, none, none, none, none, none, none]) rfl ?_
            exact hj6 () 
          · refine e_aload dX10_copy_55 rfl ?_
            refine q_callVP (As := []) rfl dX10_copy_57 lm_N_117 (am_fitB rfl) yo_X8_isThere ys_X8_isThere rfl rfl (by decide) (congrArg Prod.fst ((am_rows5 hL).2 _ i4).2.1) rfl (Nat.le_of_ble_eq_true rfl) (Nat.le_of_ble_eq_true rfl) (s_X8_isThere hL _ ((am_rows5 hL).2 _ i4).2 _) (fun q8 => ?_)
            refine e_if_ne dX10_copy_60 (tgt := 69) (by decide) ?_ ?_
            · refine e_aload dX10_copy_69 rfl ?_
              refine e_iload_n dX10_copy_71 rfl ?_
              refine e_iload dX10_copy_72 rfl ?_
              refine q_callVP (As := [_, _]) rfl dX10_copy_74 lm_N_121 (am_fitB rfl) yo_X8_hasFrom ys_X8_hasFrom rfl rfl (by decide) (congrArg Prod.fst ((am_rows5 hL).2 _ i3).2.1) rfl (Nat.le_of_ble_eq_true rfl) (Nat.le_of_ble_eq_true rfl) (s_X8_hasFrom hL _ _ _ ((am_rows5 hL).2 _ i3).2 _) (fun q9 => ?_)
              refine e_jn (P := fun t : Unit → Option (Int32 × am_U) => ∀ (j10z : Unit), am_E l g d_X10_copy 92 [some (.ref (4)), none, none, none, none, none, none, none] [] (am_of B u) (am_r (am_bI B) (t j10z))) ?_ (fun j10 hj10 => ?_)
              · intro j10z
                refine e_aload_n dX10_copy_92 rfl ?_
                refine e_iconst dX10_copy_93 (v := 2) (by decide) ?_
                refine q_callVI (As := [_]) rfl dX10_copy_94 lm_N_113 (am_fitB rfl) yo_X10_find ys_X10_find rfl rfl (by decide) (am_Lk hL rfl) rfl (Nat.le_of_ble_eq_true rfl) (Nat.le_of_ble_eq_true rfl) (s_X10_find hL _  _) (fun q11 => ?_)
                exact e_iret dX10_copy_97 rfl rfl
              · refine e_if_eq dX10_copy_77 (tgt := 92) (by decide) ?_ ?_
                · refine e_msk [true, false, false, false, false, false, false, false] (LS1 := [_, none, none, none, none, none, none, none]) rfl ?_
                  exact hj10 () 
                · refine e_aload dX10_copy_80 rfl ?_
                  refine e_iload dX10_copy_82 rfl ?_
                  refine e_iload dX10_copy_84 rfl ?_
                  refine q_callVP (As := [_, _]) rfl dX10_copy_86 lm_N_121 (am_fitB rfl) yo_X8_hasFrom ys_X8_hasFrom rfl rfl (by decide) (congrArg Prod.fst ((am_rows5 hL).2 _ i4).2.1) rfl (Nat.le_of_ble_eq_true rfl) (Nat.le_of_ble_eq_true rfl) (s_X8_hasFrom hL _ _ _ ((am_rows5 hL).2 _ i4).2 _) (fun q12 => ?_)
                  refine e_if_ne dX10_copy_89 (tgt := 98) (by decide) ?_ ?_
                  · refine e_aload dX10_copy_98 rfl ?_
                    refine q_getR (r := (2 * a1.toNatClampNeg + 40) + 1) dX10_copy_100 lf_N_98 rfl (by decide) (congrArg Prod.fst ((am_rows5 hL).2 _ i3).2.1) (am_avs ((am_rows5 hL).2 _ i3).2.2.1) ?_
                    refine e_iload_n dX10_copy_103 rfl ?_
                    refine e_aload dX10_copy_104 rfl ?_
                    refine q_getR (r := (2 * a3.toNatClampNeg + 40) + 1) dX10_copy_106 lf_N_98 rfl (by decide) (congrArg Prod.fst ((am_rows5 hL).2 _ i4).2.1) (am_avs ((am_rows5 hL).2 _ i4).2.2.1) ?_
                    refine e_iload dX10_copy_109 rfl ?_
                    refine e_iload dX10_copy_111 rfl ?_
                    refine q_copy dX10_copy_113 lm_N_125 lw_nat lw_cps lw_sys ((am_rows5 hL).2 _ i3).2.2.2 ((am_rows5 hL).2 _ i4).2.2.2 (by decide) (by decide +kernel) ?_
                    refine e_iconst dX10_copy_116 (v := 1) (by decide) ?_
                    exact e_iret dX10_copy_117 rfl rfl
                  · refine e_msk [true, false, false, false, false, false, false, false] (LS1 := [_, none, none, none, none, none, none, none]) rfl ?_
                    exact hj10 () 
            · refine e_msk [true, false, false, false, false, false, false, false] (LS1 := [_, none, none, none, none, none, none, none]) rfl ?_
              exact hj6 () 
      · refine e_aload_n dX10_copy_25 rfl ?_
        refine e_iconst dX10_copy_26 (v := 5) (by decide) ?_
        refine q_callVI (As := [_]) rfl dX10_copy_27 lm_N_113 (am_fitB rfl) yo_X10_find ys_X10_find rfl rfl (by decide) (am_Lk hL rfl) rfl (Nat.le_of_ble_eq_true rfl) (Nat.le_of_ble_eq_true rfl) (s_X10_find hL _  _) (fun q14 => ?_)
        exact e_iret dX10_copy_30 rfl rfl
    · refine e_iconst dX10_copy_18 (v := ((-1) : Int32)) (by decide) ?_
      exact e_iret dX10_copy_19 rfl rfl

def f_X10_countThere_4 (u : am_U) (v0 : Nat) : Nat → Int32 → Int32 → Option (Int32)
  | 0, _, _ => none
  | n + 1, v1, v2 =>
    if (nI (am_rln v0)) ≤ v2 then (
      some v1)
    else (
      am_ck (am_ix v2 (am_rln v0)) (
      (f_X8_isThere (am_rid v0 v2.toNatClampNeg) u).bind (fun q2 =>
      if q2 = 0 then (
        f_X10_countThere_4 u v0 n v1 (v2 + 1))
      else (
        f_X10_countThere_4 u v0 n (v1 + 1) (v2 + 1)))))
def f_X10_countThere (a0 : Nat) (u : am_U) : Option (Int32) :=
  f_X10_countThere_4 u a0 20000 0 0
set_option maxRecDepth 100000 in
set_option maxHeartbeats 4000000 in
theorem s_X10_countThere_4 {l : Launch} {g : am_G} {B : am_M} {pl : Nat} (hL : am_Lay B pl) (u : am_U) (v0 : Nat) (hv0 : am_isRows B v0)   : ∀ (n : Nat) (v1 : Int32) (v2 : Int32), am_E l g d_X10_countThere 4 [some (.ref (v0)), some (.int (v1)), some (.int (v2))] [] (am_of B u) (am_r (am_bP B u) (f_X10_countThere_4 u v0 n v1 v2)) := by
  intro n
  induction n with
  | zero => intro v1 v2; exact am_none
  | succ n ih =>
    intro v1 v2
    unfold f_X10_countThere_4
    refine e_iload_n dX10_countThere_4 rfl ?_
    refine e_aload_n dX10_countThere_5 rfl ?_
    refine q_alen (v := nI (am_rln v0)) dX10_countThere_6 hv0.1 (by decide) rfl ?_
    refine e_if2_ge dX10_countThere_7 (tgt := 28) (by decide) ?_ ?_
    · refine e_iload_n dX10_countThere_28 rfl ?_
      exact e_iret dX10_countThere_29 rfl rfl
    · refine e_aload_n dX10_countThere_10 rfl ?_
      refine e_iload_n dX10_countThere_11 rfl ?_
      refine q_aald (n := am_rln v0) (rid := am_rid v0 v2.toNatClampNeg) dX10_countThere_12 hv0.1 (fun h => (hv0.2 _ h).1) (fun i1 => ?_)
      refine q_callVP (As := []) rfl dX10_countThere_13 lm_N_117 (am_fitB rfl) yo_X8_isThere ys_X8_isThere rfl rfl (by decide) (congrArg Prod.fst (hv0.2 _ i1).2.1) rfl (Nat.le_of_ble_eq_true rfl) (Nat.le_of_ble_eq_true rfl) (s_X8_isThere hL _ (hv0.2 _ i1).2 _) (fun q2 => ?_)
      refine e_if_eq dX10_countThere_16 (tgt := 22) (by decide) ?_ ?_
      · refine e_iinc dX10_countThere_22 rfl (v := _ + 1) rfl (by decide) (LS1 := [_, _, _]) rfl ?_
        refine e_goto dX10_countThere_25 (tgt := 4) (by decide) ?_
        exact ih v1 (v2 + 1)
      · refine e_iinc dX10_countThere_19 rfl (v := _ + 1) rfl (by decide) (LS1 := [_, _, _]) rfl ?_
        refine e_iinc dX10_countThere_22 rfl (v := _ + 1) rfl (by decide) (LS1 := [_, _, _]) rfl ?_
        refine e_goto dX10_countThere_25 (tgt := 4) (by decide) ?_
        exact ih (v1 + 1) (v2 + 1)

set_option maxRecDepth 100000 in
set_option maxHeartbeats 4000000 in
theorem s_X10_countThere {l : Launch} {g : am_G} {B : am_M} {pl : Nat} (hL : am_Lay B pl) (a0 : Nat) (h0 : am_isRows B a0) (u : am_U) : am_E l g d_X10_countThere 0 (am_ent d_X10_countThere [.ref (a0)]) [] (am_of B u) (am_r (am_bP B u) (f_X10_countThere a0 u)) := by
  unfold f_X10_countThere
  show am_E l g d_X10_countThere 0 [some (.ref (a0)), none, none] [] (am_of B u) _
  refine e_iconst dX10_countThere_0 (v := 0) (by decide) ?_
  refine e_istore_n dX10_countThere_1 (by decide) (LS1 := [_, _, none]) rfl ?_
  refine e_iconst dX10_countThere_2 (v := 0) (by decide) ?_
  refine e_istore_n dX10_countThere_3 (by decide) (LS1 := [_, _, _]) rfl ?_
  refine s_X10_countThere_4 hL _ _ h0 _ _ _

def f_X10_findings (a1 : Int32) (u : am_U) : Option (Int32) :=
  (f_X10_isWithin a1 1 5).bind (fun q1 =>
  if q1 = 0 then (
    some ((-1) : Int32))
  else (
    am_ck (am_ix a1 6) (
    some (u 29 a1.toNatClampNeg))))
set_option maxRecDepth 100000 in
set_option maxHeartbeats 4000000 in
theorem s_X10_findings {l : Launch} {g : am_G} {B : am_M} {pl : Nat} (hL : am_Lay B pl) (a1 : Int32)  (u : am_U) : am_E l g d_X10_findings 0 (am_ent d_X10_findings [.ref (4), .int (a1)]) [] (am_of B u) (am_r (am_bP B u) (f_X10_findings a1 u)) := by
  unfold f_X10_findings
  show am_E l g d_X10_findings 0 [some (.ref (4)), some (.int (a1))] [] (am_of B u) _
  refine e_iload_n dX10_findings_0 rfl ?_
  refine e_iconst dX10_findings_1 (v := 1) (by decide) ?_
  refine e_iconst dX10_findings_2 (v := 5) (by decide) ?_
  refine q_callSP (As := [_, _, _]) rfl dX10_findings_3 lm_N_86 (am_fitB rfl) yo_X10_isWithin ys_X10_isWithin rfl (Nat.le_of_ble_eq_true rfl) (Nat.le_of_ble_eq_true rfl) (s_X10_isWithin hL _ _ _  _) (fun q1 => ?_)
  refine e_if_eq dX10_findings_6 (tgt := 18) (by decide) ?_ ?_
  · refine e_iconst dX10_findings_18 (v := ((-1) : Int32)) (by decide) ?_
    exact e_iret dX10_findings_19 rfl rfl
  · refine e_aload_n dX10_findings_9 rfl ?_
    refine q_getR (r := 29) dX10_findings_10 lf_N_66 rfl (by decide) (am_Lk hL rfl) (am_Lr hL rfl) ?_
    refine e_iload_n dX10_findings_13 rfl ?_
    refine q_ialdH dX10_findings_14 (am_Ls hL rfl) (fun i2 => ?_)
    refine e_goto dX10_findings_15 (tgt := 19) (by decide) ?_
    exact e_iret dX10_findings_19 rfl rfl

def f_X10_forget (a1 : Int32) (u : am_U) : Option (Int32 × am_U) :=
  (f_X10_isWithin a1 0 (u 21 4)).bind (fun q1 =>
  if ¬ q1 = 0 then (
    let u2 : am_U := am_w u 21 4 a1
    some ((u 21 4) - a1, u2))
  else (
    some (((-1) : Int32), u)))
set_option maxRecDepth 100000 in
set_option maxHeartbeats 4000000 in
theorem s_X10_forget {l : Launch} {g : am_G} {B : am_M} {pl : Nat} (hL : am_Lay B pl) (a1 : Int32)  (u : am_U) : am_E l g d_X10_forget 0 (am_ent d_X10_forget [.ref (4), .int (a1)]) [] (am_of B u) (am_r (am_bI B) (f_X10_forget a1 u)) := by
  unfold f_X10_forget
  show am_E l g d_X10_forget 0 [some (.ref (4)), some (.int (a1)), none] [] (am_of B u) _
  refine e_iload_n dX10_forget_0 rfl ?_
  refine e_iconst dX10_forget_1 (v := 0) (by decide) ?_
  refine e_aload_n dX10_forget_2 rfl ?_
  refine q_getR (r := 21) dX10_forget_3 lf_N_55 rfl (by decide) (am_Lk hL rfl) (am_Lr hL rfl) ?_
  refine q_getI dX10_forget_6 lf_N_143 (by decide) (am_Lk hL rfl) ?_
  refine q_callSP (As := [_, _, _]) rfl dX10_forget_9 lm_N_86 (am_fitB rfl) yo_X10_isWithin ys_X10_isWithin rfl (Nat.le_of_ble_eq_true rfl) (Nat.le_of_ble_eq_true rfl) (s_X10_isWithin hL _ _ _  _) (fun q1 => ?_)
  refine e_if_ne dX10_forget_12 (tgt := 17) (by decide) ?_ ?_
  · refine e_aload_n dX10_forget_17 rfl ?_
    refine q_getR (r := 21) dX10_forget_18 lf_N_55 rfl (by decide) (am_Lk hL rfl) (am_Lr hL rfl) ?_
    refine q_getI dX10_forget_21 lf_N_143 (by decide) (am_Lk hL rfl) ?_
    refine e_iload_n dX10_forget_24 rfl ?_
    refine e_isub dX10_forget_25 ?_
    refine e_istore_n dX10_forget_26 (by decide) (LS1 := [_, _, _]) rfl ?_
    refine e_aload_n dX10_forget_27 rfl ?_
    refine q_getR (r := 21) dX10_forget_28 lf_N_55 rfl (by decide) (am_Lk hL rfl) (am_Lr hL rfl) ?_
    refine e_iload_n dX10_forget_31 rfl ?_
    refine q_putI dX10_forget_32 lf_N_143 rfl (by decide) (am_Lk hL rfl) ?_
    refine e_iload_n dX10_forget_35 rfl ?_
    exact e_iret dX10_forget_36 rfl rfl
  · refine e_iconst dX10_forget_15 (v := ((-1) : Int32)) (by decide) ?_
    exact e_iret dX10_forget_16 rfl rfl

