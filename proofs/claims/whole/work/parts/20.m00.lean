def f_J6_bitCount_0f7a4 (a0 : Int32) : Option (Int32) :=
  let x1 : Int32 := a0 - ((((a0).toUInt32 >>> ((1 : Int32).toUInt32 &&& Int32.toUInt32 31)).toInt32) &&& 1431655765)
  let x2 : Int32 := (x1 &&& 858993459) + ((((x1).toUInt32 >>> ((2 : Int32).toUInt32 &&& Int32.toUInt32 31)).toInt32) &&& 858993459)
  let x3 : Int32 := (x2 + (((x2).toUInt32 >>> ((4 : Int32).toUInt32 &&& Int32.toUInt32 31)).toInt32)) &&& 252645135
  let x4 : Int32 := x3 + (((x3).toUInt32 >>> ((8 : Int32).toUInt32 &&& Int32.toUInt32 31)).toInt32)
  let x5 : Int32 := x4 + (((x4).toUInt32 >>> ((16 : Int32).toUInt32 &&& Int32.toUInt32 31)).toInt32)
  some (x5 &&& 63)
set_option maxRecDepth 100000 in
set_option maxHeartbeats 4000000 in
theorem s_J6_bitCount_0f7a4 {l : Launch} {g : am_G} {B : am_M} {pl : Nat} (hL : am_Lay B pl) (a0 : Int32)  (u : am_U) : am_E l g d_J6_bitCount_0f7a4 0 (am_ent d_J6_bitCount_0f7a4 [.int (a0)]) [] (am_of B u) (am_r (am_bP B u) (f_J6_bitCount_0f7a4 a0)) := by
  unfold f_J6_bitCount_0f7a4
  show am_E l g d_J6_bitCount_0f7a4 0 [some (.int (a0))] [] (am_of B u) _
  refine e_iload_n dJ6_bitCount_0f7a4_0 rfl ?_
  refine e_iload_n dJ6_bitCount_0f7a4_1 rfl ?_
  refine e_iconst dJ6_bitCount_0f7a4_2 (v := 1) (by decide) ?_
  refine e_iushr dJ6_bitCount_0f7a4_3 ?_
  refine e_ldcw dJ6_bitCount_0f7a4_4 lc_Integer_265 ?_
  refine e_iand dJ6_bitCount_0f7a4_7 ?_
  refine e_isub dJ6_bitCount_0f7a4_8 ?_
  refine e_istore_n dJ6_bitCount_0f7a4_9 (by decide) (LS1 := [_]) rfl ?_
  refine e_iload_n dJ6_bitCount_0f7a4_10 rfl ?_
  refine e_ldcw dJ6_bitCount_0f7a4_11 lc_Integer_266 ?_
  refine e_iand dJ6_bitCount_0f7a4_14 ?_
  refine e_iload_n dJ6_bitCount_0f7a4_15 rfl ?_
  refine e_iconst dJ6_bitCount_0f7a4_16 (v := 2) (by decide) ?_
  refine e_iushr dJ6_bitCount_0f7a4_17 ?_
  refine e_ldcw dJ6_bitCount_0f7a4_18 lc_Integer_266 ?_
  refine e_iand dJ6_bitCount_0f7a4_21 ?_
  refine e_iadd dJ6_bitCount_0f7a4_22 ?_
  refine e_istore_n dJ6_bitCount_0f7a4_23 (by decide) (LS1 := [_]) rfl ?_
  refine e_iload_n dJ6_bitCount_0f7a4_24 rfl ?_
  refine e_iload_n dJ6_bitCount_0f7a4_25 rfl ?_
  refine e_iconst dJ6_bitCount_0f7a4_26 (v := 4) (by decide) ?_
  refine e_iushr dJ6_bitCount_0f7a4_27 ?_
  refine e_iadd dJ6_bitCount_0f7a4_28 ?_
  refine e_ldcw dJ6_bitCount_0f7a4_29 lc_Integer_267 ?_
  refine e_iand dJ6_bitCount_0f7a4_32 ?_
  refine e_istore_n dJ6_bitCount_0f7a4_33 (by decide) (LS1 := [_]) rfl ?_
  refine e_iload_n dJ6_bitCount_0f7a4_34 rfl ?_
  refine e_iload_n dJ6_bitCount_0f7a4_35 rfl ?_
  refine e_bipush dJ6_bitCount_0f7a4_36 (v := 8) (by decide) ?_
  refine e_iushr dJ6_bitCount_0f7a4_38 ?_
  refine e_iadd dJ6_bitCount_0f7a4_39 ?_
  refine e_istore_n dJ6_bitCount_0f7a4_40 (by decide) (LS1 := [_]) rfl ?_
  refine e_iload_n dJ6_bitCount_0f7a4_41 rfl ?_
  refine e_iload_n dJ6_bitCount_0f7a4_42 rfl ?_
  refine e_bipush dJ6_bitCount_0f7a4_43 (v := 16) (by decide) ?_
  refine e_iushr dJ6_bitCount_0f7a4_45 ?_
  refine e_iadd dJ6_bitCount_0f7a4_46 ?_
  refine e_istore_n dJ6_bitCount_0f7a4_47 (by decide) (LS1 := [_]) rfl ?_
  refine e_iload_n dJ6_bitCount_0f7a4_48 rfl ?_
  refine e_bipush dJ6_bitCount_0f7a4_49 (v := 63) (by decide) ?_
  refine e_iand dJ6_bitCount_0f7a4_51 ?_
  exact e_iret dJ6_bitCount_0f7a4_52 rfl rfl

def f_J7_fill_53178_5 (v0 : Nat) (m0 : Nat) (v1 : Int32) (v3 : Int32) : Nat → Int32 → am_U → Option (am_U)
  | 0, _, _ => none
  | n + 1, v2, u =>
    if v3 ≤ v2 then (
      some u)
    else (
      am_ck (am_ix v2 m0) (
      let u1 : am_U := am_w u v0 v2.toNatClampNeg v1
      f_J7_fill_53178_5 v0 m0 v1 v3 n (v2 + 1) u1))
def f_J7_fill_53178 (a0 n0 : Nat) (a1 : Int32) (u : am_U) : Option (am_U) :=
  f_J7_fill_53178_5 a0 n0 a1 (nI n0) 20000 0 u
set_option maxRecDepth 100000 in
set_option maxHeartbeats 4000000 in
theorem s_J7_fill_53178_5 {l : Launch} {g : am_G} {B : am_M} {pl : Nat} (hL : am_Lay B pl) (v0 : Nat) (m0 : Nat) (v1 : Int32) (v3 : Int32) (hv0 : am_sh B v0 = (12, m0))   : ∀ (n : Nat) (v2 : Int32) (u : am_U), am_E l g d_J7_fill_53178 5 [some (.ref (v0)), some (.int (v1)), some (.int (v2)), some (.int (v3))] [] (am_of B u) (am_r (am_bV B) (f_J7_fill_53178_5 v0 m0 v1 v3 n v2 u)) := by
  intro n
  induction n with
  | zero => intro v2 u; exact am_none
  | succ n ih =>
    intro v2 u
    unfold f_J7_fill_53178_5
    refine e_iload_n dJ7_fill_53178_5 rfl ?_
    refine e_iload_n dJ7_fill_53178_6 rfl ?_
    refine e_if2_ge dJ7_fill_53178_7 (tgt := 20) (by decide) ?_ ?_
    · exact e_vret dJ7_fill_53178_20 rfl rfl
    · refine e_aload_n dJ7_fill_53178_10 rfl ?_
      refine e_iload_n dJ7_fill_53178_11 rfl ?_
      refine e_iload_n dJ7_fill_53178_12 rfl ?_
      refine q_iastH dJ7_fill_53178_13 hv0 (fun i2 => ?_)
      refine e_iinc dJ7_fill_53178_14 rfl (v := _ + 1) rfl (by decide) (LS1 := [_, _, _, _]) rfl ?_
      refine e_goto dJ7_fill_53178_17 (tgt := 5) (by decide) ?_
      exact ih (v2 + 1) (am_w u v0 v2.toNatClampNeg v1)

set_option maxRecDepth 100000 in
set_option maxHeartbeats 4000000 in
theorem s_J7_fill_53178 {l : Launch} {g : am_G} {B : am_M} {pl : Nat} (hL : am_Lay B pl) (a0 n0 : Nat) (a1 : Int32) (h0 : am_sh B a0 = (12, n0)) (u : am_U) : am_E l g d_J7_fill_53178 0 (am_ent d_J7_fill_53178 [.ref (a0), .int (a1)]) [] (am_of B u) (am_r (am_bV B) (f_J7_fill_53178 a0 n0 a1 u)) := by
  unfold f_J7_fill_53178
  show am_E l g d_J7_fill_53178 0 [some (.ref (a0)), some (.int (a1)), none, none] [] (am_of B u) _
  refine e_iconst dJ7_fill_53178_0 (v := 0) (by decide) ?_
  refine e_istore_n dJ7_fill_53178_1 (by decide) (LS1 := [_, _, _, none]) rfl ?_
  refine e_aload_n dJ7_fill_53178_2 rfl ?_
  refine q_alen (v := nI n0) dJ7_fill_53178_3 h0 (by decide) rfl ?_
  refine e_istore_n dJ7_fill_53178_4 (by decide) (LS1 := [_, _, _, _]) rfl ?_
  refine s_J7_fill_53178_5 hL _ _ _ _ h0 _ _ _

def f_J9_floorDiv_7cf53 (a0 : Int32) (a1 : Int32) : Option (Int32) :=
  am_ck (!(a1 == 0)) (
  if 0 ≤ (a0 ^^^ a1) then (
    some (a0 / a1))
  else (
    if ((a0 / a1) * a1) = a0 then (
      some (a0 / a1))
    else (
      some ((a0 / a1) - 1))))
set_option maxRecDepth 100000 in
set_option maxHeartbeats 4000000 in
theorem s_J9_floorDiv_7cf53 {l : Launch} {g : am_G} {B : am_M} {pl : Nat} (hL : am_Lay B pl) (a0 : Int32) (a1 : Int32)  (u : am_U) : am_E l g d_J9_floorDiv_7cf53 0 (am_ent d_J9_floorDiv_7cf53 [.int (a0), .int (a1)]) [] (am_of B u) (am_r (am_bP B u) (f_J9_floorDiv_7cf53 a0 a1)) := by
  unfold f_J9_floorDiv_7cf53
  show am_E l g d_J9_floorDiv_7cf53 0 [some (.int (a0)), some (.int (a1)), none] [] (am_of B u) _
  refine e_iload_n dJ9_floorDiv_7cf53_0 rfl ?_
  refine e_iload_n dJ9_floorDiv_7cf53_1 rfl ?_
  refine e_divq dJ9_floorDiv_7cf53_2 ?_
  refine e_istore_n dJ9_floorDiv_7cf53_3 (by decide) (LS1 := [_, _, _]) rfl ?_
  refine e_iload_n dJ9_floorDiv_7cf53_4 rfl ?_
  refine e_iload_n dJ9_floorDiv_7cf53_5 rfl ?_
  refine e_ixor dJ9_floorDiv_7cf53_6 ?_
  refine e_if_ge dJ9_floorDiv_7cf53_7 (tgt := 21) (by decide) ?_ ?_
  · refine e_iload_n dJ9_floorDiv_7cf53_21 rfl ?_
    exact e_iret dJ9_floorDiv_7cf53_22 rfl rfl
  · refine e_iload_n dJ9_floorDiv_7cf53_10 rfl ?_
    refine e_iload_n dJ9_floorDiv_7cf53_11 rfl ?_
    refine e_imul dJ9_floorDiv_7cf53_12 ?_
    refine e_iload_n dJ9_floorDiv_7cf53_13 rfl ?_
    refine e_if2_eq dJ9_floorDiv_7cf53_14 (tgt := 21) (by decide) ?_ ?_
    · refine e_iload_n dJ9_floorDiv_7cf53_21 rfl ?_
      exact e_iret dJ9_floorDiv_7cf53_22 rfl rfl
    · refine e_iload_n dJ9_floorDiv_7cf53_17 rfl ?_
      refine e_iconst dJ9_floorDiv_7cf53_18 (v := 1) (by decide) ?_
      refine e_isub dJ9_floorDiv_7cf53_19 ?_
      exact e_iret dJ9_floorDiv_7cf53_20 rfl rfl

def f_J9_floorMod_7cf53 (a0 : Int32) (a1 : Int32) : Option (Int32) :=
  am_ck (!(a1 == 0)) (
  if 0 ≤ (a0 ^^^ a1) then (
    some (a0 - a0 / a1 * a1))
  else (
    if (a0 - a0 / a1 * a1) = 0 then (
      some (a0 - a0 / a1 * a1))
    else (
      some ((a0 - a0 / a1 * a1) + a1))))
set_option maxRecDepth 100000 in
set_option maxHeartbeats 4000000 in
theorem s_J9_floorMod_7cf53 {l : Launch} {g : am_G} {B : am_M} {pl : Nat} (hL : am_Lay B pl) (a0 : Int32) (a1 : Int32)  (u : am_U) : am_E l g d_J9_floorMod_7cf53 0 (am_ent d_J9_floorMod_7cf53 [.int (a0), .int (a1)]) [] (am_of B u) (am_r (am_bP B u) (f_J9_floorMod_7cf53 a0 a1)) := by
  unfold f_J9_floorMod_7cf53
  show am_E l g d_J9_floorMod_7cf53 0 [some (.int (a0)), some (.int (a1)), none] [] (am_of B u) _
  refine e_iload_n dJ9_floorMod_7cf53_0 rfl ?_
  refine e_iload_n dJ9_floorMod_7cf53_1 rfl ?_
  refine e_remq dJ9_floorMod_7cf53_2 ?_
  refine e_istore_n dJ9_floorMod_7cf53_3 (by decide) (LS1 := [_, _, _]) rfl ?_
  refine e_iload_n dJ9_floorMod_7cf53_4 rfl ?_
  refine e_iload_n dJ9_floorMod_7cf53_5 rfl ?_
  refine e_ixor dJ9_floorMod_7cf53_6 ?_
  refine e_if_ge dJ9_floorMod_7cf53_7 (tgt := 18) (by decide) ?_ ?_
  · refine e_iload_n dJ9_floorMod_7cf53_18 rfl ?_
    exact e_iret dJ9_floorMod_7cf53_19 rfl rfl
  · refine e_iload_n dJ9_floorMod_7cf53_10 rfl ?_
    refine e_if_eq dJ9_floorMod_7cf53_11 (tgt := 18) (by decide) ?_ ?_
    · refine e_iload_n dJ9_floorMod_7cf53_18 rfl ?_
      exact e_iret dJ9_floorMod_7cf53_19 rfl rfl
    · refine e_iload_n dJ9_floorMod_7cf53_14 rfl ?_
      refine e_iload_n dJ9_floorMod_7cf53_15 rfl ?_
      refine e_iadd dJ9_floorMod_7cf53_16 ?_
      exact e_iret dJ9_floorMod_7cf53_17 rfl rfl

def f_J9_max_7cf53 (a0 : Int32) (a1 : Int32) : Option (Int32) :=
  if a0 < a1 then (
    some a1)
  else (
    some a0)
set_option maxRecDepth 100000 in
set_option maxHeartbeats 4000000 in
theorem s_J9_max_7cf53 {l : Launch} {g : am_G} {B : am_M} {pl : Nat} (hL : am_Lay B pl) (a0 : Int32) (a1 : Int32)  (u : am_U) : am_E l g d_J9_max_7cf53 0 (am_ent d_J9_max_7cf53 [.int (a0), .int (a1)]) [] (am_of B u) (am_r (am_bP B u) (f_J9_max_7cf53 a0 a1)) := by
  unfold f_J9_max_7cf53
  show am_E l g d_J9_max_7cf53 0 [some (.int (a0)), some (.int (a1))] [] (am_of B u) _
  refine e_iload_n dJ9_max_7cf53_0 rfl ?_
  refine e_iload_n dJ9_max_7cf53_1 rfl ?_
  refine e_if2_lt dJ9_max_7cf53_2 (tgt := 9) (by decide) ?_ ?_
  · refine e_iload_n dJ9_max_7cf53_9 rfl ?_
    exact e_iret dJ9_max_7cf53_10 rfl rfl
  · refine e_iload_n dJ9_max_7cf53_5 rfl ?_
    refine e_goto dJ9_max_7cf53_6 (tgt := 10) (by decide) ?_
    exact e_iret dJ9_max_7cf53_10 rfl rfl

def f_J9_min_7cf53 (a0 : Int32) (a1 : Int32) : Option (Int32) :=
  if a1 < a0 then (
    some a1)
  else (
    some a0)
set_option maxRecDepth 100000 in
set_option maxHeartbeats 4000000 in
theorem s_J9_min_7cf53 {l : Launch} {g : am_G} {B : am_M} {pl : Nat} (hL : am_Lay B pl) (a0 : Int32) (a1 : Int32)  (u : am_U) : am_E l g d_J9_min_7cf53 0 (am_ent d_J9_min_7cf53 [.int (a0), .int (a1)]) [] (am_of B u) (am_r (am_bP B u) (f_J9_min_7cf53 a0 a1)) := by
  unfold f_J9_min_7cf53
  show am_E l g d_J9_min_7cf53 0 [some (.int (a0)), some (.int (a1))] [] (am_of B u) _
  refine e_iload_n dJ9_min_7cf53_0 rfl ?_
  refine e_iload_n dJ9_min_7cf53_1 rfl ?_
  refine e_if2_gt dJ9_min_7cf53_2 (tgt := 9) (by decide) ?_ ?_
  · refine e_iload_n dJ9_min_7cf53_9 rfl ?_
    exact e_iret dJ9_min_7cf53_10 rfl rfl
  · refine e_iload_n dJ9_min_7cf53_5 rfl ?_
    refine e_goto dJ9_min_7cf53_6 (tgt := 10) (by decide) ?_
    exact e_iret dJ9_min_7cf53_10 rfl rfl

def f_X0_add (a1 : Int32) (a2 : Int32) (u : am_U) : Option (Int32 × am_U) :=
  am_ck (am_ix (u 21 4) 8) (
  let u1 : am_U := am_w u 22 (u 21 4).toNatClampNeg a1
  am_ck (am_ix (u1 21 4) 8) (
  let u3 : am_U := am_w u1 23 (u1 21 4).toNatClampNeg a2
  let u5 : am_U := am_w u3 21 4 ((u3 21 4) + 1)
  some ((u5 21 4) - 1, u5)))
set_option maxRecDepth 100000 in
set_option maxHeartbeats 4000000 in
theorem s_X0_add {l : Launch} {g : am_G} {B : am_M} {pl : Nat} (hL : am_Lay B pl) (a1 : Int32) (a2 : Int32)  (u : am_U) : am_E l g d_X0_add 0 (am_ent d_X0_add [.ref (21), .int (a1), .int (a2)]) [] (am_of B u) (am_r (am_bI B) (f_X0_add a1 a2 u)) := by
  unfold f_X0_add
  show am_E l g d_X0_add 0 [some (.ref (21)), some (.int (a1)), some (.int (a2))] [] (am_of B u) _
  refine e_aload_n dX0_add_0 rfl ?_
  refine q_getR (r := 22) dX0_add_1 lf_Burnings_9 rfl (by decide) (am_Lk hL rfl) (am_Lr hL rfl) ?_
  refine e_aload_n dX0_add_4 rfl ?_
  refine q_getI dX0_add_5 lf_Burnings_24 (by decide) (am_Lk hL rfl) ?_
  refine e_iload_n dX0_add_8 rfl ?_
  refine q_iastH dX0_add_9 (am_Ls hL rfl) (fun i2 => ?_)
  refine e_aload_n dX0_add_10 rfl ?_
  refine q_getR (r := 23) dX0_add_11 lf_Burnings_15 rfl (by decide) (am_Lk hL rfl) (am_Lr hL rfl) ?_
  refine e_aload_n dX0_add_14 rfl ?_
  refine q_getI dX0_add_15 lf_Burnings_24 (by decide) (am_Lk hL rfl) ?_
  refine e_iload_n dX0_add_18 rfl ?_
  refine q_iastH dX0_add_19 (am_Ls hL rfl) (fun i4 => ?_)
  refine e_aload_n dX0_add_20 rfl ?_
  refine e_dup dX0_add_21 rfl ?_
  refine q_getI dX0_add_22 lf_Burnings_24 (by decide) (am_Lk hL rfl) ?_
  refine e_iconst dX0_add_25 (v := 1) (by decide) ?_
  refine e_iadd dX0_add_26 ?_
  refine q_putI dX0_add_27 lf_Burnings_24 rfl (by decide) (am_Lk hL rfl) ?_
  refine e_aload_n dX0_add_30 rfl ?_
  refine q_getI dX0_add_31 lf_Burnings_24 (by decide) (am_Lk hL rfl) ?_
  refine e_iconst dX0_add_34 (v := 1) (by decide) ?_
  refine e_isub dX0_add_35 ?_
  exact e_iret dX0_add_36 rfl rfl

def f_X0_burningTime_5 (u : am_U) (v0 : Int32) (v1 : Int32) (v2 : Nat) : Nat → Int32 → Int32 → Option (Int32)
  | 0, _, _ => none
  | n + 1, v3, v4 =>
    if (u v2 2) ≤ v4 then (
      some v3)
    else (
      if ¬ ((v0 >>> (v4 &&& 31)) &&& 1) = 1 then (
        f_X0_burningTime_5 u v0 v1 v2 n v3 (v4 + 1))
      else (
        if ¬ ((v1 >>> (v4 &&& 31)) &&& 1) = 1 then (
          am_ck (am_ix v4 6) (
          let x2 : Int32 := v3 + (u (v2 + 4) v4.toNatClampNeg)
          f_X0_burningTime_5 u v0 v1 v2 n x2 (v4 + 1)))
        else (
          am_ck (am_ix v4 6) (
          let x4 : Int32 := v3 + ((u (v2 + 4) v4.toNatClampNeg) / 2)
          f_X0_burningTime_5 u v0 v1 v2 n x4 (v4 + 1)))))
def f_X0_burningTime (a0 : Int32) (a1 : Int32) (a2 : Nat) (u : am_U) : Option (Int32) :=
  f_X0_burningTime_5 u a0 a1 a2 20000 0 0
set_option maxRecDepth 100000 in
set_option maxHeartbeats 4000000 in
theorem s_X0_burningTime_5 {l : Launch} {g : am_G} {B : am_M} {pl : Nat} (hL : am_Lay B pl) (u : am_U) (v0 : Int32) (v1 : Int32) (v2 : Nat) (hv2 : am_isPlan B v2)   : ∀ (n : Nat) (v3 : Int32) (v4 : Int32), am_E l g d_X0_burningTime 5 [some (.int (v0)), some (.int (v1)), some (.ref (v2)), some (.int (v3)), some (.int (v4))] [] (am_of B u) (am_r (am_bP B u) (f_X0_burningTime_5 u v0 v1 v2 n v3 v4)) := by
  intro n
  induction n with
  | zero => intro v3 v4; exact am_none
  | succ n ih =>
    intro v3 v4
    unfold f_X0_burningTime_5
    refine e_iload dX0_burningTime_5 rfl ?_
    refine e_aload_n dX0_burningTime_7 rfl ?_
    refine q_getI dX0_burningTime_8 lf_Burnings_31 (by decide) (congrArg Prod.fst hv2.1) ?_
    refine e_if2_ge dX0_burningTime_11 (tgt := 62) (by decide) ?_ ?_
    · refine e_iload_n dX0_burningTime_62 rfl ?_
      exact e_iret dX0_burningTime_63 rfl rfl
    · refine e_iload_n dX0_burningTime_14 rfl ?_
      refine e_iload dX0_burningTime_15 rfl ?_
      refine e_ishr dX0_burningTime_17 ?_
      refine e_iconst dX0_burningTime_18 (v := 1) (by decide) ?_
      refine e_iand dX0_burningTime_19 ?_
      refine e_iconst dX0_burningTime_20 (v := 1) (by decide) ?_
      refine e_if2_ne dX0_burningTime_21 (tgt := 56) (by decide) ?_ ?_
      · refine e_iinc dX0_burningTime_56 rfl (v := _ + 1) rfl (by decide) (LS1 := [_, _, _, _, _]) rfl ?_
        refine e_goto dX0_burningTime_59 (tgt := 5) (by decide) ?_
        exact ih v3 (v4 + 1)
      · refine e_iload_n dX0_burningTime_24 rfl ?_
        refine e_iload_n dX0_burningTime_25 rfl ?_
        refine e_iload dX0_burningTime_26 rfl ?_
        refine e_ishr dX0_burningTime_28 ?_
        refine e_iconst dX0_burningTime_29 (v := 1) (by decide) ?_
        refine e_iand dX0_burningTime_30 ?_
        refine e_iconst dX0_burningTime_31 (v := 1) (by decide) ?_
        refine e_if2_ne dX0_burningTime_32 (tgt := 47) (by decide) ?_ ?_
        · refine e_aload_n dX0_burningTime_47 rfl ?_
          refine q_getR (r := v2 + 4) dX0_burningTime_48 lf_Burnings_66 rfl (by decide) (congrArg Prod.fst hv2.1) (am_avs hv2.2.1.2.2.2) ?_
          refine e_iload dX0_burningTime_51 rfl ?_
          refine q_ialdH dX0_burningTime_53 hv2.2.2.2.2.2 (fun i1 => ?_)
          refine e_iadd dX0_burningTime_54 ?_
          refine e_istore_n dX0_burningTime_55 (by decide) (LS1 := [_, _, _, _, _]) rfl ?_
          refine e_iinc dX0_burningTime_56 rfl (v := _ + 1) rfl (by decide) (LS1 := [_, _, _, _, _]) rfl ?_
          refine e_goto dX0_burningTime_59 (tgt := 5) (by decide) ?_
          exact ih (v3 + (u (v2 + 4) v4.toNatClampNeg)) (v4 + 1)
        · refine e_aload_n dX0_burningTime_35 rfl ?_
          refine q_getR (r := v2 + 4) dX0_burningTime_36 lf_Burnings_66 rfl (by decide) (congrArg Prod.fst hv2.1) (am_avs hv2.2.1.2.2.2) ?_
          refine e_iload dX0_burningTime_39 rfl ?_
          refine q_ialdH dX0_burningTime_41 hv2.2.2.2.2.2 (fun i3 => ?_)
          refine e_iconst dX0_burningTime_42 (v := 2) (by decide) ?_
          refine e_idiv dX0_burningTime_43 (by decide) ?_
          refine e_goto dX0_burningTime_44 (tgt := 54) (by decide) ?_
          refine e_iadd dX0_burningTime_54 ?_
          refine e_istore_n dX0_burningTime_55 (by decide) (LS1 := [_, _, _, _, _]) rfl ?_
          refine e_iinc dX0_burningTime_56 rfl (v := _ + 1) rfl (by decide) (LS1 := [_, _, _, _, _]) rfl ?_
          refine e_goto dX0_burningTime_59 (tgt := 5) (by decide) ?_
          exact ih (v3 + ((u (v2 + 4) v4.toNatClampNeg) / 2)) (v4 + 1)

set_option maxRecDepth 100000 in
set_option maxHeartbeats 4000000 in
theorem s_X0_burningTime {l : Launch} {g : am_G} {B : am_M} {pl : Nat} (hL : am_Lay B pl) (a0 : Int32) (a1 : Int32) (a2 : Nat) (h2 : am_isPlan B a2) (u : am_U) : am_E l g d_X0_burningTime 0 (am_ent d_X0_burningTime [.int (a0), .int (a1), .ref (a2)]) [] (am_of B u) (am_r (am_bP B u) (f_X0_burningTime a0 a1 a2 u)) := by
  unfold f_X0_burningTime
  show am_E l g d_X0_burningTime 0 [some (.int (a0)), some (.int (a1)), some (.ref (a2)), none, none] [] (am_of B u) _
  refine e_iconst dX0_burningTime_0 (v := 0) (by decide) ?_
  refine e_istore_n dX0_burningTime_1 (by decide) (LS1 := [_, _, _, _, none]) rfl ?_
  refine e_iconst dX0_burningTime_2 (v := 0) (by decide) ?_
  refine e_istore dX0_burningTime_3 (by decide) (LS1 := [_, _, _, _, _]) rfl ?_
  refine s_X0_burningTime_5 hL _ _ _ _ h2 _ _ _

def f_X0_inAll_9 (u : am_U) : Nat → Int32 → Int32 → Option (Int32)
  | 0, _, _ => none
  | n + 1, v1, v2 =>
    if (u 21 5) ≤ v2 then (
      some v1)
    else (
      am_ck (am_ix v2 64) (
      let x2 : Int32 := v1 &&& (u 24 v2.toNatClampNeg)
      f_X0_inAll_9 u n x2 (v2 + 1)))
def f_X0_inAll (u : am_U) : Option (Int32) :=
  f_X0_inAll_9 u 20000 (u 24 0) 1
set_option maxRecDepth 100000 in
set_option maxHeartbeats 4000000 in
theorem s_X0_inAll_9 {l : Launch} {g : am_G} {B : am_M} {pl : Nat} (hL : am_Lay B pl) (u : am_U)     : ∀ (n : Nat) (v1 : Int32) (v2 : Int32), am_E l g d_X0_inAll 9 [some (.ref (21)), some (.int (v1)), some (.int (v2))] [] (am_of B u) (am_r (am_bP B u) (f_X0_inAll_9 u n v1 v2)) := by
  intro n
  induction n with
  | zero => intro v1 v2; exact am_none
  | succ n ih =>
    intro v1 v2
    unfold f_X0_inAll_9
    refine e_iload_n dX0_inAll_9 rfl ?_
    refine e_aload_n dX0_inAll_10 rfl ?_
    refine q_getI dX0_inAll_11 lf_Burnings_28 (by decide) (am_Lk hL rfl) ?_
    refine e_if2_ge dX0_inAll_14 (tgt := 32) (by decide) ?_ ?_
    · refine e_iload_n dX0_inAll_32 rfl ?_
      exact e_iret dX0_inAll_33 rfl rfl
    · refine e_iload_n dX0_inAll_17 rfl ?_
      refine e_aload_n dX0_inAll_18 rfl ?_
      refine q_getR (r := 24) dX0_inAll_19 lf_Burnings_18 rfl (by decide) (am_Lk hL rfl) (am_Lr hL rfl) ?_
      refine e_iload_n dX0_inAll_22 rfl ?_
      refine q_ialdH dX0_inAll_23 (am_Ls hL rfl) (fun i1 => ?_)
      refine e_iand dX0_inAll_24 ?_
      refine e_istore_n dX0_inAll_25 (by decide) (LS1 := [_, _, _]) rfl ?_
      refine e_iinc dX0_inAll_26 rfl (v := _ + 1) rfl (by decide) (LS1 := [_, _, _]) rfl ?_
      refine e_goto dX0_inAll_29 (tgt := 9) (by decide) ?_
      exact ih (v1 &&& (u 24 v2.toNatClampNeg)) (v2 + 1)

set_option maxRecDepth 100000 in
set_option maxHeartbeats 4000000 in
theorem s_X0_inAll {l : Launch} {g : am_G} {B : am_M} {pl : Nat} (hL : am_Lay B pl)   (u : am_U) : am_E l g d_X0_inAll 0 (am_ent d_X0_inAll [.ref (21)]) [] (am_of B u) (am_r (am_bP B u) (f_X0_inAll u)) := by
  unfold f_X0_inAll
  show am_E l g d_X0_inAll 0 [some (.ref (21)), none, none] [] (am_of B u) _
  refine e_aload_n dX0_inAll_0 rfl ?_
  refine q_getR (r := 24) dX0_inAll_1 lf_Burnings_18 rfl (by decide) (am_Lk hL rfl) (am_Lr hL rfl) ?_
  refine e_iconst dX0_inAll_4 (v := 0) (by decide) ?_
  refine q_ialdC (jn := 0) dX0_inAll_5 (am_Ls hL rfl) (by decide) (by decide) ?_
  refine e_istore_n dX0_inAll_6 (by decide) (LS1 := [_, _, none]) rfl ?_
  refine e_iconst dX0_inAll_7 (v := 1) (by decide) ?_
  refine e_istore_n dX0_inAll_8 (by decide) (LS1 := [_, _, _]) rfl ?_
  refine s_X0_inAll_9 hL _  _ _ _

def f_X0_inAny_4 (u : am_U) : Nat → Int32 → Int32 → Option (Int32)
  | 0, _, _ => none
  | n + 1, v1, v2 =>
    if (u 21 5) ≤ v2 then (
      some v1)
    else (
      am_ck (am_ix v2 64) (
      let x2 : Int32 := v1 ||| (u 24 v2.toNatClampNeg)
      f_X0_inAny_4 u n x2 (v2 + 1)))
def f_X0_inAny (u : am_U) : Option (Int32) :=
  f_X0_inAny_4 u 20000 0 0
set_option maxRecDepth 100000 in
set_option maxHeartbeats 4000000 in
theorem s_X0_inAny_4 {l : Launch} {g : am_G} {B : am_M} {pl : Nat} (hL : am_Lay B pl) (u : am_U)     : ∀ (n : Nat) (v1 : Int32) (v2 : Int32), am_E l g d_X0_inAny 4 [some (.ref (21)), some (.int (v1)), some (.int (v2))] [] (am_of B u) (am_r (am_bP B u) (f_X0_inAny_4 u n v1 v2)) := by
  intro n
  induction n with
  | zero => intro v1 v2; exact am_none
  | succ n ih =>
    intro v1 v2
    unfold f_X0_inAny_4
    refine e_iload_n dX0_inAny_4 rfl ?_
    refine e_aload_n dX0_inAny_5 rfl ?_
    refine q_getI dX0_inAny_6 lf_Burnings_28 (by decide) (am_Lk hL rfl) ?_
    refine e_if2_ge dX0_inAny_9 (tgt := 27) (by decide) ?_ ?_
    · refine e_iload_n dX0_inAny_27 rfl ?_
      exact e_iret dX0_inAny_28 rfl rfl
    · refine e_iload_n dX0_inAny_12 rfl ?_
      refine e_aload_n dX0_inAny_13 rfl ?_
      refine q_getR (r := 24) dX0_inAny_14 lf_Burnings_18 rfl (by decide) (am_Lk hL rfl) (am_Lr hL rfl) ?_
      refine e_iload_n dX0_inAny_17 rfl ?_
      refine q_ialdH dX0_inAny_18 (am_Ls hL rfl) (fun i1 => ?_)
      refine e_ior dX0_inAny_19 ?_
      refine e_istore_n dX0_inAny_20 (by decide) (LS1 := [_, _, _]) rfl ?_
      refine e_iinc dX0_inAny_21 rfl (v := _ + 1) rfl (by decide) (LS1 := [_, _, _]) rfl ?_
      refine e_goto dX0_inAny_24 (tgt := 4) (by decide) ?_
      exact ih (v1 ||| (u 24 v2.toNatClampNeg)) (v2 + 1)

set_option maxRecDepth 100000 in
set_option maxHeartbeats 4000000 in
theorem s_X0_inAny {l : Launch} {g : am_G} {B : am_M} {pl : Nat} (hL : am_Lay B pl)   (u : am_U) : am_E l g d_X0_inAny 0 (am_ent d_X0_inAny [.ref (21)]) [] (am_of B u) (am_r (am_bP B u) (f_X0_inAny u)) := by
  unfold f_X0_inAny
  show am_E l g d_X0_inAny 0 [some (.ref (21)), none, none] [] (am_of B u) _
  refine e_iconst dX0_inAny_0 (v := 0) (by decide) ?_
  refine e_istore_n dX0_inAny_1 (by decide) (LS1 := [_, _, none]) rfl ?_
  refine e_iconst dX0_inAny_2 (v := 0) (by decide) ?_
  refine e_istore_n dX0_inAny_3 (by decide) (LS1 := [_, _, _]) rfl ?_
  refine s_X0_inAny_4 hL _  _ _ _

def f_X10_allLight_4 (pl : Nat) (u : am_U) : Nat → Int32 → Int32 → Option (Int32)
  | 0, _, _ => none
  | n + 1, v1, v2 =>
    if (u pl 2) ≤ v2 then (
      some v1)
    else (
      am_ck (am_ix v2 6) (
      let x2 : Int32 := v1 + (u 9 v2.toNatClampNeg)
      f_X10_allLight_4 pl u n x2 (v2 + 1)))
def f_X10_allLight (pl : Nat) (u : am_U) : Option (Int32) :=
  f_X10_allLight_4 pl u 20000 0 0
set_option maxRecDepth 100000 in
set_option maxHeartbeats 4000000 in
theorem s_X10_allLight_4 {l : Launch} {g : am_G} {B : am_M} {pl : Nat} (hL : am_Lay B pl) (u : am_U)     : ∀ (n : Nat) (v1 : Int32) (v2 : Int32), am_E l g d_X10_allLight 4 [some (.ref (4)), some (.int (v1)), some (.int (v2))] [] (am_of B u) (am_r (am_bP B u) (f_X10_allLight_4 pl u n v1 v2)) := by
  intro n
  induction n with
  | zero => intro v1 v2; exact am_none
  | succ n ih =>
    intro v1 v2
    unfold f_X10_allLight_4
    refine e_iload_n dX10_allLight_4 rfl ?_
    refine e_aload_n dX10_allLight_5 rfl ?_
    refine q_getR (r := pl) dX10_allLight_6 lf_N_72 rfl (by decide) (am_Lk hL rfl) (am_Lpl hL) ?_
    refine q_getI dX10_allLight_9 lf_N_144 (by decide) (congrArg Prod.fst (am_pln hL).1) ?_
    refine e_if2_ge dX10_allLight_12 (tgt := 33) (by decide) ?_ ?_
    · refine e_iload_n dX10_allLight_33 rfl ?_
      exact e_iret dX10_allLight_34 rfl rfl
    · refine e_iload_n dX10_allLight_15 rfl ?_
      refine e_aload_n dX10_allLight_16 rfl ?_
      refine q_getR (r := 8) dX10_allLight_17 lf_N_28 rfl (by decide) (am_Lk hL rfl) (am_Lr hL rfl) ?_
      refine q_getR (r := 9) dX10_allLight_20 lf_N_162 rfl (by decide) (am_Lk hL rfl) (am_Lr hL rfl) ?_
      refine e_iload_n dX10_allLight_23 rfl ?_
      refine q_ialdH dX10_allLight_24 (am_Ls hL rfl) (fun i1 => ?_)
      refine e_iadd dX10_allLight_25 ?_
      refine e_istore_n dX10_allLight_26 (by decide) (LS1 := [_, _, _]) rfl ?_
      refine e_iinc dX10_allLight_27 rfl (v := _ + 1) rfl (by decide) (LS1 := [_, _, _]) rfl ?_
      refine e_goto dX10_allLight_30 (tgt := 4) (by decide) ?_
      exact ih (v1 + (u 9 v2.toNatClampNeg)) (v2 + 1)

set_option maxRecDepth 100000 in
set_option maxHeartbeats 4000000 in
theorem s_X10_allLight {l : Launch} {g : am_G} {B : am_M} {pl : Nat} (hL : am_Lay B pl)   (u : am_U) : am_E l g d_X10_allLight 0 (am_ent d_X10_allLight [.ref (4)]) [] (am_of B u) (am_r (am_bP B u) (f_X10_allLight pl u)) := by
  unfold f_X10_allLight
  show am_E l g d_X10_allLight 0 [some (.ref (4)), none, none] [] (am_of B u) _
  refine e_iconst dX10_allLight_0 (v := 0) (by decide) ?_
  refine e_istore_n dX10_allLight_1 (by decide) (LS1 := [_, _, none]) rfl ?_
  refine e_iconst dX10_allLight_2 (v := 0) (by decide) ?_
  refine e_istore_n dX10_allLight_3 (by decide) (LS1 := [_, _, _]) rfl ?_
  refine s_X10_allLight_4 hL _  _ _ _

def f_X10_asked (u : am_U) : Option (Int32) :=
  some (u 4 13)
set_option maxRecDepth 100000 in
set_option maxHeartbeats 4000000 in
theorem s_X10_asked {l : Launch} {g : am_G} {B : am_M} {pl : Nat} (hL : am_Lay B pl)   (u : am_U) : am_E l g d_X10_asked 0 (am_ent d_X10_asked [.ref (4)]) [] (am_of B u) (am_r (am_bP B u) (f_X10_asked u)) := by
  unfold f_X10_asked
  show am_E l g d_X10_asked 0 [some (.ref (4))] [] (am_of B u) _
  refine e_aload_n dX10_asked_0 rfl ?_
  refine q_getI dX10_asked_1 lf_N_339 (by decide) (am_Lk hL rfl) ?_
  exact e_iret dX10_asked_4 rfl rfl

def f_X10_commonDivisor_2 (v0 : Int32) (v1 : Int32) : Nat → Int32 → Option (Int32)
  | 0, _ => none
  | n + 1, v2 =>
    if v2 ≤ 1 then (
      some 1)
    else (
      am_ck (!(v2 == 0)) (
      if ¬ (v0 - v0 / v2 * v2) = 0 then (
        f_X10_commonDivisor_2 v0 v1 n (v2 + (-1)))
      else (
        am_ck (!(v2 == 0)) (
        if ¬ (v1 - v1 / v2 * v2) = 0 then (
          f_X10_commonDivisor_2 v0 v1 n (v2 + (-1)))
        else (
          some v2)))))
def f_X10_commonDivisor (a0 : Int32) (a1 : Int32) : Option (Int32) :=
  f_X10_commonDivisor_2 a0 a1 20000 a1
set_option maxRecDepth 100000 in
set_option maxHeartbeats 4000000 in
theorem s_X10_commonDivisor_2 {l : Launch} {g : am_G} {B : am_M} {pl : Nat} (hL : am_Lay B pl) (u : am_U) (v0 : Int32) (v1 : Int32)    : ∀ (n : Nat) (v2 : Int32), am_E l g d_X10_commonDivisor 2 [some (.int (v0)), some (.int (v1)), some (.int (v2))] [] (am_of B u) (am_r (am_bP B u) (f_X10_commonDivisor_2 v0 v1 n v2)) := by
  intro n
  induction n with
  | zero => intro v2; exact am_none
  | succ n ih =>
    intro v2
    unfold f_X10_commonDivisor_2
    refine e_iload_n dX10_commonDivisor_2 rfl ?_
    refine e_iconst dX10_commonDivisor_3 (v := 1) (by decide) ?_
    refine e_if2_le dX10_commonDivisor_4 (tgt := 27) (by decide) ?_ ?_
    · refine e_iconst dX10_commonDivisor_27 (v := 1) (by decide) ?_
      exact e_iret dX10_commonDivisor_28 rfl rfl
    · refine e_iload_n dX10_commonDivisor_7 rfl ?_
      refine e_iload_n dX10_commonDivisor_8 rfl ?_
      refine e_remq dX10_commonDivisor_9 ?_
      refine e_if_ne dX10_commonDivisor_10 (tgt := 21) (by decide) ?_ ?_
      · refine e_iinc dX10_commonDivisor_21 rfl (v := _ + (-1)) rfl (by decide) (LS1 := [_, _, _]) rfl ?_
        refine e_goto dX10_commonDivisor_24 (tgt := 2) (by decide) ?_
        exact ih (v2 + (-1))
      · refine e_iload_n dX10_commonDivisor_13 rfl ?_
        refine e_iload_n dX10_commonDivisor_14 rfl ?_
        refine e_remq dX10_commonDivisor_15 ?_
        refine e_if_ne dX10_commonDivisor_16 (tgt := 21) (by decide) ?_ ?_
        · refine e_iinc dX10_commonDivisor_21 rfl (v := _ + (-1)) rfl (by decide) (LS1 := [_, _, _]) rfl ?_
          refine e_goto dX10_commonDivisor_24 (tgt := 2) (by decide) ?_
          exact ih (v2 + (-1))
        · refine e_iload_n dX10_commonDivisor_19 rfl ?_
          exact e_iret dX10_commonDivisor_20 rfl rfl

set_option maxRecDepth 100000 in
set_option maxHeartbeats 4000000 in
theorem s_X10_commonDivisor {l : Launch} {g : am_G} {B : am_M} {pl : Nat} (hL : am_Lay B pl) (a0 : Int32) (a1 : Int32)  (u : am_U) : am_E l g d_X10_commonDivisor 0 (am_ent d_X10_commonDivisor [.int (a0), .int (a1)]) [] (am_of B u) (am_r (am_bP B u) (f_X10_commonDivisor a0 a1)) := by
  unfold f_X10_commonDivisor
  show am_E l g d_X10_commonDivisor 0 [some (.int (a0)), some (.int (a1)), none] [] (am_of B u) _
  refine e_iload_n dX10_commonDivisor_0 rfl ?_
  refine e_istore_n dX10_commonDivisor_1 (by decide) (LS1 := [_, _, _]) rfl ?_
  refine s_X10_commonDivisor_2 hL _ _ _ _ _

def f_X10_countDark_4 (pl : Nat) : Nat → Int32 → Int32 → am_U → Option (Int32 × am_U)
  | 0, _, _, _ => none
  | n + 1, v1, v2, u =>
    if 5 ≤ v2 then (
      some (v1, u))
    else (
      am_ck (am_ix v2 5) (
      if (u (pl + 2) v2.toNatClampNeg) ≤ (u 12 v2.toNatClampNeg) then (
        f_X10_countDark_4 pl n v1 (v2 + 1) u)
      else (
        let u2 : am_U := am_w u 13 v2.toNatClampNeg ((u 13 v2.toNatClampNeg) + 1)
        f_X10_countDark_4 pl n (v1 + 1) (v2 + 1) u2)))
def f_X10_countDark (pl : Nat) (u : am_U) : Option (Int32 × am_U) :=
  f_X10_countDark_4 pl 20000 0 1 u
set_option maxRecDepth 100000 in
set_option maxHeartbeats 4000000 in
theorem s_X10_countDark_4 {l : Launch} {g : am_G} {B : am_M} {pl : Nat} (hL : am_Lay B pl)     : ∀ (n : Nat) (v1 : Int32) (v2 : Int32) (u : am_U), am_E l g d_X10_countDark 4 [some (.ref (4)), some (.int (v1)), some (.int (v2))] [] (am_of B u) (am_r (am_bI B) (f_X10_countDark_4 pl n v1 v2 u)) := by
  intro n
  induction n with
  | zero => intro v1 v2 u; exact am_none
  | succ n ih =>
    intro v1 v2 u
    unfold f_X10_countDark_4
    refine e_iload_n dX10_countDark_4 rfl ?_
    refine e_iconst dX10_countDark_5 (v := 5) (by decide) ?_
    refine e_if2_ge dX10_countDark_6 (tgt := 52) (by decide) ?_ ?_
    · refine e_iload_n dX10_countDark_52 rfl ?_
      exact e_iret dX10_countDark_53 rfl rfl
    · refine e_aload_n dX10_countDark_9 rfl ?_
      refine q_getR (r := 8) dX10_countDark_10 lf_N_28 rfl (by decide) (am_Lk hL rfl) (am_Lr hL rfl) ?_
      refine q_getR (r := 12) dX10_countDark_13 lf_N_212 rfl (by decide) (am_Lk hL rfl) (am_Lr hL rfl) ?_
      refine e_iload_n dX10_countDark_16 rfl ?_
      refine q_ialdH dX10_countDark_17 (am_Ls hL rfl) (fun i1 => ?_)
      refine e_aload_n dX10_countDark_18 rfl ?_
      refine q_getR (r := pl) dX10_countDark_19 lf_N_72 rfl (by decide) (am_Lk hL rfl) (am_Lpl hL) ?_
      refine q_getR (r := pl + 2) dX10_countDark_22 lf_N_262 rfl (by decide) (congrArg Prod.fst (am_pln hL).1) (am_avs (am_pln hL).2.1.2.1) ?_
      refine e_iload_n dX10_countDark_25 rfl ?_
      refine q_ialdC (jn := _) dX10_countDark_26 (am_pln hL).2.2.2.1 i1 rfl ?_
      refine e_if2_ge dX10_countDark_27 (tgt := 46) (by decide) ?_ ?_
      · refine e_iinc dX10_countDark_46 rfl (v := _ + 1) rfl (by decide) (LS1 := [_, _, _]) rfl ?_
        refine e_goto dX10_countDark_49 (tgt := 4) (by decide) ?_
        exact ih v1 (v2 + 1) u
      · refine e_aload_n dX10_countDark_30 rfl ?_
        refine q_getR (r := 8) dX10_countDark_31 lf_N_28 rfl (by decide) (am_Lk hL rfl) (am_Lr hL rfl) ?_
        refine q_getR (r := 13) dX10_countDark_34 lf_N_383 rfl (by decide) (am_Lk hL rfl) (am_Lr hL rfl) ?_
        refine e_iload_n dX10_countDark_37 rfl ?_
        refine e_dup2 dX10_countDark_38 rfl rfl ?_
        refine q_ialdC (jn := _) dX10_countDark_39 (am_Ls hL rfl) i1 rfl ?_
        refine e_iconst dX10_countDark_40 (v := 1) (by decide) ?_
        refine e_iadd dX10_countDark_41 ?_
        refine q_iastC (jn := _) dX10_countDark_42 (am_Ls hL rfl) i1 rfl ?_
        refine e_iinc dX10_countDark_43 rfl (v := _ + 1) rfl (by decide) (LS1 := [_, _, _]) rfl ?_
        refine e_iinc dX10_countDark_46 rfl (v := _ + 1) rfl (by decide) (LS1 := [_, _, _]) rfl ?_
        refine e_goto dX10_countDark_49 (tgt := 4) (by decide) ?_
        exact ih (v1 + 1) (v2 + 1) (am_w u 13 v2.toNatClampNeg ((u 13 v2.toNatClampNeg) + 1))

set_option maxRecDepth 100000 in
set_option maxHeartbeats 4000000 in
theorem s_X10_countDark {l : Launch} {g : am_G} {B : am_M} {pl : Nat} (hL : am_Lay B pl)   (u : am_U) : am_E l g d_X10_countDark 0 (am_ent d_X10_countDark [.ref (4)]) [] (am_of B u) (am_r (am_bI B) (f_X10_countDark pl u)) := by
  unfold f_X10_countDark
  show am_E l g d_X10_countDark 0 [some (.ref (4)), none, none] [] (am_of B u) _
  refine e_iconst dX10_countDark_0 (v := 0) (by decide) ?_
  refine e_istore_n dX10_countDark_1 (by decide) (LS1 := [_, _, none]) rfl ?_
  refine e_iconst dX10_countDark_2 (v := 1) (by decide) ?_
  refine e_istore_n dX10_countDark_3 (by decide) (LS1 := [_, _, _]) rfl ?_
  refine s_X10_countDark_4 hL  _ _ _ _

def f_X10_digestRows_30 (u : am_U) (v2 : Nat) (v5 : Int32) (k66 : Int64 → Option (Int64)) : Nat → Int64 → Int32 → Option (Int64)
  | 0, _, _ => none
  | n + 1, v3, v6 =>
    am_ck (am_ix v5 (am_rln v2)) (
    if (u (am_rid v2 v5.toNatClampNeg) 1) ≤ v6 then (
      k66 v3)
    else (
      am_ck (am_ix v6 60) (
      f_X10_digestRows_30 u v2 v5 k66 n (((31 : Int64) * v3) + ((u ((am_rid v2 v5.toNatClampNeg) + 1) v6.toNatClampNeg).toInt64)) (v6 + 1))))
def f_X10_digestRows_5 (u : am_U) (v2 : Nat) : Nat → Int64 → Int32 → Option (Int64)
  | 0, _, _ => none
  | n + 1, v3, v5 =>
    if (nI (am_rln v2)) ≤ v5 then (
      some v3)
    else (
      am_ck (am_ix v5 (am_rln v2)) (
      f_X10_digestRows_30 u v2 v5 (fun (c5v3 : Int64) =>
        f_X10_digestRows_5 u v2 n c5v3 (v5 + 1)) 20000 (((31 : Int64) * v3) + ((u (am_rid v2 v5.toNatClampNeg) 1).toInt64)) 0))
def f_X10_digestRows (a0 : Int64) (a1 : Nat) (u : am_U) : Option (Int64) :=
  f_X10_digestRows_5 u a1 20000 a0 0
set_option maxRecDepth 100000 in
set_option maxHeartbeats 4000000 in
theorem s_X10_digestRows_30 {l : Launch} {g : am_G} {B : am_M} {pl : Nat} (hL : am_Lay B pl) (u : am_U) (v2 : Nat) (v5 : Int32) (hv2 : am_isRows B v2) (k66 : Int64 → Option (Int64)) (hk66 : ∀ (v3 : Int64), am_E l g d_X10_digestRows 66 [none, none, some (.ref (v2)), some (.long (v3)), none, some (.int (v5)), none] [] (am_of B u) (am_r (am_bN B u) (k66 v3))) : ∀ (n : Nat) (v3 : Int64) (v6 : Int32), am_E l g d_X10_digestRows 30 [none, none, some (.ref (v2)), some (.long (v3)), none, some (.int (v5)), some (.int (v6))] [] (am_of B u) (am_r (am_bN B u) (f_X10_digestRows_30 u v2 v5 k66 n v3 v6)) := by
  intro n
  induction n with
  | zero => intro v3 v6; exact am_none
  | succ n ih =>
    intro v3 v6
    unfold f_X10_digestRows_30
    refine e_iload dX10_digestRows_30 rfl ?_
    refine e_aload_n dX10_digestRows_32 rfl ?_
    refine e_iload dX10_digestRows_33 rfl ?_
    refine q_aald (n := am_rln v2) (rid := am_rid v2 v5.toNatClampNeg) dX10_digestRows_35 hv2.1 (fun h => (hv2.2 _ h).1) (fun i2 => ?_)
    refine q_getI dX10_digestRows_36 lf_N_109 (by decide) (congrArg Prod.fst (hv2.2 _ i2).2.1) ?_
    refine e_if2_ge dX10_digestRows_39 (tgt := 66) (by decide) ?_ ?_
    · refine e_msk [false, false, true, true, false, true, false] (LS1 := [none, none, _, _, none, _, none]) rfl ?_
      exact hk66 v3
    · refine e_ldc2 dX10_digestRows_42 ll_N_363 ?_
      refine e_lload_n dX10_digestRows_45 rfl ?_
      refine e_lmul dX10_digestRows_46 ?_
      refine e_aload_n dX10_digestRows_47 rfl ?_
      refine e_iload dX10_digestRows_48 rfl ?_
      refine q_aaldK (rid := am_rid v2 v5.toNatClampNeg) dX10_digestRows_50 hv2.1 i2 (hv2.2 _ i2).1 ?_
      refine q_getR (r := (am_rid v2 v5.toNatClampNeg) + 1) dX10_digestRows_51 lf_N_98 rfl (by decide) (congrArg Prod.fst (hv2.2 _ i2).2.1) (am_avs (hv2.2 _ i2).2.2.1) ?_
      refine e_iload dX10_digestRows_54 rfl ?_
      refine q_ialdH dX10_digestRows_56 (hv2.2 _ i2).2.2.2 (fun i4 => ?_)
      refine e_i2l dX10_digestRows_57 ?_
      refine e_ladd dX10_digestRows_58 ?_
      refine e_lstore_n dX10_digestRows_59 (by decide) (LS1 := [none, none, _, _, none, _, _]) rfl ?_
      refine e_iinc dX10_digestRows_60 rfl (v := _ + 1) rfl (by decide) (LS1 := [none, none, _, _, none, _, _]) rfl ?_
      refine e_goto dX10_digestRows_63 (tgt := 30) (by decide) ?_
      exact ih (((31 : Int64) * v3) + ((u ((am_rid v2 v5.toNatClampNeg) + 1) v6.toNatClampNeg).toInt64)) (v6 + 1)

set_option maxRecDepth 100000 in
set_option maxHeartbeats 4000000 in
theorem s_X10_digestRows_5 {l : Launch} {g : am_G} {B : am_M} {pl : Nat} (hL : am_Lay B pl) (u : am_U) (v2 : Nat) (hv2 : am_isRows B v2)   : ∀ (n : Nat) (v3 : Int64) (v5 : Int32), am_E l g d_X10_digestRows 5 [none, none, some (.ref (v2)), some (.long (v3)), none, some (.int (v5)), none] [] (am_of B u) (am_r (am_bN B u) (f_X10_digestRows_5 u v2 n v3 v5)) := by
  intro n
  induction n with
  | zero => intro v3 v5; exact am_none
  | succ n ih =>
    intro v3 v5
    unfold f_X10_digestRows_5
    refine e_iload dX10_digestRows_5 rfl ?_
    refine e_aload_n dX10_digestRows_7 rfl ?_
    refine q_alen (v := nI (am_rln v2)) dX10_digestRows_8 hv2.1 (by decide) rfl ?_
    refine e_if2_ge dX10_digestRows_9 (tgt := 72) (by decide) ?_ ?_
    · refine e_lload_n dX10_digestRows_72 rfl ?_
      exact e_lret dX10_digestRows_73 rfl rfl
    · refine e_ldc2 dX10_digestRows_12 ll_N_363 ?_
      refine e_lload_n dX10_digestRows_15 rfl ?_
      refine e_lmul dX10_digestRows_16 ?_
      refine e_aload_n dX10_digestRows_17 rfl ?_
      refine e_iload dX10_digestRows_18 rfl ?_
      refine q_aald (n := am_rln v2) (rid := am_rid v2 v5.toNatClampNeg) dX10_digestRows_20 hv2.1 (fun h => (hv2.2 _ h).1) (fun i1 => ?_)
      refine q_getI dX10_digestRows_21 lf_N_109 (by decide) (congrArg Prod.fst (hv2.2 _ i1).2.1) ?_
      refine e_i2l dX10_digestRows_24 ?_
      refine e_ladd dX10_digestRows_25 ?_
      refine e_lstore_n dX10_digestRows_26 (by decide) (LS1 := [none, none, _, _, none, _, none]) rfl ?_
      refine e_iconst dX10_digestRows_27 (v := 0) (by decide) ?_
      refine e_istore dX10_digestRows_28 (by decide) (LS1 := [none, none, _, _, none, _, _]) rfl ?_
      refine s_X10_digestRows_30 hL _ _ _ hv2 _ (fun c5v3 => ?_) _ _ _
      · refine e_iinc dX10_digestRows_66 rfl (v := _ + 1) rfl (by decide) (LS1 := [none, none, _, _, none, _, none]) rfl ?_
        refine e_goto dX10_digestRows_69 (tgt := 5) (by decide) ?_
        exact ih c5v3 (v5 + 1)

set_option maxRecDepth 100000 in
set_option maxHeartbeats 4000000 in
theorem s_X10_digestRows {l : Launch} {g : am_G} {B : am_M} {pl : Nat} (hL : am_Lay B pl) (a0 : Int64) (a1 : Nat) (h1 : am_isRows B a1) (u : am_U) : am_E l g d_X10_digestRows 0 (am_ent d_X10_digestRows [.long (a0), .ref (a1)]) [] (am_of B u) (am_r (am_bN B u) (f_X10_digestRows a0 a1 u)) := by
  unfold f_X10_digestRows
  show am_E l g d_X10_digestRows 0 [some (.long (a0)), none, some (.ref (a1)), none, none, none, none] [] (am_of B u) _
  refine e_lload_n dX10_digestRows_0 rfl ?_
  refine e_lstore_n dX10_digestRows_1 (by decide) (LS1 := [_, none, _, _, none, none, none]) rfl ?_
  refine e_iconst dX10_digestRows_2 (v := 0) (by decide) ?_
  refine e_istore dX10_digestRows_3 (by decide) (LS1 := [_, none, _, _, none, _, none]) rfl ?_
  refine e_msk [false, false, true, true, false, true, false] (LS1 := [none, none, _, _, none, _, none]) rfl ?_
  refine s_X10_digestRows_5 hL _ _ h1 _ _ _

def f_X10_find (a1 : Int32) (u : am_U) : Option (Int32 × am_U) :=
  let u1 : am_U := am_w u 4 14 a1
  am_ck (am_ix a1 6) (
  let u3 : am_U := am_w u1 29 a1.toNatClampNeg ((u1 29 a1.toNatClampNeg) + 1)
  some (((-3) : Int32), u3))
set_option maxRecDepth 100000 in
set_option maxHeartbeats 4000000 in
theorem s_X10_find {l : Launch} {g : am_G} {B : am_M} {pl : Nat} (hL : am_Lay B pl) (a1 : Int32)  (u : am_U) : am_E l g d_X10_find 0 (am_ent d_X10_find [.ref (4), .int (a1)]) [] (am_of B u) (am_r (am_bI B) (f_X10_find a1 u)) := by
  unfold f_X10_find
  show am_E l g d_X10_find 0 [some (.ref (4)), some (.int (a1))] [] (am_of B u) _
  refine e_aload_n dX10_find_0 rfl ?_
  refine e_iload_n dX10_find_1 rfl ?_
  refine q_putI dX10_find_2 lf_N_358 rfl (by decide) (am_Lk hL rfl) ?_
  refine e_aload_n dX10_find_5 rfl ?_
  refine q_getR (r := 29) dX10_find_6 lf_N_66 rfl (by decide) (am_Lk hL rfl) (am_Lr hL rfl) ?_
  refine e_iload_n dX10_find_9 rfl ?_
  refine e_dup2 dX10_find_10 rfl rfl ?_
  refine q_ialdH dX10_find_11 (am_Ls hL rfl) (fun i2 => ?_)
  refine e_iconst dX10_find_12 (v := 1) (by decide) ?_
  refine e_iadd dX10_find_13 ?_
  refine q_iastC (jn := _) dX10_find_14 (am_Ls hL rfl) i2 rfl ?_
  refine e_bipush dX10_find_15 (v := ((-3) : Int32)) (by decide) ?_
  exact e_iret dX10_find_17 rfl rfl

def f_X10_finding (u : am_U) : Option (Int32) :=
  some (u 4 14)
set_option maxRecDepth 100000 in
set_option maxHeartbeats 4000000 in
theorem s_X10_finding {l : Launch} {g : am_G} {B : am_M} {pl : Nat} (hL : am_Lay B pl)   (u : am_U) : am_E l g d_X10_finding 0 (am_ent d_X10_finding [.ref (4)]) [] (am_of B u) (am_r (am_bP B u) (f_X10_finding u)) := by
  unfold f_X10_finding
  show am_E l g d_X10_finding 0 [some (.ref (4))] [] (am_of B u) _
  refine e_aload_n dX10_finding_0 rfl ?_
  refine q_getI dX10_finding_1 lf_N_358 (by decide) (am_Lk hL rfl) ?_
  exact e_iret dX10_finding_4 rfl rfl

def f_X10_isWithin (a0 : Int32) (a1 : Int32) (a2 : Int32) : Option (Int32) :=
  if a0 < a1 then (
    some 0)
  else (
    if a2 < a0 then (
      some 0)
    else (
      some 1))
set_option maxRecDepth 100000 in
set_option maxHeartbeats 4000000 in
theorem s_X10_isWithin {l : Launch} {g : am_G} {B : am_M} {pl : Nat} (hL : am_Lay B pl) (a0 : Int32) (a1 : Int32) (a2 : Int32)  (u : am_U) : am_E l g d_X10_isWithin 0 (am_ent d_X10_isWithin [.int (a0), .int (a1), .int (a2)]) [] (am_of B u) (am_r (am_bP B u) (f_X10_isWithin a0 a1 a2)) := by
  unfold f_X10_isWithin
  show am_E l g d_X10_isWithin 0 [some (.int (a0)), some (.int (a1)), some (.int (a2))] [] (am_of B u) _
  refine e_iload_n dX10_isWithin_0 rfl ?_
  refine e_iload_n dX10_isWithin_1 rfl ?_
  refine e_if2_lt dX10_isWithin_2 (tgt := 14) (by decide) ?_ ?_
  · refine e_iconst dX10_isWithin_14 (v := 0) (by decide) ?_
    exact e_zret dX10_isWithin_15 rfl rfl (Or.inl rfl)
  · refine e_iload_n dX10_isWithin_5 rfl ?_
    refine e_iload_n dX10_isWithin_6 rfl ?_
    refine e_if2_gt dX10_isWithin_7 (tgt := 14) (by decide) ?_ ?_
    · refine e_iconst dX10_isWithin_14 (v := 0) (by decide) ?_
      exact e_zret dX10_isWithin_15 rfl rfl (Or.inl rfl)
    · refine e_iconst dX10_isWithin_10 (v := 1) (by decide) ?_
      refine e_goto dX10_isWithin_11 (tgt := 15) (by decide) ?_
      exact e_zret dX10_isWithin_15 rfl rfl (Or.inr rfl)

def f_X10_jarTells (pl : Nat) (a1 : Int32) (a2 : Int32) (u : am_U) : Option (Int32) :=
  if a2 = 0 then (
    am_ck (am_ix a1 6) (
    some (u (pl + 3) a1.toNatClampNeg)))
  else   if a2 = 1 then (
    am_ck (am_ix a1 6) (
    some (u (pl + 4) a1.toNatClampNeg)))
  else   if a2 = 2 then (
    am_ck (am_ix a1 6) (
    some (u 9 a1.toNatClampNeg)))
  else   if a2 = 3 then (
    am_ck (am_ix a1 6) (
    some (u 10 a1.toNatClampNeg)))
  else (
    am_ck (am_ix a1 6) (
    some (u 11 a1.toNatClampNeg)))
set_option maxRecDepth 100000 in
set_option maxHeartbeats 4000000 in
theorem s_X10_jarTells {l : Launch} {g : am_G} {B : am_M} {pl : Nat} (hL : am_Lay B pl) (a1 : Int32) (a2 : Int32)  (u : am_U) : am_E l g d_X10_jarTells 0 (am_ent d_X10_jarTells [.ref (4), .int (a1), .int (a2)]) [] (am_of B u) (am_r (am_bP B u) (f_X10_jarTells pl a1 a2 u)) := by
  unfold f_X10_jarTells
  show am_E l g d_X10_jarTells 0 [some (.ref (4)), some (.int (a1)), some (.int (a2))] [] (am_of B u) _
  refine e_iload_n dX10_jarTells_0 rfl ?_
  refine e_sw (c := 0) (fun hc => ?_) (fun hn0 => ?_)
  · subst hc
    refine e_tabIn dX10_jarTells_1 (tgt := 32) (by decide) (by decide) rfl (by decide) ?_
    refine e_aload_n dX10_jarTells_32 rfl ?_
    refine q_getR (r := pl) dX10_jarTells_33 lf_N_72 rfl (by decide) (am_Lk hL rfl) (am_Lpl hL) ?_
    refine q_getR (r := pl + 3) dX10_jarTells_36 lf_N_156 rfl (by decide) (congrArg Prod.fst (am_pln hL).1) (am_avs (am_pln hL).2.1.2.2.1) ?_
    refine e_iload_n dX10_jarTells_39 rfl ?_
    refine q_ialdH dX10_jarTells_40 (am_pln hL).2.2.2.2.1 (fun i1 => ?_)
    exact e_iret dX10_jarTells_41 rfl rfl
  refine e_sw (c := 1) (fun hc => ?_) (fun hn1 => ?_)
  · subst hc
    refine e_tabIn dX10_jarTells_1 (tgt := 42) (by decide) (by decide) rfl (by decide) ?_
    refine e_aload_n dX10_jarTells_42 rfl ?_
    refine q_getR (r := pl) dX10_jarTells_43 lf_N_72 rfl (by decide) (am_Lk hL rfl) (am_Lpl hL) ?_
    refine q_getR (r := pl + 4) dX10_jarTells_46 lf_N_197 rfl (by decide) (congrArg Prod.fst (am_pln hL).1) (am_avs (am_pln hL).2.1.2.2.2) ?_
    refine e_iload_n dX10_jarTells_49 rfl ?_
    refine q_ialdH dX10_jarTells_50 (am_pln hL).2.2.2.2.2 (fun i2 => ?_)
    exact e_iret dX10_jarTells_51 rfl rfl
  refine e_sw (c := 2) (fun hc => ?_) (fun hn2 => ?_)
  · subst hc
    refine e_tabIn dX10_jarTells_1 (tgt := 52) (by decide) (by decide) rfl (by decide) ?_
    refine e_aload_n dX10_jarTells_52 rfl ?_
    refine q_getR (r := 8) dX10_jarTells_53 lf_N_28 rfl (by decide) (am_Lk hL rfl) (am_Lr hL rfl) ?_
    refine q_getR (r := 9) dX10_jarTells_56 lf_N_162 rfl (by decide) (am_Lk hL rfl) (am_Lr hL rfl) ?_
    refine e_iload_n dX10_jarTells_59 rfl ?_
    refine q_ialdH dX10_jarTells_60 (am_Ls hL rfl) (fun i3 => ?_)
    exact e_iret dX10_jarTells_61 rfl rfl
  refine e_sw (c := 3) (fun hc => ?_) (fun hn3 => ?_)
  · subst hc
    refine e_tabIn dX10_jarTells_1 (tgt := 62) (by decide) (by decide) rfl (by decide) ?_
    refine e_aload_n dX10_jarTells_62 rfl ?_
    refine q_getR (r := 8) dX10_jarTells_63 lf_N_28 rfl (by decide) (am_Lk hL rfl) (am_Lr hL rfl) ?_
    refine q_getR (r := 10) dX10_jarTells_66 lf_N_187 rfl (by decide) (am_Lk hL rfl) (am_Lr hL rfl) ?_
    refine e_iload_n dX10_jarTells_69 rfl ?_
    refine q_ialdH dX10_jarTells_70 (am_Ls hL rfl) (fun i4 => ?_)
    exact e_iret dX10_jarTells_71 rfl rfl
  have hm0 := lv_neT hn0 (show (0 : Int32).toInt = 0 by decide)
  have hm1 := lv_neT hn1 (show (1 : Int32).toInt = 1 by decide)
  have hm2 := lv_neT hn2 (show (2 : Int32).toInt = 2 by decide)
  have hm3 := lv_neT hn3 (show (3 : Int32).toInt = 3 by decide)
  refine e_tabOut dX10_jarTells_1 (tgt := 72) (by omega) (by decide) ?_
  refine e_aload_n dX10_jarTells_72 rfl ?_
  refine q_getR (r := 8) dX10_jarTells_73 lf_N_28 rfl (by decide) (am_Lk hL rfl) (am_Lr hL rfl) ?_
  refine q_getR (r := 11) dX10_jarTells_76 lf_N_169 rfl (by decide) (am_Lk hL rfl) (am_Lr hL rfl) ?_
  refine e_iload_n dX10_jarTells_79 rfl ?_
  refine q_ialdH dX10_jarTells_80 (am_Ls hL rfl) (fun i5 => ?_)
  exact e_iret dX10_jarTells_81 rfl rfl

def f_X10_lightAt_4 (pl : Nat) (u : am_U) (v1 : Int32) : Nat → Int32 → Int32 → Option (Int32)
  | 0, _, _ => none
  | n + 1, v2, v3 =>
    if (u pl 2) ≤ v3 then (
      some v2)
    else (
      am_ck (am_ix v3 6) (
      if ¬ (u 10 v3.toNatClampNeg) = v1 then (
        f_X10_lightAt_4 pl u v1 n v2 (v3 + 1))
      else (
        let x2 : Int32 := v2 + (u 9 v3.toNatClampNeg)
        f_X10_lightAt_4 pl u v1 n x2 (v3 + 1))))
def f_X10_lightAt (pl : Nat) (a1 : Int32) (u : am_U) : Option (Int32) :=
  f_X10_lightAt_4 pl u a1 20000 0 0
set_option maxRecDepth 100000 in
set_option maxHeartbeats 4000000 in
theorem s_X10_lightAt_4 {l : Launch} {g : am_G} {B : am_M} {pl : Nat} (hL : am_Lay B pl) (u : am_U) (v1 : Int32)    : ∀ (n : Nat) (v2 : Int32) (v3 : Int32), am_E l g d_X10_lightAt 4 [some (.ref (4)), some (.int (v1)), some (.int (v2)), some (.int (v3))] [] (am_of B u) (am_r (am_bP B u) (f_X10_lightAt_4 pl u v1 n v2 v3)) := by
  intro n
  induction n with
  | zero => intro v2 v3; exact am_none
  | succ n ih =>
    intro v2 v3
    unfold f_X10_lightAt_4
    refine e_iload_n dX10_lightAt_4 rfl ?_
    refine e_aload_n dX10_lightAt_5 rfl ?_
    refine q_getR (r := pl) dX10_lightAt_6 lf_N_72 rfl (by decide) (am_Lk hL rfl) (am_Lpl hL) ?_
    refine q_getI dX10_lightAt_9 lf_N_144 (by decide) (congrArg Prod.fst (am_pln hL).1) ?_
    refine e_if2_ge dX10_lightAt_12 (tgt := 46) (by decide) ?_ ?_
    · refine e_iload_n dX10_lightAt_46 rfl ?_
      exact e_iret dX10_lightAt_47 rfl rfl
    · refine e_aload_n dX10_lightAt_15 rfl ?_
      refine q_getR (r := 8) dX10_lightAt_16 lf_N_28 rfl (by decide) (am_Lk hL rfl) (am_Lr hL rfl) ?_
      refine q_getR (r := 10) dX10_lightAt_19 lf_N_187 rfl (by decide) (am_Lk hL rfl) (am_Lr hL rfl) ?_
      refine e_iload_n dX10_lightAt_22 rfl ?_
      refine q_ialdH dX10_lightAt_23 (am_Ls hL rfl) (fun i1 => ?_)
      refine e_iload_n dX10_lightAt_24 rfl ?_
      refine e_if2_ne dX10_lightAt_25 (tgt := 40) (by decide) ?_ ?_
      · refine e_iinc dX10_lightAt_40 rfl (v := _ + 1) rfl (by decide) (LS1 := [_, _, _, _]) rfl ?_
        refine e_goto dX10_lightAt_43 (tgt := 4) (by decide) ?_
        exact ih v2 (v3 + 1)
      · refine e_iload_n dX10_lightAt_28 rfl ?_
        refine e_aload_n dX10_lightAt_29 rfl ?_
        refine q_getR (r := 8) dX10_lightAt_30 lf_N_28 rfl (by decide) (am_Lk hL rfl) (am_Lr hL rfl) ?_
        refine q_getR (r := 9) dX10_lightAt_33 lf_N_162 rfl (by decide) (am_Lk hL rfl) (am_Lr hL rfl) ?_
        refine e_iload_n dX10_lightAt_36 rfl ?_
        refine q_ialdC (jn := _) dX10_lightAt_37 (am_Ls hL rfl) i1 rfl ?_
        refine e_iadd dX10_lightAt_38 ?_
        refine e_istore_n dX10_lightAt_39 (by decide) (LS1 := [_, _, _, _]) rfl ?_
        refine e_iinc dX10_lightAt_40 rfl (v := _ + 1) rfl (by decide) (LS1 := [_, _, _, _]) rfl ?_
        refine e_goto dX10_lightAt_43 (tgt := 4) (by decide) ?_
        exact ih (v2 + (u 9 v3.toNatClampNeg)) (v3 + 1)

set_option maxRecDepth 100000 in
set_option maxHeartbeats 4000000 in
theorem s_X10_lightAt {l : Launch} {g : am_G} {B : am_M} {pl : Nat} (hL : am_Lay B pl) (a1 : Int32)  (u : am_U) : am_E l g d_X10_lightAt 0 (am_ent d_X10_lightAt [.ref (4), .int (a1)]) [] (am_of B u) (am_r (am_bP B u) (f_X10_lightAt pl a1 u)) := by
  unfold f_X10_lightAt
  show am_E l g d_X10_lightAt 0 [some (.ref (4)), some (.int (a1)), none, none] [] (am_of B u) _
  refine e_iconst dX10_lightAt_0 (v := 0) (by decide) ?_
  refine e_istore_n dX10_lightAt_1 (by decide) (LS1 := [_, _, _, none]) rfl ?_
  refine e_iconst dX10_lightAt_2 (v := 0) (by decide) ?_
  refine e_istore_n dX10_lightAt_3 (by decide) (LS1 := [_, _, _, _]) rfl ?_
  refine s_X10_lightAt_4 hL _ _ _ _ _

def f_X10_tell (a1 : Int32) (a2 : Int32) (u : am_U) : Option (Int32 × am_U) :=
  let u1 : am_U := am_w u 4 13 a2
  some (a1, u1)
set_option maxRecDepth 100000 in
set_option maxHeartbeats 4000000 in
theorem s_X10_tell {l : Launch} {g : am_G} {B : am_M} {pl : Nat} (hL : am_Lay B pl) (a1 : Int32) (a2 : Int32)  (u : am_U) : am_E l g d_X10_tell 0 (am_ent d_X10_tell [.ref (4), .int (a1), .int (a2)]) [] (am_of B u) (am_r (am_bI B) (f_X10_tell a1 a2 u)) := by
  unfold f_X10_tell
  show am_E l g d_X10_tell 0 [some (.ref (4)), some (.int (a1)), some (.int (a2))] [] (am_of B u) _
  refine e_aload_n dX10_tell_0 rfl ?_
  refine e_iload_n dX10_tell_1 rfl ?_
  refine q_putI dX10_tell_2 lf_N_339 rfl (by decide) (am_Lk hL rfl) ?_
  refine e_iload_n dX10_tell_5 rfl ?_
  exact e_iret dX10_tell_6 rfl rfl

def f_X11_asked (u : am_U) : Option (Int32) :=
  some (u 60 2)
set_option maxRecDepth 100000 in
set_option maxHeartbeats 4000000 in
theorem s_X11_asked {l : Launch} {g : am_G} {B : am_M} {pl : Nat} (hL : am_Lay B pl)   (u : am_U) : am_E l g d_X11_asked 0 (am_ent d_X11_asked [.ref (60)]) [] (am_of B u) (am_r (am_bP B u) (f_X11_asked u)) := by
  unfold f_X11_asked
  show am_E l g d_X11_asked 0 [some (.ref (60))] [] (am_of B u) _
  refine e_aload_n dX11_asked_0 rfl ?_
  refine q_getI dX11_asked_1 lf_M_110 (by decide) (am_Lk hL rfl) ?_
  exact e_iret dX11_asked_4 rfl rfl

def f_X11_bits_4  : Nat → Int32 → Int32 → Option (Int32)
  | 0, _, _ => none
  | n + 1, v1, v2 =>
    if v2 = 0 then (
      some v1)
    else (
      f_X11_bits_4 n (v1 + 1) (v2 &&& (v2 - 1)))
def f_X11_bits (a0 : Int32) : Option (Int32) :=
  f_X11_bits_4  20000 0 a0
set_option maxRecDepth 100000 in
set_option maxHeartbeats 4000000 in
theorem s_X11_bits_4 {l : Launch} {g : am_G} {B : am_M} {pl : Nat} (hL : am_Lay B pl) (u : am_U)     : ∀ (n : Nat) (v1 : Int32) (v2 : Int32), am_E l g d_X11_bits 4 [none, some (.int (v1)), some (.int (v2))] [] (am_of B u) (am_r (am_bP B u) (f_X11_bits_4 n v1 v2)) := by
  intro n
  induction n with
  | zero => intro v1 v2; exact am_none
  | succ n ih =>
    intro v1 v2
    unfold f_X11_bits_4
    refine e_iload_n dX11_bits_4 rfl ?_
    refine e_if_eq dX11_bits_5 (tgt := 20) (by decide) ?_ ?_
    · refine e_iload_n dX11_bits_20 rfl ?_
      exact e_iret dX11_bits_21 rfl rfl
    · refine e_iinc dX11_bits_8 rfl (v := _ + 1) rfl (by decide) (LS1 := [none, _, _]) rfl ?_
      refine e_iload_n dX11_bits_11 rfl ?_
      refine e_iload_n dX11_bits_12 rfl ?_
      refine e_iconst dX11_bits_13 (v := 1) (by decide) ?_
      refine e_isub dX11_bits_14 ?_
      refine e_iand dX11_bits_15 ?_
      refine e_istore_n dX11_bits_16 (by decide) (LS1 := [none, _, _]) rfl ?_
      refine e_goto dX11_bits_17 (tgt := 4) (by decide) ?_
      exact ih (v1 + 1) (v2 &&& (v2 - 1))

set_option maxRecDepth 100000 in
set_option maxHeartbeats 4000000 in
theorem s_X11_bits {l : Launch} {g : am_G} {B : am_M} {pl : Nat} (hL : am_Lay B pl) (a0 : Int32)  (u : am_U) : am_E l g d_X11_bits 0 (am_ent d_X11_bits [.int (a0)]) [] (am_of B u) (am_r (am_bP B u) (f_X11_bits a0)) := by
  unfold f_X11_bits
  show am_E l g d_X11_bits 0 [some (.int (a0)), none, none] [] (am_of B u) _
  refine e_iconst dX11_bits_0 (v := 0) (by decide) ?_
  refine e_istore_n dX11_bits_1 (by decide) (LS1 := [_, _, none]) rfl ?_
  refine e_iload_n dX11_bits_2 rfl ?_
  refine e_istore_n dX11_bits_3 (by decide) (LS1 := [_, _, _]) rfl ?_
  refine e_msk [false, true, true] (LS1 := [none, _, _]) rfl ?_
  refine s_X11_bits_4 hL _  _ _ _

def f_X11_byteAt (a1 : Int32) (a2 : Int32) (u : am_U) : Option (Int32) :=
  am_ck (am_ix a1 4) (
  if (u 65 a1.toNatClampNeg) ≤ a2 then (
    some 0)
  else (
    am_ck (am_ix ((60 * a1) + a2) 240) (
    some (u 66 ((60 * a1) + a2).toNatClampNeg))))
set_option maxRecDepth 100000 in
set_option maxHeartbeats 4000000 in
theorem s_X11_byteAt {l : Launch} {g : am_G} {B : am_M} {pl : Nat} (hL : am_Lay B pl) (a1 : Int32) (a2 : Int32)  (u : am_U) : am_E l g d_X11_byteAt 0 (am_ent d_X11_byteAt [.ref (60), .int (a1), .int (a2)]) [] (am_of B u) (am_r (am_bP B u) (f_X11_byteAt a1 a2 u)) := by
  unfold f_X11_byteAt
  show am_E l g d_X11_byteAt 0 [some (.ref (60)), some (.int (a1)), some (.int (a2))] [] (am_of B u) _
  refine e_iload_n dX11_byteAt_0 rfl ?_
  refine e_aload_n dX11_byteAt_1 rfl ?_
  refine q_getR (r := 65) dX11_byteAt_2 lf_M_22 rfl (by decide) (am_Lk hL rfl) (am_Lr hL rfl) ?_
  refine e_iload_n dX11_byteAt_5 rfl ?_
  refine q_ialdH dX11_byteAt_6 (am_Ls hL rfl) (fun i1 => ?_)
  refine e_if2_ge dX11_byteAt_7 (tgt := 24) (by decide) ?_ ?_
  · refine e_iconst dX11_byteAt_24 (v := 0) (by decide) ?_
    exact e_iret dX11_byteAt_25 rfl rfl
  · refine e_aload_n dX11_byteAt_10 rfl ?_
    refine q_getR (r := 66) dX11_byteAt_11 lf_M_25 rfl (by decide) (am_Lk hL rfl) (am_Lr hL rfl) ?_
    refine e_bipush dX11_byteAt_14 (v := 60) (by decide) ?_
    refine e_iload_n dX11_byteAt_16 rfl ?_
    refine e_imul dX11_byteAt_17 ?_
    refine e_iload_n dX11_byteAt_18 rfl ?_
    refine e_iadd dX11_byteAt_19 ?_
    refine q_bald dX11_byteAt_20 (Or.inl (am_Ls hL rfl)) ?_
    refine e_goto dX11_byteAt_21 (tgt := 25) (by decide) ?_
    exact e_iret dX11_byteAt_25 rfl rfl

