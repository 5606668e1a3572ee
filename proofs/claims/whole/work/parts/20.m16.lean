def f_X3_choose_25 (v1 : Nat) (v2 : Int32) (k57 : am_U → Option (am_U)) : Nat → Int32 → am_U → Option (am_U)
  | 0, _, _ => none
  | n + 1, v3, u =>
    if 5 ≤ v3 then (
      k57 u)
    else (
      am_ck (am_ix v3 5) (
      if (u (v1 + 2) v3.toNatClampNeg) ≤ 0 then (
        f_X3_choose_25 v1 v2 k57 n (v3 + 1) u)
      else (
        (f_X3_priceLighting v1 v3 v2 u).bind (fun q4 =>
        (f_X3_addValley v2 q4).bind (fun q5 =>
        f_X3_choose_25 v1 v2 k57 n (v3 + 1) q5)))))
def f_X3_choose_64 (v2 : Int32) : Nat → Int32 → am_U → Option (am_U)
  | 0, _, _ => none
  | n + 1, v3, u =>
    if v2 ≤ v3 then (
      some u)
    else (
      am_ck (am_ix v3 64) (
      (f_J9_min_7cf53 (u 26 2) (u 27 v3.toNatClampNeg)).bind (fun q9 =>
      let u10 : am_U := am_w u 26 2 q9
      f_X3_choose_64 v2 n (v3 + 1) u10)))
def f_X3_choose (a1 : Nat) (u : am_U) : Option (am_U) :=
  (f_J7_fill_53178 27 64 1000000000 u).bind (fun q1 =>
  let u2 : am_U := am_w q1 27 0 0
  f_X3_choose_25 a1 (1 <<< ((u a1 2) &&& 31)) (fun (c6u : am_U) =>
    let u7 : am_U := am_w c6u 26 2 0
    f_X3_choose_64 (1 <<< ((u a1 2) &&& 31)) 20000 0 u7) 20000 1 u2)
set_option maxRecDepth 100000 in
set_option maxHeartbeats 4000000 in
theorem s_X3_choose_25 {l : Launch} {g : am_G} {B : am_M} {pl : Nat} (hL : am_Lay B pl) (v1 : Nat) (v2 : Int32) (hv1 : am_isPlan B v1) (k57 : am_U → Option (am_U)) (hk57 : ∀  (u : am_U), am_E l g d_X3_choose 57 [some (.ref (26)), none, some (.int (v2)), none] [] (am_of B u) (am_r (am_bV B) (k57 u))) : ∀ (n : Nat) (v3 : Int32) (u : am_U), am_E l g d_X3_choose 25 [some (.ref (26)), some (.ref (v1)), some (.int (v2)), some (.int (v3))] [] (am_of B u) (am_r (am_bV B) (f_X3_choose_25 v1 v2 k57 n v3 u)) := by
  intro n
  induction n with
  | zero => intro v3 u; exact am_none
  | succ n ih =>
    intro v3 u
    unfold f_X3_choose_25
    refine e_iload_n dX3_choose_25 rfl ?_
    refine e_iconst dX3_choose_26 (v := 5) (by decide) ?_
    refine e_if2_ge dX3_choose_27 (tgt := 57) (by decide) ?_ ?_
    · refine e_msk [true, false, true, false] (LS1 := [_, none, _, none]) rfl ?_
      exact hk57 u
    · refine e_aload_n dX3_choose_30 rfl ?_
      refine q_getR (r := v1 + 2) dX3_choose_31 lf_Loads_31 rfl (by decide) (congrArg Prod.fst hv1.1) (am_avs hv1.2.1.2.1) ?_
      refine e_iload_n dX3_choose_34 rfl ?_
      refine q_ialdH dX3_choose_35 hv1.2.2.2.1 (fun i3 => ?_)
      refine e_if_le dX3_choose_36 (tgt := 51) (by decide) ?_ ?_
      · refine e_iinc dX3_choose_51 rfl (v := _ + 1) rfl (by decide) (LS1 := [_, _, _, _]) rfl ?_
        refine e_goto dX3_choose_54 (tgt := 25) (by decide) ?_
        exact ih (v3 + 1) u
      · refine e_aload_n dX3_choose_39 rfl ?_
        refine e_aload_n dX3_choose_40 rfl ?_
        refine e_iload_n dX3_choose_41 rfl ?_
        refine e_iload_n dX3_choose_42 rfl ?_
        refine q_callVV (As := [_, _, _]) rfl dX3_choose_43 lm_Loads_34 (am_fitB rfl) yo_X3_priceLighting ys_X3_priceLighting rfl rfl (by decide) (am_Lk hL rfl) rfl (Nat.le_of_ble_eq_true rfl) (Nat.le_of_ble_eq_true rfl) (s_X3_priceLighting hL _ _ _ hv1 _) (fun q4 => ?_)
        refine e_aload_n dX3_choose_46 rfl ?_
        refine e_iload_n dX3_choose_47 rfl ?_
        refine q_callVV (As := [_]) rfl dX3_choose_48 lm_Loads_38 (am_fitB rfl) yo_X3_addValley ys_X3_addValley rfl rfl (by decide) (am_Lk hL rfl) rfl (Nat.le_of_ble_eq_true rfl) (Nat.le_of_ble_eq_true rfl) (s_X3_addValley hL _  _) (fun q5 => ?_)
        refine e_iinc dX3_choose_51 rfl (v := _ + 1) rfl (by decide) (LS1 := [_, _, _, _]) rfl ?_
        refine e_goto dX3_choose_54 (tgt := 25) (by decide) ?_
        exact ih (v3 + 1) q5

set_option maxRecDepth 100000 in
set_option maxHeartbeats 4000000 in
theorem s_X3_choose_64 {l : Launch} {g : am_G} {B : am_M} {pl : Nat} (hL : am_Lay B pl) (v2 : Int32)    : ∀ (n : Nat) (v3 : Int32) (u : am_U), am_E l g d_X3_choose 64 [some (.ref (26)), none, some (.int (v2)), some (.int (v3))] [] (am_of B u) (am_r (am_bV B) (f_X3_choose_64 v2 n v3 u)) := by
  intro n
  induction n with
  | zero => intro v3 u; exact am_none
  | succ n ih =>
    intro v3 u
    unfold f_X3_choose_64
    refine e_iload_n dX3_choose_64 rfl ?_
    refine e_iload_n dX3_choose_65 rfl ?_
    refine e_if2_ge dX3_choose_66 (tgt := 92) (by decide) ?_ ?_
    · exact e_vret dX3_choose_92 rfl rfl
    · refine e_aload_n dX3_choose_69 rfl ?_
      refine e_aload_n dX3_choose_70 rfl ?_
      refine q_getI dX3_choose_71 lf_Loads_42 (by decide) (am_Lk hL rfl) ?_
      refine e_aload_n dX3_choose_74 rfl ?_
      refine q_getR (r := 27) dX3_choose_75 lf_Loads_9 rfl (by decide) (am_Lk hL rfl) (am_Lr hL rfl) ?_
      refine e_iload_n dX3_choose_78 rfl ?_
      refine q_ialdH dX3_choose_79 (am_Ls hL rfl) (fun i8 => ?_)
      refine q_callSP (As := [_, _]) rfl dX3_choose_80 lm_Loads_45 (am_fitB rfl) yo_J9_min_7cf53 ys_J9_min_7cf53 rfl (Nat.le_of_ble_eq_true rfl) (Nat.le_of_ble_eq_true rfl) (s_J9_min_7cf53 hL _ _  _) (fun q9 => ?_)
      refine q_putI dX3_choose_83 lf_Loads_42 rfl (by decide) (am_Lk hL rfl) ?_
      refine e_iinc dX3_choose_86 rfl (v := _ + 1) rfl (by decide) (LS1 := [_, none, _, _]) rfl ?_
      refine e_goto dX3_choose_89 (tgt := 64) (by decide) ?_
      exact ih (v3 + 1) (am_w u 26 2 q9)

set_option maxRecDepth 100000 in
set_option maxHeartbeats 4000000 in
theorem s_X3_choose {l : Launch} {g : am_G} {B : am_M} {pl : Nat} (hL : am_Lay B pl) (a1 : Nat) (h1 : am_isPlan B a1) (u : am_U) : am_E l g d_X3_choose 0 (am_ent d_X3_choose [.ref (26), .ref (a1)]) [] (am_of B u) (am_r (am_bV B) (f_X3_choose a1 u)) := by
  unfold f_X3_choose
  show am_E l g d_X3_choose 0 [some (.ref (26)), some (.ref (a1)), none, none] [] (am_of B u) _
  refine e_iconst dX3_choose_0 (v := 1) (by decide) ?_
  refine e_aload_n dX3_choose_1 rfl ?_
  refine q_getI dX3_choose_2 lf_Loads_18 (by decide) (congrArg Prod.fst h1.1) ?_
  refine e_ishl dX3_choose_5 ?_
  refine e_istore_n dX3_choose_6 (by decide) (LS1 := [_, _, _, none]) rfl ?_
  refine e_aload_n dX3_choose_7 rfl ?_
  refine q_getR (r := 27) dX3_choose_8 lf_Loads_9 rfl (by decide) (am_Lk hL rfl) (am_Lr hL rfl) ?_
  refine e_ldc dX3_choose_11 lc_Loads_24 ?_
  refine q_callSV (As := [_, _]) rfl dX3_choose_13 lm_Loads_25 (am_fitB rfl) yo_J7_fill_53178 ys_J7_fill_53178 rfl (Nat.le_of_ble_eq_true rfl) (Nat.le_of_ble_eq_true rfl) (s_J7_fill_53178 hL _ _ _ (am_Ls hL rfl) _) (fun q1 => ?_)
  refine e_aload_n dX3_choose_16 rfl ?_
  refine q_getR (r := 27) dX3_choose_17 lf_Loads_9 rfl (by decide) (am_Lk hL rfl) (am_Lr hL rfl) ?_
  refine e_iconst dX3_choose_20 (v := 0) (by decide) ?_
  refine e_iconst dX3_choose_21 (v := 0) (by decide) ?_
  refine q_iastC (jn := 0) dX3_choose_22 (am_Ls hL rfl) (by decide) (by decide) ?_
  refine e_iconst dX3_choose_23 (v := 1) (by decide) ?_
  refine e_istore_n dX3_choose_24 (by decide) (LS1 := [_, _, _, _]) rfl ?_
  refine s_X3_choose_25 hL _ _ h1 _ (fun c6u => ?_) _ _ _
  · refine e_aload_n dX3_choose_57 rfl ?_
    refine e_iconst dX3_choose_58 (v := 0) (by decide) ?_
    refine q_putI dX3_choose_59 lf_Loads_42 rfl (by decide) (am_Lk hL rfl) ?_
    refine e_iconst dX3_choose_62 (v := 0) (by decide) ?_
    refine e_istore_n dX3_choose_63 (by decide) (LS1 := [_, none, _, _]) rfl ?_
    refine s_X3_choose_64 hL _ _ _ _

def f_X10_loads (pl : Nat) (u : am_U) : Option (Int32 × am_U) :=
  if ¬ (u pl 2) = 0 then (
    (f_X3_choose pl u).bind (fun q1 =>
    (f_X3_litValleys q1).bind (fun q2 =>
    (f_X3_figures q1).bind (fun q3 =>
    (f_X10_tell q2 q3 q1).bind (fun q4 =>
    some (q4.1, q4.2))))))
  else (
    some (((-4) : Int32), u))
set_option maxRecDepth 100000 in
set_option maxHeartbeats 4000000 in
theorem s_X10_loads {l : Launch} {g : am_G} {B : am_M} {pl : Nat} (hL : am_Lay B pl)   (u : am_U) : am_E l g d_X10_loads 0 (am_ent d_X10_loads [.ref (4)]) [] (am_of B u) (am_r (am_bI B) (f_X10_loads pl u)) := by
  unfold f_X10_loads
  show am_E l g d_X10_loads 0 [some (.ref (4))] [] (am_of B u) _
  refine e_aload_n dX10_loads_0 rfl ?_
  refine q_getR (r := pl) dX10_loads_1 lf_N_72 rfl (by decide) (am_Lk hL rfl) (am_Lpl hL) ?_
  refine q_getI dX10_loads_4 lf_N_144 (by decide) (congrArg Prod.fst (am_pln hL).1) ?_
  refine e_if_ne dX10_loads_7 (tgt := 13) (by decide) ?_ ?_
  · refine e_aload_n dX10_loads_13 rfl ?_
    refine q_getR (r := 26) dX10_loads_14 lf_N_62 rfl (by decide) (am_Lk hL rfl) (am_Lr hL rfl) ?_
    refine e_aload_n dX10_loads_17 rfl ?_
    refine q_getR (r := pl) dX10_loads_18 lf_N_72 rfl (by decide) (am_Lk hL rfl) (am_Lpl hL) ?_
    refine q_callVV (As := [_]) rfl dX10_loads_21 lm_N_241 (am_fitB rfl) yo_X3_choose ys_X3_choose rfl rfl (by decide) (am_Lk hL rfl) rfl (Nat.le_of_ble_eq_true rfl) (Nat.le_of_ble_eq_true rfl) (s_X3_choose hL _ (am_pln hL) _) (fun q1 => ?_)
    refine e_aload_n dX10_loads_24 rfl ?_
    refine e_aload_n dX10_loads_25 rfl ?_
    refine q_getR (r := 26) dX10_loads_26 lf_N_62 rfl (by decide) (am_Lk hL rfl) (am_Lr hL rfl) ?_
    refine q_callVP (As := []) rfl dX10_loads_29 lm_N_245 (am_fitB rfl) yo_X3_litValleys ys_X3_litValleys rfl rfl (by decide) (am_Lk hL rfl) rfl (Nat.le_of_ble_eq_true rfl) (Nat.le_of_ble_eq_true rfl) (s_X3_litValleys hL   _) (fun q2 => ?_)
    refine e_aload_n dX10_loads_32 rfl ?_
    refine q_getR (r := 26) dX10_loads_33 lf_N_62 rfl (by decide) (am_Lk hL rfl) (am_Lr hL rfl) ?_
    refine q_callVP (As := []) rfl dX10_loads_36 lm_N_248 (am_fitB rfl) yo_X3_figures ys_X3_figures rfl rfl (by decide) (am_Lk hL rfl) rfl (Nat.le_of_ble_eq_true rfl) (Nat.le_of_ble_eq_true rfl) (s_X3_figures hL   _) (fun q3 => ?_)
    refine q_callVI (As := [_, _]) rfl dX10_loads_39 lm_N_101 (am_fitB rfl) yo_X10_tell ys_X10_tell rfl rfl (by decide) (am_Lk hL rfl) rfl (Nat.le_of_ble_eq_true rfl) (Nat.le_of_ble_eq_true rfl) (s_X10_tell hL _ _  _) (fun q4 => ?_)
    exact e_iret dX10_loads_42 rfl rfl
  · refine e_bipush dX10_loads_10 (v := ((-4) : Int32)) (by decide) ?_
    exact e_iret dX10_loads_12 rfl rfl

