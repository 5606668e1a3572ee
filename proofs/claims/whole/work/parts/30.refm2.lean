def f_X10_pours_a (B : am_M) (pl : Nat) (a1 : Int32) (a2 : Int32) (u : am_U) : Option (Int32 × am_M) :=
  (f_X10_refusePouring pl a1 a2 u).bind (fun q1 =>
  if q1 = 0 then (
    (f_X10_pouringsFrom_a B pl a1 u).bind (fun q2 =>
    (f_X6_firstWith (am_nx B) a1 a2 q2).bind (fun q3 =>
    if ¬ q3 = ((-9) : Int32) then (
      (f_X6_steps (am_nx B) q3 q2).bind (fun q4 =>
      if q4 ≤ 60 then (
        (f_X6_spilt (am_nx B) q3 q2).bind (fun q5 =>
        (f_X10_tell q4 q5 q2).bind (fun q6 =>
        some (q6.1, am_of (am_pB B) q6.2))))
      else (
        some (((-6) : Int32), am_of (am_pB B) q2))))
    else (
      some (((-9) : Int32), am_of (am_pB B) q2)))))
  else (
    some (q1, am_of B u)))
set_option maxRecDepth 100000 in
set_option maxHeartbeats 4000000 in
theorem s_X10_pours_a {l : Launch} {g : am_G} {B : am_M} {pl : Nat} (hL : am_Lay B pl) (hZ0 : am_ro B 4 12 = 0) (hN : 91 ≤ am_nx B) (a1 : Int32) (a2 : Int32)  (u : am_U) : am_E l g d_X10_pours 0 (am_ent d_X10_pours [.ref (4), .int (a1), .int (a2)]) [] (am_of B u) (am_r (am_fI) (f_X10_pours_a B pl a1 a2 u)) := by
  unfold f_X10_pours_a
  show am_E l g d_X10_pours 0 [some (.ref (4)), some (.int (a1)), some (.int (a2)), none, none, none, none] [] (am_of B u) _
  refine e_aload_n dX10_pours_0 rfl ?_
  refine e_iload_n dX10_pours_1 rfl ?_
  refine e_iload_n dX10_pours_2 rfl ?_
  refine q_callVP (As := [_, _]) rfl dX10_pours_3 lm_N_268 (am_fitB rfl) yo_X10_refusePouring ys_X10_refusePouring rfl rfl (by decide) (am_Lk hL rfl) rfl (Nat.le_of_ble_eq_true rfl) (Nat.le_of_ble_eq_true rfl) (s_X10_refusePouring hL _ _  _) (fun q1 => ?_)
  refine e_istore_n dX10_pours_6 (by decide) (LS1 := [_, _, _, _, none, none, none]) rfl ?_
  refine e_iload_n dX10_pours_7 rfl ?_
  refine e_if_eq dX10_pours_8 (tgt := 13) (by decide) ?_ ?_
  · refine e_aload_n dX10_pours_13 rfl ?_
    refine e_iload_n dX10_pours_14 rfl ?_
    refine q_callVQ (As := [_]) rfl dX10_pours_15 lm_N_271 (am_fitB rfl) yo_X10_pouringsFrom ys_X10_pouringsFrom rfl rfl (by decide) (am_Lk hL rfl) rfl (Nat.le_of_ble_eq_true rfl) (Nat.le_of_ble_eq_true rfl) (s_X10_pouringsFrom_a hL hZ0 hN _ _) (fun q2 => ?_)
    refine e_astore dX10_pours_18 (by decide) (LS1 := [_, _, _, _, _, none, none]) rfl ?_
    refine e_aload dX10_pours_20 rfl ?_
    refine e_iload_n dX10_pours_22 rfl ?_
    refine e_iload_n dX10_pours_23 rfl ?_
    refine q_callVP (As := [_, _]) rfl dX10_pours_24 lm_N_275 (am_fitB rfl) yo_X6_firstWith ys_X6_firstWith rfl rfl (by decide) (congrArg Prod.fst (am_pB_is hN).1) rfl (Nat.le_of_ble_eq_true rfl) (Nat.le_of_ble_eq_true rfl) (s_X6_firstWith (am_pB_L hL hN) _ _ _ (am_pB_is hN) _) (fun q3 => ?_)
    refine e_istore dX10_pours_27 (by decide) (LS1 := [_, _, _, _, _, _, none]) rfl ?_
    refine e_iload dX10_pours_29 rfl ?_
    refine e_bipush dX10_pours_31 (v := ((-9) : Int32)) (by decide) ?_
    refine e_if2_ne dX10_pours_33 (tgt := 39) (by decide) ?_ ?_
    · refine e_aload dX10_pours_39 rfl ?_
      refine e_iload dX10_pours_41 rfl ?_
      refine q_callVP (As := [_]) rfl dX10_pours_43 lm_N_280 (am_fitB rfl) yo_X6_steps ys_X6_steps rfl rfl (by decide) (congrArg Prod.fst (am_pB_is hN).1) rfl (Nat.le_of_ble_eq_true rfl) (Nat.le_of_ble_eq_true rfl) (s_X6_steps (am_pB_L hL hN) _ _ (am_pB_is hN) _) (fun q4 => ?_)
      refine e_istore dX10_pours_46 (by decide) (LS1 := [_, _, _, _, _, _, _]) rfl ?_
      refine e_iload dX10_pours_48 rfl ?_
      refine e_bipush dX10_pours_50 (v := 60) (by decide) ?_
      refine e_if2_le dX10_pours_52 (tgt := 60) (by decide) ?_ ?_
      · refine e_aload_n dX10_pours_60 rfl ?_
        refine e_iload dX10_pours_61 rfl ?_
        refine e_aload dX10_pours_63 rfl ?_
        refine e_iload dX10_pours_65 rfl ?_
        refine q_callVP (As := [_]) rfl dX10_pours_67 lm_N_283 (am_fitB rfl) yo_X6_spilt ys_X6_spilt rfl rfl (by decide) (congrArg Prod.fst (am_pB_is hN).1) rfl (Nat.le_of_ble_eq_true rfl) (Nat.le_of_ble_eq_true rfl) (s_X6_spilt (am_pB_L hL hN) _ _ (am_pB_is hN) _) (fun q5 => ?_)
        refine q_callVI (As := [_, _]) rfl dX10_pours_70 lm_N_101 (am_fitB rfl) yo_X10_tell ys_X10_tell rfl rfl (by decide) (am_Lk (am_pB_L hL hN) rfl) rfl (Nat.le_of_ble_eq_true rfl) (Nat.le_of_ble_eq_true rfl) (s_X10_tell (am_pB_L hL hN) _ _  _) (fun q6 => ?_)
        exact e_iret dX10_pours_73 rfl rfl
      · refine e_bipush dX10_pours_55 (v := ((-6) : Int32)) (by decide) ?_
        refine e_goto dX10_pours_57 (tgt := 73) (by decide) ?_
        exact e_iret dX10_pours_73 rfl rfl
    · refine e_bipush dX10_pours_36 (v := ((-9) : Int32)) (by decide) ?_
      exact e_iret dX10_pours_38 rfl rfl
  · refine e_iload_n dX10_pours_11 rfl ?_
    exact e_iret dX10_pours_12 rfl rfl

def f_X10_way_a (B : am_M) (pl : Nat) (a1 : Int32) (a2 : Int32) (a3 : Int32) (u : am_U) : Option (Int32 × am_M) :=
  (f_X10_isWithin a3 0 5).bind (fun q1 =>
  am_jn (fun (j2s0 : Int32) =>
    if j2s0 = 0 then (
      (f_X10_pouringsFrom_a B pl a1 u).bind (fun q3 =>
      (f_X6_firstWith (am_nx B) a1 a2 q3).bind (fun q4 =>
      if ¬ q4 = ((-9) : Int32) then (
        (f_X6_steps (am_nx B) q4 q3).bind (fun q5 =>
        if q5 ≤ 60 then (
          am_ck (am_ix a3 6) (
          (f_X6_writeWay (am_nx B) q4 q5 (2 * a3.toNatClampNeg + 40) q3).bind (fun q7 =>
          some (q5, am_of (am_pB B) q7))))
        else (
          some (((-6) : Int32), am_of (am_pB B) q3))))
      else (
        some (((-9) : Int32), am_of (am_pB B) q3)))))
    else (
      some (j2s0, am_of B u))) (fun j2 =>
  if q1 = 0 then (
    j2 ((-1) : Int32))
  else (
    (f_X10_refusePouring pl a1 a2 u).bind (fun q8 =>
    j2 q8))))
set_option maxRecDepth 100000 in
set_option maxHeartbeats 4000000 in
theorem s_X10_way_a {l : Launch} {g : am_G} {B : am_M} {pl : Nat} (hL : am_Lay B pl) (hZ0 : am_ro B 4 12 = 0) (hN : 91 ≤ am_nx B) (a1 : Int32) (a2 : Int32) (a3 : Int32)  (u : am_U) : am_E l g d_X10_way 0 (am_ent d_X10_way [.ref (4), .int (a1), .int (a2), .int (a3)]) [] (am_of B u) (am_r (am_fI) (f_X10_way_a B pl a1 a2 a3 u)) := by
  unfold f_X10_way_a
  show am_E l g d_X10_way 0 [some (.ref (4)), some (.int (a1)), some (.int (a2)), some (.int (a3)), none, none, none, none] [] (am_of B u) _
  refine e_iload_n dX10_way_0 rfl ?_
  refine e_iconst dX10_way_1 (v := 0) (by decide) ?_
  refine e_iconst dX10_way_2 (v := 5) (by decide) ?_
  refine q_callSP (As := [_, _, _]) rfl dX10_way_3 lm_N_86 (am_fitB rfl) yo_X10_isWithin ys_X10_isWithin rfl (Nat.le_of_ble_eq_true rfl) (Nat.le_of_ble_eq_true rfl) (s_X10_isWithin hL _ _ _  _) (fun q1 => ?_)
  refine e_jn (P := fun t : Int32 → Option (Int32 × am_M) => ∀ (j2s0 : Int32), am_E l g d_X10_way 19 [some (.ref (4)), some (.int (a1)), some (.int (a2)), some (.int (a3)), none, none, none, none] [.int (j2s0)] (am_of B u) (am_r (am_fI) (t j2s0))) ?_ (fun j2 hj2 => ?_)
  · intro j2s0
    refine e_istore dX10_way_19 (by decide) (LS1 := [_, _, _, _, _, none, none, none]) rfl ?_
    refine e_iload dX10_way_21 rfl ?_
    refine e_if_eq dX10_way_23 (tgt := 29) (by decide) ?_ ?_
    · refine e_aload_n dX10_way_29 rfl ?_
      refine e_iload_n dX10_way_30 rfl ?_
      refine q_callVQ (As := [_]) rfl dX10_way_31 lm_N_271 (am_fitB rfl) yo_X10_pouringsFrom ys_X10_pouringsFrom rfl rfl (by decide) (am_Lk hL rfl) rfl (Nat.le_of_ble_eq_true rfl) (Nat.le_of_ble_eq_true rfl) (s_X10_pouringsFrom_a hL hZ0 hN _ _) (fun q3 => ?_)
      refine e_astore dX10_way_34 (by decide) (LS1 := [_, _, _, _, _, _, none, none]) rfl ?_
      refine e_aload dX10_way_36 rfl ?_
      refine e_iload_n dX10_way_38 rfl ?_
      refine e_iload_n dX10_way_39 rfl ?_
      refine q_callVP (As := [_, _]) rfl dX10_way_40 lm_N_275 (am_fitB rfl) yo_X6_firstWith ys_X6_firstWith rfl rfl (by decide) (congrArg Prod.fst (am_pB_is hN).1) rfl (Nat.le_of_ble_eq_true rfl) (Nat.le_of_ble_eq_true rfl) (s_X6_firstWith (am_pB_L hL hN) _ _ _ (am_pB_is hN) _) (fun q4 => ?_)
      refine e_istore dX10_way_43 (by decide) (LS1 := [_, _, _, _, _, _, _, none]) rfl ?_
      refine e_iload dX10_way_45 rfl ?_
      refine e_bipush dX10_way_47 (v := ((-9) : Int32)) (by decide) ?_
      refine e_if2_ne dX10_way_49 (tgt := 55) (by decide) ?_ ?_
      · refine e_aload dX10_way_55 rfl ?_
        refine e_iload dX10_way_57 rfl ?_
        refine q_callVP (As := [_]) rfl dX10_way_59 lm_N_280 (am_fitB rfl) yo_X6_steps ys_X6_steps rfl rfl (by decide) (congrArg Prod.fst (am_pB_is hN).1) rfl (Nat.le_of_ble_eq_true rfl) (Nat.le_of_ble_eq_true rfl) (s_X6_steps (am_pB_L hL hN) _ _ (am_pB_is hN) _) (fun q5 => ?_)
        refine e_istore dX10_way_62 (by decide) (LS1 := [_, _, _, _, _, _, _, _]) rfl ?_
        refine e_iload dX10_way_64 rfl ?_
        refine e_bipush dX10_way_66 (v := 60) (by decide) ?_
        refine e_if2_le dX10_way_68 (tgt := 74) (by decide) ?_ ?_
        · refine e_aload dX10_way_74 rfl ?_
          refine e_iload dX10_way_76 rfl ?_
          refine e_iload dX10_way_78 rfl ?_
          refine e_aload_n dX10_way_80 rfl ?_
          refine q_getR (r := 5) dX10_way_81 lf_N_11 rfl (by decide) (am_Lk (am_pB_L hL hN) rfl) (am_Lr (am_pB_L hL hN) rfl) ?_
          refine e_iload_n dX10_way_84 rfl ?_
          refine q_aald (n := 6) (rid := 2 * a3.toNatClampNeg + 40) dX10_way_85 (am_rows5 (am_pB_L hL hN)).1 (fun h => ((am_rows5 (am_pB_L hL hN)).2 _ h).1) (fun i6 => ?_)
          refine q_callVV (As := [_, _, _]) rfl dX10_way_86 lm_N_286 (am_fitB rfl) yo_X6_writeWay ys_X6_writeWay rfl rfl (by decide) (congrArg Prod.fst (am_pB_is hN).1) rfl (Nat.le_of_ble_eq_true rfl) (Nat.le_of_ble_eq_true rfl) (s_X6_writeWay (am_pB_L hL hN) _ _ _ _ (am_pB_is hN) ((am_rows5 (am_pB_L hL hN)).2 _ i6).2 _) (fun q7 => ?_)
          refine e_iload dX10_way_89 rfl ?_
          exact e_iret dX10_way_91 rfl rfl
        · refine e_bipush dX10_way_71 (v := ((-6) : Int32)) (by decide) ?_
          exact e_iret dX10_way_73 rfl rfl
      · refine e_bipush dX10_way_52 (v := ((-9) : Int32)) (by decide) ?_
        exact e_iret dX10_way_54 rfl rfl
    · refine e_iload dX10_way_26 rfl ?_
      exact e_iret dX10_way_28 rfl rfl
  · refine e_if_eq dX10_way_6 (tgt := 18) (by decide) ?_ ?_
    · refine e_iconst dX10_way_18 (v := ((-1) : Int32)) (by decide) ?_
      refine e_msk [true, true, true, true, false, false, false, false] (LS1 := [_, _, _, _, none, none, none, none]) rfl ?_
      exact hj2 ((-1) : Int32)
    · refine e_aload_n dX10_way_9 rfl ?_
      refine e_iload_n dX10_way_10 rfl ?_
      refine e_iload_n dX10_way_11 rfl ?_
      refine q_callVP (As := [_, _]) rfl dX10_way_12 lm_N_268 (am_fitB rfl) yo_X10_refusePouring ys_X10_refusePouring rfl rfl (by decide) (am_Lk hL rfl) rfl (Nat.le_of_ble_eq_true rfl) (Nat.le_of_ble_eq_true rfl) (s_X10_refusePouring hL _ _  _) (fun q8 => ?_)
      refine e_goto dX10_way_15 (tgt := 19) (by decide) ?_
      refine e_msk [true, true, true, true, false, false, false, false] (LS1 := [_, _, _, _, none, none, none, none]) rfl ?_
      exact hj2 q8

def f_X10_loss_a (B : am_M) (pl : Nat) (a1 : Int32) (a2 : Int32) (u : am_U) : Option (Int32 × am_M) :=
  (f_X10_refusePouring pl a1 a2 u).bind (fun q1 =>
  if q1 = 0 then (
    (f_X10_pouringsFrom_a B pl a1 u).bind (fun q2 =>
    (f_X6_leastSpilt (am_nx B) a1 a2 q2).bind (fun q3 =>
    some (q3, am_of (am_pB B) q2))))
  else (
    some (q1, am_of B u)))
set_option maxRecDepth 100000 in
set_option maxHeartbeats 4000000 in
theorem s_X10_loss_a {l : Launch} {g : am_G} {B : am_M} {pl : Nat} (hL : am_Lay B pl) (hZ0 : am_ro B 4 12 = 0) (hN : 91 ≤ am_nx B) (a1 : Int32) (a2 : Int32)  (u : am_U) : am_E l g d_X10_loss 0 (am_ent d_X10_loss [.ref (4), .int (a1), .int (a2)]) [] (am_of B u) (am_r (am_fI) (f_X10_loss_a B pl a1 a2 u)) := by
  unfold f_X10_loss_a
  show am_E l g d_X10_loss 0 [some (.ref (4)), some (.int (a1)), some (.int (a2)), none] [] (am_of B u) _
  refine e_aload_n dX10_loss_0 rfl ?_
  refine e_iload_n dX10_loss_1 rfl ?_
  refine e_iload_n dX10_loss_2 rfl ?_
  refine q_callVP (As := [_, _]) rfl dX10_loss_3 lm_N_268 (am_fitB rfl) yo_X10_refusePouring ys_X10_refusePouring rfl rfl (by decide) (am_Lk hL rfl) rfl (Nat.le_of_ble_eq_true rfl) (Nat.le_of_ble_eq_true rfl) (s_X10_refusePouring hL _ _  _) (fun q1 => ?_)
  refine e_istore_n dX10_loss_6 (by decide) (LS1 := [_, _, _, _]) rfl ?_
  refine e_iload_n dX10_loss_7 rfl ?_
  refine e_if_eq dX10_loss_8 (tgt := 15) (by decide) ?_ ?_
  · refine e_aload_n dX10_loss_15 rfl ?_
    refine e_iload_n dX10_loss_16 rfl ?_
    refine q_callVQ (As := [_]) rfl dX10_loss_17 lm_N_271 (am_fitB rfl) yo_X10_pouringsFrom ys_X10_pouringsFrom rfl rfl (by decide) (am_Lk hL rfl) rfl (Nat.le_of_ble_eq_true rfl) (Nat.le_of_ble_eq_true rfl) (s_X10_pouringsFrom_a hL hZ0 hN _ _) (fun q2 => ?_)
    refine e_iload_n dX10_loss_20 rfl ?_
    refine e_iload_n dX10_loss_21 rfl ?_
    refine q_callVP (As := [_, _]) rfl dX10_loss_22 lm_N_290 (am_fitB rfl) yo_X6_leastSpilt ys_X6_leastSpilt rfl rfl (by decide) (congrArg Prod.fst (am_pB_is hN).1) rfl (Nat.le_of_ble_eq_true rfl) (Nat.le_of_ble_eq_true rfl) (s_X6_leastSpilt (am_pB_L hL hN) _ _ _ (am_pB_is hN) _) (fun q3 => ?_)
    exact e_iret dX10_loss_25 rfl rfl
  · refine e_iload_n dX10_loss_11 rfl ?_
    refine e_goto dX10_loss_12 (tgt := 25) (by decide) ?_
    exact e_iret dX10_loss_25 rfl rfl

def f_X10_most_a (B : am_M) (pl : Nat) (a1 : Int32) (u : am_U) : Option (Int32 × am_M) :=
  (f_X10_refusePouring pl a1 0 u).bind (fun q1 =>
  if q1 = 0 then (
    (f_X10_pouringsFrom_a B pl a1 u).bind (fun q2 =>
    (f_X6_mostIn (am_nx B) a1 q2).bind (fun q3 =>
    (f_X10_tell q3 (q2 (am_nx B) 7) q2).bind (fun q4 =>
    some (q4.1, am_of (am_pB B) q4.2)))))
  else (
    some (q1, am_of B u)))
set_option maxRecDepth 100000 in
set_option maxHeartbeats 4000000 in
theorem s_X10_most_a {l : Launch} {g : am_G} {B : am_M} {pl : Nat} (hL : am_Lay B pl) (hZ0 : am_ro B 4 12 = 0) (hN : 91 ≤ am_nx B) (a1 : Int32)  (u : am_U) : am_E l g d_X10_most 0 (am_ent d_X10_most [.ref (4), .int (a1)]) [] (am_of B u) (am_r (am_fI) (f_X10_most_a B pl a1 u)) := by
  unfold f_X10_most_a
  show am_E l g d_X10_most 0 [some (.ref (4)), some (.int (a1)), none, none] [] (am_of B u) _
  refine e_aload_n dX10_most_0 rfl ?_
  refine e_iload_n dX10_most_1 rfl ?_
  refine e_iconst dX10_most_2 (v := 0) (by decide) ?_
  refine q_callVP (As := [_, _]) rfl dX10_most_3 lm_N_268 (am_fitB rfl) yo_X10_refusePouring ys_X10_refusePouring rfl rfl (by decide) (am_Lk hL rfl) rfl (Nat.le_of_ble_eq_true rfl) (Nat.le_of_ble_eq_true rfl) (s_X10_refusePouring hL _ _  _) (fun q1 => ?_)
  refine e_istore_n dX10_most_6 (by decide) (LS1 := [_, _, _, none]) rfl ?_
  refine e_iload_n dX10_most_7 rfl ?_
  refine e_if_eq dX10_most_8 (tgt := 13) (by decide) ?_ ?_
  · refine e_aload_n dX10_most_13 rfl ?_
    refine e_iload_n dX10_most_14 rfl ?_
    refine q_callVQ (As := [_]) rfl dX10_most_15 lm_N_271 (am_fitB rfl) yo_X10_pouringsFrom ys_X10_pouringsFrom rfl rfl (by decide) (am_Lk hL rfl) rfl (Nat.le_of_ble_eq_true rfl) (Nat.le_of_ble_eq_true rfl) (s_X10_pouringsFrom_a hL hZ0 hN _ _) (fun q2 => ?_)
    refine e_astore_n dX10_most_18 (by decide) (LS1 := [_, _, _, _]) rfl ?_
    refine e_aload_n dX10_most_19 rfl ?_
    refine e_aload_n dX10_most_20 rfl ?_
    refine e_iload_n dX10_most_21 rfl ?_
    refine q_callVP (As := [_]) rfl dX10_most_22 lm_N_293 (am_fitB rfl) yo_X6_mostIn ys_X6_mostIn rfl rfl (by decide) (congrArg Prod.fst (am_pB_is hN).1) rfl (Nat.le_of_ble_eq_true rfl) (Nat.le_of_ble_eq_true rfl) (s_X6_mostIn (am_pB_L hL hN) _ _ (am_pB_is hN) _) (fun q3 => ?_)
    refine e_aload_n dX10_most_25 rfl ?_
    refine q_getI dX10_most_26 lf_N_296 (by decide) (congrArg Prod.fst (am_pB_is hN).1) ?_
    refine q_callVI (As := [_, _]) rfl dX10_most_29 lm_N_101 (am_fitB rfl) yo_X10_tell ys_X10_tell rfl rfl (by decide) (am_Lk (am_pB_L hL hN) rfl) rfl (Nat.le_of_ble_eq_true rfl) (Nat.le_of_ble_eq_true rfl) (s_X10_tell (am_pB_L hL hN) _ _  _) (fun q4 => ?_)
    exact e_iret dX10_most_32 rfl rfl
  · refine e_iload_n dX10_most_11 rfl ?_
    exact e_iret dX10_most_12 rfl rfl

def f_X10_share_28 (u : am_U) (v0 : Int32) (v1 : Nat) (v2 : Nat) (v3 : Int32) (v4 : Nat) (m4 : Nat) (v5 : Int32) (v6 : Int32) (k77 : Int32 → Option (Int32 × am_U)) : Nat → Int32 → Int32 → Option (Int32 × am_U)
  | 0, _, _ => none
  | n + 1, v7, v8 =>
    if v3 ≤ v8 then (
      k77 v7)
    else (
      am_ck (am_ix v8 60) (
      am_ck (am_ix v7 m4) (
      am_ck (am_ix v7 60) (
      am_ck (am_ix v8 m4) (
      if ((u (v1 + 1) v8.toNatClampNeg) * ((u v4 v7.toNatClampNeg) + 1)) ≤ ((u (v1 + 1) v7.toNatClampNeg) * ((u v4 v8.toNatClampNeg) + 1)) then (
        f_X10_share_28 u v0 v1 v2 v3 v4 m4 v5 v6 k77 n v7 (v8 + 1))
      else (
        f_X10_share_28 u v0 v1 v2 v3 v4 m4 v5 v6 k77 n v8 (v8 + 1)))))))
def f_X10_share_16 (v0 : Int32) (v1 : Nat) (v2 : Nat) (v3 : Int32) (v4 : Nat) (m4 : Nat) (k104 : Int32 → am_U → Option (Int32 × am_U)) : Nat → Int32 → Int32 → am_U → Option (Int32 × am_U)
  | 0, _, _, _ => none
  | n + 1, v5, v6, u =>
    if v0 ≤ v6 then (
      k104 v5 u)
    else (
      f_X10_share_28 u v0 v1 v2 v3 v4 m4 v5 v6 (fun (c6v7 : Int32) =>
        am_ck (am_ix c6v7 m4) (
        let u8 : am_U := am_w u v4 c6v7.toNatClampNeg ((u v4 c6v7.toNatClampNeg) + 1)
        (f_J9_max_7cf53 v5 (u8 v4 c6v7.toNatClampNeg)).bind (fun q9 =>
        f_X10_share_16 v0 v1 v2 v3 v4 m4 k104 n q9 (v6 + 1) u8))) 20000 0 1)
def f_X10_share (z : Nat) (a0 : Int32) (a1 : Nat) (a2 : Nat) (u : am_U) : Option (Int32 × am_U) :=
  am_ck (am_ix (u a1 1) 61) (
  let u1 : am_U := am_rw u z (fun _ => 0)
  f_X10_share_16 a0 a1 a2 (u a1 1) z ((u a1 1).toNatClampNeg) (fun (c10v5 : Int32) (c10u : am_U) =>
    (f_X8_makeAnew a2 (u a1 1) 0 c10u).bind (fun q11 =>
    am_ck (am_cp 0 0 (u a1 1) ((u a1 1).toNatClampNeg) 60) (
    let u12 : am_U := am_rw q11 (a2 + 1) (va_cpy (q11 z) (q11 (a2 + 1)) (0 : Int32).toNatClampNeg (0 : Int32).toNatClampNeg (u a1 1).toNatClampNeg)
    some (c10v5, u12)))) 20000 0 0 u1)
set_option maxRecDepth 100000 in
set_option maxHeartbeats 4000000 in
theorem s_X10_share_28 {l : Launch} {g : am_G} {B : am_M} {pl : Nat} (hL : am_Lay B pl) (u : am_U) (v0 : Int32) (v1 : Nat) (v2 : Nat) (v3 : Int32) (v4 : Nat) (m4 : Nat) (v5 : Int32) (v6 : Int32) (hv1 : am_isRow B v1) (hv2 : am_isRow B v2) (hv4 : am_sh B v4 = (12, m4)) (k77 : Int32 → Option (Int32 × am_U)) (hk77 : ∀ (v7 : Int32), am_E l g d_X10_share 77 [some (.int (v0)), some (.ref (v1)), some (.ref (v2)), some (.int (v3)), some (.ref (v4)), some (.int (v5)), some (.int (v6)), some (.int (v7)), none] [] (am_of B u) (am_r (am_bI B) (k77 v7))) : ∀ (n : Nat) (v7 : Int32) (v8 : Int32), am_E l g d_X10_share 28 [some (.int (v0)), some (.ref (v1)), some (.ref (v2)), some (.int (v3)), some (.ref (v4)), some (.int (v5)), some (.int (v6)), some (.int (v7)), some (.int (v8))] [] (am_of B u) (am_r (am_bI B) (f_X10_share_28 u v0 v1 v2 v3 v4 m4 v5 v6 k77 n v7 v8)) := by
  intro n
  induction n with
  | zero => intro v7 v8; exact am_none
  | succ n ih =>
    intro v7 v8
    unfold f_X10_share_28
    refine e_iload dX10_share_28 rfl ?_
    refine e_iload_n dX10_share_30 rfl ?_
    refine e_if2_ge dX10_share_31 (tgt := 77) (by decide) ?_ ?_
    · refine e_msk [true, true, true, true, true, true, true, true, false] (LS1 := [_, _, _, _, _, _, _, _, none]) rfl ?_
      exact hk77 v7
    · refine e_aload_n dX10_share_34 rfl ?_
      refine q_getR (r := v1 + 1) dX10_share_35 lf_N_98 rfl (by decide) (congrArg Prod.fst hv1.1) (am_avs hv1.2.1) ?_
      refine e_iload dX10_share_38 rfl ?_
      refine q_ialdH dX10_share_40 hv1.2.2 (fun i2 => ?_)
      refine e_aload dX10_share_41 rfl ?_
      refine e_iload dX10_share_43 rfl ?_
      refine q_ialdH dX10_share_45 hv4 (fun i3 => ?_)
      refine e_iconst dX10_share_46 (v := 1) (by decide) ?_
      refine e_iadd dX10_share_47 ?_
      refine e_imul dX10_share_48 ?_
      refine e_aload_n dX10_share_49 rfl ?_
      refine q_getR (r := v1 + 1) dX10_share_50 lf_N_98 rfl (by decide) (congrArg Prod.fst hv1.1) (am_avs hv1.2.1) ?_
      refine e_iload dX10_share_53 rfl ?_
      refine q_ialdH dX10_share_55 hv1.2.2 (fun i4 => ?_)
      refine e_aload dX10_share_56 rfl ?_
      refine e_iload dX10_share_58 rfl ?_
      refine q_ialdH dX10_share_60 hv4 (fun i5 => ?_)
      refine e_iconst dX10_share_61 (v := 1) (by decide) ?_
      refine e_iadd dX10_share_62 ?_
      refine e_imul dX10_share_63 ?_
      refine e_if2_le dX10_share_64 (tgt := 71) (by decide) ?_ ?_
      · refine e_iinc dX10_share_71 rfl (v := _ + 1) rfl (by decide) (LS1 := [_, _, _, _, _, _, _, _, _]) rfl ?_
        refine e_goto dX10_share_74 (tgt := 28) (by decide) ?_
        exact ih v7 (v8 + 1)
      · refine e_iload dX10_share_67 rfl ?_
        refine e_istore dX10_share_69 (by decide) (LS1 := [_, _, _, _, _, _, _, _, _]) rfl ?_
        refine e_iinc dX10_share_71 rfl (v := _ + 1) rfl (by decide) (LS1 := [_, _, _, _, _, _, _, _, _]) rfl ?_
        refine e_goto dX10_share_74 (tgt := 28) (by decide) ?_
        exact ih v8 (v8 + 1)

set_option maxRecDepth 100000 in
set_option maxHeartbeats 4000000 in
theorem s_X10_share_16 {l : Launch} {g : am_G} {B : am_M} {pl : Nat} (hL : am_Lay B pl) (v0 : Int32) (v1 : Nat) (v2 : Nat) (v3 : Int32) (v4 : Nat) (m4 : Nat) (hv1 : am_isRow B v1) (hv2 : am_isRow B v2) (hv4 : am_sh B v4 = (12, m4)) (k104 : Int32 → am_U → Option (Int32 × am_U)) (hk104 : ∀ (v5 : Int32) (u : am_U), am_E l g d_X10_share 104 [none, none, some (.ref (v2)), some (.int (v3)), some (.ref (v4)), some (.int (v5)), none, none, none] [] (am_of B u) (am_r (am_bI B) (k104 v5 u))) : ∀ (n : Nat) (v5 : Int32) (v6 : Int32) (u : am_U), am_E l g d_X10_share 16 [some (.int (v0)), some (.ref (v1)), some (.ref (v2)), some (.int (v3)), some (.ref (v4)), some (.int (v5)), some (.int (v6)), none, none] [] (am_of B u) (am_r (am_bI B) (f_X10_share_16 v0 v1 v2 v3 v4 m4 k104 n v5 v6 u)) := by
  intro n
  induction n with
  | zero => intro v5 v6 u; exact am_none
  | succ n ih =>
    intro v5 v6 u
    unfold f_X10_share_16
    refine e_iload dX10_share_16 rfl ?_
    refine e_iload_n dX10_share_18 rfl ?_
    refine e_if2_ge dX10_share_19 (tgt := 104) (by decide) ?_ ?_
    · refine e_msk [false, false, true, true, true, true, false, false, false] (LS1 := [none, none, _, _, _, _, none, none, none]) rfl ?_
      exact hk104 v5 u
    · refine e_iconst dX10_share_22 (v := 0) (by decide) ?_
      refine e_istore dX10_share_23 (by decide) (LS1 := [_, _, _, _, _, _, _, _, none]) rfl ?_
      refine e_iconst dX10_share_25 (v := 1) (by decide) ?_
      refine e_istore dX10_share_26 (by decide) (LS1 := [_, _, _, _, _, _, _, _, _]) rfl ?_
      refine s_X10_share_28 hL _ _ _ _ _ _ _ _ _ hv1 hv2 hv4 _ (fun c6v7 => ?_) _ _ _
      · refine e_aload dX10_share_77 rfl ?_
        refine e_iload dX10_share_79 rfl ?_
        refine e_dup2 dX10_share_81 rfl rfl ?_
        refine q_ialdH dX10_share_82 hv4 (fun i7 => ?_)
        refine e_iconst dX10_share_83 (v := 1) (by decide) ?_
        refine e_iadd dX10_share_84 ?_
        refine q_iastC (jn := _) dX10_share_85 hv4 i7 rfl ?_
        refine e_iload dX10_share_86 rfl ?_
        refine e_aload dX10_share_88 rfl ?_
        refine e_iload dX10_share_90 rfl ?_
        refine q_ialdC (jn := _) dX10_share_92 hv4 i7 rfl ?_
        refine q_callSP (As := [_, _]) rfl dX10_share_93 lm_N_398 (am_fitB rfl) yo_J9_max_7cf53 ys_J9_max_7cf53 rfl (Nat.le_of_ble_eq_true rfl) (Nat.le_of_ble_eq_true rfl) (s_J9_max_7cf53 hL _ _  _) (fun q9 => ?_)
        refine e_istore dX10_share_96 (by decide) (LS1 := [_, _, _, _, _, _, _, _, none]) rfl ?_
        refine e_iinc dX10_share_98 rfl (v := _ + 1) rfl (by decide) (LS1 := [_, _, _, _, _, _, _, _, none]) rfl ?_
        refine e_goto dX10_share_101 (tgt := 16) (by decide) ?_
        refine e_msk [true, true, true, true, true, true, true, false, false] (LS1 := [_, _, _, _, _, _, _, none, none]) rfl ?_
        exact ih q9 (v6 + 1) (am_w u v4 c6v7.toNatClampNeg ((u v4 c6v7.toNatClampNeg) + 1))

set_option maxRecDepth 100000 in
set_option maxHeartbeats 4000000 in
theorem s_X10_share {l : Launch} {g : am_G} {B : am_M} {pl : Nat} (hL : am_Lay B pl) (hN : 91 ≤ am_nx B) (a0 : Int32) (a1 : Nat) (a2 : Nat) (h1 : am_isRow B a1) (h2 : am_isRow B a2) (r1 : a1 + 1 < am_nx B) (r2 : a2 + 1 < am_nx B) (u : am_U) : am_E l g d_X10_share 0 (am_ent d_X10_share [.int (a0), .ref (a1), .ref (a2)]) [] (am_of B u) (am_r (am_bI (am_mk B 12 (u a1 1).toNatClampNeg)) (f_X10_share (am_nx B) a0 a1 a2 u)) := by
  unfold f_X10_share
  show am_E l g d_X10_share 0 [some (.int (a0)), some (.ref (a1)), some (.ref (a2)), none, none, none, none, none, none] [] (am_of B u) _
  refine e_aload_n dX10_share_0 rfl ?_
  refine q_getI dX10_share_1 lf_N_109 (by decide) (congrArg Prod.fst h1.1) ?_
  refine e_istore_n dX10_share_4 (by decide) (LS1 := [_, _, _, _, none, none, none, none, none]) rfl ?_
  refine e_iload_n dX10_share_5 rfl ?_
  refine q_newq dX10_share_6 ?_
  refine e_astore dX10_share_8 (by decide) (LS1 := [_, _, _, _, _, none, none, none, none]) rfl ?_
  refine e_iconst dX10_share_10 (v := 0) (by decide) ?_
  refine e_istore dX10_share_11 (by decide) (LS1 := [_, _, _, _, _, _, none, none, none]) rfl ?_
  refine e_iconst dX10_share_13 (v := 0) (by decide) ?_
  refine e_istore dX10_share_14 (by decide) (LS1 := [_, _, _, _, _, _, _, none, none]) rfl ?_
  refine s_X10_share_16 (am_LayK hL hN) _ _ _ _ _ _ (am_rowK h1 r1) (am_rowK h2 r2) am_rw_s _ (fun c10v5 c10u => ?_) _ _ _ _
  · refine e_aload_n dX10_share_104 rfl ?_
    refine e_iload_n dX10_share_105 rfl ?_
    refine e_iconst dX10_share_106 (v := 0) (by decide) ?_
    refine q_callVV (As := [_, _]) rfl dX10_share_107 lm_N_379 (am_fitB rfl) yo_X8_makeAnew ys_X8_makeAnew rfl rfl (by decide) (congrArg Prod.fst (am_rowK h2 r2).1) rfl (Nat.le_of_ble_eq_true rfl) (Nat.le_of_ble_eq_true rfl) (s_X8_makeAnew (am_LayK hL hN) _ _ _ (am_rowK h2 r2) _) (fun q11 => ?_)
    refine e_aload dX10_share_110 rfl ?_
    refine e_iconst dX10_share_112 (v := 0) (by decide) ?_
    refine e_aload_n dX10_share_113 rfl ?_
    refine q_getR (r := a2 + 1) dX10_share_114 lf_N_98 rfl (by decide) (congrArg Prod.fst (am_rowK h2 r2).1) (am_avs (am_rowK h2 r2).2.1) ?_
    refine e_iconst dX10_share_117 (v := 0) (by decide) ?_
    refine e_iload_n dX10_share_118 rfl ?_
    refine q_copy dX10_share_119 lm_N_125 lw_nat lw_cps lw_sys am_rw_s (am_rowK h2 r2).2.2 (by decide) (by decide +kernel) ?_
    refine e_iload dX10_share_122 rfl ?_
    exact e_iret dX10_share_124 rfl rfl

def f_X10_seats (B : am_M) (a1 : Int32) (a2 : Int32) (a3 : Int32) (u : am_U) : Option (Int32 × am_M) :=
  (f_X10_isWithin a1 0 99).bind (fun q1 =>
  am_jn (fun (j2s0 : Int32) (j2u : am_U) =>
    if j2s0 = 0 then (
      am_ck (am_ix a2 6) (
      (f_X10_isWithin (j2u (2 * a2.toNatClampNeg + 40) 1) 1 6).bind (fun q4 =>
      if ¬ q4 = 0 then (
        (f_X8_isAllWithin (2 * a2.toNatClampNeg + 40) 0 99 j2u).bind (fun q5 =>
        if ¬ q5 = 0 then (
          (f_X8_sum (2 * a2.toNatClampNeg + 40) j2u).bind (fun q6 =>
          if ¬ (lg_cmp q6 (0 : Int64)) = 0 then (
            am_ck (am_ix a3 6) (
            (f_X10_share (am_nx B) a1 (2 * a2.toNatClampNeg + 40) (2 * a3.toNatClampNeg + 40) j2u).bind (fun q8 =>
            some (q8.1, am_of (am_mk B 12 (j2u (2 * a2.toNatClampNeg + 40) 1).toNatClampNeg) q8.2))))
          else (
            (f_X10_find 4 j2u).bind (fun q9 =>
            some (q9.1, am_of B q9.2)))))
        else (
          (f_X10_find 3 j2u).bind (fun q10 =>
          some (q10.1, am_of B q10.2)))))
      else (
        (f_X10_find 5 j2u).bind (fun q11 =>
        some (q11.1, am_of B q11.2))))))
    else (
      some (j2s0, am_of B j2u))) (fun j2 =>
  am_jn (fun (j12z : Unit) =>
    j2 ((-1) : Int32) u) (fun j12 =>
  if q1 = 0 then (
    j12 () )
  else (
    (f_X10_isWithin a3 0 5).bind (fun q13 =>
    if q13 = 0 then (
      j12 () )
    else (
      (f_X10_refuseRow 5 a2 u).bind (fun q14 =>
      j2 q14.1 q14.2)))))))
set_option maxRecDepth 100000 in
set_option maxHeartbeats 4000000 in
theorem s_X10_seats {l : Launch} {g : am_G} {B : am_M} {pl : Nat} (hL : am_Lay B pl) (hN : 91 ≤ am_nx B) (a1 : Int32) (a2 : Int32) (a3 : Int32)  (u : am_U) : am_E l g d_X10_seats 0 (am_ent d_X10_seats [.ref (4), .int (a1), .int (a2), .int (a3)]) [] (am_of B u) (am_r (am_fI) (f_X10_seats B a1 a2 a3 u)) := by
  unfold f_X10_seats
  show am_E l g d_X10_seats 0 [some (.ref (4)), some (.int (a1)), some (.int (a2)), some (.int (a3)), none, none] [] (am_of B u) _
  refine e_iload_n dX10_seats_0 rfl ?_
  refine e_iconst dX10_seats_1 (v := 0) (by decide) ?_
  refine e_bipush dX10_seats_2 (v := 99) (by decide) ?_
  refine q_callSP (As := [_, _, _]) rfl dX10_seats_4 lm_N_86 (am_fitB rfl) yo_X10_isWithin ys_X10_isWithin rfl (Nat.le_of_ble_eq_true rfl) (Nat.le_of_ble_eq_true rfl) (s_X10_isWithin hL _ _ _  _) (fun q1 => ?_)
  refine e_jn (P := fun t : Int32 → am_U → Option (Int32 × am_M) => ∀ (j2s0 : Int32) (j2u : am_U), am_E l g d_X10_seats 32 [some (.ref (4)), some (.int (a1)), some (.int (a2)), some (.int (a3)), none, none] [.int (j2s0)] (am_of B j2u) (am_r (am_fI) (t j2s0 j2u))) ?_ (fun j2 hj2 => ?_)
  · intro j2s0 j2u
    refine e_istore dX10_seats_32 (by decide) (LS1 := [_, _, _, _, _, none]) rfl ?_
    refine e_iload dX10_seats_34 rfl ?_
    refine e_if_eq dX10_seats_36 (tgt := 42) (by decide) ?_ ?_
    · refine e_aload_n dX10_seats_42 rfl ?_
      refine q_getR (r := 5) dX10_seats_43 lf_N_11 rfl (by decide) (am_Lk hL rfl) (am_Lr hL rfl) ?_
      refine e_iload_n dX10_seats_46 rfl ?_
      refine q_aald (n := 6) (rid := 2 * a2.toNatClampNeg + 40) dX10_seats_47 (am_rows5 hL).1 (fun h => ((am_rows5 hL).2 _ h).1) (fun i3 => ?_)
      refine e_astore dX10_seats_48 (by decide) (LS1 := [_, _, _, _, _, _]) rfl ?_
      refine e_aload dX10_seats_50 rfl ?_
      refine q_getI dX10_seats_52 lf_N_109 (by decide) (congrArg Prod.fst ((am_rows5 hL).2 _ i3).2.1) ?_
      refine e_iconst dX10_seats_55 (v := 1) (by decide) ?_
      refine e_bipush dX10_seats_56 (v := 6) (by decide) ?_
      refine q_callSP (As := [_, _, _]) rfl dX10_seats_58 lm_N_86 (am_fitB rfl) yo_X10_isWithin ys_X10_isWithin rfl (Nat.le_of_ble_eq_true rfl) (Nat.le_of_ble_eq_true rfl) (s_X10_isWithin hL _ _ _  _) (fun q4 => ?_)
      refine e_if_ne dX10_seats_61 (tgt := 70) (by decide) ?_ ?_
      · refine e_aload dX10_seats_70 rfl ?_
        refine e_iconst dX10_seats_72 (v := 0) (by decide) ?_
        refine e_bipush dX10_seats_73 (v := 99) (by decide) ?_
        refine q_callVP (As := [_, _]) rfl dX10_seats_75 lm_N_320 (am_fitB rfl) yo_X8_isAllWithin ys_X8_isAllWithin rfl rfl (by decide) (congrArg Prod.fst ((am_rows5 hL).2 _ i3).2.1) rfl (Nat.le_of_ble_eq_true rfl) (Nat.le_of_ble_eq_true rfl) (s_X8_isAllWithin hL _ _ _ ((am_rows5 hL).2 _ i3).2 _) (fun q5 => ?_)
        refine e_if_ne dX10_seats_78 (tgt := 87) (by decide) ?_ ?_
        · refine e_aload dX10_seats_87 rfl ?_
          refine q_callVN (As := []) rfl dX10_seats_89 lm_N_131 (am_fitB rfl) yo_X8_sum ys_X8_sum rfl rfl (by decide) (congrArg Prod.fst ((am_rows5 hL).2 _ i3).2.1) rfl (Nat.le_of_ble_eq_true rfl) (Nat.le_of_ble_eq_true rfl) (s_X8_sum hL _ ((am_rows5 hL).2 _ i3).2 _) (fun q6 => ?_)
          refine e_lconst dX10_seats_92 (v := 0) (by decide) ?_
          refine e_lcmp dX10_seats_93 ?_
          refine e_if_ne dX10_seats_94 (tgt := 103) (by decide) ?_ ?_
          · refine e_iload_n dX10_seats_103 rfl ?_
            refine e_aload dX10_seats_104 rfl ?_
            refine e_aload_n dX10_seats_106 rfl ?_
            refine q_getR (r := 5) dX10_seats_107 lf_N_11 rfl (by decide) (am_Lk hL rfl) (am_Lr hL rfl) ?_
            refine e_iload_n dX10_seats_110 rfl ?_
            refine q_aald (n := 6) (rid := 2 * a3.toNatClampNeg + 40) dX10_seats_111 (am_rows5 hL).1 (fun h => ((am_rows5 hL).2 _ h).1) (fun i7 => ?_)
            refine q_callSJ (As := [_, _, _]) rfl dX10_seats_112 lm_N_323 (am_fitB rfl) yo_X10_share ys_X10_share rfl (Nat.le_of_ble_eq_true rfl) (Nat.le_of_ble_eq_true rfl) (s_X10_share hL hN _ _ _ ((am_rows5 hL).2 _ i3).2 ((am_rows5 hL).2 _ i7).2 (by have h := am_ixlt i3; have h : _ < 6 := h; show 2 * _ + 40 + 1 < _; omega) (by have h := am_ixlt i7; have h : _ < 6 := h; show 2 * _ + 40 + 1 < _; omega) _) (fun q8 => ?_)
            exact e_iret dX10_seats_115 rfl rfl
          · refine e_aload_n dX10_seats_97 rfl ?_
            refine e_iconst dX10_seats_98 (v := 4) (by decide) ?_
            refine q_callVI (As := [_]) rfl dX10_seats_99 lm_N_113 (am_fitB rfl) yo_X10_find ys_X10_find rfl rfl (by decide) (am_Lk hL rfl) rfl (Nat.le_of_ble_eq_true rfl) (Nat.le_of_ble_eq_true rfl) (s_X10_find hL _  _) (fun q9 => ?_)
            exact e_iret dX10_seats_102 rfl rfl
        · refine e_aload_n dX10_seats_81 rfl ?_
          refine e_iconst dX10_seats_82 (v := 3) (by decide) ?_
          refine q_callVI (As := [_]) rfl dX10_seats_83 lm_N_113 (am_fitB rfl) yo_X10_find ys_X10_find rfl rfl (by decide) (am_Lk hL rfl) rfl (Nat.le_of_ble_eq_true rfl) (Nat.le_of_ble_eq_true rfl) (s_X10_find hL _  _) (fun q10 => ?_)
          exact e_iret dX10_seats_86 rfl rfl
      · refine e_aload_n dX10_seats_64 rfl ?_
        refine e_iconst dX10_seats_65 (v := 5) (by decide) ?_
        refine q_callVI (As := [_]) rfl dX10_seats_66 lm_N_113 (am_fitB rfl) yo_X10_find ys_X10_find rfl rfl (by decide) (am_Lk hL rfl) rfl (Nat.le_of_ble_eq_true rfl) (Nat.le_of_ble_eq_true rfl) (s_X10_find hL _  _) (fun q11 => ?_)
        exact e_iret dX10_seats_69 rfl rfl
    · refine e_iload dX10_seats_39 rfl ?_
      exact e_iret dX10_seats_41 rfl rfl
  · refine e_jn (P := fun t : Unit → Option (Int32 × am_M) => ∀ (j12z : Unit), am_E l g d_X10_seats 31 [some (.ref (4)), some (.int (a1)), some (.int (a2)), some (.int (a3)), none, none] [] (am_of B u) (am_r (am_fI) (t j12z))) ?_ (fun j12 hj12 => ?_)
    · intro j12z
      refine e_iconst dX10_seats_31 (v := ((-1) : Int32)) (by decide) ?_
      refine e_msk [true, true, true, true, false, false] (LS1 := [_, _, _, _, none, none]) rfl ?_
      exact hj2 ((-1) : Int32) u
    · refine e_if_eq dX10_seats_7 (tgt := 31) (by decide) ?_ ?_
      · refine e_msk [true, true, true, true, false, false] (LS1 := [_, _, _, _, none, none]) rfl ?_
        exact hj12 () 
      · refine e_iload_n dX10_seats_10 rfl ?_
        refine e_iconst dX10_seats_11 (v := 0) (by decide) ?_
        refine e_iconst dX10_seats_12 (v := 5) (by decide) ?_
        refine q_callSP (As := [_, _, _]) rfl dX10_seats_13 lm_N_86 (am_fitB rfl) yo_X10_isWithin ys_X10_isWithin rfl (Nat.le_of_ble_eq_true rfl) (Nat.le_of_ble_eq_true rfl) (s_X10_isWithin hL _ _ _  _) (fun q13 => ?_)
        refine e_if_eq dX10_seats_16 (tgt := 31) (by decide) ?_ ?_
        · refine e_msk [true, true, true, true, false, false] (LS1 := [_, _, _, _, none, none]) rfl ?_
          exact hj12 () 
        · refine e_aload_n dX10_seats_19 rfl ?_
          refine e_aload_n dX10_seats_20 rfl ?_
          refine q_getR (r := 5) dX10_seats_21 lf_N_11 rfl (by decide) (am_Lk hL rfl) (am_Lr hL rfl) ?_
          refine e_iload_n dX10_seats_24 rfl ?_
          refine q_callVI (As := [_, _]) rfl dX10_seats_25 lm_N_105 (am_fitB rfl) yo_X10_refuseRow ys_X10_refuseRow rfl rfl (by decide) (am_Lk hL rfl) rfl (Nat.le_of_ble_eq_true rfl) (Nat.le_of_ble_eq_true rfl) (s_X10_refuseRow hL _ _ (am_rows5 hL) _) (fun q14 => ?_)
          refine e_goto dX10_seats_28 (tgt := 32) (by decide) ?_
          refine e_msk [true, true, true, true, false, false] (LS1 := [_, _, _, _, none, none]) rfl ?_
          exact hj2 q14.1 q14.2

