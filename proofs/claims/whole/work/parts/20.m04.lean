def f_X11_isText (a0 : Int32) : Option (Int32) :=
  (f_X11_in a0 0 3).bind (fun q1 =>
  am_ck (q1 == 0 || q1 == 1) (some q1))
set_option maxRecDepth 100000 in
set_option maxHeartbeats 4000000 in
theorem s_X11_isText {l : Launch} {g : am_G} {B : am_M} {pl : Nat} (hL : am_Lay B pl) (a0 : Int32)  (u : am_U) : am_E l g d_X11_isText 0 (am_ent d_X11_isText [.int (a0)]) [] (am_of B u) (am_r (am_bP B u) (f_X11_isText a0)) := by
  unfold f_X11_isText
  show am_E l g d_X11_isText 0 [some (.int (a0))] [] (am_of B u) _
  refine e_iload_n dX11_isText_0 rfl ?_
  refine e_iconst dX11_isText_1 (v := 0) (by decide) ?_
  refine e_iconst dX11_isText_2 (v := 3) (by decide) ?_
  refine q_callSP (As := [_, _, _]) rfl dX11_isText_3 lm_M_106 (am_fitB rfl) yo_X11_in ys_X11_in rfl (Nat.le_of_ble_eq_true rfl) (Nat.le_of_ble_eq_true rfl) (s_X11_in hL _ _ _  _) (fun q1 => ?_)
  exact e_zretq dX11_isText_6 rfl rfl

def f_X11_isValley (a0 : Int32) : Option (Int32) :=
  (f_X11_in a0 1 4).bind (fun q1 =>
  am_ck (q1 == 0 || q1 == 1) (some q1))
set_option maxRecDepth 100000 in
set_option maxHeartbeats 4000000 in
theorem s_X11_isValley {l : Launch} {g : am_G} {B : am_M} {pl : Nat} (hL : am_Lay B pl) (a0 : Int32)  (u : am_U) : am_E l g d_X11_isValley 0 (am_ent d_X11_isValley [.int (a0)]) [] (am_of B u) (am_r (am_bP B u) (f_X11_isValley a0)) := by
  unfold f_X11_isValley
  show am_E l g d_X11_isValley 0 [some (.int (a0))] [] (am_of B u) _
  refine e_iload_n dX11_isValley_0 rfl ?_
  refine e_iconst dX11_isValley_1 (v := 1) (by decide) ?_
  refine e_iconst dX11_isValley_2 (v := 4) (by decide) ?_
  refine q_callSP (As := [_, _, _]) rfl dX11_isValley_3 lm_M_106 (am_fitB rfl) yo_X11_in ys_X11_in rfl (Nat.le_of_ble_eq_true rfl) (Nat.le_of_ble_eq_true rfl) (s_X11_in hL _ _ _  _) (fun q1 => ?_)
  exact e_zretq dX11_isValley_6 rfl rfl

def f_X11_keep_23 (v1 : Int32) (k52 : am_U → Option (Int32 × am_U)) : Nat → Int32 → am_U → Option (Int32 × am_U)
  | 0, _, _ => none
  | n + 1, v2, u =>
    if 30 ≤ v2 then (
      k52 u)
    else (
      am_ck (am_ix v2 30) (
      am_ck (am_ix ((30 * v1) + v2) 90) (
      let u3 : am_U := am_w u 78 ((30 * v1) + v2).toNatClampNeg (u 75 v2.toNatClampNeg)
      f_X11_keep_23 v1 k52 n (v2 + 1) u3)))
def f_X11_keep (a1 : Int32) (u : am_U) : Option (Int32 × am_U) :=
  (f_X11_in a1 0 2).bind (fun q1 =>
  if ¬ q1 = 0 then (
    if ¬ (u 60 12) = 0 then (
      f_X11_keep_23 a1 (fun (c5u : am_U) =>
        am_ck (am_ix a1 3) (
        let u6 : am_U := am_w c5u 77 a1.toNatClampNeg 1
        some (u6 75 28, u6))) 20000 0 u)
    else (
      some (((-4) : Int32), u)))
  else (
    some (((-1) : Int32), u)))
set_option maxRecDepth 100000 in
set_option maxHeartbeats 4000000 in
theorem s_X11_keep_23 {l : Launch} {g : am_G} {B : am_M} {pl : Nat} (hL : am_Lay B pl) (v1 : Int32)  (k52 : am_U → Option (Int32 × am_U)) (hk52 : ∀  (u : am_U), am_E l g d_X11_keep 52 [some (.ref (60)), some (.int (v1)), none] [] (am_of B u) (am_r (am_bI B) (k52 u))) : ∀ (n : Nat) (v2 : Int32) (u : am_U), am_E l g d_X11_keep 23 [some (.ref (60)), some (.int (v1)), some (.int (v2))] [] (am_of B u) (am_r (am_bI B) (f_X11_keep_23 v1 k52 n v2 u)) := by
  intro n
  induction n with
  | zero => intro v2 u; exact am_none
  | succ n ih =>
    intro v2 u
    unfold f_X11_keep_23
    refine e_iload_n dX11_keep_23 rfl ?_
    refine e_bipush dX11_keep_24 (v := 30) (by decide) ?_
    refine e_if2_ge dX11_keep_26 (tgt := 52) (by decide) ?_ ?_
    · refine e_msk [true, true, false] (LS1 := [_, _, none]) rfl ?_
      exact hk52 u
    · refine e_aload_n dX11_keep_29 rfl ?_
      refine q_getR (r := 78) dX11_keep_30 lf_M_63 rfl (by decide) (am_Lk hL rfl) (am_Lr hL rfl) ?_
      refine e_bipush dX11_keep_33 (v := 30) (by decide) ?_
      refine e_iload_n dX11_keep_35 rfl ?_
      refine e_imul dX11_keep_36 ?_
      refine e_iload_n dX11_keep_37 rfl ?_
      refine e_iadd dX11_keep_38 ?_
      refine e_aload_n dX11_keep_39 rfl ?_
      refine q_getR (r := 75) dX11_keep_40 lf_M_53 rfl (by decide) (am_Lk hL rfl) (am_Lr hL rfl) ?_
      refine e_iload_n dX11_keep_43 rfl ?_
      refine q_ialdH dX11_keep_44 (am_Ls hL rfl) (fun i2 => ?_)
      refine q_iastH dX11_keep_45 (am_Ls hL rfl) (fun i4 => ?_)
      refine e_iinc dX11_keep_46 rfl (v := _ + 1) rfl (by decide) (LS1 := [_, _, _]) rfl ?_
      refine e_goto dX11_keep_49 (tgt := 23) (by decide) ?_
      exact ih (v2 + 1) (am_w u 78 ((30 * v1) + v2).toNatClampNeg (u 75 v2.toNatClampNeg))

set_option maxRecDepth 100000 in
set_option maxHeartbeats 4000000 in
theorem s_X11_keep {l : Launch} {g : am_G} {B : am_M} {pl : Nat} (hL : am_Lay B pl) (a1 : Int32)  (u : am_U) : am_E l g d_X11_keep 0 (am_ent d_X11_keep [.ref (60), .int (a1)]) [] (am_of B u) (am_r (am_bI B) (f_X11_keep a1 u)) := by
  unfold f_X11_keep
  show am_E l g d_X11_keep 0 [some (.ref (60)), some (.int (a1)), none] [] (am_of B u) _
  refine e_iload_n dX11_keep_0 rfl ?_
  refine e_iconst dX11_keep_1 (v := 0) (by decide) ?_
  refine e_iconst dX11_keep_2 (v := 2) (by decide) ?_
  refine q_callSP (As := [_, _, _]) rfl dX11_keep_3 lm_M_106 (am_fitB rfl) yo_X11_in ys_X11_in rfl (Nat.le_of_ble_eq_true rfl) (Nat.le_of_ble_eq_true rfl) (s_X11_in hL _ _ _  _) (fun q1 => ?_)
  refine e_if_ne dX11_keep_6 (tgt := 11) (by decide) ?_ ?_
  · refine e_aload_n dX11_keep_11 rfl ?_
    refine q_getI dX11_keep_12 lf_M_184 (by decide) (am_Lk hL rfl) ?_
    refine e_if_ne dX11_keep_15 (tgt := 21) (by decide) ?_ ?_
    · refine e_iconst dX11_keep_21 (v := 0) (by decide) ?_
      refine e_istore_n dX11_keep_22 (by decide) (LS1 := [_, _, _]) rfl ?_
      refine s_X11_keep_23 hL _ _ (fun c5u => ?_) _ _ _
      · refine e_aload_n dX11_keep_52 rfl ?_
        refine q_getR (r := 77) dX11_keep_53 lf_M_59 rfl (by decide) (am_Lk hL rfl) (am_Lr hL rfl) ?_
        refine e_iload_n dX11_keep_56 rfl ?_
        refine e_iconst dX11_keep_57 (v := 1) (by decide) ?_
        refine q_zast dX11_keep_58 (am_Ls hL rfl) (Or.inr rfl) ?_
        refine e_aload_n dX11_keep_59 rfl ?_
        refine q_getR (r := 75) dX11_keep_60 lf_M_53 rfl (by decide) (am_Lk hL rfl) (am_Lr hL rfl) ?_
        refine e_bipush dX11_keep_63 (v := 28) (by decide) ?_
        refine q_ialdC (jn := 28) dX11_keep_65 (am_Ls hL rfl) (by decide) (by decide) ?_
        exact e_iret dX11_keep_66 rfl rfl
    · refine e_bipush dX11_keep_18 (v := ((-4) : Int32)) (by decide) ?_
      exact e_iret dX11_keep_20 rfl rfl
  · refine e_iconst dX11_keep_9 (v := ((-1) : Int32)) (by decide) ?_
    exact e_iret dX11_keep_10 rfl rfl

def f_X11_leakOf (a0 : Int32) (a1 : Int32) (a2 : Int32) : Option (Int32) :=
  if a0 = 1 then (
    (f_X11_tenth (2 * a1)).bind (fun q1 =>
    some q1))
  else   if a0 = 2 then (
    if a2 = 0 then (
      some 0)
    else (
      (f_X11_tenth a1).bind (fun q2 =>
      some q2)))
  else   if a0 = 4 then (
    some 0)
  else (
    (f_X11_tenth a1).bind (fun q3 =>
    some q3))
set_option maxRecDepth 100000 in
set_option maxHeartbeats 4000000 in
theorem s_X11_leakOf {l : Launch} {g : am_G} {B : am_M} {pl : Nat} (hL : am_Lay B pl) (a0 : Int32) (a1 : Int32) (a2 : Int32)  (u : am_U) : am_E l g d_X11_leakOf 0 (am_ent d_X11_leakOf [.int (a0), .int (a1), .int (a2)]) [] (am_of B u) (am_r (am_bP B u) (f_X11_leakOf a0 a1 a2)) := by
  unfold f_X11_leakOf
  show am_E l g d_X11_leakOf 0 [some (.int (a0)), some (.int (a1)), some (.int (a2))] [] (am_of B u) _
  refine e_iload_n dX11_leakOf_0 rfl ?_
  refine e_sw (c := 1) (fun hc => ?_) (fun hn0 => ?_)
  · subst hc
    refine e_tabIn dX11_leakOf_1 (tgt := 32) (by decide) (by decide) rfl (by decide) ?_
    refine e_iconst dX11_leakOf_32 (v := 2) (by decide) ?_
    refine e_iload_n dX11_leakOf_33 rfl ?_
    refine e_imul dX11_leakOf_34 ?_
    refine q_callSP (As := [_]) rfl dX11_leakOf_35 lm_M_193 (am_fitB rfl) yo_X11_tenth ys_X11_tenth rfl (Nat.le_of_ble_eq_true rfl) (Nat.le_of_ble_eq_true rfl) (s_X11_tenth hL _  _) (fun q1 => ?_)
    exact e_iret dX11_leakOf_38 rfl rfl
  refine e_sw (c := 2) (fun hc => ?_) (fun hn1 => ?_)
  · subst hc
    refine e_tabIn dX11_leakOf_1 (tgt := 39) (by decide) (by decide) rfl (by decide) ?_
    refine e_iload_n dX11_leakOf_39 rfl ?_
    refine e_if_eq dX11_leakOf_40 (tgt := 50) (by decide) ?_ ?_
    · refine e_iconst dX11_leakOf_50 (v := 0) (by decide) ?_
      exact e_iret dX11_leakOf_51 rfl rfl
    · refine e_iload_n dX11_leakOf_43 rfl ?_
      refine q_callSP (As := [_]) rfl dX11_leakOf_44 lm_M_193 (am_fitB rfl) yo_X11_tenth ys_X11_tenth rfl (Nat.le_of_ble_eq_true rfl) (Nat.le_of_ble_eq_true rfl) (s_X11_tenth hL _  _) (fun q2 => ?_)
      refine e_goto dX11_leakOf_47 (tgt := 51) (by decide) ?_
      exact e_iret dX11_leakOf_51 rfl rfl
  refine e_sw (c := 4) (fun hc => ?_) (fun hn2 => ?_)
  · subst hc
    refine e_tabIn dX11_leakOf_1 (tgt := 52) (by decide) (by decide) rfl (by decide) ?_
    refine e_iconst dX11_leakOf_52 (v := 0) (by decide) ?_
    exact e_iret dX11_leakOf_53 rfl rfl
  have hm0 := lv_neT hn0 (show (1 : Int32).toInt = 1 by decide)
  have hm1 := lv_neT hn1 (show (2 : Int32).toInt = 2 by decide)
  have hm2 := lv_neT hn2 (show (4 : Int32).toInt = 4 by decide)
  by_cases hh0 : a0 = 3
  · subst hh0
    refine e_tabIn dX11_leakOf_1 (tgt := 54) (by decide) (by decide) rfl (by decide) ?_
    refine e_iload_n dX11_leakOf_54 rfl ?_
    refine q_callSP (As := [_]) rfl dX11_leakOf_55 lm_M_193 (am_fitB rfl) yo_X11_tenth ys_X11_tenth rfl (Nat.le_of_ble_eq_true rfl) (Nat.le_of_ble_eq_true rfl) (s_X11_tenth hL _  _) (fun q3 => ?_)
    exact e_iret dX11_leakOf_58 rfl rfl
  have hk0 := lv_neT hh0 (show (3 : Int32).toInt = 3 by decide)
  refine e_tabOut dX11_leakOf_1 (tgt := 54) (by omega) (by decide) ?_
  refine e_iload_n dX11_leakOf_54 rfl ?_
  refine q_callSP (As := [_]) rfl dX11_leakOf_55 lm_M_193 (am_fitB rfl) yo_X11_tenth ys_X11_tenth rfl (Nat.le_of_ble_eq_true rfl) (Nat.le_of_ble_eq_true rfl) (s_X11_tenth hL _  _) (fun q3 => ?_)
  exact e_iret dX11_leakOf_58 rfl rfl

def f_X11_leftOf_5 (v1 : Int32) (v2 : Int32) : Nat → Int32 → Int32 → Option (Int32)
  | 0, _, _ => none
  | n + 1, v3, v4 =>
    if v2 ≤ v4 then (
      some v3)
    else (
      if v3 < 0 then (
        some v3)
      else (
        am_jn (fun (j1s0 : Int32) =>
          f_X11_leftOf_5 v1 v2 n ((v3 - j1s0) - v1) (v4 + 1)) (fun j1 =>
        if v4 ≤ 0 then (
          j1 0)
        else (
          (f_X11_tenth v3).bind (fun q2 =>
          j1 q2)))))
def f_X11_leftOf (a0 : Int32) (a1 : Int32) (a2 : Int32) : Option (Int32) :=
  f_X11_leftOf_5 a1 a2 20000 a0 0
set_option maxRecDepth 100000 in
set_option maxHeartbeats 4000000 in
theorem s_X11_leftOf_5 {l : Launch} {g : am_G} {B : am_M} {pl : Nat} (hL : am_Lay B pl) (u : am_U) (v1 : Int32) (v2 : Int32)    : ∀ (n : Nat) (v3 : Int32) (v4 : Int32), am_E l g d_X11_leftOf 5 [none, some (.int (v1)), some (.int (v2)), some (.int (v3)), some (.int (v4))] [] (am_of B u) (am_r (am_bP B u) (f_X11_leftOf_5 v1 v2 n v3 v4)) := by
  intro n
  induction n with
  | zero => intro v3 v4; exact am_none
  | succ n ih =>
    intro v3 v4
    unfold f_X11_leftOf_5
    refine e_iload dX11_leftOf_5 rfl ?_
    refine e_iload_n dX11_leftOf_7 rfl ?_
    refine e_if2_ge dX11_leftOf_8 (tgt := 41) (by decide) ?_ ?_
    · refine e_iload_n dX11_leftOf_41 rfl ?_
      exact e_iret dX11_leftOf_42 rfl rfl
    · refine e_iload_n dX11_leftOf_11 rfl ?_
      refine e_if_lt dX11_leftOf_12 (tgt := 41) (by decide) ?_ ?_
      · refine e_iload_n dX11_leftOf_41 rfl ?_
        exact e_iret dX11_leftOf_42 rfl rfl
      · refine e_iload_n dX11_leftOf_15 rfl ?_
        refine e_iload dX11_leftOf_16 rfl ?_
        refine e_jn (P := fun t : Int32 → Option (Int32) => ∀ (j1s0 : Int32), am_E l g d_X11_leftOf 29 [none, some (.int (v1)), some (.int (v2)), none, some (.int (v4))] [.int (j1s0), .int (v3)] (am_of B u) (am_r (am_bP B u) (t j1s0))) ?_ (fun j1 hj1 => ?_)
        · intro j1s0
          refine e_isub dX11_leftOf_29 ?_
          refine e_istore_n dX11_leftOf_30 (by decide) (LS1 := [none, _, _, _, _]) rfl ?_
          refine e_iload_n dX11_leftOf_31 rfl ?_
          refine e_iload_n dX11_leftOf_32 rfl ?_
          refine e_isub dX11_leftOf_33 ?_
          refine e_istore_n dX11_leftOf_34 (by decide) (LS1 := [none, _, _, _, _]) rfl ?_
          refine e_iinc dX11_leftOf_35 rfl (v := _ + 1) rfl (by decide) (LS1 := [none, _, _, _, _]) rfl ?_
          refine e_goto dX11_leftOf_38 (tgt := 5) (by decide) ?_
          exact ih ((v3 - j1s0) - v1) (v4 + 1)
        · refine e_if_le dX11_leftOf_18 (tgt := 28) (by decide) ?_ ?_
          · refine e_iconst dX11_leftOf_28 (v := 0) (by decide) ?_
            refine e_msk [false, true, true, false, true] (LS1 := [none, _, _, none, _]) rfl ?_
            exact hj1 0
          · refine e_iload_n dX11_leftOf_21 rfl ?_
            refine q_callSP (As := [_]) rfl dX11_leftOf_22 lm_M_193 (am_fitB rfl) yo_X11_tenth ys_X11_tenth rfl (Nat.le_of_ble_eq_true rfl) (Nat.le_of_ble_eq_true rfl) (s_X11_tenth hL _  _) (fun q2 => ?_)
            refine e_goto dX11_leftOf_25 (tgt := 29) (by decide) ?_
            refine e_msk [false, true, true, false, true] (LS1 := [none, _, _, none, _]) rfl ?_
            exact hj1 q2

set_option maxRecDepth 100000 in
set_option maxHeartbeats 4000000 in
theorem s_X11_leftOf {l : Launch} {g : am_G} {B : am_M} {pl : Nat} (hL : am_Lay B pl) (a0 : Int32) (a1 : Int32) (a2 : Int32)  (u : am_U) : am_E l g d_X11_leftOf 0 (am_ent d_X11_leftOf [.int (a0), .int (a1), .int (a2)]) [] (am_of B u) (am_r (am_bP B u) (f_X11_leftOf a0 a1 a2)) := by
  unfold f_X11_leftOf
  show am_E l g d_X11_leftOf 0 [some (.int (a0)), some (.int (a1)), some (.int (a2)), none, none] [] (am_of B u) _
  refine e_iload_n dX11_leftOf_0 rfl ?_
  refine e_istore_n dX11_leftOf_1 (by decide) (LS1 := [_, _, _, _, none]) rfl ?_
  refine e_iconst dX11_leftOf_2 (v := 0) (by decide) ?_
  refine e_istore dX11_leftOf_3 (by decide) (LS1 := [_, _, _, _, _]) rfl ?_
  refine e_msk [false, true, true, true, true] (LS1 := [none, _, _, _, _]) rfl ?_
  refine s_X11_leftOf_5 hL _ _ _ _ _ _

def f_X11_on_28 (v1 : Int32) (k57 : am_U → Option (Int32 × am_U)) : Nat → Int32 → am_U → Option (Int32 × am_U)
  | 0, _, _ => none
  | n + 1, v2, u =>
    if 30 ≤ v2 then (
      k57 u)
    else (
      am_ck (am_ix ((30 * v1) + v2) 90) (
      am_ck (am_ix v2 30) (
      let u4 : am_U := am_w u 75 v2.toNatClampNeg (u 78 ((30 * v1) + v2).toNatClampNeg)
      f_X11_on_28 v1 k57 n (v2 + 1) u4)))
def f_X11_on (a1 : Int32) (u : am_U) : Option (Int32 × am_U) :=
  (f_X11_in a1 0 2).bind (fun q1 =>
  if ¬ q1 = 0 then (
    am_ck (am_ix a1 3) (
    if ¬ (u 77 a1.toNatClampNeg) = 0 then (
      f_X11_on_28 a1 (fun (c6u : am_U) =>
        let u7 : am_U := am_w c6u 60 26 0
        some (u7 75 28, u7)) 20000 0 u)
    else (
      (f_X11_meets 1 u).bind (fun q8 =>
      some (q8.1, q8.2)))))
  else (
    some (((-1) : Int32), u)))
set_option maxRecDepth 100000 in
set_option maxHeartbeats 4000000 in
theorem s_X11_on_28 {l : Launch} {g : am_G} {B : am_M} {pl : Nat} (hL : am_Lay B pl) (v1 : Int32)  (k57 : am_U → Option (Int32 × am_U)) (hk57 : ∀  (u : am_U), am_E l g d_X11_on 57 [some (.ref (60)), none, none] [] (am_of B u) (am_r (am_bI B) (k57 u))) : ∀ (n : Nat) (v2 : Int32) (u : am_U), am_E l g d_X11_on 28 [some (.ref (60)), some (.int (v1)), some (.int (v2))] [] (am_of B u) (am_r (am_bI B) (f_X11_on_28 v1 k57 n v2 u)) := by
  intro n
  induction n with
  | zero => intro v2 u; exact am_none
  | succ n ih =>
    intro v2 u
    unfold f_X11_on_28
    refine e_iload_n dX11_on_28 rfl ?_
    refine e_bipush dX11_on_29 (v := 30) (by decide) ?_
    refine e_if2_ge dX11_on_31 (tgt := 57) (by decide) ?_ ?_
    · refine e_msk [true, false, false] (LS1 := [_, none, none]) rfl ?_
      exact hk57 u
    · refine e_aload_n dX11_on_34 rfl ?_
      refine q_getR (r := 75) dX11_on_35 lf_M_53 rfl (by decide) (am_Lk hL rfl) (am_Lr hL rfl) ?_
      refine e_iload_n dX11_on_38 rfl ?_
      refine e_aload_n dX11_on_39 rfl ?_
      refine q_getR (r := 78) dX11_on_40 lf_M_63 rfl (by decide) (am_Lk hL rfl) (am_Lr hL rfl) ?_
      refine e_bipush dX11_on_43 (v := 30) (by decide) ?_
      refine e_iload_n dX11_on_45 rfl ?_
      refine e_imul dX11_on_46 ?_
      refine e_iload_n dX11_on_47 rfl ?_
      refine e_iadd dX11_on_48 ?_
      refine q_ialdH dX11_on_49 (am_Ls hL rfl) (fun i3 => ?_)
      refine q_iastH dX11_on_50 (am_Ls hL rfl) (fun i5 => ?_)
      refine e_iinc dX11_on_51 rfl (v := _ + 1) rfl (by decide) (LS1 := [_, _, _]) rfl ?_
      refine e_goto dX11_on_54 (tgt := 28) (by decide) ?_
      exact ih (v2 + 1) (am_w u 75 v2.toNatClampNeg (u 78 ((30 * v1) + v2).toNatClampNeg))

set_option maxRecDepth 100000 in
set_option maxHeartbeats 4000000 in
theorem s_X11_on {l : Launch} {g : am_G} {B : am_M} {pl : Nat} (hL : am_Lay B pl) (a1 : Int32)  (u : am_U) : am_E l g d_X11_on 0 (am_ent d_X11_on [.ref (60), .int (a1)]) [] (am_of B u) (am_r (am_bI B) (f_X11_on a1 u)) := by
  unfold f_X11_on
  show am_E l g d_X11_on 0 [some (.ref (60)), some (.int (a1)), none] [] (am_of B u) _
  refine e_iload_n dX11_on_0 rfl ?_
  refine e_iconst dX11_on_1 (v := 0) (by decide) ?_
  refine e_iconst dX11_on_2 (v := 2) (by decide) ?_
  refine q_callSP (As := [_, _, _]) rfl dX11_on_3 lm_M_106 (am_fitB rfl) yo_X11_in ys_X11_in rfl (Nat.le_of_ble_eq_true rfl) (Nat.le_of_ble_eq_true rfl) (s_X11_in hL _ _ _  _) (fun q1 => ?_)
  refine e_if_ne dX11_on_6 (tgt := 11) (by decide) ?_ ?_
  · refine e_aload_n dX11_on_11 rfl ?_
    refine q_getR (r := 77) dX11_on_12 lf_M_59 rfl (by decide) (am_Lk hL rfl) (am_Lr hL rfl) ?_
    refine e_iload_n dX11_on_15 rfl ?_
    refine q_bald dX11_on_16 (Or.inr (am_Ls hL rfl)) ?_
    refine e_if_ne dX11_on_17 (tgt := 26) (by decide) ?_ ?_
    · refine e_iconst dX11_on_26 (v := 0) (by decide) ?_
      refine e_istore_n dX11_on_27 (by decide) (LS1 := [_, _, _]) rfl ?_
      refine s_X11_on_28 hL _ _ (fun c6u => ?_) _ _ _
      · refine e_aload_n dX11_on_57 rfl ?_
        refine e_iconst dX11_on_58 (v := 0) (by decide) ?_
        refine q_putI dX11_on_59 lf_M_187 rfl (by decide) (am_Lk hL rfl) ?_
        refine e_aload_n dX11_on_62 rfl ?_
        refine q_getR (r := 75) dX11_on_63 lf_M_53 rfl (by decide) (am_Lk hL rfl) (am_Lr hL rfl) ?_
        refine e_bipush dX11_on_66 (v := 28) (by decide) ?_
        refine q_ialdC (jn := 28) dX11_on_68 (am_Ls hL rfl) (by decide) (by decide) ?_
        exact e_iret dX11_on_69 rfl rfl
    · refine e_aload_n dX11_on_20 rfl ?_
      refine e_iconst dX11_on_21 (v := 1) (by decide) ?_
      refine q_callVI (As := [_]) rfl dX11_on_22 lm_M_117 (am_fitB rfl) yo_X11_meets ys_X11_meets rfl rfl (by decide) (am_Lk hL rfl) rfl (Nat.le_of_ble_eq_true rfl) (Nat.le_of_ble_eq_true rfl) (s_X11_meets hL _  _) (fun q8 => ?_)
      exact e_iret dX11_on_25 rfl rfl
  · refine e_iconst dX11_on_9 (v := ((-1) : Int32)) (by decide) ?_
    exact e_iret dX11_on_10 rfl rfl

def f_X11_placeTells (a1 : Int32) (a2 : Int32) (u : am_U) : Option (Int32) :=
  if ¬ a2 = 0 then (
    if ¬ a2 = 1 then (
      if ¬ a2 = 2 then (
        (f_X11_lightAt a1 u).bind (fun q1 =>
        some q1))
      else (
        am_ck (am_ix (23 + a1) 30) (
        some (u 75 (23 + a1).toNatClampNeg))))
    else (
      am_ck (am_ix (18 + a1) 30) (
      some (u 75 (18 + a1).toNatClampNeg))))
  else (
    am_ck (am_ix a1 5) (
    some (u 68 a1.toNatClampNeg)))
set_option maxRecDepth 100000 in
set_option maxHeartbeats 4000000 in
theorem s_X11_placeTells {l : Launch} {g : am_G} {B : am_M} {pl : Nat} (hL : am_Lay B pl) (a1 : Int32) (a2 : Int32)  (u : am_U) : am_E l g d_X11_placeTells 0 (am_ent d_X11_placeTells [.ref (60), .int (a1), .int (a2)]) [] (am_of B u) (am_r (am_bP B u) (f_X11_placeTells a1 a2 u)) := by
  unfold f_X11_placeTells
  show am_E l g d_X11_placeTells 0 [some (.ref (60)), some (.int (a1)), some (.int (a2))] [] (am_of B u) _
  refine e_iload_n dX11_placeTells_0 rfl ?_
  refine e_if_ne dX11_placeTells_1 (tgt := 13) (by decide) ?_ ?_
  · refine e_iload_n dX11_placeTells_13 rfl ?_
    refine e_iconst dX11_placeTells_14 (v := 1) (by decide) ?_
    refine e_if2_ne dX11_placeTells_15 (tgt := 30) (by decide) ?_ ?_
    · refine e_iload_n dX11_placeTells_30 rfl ?_
      refine e_iconst dX11_placeTells_31 (v := 2) (by decide) ?_
      refine e_if2_ne dX11_placeTells_32 (tgt := 47) (by decide) ?_ ?_
      · refine e_aload_n dX11_placeTells_47 rfl ?_
        refine e_iload_n dX11_placeTells_48 rfl ?_
        refine q_callVP (As := [_]) rfl dX11_placeTells_49 lm_M_212 (am_fitB rfl) yo_X11_lightAt ys_X11_lightAt rfl rfl (by decide) (am_Lk hL rfl) rfl (Nat.le_of_ble_eq_true rfl) (Nat.le_of_ble_eq_true rfl) (s_X11_lightAt hL _  _) (fun q1 => ?_)
        exact e_iret dX11_placeTells_52 rfl rfl
      · refine e_aload_n dX11_placeTells_35 rfl ?_
        refine q_getR (r := 75) dX11_placeTells_36 lf_M_53 rfl (by decide) (am_Lk hL rfl) (am_Lr hL rfl) ?_
        refine e_bipush dX11_placeTells_39 (v := 23) (by decide) ?_
        refine e_iload_n dX11_placeTells_41 rfl ?_
        refine e_iadd dX11_placeTells_42 ?_
        refine q_ialdH dX11_placeTells_43 (am_Ls hL rfl) (fun i2 => ?_)
        refine e_goto dX11_placeTells_44 (tgt := 52) (by decide) ?_
        exact e_iret dX11_placeTells_52 rfl rfl
    · refine e_aload_n dX11_placeTells_18 rfl ?_
      refine q_getR (r := 75) dX11_placeTells_19 lf_M_53 rfl (by decide) (am_Lk hL rfl) (am_Lr hL rfl) ?_
      refine e_bipush dX11_placeTells_22 (v := 18) (by decide) ?_
      refine e_iload_n dX11_placeTells_24 rfl ?_
      refine e_iadd dX11_placeTells_25 ?_
      refine q_ialdH dX11_placeTells_26 (am_Ls hL rfl) (fun i3 => ?_)
      refine e_goto dX11_placeTells_27 (tgt := 52) (by decide) ?_
      exact e_iret dX11_placeTells_52 rfl rfl
  · refine e_aload_n dX11_placeTells_4 rfl ?_
    refine q_getR (r := 68) dX11_placeTells_5 lf_M_32 rfl (by decide) (am_Lk hL rfl) (am_Lr hL rfl) ?_
    refine e_iload_n dX11_placeTells_8 rfl ?_
    refine q_ialdH dX11_placeTells_9 (am_Ls hL rfl) (fun i4 => ?_)
    refine e_goto dX11_placeTells_10 (tgt := 52) (by decide) ?_
    exact e_iret dX11_placeTells_52 rfl rfl

def f_X11_pouredOf_2 (v1 : Int32) : Nat → Int32 → Option (Int32)
  | 0, _ => none
  | n + 1, v2 =>
    if v2 ≤ 0 then (
      some v2)
    else (
      (f_X11_tenth v2).bind (fun q1 =>
      if (v2 - q1) ≤ v1 then (
        some v2)
      else (
        f_X11_pouredOf_2 v1 n (v2 + (-1)))))
def f_X11_pouredOf (a0 : Int32) (a1 : Int32) : Option (Int32) :=
  f_X11_pouredOf_2 a1 20000 a0
set_option maxRecDepth 100000 in
set_option maxHeartbeats 4000000 in
theorem s_X11_pouredOf_2 {l : Launch} {g : am_G} {B : am_M} {pl : Nat} (hL : am_Lay B pl) (u : am_U) (v1 : Int32)    : ∀ (n : Nat) (v2 : Int32), am_E l g d_X11_pouredOf 2 [none, some (.int (v1)), some (.int (v2))] [] (am_of B u) (am_r (am_bP B u) (f_X11_pouredOf_2 v1 n v2)) := by
  intro n
  induction n with
  | zero => intro v2; exact am_none
  | succ n ih =>
    intro v2
    unfold f_X11_pouredOf_2
    refine e_iload_n dX11_pouredOf_2 rfl ?_
    refine e_if_le dX11_pouredOf_3 (tgt := 22) (by decide) ?_ ?_
    · refine e_iload_n dX11_pouredOf_22 rfl ?_
      exact e_iret dX11_pouredOf_23 rfl rfl
    · refine e_iload_n dX11_pouredOf_6 rfl ?_
      refine e_iload_n dX11_pouredOf_7 rfl ?_
      refine q_callSP (As := [_]) rfl dX11_pouredOf_8 lm_M_193 (am_fitB rfl) yo_X11_tenth ys_X11_tenth rfl (Nat.le_of_ble_eq_true rfl) (Nat.le_of_ble_eq_true rfl) (s_X11_tenth hL _  _) (fun q1 => ?_)
      refine e_isub dX11_pouredOf_11 ?_
      refine e_iload_n dX11_pouredOf_12 rfl ?_
      refine e_if2_le dX11_pouredOf_13 (tgt := 22) (by decide) ?_ ?_
      · refine e_iload_n dX11_pouredOf_22 rfl ?_
        exact e_iret dX11_pouredOf_23 rfl rfl
      · refine e_iinc dX11_pouredOf_16 rfl (v := _ + (-1)) rfl (by decide) (LS1 := [none, _, _]) rfl ?_
        refine e_goto dX11_pouredOf_19 (tgt := 2) (by decide) ?_
        exact ih (v2 + (-1))

set_option maxRecDepth 100000 in
set_option maxHeartbeats 4000000 in
theorem s_X11_pouredOf {l : Launch} {g : am_G} {B : am_M} {pl : Nat} (hL : am_Lay B pl) (a0 : Int32) (a1 : Int32)  (u : am_U) : am_E l g d_X11_pouredOf 0 (am_ent d_X11_pouredOf [.int (a0), .int (a1)]) [] (am_of B u) (am_r (am_bP B u) (f_X11_pouredOf a0 a1)) := by
  unfold f_X11_pouredOf
  show am_E l g d_X11_pouredOf 0 [some (.int (a0)), some (.int (a1)), none] [] (am_of B u) _
  refine e_iload_n dX11_pouredOf_0 rfl ?_
  refine e_istore_n dX11_pouredOf_1 (by decide) (LS1 := [_, _, _]) rfl ?_
  refine e_msk [false, true, true] (LS1 := [none, _, _]) rfl ?_
  refine s_X11_pouredOf_2 hL _ _ _ _

def f_X11_readsJar_45 (v1 : Int32) (v2 : Int32) (k104 : Int32 → Int32 → am_U → Option (Int32 × am_U)) : Nat → Int32 → Int32 → am_U → Option (Int32 × am_U)
  | 0, _, _, _ => none
  | n + 1, v3, v4, u =>
    if 2 ≤ v4 then (
      k104 v3 v4 u)
    else (
      (f_X11_byteAt v1 (u 60 15) u).bind (fun q4 =>
      (f_X11_in q4 48 57).bind (fun q5 =>
      if q5 = 0 then (
        k104 v3 v4 u)
      else (
        (f_X11_byteAt v1 (u 60 15) u).bind (fun q6 =>
        let u7 : am_U := am_w u 60 15 ((u 60 15) + 1)
        f_X11_readsJar_45 v1 v2 k104 n (((10 * v3) + q6) - 48) (v4 + 1) u7)))))
def f_X11_readsJar (a1 : Int32) (u : am_U) : Option (Int32 × am_U) :=
  (f_X11_byteAt a1 (u 60 15) u).bind (fun q1 =>
  (f_X11_kindOf q1).bind (fun q2 =>
  if q2 = ((-9) : Int32) then (
    some (0, u))
  else (
    if ¬ (u 60 20) = 6 then (
      let u3 : am_U := am_w u 60 15 ((u 60 15) + 1)
      f_X11_readsJar_45 a1 q2 (fun (c8v3 : Int32) (c8v4 : Int32) (c8u : am_U) =>
        if c8v4 = 0 then (
          some (0, c8u))
        else (
          (f_X11_in c8v3 1 20).bind (fun q9 =>
          if ¬ q9 = 0 then (
            am_ck (am_ix (c8u 60 20) 6) (
            let u10 : am_U := am_w c8u 73 (c8u 60 20).toNatClampNeg q2
            am_ck (am_ix (u10 60 20) 6) (
            let u12 : am_U := am_w u10 74 (u10 60 20).toNatClampNeg c8v3
            let u14 : am_U := am_w u12 60 20 ((u12 60 20) + 1)
            some (1, u14))))
          else (
            some (0, c8u))))) 20000 0 0 u3)
    else (
      some (0, u)))))
set_option maxRecDepth 100000 in
set_option maxHeartbeats 4000000 in
theorem s_X11_readsJar_45 {l : Launch} {g : am_G} {B : am_M} {pl : Nat} (hL : am_Lay B pl) (v1 : Int32) (v2 : Int32)  (k104 : Int32 → Int32 → am_U → Option (Int32 × am_U)) (hk104 : ∀ (v3 : Int32) (v4 : Int32) (u : am_U), am_E l g d_X11_readsJar 104 [some (.ref (60)), none, some (.int (v2)), some (.int (v3)), some (.int (v4))] [] (am_of B u) (am_r (am_bI B) (k104 v3 v4 u))) : ∀ (n : Nat) (v3 : Int32) (v4 : Int32) (u : am_U), am_E l g d_X11_readsJar 45 [some (.ref (60)), some (.int (v1)), some (.int (v2)), some (.int (v3)), some (.int (v4))] [] (am_of B u) (am_r (am_bI B) (f_X11_readsJar_45 v1 v2 k104 n v3 v4 u)) := by
  intro n
  induction n with
  | zero => intro v3 v4 u; exact am_none
  | succ n ih =>
    intro v3 v4 u
    unfold f_X11_readsJar_45
    refine e_iload dX11_readsJar_45 rfl ?_
    refine e_iconst dX11_readsJar_47 (v := 2) (by decide) ?_
    refine e_if2_ge dX11_readsJar_48 (tgt := 104) (by decide) ?_ ?_
    · refine e_msk [true, false, true, true, true] (LS1 := [_, none, _, _, _]) rfl ?_
      exact hk104 v3 v4 u
    · refine e_aload_n dX11_readsJar_51 rfl ?_
      refine e_iload_n dX11_readsJar_52 rfl ?_
      refine e_aload_n dX11_readsJar_53 rfl ?_
      refine q_getI dX11_readsJar_54 lf_M_131 (by decide) (am_Lk hL rfl) ?_
      refine q_callVP (As := [_, _]) rfl dX11_readsJar_57 lm_M_134 (am_fitB rfl) yo_X11_byteAt ys_X11_byteAt rfl rfl (by decide) (am_Lk hL rfl) rfl (Nat.le_of_ble_eq_true rfl) (Nat.le_of_ble_eq_true rfl) (s_X11_byteAt hL _ _  _) (fun q4 => ?_)
      refine e_bipush dX11_readsJar_60 (v := 48) (by decide) ?_
      refine e_bipush dX11_readsJar_62 (v := 57) (by decide) ?_
      refine q_callSP (As := [_, _, _]) rfl dX11_readsJar_64 lm_M_106 (am_fitB rfl) yo_X11_in ys_X11_in rfl (Nat.le_of_ble_eq_true rfl) (Nat.le_of_ble_eq_true rfl) (s_X11_in hL _ _ _  _) (fun q5 => ?_)
      refine e_if_eq dX11_readsJar_67 (tgt := 104) (by decide) ?_ ?_
      · refine e_msk [true, false, true, true, true] (LS1 := [_, none, _, _, _]) rfl ?_
        exact hk104 v3 v4 u
      · refine e_bipush dX11_readsJar_70 (v := 10) (by decide) ?_
        refine e_iload_n dX11_readsJar_72 rfl ?_
        refine e_imul dX11_readsJar_73 ?_
        refine e_aload_n dX11_readsJar_74 rfl ?_
        refine e_iload_n dX11_readsJar_75 rfl ?_
        refine e_aload_n dX11_readsJar_76 rfl ?_
        refine q_getI dX11_readsJar_77 lf_M_131 (by decide) (am_Lk hL rfl) ?_
        refine q_callVP (As := [_, _]) rfl dX11_readsJar_80 lm_M_134 (am_fitB rfl) yo_X11_byteAt ys_X11_byteAt rfl rfl (by decide) (am_Lk hL rfl) rfl (Nat.le_of_ble_eq_true rfl) (Nat.le_of_ble_eq_true rfl) (s_X11_byteAt hL _ _  _) (fun q6 => ?_)
        refine e_iadd dX11_readsJar_83 ?_
        refine e_bipush dX11_readsJar_84 (v := 48) (by decide) ?_
        refine e_isub dX11_readsJar_86 ?_
        refine e_istore_n dX11_readsJar_87 (by decide) (LS1 := [_, _, _, _, _]) rfl ?_
        refine e_aload_n dX11_readsJar_88 rfl ?_
        refine e_dup dX11_readsJar_89 rfl ?_
        refine q_getI dX11_readsJar_90 lf_M_131 (by decide) (am_Lk hL rfl) ?_
        refine e_iconst dX11_readsJar_93 (v := 1) (by decide) ?_
        refine e_iadd dX11_readsJar_94 ?_
        refine q_putI dX11_readsJar_95 lf_M_131 rfl (by decide) (am_Lk hL rfl) ?_
        refine e_iinc dX11_readsJar_98 rfl (v := _ + 1) rfl (by decide) (LS1 := [_, _, _, _, _]) rfl ?_
        refine e_goto dX11_readsJar_101 (tgt := 45) (by decide) ?_
        exact ih (((10 * v3) + q6) - 48) (v4 + 1) (am_w u 60 15 ((u 60 15) + 1))

set_option maxRecDepth 100000 in
set_option maxHeartbeats 4000000 in
theorem s_X11_readsJar {l : Launch} {g : am_G} {B : am_M} {pl : Nat} (hL : am_Lay B pl) (a1 : Int32)  (u : am_U) : am_E l g d_X11_readsJar 0 (am_ent d_X11_readsJar [.ref (60), .int (a1)]) [] (am_of B u) (am_r (am_bI B) (f_X11_readsJar a1 u)) := by
  unfold f_X11_readsJar
  show am_E l g d_X11_readsJar 0 [some (.ref (60)), some (.int (a1)), none, none, none] [] (am_of B u) _
  refine e_aload_n dX11_readsJar_0 rfl ?_
  refine e_iload_n dX11_readsJar_1 rfl ?_
  refine e_aload_n dX11_readsJar_2 rfl ?_
  refine q_getI dX11_readsJar_3 lf_M_131 (by decide) (am_Lk hL rfl) ?_
  refine q_callVP (As := [_, _]) rfl dX11_readsJar_6 lm_M_134 (am_fitB rfl) yo_X11_byteAt ys_X11_byteAt rfl rfl (by decide) (am_Lk hL rfl) rfl (Nat.le_of_ble_eq_true rfl) (Nat.le_of_ble_eq_true rfl) (s_X11_byteAt hL _ _  _) (fun q1 => ?_)
  refine q_callSP (As := [_]) rfl dX11_readsJar_9 lm_M_157 (am_fitB rfl) yo_X11_kindOf ys_X11_kindOf rfl (Nat.le_of_ble_eq_true rfl) (Nat.le_of_ble_eq_true rfl) (s_X11_kindOf hL _  _) (fun q2 => ?_)
  refine e_istore_n dX11_readsJar_12 (by decide) (LS1 := [_, _, _, none, none]) rfl ?_
  refine e_iload_n dX11_readsJar_13 rfl ?_
  refine e_bipush dX11_readsJar_14 (v := ((-9) : Int32)) (by decide) ?_
  refine e_if2_eq dX11_readsJar_16 (tgt := 28) (by decide) ?_ ?_
  · refine e_iconst dX11_readsJar_28 (v := 0) (by decide) ?_
    exact e_zret dX11_readsJar_29 rfl rfl (Or.inl rfl)
  · refine e_aload_n dX11_readsJar_19 rfl ?_
    refine q_getI dX11_readsJar_20 lf_M_160 (by decide) (am_Lk hL rfl) ?_
    refine e_bipush dX11_readsJar_23 (v := 6) (by decide) ?_
    refine e_if2_ne dX11_readsJar_25 (tgt := 30) (by decide) ?_ ?_
    · refine e_aload_n dX11_readsJar_30 rfl ?_
      refine e_dup dX11_readsJar_31 rfl ?_
      refine q_getI dX11_readsJar_32 lf_M_131 (by decide) (am_Lk hL rfl) ?_
      refine e_iconst dX11_readsJar_35 (v := 1) (by decide) ?_
      refine e_iadd dX11_readsJar_36 ?_
      refine q_putI dX11_readsJar_37 lf_M_131 rfl (by decide) (am_Lk hL rfl) ?_
      refine e_iconst dX11_readsJar_40 (v := 0) (by decide) ?_
      refine e_istore_n dX11_readsJar_41 (by decide) (LS1 := [_, _, _, _, none]) rfl ?_
      refine e_iconst dX11_readsJar_42 (v := 0) (by decide) ?_
      refine e_istore dX11_readsJar_43 (by decide) (LS1 := [_, _, _, _, _]) rfl ?_
      refine s_X11_readsJar_45 hL _ _ _ (fun c8v3 c8v4 c8u => ?_) _ _ _ _
      · refine e_iload dX11_readsJar_104 rfl ?_
        refine e_if_eq dX11_readsJar_106 (tgt := 119) (by decide) ?_ ?_
        · refine e_iconst dX11_readsJar_119 (v := 0) (by decide) ?_
          exact e_zret dX11_readsJar_120 rfl rfl (Or.inl rfl)
        · refine e_iload_n dX11_readsJar_109 rfl ?_
          refine e_iconst dX11_readsJar_110 (v := 1) (by decide) ?_
          refine e_bipush dX11_readsJar_111 (v := 20) (by decide) ?_
          refine q_callSP (As := [_, _, _]) rfl dX11_readsJar_113 lm_M_106 (am_fitB rfl) yo_X11_in ys_X11_in rfl (Nat.le_of_ble_eq_true rfl) (Nat.le_of_ble_eq_true rfl) (s_X11_in hL _ _ _  _) (fun q9 => ?_)
          refine e_if_ne dX11_readsJar_116 (tgt := 121) (by decide) ?_ ?_
          · refine e_aload_n dX11_readsJar_121 rfl ?_
            refine q_getR (r := 73) dX11_readsJar_122 lf_M_47 rfl (by decide) (am_Lk hL rfl) (am_Lr hL rfl) ?_
            refine e_aload_n dX11_readsJar_125 rfl ?_
            refine q_getI dX11_readsJar_126 lf_M_160 (by decide) (am_Lk hL rfl) ?_
            refine e_iload_n dX11_readsJar_129 rfl ?_
            refine q_iastH dX11_readsJar_130 (am_Ls hL rfl) (fun i11 => ?_)
            refine e_aload_n dX11_readsJar_131 rfl ?_
            refine q_getR (r := 74) dX11_readsJar_132 lf_M_50 rfl (by decide) (am_Lk hL rfl) (am_Lr hL rfl) ?_
            refine e_aload_n dX11_readsJar_135 rfl ?_
            refine q_getI dX11_readsJar_136 lf_M_160 (by decide) (am_Lk hL rfl) ?_
            refine e_iload_n dX11_readsJar_139 rfl ?_
            refine q_iastH dX11_readsJar_140 (am_Ls hL rfl) (fun i13 => ?_)
            refine e_aload_n dX11_readsJar_141 rfl ?_
            refine e_dup dX11_readsJar_142 rfl ?_
            refine q_getI dX11_readsJar_143 lf_M_160 (by decide) (am_Lk hL rfl) ?_
            refine e_iconst dX11_readsJar_146 (v := 1) (by decide) ?_
            refine e_iadd dX11_readsJar_147 ?_
            refine q_putI dX11_readsJar_148 lf_M_160 rfl (by decide) (am_Lk hL rfl) ?_
            refine e_iconst dX11_readsJar_151 (v := 1) (by decide) ?_
            exact e_zret dX11_readsJar_152 rfl rfl (Or.inr rfl)
          · refine e_iconst dX11_readsJar_119 (v := 0) (by decide) ?_
            exact e_zret dX11_readsJar_120 rfl rfl (Or.inl rfl)
    · refine e_iconst dX11_readsJar_28 (v := 0) (by decide) ?_
      exact e_zret dX11_readsJar_29 rfl rfl (Or.inl rfl)

def f_X11_sumOf_9 (u : am_U) : Nat → Int32 → Int32 → Option (Int32 × am_U)
  | 0, _, _ => none
  | n + 1, v2, v3 =>
    if (u 60 32) ≤ v3 then (
      some (v2, u))
    else (
      am_ck (am_ix v3 3) (
      let x3 : Int32 := v2 + (u 81 v3.toNatClampNeg)
      f_X11_sumOf_9 u n x3 (v3 + 1)))
def f_X11_sumOf (a1 : Int32) (u : am_U) : Option (Int32 × am_U) :=
  (f_X11_look a1 u).bind (fun q1 =>
  f_X11_sumOf_9 q1 20000 0 0)
set_option maxRecDepth 100000 in
set_option maxHeartbeats 4000000 in
theorem s_X11_sumOf_9 {l : Launch} {g : am_G} {B : am_M} {pl : Nat} (hL : am_Lay B pl) (u : am_U)     : ∀ (n : Nat) (v2 : Int32) (v3 : Int32), am_E l g d_X11_sumOf 9 [some (.ref (60)), none, some (.int (v2)), some (.int (v3))] [] (am_of B u) (am_r (am_bI B) (f_X11_sumOf_9 u n v2 v3)) := by
  intro n
  induction n with
  | zero => intro v2 v3; exact am_none
  | succ n ih =>
    intro v2 v3
    unfold f_X11_sumOf_9
    refine e_iload_n dX11_sumOf_9 rfl ?_
    refine e_aload_n dX11_sumOf_10 rfl ?_
    refine q_getI dX11_sumOf_11 lf_M_256 (by decide) (am_Lk hL rfl) ?_
    refine e_if2_ge dX11_sumOf_14 (tgt := 32) (by decide) ?_ ?_
    · refine e_iload_n dX11_sumOf_32 rfl ?_
      exact e_iret dX11_sumOf_33 rfl rfl
    · refine e_iload_n dX11_sumOf_17 rfl ?_
      refine e_aload_n dX11_sumOf_18 rfl ?_
      refine q_getR (r := 81) dX11_sumOf_19 lf_M_72 rfl (by decide) (am_Lk hL rfl) (am_Lr hL rfl) ?_
      refine e_iload_n dX11_sumOf_22 rfl ?_
      refine q_ialdH dX11_sumOf_23 (am_Ls hL rfl) (fun i2 => ?_)
      refine e_iadd dX11_sumOf_24 ?_
      refine e_istore_n dX11_sumOf_25 (by decide) (LS1 := [_, none, _, _]) rfl ?_
      refine e_iinc dX11_sumOf_26 rfl (v := _ + 1) rfl (by decide) (LS1 := [_, none, _, _]) rfl ?_
      refine e_goto dX11_sumOf_29 (tgt := 9) (by decide) ?_
      exact ih (v2 + (u 81 v3.toNatClampNeg)) (v3 + 1)

set_option maxRecDepth 100000 in
set_option maxHeartbeats 4000000 in
theorem s_X11_sumOf {l : Launch} {g : am_G} {B : am_M} {pl : Nat} (hL : am_Lay B pl) (a1 : Int32)  (u : am_U) : am_E l g d_X11_sumOf 0 (am_ent d_X11_sumOf [.ref (60), .int (a1)]) [] (am_of B u) (am_r (am_bI B) (f_X11_sumOf a1 u)) := by
  unfold f_X11_sumOf
  show am_E l g d_X11_sumOf 0 [some (.ref (60)), some (.int (a1)), none, none] [] (am_of B u) _
  refine e_aload_n dX11_sumOf_0 rfl ?_
  refine e_iload_n dX11_sumOf_1 rfl ?_
  refine q_callVV (As := [_]) rfl dX11_sumOf_2 lm_M_266 (am_fitB rfl) yo_X11_look ys_X11_look rfl rfl (by decide) (am_Lk hL rfl) rfl (Nat.le_of_ble_eq_true rfl) (Nat.le_of_ble_eq_true rfl) (s_X11_look hL _  _) (fun q1 => ?_)
  refine e_iconst dX11_sumOf_5 (v := 0) (by decide) ?_
  refine e_istore_n dX11_sumOf_6 (by decide) (LS1 := [_, _, _, none]) rfl ?_
  refine e_iconst dX11_sumOf_7 (v := 0) (by decide) ?_
  refine e_istore_n dX11_sumOf_8 (by decide) (LS1 := [_, _, _, _]) rfl ?_
  refine e_msk [true, false, true, true] (LS1 := [_, none, _, _]) rfl ?_
  refine s_X11_sumOf_9 hL _  _ _ _

def f_X11_sun (a1 : Int32) (u : am_U) : Option (Int32) :=
  (f_X11_in a1 0 999).bind (fun q1 =>
  if q1 = 0 then (
    some ((-1) : Int32))
  else (
    (f_X11_shines a1 u).bind (fun q2 =>
    if q2 = 0 then (
      some 0)
    else (
      some 1))))
set_option maxRecDepth 100000 in
set_option maxHeartbeats 4000000 in
theorem s_X11_sun {l : Launch} {g : am_G} {B : am_M} {pl : Nat} (hL : am_Lay B pl) (a1 : Int32)  (u : am_U) : am_E l g d_X11_sun 0 (am_ent d_X11_sun [.ref (60), .int (a1)]) [] (am_of B u) (am_r (am_bP B u) (f_X11_sun a1 u)) := by
  unfold f_X11_sun
  show am_E l g d_X11_sun 0 [some (.ref (60)), some (.int (a1))] [] (am_of B u) _
  refine e_iload_n dX11_sun_0 rfl ?_
  refine e_iconst dX11_sun_1 (v := 0) (by decide) ?_
  refine e_sipush dX11_sun_2 (v := 999) (by decide) ?_
  refine q_callSP (As := [_, _, _]) rfl dX11_sun_5 lm_M_106 (am_fitB rfl) yo_X11_in ys_X11_in rfl (Nat.le_of_ble_eq_true rfl) (Nat.le_of_ble_eq_true rfl) (s_X11_in hL _ _ _  _) (fun q1 => ?_)
  refine e_if_eq dX11_sun_8 (tgt := 27) (by decide) ?_ ?_
  · refine e_iconst dX11_sun_27 (v := ((-1) : Int32)) (by decide) ?_
    exact e_iret dX11_sun_28 rfl rfl
  · refine e_aload_n dX11_sun_11 rfl ?_
    refine e_iload_n dX11_sun_12 rfl ?_
    refine q_callVP (As := [_]) rfl dX11_sun_13 lm_M_221 (am_fitB rfl) yo_X11_shines ys_X11_shines rfl rfl (by decide) (am_Lk hL rfl) rfl (Nat.le_of_ble_eq_true rfl) (Nat.le_of_ble_eq_true rfl) (s_X11_shines hL _  _) (fun q2 => ?_)
    refine e_if_eq dX11_sun_16 (tgt := 23) (by decide) ?_ ?_
    · refine e_iconst dX11_sun_23 (v := 0) (by decide) ?_
      refine e_goto dX11_sun_24 (tgt := 28) (by decide) ?_
      exact e_iret dX11_sun_28 rfl rfl
    · refine e_iconst dX11_sun_19 (v := 1) (by decide) ?_
      refine e_goto dX11_sun_20 (tgt := 28) (by decide) ?_
      exact e_iret dX11_sun_28 rfl rfl

def f_X2_comesOver (a0 : Int32) : Option (Int32) :=
  (f_X2_tenthsUp a0).bind (fun q1 =>
  some (a0 - q1))
set_option maxRecDepth 100000 in
set_option maxHeartbeats 4000000 in
theorem s_X2_comesOver {l : Launch} {g : am_G} {B : am_M} {pl : Nat} (hL : am_Lay B pl) (a0 : Int32)  (u : am_U) : am_E l g d_X2_comesOver 0 (am_ent d_X2_comesOver [.int (a0)]) [] (am_of B u) (am_r (am_bP B u) (f_X2_comesOver a0)) := by
  unfold f_X2_comesOver
  show am_E l g d_X2_comesOver 0 [some (.int (a0))] [] (am_of B u) _
  refine e_iload_n dX2_comesOver_0 rfl ?_
  refine e_iload_n dX2_comesOver_1 rfl ?_
  refine q_callSP (As := [_]) rfl dX2_comesOver_2 lm_Kinds_15 (am_fitB rfl) yo_X2_tenthsUp ys_X2_tenthsUp rfl (Nat.le_of_ble_eq_true rfl) (Nat.le_of_ble_eq_true rfl) (s_X2_tenthsUp hL _  _) (fun q1 => ?_)
  refine e_isub dX2_comesOver_5 ?_
  exact e_iret dX2_comesOver_6 rfl rfl

def f_X2_hours (a0 : Int32) (a1 : Int32) : Option (Int32) :=
  (f_X2_anHour a0).bind (fun q1 =>
  am_ck (!(q1 == 0)) (
  some (a1 / q1)))
set_option maxRecDepth 100000 in
set_option maxHeartbeats 4000000 in
theorem s_X2_hours {l : Launch} {g : am_G} {B : am_M} {pl : Nat} (hL : am_Lay B pl) (a0 : Int32) (a1 : Int32)  (u : am_U) : am_E l g d_X2_hours 0 (am_ent d_X2_hours [.int (a0), .int (a1)]) [] (am_of B u) (am_r (am_bP B u) (f_X2_hours a0 a1)) := by
  unfold f_X2_hours
  show am_E l g d_X2_hours 0 [some (.int (a0)), some (.int (a1))] [] (am_of B u) _
  refine e_iload_n dX2_hours_0 rfl ?_
  refine e_iload_n dX2_hours_1 rfl ?_
  refine q_callSP (As := [_]) rfl dX2_hours_2 lm_Kinds_19 (am_fitB rfl) yo_X2_anHour ys_X2_anHour rfl (Nat.le_of_ble_eq_true rfl) (Nat.le_of_ble_eq_true rfl) (s_X2_anHour hL _  _) (fun q1 => ?_)
  refine e_divq dX2_hours_5 ?_
  exact e_iret dX2_hours_6 rfl rfl

def f_X2_leaked (a0 : Int32) (a1 : Int32) (a2 : Int32) : Option (Int32) :=
  if a0 = 4 then (
    some 0)
  else (
    am_jn (fun (j1z : Unit) =>
      if ¬ a0 = 1 then (
        (f_X2_tenthsUp a1).bind (fun q2 =>
        some q2))
      else (
        (f_X2_tenthsUp (2 * a1)).bind (fun q3 =>
        some q3))) (fun j1 =>
    if ¬ a0 = 2 then (
      j1 () )
    else (
      if ¬ a2 = 0 then (
        j1 () )
      else (
        some 0))))
set_option maxRecDepth 100000 in
set_option maxHeartbeats 4000000 in
theorem s_X2_leaked {l : Launch} {g : am_G} {B : am_M} {pl : Nat} (hL : am_Lay B pl) (a0 : Int32) (a1 : Int32) (a2 : Int32)  (u : am_U) : am_E l g d_X2_leaked 0 (am_ent d_X2_leaked [.int (a0), .int (a1), .int (a2)]) [] (am_of B u) (am_r (am_bP B u) (f_X2_leaked a0 a1 a2)) := by
  unfold f_X2_leaked
  show am_E l g d_X2_leaked 0 [some (.int (a0)), some (.int (a1)), some (.int (a2))] [] (am_of B u) _
  refine e_iload_n dX2_leaked_0 rfl ?_
  refine e_iconst dX2_leaked_1 (v := 4) (by decide) ?_
  refine e_if2_eq dX2_leaked_2 (tgt := 14) (by decide) ?_ ?_
  · refine e_iconst dX2_leaked_14 (v := 0) (by decide) ?_
    exact e_iret dX2_leaked_15 rfl rfl
  · refine e_iload_n dX2_leaked_5 rfl ?_
    refine e_iconst dX2_leaked_6 (v := 2) (by decide) ?_
    refine e_jn (P := fun t : Unit → Option (Int32) => ∀ (j1z : Unit), am_E l g d_X2_leaked 16 [some (.int (a0)), some (.int (a1)), none] [] (am_of B u) (am_r (am_bP B u) (t j1z))) ?_ (fun j1 hj1 => ?_)
    · intro j1z
      refine e_iload_n dX2_leaked_16 rfl ?_
      refine e_iconst dX2_leaked_17 (v := 1) (by decide) ?_
      refine e_if2_ne dX2_leaked_18 (tgt := 30) (by decide) ?_ ?_
      · refine e_iload_n dX2_leaked_30 rfl ?_
        refine q_callSP (As := [_]) rfl dX2_leaked_31 lm_Kinds_15 (am_fitB rfl) yo_X2_tenthsUp ys_X2_tenthsUp rfl (Nat.le_of_ble_eq_true rfl) (Nat.le_of_ble_eq_true rfl) (s_X2_tenthsUp hL _  _) (fun q2 => ?_)
        exact e_iret dX2_leaked_34 rfl rfl
      · refine e_iconst dX2_leaked_21 (v := 2) (by decide) ?_
        refine e_iload_n dX2_leaked_22 rfl ?_
        refine e_imul dX2_leaked_23 ?_
        refine q_callSP (As := [_]) rfl dX2_leaked_24 lm_Kinds_15 (am_fitB rfl) yo_X2_tenthsUp ys_X2_tenthsUp rfl (Nat.le_of_ble_eq_true rfl) (Nat.le_of_ble_eq_true rfl) (s_X2_tenthsUp hL _  _) (fun q3 => ?_)
        refine e_goto dX2_leaked_27 (tgt := 34) (by decide) ?_
        exact e_iret dX2_leaked_34 rfl rfl
    · refine e_if2_ne dX2_leaked_7 (tgt := 16) (by decide) ?_ ?_
      · refine e_msk [true, true, false] (LS1 := [_, _, none]) rfl ?_
        exact hj1 () 
      · refine e_iload_n dX2_leaked_10 rfl ?_
        refine e_if_ne dX2_leaked_11 (tgt := 16) (by decide) ?_ ?_
        · refine e_msk [true, true, false] (LS1 := [_, _, none]) rfl ?_
          exact hj1 () 
        · refine e_iconst dX2_leaked_14 (v := 0) (by decide) ?_
          exact e_iret dX2_leaked_15 rfl rfl

def f_X2_taken (a0 : Int32) (a1 : Int32) : Option (Int32) :=
  (f_J9_min_7cf53 a0 (((10 * a1) + 9) / 9)).bind (fun q1 =>
  some q1)
set_option maxRecDepth 100000 in
set_option maxHeartbeats 4000000 in
theorem s_X2_taken {l : Launch} {g : am_G} {B : am_M} {pl : Nat} (hL : am_Lay B pl) (a0 : Int32) (a1 : Int32)  (u : am_U) : am_E l g d_X2_taken 0 (am_ent d_X2_taken [.int (a0), .int (a1)]) [] (am_of B u) (am_r (am_bP B u) (f_X2_taken a0 a1)) := by
  unfold f_X2_taken
  show am_E l g d_X2_taken 0 [some (.int (a0)), some (.int (a1))] [] (am_of B u) _
  refine e_iload_n dX2_taken_0 rfl ?_
  refine e_bipush dX2_taken_1 (v := 10) (by decide) ?_
  refine e_iload_n dX2_taken_3 rfl ?_
  refine e_imul dX2_taken_4 ?_
  refine e_bipush dX2_taken_5 (v := 9) (by decide) ?_
  refine e_iadd dX2_taken_7 ?_
  refine e_bipush dX2_taken_8 (v := 9) (by decide) ?_
  refine e_idiv dX2_taken_10 (by decide) ?_
  refine q_callSP (As := [_, _]) rfl dX2_taken_11 lm_Kinds_22 (am_fitB rfl) yo_J9_min_7cf53 ys_J9_min_7cf53 rfl (Nat.le_of_ble_eq_true rfl) (Nat.le_of_ble_eq_true rfl) (s_J9_min_7cf53 hL _ _  _) (fun q1 => ?_)
  exact e_iret dX2_taken_14 rfl rfl

def f_X3_addValley_10 (v2 : Int32) (k64 : am_U → Option (am_U)) : Nat → Int32 → am_U → Option (am_U)
  | 0, _, _ => none
  | n + 1, v3, u =>
    if v3 ≤ 0 then (
      k64 u)
    else (
      am_ck (am_ix v3 64) (
      am_jn (fun (j2u : am_U) =>
        f_X3_addValley_10 v2 k64 n ((v3 - 1) &&& v2) j2u) (fun j2 =>
      if 1000000000 ≤ (u 28 v3.toNatClampNeg) then (
        j2 u)
      else (
        am_ck (am_ix v2 64) (
        am_ck (am_ix (v2 ^^^ v3) 64) (
        (f_J9_min_7cf53 (u 27 v2.toNatClampNeg) ((u 27 (v2 ^^^ v3).toNatClampNeg) + (u 28 v3.toNatClampNeg))).bind (fun q5 =>
        let u6 : am_U := am_w u 27 v2.toNatClampNeg q5
        j2 u6)))))))
def f_X3_addValley_4  : Nat → Int32 → am_U → Option (am_U)
  | 0, _, _ => none
  | n + 1, v2, u =>
    if v2 ≤ 0 then (
      some u)
    else (
      f_X3_addValley_10 v2 (fun (c7u : am_U) =>
        f_X3_addValley_4 n (v2 + (-1)) c7u) 20000 v2 u)
def f_X3_addValley (a1 : Int32) (u : am_U) : Option (am_U) :=
  f_X3_addValley_4  20000 (a1 - 1) u
set_option maxRecDepth 100000 in
set_option maxHeartbeats 4000000 in
theorem s_X3_addValley_10 {l : Launch} {g : am_G} {B : am_M} {pl : Nat} (hL : am_Lay B pl) (v2 : Int32)  (k64 : am_U → Option (am_U)) (hk64 : ∀  (u : am_U), am_E l g d_X3_addValley 64 [some (.ref (26)), none, some (.int (v2)), none] [] (am_of B u) (am_r (am_bV B) (k64 u))) : ∀ (n : Nat) (v3 : Int32) (u : am_U), am_E l g d_X3_addValley 10 [some (.ref (26)), none, some (.int (v2)), some (.int (v3))] [] (am_of B u) (am_r (am_bV B) (f_X3_addValley_10 v2 k64 n v3 u)) := by
  intro n
  induction n with
  | zero => intro v3 u; exact am_none
  | succ n ih =>
    intro v3 u
    unfold f_X3_addValley_10
    refine e_iload_n dX3_addValley_10 rfl ?_
    refine e_if_le dX3_addValley_11 (tgt := 64) (by decide) ?_ ?_
    · refine e_msk [true, false, true, false] (LS1 := [_, none, _, none]) rfl ?_
      exact hk64 u
    · refine e_aload_n dX3_addValley_14 rfl ?_
      refine q_getR (r := 28) dX3_addValley_15 lf_Loads_15 rfl (by decide) (am_Lk hL rfl) (am_Lr hL rfl) ?_
      refine e_iload_n dX3_addValley_18 rfl ?_
      refine q_ialdH dX3_addValley_19 (am_Ls hL rfl) (fun i1 => ?_)
      refine e_ldc dX3_addValley_20 lc_Loads_24 ?_
      refine e_jn (P := fun t : am_U → Option (am_U) => ∀ (j2u : am_U), am_E l g d_X3_addValley 55 [some (.ref (26)), none, some (.int (v2)), some (.int (v3))] [] (am_of B j2u) (am_r (am_bV B) (t j2u))) ?_ (fun j2 hj2 => ?_)
      · intro j2u
        refine e_iload_n dX3_addValley_55 rfl ?_
        refine e_iconst dX3_addValley_56 (v := 1) (by decide) ?_
        refine e_isub dX3_addValley_57 ?_
        refine e_iload_n dX3_addValley_58 rfl ?_
        refine e_iand dX3_addValley_59 ?_
        refine e_istore_n dX3_addValley_60 (by decide) (LS1 := [_, none, _, _]) rfl ?_
        refine e_goto dX3_addValley_61 (tgt := 10) (by decide) ?_
        exact ih ((v3 - 1) &&& v2) j2u
      · refine e_if2_ge dX3_addValley_22 (tgt := 55) (by decide) ?_ ?_
        · refine e_msk [true, false, true, true] (LS1 := [_, none, _, _]) rfl ?_
          exact hj2 u
        · refine e_aload_n dX3_addValley_25 rfl ?_
          refine q_getR (r := 27) dX3_addValley_26 lf_Loads_9 rfl (by decide) (am_Lk hL rfl) (am_Lr hL rfl) ?_
          refine e_iload_n dX3_addValley_29 rfl ?_
          refine e_aload_n dX3_addValley_30 rfl ?_
          refine q_getR (r := 27) dX3_addValley_31 lf_Loads_9 rfl (by decide) (am_Lk hL rfl) (am_Lr hL rfl) ?_
          refine e_iload_n dX3_addValley_34 rfl ?_
          refine q_ialdH dX3_addValley_35 (am_Ls hL rfl) (fun i3 => ?_)
          refine e_aload_n dX3_addValley_36 rfl ?_
          refine q_getR (r := 27) dX3_addValley_37 lf_Loads_9 rfl (by decide) (am_Lk hL rfl) (am_Lr hL rfl) ?_
          refine e_iload_n dX3_addValley_40 rfl ?_
          refine e_iload_n dX3_addValley_41 rfl ?_
          refine e_ixor dX3_addValley_42 ?_
          refine q_ialdH dX3_addValley_43 (am_Ls hL rfl) (fun i4 => ?_)
          refine e_aload_n dX3_addValley_44 rfl ?_
          refine q_getR (r := 28) dX3_addValley_45 lf_Loads_15 rfl (by decide) (am_Lk hL rfl) (am_Lr hL rfl) ?_
          refine e_iload_n dX3_addValley_48 rfl ?_
          refine q_ialdC (jn := _) dX3_addValley_49 (am_Ls hL rfl) i1 rfl ?_
          refine e_iadd dX3_addValley_50 ?_
          refine q_callSP (As := [_, _]) rfl dX3_addValley_51 lm_Loads_45 (am_fitB rfl) yo_J9_min_7cf53 ys_J9_min_7cf53 rfl (Nat.le_of_ble_eq_true rfl) (Nat.le_of_ble_eq_true rfl) (s_J9_min_7cf53 hL _ _  _) (fun q5 => ?_)
          refine q_iastC (jn := _) dX3_addValley_54 (am_Ls hL rfl) i3 rfl ?_
          refine e_msk [true, false, true, true] (LS1 := [_, none, _, _]) rfl ?_
          exact hj2 (am_w u 27 v2.toNatClampNeg q5)

set_option maxRecDepth 100000 in
set_option maxHeartbeats 4000000 in
theorem s_X3_addValley_4 {l : Launch} {g : am_G} {B : am_M} {pl : Nat} (hL : am_Lay B pl)     : ∀ (n : Nat) (v2 : Int32) (u : am_U), am_E l g d_X3_addValley 4 [some (.ref (26)), none, some (.int (v2)), none] [] (am_of B u) (am_r (am_bV B) (f_X3_addValley_4 n v2 u)) := by
  intro n
  induction n with
  | zero => intro v2 u; exact am_none
  | succ n ih =>
    intro v2 u
    unfold f_X3_addValley_4
    refine e_iload_n dX3_addValley_4 rfl ?_
    refine e_if_le dX3_addValley_5 (tgt := 70) (by decide) ?_ ?_
    · exact e_vret dX3_addValley_70 rfl rfl
    · refine e_iload_n dX3_addValley_8 rfl ?_
      refine e_istore_n dX3_addValley_9 (by decide) (LS1 := [_, none, _, _]) rfl ?_
      refine s_X3_addValley_10 hL _ _ (fun c7u => ?_) _ _ _
      · refine e_iinc dX3_addValley_64 rfl (v := _ + (-1)) rfl (by decide) (LS1 := [_, none, _, none]) rfl ?_
        refine e_goto dX3_addValley_67 (tgt := 4) (by decide) ?_
        exact ih (v2 + (-1)) c7u

set_option maxRecDepth 100000 in
set_option maxHeartbeats 4000000 in
theorem s_X3_addValley {l : Launch} {g : am_G} {B : am_M} {pl : Nat} (hL : am_Lay B pl) (a1 : Int32)  (u : am_U) : am_E l g d_X3_addValley 0 (am_ent d_X3_addValley [.ref (26), .int (a1)]) [] (am_of B u) (am_r (am_bV B) (f_X3_addValley a1 u)) := by
  unfold f_X3_addValley
  show am_E l g d_X3_addValley 0 [some (.ref (26)), some (.int (a1)), none, none] [] (am_of B u) _
  refine e_iload_n dX3_addValley_0 rfl ?_
  refine e_iconst dX3_addValley_1 (v := 1) (by decide) ?_
  refine e_isub dX3_addValley_2 ?_
  refine e_istore_n dX3_addValley_3 (by decide) (LS1 := [_, _, _, none]) rfl ?_
  refine e_msk [true, false, true, false] (LS1 := [_, none, _, none]) rfl ?_
  refine s_X3_addValley_4 hL  _ _ _

def f_X3_figures (u : am_U) : Option (Int32) :=
  (f_J9_floorMod_7cf53 (u 26 2) 1000000).bind (fun q1 =>
  some (q1 - q1 / 15625 * 15625))
set_option maxRecDepth 100000 in
set_option maxHeartbeats 4000000 in
theorem s_X3_figures {l : Launch} {g : am_G} {B : am_M} {pl : Nat} (hL : am_Lay B pl)   (u : am_U) : am_E l g d_X3_figures 0 (am_ent d_X3_figures [.ref (26)]) [] (am_of B u) (am_r (am_bP B u) (f_X3_figures u)) := by
  unfold f_X3_figures
  show am_E l g d_X3_figures 0 [some (.ref (26))] [] (am_of B u) _
  refine e_aload_n dX3_figures_0 rfl ?_
  refine q_getI dX3_figures_1 lf_Loads_42 (by decide) (am_Lk hL rfl) ?_
  refine e_ldc dX3_figures_4 lc_Loads_51 ?_
  refine q_callSP (As := [_, _]) rfl dX3_figures_6 lm_Loads_55 (am_fitB rfl) yo_J9_floorMod_7cf53 ys_J9_floorMod_7cf53 rfl (Nat.le_of_ble_eq_true rfl) (Nat.le_of_ble_eq_true rfl) (s_J9_floorMod_7cf53 hL _ _  _) (fun q1 => ?_)
  refine e_sipush dX3_figures_9 (v := 15625) (by decide) ?_
  refine e_irem dX3_figures_12 (by decide) ?_
  exact e_iret dX3_figures_13 rfl rfl

def f_X3_litValleys (u : am_U) : Option (Int32) :=
  (f_J9_floorDiv_7cf53 (u 26 2) 1000000).bind (fun q1 =>
  some (-q1))
set_option maxRecDepth 100000 in
set_option maxHeartbeats 4000000 in
theorem s_X3_litValleys {l : Launch} {g : am_G} {B : am_M} {pl : Nat} (hL : am_Lay B pl)   (u : am_U) : am_E l g d_X3_litValleys 0 (am_ent d_X3_litValleys [.ref (26)]) [] (am_of B u) (am_r (am_bP B u) (f_X3_litValleys u)) := by
  unfold f_X3_litValleys
  show am_E l g d_X3_litValleys 0 [some (.ref (26))] [] (am_of B u) _
  refine e_aload_n dX3_litValleys_0 rfl ?_
  refine q_getI dX3_litValleys_1 lf_Loads_42 (by decide) (am_Lk hL rfl) ?_
  refine e_ldc dX3_litValleys_4 lc_Loads_51 ?_
  refine q_callSP (As := [_, _]) rfl dX3_litValleys_6 lm_Loads_52 (am_fitB rfl) yo_J9_floorDiv_7cf53 ys_J9_floorDiv_7cf53 rfl (Nat.le_of_ble_eq_true rfl) (Nat.le_of_ble_eq_true rfl) (s_J9_floorDiv_7cf53 hL _ _  _) (fun q1 => ?_)
  refine e_ineg dX3_litValleys_9 ?_
  exact e_iret dX3_litValleys_10 rfl rfl

def f_X4_recall (a0 n0 : Nat) (a1 : Int32) (u : am_U) : Option (am_U) :=
  (f_X4_isSlot a0 n0 (a1 * 30) u).bind (fun q1 =>
  if ¬ q1 = 0 then (
    am_ck (am_cp ((a1 * 30) + 0) 0 6 n0 6) (
    let u2 : am_U := am_rw u 9 (va_cpy (u (a0 + 1)) (u 9) ((a1 * 30) + 0).toNatClampNeg (0 : Int32).toNatClampNeg (6 : Int32).toNatClampNeg)
    am_ck (am_cp ((a1 * 30) + 6) 0 6 n0 6) (
    let u3 : am_U := am_rw u2 10 (va_cpy (u2 (a0 + 1)) (u2 10) ((a1 * 30) + 6).toNatClampNeg (0 : Int32).toNatClampNeg (6 : Int32).toNatClampNeg)
    am_ck (am_cp ((a1 * 30) + 12) 0 6 n0 6) (
    let u4 : am_U := am_rw u3 11 (va_cpy (u3 (a0 + 1)) (u3 11) ((a1 * 30) + 12).toNatClampNeg (0 : Int32).toNatClampNeg (6 : Int32).toNatClampNeg)
    am_ck (am_cp ((a1 * 30) + 18) 0 5 n0 5) (
    let u5 : am_U := am_rw u4 12 (va_cpy (u4 (a0 + 1)) (u4 12) ((a1 * 30) + 18).toNatClampNeg (0 : Int32).toNatClampNeg (5 : Int32).toNatClampNeg)
    am_ck (am_cp ((a1 * 30) + 23) 0 5 n0 5) (
    let u6 : am_U := am_rw u5 13 (va_cpy (u5 (a0 + 1)) (u5 13) ((a1 * 30) + 23).toNatClampNeg (0 : Int32).toNatClampNeg (5 : Int32).toNatClampNeg)
    am_ck (am_ix ((a1 * 30) + 28) n0) (
    let u8 : am_U := am_w u6 8 5 (u6 (a0 + 1) ((a1 * 30) + 28).toNatClampNeg)
    am_ck (am_ix ((a1 * 30) + 29) n0) (
    let u10 : am_U := am_w u8 8 6 (u8 (a0 + 1) ((a1 * 30) + 29).toNatClampNeg)
    some u10))))))))
  else (
    some u))
set_option maxRecDepth 100000 in
set_option maxHeartbeats 4000000 in
theorem s_X4_recall {l : Launch} {g : am_G} {B : am_M} {pl : Nat} (hL : am_Lay B pl) (a0 n0 : Nat) (a1 : Int32) (h0 : am_isMem B a0 n0) (u : am_U) : am_E l g d_X4_recall 0 (am_ent d_X4_recall [.ref (a0), .int (a1), .ref (8)]) [] (am_of B u) (am_r (am_bV B) (f_X4_recall a0 n0 a1 u)) := by
  unfold f_X4_recall
  show am_E l g d_X4_recall 0 [some (.ref (a0)), some (.int (a1)), some (.ref (8)), none] [] (am_of B u) _
  refine e_iload_n dX4_recall_0 rfl ?_
  refine e_bipush dX4_recall_1 (v := 30) (by decide) ?_
  refine e_imul dX4_recall_3 ?_
  refine e_istore_n dX4_recall_4 (by decide) (LS1 := [_, _, _, _]) rfl ?_
  refine e_aload_n dX4_recall_5 rfl ?_
  refine e_iload_n dX4_recall_6 rfl ?_
  refine q_callVP (As := [_]) rfl dX4_recall_7 lm_Memory_21 (am_fitB rfl) yo_X4_isSlot ys_X4_isSlot rfl rfl (by decide) (congrArg Prod.fst h0.1) rfl (Nat.le_of_ble_eq_true rfl) (Nat.le_of_ble_eq_true rfl) (s_X4_isSlot hL _ _ _ h0 _) (fun q1 => ?_)
  refine e_if_ne dX4_recall_10 (tgt := 14) (by decide) ?_ ?_
  · refine e_aload_n dX4_recall_14 rfl ?_
    refine q_getR (r := a0 + 1) dX4_recall_15 lf_Memory_17 rfl (by decide) (congrArg Prod.fst h0.1) (am_avs h0.2.1) ?_
    refine e_iload_n dX4_recall_18 rfl ?_
    refine e_iconst dX4_recall_19 (v := 0) (by decide) ?_
    refine e_iadd dX4_recall_20 ?_
    refine e_aload_n dX4_recall_21 rfl ?_
    refine q_getR (r := 9) dX4_recall_22 lf_Memory_25 rfl (by decide) (am_Lk hL rfl) (am_Lr hL rfl) ?_
    refine e_iconst dX4_recall_25 (v := 0) (by decide) ?_
    refine e_bipush dX4_recall_26 (v := 6) (by decide) ?_
    refine q_copy dX4_recall_28 lm_Memory_30 lw_nat lw_cps lw_sys h0.2.2 (am_Ls hL rfl) (by decide) (by decide +kernel) ?_
    refine e_aload_n dX4_recall_31 rfl ?_
    refine q_getR (r := a0 + 1) dX4_recall_32 lf_Memory_17 rfl (by decide) (congrArg Prod.fst h0.1) (am_avs h0.2.1) ?_
    refine e_iload_n dX4_recall_35 rfl ?_
    refine e_bipush dX4_recall_36 (v := 6) (by decide) ?_
    refine e_iadd dX4_recall_38 ?_
    refine e_aload_n dX4_recall_39 rfl ?_
    refine q_getR (r := 10) dX4_recall_40 lf_Memory_36 rfl (by decide) (am_Lk hL rfl) (am_Lr hL rfl) ?_
    refine e_iconst dX4_recall_43 (v := 0) (by decide) ?_
    refine e_bipush dX4_recall_44 (v := 6) (by decide) ?_
    refine q_copy dX4_recall_46 lm_Memory_30 lw_nat lw_cps lw_sys h0.2.2 (am_Ls hL rfl) (by decide) (by decide +kernel) ?_
    refine e_aload_n dX4_recall_49 rfl ?_
    refine q_getR (r := a0 + 1) dX4_recall_50 lf_Memory_17 rfl (by decide) (congrArg Prod.fst h0.1) (am_avs h0.2.1) ?_
    refine e_iload_n dX4_recall_53 rfl ?_
    refine e_bipush dX4_recall_54 (v := 12) (by decide) ?_
    refine e_iadd dX4_recall_56 ?_
    refine e_aload_n dX4_recall_57 rfl ?_
    refine q_getR (r := 11) dX4_recall_58 lf_Memory_39 rfl (by decide) (am_Lk hL rfl) (am_Lr hL rfl) ?_
    refine e_iconst dX4_recall_61 (v := 0) (by decide) ?_
    refine e_bipush dX4_recall_62 (v := 6) (by decide) ?_
    refine q_copy dX4_recall_64 lm_Memory_30 lw_nat lw_cps lw_sys h0.2.2 (am_Ls hL rfl) (by decide) (by decide +kernel) ?_
    refine e_aload_n dX4_recall_67 rfl ?_
    refine q_getR (r := a0 + 1) dX4_recall_68 lf_Memory_17 rfl (by decide) (congrArg Prod.fst h0.1) (am_avs h0.2.1) ?_
    refine e_iload_n dX4_recall_71 rfl ?_
    refine e_bipush dX4_recall_72 (v := 18) (by decide) ?_
    refine e_iadd dX4_recall_74 ?_
    refine e_aload_n dX4_recall_75 rfl ?_
    refine q_getR (r := 12) dX4_recall_76 lf_Memory_42 rfl (by decide) (am_Lk hL rfl) (am_Lr hL rfl) ?_
    refine e_iconst dX4_recall_79 (v := 0) (by decide) ?_
    refine e_iconst dX4_recall_80 (v := 5) (by decide) ?_
    refine q_copy dX4_recall_81 lm_Memory_30 lw_nat lw_cps lw_sys h0.2.2 (am_Ls hL rfl) (by decide) (by decide +kernel) ?_
    refine e_aload_n dX4_recall_84 rfl ?_
    refine q_getR (r := a0 + 1) dX4_recall_85 lf_Memory_17 rfl (by decide) (congrArg Prod.fst h0.1) (am_avs h0.2.1) ?_
    refine e_iload_n dX4_recall_88 rfl ?_
    refine e_bipush dX4_recall_89 (v := 23) (by decide) ?_
    refine e_iadd dX4_recall_91 ?_
    refine e_aload_n dX4_recall_92 rfl ?_
    refine q_getR (r := 13) dX4_recall_93 lf_Memory_45 rfl (by decide) (am_Lk hL rfl) (am_Lr hL rfl) ?_
    refine e_iconst dX4_recall_96 (v := 0) (by decide) ?_
    refine e_iconst dX4_recall_97 (v := 5) (by decide) ?_
    refine q_copy dX4_recall_98 lm_Memory_30 lw_nat lw_cps lw_sys h0.2.2 (am_Ls hL rfl) (by decide) (by decide +kernel) ?_
    refine e_aload_n dX4_recall_101 rfl ?_
    refine e_aload_n dX4_recall_102 rfl ?_
    refine q_getR (r := a0 + 1) dX4_recall_103 lf_Memory_17 rfl (by decide) (congrArg Prod.fst h0.1) (am_avs h0.2.1) ?_
    refine e_iload_n dX4_recall_106 rfl ?_
    refine e_bipush dX4_recall_107 (v := 28) (by decide) ?_
    refine e_iadd dX4_recall_109 ?_
    refine q_ialdH dX4_recall_110 h0.2.2 (fun i7 => ?_)
    refine q_putI dX4_recall_111 lf_Memory_48 rfl (by decide) (am_Lk hL rfl) ?_
    refine e_aload_n dX4_recall_114 rfl ?_
    refine e_aload_n dX4_recall_115 rfl ?_
    refine q_getR (r := a0 + 1) dX4_recall_116 lf_Memory_17 rfl (by decide) (congrArg Prod.fst h0.1) (am_avs h0.2.1) ?_
    refine e_iload_n dX4_recall_119 rfl ?_
    refine e_bipush dX4_recall_120 (v := 29) (by decide) ?_
    refine e_iadd dX4_recall_122 ?_
    refine q_ialdH dX4_recall_123 h0.2.2 (fun i9 => ?_)
    refine q_putI dX4_recall_124 lf_Memory_52 rfl (by decide) (am_Lk hL rfl) ?_
    exact e_vret dX4_recall_127 rfl rfl
  · exact e_vret dX4_recall_13 rfl rfl

