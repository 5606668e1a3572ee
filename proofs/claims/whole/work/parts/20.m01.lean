def f_X11_code_9 (u : am_U) : Nat → Int32 → Int32 → Option (Int32)
  | 0, _, _ => none
  | n + 1, v1, v2 =>
    if v2 < 0 then (
      some v1)
    else (
      am_ck (am_ix v2 3) (
      let x2 : Int32 := (21 * v1) + (u 81 v2.toNatClampNeg)
      f_X11_code_9 u n x2 (v2 + (-1))))
def f_X11_code (u : am_U) : Option (Int32) :=
  f_X11_code_9 u 20000 0 ((u 60 32) - 1)
set_option maxRecDepth 100000 in
set_option maxHeartbeats 4000000 in
theorem s_X11_code_9 {l : Launch} {g : am_G} {B : am_M} {pl : Nat} (hL : am_Lay B pl) (u : am_U)     : ∀ (n : Nat) (v1 : Int32) (v2 : Int32), am_E l g d_X11_code 9 [some (.ref (60)), some (.int (v1)), some (.int (v2))] [] (am_of B u) (am_r (am_bP B u) (f_X11_code_9 u n v1 v2)) := by
  intro n
  induction n with
  | zero => intro v1 v2; exact am_none
  | succ n ih =>
    intro v1 v2
    unfold f_X11_code_9
    refine e_iload_n dX11_code_9 rfl ?_
    refine e_if_lt dX11_code_10 (tgt := 31) (by decide) ?_ ?_
    · refine e_iload_n dX11_code_31 rfl ?_
      exact e_iret dX11_code_32 rfl rfl
    · refine e_bipush dX11_code_13 (v := 21) (by decide) ?_
      refine e_iload_n dX11_code_15 rfl ?_
      refine e_imul dX11_code_16 ?_
      refine e_aload_n dX11_code_17 rfl ?_
      refine q_getR (r := 81) dX11_code_18 lf_M_72 rfl (by decide) (am_Lk hL rfl) (am_Lr hL rfl) ?_
      refine e_iload_n dX11_code_21 rfl ?_
      refine q_ialdH dX11_code_22 (am_Ls hL rfl) (fun i1 => ?_)
      refine e_iadd dX11_code_23 ?_
      refine e_istore_n dX11_code_24 (by decide) (LS1 := [_, _, _]) rfl ?_
      refine e_iinc dX11_code_25 rfl (v := _ + (-1)) rfl (by decide) (LS1 := [_, _, _]) rfl ?_
      refine e_goto dX11_code_28 (tgt := 9) (by decide) ?_
      exact ih ((21 * v1) + (u 81 v2.toNatClampNeg)) (v2 + (-1))

set_option maxRecDepth 100000 in
set_option maxHeartbeats 4000000 in
theorem s_X11_code {l : Launch} {g : am_G} {B : am_M} {pl : Nat} (hL : am_Lay B pl)   (u : am_U) : am_E l g d_X11_code 0 (am_ent d_X11_code [.ref (60)]) [] (am_of B u) (am_r (am_bP B u) (f_X11_code u)) := by
  unfold f_X11_code
  show am_E l g d_X11_code 0 [some (.ref (60)), none, none] [] (am_of B u) _
  refine e_iconst dX11_code_0 (v := 0) (by decide) ?_
  refine e_istore_n dX11_code_1 (by decide) (LS1 := [_, _, none]) rfl ?_
  refine e_aload_n dX11_code_2 rfl ?_
  refine q_getI dX11_code_3 lf_M_256 (by decide) (am_Lk hL rfl) ?_
  refine e_iconst dX11_code_6 (v := 1) (by decide) ?_
  refine e_isub dX11_code_7 ?_
  refine e_istore_n dX11_code_8 (by decide) (LS1 := [_, _, _]) rfl ?_
  refine s_X11_code_9 hL _  _ _ _

def f_X11_costOf (a0 : Int32) : Option (Int32) :=
  if ¬ a0 = 3 then (
    if ¬ a0 = 5 then (
      some 1)
    else (
      some 3))
  else (
    some 2)
set_option maxRecDepth 100000 in
set_option maxHeartbeats 4000000 in
theorem s_X11_costOf {l : Launch} {g : am_G} {B : am_M} {pl : Nat} (hL : am_Lay B pl) (a0 : Int32)  (u : am_U) : am_E l g d_X11_costOf 0 (am_ent d_X11_costOf [.int (a0)]) [] (am_of B u) (am_r (am_bP B u) (f_X11_costOf a0)) := by
  unfold f_X11_costOf
  show am_E l g d_X11_costOf 0 [some (.int (a0))] [] (am_of B u) _
  refine e_iload_n dX11_costOf_0 rfl ?_
  refine e_iconst dX11_costOf_1 (v := 3) (by decide) ?_
  refine e_if2_ne dX11_costOf_2 (tgt := 9) (by decide) ?_ ?_
  · refine e_iload_n dX11_costOf_9 rfl ?_
    refine e_iconst dX11_costOf_10 (v := 5) (by decide) ?_
    refine e_if2_ne dX11_costOf_11 (tgt := 18) (by decide) ?_ ?_
    · refine e_iconst dX11_costOf_18 (v := 1) (by decide) ?_
      exact e_iret dX11_costOf_19 rfl rfl
    · refine e_iconst dX11_costOf_14 (v := 3) (by decide) ?_
      refine e_goto dX11_costOf_15 (tgt := 19) (by decide) ?_
      exact e_iret dX11_costOf_19 rfl rfl
  · refine e_iconst dX11_costOf_5 (v := 2) (by decide) ?_
    refine e_goto dX11_costOf_6 (tgt := 19) (by decide) ?_
    exact e_iret dX11_costOf_19 rfl rfl

def f_X11_finding (u : am_U) : Option (Int32) :=
  some (u 60 0)
set_option maxRecDepth 100000 in
set_option maxHeartbeats 4000000 in
theorem s_X11_finding {l : Launch} {g : am_G} {B : am_M} {pl : Nat} (hL : am_Lay B pl)   (u : am_U) : am_E l g d_X11_finding 0 (am_ent d_X11_finding [.ref (60)]) [] (am_of B u) (am_r (am_bP B u) (f_X11_finding u)) := by
  unfold f_X11_finding
  show am_E l g d_X11_finding 0 [some (.ref (60))] [] (am_of B u) _
  refine e_aload_n dX11_finding_0 rfl ?_
  refine q_getI dX11_finding_1 lf_M_102 (by decide) (am_Lk hL rfl) ?_
  exact e_iret dX11_finding_4 rfl rfl

def f_X11_greater (a0 : Int32) (a1 : Int32) : Option (Int32) :=
  if a0 ≤ a1 then (
    some a1)
  else (
    some a0)
set_option maxRecDepth 100000 in
set_option maxHeartbeats 4000000 in
theorem s_X11_greater {l : Launch} {g : am_G} {B : am_M} {pl : Nat} (hL : am_Lay B pl) (a0 : Int32) (a1 : Int32)  (u : am_U) : am_E l g d_X11_greater 0 (am_ent d_X11_greater [.int (a0), .int (a1)]) [] (am_of B u) (am_r (am_bP B u) (f_X11_greater a0 a1)) := by
  unfold f_X11_greater
  show am_E l g d_X11_greater 0 [some (.int (a0)), some (.int (a1))] [] (am_of B u) _
  refine e_iload_n dX11_greater_0 rfl ?_
  refine e_iload_n dX11_greater_1 rfl ?_
  refine e_if2_le dX11_greater_2 (tgt := 9) (by decide) ?_ ?_
  · refine e_iload_n dX11_greater_9 rfl ?_
    exact e_iret dX11_greater_10 rfl rfl
  · refine e_iload_n dX11_greater_5 rfl ?_
    refine e_goto dX11_greater_6 (tgt := 10) (by decide) ?_
    exact e_iret dX11_greater_10 rfl rfl

def f_X11_has (a0 : Int32) (a1 : Int32) : Option (Int32) :=
  if ¬ ((a0 >>> (a1 &&& 31)) &&& 1) = 1 then (
    some 0)
  else (
    some 1)
set_option maxRecDepth 100000 in
set_option maxHeartbeats 4000000 in
theorem s_X11_has {l : Launch} {g : am_G} {B : am_M} {pl : Nat} (hL : am_Lay B pl) (a0 : Int32) (a1 : Int32)  (u : am_U) : am_E l g d_X11_has 0 (am_ent d_X11_has [.int (a0), .int (a1)]) [] (am_of B u) (am_r (am_bP B u) (f_X11_has a0 a1)) := by
  unfold f_X11_has
  show am_E l g d_X11_has 0 [some (.int (a0)), some (.int (a1))] [] (am_of B u) _
  refine e_iload_n dX11_has_0 rfl ?_
  refine e_iload_n dX11_has_1 rfl ?_
  refine e_ishr dX11_has_2 ?_
  refine e_iconst dX11_has_3 (v := 1) (by decide) ?_
  refine e_iand dX11_has_4 ?_
  refine e_iconst dX11_has_5 (v := 1) (by decide) ?_
  refine e_if2_ne dX11_has_6 (tgt := 13) (by decide) ?_ ?_
  · refine e_iconst dX11_has_13 (v := 0) (by decide) ?_
    exact e_zret dX11_has_14 rfl rfl (Or.inl rfl)
  · refine e_iconst dX11_has_9 (v := 1) (by decide) ?_
    refine e_goto dX11_has_10 (tgt := 14) (by decide) ?_
    exact e_zret dX11_has_14 rfl rfl (Or.inr rfl)

def f_X11_in (a0 : Int32) (a1 : Int32) (a2 : Int32) : Option (Int32) :=
  if a0 < a1 then (
    some 0)
  else (
    if a2 < a0 then (
      some 0)
    else (
      some 1))
set_option maxRecDepth 100000 in
set_option maxHeartbeats 4000000 in
theorem s_X11_in {l : Launch} {g : am_G} {B : am_M} {pl : Nat} (hL : am_Lay B pl) (a0 : Int32) (a1 : Int32) (a2 : Int32)  (u : am_U) : am_E l g d_X11_in 0 (am_ent d_X11_in [.int (a0), .int (a1), .int (a2)]) [] (am_of B u) (am_r (am_bP B u) (f_X11_in a0 a1 a2)) := by
  unfold f_X11_in
  show am_E l g d_X11_in 0 [some (.int (a0)), some (.int (a1)), some (.int (a2))] [] (am_of B u) _
  refine e_iload_n dX11_in_0 rfl ?_
  refine e_iload_n dX11_in_1 rfl ?_
  refine e_if2_lt dX11_in_2 (tgt := 14) (by decide) ?_ ?_
  · refine e_iconst dX11_in_14 (v := 0) (by decide) ?_
    exact e_zret dX11_in_15 rfl rfl (Or.inl rfl)
  · refine e_iload_n dX11_in_5 rfl ?_
    refine e_iload_n dX11_in_6 rfl ?_
    refine e_if2_gt dX11_in_7 (tgt := 14) (by decide) ?_ ?_
    · refine e_iconst dX11_in_14 (v := 0) (by decide) ?_
      exact e_zret dX11_in_15 rfl rfl (Or.inl rfl)
    · refine e_iconst dX11_in_10 (v := 1) (by decide) ?_
      refine e_goto dX11_in_11 (tgt := 15) (by decide) ?_
      exact e_zret dX11_in_15 rfl rfl (Or.inr rfl)

def f_X11_jarTells (a1 : Int32) (a2 : Int32) (u : am_U) : Option (Int32) :=
  if a2 = 0 then (
    am_ck (am_ix a1 6) (
    some (u 69 a1.toNatClampNeg)))
  else   if a2 = 1 then (
    am_ck (am_ix a1 6) (
    some (u 70 a1.toNatClampNeg)))
  else   if a2 = 2 then (
    am_ck (am_ix (0 + a1) 30) (
    some (u 75 (0 + a1).toNatClampNeg)))
  else   if a2 = 3 then (
    am_ck (am_ix (6 + a1) 30) (
    some (u 75 (6 + a1).toNatClampNeg)))
  else (
    am_ck (am_ix (12 + a1) 30) (
    some (u 75 (12 + a1).toNatClampNeg)))
set_option maxRecDepth 100000 in
set_option maxHeartbeats 4000000 in
theorem s_X11_jarTells {l : Launch} {g : am_G} {B : am_M} {pl : Nat} (hL : am_Lay B pl) (a1 : Int32) (a2 : Int32)  (u : am_U) : am_E l g d_X11_jarTells 0 (am_ent d_X11_jarTells [.ref (60), .int (a1), .int (a2)]) [] (am_of B u) (am_r (am_bP B u) (f_X11_jarTells a1 a2 u)) := by
  unfold f_X11_jarTells
  show am_E l g d_X11_jarTells 0 [some (.ref (60)), some (.int (a1)), some (.int (a2))] [] (am_of B u) _
  refine e_iload_n dX11_jarTells_0 rfl ?_
  refine e_sw (c := 0) (fun hc => ?_) (fun hn0 => ?_)
  · subst hc
    refine e_tabIn dX11_jarTells_1 (tgt := 32) (by decide) (by decide) rfl (by decide) ?_
    refine e_aload_n dX11_jarTells_32 rfl ?_
    refine q_getR (r := 69) dX11_jarTells_33 lf_M_35 rfl (by decide) (am_Lk hL rfl) (am_Lr hL rfl) ?_
    refine e_iload_n dX11_jarTells_36 rfl ?_
    refine q_ialdH dX11_jarTells_37 (am_Ls hL rfl) (fun i1 => ?_)
    exact e_iret dX11_jarTells_38 rfl rfl
  refine e_sw (c := 1) (fun hc => ?_) (fun hn1 => ?_)
  · subst hc
    refine e_tabIn dX11_jarTells_1 (tgt := 39) (by decide) (by decide) rfl (by decide) ?_
    refine e_aload_n dX11_jarTells_39 rfl ?_
    refine q_getR (r := 70) dX11_jarTells_40 lf_M_38 rfl (by decide) (am_Lk hL rfl) (am_Lr hL rfl) ?_
    refine e_iload_n dX11_jarTells_43 rfl ?_
    refine q_ialdH dX11_jarTells_44 (am_Ls hL rfl) (fun i2 => ?_)
    exact e_iret dX11_jarTells_45 rfl rfl
  refine e_sw (c := 2) (fun hc => ?_) (fun hn2 => ?_)
  · subst hc
    refine e_tabIn dX11_jarTells_1 (tgt := 46) (by decide) (by decide) rfl (by decide) ?_
    refine e_aload_n dX11_jarTells_46 rfl ?_
    refine q_getR (r := 75) dX11_jarTells_47 lf_M_53 rfl (by decide) (am_Lk hL rfl) (am_Lr hL rfl) ?_
    refine e_iconst dX11_jarTells_50 (v := 0) (by decide) ?_
    refine e_iload_n dX11_jarTells_51 rfl ?_
    refine e_iadd dX11_jarTells_52 ?_
    refine q_ialdH dX11_jarTells_53 (am_Ls hL rfl) (fun i3 => ?_)
    exact e_iret dX11_jarTells_54 rfl rfl
  refine e_sw (c := 3) (fun hc => ?_) (fun hn3 => ?_)
  · subst hc
    refine e_tabIn dX11_jarTells_1 (tgt := 55) (by decide) (by decide) rfl (by decide) ?_
    refine e_aload_n dX11_jarTells_55 rfl ?_
    refine q_getR (r := 75) dX11_jarTells_56 lf_M_53 rfl (by decide) (am_Lk hL rfl) (am_Lr hL rfl) ?_
    refine e_bipush dX11_jarTells_59 (v := 6) (by decide) ?_
    refine e_iload_n dX11_jarTells_61 rfl ?_
    refine e_iadd dX11_jarTells_62 ?_
    refine q_ialdH dX11_jarTells_63 (am_Ls hL rfl) (fun i4 => ?_)
    exact e_iret dX11_jarTells_64 rfl rfl
  have hm0 := lv_neT hn0 (show (0 : Int32).toInt = 0 by decide)
  have hm1 := lv_neT hn1 (show (1 : Int32).toInt = 1 by decide)
  have hm2 := lv_neT hn2 (show (2 : Int32).toInt = 2 by decide)
  have hm3 := lv_neT hn3 (show (3 : Int32).toInt = 3 by decide)
  refine e_tabOut dX11_jarTells_1 (tgt := 65) (by omega) (by decide) ?_
  refine e_aload_n dX11_jarTells_65 rfl ?_
  refine q_getR (r := 75) dX11_jarTells_66 lf_M_53 rfl (by decide) (am_Lk hL rfl) (am_Lr hL rfl) ?_
  refine e_bipush dX11_jarTells_69 (v := 12) (by decide) ?_
  refine e_iload_n dX11_jarTells_71 rfl ?_
  refine e_iadd dX11_jarTells_72 ?_
  refine q_ialdH dX11_jarTells_73 (am_Ls hL rfl) (fun i5 => ?_)
  exact e_iret dX11_jarTells_74 rfl rfl

def f_X11_kindOf (a0 : Int32) : Option (Int32) :=
  if a0 = 99 then (
    some 1)
  else   if a0 = 100 then (
    some 3)
  else   if a0 = 101 then (
    some 2)
  else   if a0 = 106 then (
    some 0)
  else   if a0 = 108 then (
    some 4)
  else   if a0 = 117 then (
    some 5)
  else (
    some ((-9) : Int32))
set_option maxRecDepth 100000 in
set_option maxHeartbeats 4000000 in
theorem s_X11_kindOf {l : Launch} {g : am_G} {B : am_M} {pl : Nat} (hL : am_Lay B pl) (a0 : Int32)  (u : am_U) : am_E l g d_X11_kindOf 0 (am_ent d_X11_kindOf [.int (a0)]) [] (am_of B u) (am_r (am_bP B u) (f_X11_kindOf a0)) := by
  unfold f_X11_kindOf
  show am_E l g d_X11_kindOf 0 [some (.int (a0))] [] (am_of B u) _
  refine e_iload_n dX11_kindOf_0 rfl ?_
  refine e_sw (c := 99) (fun hc => ?_) (fun hn0 => ?_)
  · subst hc
    refine e_tabIn dX11_kindOf_1 (tgt := 94) (by decide) (by decide) rfl (by decide) ?_
    refine e_iconst dX11_kindOf_94 (v := 1) (by decide) ?_
    exact e_iret dX11_kindOf_95 rfl rfl
  refine e_sw (c := 100) (fun hc => ?_) (fun hn1 => ?_)
  · subst hc
    refine e_tabIn dX11_kindOf_1 (tgt := 98) (by decide) (by decide) rfl (by decide) ?_
    refine e_iconst dX11_kindOf_98 (v := 3) (by decide) ?_
    exact e_iret dX11_kindOf_99 rfl rfl
  refine e_sw (c := 101) (fun hc => ?_) (fun hn2 => ?_)
  · subst hc
    refine e_tabIn dX11_kindOf_1 (tgt := 96) (by decide) (by decide) rfl (by decide) ?_
    refine e_iconst dX11_kindOf_96 (v := 2) (by decide) ?_
    exact e_iret dX11_kindOf_97 rfl rfl
  refine e_sw (c := 106) (fun hc => ?_) (fun hn3 => ?_)
  · subst hc
    refine e_tabIn dX11_kindOf_1 (tgt := 92) (by decide) (by decide) rfl (by decide) ?_
    refine e_iconst dX11_kindOf_92 (v := 0) (by decide) ?_
    exact e_iret dX11_kindOf_93 rfl rfl
  refine e_sw (c := 108) (fun hc => ?_) (fun hn4 => ?_)
  · subst hc
    refine e_tabIn dX11_kindOf_1 (tgt := 100) (by decide) (by decide) rfl (by decide) ?_
    refine e_iconst dX11_kindOf_100 (v := 4) (by decide) ?_
    exact e_iret dX11_kindOf_101 rfl rfl
  refine e_sw (c := 117) (fun hc => ?_) (fun hn5 => ?_)
  · subst hc
    refine e_tabIn dX11_kindOf_1 (tgt := 102) (by decide) (by decide) rfl (by decide) ?_
    refine e_iconst dX11_kindOf_102 (v := 5) (by decide) ?_
    exact e_iret dX11_kindOf_103 rfl rfl
  have hm0 := lv_neT hn0 (show (99 : Int32).toInt = 99 by decide)
  have hm1 := lv_neT hn1 (show (100 : Int32).toInt = 100 by decide)
  have hm2 := lv_neT hn2 (show (101 : Int32).toInt = 101 by decide)
  have hm3 := lv_neT hn3 (show (106 : Int32).toInt = 106 by decide)
  have hm4 := lv_neT hn4 (show (108 : Int32).toInt = 108 by decide)
  have hm5 := lv_neT hn5 (show (117 : Int32).toInt = 117 by decide)
  by_cases hh0 : a0 = 102
  · subst hh0
    refine e_tabIn dX11_kindOf_1 (tgt := 104) (by decide) (by decide) rfl (by decide) ?_
    refine e_bipush dX11_kindOf_104 (v := ((-9) : Int32)) (by decide) ?_
    exact e_iret dX11_kindOf_106 rfl rfl
  have hk0 := lv_neT hh0 (show (102 : Int32).toInt = 102 by decide)
  by_cases hh1 : a0 = 103
  · subst hh1
    refine e_tabIn dX11_kindOf_1 (tgt := 104) (by decide) (by decide) rfl (by decide) ?_
    refine e_bipush dX11_kindOf_104 (v := ((-9) : Int32)) (by decide) ?_
    exact e_iret dX11_kindOf_106 rfl rfl
  have hk1 := lv_neT hh1 (show (103 : Int32).toInt = 103 by decide)
  by_cases hh2 : a0 = 104
  · subst hh2
    refine e_tabIn dX11_kindOf_1 (tgt := 104) (by decide) (by decide) rfl (by decide) ?_
    refine e_bipush dX11_kindOf_104 (v := ((-9) : Int32)) (by decide) ?_
    exact e_iret dX11_kindOf_106 rfl rfl
  have hk2 := lv_neT hh2 (show (104 : Int32).toInt = 104 by decide)
  by_cases hh3 : a0 = 105
  · subst hh3
    refine e_tabIn dX11_kindOf_1 (tgt := 104) (by decide) (by decide) rfl (by decide) ?_
    refine e_bipush dX11_kindOf_104 (v := ((-9) : Int32)) (by decide) ?_
    exact e_iret dX11_kindOf_106 rfl rfl
  have hk3 := lv_neT hh3 (show (105 : Int32).toInt = 105 by decide)
  by_cases hh4 : a0 = 107
  · subst hh4
    refine e_tabIn dX11_kindOf_1 (tgt := 104) (by decide) (by decide) rfl (by decide) ?_
    refine e_bipush dX11_kindOf_104 (v := ((-9) : Int32)) (by decide) ?_
    exact e_iret dX11_kindOf_106 rfl rfl
  have hk4 := lv_neT hh4 (show (107 : Int32).toInt = 107 by decide)
  by_cases hh5 : a0 = 109
  · subst hh5
    refine e_tabIn dX11_kindOf_1 (tgt := 104) (by decide) (by decide) rfl (by decide) ?_
    refine e_bipush dX11_kindOf_104 (v := ((-9) : Int32)) (by decide) ?_
    exact e_iret dX11_kindOf_106 rfl rfl
  have hk5 := lv_neT hh5 (show (109 : Int32).toInt = 109 by decide)
  by_cases hh6 : a0 = 110
  · subst hh6
    refine e_tabIn dX11_kindOf_1 (tgt := 104) (by decide) (by decide) rfl (by decide) ?_
    refine e_bipush dX11_kindOf_104 (v := ((-9) : Int32)) (by decide) ?_
    exact e_iret dX11_kindOf_106 rfl rfl
  have hk6 := lv_neT hh6 (show (110 : Int32).toInt = 110 by decide)
  by_cases hh7 : a0 = 111
  · subst hh7
    refine e_tabIn dX11_kindOf_1 (tgt := 104) (by decide) (by decide) rfl (by decide) ?_
    refine e_bipush dX11_kindOf_104 (v := ((-9) : Int32)) (by decide) ?_
    exact e_iret dX11_kindOf_106 rfl rfl
  have hk7 := lv_neT hh7 (show (111 : Int32).toInt = 111 by decide)
  by_cases hh8 : a0 = 112
  · subst hh8
    refine e_tabIn dX11_kindOf_1 (tgt := 104) (by decide) (by decide) rfl (by decide) ?_
    refine e_bipush dX11_kindOf_104 (v := ((-9) : Int32)) (by decide) ?_
    exact e_iret dX11_kindOf_106 rfl rfl
  have hk8 := lv_neT hh8 (show (112 : Int32).toInt = 112 by decide)
  by_cases hh9 : a0 = 113
  · subst hh9
    refine e_tabIn dX11_kindOf_1 (tgt := 104) (by decide) (by decide) rfl (by decide) ?_
    refine e_bipush dX11_kindOf_104 (v := ((-9) : Int32)) (by decide) ?_
    exact e_iret dX11_kindOf_106 rfl rfl
  have hk9 := lv_neT hh9 (show (113 : Int32).toInt = 113 by decide)
  by_cases hh10 : a0 = 114
  · subst hh10
    refine e_tabIn dX11_kindOf_1 (tgt := 104) (by decide) (by decide) rfl (by decide) ?_
    refine e_bipush dX11_kindOf_104 (v := ((-9) : Int32)) (by decide) ?_
    exact e_iret dX11_kindOf_106 rfl rfl
  have hk10 := lv_neT hh10 (show (114 : Int32).toInt = 114 by decide)
  by_cases hh11 : a0 = 115
  · subst hh11
    refine e_tabIn dX11_kindOf_1 (tgt := 104) (by decide) (by decide) rfl (by decide) ?_
    refine e_bipush dX11_kindOf_104 (v := ((-9) : Int32)) (by decide) ?_
    exact e_iret dX11_kindOf_106 rfl rfl
  have hk11 := lv_neT hh11 (show (115 : Int32).toInt = 115 by decide)
  by_cases hh12 : a0 = 116
  · subst hh12
    refine e_tabIn dX11_kindOf_1 (tgt := 104) (by decide) (by decide) rfl (by decide) ?_
    refine e_bipush dX11_kindOf_104 (v := ((-9) : Int32)) (by decide) ?_
    exact e_iret dX11_kindOf_106 rfl rfl
  have hk12 := lv_neT hh12 (show (116 : Int32).toInt = 116 by decide)
  refine e_tabOut dX11_kindOf_1 (tgt := 104) (by omega) (by decide) ?_
  refine e_bipush dX11_kindOf_104 (v := ((-9) : Int32)) (by decide) ?_
  exact e_iret dX11_kindOf_106 rfl rfl

def f_X11_layHere_7 (v1 : Int32) : Nat → Int32 → am_U → Option (am_U)
  | 0, _, _ => none
  | n + 1, v2, u =>
    if (u 60 12) ≤ v2 then (
      some u)
    else (
      am_ck (am_ix (6 + v2) 30) (
      am_ck (am_ix (6 + v1) 30) (
      if ¬ (u 75 (6 + v2).toNatClampNeg) = (u 75 (6 + v1).toNatClampNeg) then (
        f_X11_layHere_7 v1 n (v2 + 1) u)
      else (
        am_ck (am_ix (u 60 32) 6) (
        let u4 : am_U := am_w u 80 (u 60 32).toNatClampNeg v2
        let u6 : am_U := am_w u4 60 32 ((u4 60 32) + 1)
        f_X11_layHere_7 v1 n (v2 + 1) u6)))))
def f_X11_layHere (a1 : Int32) (u : am_U) : Option (am_U) :=
  let u1 : am_U := am_w u 60 32 0
  f_X11_layHere_7 a1 20000 0 u1
set_option maxRecDepth 100000 in
set_option maxHeartbeats 4000000 in
theorem s_X11_layHere_7 {l : Launch} {g : am_G} {B : am_M} {pl : Nat} (hL : am_Lay B pl) (v1 : Int32)    : ∀ (n : Nat) (v2 : Int32) (u : am_U), am_E l g d_X11_layHere 7 [some (.ref (60)), some (.int (v1)), some (.int (v2))] [] (am_of B u) (am_r (am_bV B) (f_X11_layHere_7 v1 n v2 u)) := by
  intro n
  induction n with
  | zero => intro v2 u; exact am_none
  | succ n ih =>
    intro v2 u
    unfold f_X11_layHere_7
    refine e_iload_n dX11_layHere_7 rfl ?_
    refine e_aload_n dX11_layHere_8 rfl ?_
    refine q_getI dX11_layHere_9 lf_M_184 (by decide) (am_Lk hL rfl) ?_
    refine e_if2_ge dX11_layHere_12 (tgt := 62) (by decide) ?_ ?_
    · exact e_vret dX11_layHere_62 rfl rfl
    · refine e_aload_n dX11_layHere_15 rfl ?_
      refine q_getR (r := 75) dX11_layHere_16 lf_M_53 rfl (by decide) (am_Lk hL rfl) (am_Lr hL rfl) ?_
      refine e_bipush dX11_layHere_19 (v := 6) (by decide) ?_
      refine e_iload_n dX11_layHere_21 rfl ?_
      refine e_iadd dX11_layHere_22 ?_
      refine q_ialdH dX11_layHere_23 (am_Ls hL rfl) (fun i2 => ?_)
      refine e_aload_n dX11_layHere_24 rfl ?_
      refine q_getR (r := 75) dX11_layHere_25 lf_M_53 rfl (by decide) (am_Lk hL rfl) (am_Lr hL rfl) ?_
      refine e_bipush dX11_layHere_28 (v := 6) (by decide) ?_
      refine e_iload_n dX11_layHere_30 rfl ?_
      refine e_iadd dX11_layHere_31 ?_
      refine q_ialdH dX11_layHere_32 (am_Ls hL rfl) (fun i3 => ?_)
      refine e_if2_ne dX11_layHere_33 (tgt := 56) (by decide) ?_ ?_
      · refine e_iinc dX11_layHere_56 rfl (v := _ + 1) rfl (by decide) (LS1 := [_, _, _]) rfl ?_
        refine e_goto dX11_layHere_59 (tgt := 7) (by decide) ?_
        exact ih (v2 + 1) u
      · refine e_aload_n dX11_layHere_36 rfl ?_
        refine q_getR (r := 80) dX11_layHere_37 lf_M_69 rfl (by decide) (am_Lk hL rfl) (am_Lr hL rfl) ?_
        refine e_aload_n dX11_layHere_40 rfl ?_
        refine q_getI dX11_layHere_41 lf_M_256 (by decide) (am_Lk hL rfl) ?_
        refine e_iload_n dX11_layHere_44 rfl ?_
        refine q_iastH dX11_layHere_45 (am_Ls hL rfl) (fun i5 => ?_)
        refine e_aload_n dX11_layHere_46 rfl ?_
        refine e_dup dX11_layHere_47 rfl ?_
        refine q_getI dX11_layHere_48 lf_M_256 (by decide) (am_Lk hL rfl) ?_
        refine e_iconst dX11_layHere_51 (v := 1) (by decide) ?_
        refine e_iadd dX11_layHere_52 ?_
        refine q_putI dX11_layHere_53 lf_M_256 rfl (by decide) (am_Lk hL rfl) ?_
        refine e_iinc dX11_layHere_56 rfl (v := _ + 1) rfl (by decide) (LS1 := [_, _, _]) rfl ?_
        refine e_goto dX11_layHere_59 (tgt := 7) (by decide) ?_
        exact ih (v2 + 1) (am_w (am_w u 80 (u 60 32).toNatClampNeg v2) 60 32 (((am_w u 80 (u 60 32).toNatClampNeg v2) 60 32) + 1))

set_option maxRecDepth 100000 in
set_option maxHeartbeats 4000000 in
theorem s_X11_layHere {l : Launch} {g : am_G} {B : am_M} {pl : Nat} (hL : am_Lay B pl) (a1 : Int32)  (u : am_U) : am_E l g d_X11_layHere 0 (am_ent d_X11_layHere [.ref (60), .int (a1)]) [] (am_of B u) (am_r (am_bV B) (f_X11_layHere a1 u)) := by
  unfold f_X11_layHere
  show am_E l g d_X11_layHere 0 [some (.ref (60)), some (.int (a1)), none] [] (am_of B u) _
  refine e_aload_n dX11_layHere_0 rfl ?_
  refine e_iconst dX11_layHere_1 (v := 0) (by decide) ?_
  refine q_putI dX11_layHere_2 lf_M_256 rfl (by decide) (am_Lk hL rfl) ?_
  refine e_iconst dX11_layHere_5 (v := 0) (by decide) ?_
  refine e_istore_n dX11_layHere_6 (by decide) (LS1 := [_, _, _]) rfl ?_
  refine s_X11_layHere_7 hL _ _ _ _

def f_X11_lightAll_4 (u : am_U) : Nat → Int32 → Int32 → Option (Int32)
  | 0, _, _ => none
  | n + 1, v1, v2 =>
    if (u 60 12) ≤ v2 then (
      some v1)
    else (
      am_ck (am_ix (0 + v2) 30) (
      let x2 : Int32 := v1 + (u 75 (0 + v2).toNatClampNeg)
      f_X11_lightAll_4 u n x2 (v2 + 1)))
def f_X11_lightAll (u : am_U) : Option (Int32) :=
  f_X11_lightAll_4 u 20000 0 0
set_option maxRecDepth 100000 in
set_option maxHeartbeats 4000000 in
theorem s_X11_lightAll_4 {l : Launch} {g : am_G} {B : am_M} {pl : Nat} (hL : am_Lay B pl) (u : am_U)     : ∀ (n : Nat) (v1 : Int32) (v2 : Int32), am_E l g d_X11_lightAll 4 [some (.ref (60)), some (.int (v1)), some (.int (v2))] [] (am_of B u) (am_r (am_bP B u) (f_X11_lightAll_4 u n v1 v2)) := by
  intro n
  induction n with
  | zero => intro v1 v2; exact am_none
  | succ n ih =>
    intro v1 v2
    unfold f_X11_lightAll_4
    refine e_iload_n dX11_lightAll_4 rfl ?_
    refine e_aload_n dX11_lightAll_5 rfl ?_
    refine q_getI dX11_lightAll_6 lf_M_184 (by decide) (am_Lk hL rfl) ?_
    refine e_if2_ge dX11_lightAll_9 (tgt := 29) (by decide) ?_ ?_
    · refine e_iload_n dX11_lightAll_29 rfl ?_
      exact e_iret dX11_lightAll_30 rfl rfl
    · refine e_iload_n dX11_lightAll_12 rfl ?_
      refine e_aload_n dX11_lightAll_13 rfl ?_
      refine q_getR (r := 75) dX11_lightAll_14 lf_M_53 rfl (by decide) (am_Lk hL rfl) (am_Lr hL rfl) ?_
      refine e_iconst dX11_lightAll_17 (v := 0) (by decide) ?_
      refine e_iload_n dX11_lightAll_18 rfl ?_
      refine e_iadd dX11_lightAll_19 ?_
      refine q_ialdH dX11_lightAll_20 (am_Ls hL rfl) (fun i1 => ?_)
      refine e_iadd dX11_lightAll_21 ?_
      refine e_istore_n dX11_lightAll_22 (by decide) (LS1 := [_, _, _]) rfl ?_
      refine e_iinc dX11_lightAll_23 rfl (v := _ + 1) rfl (by decide) (LS1 := [_, _, _]) rfl ?_
      refine e_goto dX11_lightAll_26 (tgt := 4) (by decide) ?_
      exact ih (v1 + (u 75 (0 + v2).toNatClampNeg)) (v2 + 1)

set_option maxRecDepth 100000 in
set_option maxHeartbeats 4000000 in
theorem s_X11_lightAll {l : Launch} {g : am_G} {B : am_M} {pl : Nat} (hL : am_Lay B pl)   (u : am_U) : am_E l g d_X11_lightAll 0 (am_ent d_X11_lightAll [.ref (60)]) [] (am_of B u) (am_r (am_bP B u) (f_X11_lightAll u)) := by
  unfold f_X11_lightAll
  show am_E l g d_X11_lightAll 0 [some (.ref (60)), none, none] [] (am_of B u) _
  refine e_iconst dX11_lightAll_0 (v := 0) (by decide) ?_
  refine e_istore_n dX11_lightAll_1 (by decide) (LS1 := [_, _, none]) rfl ?_
  refine e_iconst dX11_lightAll_2 (v := 0) (by decide) ?_
  refine e_istore_n dX11_lightAll_3 (by decide) (LS1 := [_, _, _]) rfl ?_
  refine s_X11_lightAll_4 hL _  _ _ _

def f_X11_lightAt_4 (u : am_U) (v1 : Int32) : Nat → Int32 → Int32 → Option (Int32)
  | 0, _, _ => none
  | n + 1, v2, v3 =>
    if (u 60 12) ≤ v3 then (
      some v2)
    else (
      am_ck (am_ix (6 + v3) 30) (
      if ¬ (u 75 (6 + v3).toNatClampNeg) = v1 then (
        f_X11_lightAt_4 u v1 n (v2 + 0) (v3 + 1))
      else (
        am_ck (am_ix (0 + v3) 30) (
        let x3 : Int32 := v2 + (u 75 (0 + v3).toNatClampNeg)
        f_X11_lightAt_4 u v1 n x3 (v3 + 1)))))
def f_X11_lightAt (a1 : Int32) (u : am_U) : Option (Int32) :=
  f_X11_lightAt_4 u a1 20000 0 0
set_option maxRecDepth 100000 in
set_option maxHeartbeats 4000000 in
theorem s_X11_lightAt_4 {l : Launch} {g : am_G} {B : am_M} {pl : Nat} (hL : am_Lay B pl) (u : am_U) (v1 : Int32)    : ∀ (n : Nat) (v2 : Int32) (v3 : Int32), am_E l g d_X11_lightAt 4 [some (.ref (60)), some (.int (v1)), some (.int (v2)), some (.int (v3))] [] (am_of B u) (am_r (am_bP B u) (f_X11_lightAt_4 u v1 n v2 v3)) := by
  intro n
  induction n with
  | zero => intro v2 v3; exact am_none
  | succ n ih =>
    intro v2 v3
    unfold f_X11_lightAt_4
    refine e_iload_n dX11_lightAt_4 rfl ?_
    refine e_aload_n dX11_lightAt_5 rfl ?_
    refine q_getI dX11_lightAt_6 lf_M_184 (by decide) (am_Lk hL rfl) ?_
    refine e_if2_ge dX11_lightAt_9 (tgt := 46) (by decide) ?_ ?_
    · refine e_iload_n dX11_lightAt_46 rfl ?_
      exact e_iret dX11_lightAt_47 rfl rfl
    · refine e_iload_n dX11_lightAt_12 rfl ?_
      refine e_aload_n dX11_lightAt_13 rfl ?_
      refine q_getR (r := 75) dX11_lightAt_14 lf_M_53 rfl (by decide) (am_Lk hL rfl) (am_Lr hL rfl) ?_
      refine e_bipush dX11_lightAt_17 (v := 6) (by decide) ?_
      refine e_iload_n dX11_lightAt_19 rfl ?_
      refine e_iadd dX11_lightAt_20 ?_
      refine q_ialdH dX11_lightAt_21 (am_Ls hL rfl) (fun i1 => ?_)
      refine e_iload_n dX11_lightAt_22 rfl ?_
      refine e_if2_ne dX11_lightAt_23 (tgt := 37) (by decide) ?_ ?_
      · refine e_iconst dX11_lightAt_37 (v := 0) (by decide) ?_
        refine e_iadd dX11_lightAt_38 ?_
        refine e_istore_n dX11_lightAt_39 (by decide) (LS1 := [_, _, _, _]) rfl ?_
        refine e_iinc dX11_lightAt_40 rfl (v := _ + 1) rfl (by decide) (LS1 := [_, _, _, _]) rfl ?_
        refine e_goto dX11_lightAt_43 (tgt := 4) (by decide) ?_
        exact ih (v2 + 0) (v3 + 1)
      · refine e_aload_n dX11_lightAt_26 rfl ?_
        refine q_getR (r := 75) dX11_lightAt_27 lf_M_53 rfl (by decide) (am_Lk hL rfl) (am_Lr hL rfl) ?_
        refine e_iconst dX11_lightAt_30 (v := 0) (by decide) ?_
        refine e_iload_n dX11_lightAt_31 rfl ?_
        refine e_iadd dX11_lightAt_32 ?_
        refine q_ialdH dX11_lightAt_33 (am_Ls hL rfl) (fun i2 => ?_)
        refine e_goto dX11_lightAt_34 (tgt := 38) (by decide) ?_
        refine e_iadd dX11_lightAt_38 ?_
        refine e_istore_n dX11_lightAt_39 (by decide) (LS1 := [_, _, _, _]) rfl ?_
        refine e_iinc dX11_lightAt_40 rfl (v := _ + 1) rfl (by decide) (LS1 := [_, _, _, _]) rfl ?_
        refine e_goto dX11_lightAt_43 (tgt := 4) (by decide) ?_
        exact ih (v2 + (u 75 (0 + v3).toNatClampNeg)) (v3 + 1)

set_option maxRecDepth 100000 in
set_option maxHeartbeats 4000000 in
theorem s_X11_lightAt {l : Launch} {g : am_G} {B : am_M} {pl : Nat} (hL : am_Lay B pl) (a1 : Int32)  (u : am_U) : am_E l g d_X11_lightAt 0 (am_ent d_X11_lightAt [.ref (60), .int (a1)]) [] (am_of B u) (am_r (am_bP B u) (f_X11_lightAt a1 u)) := by
  unfold f_X11_lightAt
  show am_E l g d_X11_lightAt 0 [some (.ref (60)), some (.int (a1)), none, none] [] (am_of B u) _
  refine e_iconst dX11_lightAt_0 (v := 0) (by decide) ?_
  refine e_istore_n dX11_lightAt_1 (by decide) (LS1 := [_, _, _, none]) rfl ?_
  refine e_iconst dX11_lightAt_2 (v := 0) (by decide) ?_
  refine e_istore_n dX11_lightAt_3 (by decide) (LS1 := [_, _, _, _]) rfl ?_
  refine s_X11_lightAt_4 hL _ _ _ _ _

def f_X11_look_4  : Nat → Int32 → Int32 → am_U → Option (am_U)
  | 0, _, _, _ => none
  | n + 1, v2, v3, u =>
    if (u 60 32) ≤ v3 then (
      some u)
    else (
      am_ck (am_ix v3 3) (
      let u1 : am_U := am_w u 81 v3.toNatClampNeg (v2 - v2 / 21 * 21)
      f_X11_look_4 n (v2 / 21) (v3 + 1) u1))
def f_X11_look (a1 : Int32) (u : am_U) : Option (am_U) :=
  f_X11_look_4  20000 a1 0 u
set_option maxRecDepth 100000 in
set_option maxHeartbeats 4000000 in
theorem s_X11_look_4 {l : Launch} {g : am_G} {B : am_M} {pl : Nat} (hL : am_Lay B pl)     : ∀ (n : Nat) (v2 : Int32) (v3 : Int32) (u : am_U), am_E l g d_X11_look 4 [some (.ref (60)), none, some (.int (v2)), some (.int (v3))] [] (am_of B u) (am_r (am_bV B) (f_X11_look_4 n v2 v3 u)) := by
  intro n
  induction n with
  | zero => intro v2 v3 u; exact am_none
  | succ n ih =>
    intro v2 v3 u
    unfold f_X11_look_4
    refine e_iload_n dX11_look_4 rfl ?_
    refine e_aload_n dX11_look_5 rfl ?_
    refine q_getI dX11_look_6 lf_M_256 (by decide) (am_Lk hL rfl) ?_
    refine e_if2_ge dX11_look_9 (tgt := 33) (by decide) ?_ ?_
    · exact e_vret dX11_look_33 rfl rfl
    · refine e_aload_n dX11_look_12 rfl ?_
      refine q_getR (r := 81) dX11_look_13 lf_M_72 rfl (by decide) (am_Lk hL rfl) (am_Lr hL rfl) ?_
      refine e_iload_n dX11_look_16 rfl ?_
      refine e_iload_n dX11_look_17 rfl ?_
      refine e_bipush dX11_look_18 (v := 21) (by decide) ?_
      refine e_irem dX11_look_20 (by decide) ?_
      refine q_iastH dX11_look_21 (am_Ls hL rfl) (fun i2 => ?_)
      refine e_iload_n dX11_look_22 rfl ?_
      refine e_bipush dX11_look_23 (v := 21) (by decide) ?_
      refine e_idiv dX11_look_25 (by decide) ?_
      refine e_istore_n dX11_look_26 (by decide) (LS1 := [_, none, _, _]) rfl ?_
      refine e_iinc dX11_look_27 rfl (v := _ + 1) rfl (by decide) (LS1 := [_, none, _, _]) rfl ?_
      refine e_goto dX11_look_30 (tgt := 4) (by decide) ?_
      exact ih (v2 / 21) (v3 + 1) (am_w u 81 v3.toNatClampNeg (v2 - v2 / 21 * 21))

set_option maxRecDepth 100000 in
set_option maxHeartbeats 4000000 in
theorem s_X11_look {l : Launch} {g : am_G} {B : am_M} {pl : Nat} (hL : am_Lay B pl) (a1 : Int32)  (u : am_U) : am_E l g d_X11_look 0 (am_ent d_X11_look [.ref (60), .int (a1)]) [] (am_of B u) (am_r (am_bV B) (f_X11_look a1 u)) := by
  unfold f_X11_look
  show am_E l g d_X11_look 0 [some (.ref (60)), some (.int (a1)), none, none] [] (am_of B u) _
  refine e_iload_n dX11_look_0 rfl ?_
  refine e_istore_n dX11_look_1 (by decide) (LS1 := [_, _, _, none]) rfl ?_
  refine e_iconst dX11_look_2 (v := 0) (by decide) ?_
  refine e_istore_n dX11_look_3 (by decide) (LS1 := [_, _, _, _]) rfl ?_
  refine e_msk [true, false, true, true] (LS1 := [_, none, _, _]) rfl ?_
  refine s_X11_look_4 hL  _ _ _ _

def f_X11_meets (a1 : Int32) (u : am_U) : Option (Int32 × am_U) :=
  let u1 : am_U := am_w u 60 0 a1
  am_ck (am_ix a1 6) (
  let u3 : am_U := am_w u1 61 a1.toNatClampNeg ((u1 61 a1.toNatClampNeg) + 1)
  some (((-3) : Int32), u3))
set_option maxRecDepth 100000 in
set_option maxHeartbeats 4000000 in
theorem s_X11_meets {l : Launch} {g : am_G} {B : am_M} {pl : Nat} (hL : am_Lay B pl) (a1 : Int32)  (u : am_U) : am_E l g d_X11_meets 0 (am_ent d_X11_meets [.ref (60), .int (a1)]) [] (am_of B u) (am_r (am_bI B) (f_X11_meets a1 u)) := by
  unfold f_X11_meets
  show am_E l g d_X11_meets 0 [some (.ref (60)), some (.int (a1))] [] (am_of B u) _
  refine e_aload_n dX11_meets_0 rfl ?_
  refine e_iload_n dX11_meets_1 rfl ?_
  refine q_putI dX11_meets_2 lf_M_102 rfl (by decide) (am_Lk hL rfl) ?_
  refine e_aload_n dX11_meets_5 rfl ?_
  refine q_getR (r := 61) dX11_meets_6 lf_M_7 rfl (by decide) (am_Lk hL rfl) (am_Lr hL rfl) ?_
  refine e_iload_n dX11_meets_9 rfl ?_
  refine e_dup2 dX11_meets_10 rfl rfl ?_
  refine q_ialdH dX11_meets_11 (am_Ls hL rfl) (fun i2 => ?_)
  refine e_iconst dX11_meets_12 (v := 1) (by decide) ?_
  refine e_iadd dX11_meets_13 ?_
  refine q_iastC (jn := _) dX11_meets_14 (am_Ls hL rfl) i2 rfl ?_
  refine e_bipush dX11_meets_15 (v := ((-3) : Int32)) (by decide) ?_
  exact e_iret dX11_meets_17 rfl rfl

def f_X11_remembers_54 (v1 : Int32) (v2 : Int32) (k85 : am_U → Option (am_U)) : Nat → Int32 → am_U → Option (am_U)
  | 0, _, _ => none
  | n + 1, v3, u =>
    if 30 ≤ v3 then (
      k85 u)
    else (
      am_ck (am_ix v3 30) (
      am_ck (am_ix ((v2 * (u 60 26)) + v3) 1860) (
      let u2 : am_U := am_w u 76 ((v2 * (u 60 26)) + v3).toNatClampNeg (u 75 v3.toNatClampNeg)
      f_X11_remembers_54 v1 v2 k85 n (v3 + 1) u2)))
def f_X11_remembers_14 (v1 : Int32) (v2 : Int32) (k42 : am_U → Option (am_U)) : Nat → Int32 → am_U → Option (am_U)
  | 0, _, _ => none
  | n + 1, v3, u =>
    if (v2 * 59) ≤ v3 then (
      k42 u)
    else (
      am_ck (am_ix (v3 + v2) 1860) (
      am_ck (am_ix v3 1860) (
      let u9 : am_U := am_w u 76 v3.toNatClampNeg (u 76 (v3 + v2).toNatClampNeg)
      f_X11_remembers_14 v1 v2 k42 n (v3 + 1) u9)))
def f_X11_remembers (a1 : Int32) (u : am_U) : Option (am_U) :=
  if ¬ (u 60 26) = 60 then (
    f_X11_remembers_54 a1 31 (fun (c4u : am_U) =>
      am_ck (am_ix ((31 * (c4u 60 26)) + 30) 1860) (
      let u5 : am_U := am_w c4u 76 ((31 * (c4u 60 26)) + 30).toNatClampNeg a1
      let u7 : am_U := am_w u5 60 26 ((u5 60 26) + 1)
      some u7)) 20000 0 u)
  else (
    f_X11_remembers_14 a1 31 (fun (c11u : am_U) =>
      let u12 : am_U := am_w c11u 60 26 ((c11u 60 26) - 1)
      f_X11_remembers_54 a1 31 (fun (c13u : am_U) =>
        am_ck (am_ix ((31 * (c13u 60 26)) + 30) 1860) (
        let u14 : am_U := am_w c13u 76 ((31 * (c13u 60 26)) + 30).toNatClampNeg a1
        let u16 : am_U := am_w u14 60 26 ((u14 60 26) + 1)
        some u16)) 20000 0 u12) 20000 0 u)
set_option maxRecDepth 100000 in
set_option maxHeartbeats 4000000 in
theorem s_X11_remembers_54 {l : Launch} {g : am_G} {B : am_M} {pl : Nat} (hL : am_Lay B pl) (v1 : Int32) (v2 : Int32)  (k85 : am_U → Option (am_U)) (hk85 : ∀  (u : am_U), am_E l g d_X11_remembers 85 [some (.ref (60)), some (.int (v1)), some (.int (v2)), none] [] (am_of B u) (am_r (am_bV B) (k85 u))) : ∀ (n : Nat) (v3 : Int32) (u : am_U), am_E l g d_X11_remembers 54 [some (.ref (60)), some (.int (v1)), some (.int (v2)), some (.int (v3))] [] (am_of B u) (am_r (am_bV B) (f_X11_remembers_54 v1 v2 k85 n v3 u)) := by
  intro n
  induction n with
  | zero => intro v3 u; exact am_none
  | succ n ih =>
    intro v3 u
    unfold f_X11_remembers_54
    refine e_iload_n dX11_remembers_54 rfl ?_
    refine e_bipush dX11_remembers_55 (v := 30) (by decide) ?_
    refine e_if2_ge dX11_remembers_57 (tgt := 85) (by decide) ?_ ?_
    · refine e_msk [true, true, true, false] (LS1 := [_, _, _, none]) rfl ?_
      exact hk85 u
    · refine e_aload_n dX11_remembers_60 rfl ?_
      refine q_getR (r := 76) dX11_remembers_61 lf_M_56 rfl (by decide) (am_Lk hL rfl) (am_Lr hL rfl) ?_
      refine e_iload_n dX11_remembers_64 rfl ?_
      refine e_aload_n dX11_remembers_65 rfl ?_
      refine q_getI dX11_remembers_66 lf_M_187 (by decide) (am_Lk hL rfl) ?_
      refine e_imul dX11_remembers_69 ?_
      refine e_iload_n dX11_remembers_70 rfl ?_
      refine e_iadd dX11_remembers_71 ?_
      refine e_aload_n dX11_remembers_72 rfl ?_
      refine q_getR (r := 75) dX11_remembers_73 lf_M_53 rfl (by decide) (am_Lk hL rfl) (am_Lr hL rfl) ?_
      refine e_iload_n dX11_remembers_76 rfl ?_
      refine q_ialdH dX11_remembers_77 (am_Ls hL rfl) (fun i1 => ?_)
      refine q_iastH dX11_remembers_78 (am_Ls hL rfl) (fun i3 => ?_)
      refine e_iinc dX11_remembers_79 rfl (v := _ + 1) rfl (by decide) (LS1 := [_, _, _, _]) rfl ?_
      refine e_goto dX11_remembers_82 (tgt := 54) (by decide) ?_
      exact ih (v3 + 1) (am_w u 76 ((v2 * (u 60 26)) + v3).toNatClampNeg (u 75 v3.toNatClampNeg))

set_option maxRecDepth 100000 in
set_option maxHeartbeats 4000000 in
theorem s_X11_remembers_14 {l : Launch} {g : am_G} {B : am_M} {pl : Nat} (hL : am_Lay B pl) (v1 : Int32) (v2 : Int32)  (k42 : am_U → Option (am_U)) (hk42 : ∀  (u : am_U), am_E l g d_X11_remembers 42 [some (.ref (60)), some (.int (v1)), some (.int (v2)), none] [] (am_of B u) (am_r (am_bV B) (k42 u))) : ∀ (n : Nat) (v3 : Int32) (u : am_U), am_E l g d_X11_remembers 14 [some (.ref (60)), some (.int (v1)), some (.int (v2)), some (.int (v3))] [] (am_of B u) (am_r (am_bV B) (f_X11_remembers_14 v1 v2 k42 n v3 u)) := by
  intro n
  induction n with
  | zero => intro v3 u; exact am_none
  | succ n ih =>
    intro v3 u
    unfold f_X11_remembers_14
    refine e_iload_n dX11_remembers_14 rfl ?_
    refine e_iload_n dX11_remembers_15 rfl ?_
    refine e_bipush dX11_remembers_16 (v := 59) (by decide) ?_
    refine e_imul dX11_remembers_18 ?_
    refine e_if2_ge dX11_remembers_19 (tgt := 42) (by decide) ?_ ?_
    · refine e_msk [true, true, true, false] (LS1 := [_, _, _, none]) rfl ?_
      exact hk42 u
    · refine e_aload_n dX11_remembers_22 rfl ?_
      refine q_getR (r := 76) dX11_remembers_23 lf_M_56 rfl (by decide) (am_Lk hL rfl) (am_Lr hL rfl) ?_
      refine e_iload_n dX11_remembers_26 rfl ?_
      refine e_aload_n dX11_remembers_27 rfl ?_
      refine q_getR (r := 76) dX11_remembers_28 lf_M_56 rfl (by decide) (am_Lk hL rfl) (am_Lr hL rfl) ?_
      refine e_iload_n dX11_remembers_31 rfl ?_
      refine e_iload_n dX11_remembers_32 rfl ?_
      refine e_iadd dX11_remembers_33 ?_
      refine q_ialdH dX11_remembers_34 (am_Ls hL rfl) (fun i8 => ?_)
      refine q_iastH dX11_remembers_35 (am_Ls hL rfl) (fun i10 => ?_)
      refine e_iinc dX11_remembers_36 rfl (v := _ + 1) rfl (by decide) (LS1 := [_, _, _, _]) rfl ?_
      refine e_goto dX11_remembers_39 (tgt := 14) (by decide) ?_
      exact ih (v3 + 1) (am_w u 76 v3.toNatClampNeg (u 76 (v3 + v2).toNatClampNeg))

set_option maxRecDepth 100000 in
set_option maxHeartbeats 4000000 in
theorem s_X11_remembers {l : Launch} {g : am_G} {B : am_M} {pl : Nat} (hL : am_Lay B pl) (a1 : Int32)  (u : am_U) : am_E l g d_X11_remembers 0 (am_ent d_X11_remembers [.ref (60), .int (a1)]) [] (am_of B u) (am_r (am_bV B) (f_X11_remembers a1 u)) := by
  unfold f_X11_remembers
  show am_E l g d_X11_remembers 0 [some (.ref (60)), some (.int (a1)), none, none] [] (am_of B u) _
  refine e_bipush dX11_remembers_0 (v := 31) (by decide) ?_
  refine e_istore_n dX11_remembers_2 (by decide) (LS1 := [_, _, _, none]) rfl ?_
  refine e_aload_n dX11_remembers_3 rfl ?_
  refine q_getI dX11_remembers_4 lf_M_187 (by decide) (am_Lk hL rfl) ?_
  refine e_bipush dX11_remembers_7 (v := 60) (by decide) ?_
  refine e_if2_ne dX11_remembers_9 (tgt := 52) (by decide) ?_ ?_
  · refine e_iconst dX11_remembers_52 (v := 0) (by decide) ?_
    refine e_istore_n dX11_remembers_53 (by decide) (LS1 := [_, _, _, _]) rfl ?_
    refine s_X11_remembers_54 hL _ _ _ (fun c4u => ?_) _ _ _
    · refine e_aload_n dX11_remembers_85 rfl ?_
      refine q_getR (r := 76) dX11_remembers_86 lf_M_56 rfl (by decide) (am_Lk hL rfl) (am_Lr hL rfl) ?_
      refine e_iload_n dX11_remembers_89 rfl ?_
      refine e_aload_n dX11_remembers_90 rfl ?_
      refine q_getI dX11_remembers_91 lf_M_187 (by decide) (am_Lk hL rfl) ?_
      refine e_imul dX11_remembers_94 ?_
      refine e_bipush dX11_remembers_95 (v := 30) (by decide) ?_
      refine e_iadd dX11_remembers_97 ?_
      refine e_iload_n dX11_remembers_98 rfl ?_
      refine q_iastH dX11_remembers_99 (am_Ls hL rfl) (fun i6 => ?_)
      refine e_aload_n dX11_remembers_100 rfl ?_
      refine e_dup dX11_remembers_101 rfl ?_
      refine q_getI dX11_remembers_102 lf_M_187 (by decide) (am_Lk hL rfl) ?_
      refine e_iconst dX11_remembers_105 (v := 1) (by decide) ?_
      refine e_iadd dX11_remembers_106 ?_
      refine q_putI dX11_remembers_107 lf_M_187 rfl (by decide) (am_Lk hL rfl) ?_
      exact e_vret dX11_remembers_110 rfl rfl
  · refine e_iconst dX11_remembers_12 (v := 0) (by decide) ?_
    refine e_istore_n dX11_remembers_13 (by decide) (LS1 := [_, _, _, _]) rfl ?_
    refine s_X11_remembers_14 hL _ _ _ (fun c11u => ?_) _ _ _
    · refine e_aload_n dX11_remembers_42 rfl ?_
      refine e_dup dX11_remembers_43 rfl ?_
      refine q_getI dX11_remembers_44 lf_M_187 (by decide) (am_Lk hL rfl) ?_
      refine e_iconst dX11_remembers_47 (v := 1) (by decide) ?_
      refine e_isub dX11_remembers_48 ?_
      refine q_putI dX11_remembers_49 lf_M_187 rfl (by decide) (am_Lk hL rfl) ?_
      refine e_iconst dX11_remembers_52 (v := 0) (by decide) ?_
      refine e_istore_n dX11_remembers_53 (by decide) (LS1 := [_, _, _, _]) rfl ?_
      refine s_X11_remembers_54 hL _ _ _ (fun c13u => ?_) _ _ _
      · refine e_aload_n dX11_remembers_85 rfl ?_
        refine q_getR (r := 76) dX11_remembers_86 lf_M_56 rfl (by decide) (am_Lk hL rfl) (am_Lr hL rfl) ?_
        refine e_iload_n dX11_remembers_89 rfl ?_
        refine e_aload_n dX11_remembers_90 rfl ?_
        refine q_getI dX11_remembers_91 lf_M_187 (by decide) (am_Lk hL rfl) ?_
        refine e_imul dX11_remembers_94 ?_
        refine e_bipush dX11_remembers_95 (v := 30) (by decide) ?_
        refine e_iadd dX11_remembers_97 ?_
        refine e_iload_n dX11_remembers_98 rfl ?_
        refine q_iastH dX11_remembers_99 (am_Ls hL rfl) (fun i15 => ?_)
        refine e_aload_n dX11_remembers_100 rfl ?_
        refine e_dup dX11_remembers_101 rfl ?_
        refine q_getI dX11_remembers_102 lf_M_187 (by decide) (am_Lk hL rfl) ?_
        refine e_iconst dX11_remembers_105 (v := 1) (by decide) ?_
        refine e_iadd dX11_remembers_106 ?_
        refine q_putI dX11_remembers_107 lf_M_187 rfl (by decide) (am_Lk hL rfl) ?_
        exact e_vret dX11_remembers_110 rfl rfl

def f_X11_rowAt (a1 : Int32) (a2 : Int32) (u : am_U) : Option (Int32) :=
  am_ck (am_ix ((60 * a1) + a2) 360) (
  some (u 63 ((60 * a1) + a2).toNatClampNeg))
set_option maxRecDepth 100000 in
set_option maxHeartbeats 4000000 in
theorem s_X11_rowAt {l : Launch} {g : am_G} {B : am_M} {pl : Nat} (hL : am_Lay B pl) (a1 : Int32) (a2 : Int32)  (u : am_U) : am_E l g d_X11_rowAt 0 (am_ent d_X11_rowAt [.ref (60), .int (a1), .int (a2)]) [] (am_of B u) (am_r (am_bP B u) (f_X11_rowAt a1 a2 u)) := by
  unfold f_X11_rowAt
  show am_E l g d_X11_rowAt 0 [some (.ref (60)), some (.int (a1)), some (.int (a2))] [] (am_of B u) _
  refine e_aload_n dX11_rowAt_0 rfl ?_
  refine q_getR (r := 63) dX11_rowAt_1 lf_M_16 rfl (by decide) (am_Lk hL rfl) (am_Lr hL rfl) ?_
  refine e_bipush dX11_rowAt_4 (v := 60) (by decide) ?_
  refine e_iload_n dX11_rowAt_6 rfl ?_
  refine e_imul dX11_rowAt_7 ?_
  refine e_iload_n dX11_rowAt_8 rfl ?_
  refine e_iadd dX11_rowAt_9 ?_
  refine q_ialdH dX11_rowAt_10 (am_Ls hL rfl) (fun i1 => ?_)
  exact e_iret dX11_rowAt_11 rfl rfl

def f_X11_shines (a1 : Int32) (u : am_U) : Option (Int32) :=
  if (u 60 9) ≤ 0 then (
    some 0)
  else (
    am_ck (!(u 60 9 == 0)) (
    am_ck (am_ix (a1 - a1 / (u 60 9) * (u 60 9)) 8) (
    if ¬ (u 67 (a1 - a1 / (u 60 9) * (u 60 9)).toNatClampNeg) = 1 then (
      some 0)
    else (
      some 1))))
set_option maxRecDepth 100000 in
set_option maxHeartbeats 4000000 in
theorem s_X11_shines {l : Launch} {g : am_G} {B : am_M} {pl : Nat} (hL : am_Lay B pl) (a1 : Int32)  (u : am_U) : am_E l g d_X11_shines 0 (am_ent d_X11_shines [.ref (60), .int (a1)]) [] (am_of B u) (am_r (am_bP B u) (f_X11_shines a1 u)) := by
  unfold f_X11_shines
  show am_E l g d_X11_shines 0 [some (.ref (60)), some (.int (a1))] [] (am_of B u) _
  refine e_aload_n dX11_shines_0 rfl ?_
  refine q_getI dX11_shines_1 lf_M_181 (by decide) (am_Lk hL rfl) ?_
  refine e_if_le dX11_shines_4 (tgt := 26) (by decide) ?_ ?_
  · refine e_iconst dX11_shines_26 (v := 0) (by decide) ?_
    exact e_zret dX11_shines_27 rfl rfl (Or.inl rfl)
  · refine e_aload_n dX11_shines_7 rfl ?_
    refine q_getR (r := 67) dX11_shines_8 lf_M_29 rfl (by decide) (am_Lk hL rfl) (am_Lr hL rfl) ?_
    refine e_iload_n dX11_shines_11 rfl ?_
    refine e_aload_n dX11_shines_12 rfl ?_
    refine q_getI dX11_shines_13 lf_M_181 (by decide) (am_Lk hL rfl) ?_
    refine e_remq dX11_shines_16 ?_
    refine q_ialdH dX11_shines_17 (am_Ls hL rfl) (fun i1 => ?_)
    refine e_iconst dX11_shines_18 (v := 1) (by decide) ?_
    refine e_if2_ne dX11_shines_19 (tgt := 26) (by decide) ?_ ?_
    · refine e_iconst dX11_shines_26 (v := 0) (by decide) ?_
      exact e_zret dX11_shines_27 rfl rfl (Or.inl rfl)
    · refine e_iconst dX11_shines_22 (v := 1) (by decide) ?_
      refine e_goto dX11_shines_23 (tgt := 27) (by decide) ?_
      exact e_zret dX11_shines_27 rfl rfl (Or.inr rfl)

def f_X11_sizeAll_4 (u : am_U) : Nat → Int32 → Int32 → Option (Int32)
  | 0, _, _ => none
  | n + 1, v1, v2 =>
    if (u 60 12) ≤ v2 then (
      some v1)
    else (
      am_ck (am_ix v2 6) (
      let x2 : Int32 := v1 + (u 70 v2.toNatClampNeg)
      f_X11_sizeAll_4 u n x2 (v2 + 1)))
def f_X11_sizeAll (u : am_U) : Option (Int32) :=
  f_X11_sizeAll_4 u 20000 0 0
set_option maxRecDepth 100000 in
set_option maxHeartbeats 4000000 in
theorem s_X11_sizeAll_4 {l : Launch} {g : am_G} {B : am_M} {pl : Nat} (hL : am_Lay B pl) (u : am_U)     : ∀ (n : Nat) (v1 : Int32) (v2 : Int32), am_E l g d_X11_sizeAll 4 [some (.ref (60)), some (.int (v1)), some (.int (v2))] [] (am_of B u) (am_r (am_bP B u) (f_X11_sizeAll_4 u n v1 v2)) := by
  intro n
  induction n with
  | zero => intro v1 v2; exact am_none
  | succ n ih =>
    intro v1 v2
    unfold f_X11_sizeAll_4
    refine e_iload_n dX11_sizeAll_4 rfl ?_
    refine e_aload_n dX11_sizeAll_5 rfl ?_
    refine q_getI dX11_sizeAll_6 lf_M_184 (by decide) (am_Lk hL rfl) ?_
    refine e_if2_ge dX11_sizeAll_9 (tgt := 27) (by decide) ?_ ?_
    · refine e_iload_n dX11_sizeAll_27 rfl ?_
      exact e_iret dX11_sizeAll_28 rfl rfl
    · refine e_iload_n dX11_sizeAll_12 rfl ?_
      refine e_aload_n dX11_sizeAll_13 rfl ?_
      refine q_getR (r := 70) dX11_sizeAll_14 lf_M_38 rfl (by decide) (am_Lk hL rfl) (am_Lr hL rfl) ?_
      refine e_iload_n dX11_sizeAll_17 rfl ?_
      refine q_ialdH dX11_sizeAll_18 (am_Ls hL rfl) (fun i1 => ?_)
      refine e_iadd dX11_sizeAll_19 ?_
      refine e_istore_n dX11_sizeAll_20 (by decide) (LS1 := [_, _, _]) rfl ?_
      refine e_iinc dX11_sizeAll_21 rfl (v := _ + 1) rfl (by decide) (LS1 := [_, _, _]) rfl ?_
      refine e_goto dX11_sizeAll_24 (tgt := 4) (by decide) ?_
      exact ih (v1 + (u 70 v2.toNatClampNeg)) (v2 + 1)

set_option maxRecDepth 100000 in
set_option maxHeartbeats 4000000 in
theorem s_X11_sizeAll {l : Launch} {g : am_G} {B : am_M} {pl : Nat} (hL : am_Lay B pl)   (u : am_U) : am_E l g d_X11_sizeAll 0 (am_ent d_X11_sizeAll [.ref (60)]) [] (am_of B u) (am_r (am_bP B u) (f_X11_sizeAll u)) := by
  unfold f_X11_sizeAll
  show am_E l g d_X11_sizeAll 0 [some (.ref (60)), none, none] [] (am_of B u) _
  refine e_iconst dX11_sizeAll_0 (v := 0) (by decide) ?_
  refine e_istore_n dX11_sizeAll_1 (by decide) (LS1 := [_, _, none]) rfl ?_
  refine e_iconst dX11_sizeAll_2 (v := 0) (by decide) ?_
  refine e_istore_n dX11_sizeAll_3 (by decide) (LS1 := [_, _, _]) rfl ?_
  refine s_X11_sizeAll_4 hL _  _ _ _

def f_X11_tells (a1 : Int32) (a2 : Int32) (u : am_U) : Option (Int32 × am_U) :=
  let u1 : am_U := am_w u 60 2 a1
  some (a2, u1)
set_option maxRecDepth 100000 in
set_option maxHeartbeats 4000000 in
theorem s_X11_tells {l : Launch} {g : am_G} {B : am_M} {pl : Nat} (hL : am_Lay B pl) (a1 : Int32) (a2 : Int32)  (u : am_U) : am_E l g d_X11_tells 0 (am_ent d_X11_tells [.ref (60), .int (a1), .int (a2)]) [] (am_of B u) (am_r (am_bI B) (f_X11_tells a1 a2 u)) := by
  unfold f_X11_tells
  show am_E l g d_X11_tells 0 [some (.ref (60)), some (.int (a1)), some (.int (a2))] [] (am_of B u) _
  refine e_aload_n dX11_tells_0 rfl ?_
  refine e_iload_n dX11_tells_1 rfl ?_
  refine q_putI dX11_tells_2 lf_M_110 rfl (by decide) (am_Lk hL rfl) ?_
  refine e_iload_n dX11_tells_5 rfl ?_
  exact e_iret dX11_tells_6 rfl rfl

def f_X11_tenth (a0 : Int32) : Option (Int32) :=
  some ((a0 + 9) / 10)
set_option maxRecDepth 100000 in
set_option maxHeartbeats 4000000 in
theorem s_X11_tenth {l : Launch} {g : am_G} {B : am_M} {pl : Nat} (hL : am_Lay B pl) (a0 : Int32)  (u : am_U) : am_E l g d_X11_tenth 0 (am_ent d_X11_tenth [.int (a0)]) [] (am_of B u) (am_r (am_bP B u) (f_X11_tenth a0)) := by
  unfold f_X11_tenth
  show am_E l g d_X11_tenth 0 [some (.int (a0))] [] (am_of B u) _
  refine e_iload_n dX11_tenth_0 rfl ?_
  refine e_bipush dX11_tenth_1 (v := 9) (by decide) ?_
  refine e_iadd dX11_tenth_3 ?_
  refine e_bipush dX11_tenth_4 (v := 10) (by decide) ?_
  refine e_idiv dX11_tenth_6 (by decide) ?_
  exact e_iret dX11_tenth_7 rfl rfl

def f_X11_undo_30 (v1 : Int32) (k56 : am_U → Option (Int32 × am_U)) : Nat → Int32 → am_U → Option (Int32 × am_U)
  | 0, _, _ => none
  | n + 1, v2, u =>
    if 30 ≤ v2 then (
      k56 u)
    else (
      am_ck (am_ix (v1 + v2) 1860) (
      am_ck (am_ix v2 30) (
      let u3 : am_U := am_w u 75 v2.toNatClampNeg (u 76 (v1 + v2).toNatClampNeg)
      f_X11_undo_30 v1 k56 n (v2 + 1) u3)))
def f_X11_undo (u : am_U) : Option (Int32 × am_U) :=
  if ¬ (u 60 26) = 0 then (
    let u1 : am_U := am_w u 60 26 ((u 60 26) - 1)
    f_X11_undo_30 (31 * (u1 60 26)) (fun (c5u : am_U) =>
      am_ck (am_ix ((31 * (u1 60 26)) + 30) 1860) (
      some (c5u 76 ((31 * (u1 60 26)) + 30).toNatClampNeg, c5u))) 20000 0 u1)
  else (
    some (((-4) : Int32), u))
set_option maxRecDepth 100000 in
set_option maxHeartbeats 4000000 in
theorem s_X11_undo_30 {l : Launch} {g : am_G} {B : am_M} {pl : Nat} (hL : am_Lay B pl) (v1 : Int32)  (k56 : am_U → Option (Int32 × am_U)) (hk56 : ∀  (u : am_U), am_E l g d_X11_undo 56 [some (.ref (60)), some (.int (v1)), none] [] (am_of B u) (am_r (am_bI B) (k56 u))) : ∀ (n : Nat) (v2 : Int32) (u : am_U), am_E l g d_X11_undo 30 [some (.ref (60)), some (.int (v1)), some (.int (v2))] [] (am_of B u) (am_r (am_bI B) (f_X11_undo_30 v1 k56 n v2 u)) := by
  intro n
  induction n with
  | zero => intro v2 u; exact am_none
  | succ n ih =>
    intro v2 u
    unfold f_X11_undo_30
    refine e_iload_n dX11_undo_30 rfl ?_
    refine e_bipush dX11_undo_31 (v := 30) (by decide) ?_
    refine e_if2_ge dX11_undo_33 (tgt := 56) (by decide) ?_ ?_
    · refine e_msk [true, true, false] (LS1 := [_, _, none]) rfl ?_
      exact hk56 u
    · refine e_aload_n dX11_undo_36 rfl ?_
      refine q_getR (r := 75) dX11_undo_37 lf_M_53 rfl (by decide) (am_Lk hL rfl) (am_Lr hL rfl) ?_
      refine e_iload_n dX11_undo_40 rfl ?_
      refine e_aload_n dX11_undo_41 rfl ?_
      refine q_getR (r := 76) dX11_undo_42 lf_M_56 rfl (by decide) (am_Lk hL rfl) (am_Lr hL rfl) ?_
      refine e_iload_n dX11_undo_45 rfl ?_
      refine e_iload_n dX11_undo_46 rfl ?_
      refine e_iadd dX11_undo_47 ?_
      refine q_ialdH dX11_undo_48 (am_Ls hL rfl) (fun i2 => ?_)
      refine q_iastH dX11_undo_49 (am_Ls hL rfl) (fun i4 => ?_)
      refine e_iinc dX11_undo_50 rfl (v := _ + 1) rfl (by decide) (LS1 := [_, _, _]) rfl ?_
      refine e_goto dX11_undo_53 (tgt := 30) (by decide) ?_
      exact ih (v2 + 1) (am_w u 75 v2.toNatClampNeg (u 76 (v1 + v2).toNatClampNeg))

set_option maxRecDepth 100000 in
set_option maxHeartbeats 4000000 in
theorem s_X11_undo {l : Launch} {g : am_G} {B : am_M} {pl : Nat} (hL : am_Lay B pl)   (u : am_U) : am_E l g d_X11_undo 0 (am_ent d_X11_undo [.ref (60)]) [] (am_of B u) (am_r (am_bI B) (f_X11_undo u)) := by
  unfold f_X11_undo
  show am_E l g d_X11_undo 0 [some (.ref (60)), none, none] [] (am_of B u) _
  refine e_aload_n dX11_undo_0 rfl ?_
  refine q_getI dX11_undo_1 lf_M_187 (by decide) (am_Lk hL rfl) ?_
  refine e_if_ne dX11_undo_4 (tgt := 10) (by decide) ?_ ?_
  · refine e_aload_n dX11_undo_10 rfl ?_
    refine e_dup dX11_undo_11 rfl ?_
    refine q_getI dX11_undo_12 lf_M_187 (by decide) (am_Lk hL rfl) ?_
    refine e_iconst dX11_undo_15 (v := 1) (by decide) ?_
    refine e_isub dX11_undo_16 ?_
    refine q_putI dX11_undo_17 lf_M_187 rfl (by decide) (am_Lk hL rfl) ?_
    refine e_bipush dX11_undo_20 (v := 31) (by decide) ?_
    refine e_aload_n dX11_undo_22 rfl ?_
    refine q_getI dX11_undo_23 lf_M_187 (by decide) (am_Lk hL rfl) ?_
    refine e_imul dX11_undo_26 ?_
    refine e_istore_n dX11_undo_27 (by decide) (LS1 := [_, _, none]) rfl ?_
    refine e_iconst dX11_undo_28 (v := 0) (by decide) ?_
    refine e_istore_n dX11_undo_29 (by decide) (LS1 := [_, _, _]) rfl ?_
    refine s_X11_undo_30 hL _ _ (fun c5u => ?_) _ _ _
    · refine e_aload_n dX11_undo_56 rfl ?_
      refine q_getR (r := 76) dX11_undo_57 lf_M_56 rfl (by decide) (am_Lk hL rfl) (am_Lr hL rfl) ?_
      refine e_iload_n dX11_undo_60 rfl ?_
      refine e_bipush dX11_undo_61 (v := 30) (by decide) ?_
      refine e_iadd dX11_undo_63 ?_
      refine q_ialdH dX11_undo_64 (am_Ls hL rfl) (fun i6 => ?_)
      exact e_iret dX11_undo_65 rfl rfl
  · refine e_bipush dX11_undo_7 (v := ((-4) : Int32)) (by decide) ?_
    exact e_iret dX11_undo_9 rfl rfl

def f_X1_clear (u : am_U) : Option (am_U) :=
  let u1 : am_U := am_w u 14 3 0
  some u1
set_option maxRecDepth 100000 in
set_option maxHeartbeats 4000000 in
theorem s_X1_clear {l : Launch} {g : am_G} {B : am_M} {pl : Nat} (hL : am_Lay B pl)   (u : am_U) : am_E l g d_X1_clear 0 (am_ent d_X1_clear [.ref (14)]) [] (am_of B u) (am_r (am_bV B) (f_X1_clear u)) := by
  unfold f_X1_clear
  show am_E l g d_X1_clear 0 [some (.ref (14))] [] (am_of B u) _
  refine e_aload_n dX1_clear_0 rfl ?_
  refine e_iconst dX1_clear_1 (v := 0) (by decide) ?_
  refine q_putI dX1_clear_2 lf_Deeds_24 rfl (by decide) (am_Lk hL rfl) ?_
  exact e_vret dX1_clear_5 rfl rfl

def f_X2_anHour (a0 : Int32) : Option (Int32) :=
  if ¬ a0 = 5 then (
    if ¬ a0 = 3 then (
      some 1)
    else (
      some 2))
  else (
    some 3)
set_option maxRecDepth 100000 in
set_option maxHeartbeats 4000000 in
theorem s_X2_anHour {l : Launch} {g : am_G} {B : am_M} {pl : Nat} (hL : am_Lay B pl) (a0 : Int32)  (u : am_U) : am_E l g d_X2_anHour 0 (am_ent d_X2_anHour [.int (a0)]) [] (am_of B u) (am_r (am_bP B u) (f_X2_anHour a0)) := by
  unfold f_X2_anHour
  show am_E l g d_X2_anHour 0 [some (.int (a0))] [] (am_of B u) _
  refine e_iload_n dX2_anHour_0 rfl ?_
  refine e_iconst dX2_anHour_1 (v := 5) (by decide) ?_
  refine e_if2_ne dX2_anHour_2 (tgt := 7) (by decide) ?_ ?_
  · refine e_iload_n dX2_anHour_7 rfl ?_
    refine e_iconst dX2_anHour_8 (v := 3) (by decide) ?_
    refine e_if2_ne dX2_anHour_9 (tgt := 16) (by decide) ?_ ?_
    · refine e_iconst dX2_anHour_16 (v := 1) (by decide) ?_
      exact e_iret dX2_anHour_17 rfl rfl
    · refine e_iconst dX2_anHour_12 (v := 2) (by decide) ?_
      refine e_goto dX2_anHour_13 (tgt := 17) (by decide) ?_
      exact e_iret dX2_anHour_17 rfl rfl
  · refine e_iconst dX2_anHour_5 (v := 3) (by decide) ?_
    exact e_iret dX2_anHour_6 rfl rfl

def f_X2_byLetter_2 (v0 : Int32) : Nat → Int32 → Option (Int32)
  | 0, _ => none
  | n + 1, v1 =>
    if (nI 6) ≤ v1 then (
      some ((-9) : Int32))
    else (
      am_ck (am_ix v1 6) (
      if ¬ (am_let v1.toNatClampNeg) = v0 then (
        f_X2_byLetter_2 v0 n (v1 + 1))
      else (
        some v1)))
def f_X2_byLetter (a0 : Int32) : Option (Int32) :=
  f_X2_byLetter_2 a0 20000 0
set_option maxRecDepth 100000 in
set_option maxHeartbeats 4000000 in
theorem s_X2_byLetter_2 {l : Launch} {g : am_G} {B : am_M} {pl : Nat} (hL : am_Lay B pl) (u : am_U) (v0 : Int32)    : ∀ (n : Nat) (v1 : Int32), am_E l g d_X2_byLetter 2 [some (.int (v0)), some (.int (v1))] [] (am_of B u) (am_r (am_bP B u) (f_X2_byLetter_2 v0 n v1)) := by
  intro n
  induction n with
  | zero => intro v1; exact am_none
  | succ n ih =>
    intro v1
    unfold f_X2_byLetter_2
    refine e_iload_n dX2_byLetter_2 rfl ?_
    refine e_gets (k := 2) dX2_byLetter_3 (Or.inl ⟨rfl, lf_Kinds_9⟩) ?_
    refine q_alenL (v := nI 6) dX2_byLetter_6 rfl ?_
    refine e_if2_ge dX2_byLetter_7 (tgt := 27) (by decide) ?_ ?_
    · refine e_bipush dX2_byLetter_27 (v := ((-9) : Int32)) (by decide) ?_
      exact e_iret dX2_byLetter_29 rfl rfl
    · refine e_gets (k := 2) dX2_byLetter_10 (Or.inl ⟨rfl, lf_Kinds_9⟩) ?_
      refine e_iload_n dX2_byLetter_13 rfl ?_
      refine q_cald dX2_byLetter_14 ?_
      refine e_iload_n dX2_byLetter_15 rfl ?_
      refine e_if2_ne dX2_byLetter_16 (tgt := 21) (by decide) ?_ ?_
      · refine e_iinc dX2_byLetter_21 rfl (v := _ + 1) rfl (by decide) (LS1 := [_, _]) rfl ?_
        refine e_goto dX2_byLetter_24 (tgt := 2) (by decide) ?_
        exact ih (v1 + 1)
      · refine e_iload_n dX2_byLetter_19 rfl ?_
        exact e_iret dX2_byLetter_20 rfl rfl

set_option maxRecDepth 100000 in
set_option maxHeartbeats 4000000 in
theorem s_X2_byLetter {l : Launch} {g : am_G} {B : am_M} {pl : Nat} (hL : am_Lay B pl) (a0 : Int32)  (u : am_U) : am_E l g d_X2_byLetter 0 (am_ent d_X2_byLetter [.int (a0)]) [] (am_of B u) (am_r (am_bP B u) (f_X2_byLetter a0)) := by
  unfold f_X2_byLetter
  show am_E l g d_X2_byLetter 0 [some (.int (a0)), none] [] (am_of B u) _
  refine e_iconst dX2_byLetter_0 (v := 0) (by decide) ?_
  refine e_istore_n dX2_byLetter_1 (by decide) (LS1 := [_, _]) rfl ?_
  refine s_X2_byLetter_2 hL _ _ _ _

def f_X2_is (a0 : Int32) (a1 : Int32) : Option (Int32) :=
  if a0 = a1 then (
    some 1)
  else (
    if a1 = 0 then (
      some 1)
    else (
      am_jn (fun (j1z : Unit) =>
        if ¬ a0 = 5 then (
          some 0)
        else (
          if ¬ a1 = 3 then (
            some 0)
          else (
            some 1))) (fun j1 =>
      if ¬ a0 = 4 then (
        j1 () )
      else (
        if a1 = 2 then (
          some 1)
        else (
          j1 () )))))
set_option maxRecDepth 100000 in
set_option maxHeartbeats 4000000 in
theorem s_X2_is {l : Launch} {g : am_G} {B : am_M} {pl : Nat} (hL : am_Lay B pl) (a0 : Int32) (a1 : Int32)  (u : am_U) : am_E l g d_X2_is 0 (am_ent d_X2_is [.int (a0), .int (a1)]) [] (am_of B u) (am_r (am_bP B u) (f_X2_is a0 a1)) := by
  unfold f_X2_is
  show am_E l g d_X2_is 0 [some (.int (a0)), some (.int (a1))] [] (am_of B u) _
  refine e_iload_n dX2_is_0 rfl ?_
  refine e_iload_n dX2_is_1 rfl ?_
  refine e_if2_eq dX2_is_2 (tgt := 29) (by decide) ?_ ?_
  · refine e_iconst dX2_is_29 (v := 1) (by decide) ?_
    refine e_goto dX2_is_30 (tgt := 34) (by decide) ?_
    exact e_zret dX2_is_34 rfl rfl (Or.inr rfl)
  · refine e_iload_n dX2_is_5 rfl ?_
    refine e_if_eq dX2_is_6 (tgt := 29) (by decide) ?_ ?_
    · refine e_iconst dX2_is_29 (v := 1) (by decide) ?_
      refine e_goto dX2_is_30 (tgt := 34) (by decide) ?_
      exact e_zret dX2_is_34 rfl rfl (Or.inr rfl)
    · refine e_iload_n dX2_is_9 rfl ?_
      refine e_iconst dX2_is_10 (v := 4) (by decide) ?_
      refine e_jn (P := fun t : Unit → Option (Int32) => ∀ (j1z : Unit), am_E l g d_X2_is 19 [some (.int (a0)), some (.int (a1))] [] (am_of B u) (am_r (am_bP B u) (t j1z))) ?_ (fun j1 hj1 => ?_)
      · intro j1z
        refine e_iload_n dX2_is_19 rfl ?_
        refine e_iconst dX2_is_20 (v := 5) (by decide) ?_
        refine e_if2_ne dX2_is_21 (tgt := 33) (by decide) ?_ ?_
        · refine e_iconst dX2_is_33 (v := 0) (by decide) ?_
          exact e_zret dX2_is_34 rfl rfl (Or.inl rfl)
        · refine e_iload_n dX2_is_24 rfl ?_
          refine e_iconst dX2_is_25 (v := 3) (by decide) ?_
          refine e_if2_ne dX2_is_26 (tgt := 33) (by decide) ?_ ?_
          · refine e_iconst dX2_is_33 (v := 0) (by decide) ?_
            exact e_zret dX2_is_34 rfl rfl (Or.inl rfl)
          · refine e_iconst dX2_is_29 (v := 1) (by decide) ?_
            refine e_goto dX2_is_30 (tgt := 34) (by decide) ?_
            exact e_zret dX2_is_34 rfl rfl (Or.inr rfl)
      · refine e_if2_ne dX2_is_11 (tgt := 19) (by decide) ?_ ?_
        · refine e_msk [true, true] (LS1 := [_, _]) rfl ?_
          exact hj1 () 
        · refine e_iload_n dX2_is_14 rfl ?_
          refine e_iconst dX2_is_15 (v := 2) (by decide) ?_
          refine e_if2_eq dX2_is_16 (tgt := 29) (by decide) ?_ ?_
          · refine e_iconst dX2_is_29 (v := 1) (by decide) ?_
            refine e_goto dX2_is_30 (tgt := 34) (by decide) ?_
            exact e_zret dX2_is_34 rfl rfl (Or.inr rfl)
          · refine e_msk [true, true] (LS1 := [_, _]) rfl ?_
            exact hj1 () 

