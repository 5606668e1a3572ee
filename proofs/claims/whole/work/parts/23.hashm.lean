def f_X11_mix (a1 : Int64) (u : am_U) (h : Int64) : Option (Int64) :=
  some (((31 : Int64) * h) + a1)
set_option maxRecDepth 100000 in
set_option maxHeartbeats 4000000 in
theorem s_X11_mix {l : Launch} {g : am_G} {B : am_M} {pl : Nat} (hL : am_Lay B pl) (a1 : Int64)  (u : am_U) (h : Int64) : am_E l g d_X11_mix 0 (am_ent d_X11_mix [.ref (60), .long (a1)]) [] (am_of (am_hs B h) u) (am_r (am_bH B u) (f_X11_mix a1 u h)) := by
  unfold f_X11_mix
  show am_E l g d_X11_mix 0 [some (.ref (60)), some (.long (a1)), none] [] (am_of (am_hs B h) u) _
  refine e_aload_n dX11_mix_0 rfl ?_
  refine e_ldc2 dX11_mix_1 ll_M_340 ?_
  refine e_aload_n dX11_mix_4 rfl ?_
  refine q_getH dX11_mix_5 lf_M_342 (by decide) (am_Lk hL rfl) ?_
  refine e_lmul dX11_mix_8 ?_
  refine e_lload_n dX11_mix_9 rfl ?_
  refine e_ladd dX11_mix_10 ?_
  refine q_putH dX11_mix_11 lf_M_342 rfl (by decide) (am_Lk hL rfl) ?_
  exact e_vret dX11_mix_14 rfl rfl

def f_X11_mixLand_12 (u : am_U) (v1 : Int32) (k34 : Int64 → Option (Int64)) : Nat → Int32 → Int64 → Option (Int64)
  | 0, _, _ => none
  | n + 1, v2, h =>
    if 5 ≤ v2 then (
      k34 h)
    else (
      (f_X11_jarTells v1 v2 u).bind (fun q1 =>
      (f_X11_mix q1.toInt64 u h).bind (fun q2 =>
      f_X11_mixLand_12 u v1 k34 n (v2 + 1) q2)))
def f_X11_mixLand_2 (u : am_U) (k40 : Int64 → Option (Int64)) : Nat → Int32 → Int64 → Option (Int64)
  | 0, _, _ => none
  | n + 1, v1, h =>
    if (u 60 12) ≤ v1 then (
      k40 h)
    else (
      f_X11_mixLand_12 u v1 (fun (c3u : Int64) =>
        f_X11_mixLand_2 u k40 n (v1 + 1) c3u) 20000 0 h)
def f_X11_mixLand_49 (u : am_U) (v1 : Int32) (k71 : Int64 → Option (Int64)) : Nat → Int32 → Int64 → Option (Int64)
  | 0, _, _ => none
  | n + 1, v2, h =>
    if 4 ≤ v2 then (
      k71 h)
    else (
      (f_X11_placeTells v1 v2 u).bind (fun q5 =>
      (f_X11_mix q5.toInt64 u h).bind (fun q6 =>
      f_X11_mixLand_49 u v1 k71 n (v2 + 1) q6)))
def f_X11_mixLand_42 (u : am_U) (k77 : Int64 → Option (Int64)) : Nat → Int32 → Int64 → Option (Int64)
  | 0, _, _ => none
  | n + 1, v1, h =>
    if 5 ≤ v1 then (
      k77 h)
    else (
      f_X11_mixLand_49 u v1 (fun (c7u : Int64) =>
        f_X11_mixLand_42 u k77 n (v1 + 1) c7u) 20000 0 h)
def f_X11_mixLand_79 (u : am_U) (k115 : Int64 → Option (Int64)) : Nat → Int32 → Int64 → Option (Int64)
  | 0, _, _ => none
  | n + 1, v1, h =>
    if (u 60 40) ≤ v1 then (
      k115 h)
    else (
      am_ck (am_ix v1 8) (
      (f_X11_mix ((u 86 v1.toNatClampNeg).toInt64) u h).bind (fun q10 =>
      (f_X11_mix ((u 87 v1.toNatClampNeg).toInt64) u q10).bind (fun q11 =>
      f_X11_mixLand_79 u k115 n (v1 + 1) q11))))
def f_X11_mixLand_117 (u : am_U) : Nat → Int32 → Int64 → Option (Int64)
  | 0, _, _ => none
  | n + 1, v1, h =>
    if 3 ≤ v1 then (
      some h)
    else (
      am_ck (am_ix v1 3) (
      am_jn (fun (j14s0 : Int64) =>
        (f_X11_mix j14s0 u h).bind (fun q15 =>
        f_X11_mixLand_117 u n (v1 + 1) q15)) (fun j14 =>
      if (u 77 v1.toNatClampNeg) = 0 then (
        j14 (-1 : Int64))
      else (
        am_ck (am_ix ((30 * v1) + 28) 90) (
        j14 ((u 78 ((30 * v1) + 28).toNatClampNeg).toInt64))))))
def f_X11_mixLand (u : am_U) (h : Int64) : Option (Int64) :=
  f_X11_mixLand_2 u (fun (c4u : Int64) =>
    f_X11_mixLand_42 u (fun (c8u : Int64) =>
      f_X11_mixLand_79 u (fun (c12u : Int64) =>
        f_X11_mixLand_117 u 20000 0 c12u) 20000 0 c8u) 20000 0 c4u) 20000 0 h
set_option maxRecDepth 100000 in
set_option maxHeartbeats 4000000 in
theorem s_X11_mixLand_12 {l : Launch} {g : am_G} {B : am_M} {pl : Nat} (hL : am_Lay B pl) (u : am_U) (v1 : Int32)  (k34 : Int64 → Option (Int64)) (hk34 : ∀  (h : Int64), am_E l g d_X11_mixLand 34 [some (.ref (60)), some (.int (v1)), none] [] (am_of (am_hs B h) u) (am_r (am_bH B u) (k34 h))) : ∀ (n : Nat) (v2 : Int32) (h : Int64), am_E l g d_X11_mixLand 12 [some (.ref (60)), some (.int (v1)), some (.int (v2))] [] (am_of (am_hs B h) u) (am_r (am_bH B u) (f_X11_mixLand_12 u v1 k34 n v2 h)) := by
  intro n
  induction n with
  | zero => intro v2 h; exact am_none
  | succ n ih =>
    intro v2 h
    unfold f_X11_mixLand_12
    refine e_iload_n dX11_mixLand_12 rfl ?_
    refine e_iconst dX11_mixLand_13 (v := 5) (by decide) ?_
    refine e_if2_ge dX11_mixLand_14 (tgt := 34) (by decide) ?_ ?_
    · refine e_msk [true, true, false] (LS1 := [_, _, none]) rfl ?_
      exact hk34 h
    · refine e_aload_n dX11_mixLand_17 rfl ?_
      refine e_aload_n dX11_mixLand_18 rfl ?_
      refine e_iload_n dX11_mixLand_19 rfl ?_
      refine e_iload_n dX11_mixLand_20 rfl ?_
      refine q_callVP (As := [_, _]) rfl dX11_mixLand_21 lm_M_203 (am_fitB rfl) yo_X11_jarTells ys_X11_jarTells rfl rfl (by decide) (am_Lk hL rfl) rfl (Nat.le_of_ble_eq_true rfl) (Nat.le_of_ble_eq_true rfl) (s_X11_jarTells (am_LayH hL) _ _  _) (fun q1 => ?_)
      refine e_i2l dX11_mixLand_24 ?_
      refine q_callVW (As := [_]) rfl dX11_mixLand_25 lm_M_346 (am_fitB rfl) yo_X11_mix ys_X11_mix rfl rfl (by decide) (am_Lk hL rfl) rfl (Nat.le_of_ble_eq_true rfl) (Nat.le_of_ble_eq_true rfl) (s_X11_mix hL _  _ _) (fun q2 => ?_)
      refine e_iinc dX11_mixLand_28 rfl (v := _ + 1) rfl (by decide) (LS1 := [_, _, _]) rfl ?_
      refine e_goto dX11_mixLand_31 (tgt := 12) (by decide) ?_
      exact ih (v2 + 1) q2

set_option maxRecDepth 100000 in
set_option maxHeartbeats 4000000 in
theorem s_X11_mixLand_2 {l : Launch} {g : am_G} {B : am_M} {pl : Nat} (hL : am_Lay B pl) (u : am_U)   (k40 : Int64 → Option (Int64)) (hk40 : ∀  (h : Int64), am_E l g d_X11_mixLand 40 [some (.ref (60)), none, none] [] (am_of (am_hs B h) u) (am_r (am_bH B u) (k40 h))) : ∀ (n : Nat) (v1 : Int32) (h : Int64), am_E l g d_X11_mixLand 2 [some (.ref (60)), some (.int (v1)), none] [] (am_of (am_hs B h) u) (am_r (am_bH B u) (f_X11_mixLand_2 u k40 n v1 h)) := by
  intro n
  induction n with
  | zero => intro v1 h; exact am_none
  | succ n ih =>
    intro v1 h
    unfold f_X11_mixLand_2
    refine e_iload_n dX11_mixLand_2 rfl ?_
    refine e_aload_n dX11_mixLand_3 rfl ?_
    refine q_getI dX11_mixLand_4 lf_M_184 (by decide) (am_Lk hL rfl) ?_
    refine e_if2_ge dX11_mixLand_7 (tgt := 40) (by decide) ?_ ?_
    · refine e_msk [true, false, false] (LS1 := [_, none, none]) rfl ?_
      exact hk40 h
    · refine e_iconst dX11_mixLand_10 (v := 0) (by decide) ?_
      refine e_istore_n dX11_mixLand_11 (by decide) (LS1 := [_, _, _]) rfl ?_
      refine s_X11_mixLand_12 hL _ _ _ (fun c3u => ?_) _ _ _
      · refine e_iinc dX11_mixLand_34 rfl (v := _ + 1) rfl (by decide) (LS1 := [_, _, none]) rfl ?_
        refine e_goto dX11_mixLand_37 (tgt := 2) (by decide) ?_
        exact ih (v1 + 1) c3u

set_option maxRecDepth 100000 in
set_option maxHeartbeats 4000000 in
theorem s_X11_mixLand_49 {l : Launch} {g : am_G} {B : am_M} {pl : Nat} (hL : am_Lay B pl) (u : am_U) (v1 : Int32)  (k71 : Int64 → Option (Int64)) (hk71 : ∀  (h : Int64), am_E l g d_X11_mixLand 71 [some (.ref (60)), some (.int (v1)), none] [] (am_of (am_hs B h) u) (am_r (am_bH B u) (k71 h))) : ∀ (n : Nat) (v2 : Int32) (h : Int64), am_E l g d_X11_mixLand 49 [some (.ref (60)), some (.int (v1)), some (.int (v2))] [] (am_of (am_hs B h) u) (am_r (am_bH B u) (f_X11_mixLand_49 u v1 k71 n v2 h)) := by
  intro n
  induction n with
  | zero => intro v2 h; exact am_none
  | succ n ih =>
    intro v2 h
    unfold f_X11_mixLand_49
    refine e_iload_n dX11_mixLand_49 rfl ?_
    refine e_iconst dX11_mixLand_50 (v := 4) (by decide) ?_
    refine e_if2_ge dX11_mixLand_51 (tgt := 71) (by decide) ?_ ?_
    · refine e_msk [true, true, false] (LS1 := [_, _, none]) rfl ?_
      exact hk71 h
    · refine e_aload_n dX11_mixLand_54 rfl ?_
      refine e_aload_n dX11_mixLand_55 rfl ?_
      refine e_iload_n dX11_mixLand_56 rfl ?_
      refine e_iload_n dX11_mixLand_57 rfl ?_
      refine q_callVP (As := [_, _]) rfl dX11_mixLand_58 lm_M_218 (am_fitB rfl) yo_X11_placeTells ys_X11_placeTells rfl rfl (by decide) (am_Lk hL rfl) rfl (Nat.le_of_ble_eq_true rfl) (Nat.le_of_ble_eq_true rfl) (s_X11_placeTells (am_LayH hL) _ _  _) (fun q5 => ?_)
      refine e_i2l dX11_mixLand_61 ?_
      refine q_callVW (As := [_]) rfl dX11_mixLand_62 lm_M_346 (am_fitB rfl) yo_X11_mix ys_X11_mix rfl rfl (by decide) (am_Lk hL rfl) rfl (Nat.le_of_ble_eq_true rfl) (Nat.le_of_ble_eq_true rfl) (s_X11_mix hL _  _ _) (fun q6 => ?_)
      refine e_iinc dX11_mixLand_65 rfl (v := _ + 1) rfl (by decide) (LS1 := [_, _, _]) rfl ?_
      refine e_goto dX11_mixLand_68 (tgt := 49) (by decide) ?_
      exact ih (v2 + 1) q6

set_option maxRecDepth 100000 in
set_option maxHeartbeats 4000000 in
theorem s_X11_mixLand_42 {l : Launch} {g : am_G} {B : am_M} {pl : Nat} (hL : am_Lay B pl) (u : am_U)   (k77 : Int64 → Option (Int64)) (hk77 : ∀  (h : Int64), am_E l g d_X11_mixLand 77 [some (.ref (60)), none, none] [] (am_of (am_hs B h) u) (am_r (am_bH B u) (k77 h))) : ∀ (n : Nat) (v1 : Int32) (h : Int64), am_E l g d_X11_mixLand 42 [some (.ref (60)), some (.int (v1)), none] [] (am_of (am_hs B h) u) (am_r (am_bH B u) (f_X11_mixLand_42 u k77 n v1 h)) := by
  intro n
  induction n with
  | zero => intro v1 h; exact am_none
  | succ n ih =>
    intro v1 h
    unfold f_X11_mixLand_42
    refine e_iload_n dX11_mixLand_42 rfl ?_
    refine e_iconst dX11_mixLand_43 (v := 5) (by decide) ?_
    refine e_if2_ge dX11_mixLand_44 (tgt := 77) (by decide) ?_ ?_
    · refine e_msk [true, false, false] (LS1 := [_, none, none]) rfl ?_
      exact hk77 h
    · refine e_iconst dX11_mixLand_47 (v := 0) (by decide) ?_
      refine e_istore_n dX11_mixLand_48 (by decide) (LS1 := [_, _, _]) rfl ?_
      refine s_X11_mixLand_49 hL _ _ _ (fun c7u => ?_) _ _ _
      · refine e_iinc dX11_mixLand_71 rfl (v := _ + 1) rfl (by decide) (LS1 := [_, _, none]) rfl ?_
        refine e_goto dX11_mixLand_74 (tgt := 42) (by decide) ?_
        exact ih (v1 + 1) c7u

set_option maxRecDepth 100000 in
set_option maxHeartbeats 4000000 in
theorem s_X11_mixLand_79 {l : Launch} {g : am_G} {B : am_M} {pl : Nat} (hL : am_Lay B pl) (u : am_U)   (k115 : Int64 → Option (Int64)) (hk115 : ∀  (h : Int64), am_E l g d_X11_mixLand 115 [some (.ref (60)), none, none] [] (am_of (am_hs B h) u) (am_r (am_bH B u) (k115 h))) : ∀ (n : Nat) (v1 : Int32) (h : Int64), am_E l g d_X11_mixLand 79 [some (.ref (60)), some (.int (v1)), none] [] (am_of (am_hs B h) u) (am_r (am_bH B u) (f_X11_mixLand_79 u k115 n v1 h)) := by
  intro n
  induction n with
  | zero => intro v1 h; exact am_none
  | succ n ih =>
    intro v1 h
    unfold f_X11_mixLand_79
    refine e_iload_n dX11_mixLand_79 rfl ?_
    refine e_aload_n dX11_mixLand_80 rfl ?_
    refine q_getI dX11_mixLand_81 lf_M_190 (by decide) (am_Lk hL rfl) ?_
    refine e_if2_ge dX11_mixLand_84 (tgt := 115) (by decide) ?_ ?_
    · refine e_msk [true, false, false] (LS1 := [_, none, none]) rfl ?_
      exact hk115 h
    · refine e_aload_n dX11_mixLand_87 rfl ?_
      refine e_aload_n dX11_mixLand_88 rfl ?_
      refine q_getR (r := 86) dX11_mixLand_89 lf_M_87 rfl (by decide) (am_Lk hL rfl) (am_Lr hL rfl) ?_
      refine e_iload_n dX11_mixLand_92 rfl ?_
      refine q_ialdH dX11_mixLand_93 (am_Ls hL rfl) (fun i9 => ?_)
      refine e_i2l dX11_mixLand_94 ?_
      refine q_callVW (As := [_]) rfl dX11_mixLand_95 lm_M_346 (am_fitB rfl) yo_X11_mix ys_X11_mix rfl rfl (by decide) (am_Lk hL rfl) rfl (Nat.le_of_ble_eq_true rfl) (Nat.le_of_ble_eq_true rfl) (s_X11_mix hL _  _ _) (fun q10 => ?_)
      refine e_aload_n dX11_mixLand_98 rfl ?_
      refine e_aload_n dX11_mixLand_99 rfl ?_
      refine q_getR (r := 87) dX11_mixLand_100 lf_M_90 rfl (by decide) (am_Lk hL rfl) (am_Lr hL rfl) ?_
      refine e_iload_n dX11_mixLand_103 rfl ?_
      refine q_ialdC (jn := _) dX11_mixLand_104 (am_Ls hL rfl) i9 rfl ?_
      refine e_i2l dX11_mixLand_105 ?_
      refine q_callVW (As := [_]) rfl dX11_mixLand_106 lm_M_346 (am_fitB rfl) yo_X11_mix ys_X11_mix rfl rfl (by decide) (am_Lk hL rfl) rfl (Nat.le_of_ble_eq_true rfl) (Nat.le_of_ble_eq_true rfl) (s_X11_mix hL _  _ _) (fun q11 => ?_)
      refine e_iinc dX11_mixLand_109 rfl (v := _ + 1) rfl (by decide) (LS1 := [_, _, none]) rfl ?_
      refine e_goto dX11_mixLand_112 (tgt := 79) (by decide) ?_
      exact ih (v1 + 1) q11

set_option maxRecDepth 100000 in
set_option maxHeartbeats 4000000 in
theorem s_X11_mixLand_117 {l : Launch} {g : am_G} {B : am_M} {pl : Nat} (hL : am_Lay B pl) (u : am_U)     : ∀ (n : Nat) (v1 : Int32) (h : Int64), am_E l g d_X11_mixLand 117 [some (.ref (60)), some (.int (v1)), none] [] (am_of (am_hs B h) u) (am_r (am_bH B u) (f_X11_mixLand_117 u n v1 h)) := by
  intro n
  induction n with
  | zero => intro v1 h; exact am_none
  | succ n ih =>
    intro v1 h
    unfold f_X11_mixLand_117
    refine e_iload_n dX11_mixLand_117 rfl ?_
    refine e_iconst dX11_mixLand_118 (v := 3) (by decide) ?_
    refine e_if2_ge dX11_mixLand_119 (tgt := 160) (by decide) ?_ ?_
    · exact e_vret dX11_mixLand_160 rfl rfl
    · refine e_aload_n dX11_mixLand_122 rfl ?_
      refine e_aload_n dX11_mixLand_123 rfl ?_
      refine q_getR (r := 77) dX11_mixLand_124 lf_M_59 rfl (by decide) (am_Lk hL rfl) (am_Lr hL rfl) ?_
      refine e_iload_n dX11_mixLand_127 rfl ?_
      refine q_bald dX11_mixLand_128 (Or.inr (am_Ls hL rfl)) ?_
      refine e_jn (P := fun t : Int64 → Option (Int64) => ∀ (j14s0 : Int64), am_E l g d_X11_mixLand 151 [some (.ref (60)), some (.int (v1)), none] [.long (j14s0), .ref (60)] (am_of (am_hs B h) u) (am_r (am_bH B u) (t j14s0))) ?_ (fun j14 hj14 => ?_)
      · intro j14s0
        refine q_callVW (As := [_]) rfl dX11_mixLand_151 lm_M_346 (am_fitB rfl) yo_X11_mix ys_X11_mix rfl rfl (by decide) (am_Lk hL rfl) rfl (Nat.le_of_ble_eq_true rfl) (Nat.le_of_ble_eq_true rfl) (s_X11_mix hL _  _ _) (fun q15 => ?_)
        refine e_iinc dX11_mixLand_154 rfl (v := _ + 1) rfl (by decide) (LS1 := [_, _, none]) rfl ?_
        refine e_goto dX11_mixLand_157 (tgt := 117) (by decide) ?_
        exact ih (v1 + 1) q15
      · refine e_if_eq dX11_mixLand_129 (tgt := 148) (by decide) ?_ ?_
        · refine e_ldc2 dX11_mixLand_148 ll_M_350 ?_
          refine e_msk [true, true, false] (LS1 := [_, _, none]) rfl ?_
          exact hj14 (-1 : Int64)
        · refine e_aload_n dX11_mixLand_132 rfl ?_
          refine q_getR (r := 78) dX11_mixLand_133 lf_M_63 rfl (by decide) (am_Lk hL rfl) (am_Lr hL rfl) ?_
          refine e_bipush dX11_mixLand_136 (v := 30) (by decide) ?_
          refine e_iload_n dX11_mixLand_138 rfl ?_
          refine e_imul dX11_mixLand_139 ?_
          refine e_bipush dX11_mixLand_140 (v := 28) (by decide) ?_
          refine e_iadd dX11_mixLand_142 ?_
          refine q_ialdH dX11_mixLand_143 (am_Ls hL rfl) (fun i16 => ?_)
          refine e_i2l dX11_mixLand_144 ?_
          refine e_goto dX11_mixLand_145 (tgt := 151) (by decide) ?_
          refine e_msk [true, true, false] (LS1 := [_, _, none]) rfl ?_
          exact hj14 ((u 78 ((30 * v1) + 28).toNatClampNeg).toInt64)

set_option maxRecDepth 100000 in
set_option maxHeartbeats 4000000 in
theorem s_X11_mixLand {l : Launch} {g : am_G} {B : am_M} {pl : Nat} (hL : am_Lay B pl)   (u : am_U) (h : Int64) : am_E l g d_X11_mixLand 0 (am_ent d_X11_mixLand [.ref (60)]) [] (am_of (am_hs B h) u) (am_r (am_bH B u) (f_X11_mixLand u h)) := by
  unfold f_X11_mixLand
  show am_E l g d_X11_mixLand 0 [some (.ref (60)), none, none] [] (am_of (am_hs B h) u) _
  refine e_iconst dX11_mixLand_0 (v := 0) (by decide) ?_
  refine e_istore_n dX11_mixLand_1 (by decide) (LS1 := [_, _, none]) rfl ?_
  refine s_X11_mixLand_2 hL _ _ (fun c4u => ?_) _ _ _
  · refine e_iconst dX11_mixLand_40 (v := 0) (by decide) ?_
    refine e_istore_n dX11_mixLand_41 (by decide) (LS1 := [_, _, none]) rfl ?_
    refine s_X11_mixLand_42 hL _ _ (fun c8u => ?_) _ _ _
    · refine e_iconst dX11_mixLand_77 (v := 0) (by decide) ?_
      refine e_istore_n dX11_mixLand_78 (by decide) (LS1 := [_, _, none]) rfl ?_
      refine s_X11_mixLand_79 hL _ _ (fun c12u => ?_) _ _ _
      · refine e_iconst dX11_mixLand_115 (v := 0) (by decide) ?_
        refine e_istore_n dX11_mixLand_116 (by decide) (LS1 := [_, _, none]) rfl ?_
        refine s_X11_mixLand_117 hL _  _ _ _

def f_X11_digest_9 (u : am_U) (k31 : Int64 → Option (Int64)) : Nat → Int32 → Int64 → Option (Int64)
  | 0, _, _ => none
  | n + 1, v1, h =>
    if 10 ≤ v1 then (
      k31 h)
    else (
      (f_X11_counted v1 u).bind (fun q1 =>
      (f_X11_mix q1.toInt64 u h).bind (fun q2 =>
      f_X11_digest_9 u k31 n (v1 + 1) q2)))
def f_X11_digest_56 (u : am_U) (v1 : Int32) (k83 : Int64 → Option (Int64)) : Nat → Int32 → Int64 → Option (Int64)
  | 0, _, _ => none
  | n + 1, v2, h =>
    am_ck (am_ix v1 6) (
    if (u 62 v1.toNatClampNeg) ≤ v2 then (
      k83 h)
    else (
      (f_X11_rowAt v1 v2 u).bind (fun q8 =>
      (f_X11_mix q8.toInt64 u h).bind (fun q9 =>
      f_X11_digest_56 u v1 k83 n (v2 + 1) q9))))
def f_X11_digest_37 (u : am_U) (k89 : Int64 → Option (Int64)) : Nat → Int32 → Int64 → Option (Int64)
  | 0, _, _ => none
  | n + 1, v1, h =>
    if 6 ≤ v1 then (
      k89 h)
    else (
      am_ck (am_ix v1 6) (
      (f_X11_mix ((u 62 v1.toNatClampNeg).toInt64) u h).bind (fun q6 =>
      f_X11_digest_56 u v1 (fun (c10u : Int64) =>
        f_X11_digest_37 u k89 n (v1 + 1) c10u) 20000 0 q6)))
def f_X11_digest_109 (u : am_U) (v1 : Int32) (k136 : Int64 → Option (Int64)) : Nat → Int32 → Int64 → Option (Int64)
  | 0, _, _ => none
  | n + 1, v2, h =>
    am_ck (am_ix v1 4) (
    if (u 65 v1.toNatClampNeg) ≤ v2 then (
      k136 h)
    else (
      (f_X11_byteAt v1 v2 u).bind (fun q15 =>
      (f_X11_mix q15.toInt64 u h).bind (fun q16 =>
      f_X11_digest_109 u v1 k136 n (v2 + 1) q16))))
def f_X11_digest_91 (u : am_U) : Nat → Int32 → Int64 → Option (Int64)
  | 0, _, _ => none
  | n + 1, v1, h =>
    if 4 ≤ v1 then (
      some h)
    else (
      am_ck (am_ix v1 4) (
      (f_X11_mix ((u 65 v1.toNatClampNeg).toInt64) u h).bind (fun q13 =>
      f_X11_digest_109 u v1 (fun (c17u : Int64) =>
        f_X11_digest_91 u n (v1 + 1) c17u) 20000 0 q13)))
def f_X11_digest (u : am_U) (h : Int64) : Option (Int64) :=
  f_X11_digest_9 u (fun (c3u : Int64) =>
    (f_X11_mixLand u c3u).bind (fun q4 =>
    f_X11_digest_37 u (fun (c11u : Int64) =>
      f_X11_digest_91 u 20000 0 c11u) 20000 0 q4)) 20000 0 (17 : Int64)
set_option maxRecDepth 100000 in
set_option maxHeartbeats 4000000 in
theorem s_X11_digest_9 {l : Launch} {g : am_G} {B : am_M} {pl : Nat} (hL : am_Lay B pl) (u : am_U)   (k31 : Int64 → Option (Int64)) (hk31 : ∀  (h : Int64), am_E l g d_X11_digest 31 [some (.ref (60)), none, none] [] (am_of (am_hs B h) u) (am_r (am_bD B u) (k31 h))) : ∀ (n : Nat) (v1 : Int32) (h : Int64), am_E l g d_X11_digest 9 [some (.ref (60)), some (.int (v1)), none] [] (am_of (am_hs B h) u) (am_r (am_bD B u) (f_X11_digest_9 u k31 n v1 h)) := by
  intro n
  induction n with
  | zero => intro v1 h; exact am_none
  | succ n ih =>
    intro v1 h
    unfold f_X11_digest_9
    refine e_iload_n dX11_digest_9 rfl ?_
    refine e_bipush dX11_digest_10 (v := 10) (by decide) ?_
    refine e_if2_ge dX11_digest_12 (tgt := 31) (by decide) ?_ ?_
    · refine e_msk [true, false, false] (LS1 := [_, none, none]) rfl ?_
      exact hk31 h
    · refine e_aload_n dX11_digest_15 rfl ?_
      refine e_aload_n dX11_digest_16 rfl ?_
      refine e_iload_n dX11_digest_17 rfl ?_
      refine q_callVP (As := [_]) rfl dX11_digest_18 lm_M_337 (am_fitB rfl) yo_X11_counted ys_X11_counted rfl rfl (by decide) (am_Lk hL rfl) rfl (Nat.le_of_ble_eq_true rfl) (Nat.le_of_ble_eq_true rfl) (s_X11_counted (am_LayH hL) _  _) (fun q1 => ?_)
      refine e_i2l dX11_digest_21 ?_
      refine q_callVW (As := [_]) rfl dX11_digest_22 lm_M_346 (am_fitB rfl) yo_X11_mix ys_X11_mix rfl rfl (by decide) (am_Lk hL rfl) rfl (Nat.le_of_ble_eq_true rfl) (Nat.le_of_ble_eq_true rfl) (s_X11_mix hL _  _ _) (fun q2 => ?_)
      refine e_iinc dX11_digest_25 rfl (v := _ + 1) rfl (by decide) (LS1 := [_, _, none]) rfl ?_
      refine e_goto dX11_digest_28 (tgt := 9) (by decide) ?_
      exact ih (v1 + 1) q2

set_option maxRecDepth 100000 in
set_option maxHeartbeats 4000000 in
theorem s_X11_digest_56 {l : Launch} {g : am_G} {B : am_M} {pl : Nat} (hL : am_Lay B pl) (u : am_U) (v1 : Int32)  (k83 : Int64 → Option (Int64)) (hk83 : ∀  (h : Int64), am_E l g d_X11_digest 83 [some (.ref (60)), some (.int (v1)), none] [] (am_of (am_hs B h) u) (am_r (am_bD B u) (k83 h))) : ∀ (n : Nat) (v2 : Int32) (h : Int64), am_E l g d_X11_digest 56 [some (.ref (60)), some (.int (v1)), some (.int (v2))] [] (am_of (am_hs B h) u) (am_r (am_bD B u) (f_X11_digest_56 u v1 k83 n v2 h)) := by
  intro n
  induction n with
  | zero => intro v2 h; exact am_none
  | succ n ih =>
    intro v2 h
    unfold f_X11_digest_56
    refine e_iload_n dX11_digest_56 rfl ?_
    refine e_aload_n dX11_digest_57 rfl ?_
    refine q_getR (r := 62) dX11_digest_58 lf_M_13 rfl (by decide) (am_Lk hL rfl) (am_Lr hL rfl) ?_
    refine e_iload_n dX11_digest_61 rfl ?_
    refine q_ialdH dX11_digest_62 (am_Ls hL rfl) (fun i7 => ?_)
    refine e_if2_ge dX11_digest_63 (tgt := 83) (by decide) ?_ ?_
    · refine e_msk [true, true, false] (LS1 := [_, _, none]) rfl ?_
      exact hk83 h
    · refine e_aload_n dX11_digest_66 rfl ?_
      refine e_aload_n dX11_digest_67 rfl ?_
      refine e_iload_n dX11_digest_68 rfl ?_
      refine e_iload_n dX11_digest_69 rfl ?_
      refine q_callVP (As := [_, _]) rfl dX11_digest_70 lm_M_121 (am_fitB rfl) yo_X11_rowAt ys_X11_rowAt rfl rfl (by decide) (am_Lk hL rfl) rfl (Nat.le_of_ble_eq_true rfl) (Nat.le_of_ble_eq_true rfl) (s_X11_rowAt (am_LayH hL) _ _  _) (fun q8 => ?_)
      refine e_i2l dX11_digest_73 ?_
      refine q_callVW (As := [_]) rfl dX11_digest_74 lm_M_346 (am_fitB rfl) yo_X11_mix ys_X11_mix rfl rfl (by decide) (am_Lk hL rfl) rfl (Nat.le_of_ble_eq_true rfl) (Nat.le_of_ble_eq_true rfl) (s_X11_mix hL _  _ _) (fun q9 => ?_)
      refine e_iinc dX11_digest_77 rfl (v := _ + 1) rfl (by decide) (LS1 := [_, _, _]) rfl ?_
      refine e_goto dX11_digest_80 (tgt := 56) (by decide) ?_
      exact ih (v2 + 1) q9

set_option maxRecDepth 100000 in
set_option maxHeartbeats 4000000 in
theorem s_X11_digest_37 {l : Launch} {g : am_G} {B : am_M} {pl : Nat} (hL : am_Lay B pl) (u : am_U)   (k89 : Int64 → Option (Int64)) (hk89 : ∀  (h : Int64), am_E l g d_X11_digest 89 [some (.ref (60)), none, none] [] (am_of (am_hs B h) u) (am_r (am_bD B u) (k89 h))) : ∀ (n : Nat) (v1 : Int32) (h : Int64), am_E l g d_X11_digest 37 [some (.ref (60)), some (.int (v1)), none] [] (am_of (am_hs B h) u) (am_r (am_bD B u) (f_X11_digest_37 u k89 n v1 h)) := by
  intro n
  induction n with
  | zero => intro v1 h; exact am_none
  | succ n ih =>
    intro v1 h
    unfold f_X11_digest_37
    refine e_iload_n dX11_digest_37 rfl ?_
    refine e_bipush dX11_digest_38 (v := 6) (by decide) ?_
    refine e_if2_ge dX11_digest_40 (tgt := 89) (by decide) ?_ ?_
    · refine e_msk [true, false, false] (LS1 := [_, none, none]) rfl ?_
      exact hk89 h
    · refine e_aload_n dX11_digest_43 rfl ?_
      refine e_aload_n dX11_digest_44 rfl ?_
      refine q_getR (r := 62) dX11_digest_45 lf_M_13 rfl (by decide) (am_Lk hL rfl) (am_Lr hL rfl) ?_
      refine e_iload_n dX11_digest_48 rfl ?_
      refine q_ialdH dX11_digest_49 (am_Ls hL rfl) (fun i5 => ?_)
      refine e_i2l dX11_digest_50 ?_
      refine q_callVW (As := [_]) rfl dX11_digest_51 lm_M_346 (am_fitB rfl) yo_X11_mix ys_X11_mix rfl rfl (by decide) (am_Lk hL rfl) rfl (Nat.le_of_ble_eq_true rfl) (Nat.le_of_ble_eq_true rfl) (s_X11_mix hL _  _ _) (fun q6 => ?_)
      refine e_iconst dX11_digest_54 (v := 0) (by decide) ?_
      refine e_istore_n dX11_digest_55 (by decide) (LS1 := [_, _, _]) rfl ?_
      refine s_X11_digest_56 hL _ _ _ (fun c10u => ?_) _ _ _
      · refine e_iinc dX11_digest_83 rfl (v := _ + 1) rfl (by decide) (LS1 := [_, _, none]) rfl ?_
        refine e_goto dX11_digest_86 (tgt := 37) (by decide) ?_
        exact ih (v1 + 1) c10u

set_option maxRecDepth 100000 in
set_option maxHeartbeats 4000000 in
theorem s_X11_digest_109 {l : Launch} {g : am_G} {B : am_M} {pl : Nat} (hL : am_Lay B pl) (u : am_U) (v1 : Int32)  (k136 : Int64 → Option (Int64)) (hk136 : ∀  (h : Int64), am_E l g d_X11_digest 136 [some (.ref (60)), some (.int (v1)), none] [] (am_of (am_hs B h) u) (am_r (am_bD B u) (k136 h))) : ∀ (n : Nat) (v2 : Int32) (h : Int64), am_E l g d_X11_digest 109 [some (.ref (60)), some (.int (v1)), some (.int (v2))] [] (am_of (am_hs B h) u) (am_r (am_bD B u) (f_X11_digest_109 u v1 k136 n v2 h)) := by
  intro n
  induction n with
  | zero => intro v2 h; exact am_none
  | succ n ih =>
    intro v2 h
    unfold f_X11_digest_109
    refine e_iload_n dX11_digest_109 rfl ?_
    refine e_aload_n dX11_digest_110 rfl ?_
    refine q_getR (r := 65) dX11_digest_111 lf_M_22 rfl (by decide) (am_Lk hL rfl) (am_Lr hL rfl) ?_
    refine e_iload_n dX11_digest_114 rfl ?_
    refine q_ialdH dX11_digest_115 (am_Ls hL rfl) (fun i14 => ?_)
    refine e_if2_ge dX11_digest_116 (tgt := 136) (by decide) ?_ ?_
    · refine e_msk [true, true, false] (LS1 := [_, _, none]) rfl ?_
      exact hk136 h
    · refine e_aload_n dX11_digest_119 rfl ?_
      refine e_aload_n dX11_digest_120 rfl ?_
      refine e_iload_n dX11_digest_121 rfl ?_
      refine e_iload_n dX11_digest_122 rfl ?_
      refine q_callVP (As := [_, _]) rfl dX11_digest_123 lm_M_134 (am_fitB rfl) yo_X11_byteAt ys_X11_byteAt rfl rfl (by decide) (am_Lk hL rfl) rfl (Nat.le_of_ble_eq_true rfl) (Nat.le_of_ble_eq_true rfl) (s_X11_byteAt (am_LayH hL) _ _  _) (fun q15 => ?_)
      refine e_i2l dX11_digest_126 ?_
      refine q_callVW (As := [_]) rfl dX11_digest_127 lm_M_346 (am_fitB rfl) yo_X11_mix ys_X11_mix rfl rfl (by decide) (am_Lk hL rfl) rfl (Nat.le_of_ble_eq_true rfl) (Nat.le_of_ble_eq_true rfl) (s_X11_mix hL _  _ _) (fun q16 => ?_)
      refine e_iinc dX11_digest_130 rfl (v := _ + 1) rfl (by decide) (LS1 := [_, _, _]) rfl ?_
      refine e_goto dX11_digest_133 (tgt := 109) (by decide) ?_
      exact ih (v2 + 1) q16

set_option maxRecDepth 100000 in
set_option maxHeartbeats 4000000 in
theorem s_X11_digest_91 {l : Launch} {g : am_G} {B : am_M} {pl : Nat} (hL : am_Lay B pl) (u : am_U)     : ∀ (n : Nat) (v1 : Int32) (h : Int64), am_E l g d_X11_digest 91 [some (.ref (60)), some (.int (v1)), none] [] (am_of (am_hs B h) u) (am_r (am_bD B u) (f_X11_digest_91 u n v1 h)) := by
  intro n
  induction n with
  | zero => intro v1 h; exact am_none
  | succ n ih =>
    intro v1 h
    unfold f_X11_digest_91
    refine e_iload_n dX11_digest_91 rfl ?_
    refine e_iconst dX11_digest_92 (v := 4) (by decide) ?_
    refine e_if2_ge dX11_digest_93 (tgt := 142) (by decide) ?_ ?_
    · refine e_aload_n dX11_digest_142 rfl ?_
      refine q_getH dX11_digest_143 lf_M_342 (by decide) (am_Lk hL rfl) ?_
      exact e_lret dX11_digest_146 rfl rfl
    · refine e_aload_n dX11_digest_96 rfl ?_
      refine e_aload_n dX11_digest_97 rfl ?_
      refine q_getR (r := 65) dX11_digest_98 lf_M_22 rfl (by decide) (am_Lk hL rfl) (am_Lr hL rfl) ?_
      refine e_iload_n dX11_digest_101 rfl ?_
      refine q_ialdH dX11_digest_102 (am_Ls hL rfl) (fun i12 => ?_)
      refine e_i2l dX11_digest_103 ?_
      refine q_callVW (As := [_]) rfl dX11_digest_104 lm_M_346 (am_fitB rfl) yo_X11_mix ys_X11_mix rfl rfl (by decide) (am_Lk hL rfl) rfl (Nat.le_of_ble_eq_true rfl) (Nat.le_of_ble_eq_true rfl) (s_X11_mix hL _  _ _) (fun q13 => ?_)
      refine e_iconst dX11_digest_107 (v := 0) (by decide) ?_
      refine e_istore_n dX11_digest_108 (by decide) (LS1 := [_, _, _]) rfl ?_
      refine s_X11_digest_109 hL _ _ _ (fun c17u => ?_) _ _ _
      · refine e_iinc dX11_digest_136 rfl (v := _ + 1) rfl (by decide) (LS1 := [_, _, none]) rfl ?_
        refine e_goto dX11_digest_139 (tgt := 91) (by decide) ?_
        exact ih (v1 + 1) c17u

set_option maxRecDepth 100000 in
set_option maxHeartbeats 4000000 in
theorem s_X11_digest {l : Launch} {g : am_G} {B : am_M} {pl : Nat} (hL : am_Lay B pl)   (u : am_U) (h : Int64) : am_E l g d_X11_digest 0 (am_ent d_X11_digest [.ref (60)]) [] (am_of (am_hs B h) u) (am_r (am_bD B u) (f_X11_digest u h)) := by
  unfold f_X11_digest
  show am_E l g d_X11_digest 0 [some (.ref (60)), none, none] [] (am_of (am_hs B h) u) _
  refine e_aload_n dX11_digest_0 rfl ?_
  refine e_ldc2 dX11_digest_1 ll_M_352 ?_
  refine q_putH dX11_digest_4 lf_M_342 rfl (by decide) (am_Lk hL rfl) ?_
  refine e_iconst dX11_digest_7 (v := 0) (by decide) ?_
  refine e_istore_n dX11_digest_8 (by decide) (LS1 := [_, _, none]) rfl ?_
  refine s_X11_digest_9 hL _ _ (fun c3u => ?_) _ _ _
  · refine e_aload_n dX11_digest_31 rfl ?_
    refine q_callVW (As := []) rfl dX11_digest_32 lm_M_354 (am_fitB rfl) yo_X11_mixLand ys_X11_mixLand rfl rfl (by decide) (am_Lk hL rfl) rfl (Nat.le_of_ble_eq_true rfl) (Nat.le_of_ble_eq_true rfl) (s_X11_mixLand hL   _ _) (fun q4 => ?_)
    refine e_iconst dX11_digest_35 (v := 0) (by decide) ?_
    refine e_istore_n dX11_digest_36 (by decide) (LS1 := [_, _, none]) rfl ?_
    refine s_X11_digest_37 hL _ _ (fun c11u => ?_) _ _ _
    · refine e_iconst dX11_digest_89 (v := 0) (by decide) ?_
      refine e_istore_n dX11_digest_90 (by decide) (LS1 := [_, _, none]) rfl ?_
      refine s_X11_digest_91 hL _  _ _ _

