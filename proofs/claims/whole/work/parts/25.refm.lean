theorem am_planT {B : am_M} {pl t v : Nat} (hL : am_Lay B pl) (h : am_isPlan B t) : am_isPlan (am_wR B 7 0 v) t := by
  have h7 : t ≠ 7 := by
    rintro rfl
    have h1 := h.1
    rw [hL.1 7 6 2 rfl] at h1
    cases h1
  obtain ⟨a1, ⟨b1, b2, b3, b4⟩, c1⟩ := h
  exact ⟨a1, ⟨(am_wR_ro (by omega)).trans b1, (am_wR_ro (by omega)).trans b2, (am_wR_ro (by omega)).trans b3, (am_wR_ro (by omega)).trans b4⟩, c1⟩
theorem am_avp {t : Nat} (h : t = 30 ∨ t = 35) : am_av t = .ref t := by rcases h with rfl | rfl <;> rfl
def f_X7_read (a1 : Nat) (a2 : Nat) (u : am_U) : Option (Int32 × am_U) :=
  let u1 : am_U := am_w u 7 1 0
  (f_X7_readMules a1 a2 u1).bind (fun q2 =>
  am_jn (fun (j3s0 : Int32) (j3u : am_U) =>
    if j3s0 = 0 then (
      some (j3u 7 1, j3u))
    else (
      some (((-9) : Int32), j3u))) (fun j3 =>
  am_jn (fun (j4u : am_U) =>
    j3 0 j4u) (fun j4 =>
  if q2.1 = 0 then (
    j4 q2.2)
  else (
    (f_X7_readSuns a1 a2 q2.2).bind (fun q5 =>
    if q5.1 = 0 then (
      j4 q5.2)
    else (
      (f_X7_readNeeds a1 a2 q5.2).bind (fun q6 =>
      if q6.1 = 0 then (
        j4 q6.2)
      else (
        (f_X7_readJars a1 a2 q6.2).bind (fun q7 =>
        if q7.1 = 0 then (
          j4 q7.2)
        else (
          j3 1 q7.2))))))))))
set_option maxRecDepth 100000 in
set_option maxHeartbeats 4000000 in
theorem s_X7_read {l : Launch} {g : am_G} {B : am_M} {pl : Nat} (hL : am_Lay B pl) (a1 : Nat) (a2 : Nat) (h1 : am_isRow B a1) (h2 : am_isPlan B a2) (ha : am_av a1 = .ref a1) (u : am_U) : am_E l g d_X7_read 0 (am_ent d_X7_read [.ref (7), .ref (a1), .ref (a2)]) [] (am_of B u) (am_r (am_bI (am_wR B 7 0 a1)) (f_X7_read a1 a2 u)) := by
  unfold f_X7_read
  show am_E l g d_X7_read 0 [some (.ref (7)), some (.ref (a1)), some (.ref (a2)), none] [] (am_of B u) _
  refine e_aload_n dX7_read_0 rfl ?_
  refine e_aload_n dX7_read_1 rfl ?_
  refine q_putR dX7_read_2 lf_Reader_9 rfl rfl (by decide) (am_Lk hL rfl) ha ?_
  have hL1 : am_Lay (am_wR B 7 0 a1) pl := am_LayW hL (Or.inl ⟨rfl, rfl⟩)
  have hT := am_rowT (v := a1) hL h1
  have htx := am_txT (B := B) ha
  have h2n := am_planT (v := a1) hL h2
  refine e_aload_n dX7_read_5 rfl ?_
  refine e_iconst dX7_read_6 (v := 0) (by decide) ?_
  refine q_putI dX7_read_7 lf_Reader_15 rfl (by decide) (am_Lk hL1 rfl) ?_
  refine e_aload_n dX7_read_10 rfl ?_
  refine e_aload_n dX7_read_11 rfl ?_
  refine q_callVI (As := [_]) rfl dX7_read_12 lm_Reader_19 (am_fitB rfl) yo_X7_readMules ys_X7_readMules rfl rfl (by decide) (am_Lk hL1 rfl) rfl (Nat.le_of_ble_eq_true rfl) (Nat.le_of_ble_eq_true rfl) (s_X7_readMules hL1 htx hT _ h2n _) (fun q2 => ?_)
  refine e_jn (P := fun t : Int32 → am_U → Option (Int32 × am_U) => ∀ (j3s0 : Int32) (j3u : am_U), am_E l g d_X7_read 47 [some (.ref (7)), none, none, none] [.int (j3s0)] (am_of (am_wR B 7 0 a1) j3u) (am_r (am_bI (am_wR B 7 0 a1)) (t j3s0 j3u))) ?_ (fun j3 hj3 => ?_)
  · intro j3s0 j3u
    refine e_istore_n dX7_read_47 (by decide) (LS1 := [_, none, none, _]) rfl ?_
    refine e_iload_n dX7_read_48 rfl ?_
    refine e_if_eq dX7_read_49 (tgt := 57) (by decide) ?_ ?_
    · refine e_aload_n dX7_read_57 rfl ?_
      refine q_getI dX7_read_58 lf_Reader_15 (by decide) (am_Lk hL1 rfl) ?_
      exact e_iret dX7_read_61 rfl rfl
    · refine e_bipush dX7_read_52 (v := ((-9) : Int32)) (by decide) ?_
      refine e_goto dX7_read_54 (tgt := 61) (by decide) ?_
      exact e_iret dX7_read_61 rfl rfl
  · refine e_jn (P := fun t : am_U → Option (Int32 × am_U) => ∀ (j4u : am_U), am_E l g d_X7_read 46 [some (.ref (7)), none, none, none] [] (am_of (am_wR B 7 0 a1) j4u) (am_r (am_bI (am_wR B 7 0 a1)) (t j4u))) ?_ (fun j4 hj4 => ?_)
    · intro j4u
      refine e_iconst dX7_read_46 (v := 0) (by decide) ?_
      refine e_msk [true, false, false, false] (LS1 := [_, none, none, none]) rfl ?_
      exact hj3 0 j4u
    · refine e_if_eq dX7_read_15 (tgt := 46) (by decide) ?_ ?_
      · refine e_msk [true, false, false, false] (LS1 := [_, none, none, none]) rfl ?_
        exact hj4 q2.2
      · refine e_aload_n dX7_read_18 rfl ?_
        refine e_aload_n dX7_read_19 rfl ?_
        refine q_callVI (As := [_]) rfl dX7_read_20 lm_Reader_23 (am_fitB rfl) yo_X7_readSuns ys_X7_readSuns rfl rfl (by decide) (am_Lk hL1 rfl) rfl (Nat.le_of_ble_eq_true rfl) (Nat.le_of_ble_eq_true rfl) (s_X7_readSuns hL1 htx hT _ h2n _) (fun q5 => ?_)
        refine e_if_eq dX7_read_23 (tgt := 46) (by decide) ?_ ?_
        · refine e_msk [true, false, false, false] (LS1 := [_, none, none, none]) rfl ?_
          exact hj4 q5.2
        · refine e_aload_n dX7_read_26 rfl ?_
          refine e_aload_n dX7_read_27 rfl ?_
          refine q_callVI (As := [_]) rfl dX7_read_28 lm_Reader_26 (am_fitB rfl) yo_X7_readNeeds ys_X7_readNeeds rfl rfl (by decide) (am_Lk hL1 rfl) rfl (Nat.le_of_ble_eq_true rfl) (Nat.le_of_ble_eq_true rfl) (s_X7_readNeeds hL1 htx hT _ h2n _) (fun q6 => ?_)
          refine e_if_eq dX7_read_31 (tgt := 46) (by decide) ?_ ?_
          · refine e_msk [true, false, false, false] (LS1 := [_, none, none, none]) rfl ?_
            exact hj4 q6.2
          · refine e_aload_n dX7_read_34 rfl ?_
            refine e_aload_n dX7_read_35 rfl ?_
            refine q_callVI (As := [_]) rfl dX7_read_36 lm_Reader_29 (am_fitB rfl) yo_X7_readJars ys_X7_readJars rfl rfl (by decide) (am_Lk hL1 rfl) rfl (Nat.le_of_ble_eq_true rfl) (Nat.le_of_ble_eq_true rfl) (s_X7_readJars hL1 htx hT _ h2n _) (fun q7 => ?_)
            refine e_if_eq dX7_read_39 (tgt := 46) (by decide) ?_ ?_
            · refine e_msk [true, false, false, false] (LS1 := [_, none, none, none]) rfl ?_
              exact hj4 q7.2
            · refine e_iconst dX7_read_42 (v := 1) (by decide) ?_
              refine e_goto dX7_read_43 (tgt := 47) (by decide) ?_
              refine e_msk [true, false, false, false] (LS1 := [_, none, none, none]) rfl ?_
              exact hj3 1 q7.2

def f_X10_fault (B : am_M) (dr : Nat) (a1 : Int32) (u : am_U) : Option (Int32 × am_M) :=
  (f_X10_refuseRow 6 a1 u).bind (fun q1 =>
  if q1.1 = 0 then (
    am_ck (am_ix a1 4) (
    (f_X7_read (2 * a1.toNatClampNeg + 52) dr q1.2).bind (fun q3 =>
    some (q3.1, am_of (am_wR B 7 0 (2 * a1.toNatClampNeg + 52)) q3.2))))
  else (
    some (q1.1, am_of B q1.2)))
set_option maxRecDepth 100000 in
set_option maxHeartbeats 4000000 in
theorem s_X10_fault {l : Launch} {g : am_G} {B : am_M} {pl : Nat} (hL : am_Lay B pl) {dr : Nat} (hD : am_LayD B pl dr) (a1 : Int32)  (u : am_U) : am_E l g d_X10_fault 0 (am_ent d_X10_fault [.ref (4), .int (a1)]) [] (am_of B u) (am_r (am_fI) (f_X10_fault B dr a1 u)) := by
  unfold f_X10_fault
  show am_E l g d_X10_fault 0 [some (.ref (4)), some (.int (a1)), none] [] (am_of B u) _
  refine e_aload_n dX10_fault_0 rfl ?_
  refine e_aload_n dX10_fault_1 rfl ?_
  refine q_getR (r := 6) dX10_fault_2 lf_N_15 rfl (by decide) (am_Lk hL rfl) (am_Lr hL rfl) ?_
  refine e_iload_n dX10_fault_5 rfl ?_
  refine q_callVI (As := [_, _]) rfl dX10_fault_6 lm_N_105 (am_fitB rfl) yo_X10_refuseRow ys_X10_refuseRow rfl rfl (by decide) (am_Lk hL rfl) rfl (Nat.le_of_ble_eq_true rfl) (Nat.le_of_ble_eq_true rfl) (s_X10_refuseRow hL _ _ (am_rows6 hL) _) (fun q1 => ?_)
  refine e_istore_n dX10_fault_9 (by decide) (LS1 := [_, _, _]) rfl ?_
  refine e_iload_n dX10_fault_10 rfl ?_
  refine e_if_eq dX10_fault_11 (tgt := 18) (by decide) ?_ ?_
  · refine e_aload_n dX10_fault_18 rfl ?_
    refine q_getR (r := 7) dX10_fault_19 lf_N_21 rfl (by decide) (am_Lk hL rfl) (am_Lr hL rfl) ?_
    refine e_aload_n dX10_fault_22 rfl ?_
    refine q_getR (r := 6) dX10_fault_23 lf_N_15 rfl (by decide) (am_Lk hL rfl) (am_Lr hL rfl) ?_
    refine e_iload_n dX10_fault_26 rfl ?_
    refine q_aald (n := 4) (rid := 2 * a1.toNatClampNeg + 52) dX10_fault_27 (am_rows6 hL).1 (fun h => ((am_rows6 hL).2 _ h).1) (fun i2 => ?_)
    refine e_aload_n dX10_fault_28 rfl ?_
    refine q_getR (r := dr) dX10_fault_29 lf_N_76 rfl (by decide) (am_Lk hL rfl) (am_drR hD) ?_
    refine q_callVJ (As := [_, _]) rfl dX10_fault_32 lm_N_135 (am_fitB rfl) yo_X7_read ys_X7_read rfl rfl (by decide) (am_Lk hL rfl) rfl (Nat.le_of_ble_eq_true rfl) (Nat.le_of_ble_eq_true rfl) (s_X7_read hL _ _ ((am_rows6 hL).2 _ i2).2 (am_drP hD) rfl _) (fun q3 => ?_)
    have hL1 : am_Lay (am_wR B 7 0 (2 * a1.toNatClampNeg + 52)) pl := am_LayW hL (Or.inl ⟨rfl, rfl⟩)
    have hD1 : am_LayD (am_wR B 7 0 (2 * a1.toNatClampNeg + 52)) pl dr := ⟨hL1, (am_wR_ro (by omega)).trans hD.2.1, hD.2.2⟩
    exact e_iret dX10_fault_35 rfl rfl
  · refine e_iload_n dX10_fault_14 rfl ?_
    refine e_goto dX10_fault_15 (tgt := 35) (by decide) ?_
    exact e_iret dX10_fault_35 rfl rfl

def f_X10_land (B : am_M) (dr : Nat) (pl : Nat) (a1 : Int32) (u : am_U) : Option (Int32 × am_M) :=
  (f_X10_refuseRow 6 a1 u).bind (fun q1 =>
  if q1.1 = 0 then (
    am_ck (am_ix a1 4) (
    (f_X7_read (2 * a1.toNatClampNeg + 52) dr q1.2).bind (fun q3 =>
    if q3.1 = ((-9) : Int32) then (
      (f_X9_clear q3.2).bind (fun q4 =>
      (f_X1_clear q4).bind (fun q5 =>
      let u6 : am_U := am_w q5 21 4 0
      (f_J7_fill_53178 20 3 ((-1) : Int32) u6).bind (fun q7 =>
      some (q7 dr 2, am_of (am_wR (am_wR (am_wR B 7 0 (2 * a1.toNatClampNeg + 52)) 4 10 dr) 4 11 pl) q7)))))
    else (
      some (((-4) : Int32), am_of (am_wR B 7 0 (2 * a1.toNatClampNeg + 52)) q3.2)))))
  else (
    some (q1.1, am_of B q1.2)))
set_option maxRecDepth 100000 in
set_option maxHeartbeats 4000000 in
theorem s_X10_land {l : Launch} {g : am_G} {B : am_M} {pl : Nat} (hL : am_Lay B pl) {dr : Nat} (hD : am_LayD B pl dr) (a1 : Int32)  (u : am_U) : am_E l g d_X10_land 0 (am_ent d_X10_land [.ref (4), .int (a1)]) [] (am_of B u) (am_r (am_fI) (f_X10_land B dr pl a1 u)) := by
  unfold f_X10_land
  show am_E l g d_X10_land 0 [some (.ref (4)), some (.int (a1)), none, none] [] (am_of B u) _
  refine e_aload_n dX10_land_0 rfl ?_
  refine e_aload_n dX10_land_1 rfl ?_
  refine q_getR (r := 6) dX10_land_2 lf_N_15 rfl (by decide) (am_Lk hL rfl) (am_Lr hL rfl) ?_
  refine e_iload_n dX10_land_5 rfl ?_
  refine q_callVI (As := [_, _]) rfl dX10_land_6 lm_N_105 (am_fitB rfl) yo_X10_refuseRow ys_X10_refuseRow rfl rfl (by decide) (am_Lk hL rfl) rfl (Nat.le_of_ble_eq_true rfl) (Nat.le_of_ble_eq_true rfl) (s_X10_refuseRow hL _ _ (am_rows6 hL) _) (fun q1 => ?_)
  refine e_istore_n dX10_land_9 (by decide) (LS1 := [_, _, _, none]) rfl ?_
  refine e_iload_n dX10_land_10 rfl ?_
  refine e_if_eq dX10_land_11 (tgt := 16) (by decide) ?_ ?_
  · refine e_aload_n dX10_land_16 rfl ?_
    refine q_getR (r := 7) dX10_land_17 lf_N_21 rfl (by decide) (am_Lk hL rfl) (am_Lr hL rfl) ?_
    refine e_aload_n dX10_land_20 rfl ?_
    refine q_getR (r := 6) dX10_land_21 lf_N_15 rfl (by decide) (am_Lk hL rfl) (am_Lr hL rfl) ?_
    refine e_iload_n dX10_land_24 rfl ?_
    refine q_aald (n := 4) (rid := 2 * a1.toNatClampNeg + 52) dX10_land_25 (am_rows6 hL).1 (fun h => ((am_rows6 hL).2 _ h).1) (fun i2 => ?_)
    refine e_aload_n dX10_land_26 rfl ?_
    refine q_getR (r := dr) dX10_land_27 lf_N_76 rfl (by decide) (am_Lk hL rfl) (am_drR hD) ?_
    refine q_callVJ (As := [_, _]) rfl dX10_land_30 lm_N_135 (am_fitB rfl) yo_X7_read ys_X7_read rfl rfl (by decide) (am_Lk hL rfl) rfl (Nat.le_of_ble_eq_true rfl) (Nat.le_of_ble_eq_true rfl) (s_X7_read hL _ _ ((am_rows6 hL).2 _ i2).2 (am_drP hD) rfl _) (fun q3 => ?_)
    have hL1 : am_Lay (am_wR B 7 0 (2 * a1.toNatClampNeg + 52)) pl := am_LayW hL (Or.inl ⟨rfl, rfl⟩)
    have hD1 : am_LayD (am_wR B 7 0 (2 * a1.toNatClampNeg + 52)) pl dr := ⟨hL1, (am_wR_ro (by omega)).trans hD.2.1, hD.2.2⟩
    refine e_bipush dX10_land_33 (v := ((-9) : Int32)) (by decide) ?_
    refine e_if2_eq dX10_land_35 (tgt := 41) (by decide) ?_ ?_
    · refine e_aload_n dX10_land_41 rfl ?_
      refine q_getR (r := pl) dX10_land_42 lf_N_72 rfl (by decide) (am_Lk hL1 rfl) (am_Lpl hL1) ?_
      refine e_astore_n dX10_land_45 (by decide) (LS1 := [_, _, _, _]) rfl ?_
      refine e_aload_n dX10_land_46 rfl ?_
      refine e_aload_n dX10_land_47 rfl ?_
      refine q_getR (r := dr) dX10_land_48 lf_N_76 rfl (by decide) (am_Lk hL1 rfl) (am_drR hD1) ?_
      have hpl0 := hL1.2.2.2.1
      refine q_putR dX10_land_51 lf_N_72 rfl rfl (by decide) (am_Lk hL1 rfl) (am_avp (am_dr2 hD1)) ?_
      have hL2 : am_Lay (am_wR (am_wR B 7 0 (2 * a1.toNatClampNeg + 52)) 4 10 dr) dr := am_LayP hL1 (am_dr2 hD1)
      refine e_aload_n dX10_land_54 rfl ?_
      refine e_aload_n dX10_land_55 rfl ?_
      refine q_putR dX10_land_56 lf_N_76 rfl rfl (by decide) (am_Lk hL2 rfl) (am_avp hpl0) ?_
      have hL3 : am_Lay (am_wR (am_wR (am_wR B 7 0 (2 * a1.toNatClampNeg + 52)) 4 10 dr) 4 11 pl) dr := am_LayW hL2 (Or.inr (Or.inl ⟨rfl, rfl⟩))
      refine e_aload_n dX10_land_59 rfl ?_
      refine q_getR (r := 8) dX10_land_60 lf_N_28 rfl (by decide) (am_Lk hL3 rfl) (am_Lr hL3 rfl) ?_
      refine q_callVV (As := []) rfl dX10_land_63 lm_N_139 (am_fitB rfl) yo_X9_clear ys_X9_clear rfl rfl (by decide) (am_Lk hL3 rfl) rfl (Nat.le_of_ble_eq_true rfl) (Nat.le_of_ble_eq_true rfl) (s_X9_clear hL3   _) (fun q4 => ?_)
      refine e_aload_n dX10_land_66 rfl ?_
      refine q_getR (r := 14) dX10_land_67 lf_N_35 rfl (by decide) (am_Lk hL3 rfl) (am_Lr hL3 rfl) ?_
      refine q_callVV (As := []) rfl dX10_land_70 lm_N_142 (am_fitB rfl) yo_X1_clear ys_X1_clear rfl rfl (by decide) (am_Lk hL3 rfl) rfl (Nat.le_of_ble_eq_true rfl) (Nat.le_of_ble_eq_true rfl) (s_X1_clear hL3   _) (fun q5 => ?_)
      refine e_aload_n dX10_land_73 rfl ?_
      refine q_getR (r := 21) dX10_land_74 lf_N_55 rfl (by decide) (am_Lk hL3 rfl) (am_Lr hL3 rfl) ?_
      refine e_iconst dX10_land_77 (v := 0) (by decide) ?_
      refine q_putI dX10_land_78 lf_N_143 rfl (by decide) (am_Lk hL3 rfl) ?_
      refine e_aload_n dX10_land_81 rfl ?_
      refine q_getR (r := 20) dX10_land_82 lf_N_48 rfl (by decide) (am_Lk hL3 rfl) (am_Lr hL3 rfl) ?_
      refine e_iconst dX10_land_85 (v := ((-1) : Int32)) (by decide) ?_
      refine q_callSV (As := [_, _]) rfl dX10_land_86 lm_N_80 (am_fitB rfl) yo_J7_fill_53178 ys_J7_fill_53178 rfl (Nat.le_of_ble_eq_true rfl) (Nat.le_of_ble_eq_true rfl) (s_J7_fill_53178 hL3 _ _ _ (am_Ls hL3 rfl) _) (fun q7 => ?_)
      refine e_aload_n dX10_land_89 rfl ?_
      refine q_getR (r := dr) dX10_land_90 lf_N_72 rfl (by decide) (am_Lk hL3 rfl) (am_Lpl hL3) ?_
      refine q_getI dX10_land_93 lf_N_144 (by decide) (congrArg Prod.fst (am_pln hL3).1) ?_
      exact e_iret dX10_land_96 rfl rfl
    · refine e_bipush dX10_land_38 (v := ((-4) : Int32)) (by decide) ?_
      exact e_iret dX10_land_40 rfl rfl
  · refine e_iload_n dX10_land_14 rfl ?_
    exact e_iret dX10_land_15 rfl rfl

def f_X10_pouringsFrom_b (pz : Nat) (pl : Nat) (a1 : Int32) (u : am_U) : Option (am_U) :=
  am_jn (fun (j1u : am_U) =>
    am_ck (am_ix a1 6) (
    (f_X6_explore pz pl (j1u 10 a1.toNatClampNeg) j1u).bind (fun q3 =>
    some q3))) (fun j1 =>
  j1 u)
set_option maxRecDepth 100000 in
set_option maxHeartbeats 4000000 in
theorem s_X10_pouringsFrom_b {l : Launch} {g : am_G} {B : am_M} {pl : Nat} (hL : am_Lay B pl) {pz : Nat} (hZ : am_av (am_ro B 4 12) = .ref pz) (hP : am_isPour B pz) (a1 : Int32)  (u : am_U) : am_E l g d_X10_pouringsFrom 0 (am_ent d_X10_pouringsFrom [.ref (4), .int (a1)]) [] (am_of B u) (am_r (am_bQ B pz) (f_X10_pouringsFrom_b pz pl a1 u)) := by
  unfold f_X10_pouringsFrom_b
  show am_E l g d_X10_pouringsFrom 0 [some (.ref (4)), some (.int (a1))] [] (am_of B u) _
  refine e_aload_n dX10_pouringsFrom_0 rfl ?_
  refine q_getR (r := pz) dX10_pouringsFrom_1 lf_N_389 rfl (by decide) (am_Lk hL rfl) hZ ?_
  refine e_jn (P := fun t : am_U → Option (am_U) => ∀ (j1u : am_U), am_E l g d_X10_pouringsFrom 18 [some (.ref (4)), some (.int (a1))] [] (am_of B j1u) (am_r (am_bQ B pz) (t j1u))) ?_ (fun j1 hj1 => ?_)
  · intro j1u
    refine e_aload_n dX10_pouringsFrom_18 rfl ?_
    refine q_getR (r := pz) dX10_pouringsFrom_19 lf_N_389 rfl (by decide) (am_Lk hL rfl) hZ ?_
    refine e_aload_n dX10_pouringsFrom_22 rfl ?_
    refine q_getR (r := pl) dX10_pouringsFrom_23 lf_N_72 rfl (by decide) (am_Lk hL rfl) (am_Lpl hL) ?_
    refine e_aload_n dX10_pouringsFrom_26 rfl ?_
    refine q_getR (r := 8) dX10_pouringsFrom_27 lf_N_28 rfl (by decide) (am_Lk hL rfl) (am_Lr hL rfl) ?_
    refine e_aload_n dX10_pouringsFrom_30 rfl ?_
    refine q_getR (r := 8) dX10_pouringsFrom_31 lf_N_28 rfl (by decide) (am_Lk hL rfl) (am_Lr hL rfl) ?_
    refine q_getR (r := 10) dX10_pouringsFrom_34 lf_N_187 rfl (by decide) (am_Lk hL rfl) (am_Lr hL rfl) ?_
    refine e_iload_n dX10_pouringsFrom_37 rfl ?_
    refine q_ialdH dX10_pouringsFrom_38 (am_Ls hL rfl) (fun i2 => ?_)
    refine q_callVV (As := [_, _, _]) rfl dX10_pouringsFrom_39 lm_N_394 (am_fitB rfl) yo_X6_explore ys_X6_explore rfl rfl (by decide) (congrArg Prod.fst hP.1) rfl (Nat.le_of_ble_eq_true rfl) (Nat.le_of_ble_eq_true rfl) (s_X6_explore hL _ _ _ hP (am_pln hL) _) (fun q3 => ?_)
    refine e_aload_n dX10_pouringsFrom_42 rfl ?_
    refine q_getR (r := pz) dX10_pouringsFrom_43 lf_N_389 rfl (by decide) (am_Lk hL rfl) hZ ?_
    exact e_aret dX10_pouringsFrom_46 rfl rfl
  · refine e_ifnonnull dX10_pouringsFrom_4 (tgt := 18) (by decide) ?_
    refine e_msk [true, true] (LS1 := [_, _]) rfl ?_
    exact hj1 u

def f_X10_pours_b (B : am_M) (pz : Nat) (pl : Nat) (a1 : Int32) (a2 : Int32) (u : am_U) : Option (Int32 × am_M) :=
  (f_X10_refusePouring pl a1 a2 u).bind (fun q1 =>
  if q1 = 0 then (
    (f_X10_pouringsFrom_b pz pl a1 u).bind (fun q2 =>
    (f_X6_firstWith pz a1 a2 q2).bind (fun q3 =>
    if ¬ q3 = ((-9) : Int32) then (
      (f_X6_steps pz q3 q2).bind (fun q4 =>
      if q4 ≤ 60 then (
        (f_X6_spilt pz q3 q2).bind (fun q5 =>
        (f_X10_tell q4 q5 q2).bind (fun q6 =>
        some (q6.1, am_of B q6.2))))
      else (
        some (((-6) : Int32), am_of B q2))))
    else (
      some (((-9) : Int32), am_of B q2)))))
  else (
    some (q1, am_of B u)))
set_option maxRecDepth 100000 in
set_option maxHeartbeats 4000000 in
theorem s_X10_pours_b {l : Launch} {g : am_G} {B : am_M} {pl : Nat} (hL : am_Lay B pl) {pz : Nat} (hZ : am_av (am_ro B 4 12) = .ref pz) (hP : am_isPour B pz) (a1 : Int32) (a2 : Int32)  (u : am_U) : am_E l g d_X10_pours 0 (am_ent d_X10_pours [.ref (4), .int (a1), .int (a2)]) [] (am_of B u) (am_r (am_fI) (f_X10_pours_b B pz pl a1 a2 u)) := by
  unfold f_X10_pours_b
  show am_E l g d_X10_pours 0 [some (.ref (4)), some (.int (a1)), some (.int (a2)), none, none, none, none] [] (am_of B u) _
  refine e_aload_n dX10_pours_0 rfl ?_
  refine e_iload_n dX10_pours_1 rfl ?_
  refine e_iload_n dX10_pours_2 rfl ?_
  refine q_callVP (As := [_, _]) rfl dX10_pours_3 lm_N_268 (am_fitB rfl) yo_X10_refusePouring ys_X10_refusePouring rfl rfl (by decide) (am_Lk hL rfl) rfl (Nat.le_of_ble_eq_true rfl) (Nat.le_of_ble_eq_true rfl) (s_X10_refusePouring hL _ _  _) (fun q1 => ?_)
  refine e_istore_n dX10_pours_6 (by decide) (LS1 := [_, _, _, _, none, none, none]) rfl ?_
  refine e_iload_n dX10_pours_7 rfl ?_
  refine e_if_eq dX10_pours_8 (tgt := 13) (by decide) ?_ ?_
  · refine e_aload_n dX10_pours_13 rfl ?_
    refine e_iload_n dX10_pours_14 rfl ?_
    refine q_callVQ (As := [_]) rfl dX10_pours_15 lm_N_271 (am_fitB rfl) yo_X10_pouringsFrom ys_X10_pouringsFrom rfl rfl (by decide) (am_Lk hL rfl) rfl (Nat.le_of_ble_eq_true rfl) (Nat.le_of_ble_eq_true rfl) (s_X10_pouringsFrom_b hL hZ hP _ _) (fun q2 => ?_)
    refine e_astore dX10_pours_18 (by decide) (LS1 := [_, _, _, _, _, none, none]) rfl ?_
    refine e_aload dX10_pours_20 rfl ?_
    refine e_iload_n dX10_pours_22 rfl ?_
    refine e_iload_n dX10_pours_23 rfl ?_
    refine q_callVP (As := [_, _]) rfl dX10_pours_24 lm_N_275 (am_fitB rfl) yo_X6_firstWith ys_X6_firstWith rfl rfl (by decide) (congrArg Prod.fst hP.1) rfl (Nat.le_of_ble_eq_true rfl) (Nat.le_of_ble_eq_true rfl) (s_X6_firstWith hL _ _ _ hP _) (fun q3 => ?_)
    refine e_istore dX10_pours_27 (by decide) (LS1 := [_, _, _, _, _, _, none]) rfl ?_
    refine e_iload dX10_pours_29 rfl ?_
    refine e_bipush dX10_pours_31 (v := ((-9) : Int32)) (by decide) ?_
    refine e_if2_ne dX10_pours_33 (tgt := 39) (by decide) ?_ ?_
    · refine e_aload dX10_pours_39 rfl ?_
      refine e_iload dX10_pours_41 rfl ?_
      refine q_callVP (As := [_]) rfl dX10_pours_43 lm_N_280 (am_fitB rfl) yo_X6_steps ys_X6_steps rfl rfl (by decide) (congrArg Prod.fst hP.1) rfl (Nat.le_of_ble_eq_true rfl) (Nat.le_of_ble_eq_true rfl) (s_X6_steps hL _ _ hP _) (fun q4 => ?_)
      refine e_istore dX10_pours_46 (by decide) (LS1 := [_, _, _, _, _, _, _]) rfl ?_
      refine e_iload dX10_pours_48 rfl ?_
      refine e_bipush dX10_pours_50 (v := 60) (by decide) ?_
      refine e_if2_le dX10_pours_52 (tgt := 60) (by decide) ?_ ?_
      · refine e_aload_n dX10_pours_60 rfl ?_
        refine e_iload dX10_pours_61 rfl ?_
        refine e_aload dX10_pours_63 rfl ?_
        refine e_iload dX10_pours_65 rfl ?_
        refine q_callVP (As := [_]) rfl dX10_pours_67 lm_N_283 (am_fitB rfl) yo_X6_spilt ys_X6_spilt rfl rfl (by decide) (congrArg Prod.fst hP.1) rfl (Nat.le_of_ble_eq_true rfl) (Nat.le_of_ble_eq_true rfl) (s_X6_spilt hL _ _ hP _) (fun q5 => ?_)
        refine q_callVI (As := [_, _]) rfl dX10_pours_70 lm_N_101 (am_fitB rfl) yo_X10_tell ys_X10_tell rfl rfl (by decide) (am_Lk hL rfl) rfl (Nat.le_of_ble_eq_true rfl) (Nat.le_of_ble_eq_true rfl) (s_X10_tell hL _ _  _) (fun q6 => ?_)
        exact e_iret dX10_pours_73 rfl rfl
      · refine e_bipush dX10_pours_55 (v := ((-6) : Int32)) (by decide) ?_
        refine e_goto dX10_pours_57 (tgt := 73) (by decide) ?_
        exact e_iret dX10_pours_73 rfl rfl
    · refine e_bipush dX10_pours_36 (v := ((-9) : Int32)) (by decide) ?_
      exact e_iret dX10_pours_38 rfl rfl
  · refine e_iload_n dX10_pours_11 rfl ?_
    exact e_iret dX10_pours_12 rfl rfl

def f_X10_way_b (B : am_M) (pz : Nat) (pl : Nat) (a1 : Int32) (a2 : Int32) (a3 : Int32) (u : am_U) : Option (Int32 × am_M) :=
  (f_X10_isWithin a3 0 5).bind (fun q1 =>
  am_jn (fun (j2s0 : Int32) =>
    if j2s0 = 0 then (
      (f_X10_pouringsFrom_b pz pl a1 u).bind (fun q3 =>
      (f_X6_firstWith pz a1 a2 q3).bind (fun q4 =>
      if ¬ q4 = ((-9) : Int32) then (
        (f_X6_steps pz q4 q3).bind (fun q5 =>
        if q5 ≤ 60 then (
          am_ck (am_ix a3 6) (
          (f_X6_writeWay pz q4 q5 (2 * a3.toNatClampNeg + 40) q3).bind (fun q7 =>
          some (q5, am_of B q7))))
        else (
          some (((-6) : Int32), am_of B q3))))
      else (
        some (((-9) : Int32), am_of B q3)))))
    else (
      some (j2s0, am_of B u))) (fun j2 =>
  if q1 = 0 then (
    j2 ((-1) : Int32))
  else (
    (f_X10_refusePouring pl a1 a2 u).bind (fun q8 =>
    j2 q8))))
set_option maxRecDepth 100000 in
set_option maxHeartbeats 4000000 in
theorem s_X10_way_b {l : Launch} {g : am_G} {B : am_M} {pl : Nat} (hL : am_Lay B pl) {pz : Nat} (hZ : am_av (am_ro B 4 12) = .ref pz) (hP : am_isPour B pz) (a1 : Int32) (a2 : Int32) (a3 : Int32)  (u : am_U) : am_E l g d_X10_way 0 (am_ent d_X10_way [.ref (4), .int (a1), .int (a2), .int (a3)]) [] (am_of B u) (am_r (am_fI) (f_X10_way_b B pz pl a1 a2 a3 u)) := by
  unfold f_X10_way_b
  show am_E l g d_X10_way 0 [some (.ref (4)), some (.int (a1)), some (.int (a2)), some (.int (a3)), none, none, none, none] [] (am_of B u) _
  refine e_iload_n dX10_way_0 rfl ?_
  refine e_iconst dX10_way_1 (v := 0) (by decide) ?_
  refine e_iconst dX10_way_2 (v := 5) (by decide) ?_
  refine q_callSP (As := [_, _, _]) rfl dX10_way_3 lm_N_86 (am_fitB rfl) yo_X10_isWithin ys_X10_isWithin rfl (Nat.le_of_ble_eq_true rfl) (Nat.le_of_ble_eq_true rfl) (s_X10_isWithin hL _ _ _  _) (fun q1 => ?_)
  refine e_jn (P := fun t : Int32 → Option (Int32 × am_M) => ∀ (j2s0 : Int32), am_E l g d_X10_way 19 [some (.ref (4)), some (.int (a1)), some (.int (a2)), some (.int (a3)), none, none, none, none] [.int (j2s0)] (am_of B u) (am_r (am_fI) (t j2s0))) ?_ (fun j2 hj2 => ?_)
  · intro j2s0
    refine e_istore dX10_way_19 (by decide) (LS1 := [_, _, _, _, _, none, none, none]) rfl ?_
    refine e_iload dX10_way_21 rfl ?_
    refine e_if_eq dX10_way_23 (tgt := 29) (by decide) ?_ ?_
    · refine e_aload_n dX10_way_29 rfl ?_
      refine e_iload_n dX10_way_30 rfl ?_
      refine q_callVQ (As := [_]) rfl dX10_way_31 lm_N_271 (am_fitB rfl) yo_X10_pouringsFrom ys_X10_pouringsFrom rfl rfl (by decide) (am_Lk hL rfl) rfl (Nat.le_of_ble_eq_true rfl) (Nat.le_of_ble_eq_true rfl) (s_X10_pouringsFrom_b hL hZ hP _ _) (fun q3 => ?_)
      refine e_astore dX10_way_34 (by decide) (LS1 := [_, _, _, _, _, _, none, none]) rfl ?_
      refine e_aload dX10_way_36 rfl ?_
      refine e_iload_n dX10_way_38 rfl ?_
      refine e_iload_n dX10_way_39 rfl ?_
      refine q_callVP (As := [_, _]) rfl dX10_way_40 lm_N_275 (am_fitB rfl) yo_X6_firstWith ys_X6_firstWith rfl rfl (by decide) (congrArg Prod.fst hP.1) rfl (Nat.le_of_ble_eq_true rfl) (Nat.le_of_ble_eq_true rfl) (s_X6_firstWith hL _ _ _ hP _) (fun q4 => ?_)
      refine e_istore dX10_way_43 (by decide) (LS1 := [_, _, _, _, _, _, _, none]) rfl ?_
      refine e_iload dX10_way_45 rfl ?_
      refine e_bipush dX10_way_47 (v := ((-9) : Int32)) (by decide) ?_
      refine e_if2_ne dX10_way_49 (tgt := 55) (by decide) ?_ ?_
      · refine e_aload dX10_way_55 rfl ?_
        refine e_iload dX10_way_57 rfl ?_
        refine q_callVP (As := [_]) rfl dX10_way_59 lm_N_280 (am_fitB rfl) yo_X6_steps ys_X6_steps rfl rfl (by decide) (congrArg Prod.fst hP.1) rfl (Nat.le_of_ble_eq_true rfl) (Nat.le_of_ble_eq_true rfl) (s_X6_steps hL _ _ hP _) (fun q5 => ?_)
        refine e_istore dX10_way_62 (by decide) (LS1 := [_, _, _, _, _, _, _, _]) rfl ?_
        refine e_iload dX10_way_64 rfl ?_
        refine e_bipush dX10_way_66 (v := 60) (by decide) ?_
        refine e_if2_le dX10_way_68 (tgt := 74) (by decide) ?_ ?_
        · refine e_aload dX10_way_74 rfl ?_
          refine e_iload dX10_way_76 rfl ?_
          refine e_iload dX10_way_78 rfl ?_
          refine e_aload_n dX10_way_80 rfl ?_
          refine q_getR (r := 5) dX10_way_81 lf_N_11 rfl (by decide) (am_Lk hL rfl) (am_Lr hL rfl) ?_
          refine e_iload_n dX10_way_84 rfl ?_
          refine q_aald (n := 6) (rid := 2 * a3.toNatClampNeg + 40) dX10_way_85 (am_rows5 hL).1 (fun h => ((am_rows5 hL).2 _ h).1) (fun i6 => ?_)
          refine q_callVV (As := [_, _, _]) rfl dX10_way_86 lm_N_286 (am_fitB rfl) yo_X6_writeWay ys_X6_writeWay rfl rfl (by decide) (congrArg Prod.fst hP.1) rfl (Nat.le_of_ble_eq_true rfl) (Nat.le_of_ble_eq_true rfl) (s_X6_writeWay hL _ _ _ _ hP ((am_rows5 hL).2 _ i6).2 _) (fun q7 => ?_)
          refine e_iload dX10_way_89 rfl ?_
          exact e_iret dX10_way_91 rfl rfl
        · refine e_bipush dX10_way_71 (v := ((-6) : Int32)) (by decide) ?_
          exact e_iret dX10_way_73 rfl rfl
      · refine e_bipush dX10_way_52 (v := ((-9) : Int32)) (by decide) ?_
        exact e_iret dX10_way_54 rfl rfl
    · refine e_iload dX10_way_26 rfl ?_
      exact e_iret dX10_way_28 rfl rfl
  · refine e_if_eq dX10_way_6 (tgt := 18) (by decide) ?_ ?_
    · refine e_iconst dX10_way_18 (v := ((-1) : Int32)) (by decide) ?_
      refine e_msk [true, true, true, true, false, false, false, false] (LS1 := [_, _, _, _, none, none, none, none]) rfl ?_
      exact hj2 ((-1) : Int32)
    · refine e_aload_n dX10_way_9 rfl ?_
      refine e_iload_n dX10_way_10 rfl ?_
      refine e_iload_n dX10_way_11 rfl ?_
      refine q_callVP (As := [_, _]) rfl dX10_way_12 lm_N_268 (am_fitB rfl) yo_X10_refusePouring ys_X10_refusePouring rfl rfl (by decide) (am_Lk hL rfl) rfl (Nat.le_of_ble_eq_true rfl) (Nat.le_of_ble_eq_true rfl) (s_X10_refusePouring hL _ _  _) (fun q8 => ?_)
      refine e_goto dX10_way_15 (tgt := 19) (by decide) ?_
      refine e_msk [true, true, true, true, false, false, false, false] (LS1 := [_, _, _, _, none, none, none, none]) rfl ?_
      exact hj2 q8

def f_X10_loss_b (B : am_M) (pz : Nat) (pl : Nat) (a1 : Int32) (a2 : Int32) (u : am_U) : Option (Int32 × am_M) :=
  (f_X10_refusePouring pl a1 a2 u).bind (fun q1 =>
  if q1 = 0 then (
    (f_X10_pouringsFrom_b pz pl a1 u).bind (fun q2 =>
    (f_X6_leastSpilt pz a1 a2 q2).bind (fun q3 =>
    some (q3, am_of B q2))))
  else (
    some (q1, am_of B u)))
set_option maxRecDepth 100000 in
set_option maxHeartbeats 4000000 in
theorem s_X10_loss_b {l : Launch} {g : am_G} {B : am_M} {pl : Nat} (hL : am_Lay B pl) {pz : Nat} (hZ : am_av (am_ro B 4 12) = .ref pz) (hP : am_isPour B pz) (a1 : Int32) (a2 : Int32)  (u : am_U) : am_E l g d_X10_loss 0 (am_ent d_X10_loss [.ref (4), .int (a1), .int (a2)]) [] (am_of B u) (am_r (am_fI) (f_X10_loss_b B pz pl a1 a2 u)) := by
  unfold f_X10_loss_b
  show am_E l g d_X10_loss 0 [some (.ref (4)), some (.int (a1)), some (.int (a2)), none] [] (am_of B u) _
  refine e_aload_n dX10_loss_0 rfl ?_
  refine e_iload_n dX10_loss_1 rfl ?_
  refine e_iload_n dX10_loss_2 rfl ?_
  refine q_callVP (As := [_, _]) rfl dX10_loss_3 lm_N_268 (am_fitB rfl) yo_X10_refusePouring ys_X10_refusePouring rfl rfl (by decide) (am_Lk hL rfl) rfl (Nat.le_of_ble_eq_true rfl) (Nat.le_of_ble_eq_true rfl) (s_X10_refusePouring hL _ _  _) (fun q1 => ?_)
  refine e_istore_n dX10_loss_6 (by decide) (LS1 := [_, _, _, _]) rfl ?_
  refine e_iload_n dX10_loss_7 rfl ?_
  refine e_if_eq dX10_loss_8 (tgt := 15) (by decide) ?_ ?_
  · refine e_aload_n dX10_loss_15 rfl ?_
    refine e_iload_n dX10_loss_16 rfl ?_
    refine q_callVQ (As := [_]) rfl dX10_loss_17 lm_N_271 (am_fitB rfl) yo_X10_pouringsFrom ys_X10_pouringsFrom rfl rfl (by decide) (am_Lk hL rfl) rfl (Nat.le_of_ble_eq_true rfl) (Nat.le_of_ble_eq_true rfl) (s_X10_pouringsFrom_b hL hZ hP _ _) (fun q2 => ?_)
    refine e_iload_n dX10_loss_20 rfl ?_
    refine e_iload_n dX10_loss_21 rfl ?_
    refine q_callVP (As := [_, _]) rfl dX10_loss_22 lm_N_290 (am_fitB rfl) yo_X6_leastSpilt ys_X6_leastSpilt rfl rfl (by decide) (congrArg Prod.fst hP.1) rfl (Nat.le_of_ble_eq_true rfl) (Nat.le_of_ble_eq_true rfl) (s_X6_leastSpilt hL _ _ _ hP _) (fun q3 => ?_)
    exact e_iret dX10_loss_25 rfl rfl
  · refine e_iload_n dX10_loss_11 rfl ?_
    refine e_goto dX10_loss_12 (tgt := 25) (by decide) ?_
    exact e_iret dX10_loss_25 rfl rfl

def f_X10_most_b (B : am_M) (pz : Nat) (pl : Nat) (a1 : Int32) (u : am_U) : Option (Int32 × am_M) :=
  (f_X10_refusePouring pl a1 0 u).bind (fun q1 =>
  if q1 = 0 then (
    (f_X10_pouringsFrom_b pz pl a1 u).bind (fun q2 =>
    (f_X6_mostIn pz a1 q2).bind (fun q3 =>
    (f_X10_tell q3 (q2 pz 7) q2).bind (fun q4 =>
    some (q4.1, am_of B q4.2)))))
  else (
    some (q1, am_of B u)))
set_option maxRecDepth 100000 in
set_option maxHeartbeats 4000000 in
theorem s_X10_most_b {l : Launch} {g : am_G} {B : am_M} {pl : Nat} (hL : am_Lay B pl) {pz : Nat} (hZ : am_av (am_ro B 4 12) = .ref pz) (hP : am_isPour B pz) (a1 : Int32)  (u : am_U) : am_E l g d_X10_most 0 (am_ent d_X10_most [.ref (4), .int (a1)]) [] (am_of B u) (am_r (am_fI) (f_X10_most_b B pz pl a1 u)) := by
  unfold f_X10_most_b
  show am_E l g d_X10_most 0 [some (.ref (4)), some (.int (a1)), none, none] [] (am_of B u) _
  refine e_aload_n dX10_most_0 rfl ?_
  refine e_iload_n dX10_most_1 rfl ?_
  refine e_iconst dX10_most_2 (v := 0) (by decide) ?_
  refine q_callVP (As := [_, _]) rfl dX10_most_3 lm_N_268 (am_fitB rfl) yo_X10_refusePouring ys_X10_refusePouring rfl rfl (by decide) (am_Lk hL rfl) rfl (Nat.le_of_ble_eq_true rfl) (Nat.le_of_ble_eq_true rfl) (s_X10_refusePouring hL _ _  _) (fun q1 => ?_)
  refine e_istore_n dX10_most_6 (by decide) (LS1 := [_, _, _, none]) rfl ?_
  refine e_iload_n dX10_most_7 rfl ?_
  refine e_if_eq dX10_most_8 (tgt := 13) (by decide) ?_ ?_
  · refine e_aload_n dX10_most_13 rfl ?_
    refine e_iload_n dX10_most_14 rfl ?_
    refine q_callVQ (As := [_]) rfl dX10_most_15 lm_N_271 (am_fitB rfl) yo_X10_pouringsFrom ys_X10_pouringsFrom rfl rfl (by decide) (am_Lk hL rfl) rfl (Nat.le_of_ble_eq_true rfl) (Nat.le_of_ble_eq_true rfl) (s_X10_pouringsFrom_b hL hZ hP _ _) (fun q2 => ?_)
    refine e_astore_n dX10_most_18 (by decide) (LS1 := [_, _, _, _]) rfl ?_
    refine e_aload_n dX10_most_19 rfl ?_
    refine e_aload_n dX10_most_20 rfl ?_
    refine e_iload_n dX10_most_21 rfl ?_
    refine q_callVP (As := [_]) rfl dX10_most_22 lm_N_293 (am_fitB rfl) yo_X6_mostIn ys_X6_mostIn rfl rfl (by decide) (congrArg Prod.fst hP.1) rfl (Nat.le_of_ble_eq_true rfl) (Nat.le_of_ble_eq_true rfl) (s_X6_mostIn hL _ _ hP _) (fun q3 => ?_)
    refine e_aload_n dX10_most_25 rfl ?_
    refine q_getI dX10_most_26 lf_N_296 (by decide) (congrArg Prod.fst hP.1) ?_
    refine q_callVI (As := [_, _]) rfl dX10_most_29 lm_N_101 (am_fitB rfl) yo_X10_tell ys_X10_tell rfl rfl (by decide) (am_Lk hL rfl) rfl (Nat.le_of_ble_eq_true rfl) (Nat.le_of_ble_eq_true rfl) (s_X10_tell hL _ _  _) (fun q4 => ?_)
    exact e_iret dX10_most_32 rfl rfl
  · refine e_iload_n dX10_most_11 rfl ?_
    exact e_iret dX10_most_12 rfl rfl

