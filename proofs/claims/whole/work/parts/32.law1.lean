/-- one round of the script: what is asked at i, M before it, M2 behind it -/
def am_stp (l : Launch) (g : am_G) (i : Nat) (M M2 : am_M) : Prop := match am_ops (am_sc g i &&& 63).toNatClampNeg with
  | some (y, z, n, false) => ∃ x : Int32, am_pair l g y z ((List.range n).map fun k => .int (am_sc g (i + (k + 1)))) M M2 (.int x)
  | some (y, z, n, true) => ∃ x : Int64, am_pair l g y z ((List.range n).map fun k => .int (am_sc g (i + (k + 1)))) M M2 (.long x)
  | none => M2 = M
theorem am_ops_none {n : Nat} (h : 48 ≤ n) : am_ops n = none := by
  unfold am_ops
  split <;> first | omega | rfl
theorem am_and63 (x : Int32) : 0 ≤ (x &&& 63).toInt := by
  have h : (x &&& 63).toInt = (x.toBitVec &&& 63#32).toInt := rfl
  have h2 : (x.toBitVec &&& 63#32).toNat ≤ 63 := by
    rw [BitVec.toNat_and]
    exact Nat.and_le_right
  rw [h, BitVec.toInt_eq_toNat_cond]
  split <;> omega
set_option maxRecDepth 100000 in
set_option maxHeartbeats 4000000 in
theorem law_step {l : Launch} {g : am_G} {i : Nat} {M M2 : am_M} {o : Option (Option Value × am_M)} (hsn : am_sn g ≤ 3072) (hi : i + 6 ≤ am_sn g) (hs : am_stp l g i M M2) (kk : am_E l g d_L_law 1537 (am_LLS i) [] M2 o) : am_E l g d_L_law 33 (am_LLS i) [.int (am_sc g i &&& 63)] M o := by
  by_cases h0 : am_sc g i &&& 63 = 0
  · unfold am_stp at hs
    rw [h0] at hs ⊢
    obtain ⟨x, hp⟩ := hs
    exact e_tabIn dL_law_33 (tgt := 240) (by decide) (by decide) rfl (by decide) (law_0 hsn hi hp kk)
  by_cases h1 : am_sc g i &&& 63 = 1
  · unfold am_stp at hs
    rw [h1] at hs ⊢
    obtain ⟨x, hp⟩ := hs
    exact e_tabIn dL_law_33 (tgt := 273) (by decide) (by decide) rfl (by decide) (law_1 hsn hi hp kk)
  by_cases h2 : am_sc g i &&& 63 = 2
  · unfold am_stp at hs
    rw [h2] at hs ⊢
    obtain ⟨x, hp⟩ := hs
    exact e_tabIn dL_law_33 (tgt := 316) (by decide) (by decide) rfl (by decide) (law_2 hsn hi hp kk)
  by_cases h3 : am_sc g i &&& 63 = 3
  · unfold am_stp at hs
    rw [h3] at hs ⊢
    obtain ⟨x, hp⟩ := hs
    exact e_tabIn dL_law_33 (tgt := 349) (by decide) (by decide) rfl (by decide) (law_3 hsn hi hp kk)
  by_cases h4 : am_sc g i &&& 63 = 4
  · unfold am_stp at hs
    rw [h4] at hs ⊢
    obtain ⟨x, hp⟩ := hs
    exact e_tabIn dL_law_33 (tgt := 372) (by decide) (by decide) rfl (by decide) (law_4 hsn hi hp kk)
  by_cases h5 : am_sc g i &&& 63 = 5
  · unfold am_stp at hs
    rw [h5] at hs ⊢
    obtain ⟨x, hp⟩ := hs
    exact e_tabIn dL_law_33 (tgt := 435) (by decide) (by decide) rfl (by decide) (law_5 hsn hi hp kk)
  by_cases h6 : am_sc g i &&& 63 = 6
  · unfold am_stp at hs
    rw [h6] at hs ⊢
    obtain ⟨x, hp⟩ := hs
    exact e_tabIn dL_law_33 (tgt := 458) (by decide) (by decide) rfl (by decide) (law_6 hsn hi hp kk)
  by_cases h7 : am_sc g i &&& 63 = 7
  · unfold am_stp at hs
    rw [h7] at hs ⊢
    obtain ⟨x, hp⟩ := hs
    exact e_tabIn dL_law_33 (tgt := 491) (by decide) (by decide) rfl (by decide) (law_7 hsn hi hp kk)
  by_cases h8 : am_sc g i &&& 63 = 8
  · unfold am_stp at hs
    rw [h8] at hs ⊢
    obtain ⟨x, hp⟩ := hs
    exact e_tabIn dL_law_33 (tgt := 534) (by decide) (by decide) rfl (by decide) (law_8 hsn hi hp kk)
  by_cases h9 : am_sc g i &&& 63 = 9
  · unfold am_stp at hs
    rw [h9] at hs ⊢
    obtain ⟨x, hp⟩ := hs
    exact e_tabIn dL_law_33 (tgt := 557) (by decide) (by decide) rfl (by decide) (law_9 hsn hi hp kk)
  by_cases h10 : am_sc g i &&& 63 = 10
  · unfold am_stp at hs
    rw [h10] at hs ⊢
    obtain ⟨x, hp⟩ := hs
    exact e_tabIn dL_law_33 (tgt := 580) (by decide) (by decide) rfl (by decide) (law_10 hsn hi hp kk)
  by_cases h11 : am_sc g i &&& 63 = 11
  · unfold am_stp at hs
    rw [h11] at hs ⊢
    obtain ⟨x, hp⟩ := hs
    exact e_tabIn dL_law_33 (tgt := 613) (by decide) (by decide) rfl (by decide) (law_11 hsn hi hp kk)
  by_cases h12 : am_sc g i &&& 63 = 12
  · unfold am_stp at hs
    rw [h12] at hs ⊢
    obtain ⟨x, hp⟩ := hs
    exact e_tabIn dL_law_33 (tgt := 646) (by decide) (by decide) rfl (by decide) (law_12 hsn hi hp kk)
  by_cases h13 : am_sc g i &&& 63 = 13
  · unfold am_stp at hs
    rw [h13] at hs ⊢
    obtain ⟨x, hp⟩ := hs
    exact e_tabIn dL_law_33 (tgt := 679) (by decide) (by decide) rfl (by decide) (law_13 hsn hi hp kk)
  by_cases h14 : am_sc g i &&& 63 = 14
  · unfold am_stp at hs
    rw [h14] at hs ⊢
    obtain ⟨x, hp⟩ := hs
    exact e_tabIn dL_law_33 (tgt := 702) (by decide) (by decide) rfl (by decide) (law_14 hsn hi hp kk)
  by_cases h15 : am_sc g i &&& 63 = 15
  · unfold am_stp at hs
    rw [h15] at hs ⊢
    obtain ⟨x, hp⟩ := hs
    exact e_tabIn dL_law_33 (tgt := 725) (by decide) (by decide) rfl (by decide) (law_15 hsn hi hp kk)
  by_cases h16 : am_sc g i &&& 63 = 16
  · unfold am_stp at hs
    rw [h16] at hs ⊢
    obtain ⟨x, hp⟩ := hs
    exact e_tabIn dL_law_33 (tgt := 758) (by decide) (by decide) rfl (by decide) (law_16 hsn hi hp kk)
  by_cases h17 : am_sc g i &&& 63 = 17
  · unfold am_stp at hs
    rw [h17] at hs ⊢
    obtain ⟨x, hp⟩ := hs
    exact e_tabIn dL_law_33 (tgt := 791) (by decide) (by decide) rfl (by decide) (law_17 hsn hi hp kk)
  by_cases h18 : am_sc g i &&& 63 = 18
  · unfold am_stp at hs
    rw [h18] at hs ⊢
    obtain ⟨x, hp⟩ := hs
    exact e_tabIn dL_law_33 (tgt := 824) (by decide) (by decide) rfl (by decide) (law_18 hsn hi hp kk)
  by_cases h19 : am_sc g i &&& 63 = 19
  · unfold am_stp at hs
    rw [h19] at hs ⊢
    obtain ⟨x, hp⟩ := hs
    exact e_tabIn dL_law_33 (tgt := 857) (by decide) (by decide) rfl (by decide) (law_19 hsn hi hp kk)
  by_cases h20 : am_sc g i &&& 63 = 20
  · unfold am_stp at hs
    rw [h20] at hs ⊢
    obtain ⟨x, hp⟩ := hs
    exact e_tabIn dL_law_33 (tgt := 870) (by decide) (by decide) rfl (by decide) (law_20 hsn hi hp kk)
  by_cases h21 : am_sc g i &&& 63 = 21
  · unfold am_stp at hs
    rw [h21] at hs ⊢
    obtain ⟨x, hp⟩ := hs
    exact e_tabIn dL_law_33 (tgt := 883) (by decide) (by decide) rfl (by decide) (law_21 hsn hi hp kk)
  by_cases h22 : am_sc g i &&& 63 = 22
  · unfold am_stp at hs
    rw [h22] at hs ⊢
    obtain ⟨x, hp⟩ := hs
    exact e_tabIn dL_law_33 (tgt := 906) (by decide) (by decide) rfl (by decide) (law_22 hsn hi hp kk)
  by_cases h23 : am_sc g i &&& 63 = 23
  · unfold am_stp at hs
    rw [h23] at hs ⊢
    obtain ⟨x, hp⟩ := hs
    exact e_tabIn dL_law_33 (tgt := 929) (by decide) (by decide) rfl (by decide) (law_23 hsn hi hp kk)
  by_cases h24 : am_sc g i &&& 63 = 24
  · unfold am_stp at hs
    rw [h24] at hs ⊢
    obtain ⟨x, hp⟩ := hs
    exact e_tabIn dL_law_33 (tgt := 962) (by decide) (by decide) rfl (by decide) (law_24 hsn hi hp kk)
  by_cases h25 : am_sc g i &&& 63 = 25
  · unfold am_stp at hs
    rw [h25] at hs ⊢
    obtain ⟨x, hp⟩ := hs
    exact e_tabIn dL_law_33 (tgt := 985) (by decide) (by decide) rfl (by decide) (law_25 hsn hi hp kk)
  by_cases h26 : am_sc g i &&& 63 = 26
  · unfold am_stp at hs
    rw [h26] at hs ⊢
    obtain ⟨x, hp⟩ := hs
    exact e_tabIn dL_law_33 (tgt := 998) (by decide) (by decide) rfl (by decide) (law_26 hsn hi hp kk)
  by_cases h27 : am_sc g i &&& 63 = 27
  · unfold am_stp at hs
    rw [h27] at hs ⊢
    obtain ⟨x, hp⟩ := hs
    exact e_tabIn dL_law_33 (tgt := 1021) (by decide) (by decide) rfl (by decide) (law_27 hsn hi hp kk)
  by_cases h28 : am_sc g i &&& 63 = 28
  · unfold am_stp at hs
    rw [h28] at hs ⊢
    obtain ⟨x, hp⟩ := hs
    exact e_tabIn dL_law_33 (tgt := 1054) (by decide) (by decide) rfl (by decide) (law_28 hsn hi hp kk)
  by_cases h29 : am_sc g i &&& 63 = 29
  · unfold am_stp at hs
    rw [h29] at hs ⊢
    obtain ⟨x, hp⟩ := hs
    exact e_tabIn dL_law_33 (tgt := 1087) (by decide) (by decide) rfl (by decide) (law_29 hsn hi hp kk)
  by_cases h30 : am_sc g i &&& 63 = 30
  · unfold am_stp at hs
    rw [h30] at hs ⊢
    obtain ⟨x, hp⟩ := hs
    exact e_tabIn dL_law_33 (tgt := 1130) (by decide) (by decide) rfl (by decide) (law_30 hsn hi hp kk)
  by_cases h31 : am_sc g i &&& 63 = 31
  · unfold am_stp at hs
    rw [h31] at hs ⊢
    obtain ⟨x, hp⟩ := hs
    exact e_tabIn dL_law_33 (tgt := 1163) (by decide) (by decide) rfl (by decide) (law_31 hsn hi hp kk)
  by_cases h32 : am_sc g i &&& 63 = 32
  · unfold am_stp at hs
    rw [h32] at hs ⊢
    obtain ⟨x, hp⟩ := hs
    exact e_tabIn dL_law_33 (tgt := 1186) (by decide) (by decide) rfl (by decide) (law_32 hsn hi hp kk)
  by_cases h33 : am_sc g i &&& 63 = 33
  · unfold am_stp at hs
    rw [h33] at hs ⊢
    obtain ⟨x, hp⟩ := hs
    exact e_tabIn dL_law_33 (tgt := 1219) (by decide) (by decide) rfl (by decide) (law_33 hsn hi hp kk)
  by_cases h34 : am_sc g i &&& 63 = 34
  · unfold am_stp at hs
    rw [h34] at hs ⊢
    obtain ⟨x, hp⟩ := hs
    exact e_tabIn dL_law_33 (tgt := 1242) (by decide) (by decide) rfl (by decide) (law_34 hsn hi hp kk)
  by_cases h35 : am_sc g i &&& 63 = 35
  · unfold am_stp at hs
    rw [h35] at hs ⊢
    obtain ⟨x, hp⟩ := hs
    exact e_tabIn dL_law_33 (tgt := 1255) (by decide) (by decide) rfl (by decide) (law_35 hsn hi hp kk)
  by_cases h36 : am_sc g i &&& 63 = 36
  · unfold am_stp at hs
    rw [h36] at hs ⊢
    obtain ⟨x, hp⟩ := hs
    exact e_tabIn dL_law_33 (tgt := 1268) (by decide) (by decide) rfl (by decide) (law_36 hsn hi hp kk)
  by_cases h37 : am_sc g i &&& 63 = 37
  · unfold am_stp at hs
    rw [h37] at hs ⊢
    obtain ⟨x, hp⟩ := hs
    exact e_tabIn dL_law_33 (tgt := 1281) (by decide) (by decide) rfl (by decide) (law_37 hsn hi hp kk)
  by_cases h38 : am_sc g i &&& 63 = 38
  · unfold am_stp at hs
    rw [h38] at hs ⊢
    obtain ⟨x, hp⟩ := hs
    exact e_tabIn dL_law_33 (tgt := 1314) (by decide) (by decide) rfl (by decide) (law_38 hsn hi hp kk)
  by_cases h39 : am_sc g i &&& 63 = 39
  · unfold am_stp at hs
    rw [h39] at hs ⊢
    obtain ⟨x, hp⟩ := hs
    exact e_tabIn dL_law_33 (tgt := 1357) (by decide) (by decide) rfl (by decide) (law_39 hsn hi hp kk)
  by_cases h40 : am_sc g i &&& 63 = 40
  · unfold am_stp at hs
    rw [h40] at hs ⊢
    obtain ⟨x, hp⟩ := hs
    exact e_tabIn dL_law_33 (tgt := 1390) (by decide) (by decide) rfl (by decide) (law_40 hsn hi hp kk)
  by_cases h41 : am_sc g i &&& 63 = 41
  · unfold am_stp at hs
    rw [h41] at hs ⊢
    obtain ⟨x, hp⟩ := hs
    exact e_tabIn dL_law_33 (tgt := 1423) (by decide) (by decide) rfl (by decide) (law_41 hsn hi hp kk)
  by_cases h42 : am_sc g i &&& 63 = 42
  · unfold am_stp at hs
    rw [h42] at hs ⊢
    obtain ⟨x, hp⟩ := hs
    exact e_tabIn dL_law_33 (tgt := 1436) (by decide) (by decide) rfl (by decide) (law_42 hsn hi hp kk)
  by_cases h43 : am_sc g i &&& 63 = 43
  · unfold am_stp at hs
    rw [h43] at hs ⊢
    obtain ⟨x, hp⟩ := hs
    exact e_tabIn dL_law_33 (tgt := 1450) (by decide) (by decide) rfl (by decide) (law_43 hsn hi hp kk)
  by_cases h44 : am_sc g i &&& 63 = 44
  · unfold am_stp at hs
    rw [h44] at hs ⊢
    obtain ⟨x, hp⟩ := hs
    exact e_tabIn dL_law_33 (tgt := 1464) (by decide) (by decide) rfl (by decide) (law_44 hsn hi hp kk)
  by_cases h45 : am_sc g i &&& 63 = 45
  · unfold am_stp at hs
    rw [h45] at hs ⊢
    obtain ⟨x, hp⟩ := hs
    exact e_tabIn dL_law_33 (tgt := 1487) (by decide) (by decide) rfl (by decide) (law_45 hsn hi hp kk)
  by_cases h46 : am_sc g i &&& 63 = 46
  · unfold am_stp at hs
    rw [h46] at hs ⊢
    obtain ⟨x, hp⟩ := hs
    exact e_tabIn dL_law_33 (tgt := 1500) (by decide) (by decide) rfl (by decide) (law_46 hsn hi hp kk)
  by_cases h47 : am_sc g i &&& 63 = 47
  · unfold am_stp at hs
    rw [h47] at hs ⊢
    obtain ⟨x, hp⟩ := hs
    exact e_tabIn dL_law_33 (tgt := 1523) (by decide) (by decide) rfl (by decide) (law_47 hsn hi hp kk)
  have q0 := lv_neT h0 (show (0 : Int32).toInt = 0 by decide)
  have q1 := lv_neT h1 (show (1 : Int32).toInt = 1 by decide)
  have q2 := lv_neT h2 (show (2 : Int32).toInt = 2 by decide)
  have q3 := lv_neT h3 (show (3 : Int32).toInt = 3 by decide)
  have q4 := lv_neT h4 (show (4 : Int32).toInt = 4 by decide)
  have q5 := lv_neT h5 (show (5 : Int32).toInt = 5 by decide)
  have q6 := lv_neT h6 (show (6 : Int32).toInt = 6 by decide)
  have q7 := lv_neT h7 (show (7 : Int32).toInt = 7 by decide)
  have q8 := lv_neT h8 (show (8 : Int32).toInt = 8 by decide)
  have q9 := lv_neT h9 (show (9 : Int32).toInt = 9 by decide)
  have q10 := lv_neT h10 (show (10 : Int32).toInt = 10 by decide)
  have q11 := lv_neT h11 (show (11 : Int32).toInt = 11 by decide)
  have q12 := lv_neT h12 (show (12 : Int32).toInt = 12 by decide)
  have q13 := lv_neT h13 (show (13 : Int32).toInt = 13 by decide)
  have q14 := lv_neT h14 (show (14 : Int32).toInt = 14 by decide)
  have q15 := lv_neT h15 (show (15 : Int32).toInt = 15 by decide)
  have q16 := lv_neT h16 (show (16 : Int32).toInt = 16 by decide)
  have q17 := lv_neT h17 (show (17 : Int32).toInt = 17 by decide)
  have q18 := lv_neT h18 (show (18 : Int32).toInt = 18 by decide)
  have q19 := lv_neT h19 (show (19 : Int32).toInt = 19 by decide)
  have q20 := lv_neT h20 (show (20 : Int32).toInt = 20 by decide)
  have q21 := lv_neT h21 (show (21 : Int32).toInt = 21 by decide)
  have q22 := lv_neT h22 (show (22 : Int32).toInt = 22 by decide)
  have q23 := lv_neT h23 (show (23 : Int32).toInt = 23 by decide)
  have q24 := lv_neT h24 (show (24 : Int32).toInt = 24 by decide)
  have q25 := lv_neT h25 (show (25 : Int32).toInt = 25 by decide)
  have q26 := lv_neT h26 (show (26 : Int32).toInt = 26 by decide)
  have q27 := lv_neT h27 (show (27 : Int32).toInt = 27 by decide)
  have q28 := lv_neT h28 (show (28 : Int32).toInt = 28 by decide)
  have q29 := lv_neT h29 (show (29 : Int32).toInt = 29 by decide)
  have q30 := lv_neT h30 (show (30 : Int32).toInt = 30 by decide)
  have q31 := lv_neT h31 (show (31 : Int32).toInt = 31 by decide)
  have q32 := lv_neT h32 (show (32 : Int32).toInt = 32 by decide)
  have q33 := lv_neT h33 (show (33 : Int32).toInt = 33 by decide)
  have q34 := lv_neT h34 (show (34 : Int32).toInt = 34 by decide)
  have q35 := lv_neT h35 (show (35 : Int32).toInt = 35 by decide)
  have q36 := lv_neT h36 (show (36 : Int32).toInt = 36 by decide)
  have q37 := lv_neT h37 (show (37 : Int32).toInt = 37 by decide)
  have q38 := lv_neT h38 (show (38 : Int32).toInt = 38 by decide)
  have q39 := lv_neT h39 (show (39 : Int32).toInt = 39 by decide)
  have q40 := lv_neT h40 (show (40 : Int32).toInt = 40 by decide)
  have q41 := lv_neT h41 (show (41 : Int32).toInt = 41 by decide)
  have q42 := lv_neT h42 (show (42 : Int32).toInt = 42 by decide)
  have q43 := lv_neT h43 (show (43 : Int32).toInt = 43 by decide)
  have q44 := lv_neT h44 (show (44 : Int32).toInt = 44 by decide)
  have q45 := lv_neT h45 (show (45 : Int32).toInt = 45 by decide)
  have q46 := lv_neT h46 (show (46 : Int32).toInt = 46 by decide)
  have q47 := lv_neT h47 (show (47 : Int32).toInt = 47 by decide)
  have q := am_and63 (am_sc g i)
  have hm : M2 = M := by
    unfold am_stp at hs
    rw [am_ops_none (show 48 ≤ (am_sc g i &&& 63).toNatClampNeg by
      have : (am_sc g i &&& 63).toNatClampNeg = (am_sc g i &&& 63).toInt.toNat := rfl
      omega)] at hs
    exact hs
  subst hm
  exact e_tabOut dL_law_33 (tgt := 1537) (by omega) (by decide) kk
theorem law_end {l : Launch} {g : am_G} {i : Nat} {M : am_M} (hsn : am_sn g ≤ 3072) (hi : i ≤ am_sn g) (h : ¬ i + 6 ≤ am_sn g) : nI (am_sn g) - 6 < nI i := by
  generalize am_sn g = L at *
  rcases Nat.lt_or_ge L 6 with q | q
  · have hp : (0 : Int32) ≤ nI i := nI_pos' (by omega)
    have h0 : nI L - 6 < 0 := by
      rcases (show L = 0 ∨ L = 1 ∨ L = 2 ∨ L = 3 ∨ L = 4 ∨ L = 5 by omega) with rfl | rfl | rfl | rfl | rfl | rfl <;> decide
    exact Int32.lt_of_lt_of_le h0 hp
  · obtain ⟨k, rfl⟩ : ∃ k, L = k + 6 := ⟨L - 6, by omega⟩
    rw [← nI_add k 6, show nI k + nI 6 - 6 = nI k from Int32.add_sub_cancel (a := nI k) (b := 6)]
    exact nI_lt (by omega) (by omega)
theorem law_go {l : Launch} {g : am_G} {i : Nat} {M : am_M} (hsn : am_sn g ≤ 3072) (h : i + 6 ≤ am_sn g) : ¬ nI (am_sn g) - 6 < nI i := by
  generalize am_sn g = L at *
  obtain ⟨k, rfl⟩ : ∃ k, L = k + 6 := ⟨L - 6, by omega⟩
  rw [← nI_add k 6, show nI k + nI 6 - 6 = nI k from Int32.add_sub_cancel (a := nI k) (b := 6)]
  exact nI_nlt (by omega) (by omega)
set_option maxRecDepth 100000 in
theorem law_loop {l : Launch} {g : am_G} (hsn : am_sn g ≤ 3072) {J : Nat → am_M → Prop} (hJ : ∀ i M, J i M → i + 6 ≤ am_sn g → ∃ M2, am_stp l g i M M2 ∧ J (i + 6) M2) : ∀ (n i : Nat) (M : am_M), am_sn g < i + n → i ≤ am_sn g → J i M → ∃ i' M', i' ≤ am_sn g ∧ J i' M' ∧ am_E l g d_L_law 18 (am_LLS i) [] M (some (some (.int 1), M')) := by
  intro n
  induction n with
  | zero => intro i M h1 h2; omega
  | succ n ih =>
    intro i M h1 h2 hj
    by_cases h6 : i + 6 ≤ am_sn g
    · obtain ⟨M2, hs, hj2⟩ := hJ i M hj h6
      obtain ⟨i', M', a1, a2, a3⟩ := ih (i + 6) M2 (by omega) h6 hj2
      refine ⟨i', M', a1, a2, ?_⟩
      refine e_iload_n dL_law_18 rfl ?_
      refine e_aload_n dL_law_19 rfl ?_
      refine k_slen dL_law_20 ?_
      refine e_bipush (v := 6) dL_law_21 (by decide) ?_
      refine e_isub dL_law_23 ?_
      refine k_gtF dL_law_24 (tgt := 1543) (by decide) (law_go (l := l) (M := M) hsn h6) ?_
      refine e_aload_n dL_law_27 rfl ?_
      refine e_iload_n dL_law_28 rfl ?_
      refine k_sld (jn := i) dL_law_29 rfl (by omega) hsn ?_
      refine e_bipush (v := 63) dL_law_30 (by decide) ?_
      refine e_iand dL_law_32 ?_
      refine law_step hsn h6 hs ?_
      refine e_iinc (v := nI (i + 6)) dL_law_1537 rfl (nI_add i 6) (by decide) rfl ?_
      exact e_goto dL_law_1540 (tgt := 18) (by decide) a3
    · refine ⟨i, M, h2, hj, ?_⟩
      refine e_iload_n dL_law_18 rfl ?_
      refine e_aload_n dL_law_19 rfl ?_
      refine k_slen dL_law_20 ?_
      refine e_bipush (v := 6) dL_law_21 (by decide) ?_
      refine e_isub dL_law_23 ?_
      refine k_gtT dL_law_24 (tgt := 1543) (by decide) (law_end (l := l) (M := M) hsn h2 h6) ?_
      refine e_iconst (v := 1) dL_law_1543 (by decide) ?_
      exact am_end rfl ⟨dL_law_1544, _, rfl, rfl⟩
theorem lk_W_7 : Cond.classLink "NoonJarsLaw" 7 "NoonJars" ∈ lw_tbl := List.mem_of_getElem? (i := 88) (by decide +kernel)
theorem lk_W_10 : Cond.classLink "NoonJarsLaw" 10 "NoonJarsModel" ∈ lw_tbl := List.mem_of_getElem? (i := 968) (by decide +kernel)
theorem lb_N : Cond.instantiable "NoonJars" 15 ∈ lw_tbl := List.mem_of_getElem? (i := 89) (by decide +kernel)
theorem lb_M : Cond.instantiable "NoonJarsModel" 47 ∈ lw_tbl := List.mem_of_getElem? (i := 969) (by decide +kernel)
theorem li_N : Cond.initialized "NoonJars" ∈ lw_tbl := List.mem_of_getElem? (i := 72) (by decide +kernel)
theorem li_M : Cond.initialized "NoonJarsModel" ∈ lw_tbl := List.mem_of_getElem? (i := 83) (by decide +kernel)
def am_first (M : am_M) : am_M := c_X11_init (am_mk (c_X10_init (am_mk M 9 15)) 10 47)
set_option maxRecDepth 100000 in
theorem nx_X10_init {M : am_M} (hN : am_nx M = 5) : am_nx (c_X10_init M) = 60 := by
  show am_nx M + 55 = 60
  rw [hN]
set_option maxRecDepth 100000 in
theorem law_all {l : Launch} {g : am_G} {M : am_M} (hN : am_nx M = 4) (hsn : am_sn g ≤ 3072) {J : Nat → am_M → Prop} (hJ : ∀ i M, J i M → i + 6 ≤ am_sn g → ∃ M2, am_stp l g i M M2 ∧ J (i + 6) M2) (h0 : J 0 (am_first M)) : ∃ i' M', i' ≤ am_sn g ∧ J i' M' ∧ am_E l g d_L_law 0 [some (.ref 1), none, none, none] [] M (some (some (.int 1), M')) := by
  obtain ⟨i', M', a1, a2, a3⟩ := law_loop hsn hJ (am_sn g + 1) 0 (am_first M) (by omega) (by omega) h0
  refine ⟨i', M', a1, a2, ?_⟩
  have n1 := nx_mk (k := 9) (n := 15) hN
  have f1 := okp_nw (k := 9) (n := 15) hN
  have n2 := nx_X10_init n1
  have n3 := nx_mk (k := 10) (n := 47) n2
  have f3 := okp_nw (k := 10) (n := 47) n2
  refine k_new (a := 4) (k := 9) hN dL_law_0 rfl (by decide) lk_W_7 lb_N li_N (by decide) ?_
  refine e_dup dL_law_3 rfl ?_
  refine k_callI0 (As := []) rfl dL_law_4 lm_W_9 (am_fitB rfl) yo_X10_init rfl rfl ys_X10_init rfl (Nat.le_of_ble_eq_true rfl) (Nat.le_of_ble_eq_true rfl) (s_X10_init f1 n1) ?_
  refine e_astore_n dL_law_7 (by decide) rfl ?_
  refine k_new (a := 60) (k := 10) n2 dL_law_8 rfl (by decide) lk_W_10 lb_M li_M (by decide) ?_
  refine e_dup dL_law_11 rfl ?_
  refine k_callI0 (As := []) rfl dL_law_12 lm_W_12 (am_fitB rfl) yo_X11_init rfl rfl ys_X11_init rfl (Nat.le_of_ble_eq_true rfl) (Nat.le_of_ble_eq_true rfl) (s_X11_init f3 n3) ?_
  refine e_astore_n dL_law_15 (by decide) rfl ?_
  refine e_iconst (v := 0) dL_law_16 (by decide) ?_
  refine e_istore_n dL_law_17 (by decide) rfl ?_
  exact a3
