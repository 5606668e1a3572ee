/-! the law's own walk -/
abbrev am_sc (g : am_G) (i : Nat) : Int32 := g.2.2.2.2.2 i
abbrev am_sn (g : am_G) : Nat := g.2.2.2.2.1
section AL
variable {l : Launch} {g : am_G} {d : am_Y} {pc : Nat} {LS : am_L} {st : List Value} {M : am_M} {o : Option (Option Value × am_M)}
theorem k_sld {j : Int32} {jn : Nat} (hdg : decode d.2.1 pc = .ok (.iaload, 1)) (hj : j = nI jn) (hlt : jn < am_sn g) (hsn : am_sn g ≤ 3072) (kk : am_E l g d (pc + 1) LS (.int (am_sc g jn) :: st) M o) : am_E l g d pc LS (.int j :: .ref 1 :: st) M o := by
  subst hj
  have hc : (nI jn).toNatClampNeg = jn := nI_clamp (by omega)
  refine am_goS (fun p e R s m args below meth c hX H locs cells slots ls Q hll hR hS kk => ?_) kk
  have h1 : am_sh M 1 = (16, am_sn g) := hR.2.2.2.2.1.2.1
  refine am_wiald hX hR hS (Or.inr (by rw [h1])) (by rw [h1]; exact am_ix_in (am_ix_nI hlt (by omega))) hdg ?_
  rw [hc, hR.2.2.2.2.2.1 _ hlt]
  exact kk ls hll
theorem k_slen (hdg : decode d.2.1 pc = .ok (.arraylength, 1)) (kk : am_E l g d (pc + 1) LS (.int (nI (am_sn g)) :: st) M o) : am_E l g d pc LS (.ref 1 :: st) M o := by
  refine am_goS (fun p e R s m args below meth c hX H locs cells slots ls Q hll hR hS kk => ?_) kk
  have h1 : am_sh M 1 = (16, am_sn g) := hR.2.2.2.2.1.2.1
  refine am_walen hX hR hS (by rw [h1]; exact ⟨show 11 ≤ 16 by omega, show 16 < 17 by omega⟩) hdg ?_
  rw [h1]
  exact kk ls hll
theorem k_callV0 {y : am_Y} {idx n b k0 : Nat} {r : vw_C} {As S : List Value} {M1 : am_M} {v : Option Value} (hS : S = As.reverse ++ .ref b :: st) (hdg : decode d.2.1 pc = .ok (.invokevirtual idx, 3)) (hlk : am_Ml d.1.cls idx y) (hf : am_fit y d) (hy : am_Yok y n) (hst : am_VM y) (hcl : am_cl[k0]? = some r) (hrc : r.1 = y.1.cls) (hk0 : k0 < 11) (hsb : (am_sh M b).1 = k0) (hn : As.length = n) (hml : (am_ents (.ref b :: As)).length ≤ y.2.2.1) (hcat : (st.map fun v => v.category).sum ≤ 8)
    (hE : am_E l g y 0 (am_ent y (.ref b :: As)) [] M (some (v, M1))) (k : am_E l g d (pc + 3) LS (v.toList ++ st) M1 o) : am_E l g d pc LS S M o := by
  subst hS
  refine am_goC (hE _ _ rfl).1 (fun p e R s m args below meth c hX H locs cells slots ls Q hll hR hS h1 h2 h3 h4 kk => ?_) k
  rw [am_vst] at kk
  rw [List.map_append, List.map_reverse]
  exact am_wcallV hX hll hR hS hf h1 h2 hy hst hcl hrc hk0 hsb hlk hn hml (by rw [am_catm]; exact hcat) hdg hE rfl ⟨h3, h4⟩ kk
theorem k_eq {x : Int32} {off : Int} {tgt : Nat} (hdg : decode d.2.1 pc = .ok (.if_icmp .eq off, 3)) (ht : (pc : Int) + off = (tgt : Int)) (k : am_E l g d tgt LS st M o) : am_E l g d pc LS (.int x :: .int x :: st) M o :=
  am_goS (fun p e R s m args below meth c hX H locs cells slots ls Q hl hR hS kk => lv_icmp_eq hX.1 hX.2.1 hdg ht (fun _ => kk ls hl) (fun q => absurd rfl q)) k
theorem k_gtT {x y : Int32} {off : Int} {tgt : Nat} (hdg : decode d.2.1 pc = .ok (.if_icmp .gt off, 3)) (ht : (pc : Int) + off = (tgt : Int)) (h : y < x) (k : am_E l g d tgt LS st M o) : am_E l g d pc LS (.int y :: .int x :: st) M o :=
  am_goS (fun p e R s m args below meth c hX H locs cells slots ls Q hl hR hS kk => lv_icmp_gt hX.1 hX.2.1 hdg ht (fun _ => kk ls hl) (fun q => absurd h q)) k
theorem k_gtF {x y : Int32} {off : Int} {tgt : Nat} (hdg : decode d.2.1 pc = .ok (.if_icmp .gt off, 3)) (ht : (pc : Int) + off = (tgt : Int)) (h : ¬ y < x) (k : am_E l g d (pc + 3) LS st M o) : am_E l g d pc LS (.int y :: .int x :: st) M o :=
  am_goS (fun p e R s m args below meth c hX H locs cells slots ls Q hl hR hS kk => lv_icmp_gt hX.1 hX.2.1 hdg ht (fun q => absurd q h) (fun _ => kk ls hl)) k
end AL
theorem lg_cmp_rfl (x : Int64) : lg_cmp x x = 0 := by
  unfold lg_cmp
  simp
section AL2
variable {l : Launch} {g : am_G} {d : am_Y} {pc : Nat} {LS : am_L} {st : List Value} {M : am_M} {o : Option (Option Value × am_M)}
theorem k_leq {x : Int64} {off : Int} {tgt : Nat} (hdg : decode d.2.1 pc = .ok (.lcmp, 1)) (hdg2 : decode d.2.1 (pc + 1) = .ok (.ifCond .eq off, 3)) (ht : ((pc + 1 : Nat) : Int) + off = (tgt : Int)) (k : am_E l g d tgt LS st M o) : am_E l g d pc LS (.long x :: .long x :: st) M o := by
  refine e_lcmp hdg ?_
  rw [lg_cmp_rfl]
  intro v M' ho
  subst ho
  have h := e_if_eq (x := 0) (φ := fun q : Option Value × am_M => q) (fT := some (v, M')) (fF := none) hdg2 ht k am_none
  rw [if_pos rfl] at h
  exact h v M' rfl
end AL2
/-- the class and the reference, asked alike, answer alike -/
def am_pair (l : Launch) (g : am_G) (y z : am_Y) (A : List Value) (M M2 : am_M) (v : Value) : Prop := (am_sh M 4).1 = 9 ∧ ∃ M1, am_E l g y 0 (am_ent y (.ref 4 :: A)) [] M (some (some v, M1)) ∧ (am_sh M1 60).1 = 10 ∧ am_E l g z 0 (am_ent z (.ref 60 :: A)) [] M1 (some (some v, M2))
abbrev am_LLS (i : Nat) : am_L := [some (.ref 1), some (.ref 4), some (.ref 60), some (.int (nI i))]
set_option maxRecDepth 100000 in
theorem law_0 {l : Launch} {g : am_G} {i : Nat} {M M2 : am_M} {o : Option (Option Value × am_M)} {x : Int32} (hsn : am_sn g ≤ 3072) (hi : i + 6 ≤ am_sn g) (hp : am_pair l g d_X10_row d_X11_row [.int (am_sc g (i + 1)), .int (am_sc g (i + 2))] M M2 (.int x)) (kk : am_E l g d_L_law 1537 (am_LLS i) [] M2 o) : am_E l g d_L_law 240 (am_LLS i) [] M o := by
  obtain ⟨h9, M1, e1, h10, e2⟩ := hp
  refine e_aload_n dL_law_240 rfl ?_
  refine e_aload_n dL_law_241 rfl ?_
  refine e_iload_n dL_law_242 rfl ?_
  refine e_iconst (v := 1) dL_law_243 (by decide) ?_
  refine e_iadd dL_law_244 ?_
  refine k_sld (jn := i + 1) dL_law_245 (nI_add i 1) (by omega) hsn ?_
  refine e_aload_n dL_law_246 rfl ?_
  refine e_iload_n dL_law_247 rfl ?_
  refine e_iconst (v := 2) dL_law_248 (by decide) ?_
  refine e_iadd dL_law_249 ?_
  refine k_sld (jn := i + 2) dL_law_250 (nI_add i 2) (by omega) hsn ?_
  refine k_callV0 (k0 := 9) (As := [_, _]) rfl dL_law_251 lm_W_13 (am_fitB rfl) yo_X10_row ys_X10_row rfl rfl (by decide) h9 rfl (Nat.le_of_ble_eq_true rfl) (Nat.le_of_ble_eq_true rfl) e1 ?_
  refine e_aload_n dL_law_254 rfl ?_
  refine e_aload_n dL_law_255 rfl ?_
  refine e_iload_n dL_law_256 rfl ?_
  refine e_iconst (v := 1) dL_law_257 (by decide) ?_
  refine e_iadd dL_law_258 ?_
  refine k_sld (jn := i + 1) dL_law_259 (nI_add i 1) (by omega) hsn ?_
  refine e_aload_n dL_law_260 rfl ?_
  refine e_iload_n dL_law_261 rfl ?_
  refine e_iconst (v := 2) dL_law_262 (by decide) ?_
  refine e_iadd dL_law_263 ?_
  refine k_sld (jn := i + 2) dL_law_264 (nI_add i 2) (by omega) hsn ?_
  refine k_callV0 (k0 := 10) (As := [_, _]) rfl dL_law_265 lm_W_17 (am_fitB rfl) yo_X11_row ys_X11_row rfl rfl (by decide) h10 rfl (Nat.le_of_ble_eq_true rfl) (Nat.le_of_ble_eq_true rfl) e2 ?_
  exact k_eq (tgt := 1537) dL_law_268 (by decide) kk
set_option maxRecDepth 100000 in
theorem law_1 {l : Launch} {g : am_G} {i : Nat} {M M2 : am_M} {o : Option (Option Value × am_M)} {x : Int32} (hsn : am_sn g ≤ 3072) (hi : i + 6 ≤ am_sn g) (hp : am_pair l g d_X10_lay d_X11_lay [.int (am_sc g (i + 1)), .int (am_sc g (i + 2)), .int (am_sc g (i + 3))] M M2 (.int x)) (kk : am_E l g d_L_law 1537 (am_LLS i) [] M2 o) : am_E l g d_L_law 273 (am_LLS i) [] M o := by
  obtain ⟨h9, M1, e1, h10, e2⟩ := hp
  refine e_aload_n dL_law_273 rfl ?_
  refine e_aload_n dL_law_274 rfl ?_
  refine e_iload_n dL_law_275 rfl ?_
  refine e_iconst (v := 1) dL_law_276 (by decide) ?_
  refine e_iadd dL_law_277 ?_
  refine k_sld (jn := i + 1) dL_law_278 (nI_add i 1) (by omega) hsn ?_
  refine e_aload_n dL_law_279 rfl ?_
  refine e_iload_n dL_law_280 rfl ?_
  refine e_iconst (v := 2) dL_law_281 (by decide) ?_
  refine e_iadd dL_law_282 ?_
  refine k_sld (jn := i + 2) dL_law_283 (nI_add i 2) (by omega) hsn ?_
  refine e_aload_n dL_law_284 rfl ?_
  refine e_iload_n dL_law_285 rfl ?_
  refine e_iconst (v := 3) dL_law_286 (by decide) ?_
  refine e_iadd dL_law_287 ?_
  refine k_sld (jn := i + 3) dL_law_288 (nI_add i 3) (by omega) hsn ?_
  refine k_callV0 (k0 := 9) (As := [_, _, _]) rfl dL_law_289 lm_W_18 (am_fitB rfl) yo_X10_lay ys_X10_lay rfl rfl (by decide) h9 rfl (Nat.le_of_ble_eq_true rfl) (Nat.le_of_ble_eq_true rfl) e1 ?_
  refine e_aload_n dL_law_292 rfl ?_
  refine e_aload_n dL_law_293 rfl ?_
  refine e_iload_n dL_law_294 rfl ?_
  refine e_iconst (v := 1) dL_law_295 (by decide) ?_
  refine e_iadd dL_law_296 ?_
  refine k_sld (jn := i + 1) dL_law_297 (nI_add i 1) (by omega) hsn ?_
  refine e_aload_n dL_law_298 rfl ?_
  refine e_iload_n dL_law_299 rfl ?_
  refine e_iconst (v := 2) dL_law_300 (by decide) ?_
  refine e_iadd dL_law_301 ?_
  refine k_sld (jn := i + 2) dL_law_302 (nI_add i 2) (by omega) hsn ?_
  refine e_aload_n dL_law_303 rfl ?_
  refine e_iload_n dL_law_304 rfl ?_
  refine e_iconst (v := 3) dL_law_305 (by decide) ?_
  refine e_iadd dL_law_306 ?_
  refine k_sld (jn := i + 3) dL_law_307 (nI_add i 3) (by omega) hsn ?_
  refine k_callV0 (k0 := 10) (As := [_, _, _]) rfl dL_law_308 lm_W_22 (am_fitB rfl) yo_X11_lay ys_X11_lay rfl rfl (by decide) h10 rfl (Nat.le_of_ble_eq_true rfl) (Nat.le_of_ble_eq_true rfl) e2 ?_
  exact k_eq (tgt := 1537) dL_law_311 (by decide) kk
set_option maxRecDepth 100000 in
theorem law_2 {l : Launch} {g : am_G} {i : Nat} {M M2 : am_M} {o : Option (Option Value × am_M)} {x : Int32} (hsn : am_sn g ≤ 3072) (hi : i + 6 ≤ am_sn g) (hp : am_pair l g d_X10_at d_X11_at [.int (am_sc g (i + 1)), .int (am_sc g (i + 2))] M M2 (.int x)) (kk : am_E l g d_L_law 1537 (am_LLS i) [] M2 o) : am_E l g d_L_law 316 (am_LLS i) [] M o := by
  obtain ⟨h9, M1, e1, h10, e2⟩ := hp
  refine e_aload_n dL_law_316 rfl ?_
  refine e_aload_n dL_law_317 rfl ?_
  refine e_iload_n dL_law_318 rfl ?_
  refine e_iconst (v := 1) dL_law_319 (by decide) ?_
  refine e_iadd dL_law_320 ?_
  refine k_sld (jn := i + 1) dL_law_321 (nI_add i 1) (by omega) hsn ?_
  refine e_aload_n dL_law_322 rfl ?_
  refine e_iload_n dL_law_323 rfl ?_
  refine e_iconst (v := 2) dL_law_324 (by decide) ?_
  refine e_iadd dL_law_325 ?_
  refine k_sld (jn := i + 2) dL_law_326 (nI_add i 2) (by omega) hsn ?_
  refine k_callV0 (k0 := 9) (As := [_, _]) rfl dL_law_327 lm_W_23 (am_fitB rfl) yo_X10_at ys_X10_at rfl rfl (by decide) h9 rfl (Nat.le_of_ble_eq_true rfl) (Nat.le_of_ble_eq_true rfl) e1 ?_
  refine e_aload_n dL_law_330 rfl ?_
  refine e_aload_n dL_law_331 rfl ?_
  refine e_iload_n dL_law_332 rfl ?_
  refine e_iconst (v := 1) dL_law_333 (by decide) ?_
  refine e_iadd dL_law_334 ?_
  refine k_sld (jn := i + 1) dL_law_335 (nI_add i 1) (by omega) hsn ?_
  refine e_aload_n dL_law_336 rfl ?_
  refine e_iload_n dL_law_337 rfl ?_
  refine e_iconst (v := 2) dL_law_338 (by decide) ?_
  refine e_iadd dL_law_339 ?_
  refine k_sld (jn := i + 2) dL_law_340 (nI_add i 2) (by omega) hsn ?_
  refine k_callV0 (k0 := 10) (As := [_, _]) rfl dL_law_341 lm_W_26 (am_fitB rfl) yo_X11_at ys_X11_at rfl rfl (by decide) h10 rfl (Nat.le_of_ble_eq_true rfl) (Nat.le_of_ble_eq_true rfl) e2 ?_
  exact k_eq (tgt := 1537) dL_law_344 (by decide) kk
set_option maxRecDepth 100000 in
theorem law_3 {l : Launch} {g : am_G} {i : Nat} {M M2 : am_M} {o : Option (Option Value × am_M)} {x : Int32} (hsn : am_sn g ≤ 3072) (hi : i + 6 ≤ am_sn g) (hp : am_pair l g d_X10_tear d_X11_tear [.int (am_sc g (i + 1))] M M2 (.int x)) (kk : am_E l g d_L_law 1537 (am_LLS i) [] M2 o) : am_E l g d_L_law 349 (am_LLS i) [] M o := by
  obtain ⟨h9, M1, e1, h10, e2⟩ := hp
  refine e_aload_n dL_law_349 rfl ?_
  refine e_aload_n dL_law_350 rfl ?_
  refine e_iload_n dL_law_351 rfl ?_
  refine e_iconst (v := 1) dL_law_352 (by decide) ?_
  refine e_iadd dL_law_353 ?_
  refine k_sld (jn := i + 1) dL_law_354 (nI_add i 1) (by omega) hsn ?_
  refine k_callV0 (k0 := 9) (As := [_]) rfl dL_law_355 lm_W_27 (am_fitB rfl) yo_X10_tear ys_X10_tear rfl rfl (by decide) h9 rfl (Nat.le_of_ble_eq_true rfl) (Nat.le_of_ble_eq_true rfl) e1 ?_
  refine e_aload_n dL_law_358 rfl ?_
  refine e_aload_n dL_law_359 rfl ?_
  refine e_iload_n dL_law_360 rfl ?_
  refine e_iconst (v := 1) dL_law_361 (by decide) ?_
  refine e_iadd dL_law_362 ?_
  refine k_sld (jn := i + 1) dL_law_363 (nI_add i 1) (by omega) hsn ?_
  refine k_callV0 (k0 := 10) (As := [_]) rfl dL_law_364 lm_W_31 (am_fitB rfl) yo_X11_tear ys_X11_tear rfl rfl (by decide) h10 rfl (Nat.le_of_ble_eq_true rfl) (Nat.le_of_ble_eq_true rfl) e2 ?_
  exact k_eq (tgt := 1537) dL_law_367 (by decide) kk
set_option maxRecDepth 100000 in
theorem law_4 {l : Launch} {g : am_G} {i : Nat} {M M2 : am_M} {o : Option (Option Value × am_M)} {x : Int32} (hsn : am_sn g ≤ 3072) (hi : i + 6 ≤ am_sn g) (hp : am_pair l g d_X10_copy d_X11_copy [.int (am_sc g (i + 1)), .int (am_sc g (i + 2)), .int (am_sc g (i + 3)), .int (am_sc g (i + 4)), .int (am_sc g (i + 5))] M M2 (.int x)) (kk : am_E l g d_L_law 1537 (am_LLS i) [] M2 o) : am_E l g d_L_law 372 (am_LLS i) [] M o := by
  obtain ⟨h9, M1, e1, h10, e2⟩ := hp
  refine e_aload_n dL_law_372 rfl ?_
  refine e_aload_n dL_law_373 rfl ?_
  refine e_iload_n dL_law_374 rfl ?_
  refine e_iconst (v := 1) dL_law_375 (by decide) ?_
  refine e_iadd dL_law_376 ?_
  refine k_sld (jn := i + 1) dL_law_377 (nI_add i 1) (by omega) hsn ?_
  refine e_aload_n dL_law_378 rfl ?_
  refine e_iload_n dL_law_379 rfl ?_
  refine e_iconst (v := 2) dL_law_380 (by decide) ?_
  refine e_iadd dL_law_381 ?_
  refine k_sld (jn := i + 2) dL_law_382 (nI_add i 2) (by omega) hsn ?_
  refine e_aload_n dL_law_383 rfl ?_
  refine e_iload_n dL_law_384 rfl ?_
  refine e_iconst (v := 3) dL_law_385 (by decide) ?_
  refine e_iadd dL_law_386 ?_
  refine k_sld (jn := i + 3) dL_law_387 (nI_add i 3) (by omega) hsn ?_
  refine e_aload_n dL_law_388 rfl ?_
  refine e_iload_n dL_law_389 rfl ?_
  refine e_iconst (v := 4) dL_law_390 (by decide) ?_
  refine e_iadd dL_law_391 ?_
  refine k_sld (jn := i + 4) dL_law_392 (nI_add i 4) (by omega) hsn ?_
  refine e_aload_n dL_law_393 rfl ?_
  refine e_iload_n dL_law_394 rfl ?_
  refine e_iconst (v := 5) dL_law_395 (by decide) ?_
  refine e_iadd dL_law_396 ?_
  refine k_sld (jn := i + 5) dL_law_397 (nI_add i 5) (by omega) hsn ?_
  refine k_callV0 (k0 := 9) (As := [_, _, _, _, _]) rfl dL_law_398 lm_W_32 (am_fitB rfl) yo_X10_copy ys_X10_copy rfl rfl (by decide) h9 rfl (Nat.le_of_ble_eq_true rfl) (Nat.le_of_ble_eq_true rfl) e1 ?_
  refine e_aload_n dL_law_401 rfl ?_
  refine e_aload_n dL_law_402 rfl ?_
  refine e_iload_n dL_law_403 rfl ?_
  refine e_iconst (v := 1) dL_law_404 (by decide) ?_
  refine e_iadd dL_law_405 ?_
  refine k_sld (jn := i + 1) dL_law_406 (nI_add i 1) (by omega) hsn ?_
  refine e_aload_n dL_law_407 rfl ?_
  refine e_iload_n dL_law_408 rfl ?_
  refine e_iconst (v := 2) dL_law_409 (by decide) ?_
  refine e_iadd dL_law_410 ?_
  refine k_sld (jn := i + 2) dL_law_411 (nI_add i 2) (by omega) hsn ?_
  refine e_aload_n dL_law_412 rfl ?_
  refine e_iload_n dL_law_413 rfl ?_
  refine e_iconst (v := 3) dL_law_414 (by decide) ?_
  refine e_iadd dL_law_415 ?_
  refine k_sld (jn := i + 3) dL_law_416 (nI_add i 3) (by omega) hsn ?_
  refine e_aload_n dL_law_417 rfl ?_
  refine e_iload_n dL_law_418 rfl ?_
  refine e_iconst (v := 4) dL_law_419 (by decide) ?_
  refine e_iadd dL_law_420 ?_
  refine k_sld (jn := i + 4) dL_law_421 (nI_add i 4) (by omega) hsn ?_
  refine e_aload_n dL_law_422 rfl ?_
  refine e_iload_n dL_law_423 rfl ?_
  refine e_iconst (v := 5) dL_law_424 (by decide) ?_
  refine e_iadd dL_law_425 ?_
  refine k_sld (jn := i + 5) dL_law_426 (nI_add i 5) (by omega) hsn ?_
  refine k_callV0 (k0 := 10) (As := [_, _, _, _, _]) rfl dL_law_427 lm_W_36 (am_fitB rfl) yo_X11_copy ys_X11_copy rfl rfl (by decide) h10 rfl (Nat.le_of_ble_eq_true rfl) (Nat.le_of_ble_eq_true rfl) e2 ?_
  exact k_eq (tgt := 1537) dL_law_430 (by decide) kk
set_option maxRecDepth 100000 in
theorem law_5 {l : Launch} {g : am_G} {i : Nat} {M M2 : am_M} {o : Option (Option Value × am_M)} {x : Int32} (hsn : am_sn g ≤ 3072) (hi : i + 6 ≤ am_sn g) (hp : am_pair l g d_X10_mean d_X11_mean [.int (am_sc g (i + 1))] M M2 (.int x)) (kk : am_E l g d_L_law 1537 (am_LLS i) [] M2 o) : am_E l g d_L_law 435 (am_LLS i) [] M o := by
  obtain ⟨h9, M1, e1, h10, e2⟩ := hp
  refine e_aload_n dL_law_435 rfl ?_
  refine e_aload_n dL_law_436 rfl ?_
  refine e_iload_n dL_law_437 rfl ?_
  refine e_iconst (v := 1) dL_law_438 (by decide) ?_
  refine e_iadd dL_law_439 ?_
  refine k_sld (jn := i + 1) dL_law_440 (nI_add i 1) (by omega) hsn ?_
  refine k_callV0 (k0 := 9) (As := [_]) rfl dL_law_441 lm_W_37 (am_fitB rfl) yo_X10_mean ys_X10_mean rfl rfl (by decide) h9 rfl (Nat.le_of_ble_eq_true rfl) (Nat.le_of_ble_eq_true rfl) e1 ?_
  refine e_aload_n dL_law_444 rfl ?_
  refine e_aload_n dL_law_445 rfl ?_
  refine e_iload_n dL_law_446 rfl ?_
  refine e_iconst (v := 1) dL_law_447 (by decide) ?_
  refine e_iadd dL_law_448 ?_
  refine k_sld (jn := i + 1) dL_law_449 (nI_add i 1) (by omega) hsn ?_
  refine k_callV0 (k0 := 10) (As := [_]) rfl dL_law_450 lm_W_40 (am_fitB rfl) yo_X11_mean ys_X11_mean rfl rfl (by decide) h10 rfl (Nat.le_of_ble_eq_true rfl) (Nat.le_of_ble_eq_true rfl) e2 ?_
  exact k_eq (tgt := 1537) dL_law_453 (by decide) kk
set_option maxRecDepth 100000 in
theorem law_6 {l : Launch} {g : am_G} {i : Nat} {M M2 : am_M} {o : Option (Option Value × am_M)} {x : Int32} (hsn : am_sn g ≤ 3072) (hi : i + 6 ≤ am_sn g) (hp : am_pair l g d_X10_text d_X11_text [.int (am_sc g (i + 1)), .int (am_sc g (i + 2))] M M2 (.int x)) (kk : am_E l g d_L_law 1537 (am_LLS i) [] M2 o) : am_E l g d_L_law 458 (am_LLS i) [] M o := by
  obtain ⟨h9, M1, e1, h10, e2⟩ := hp
  refine e_aload_n dL_law_458 rfl ?_
  refine e_aload_n dL_law_459 rfl ?_
  refine e_iload_n dL_law_460 rfl ?_
  refine e_iconst (v := 1) dL_law_461 (by decide) ?_
  refine e_iadd dL_law_462 ?_
  refine k_sld (jn := i + 1) dL_law_463 (nI_add i 1) (by omega) hsn ?_
  refine e_aload_n dL_law_464 rfl ?_
  refine e_iload_n dL_law_465 rfl ?_
  refine e_iconst (v := 2) dL_law_466 (by decide) ?_
  refine e_iadd dL_law_467 ?_
  refine k_sld (jn := i + 2) dL_law_468 (nI_add i 2) (by omega) hsn ?_
  refine k_callV0 (k0 := 9) (As := [_, _]) rfl dL_law_469 lm_W_41 (am_fitB rfl) yo_X10_text ys_X10_text rfl rfl (by decide) h9 rfl (Nat.le_of_ble_eq_true rfl) (Nat.le_of_ble_eq_true rfl) e1 ?_
  refine e_aload_n dL_law_472 rfl ?_
  refine e_aload_n dL_law_473 rfl ?_
  refine e_iload_n dL_law_474 rfl ?_
  refine e_iconst (v := 1) dL_law_475 (by decide) ?_
  refine e_iadd dL_law_476 ?_
  refine k_sld (jn := i + 1) dL_law_477 (nI_add i 1) (by omega) hsn ?_
  refine e_aload_n dL_law_478 rfl ?_
  refine e_iload_n dL_law_479 rfl ?_
  refine e_iconst (v := 2) dL_law_480 (by decide) ?_
  refine e_iadd dL_law_481 ?_
  refine k_sld (jn := i + 2) dL_law_482 (nI_add i 2) (by omega) hsn ?_
  refine k_callV0 (k0 := 10) (As := [_, _]) rfl dL_law_483 lm_W_44 (am_fitB rfl) yo_X11_text ys_X11_text rfl rfl (by decide) h10 rfl (Nat.le_of_ble_eq_true rfl) (Nat.le_of_ble_eq_true rfl) e2 ?_
  exact k_eq (tgt := 1537) dL_law_486 (by decide) kk
set_option maxRecDepth 100000 in
theorem law_7 {l : Launch} {g : am_G} {i : Nat} {M M2 : am_M} {o : Option (Option Value × am_M)} {x : Int32} (hsn : am_sn g ≤ 3072) (hi : i + 6 ≤ am_sn g) (hp : am_pair l g d_X10_put d_X11_put [.int (am_sc g (i + 1)), .int (am_sc g (i + 2)), .int (am_sc g (i + 3))] M M2 (.int x)) (kk : am_E l g d_L_law 1537 (am_LLS i) [] M2 o) : am_E l g d_L_law 491 (am_LLS i) [] M o := by
  obtain ⟨h9, M1, e1, h10, e2⟩ := hp
  refine e_aload_n dL_law_491 rfl ?_
  refine e_aload_n dL_law_492 rfl ?_
  refine e_iload_n dL_law_493 rfl ?_
  refine e_iconst (v := 1) dL_law_494 (by decide) ?_
  refine e_iadd dL_law_495 ?_
  refine k_sld (jn := i + 1) dL_law_496 (nI_add i 1) (by omega) hsn ?_
  refine e_aload_n dL_law_497 rfl ?_
  refine e_iload_n dL_law_498 rfl ?_
  refine e_iconst (v := 2) dL_law_499 (by decide) ?_
  refine e_iadd dL_law_500 ?_
  refine k_sld (jn := i + 2) dL_law_501 (nI_add i 2) (by omega) hsn ?_
  refine e_aload_n dL_law_502 rfl ?_
  refine e_iload_n dL_law_503 rfl ?_
  refine e_iconst (v := 3) dL_law_504 (by decide) ?_
  refine e_iadd dL_law_505 ?_
  refine k_sld (jn := i + 3) dL_law_506 (nI_add i 3) (by omega) hsn ?_
  refine k_callV0 (k0 := 9) (As := [_, _, _]) rfl dL_law_507 lm_W_45 (am_fitB rfl) yo_X10_put ys_X10_put rfl rfl (by decide) h9 rfl (Nat.le_of_ble_eq_true rfl) (Nat.le_of_ble_eq_true rfl) e1 ?_
  refine e_aload_n dL_law_510 rfl ?_
  refine e_aload_n dL_law_511 rfl ?_
  refine e_iload_n dL_law_512 rfl ?_
  refine e_iconst (v := 1) dL_law_513 (by decide) ?_
  refine e_iadd dL_law_514 ?_
  refine k_sld (jn := i + 1) dL_law_515 (nI_add i 1) (by omega) hsn ?_
  refine e_aload_n dL_law_516 rfl ?_
  refine e_iload_n dL_law_517 rfl ?_
  refine e_iconst (v := 2) dL_law_518 (by decide) ?_
  refine e_iadd dL_law_519 ?_
  refine k_sld (jn := i + 2) dL_law_520 (nI_add i 2) (by omega) hsn ?_
  refine e_aload_n dL_law_521 rfl ?_
  refine e_iload_n dL_law_522 rfl ?_
  refine e_iconst (v := 3) dL_law_523 (by decide) ?_
  refine e_iadd dL_law_524 ?_
  refine k_sld (jn := i + 3) dL_law_525 (nI_add i 3) (by omega) hsn ?_
  refine k_callV0 (k0 := 10) (As := [_, _, _]) rfl dL_law_526 lm_W_48 (am_fitB rfl) yo_X11_put ys_X11_put rfl rfl (by decide) h10 rfl (Nat.le_of_ble_eq_true rfl) (Nat.le_of_ble_eq_true rfl) e2 ?_
  exact k_eq (tgt := 1537) dL_law_529 (by decide) kk
set_option maxRecDepth 100000 in
theorem law_8 {l : Launch} {g : am_G} {i : Nat} {M M2 : am_M} {o : Option (Option Value × am_M)} {x : Int32} (hsn : am_sn g ≤ 3072) (hi : i + 6 ≤ am_sn g) (hp : am_pair l g d_X10_fault d_X11_fault [.int (am_sc g (i + 1))] M M2 (.int x)) (kk : am_E l g d_L_law 1537 (am_LLS i) [] M2 o) : am_E l g d_L_law 534 (am_LLS i) [] M o := by
  obtain ⟨h9, M1, e1, h10, e2⟩ := hp
  refine e_aload_n dL_law_534 rfl ?_
  refine e_aload_n dL_law_535 rfl ?_
  refine e_iload_n dL_law_536 rfl ?_
  refine e_iconst (v := 1) dL_law_537 (by decide) ?_
  refine e_iadd dL_law_538 ?_
  refine k_sld (jn := i + 1) dL_law_539 (nI_add i 1) (by omega) hsn ?_
  refine k_callV0 (k0 := 9) (As := [_]) rfl dL_law_540 lm_W_49 (am_fitB rfl) yo_X10_fault ys_X10_fault rfl rfl (by decide) h9 rfl (Nat.le_of_ble_eq_true rfl) (Nat.le_of_ble_eq_true rfl) e1 ?_
  refine e_aload_n dL_law_543 rfl ?_
  refine e_aload_n dL_law_544 rfl ?_
  refine e_iload_n dL_law_545 rfl ?_
  refine e_iconst (v := 1) dL_law_546 (by decide) ?_
  refine e_iadd dL_law_547 ?_
  refine k_sld (jn := i + 1) dL_law_548 (nI_add i 1) (by omega) hsn ?_
  refine k_callV0 (k0 := 10) (As := [_]) rfl dL_law_549 lm_W_52 (am_fitB rfl) yo_X11_fault ys_X11_fault rfl rfl (by decide) h10 rfl (Nat.le_of_ble_eq_true rfl) (Nat.le_of_ble_eq_true rfl) e2 ?_
  exact k_eq (tgt := 1537) dL_law_552 (by decide) kk
set_option maxRecDepth 100000 in
theorem law_9 {l : Launch} {g : am_G} {i : Nat} {M M2 : am_M} {o : Option (Option Value × am_M)} {x : Int32} (hsn : am_sn g ≤ 3072) (hi : i + 6 ≤ am_sn g) (hp : am_pair l g d_X10_land d_X11_land [.int (am_sc g (i + 1))] M M2 (.int x)) (kk : am_E l g d_L_law 1537 (am_LLS i) [] M2 o) : am_E l g d_L_law 557 (am_LLS i) [] M o := by
  obtain ⟨h9, M1, e1, h10, e2⟩ := hp
  refine e_aload_n dL_law_557 rfl ?_
  refine e_aload_n dL_law_558 rfl ?_
  refine e_iload_n dL_law_559 rfl ?_
  refine e_iconst (v := 1) dL_law_560 (by decide) ?_
  refine e_iadd dL_law_561 ?_
  refine k_sld (jn := i + 1) dL_law_562 (nI_add i 1) (by omega) hsn ?_
  refine k_callV0 (k0 := 9) (As := [_]) rfl dL_law_563 lm_W_53 (am_fitB rfl) yo_X10_land ys_X10_land rfl rfl (by decide) h9 rfl (Nat.le_of_ble_eq_true rfl) (Nat.le_of_ble_eq_true rfl) e1 ?_
  refine e_aload_n dL_law_566 rfl ?_
  refine e_aload_n dL_law_567 rfl ?_
  refine e_iload_n dL_law_568 rfl ?_
  refine e_iconst (v := 1) dL_law_569 (by decide) ?_
  refine e_iadd dL_law_570 ?_
  refine k_sld (jn := i + 1) dL_law_571 (nI_add i 1) (by omega) hsn ?_
  refine k_callV0 (k0 := 10) (As := [_]) rfl dL_law_572 lm_W_56 (am_fitB rfl) yo_X11_land ys_X11_land rfl rfl (by decide) h10 rfl (Nat.le_of_ble_eq_true rfl) (Nat.le_of_ble_eq_true rfl) e2 ?_
  exact k_eq (tgt := 1537) dL_law_575 (by decide) kk
set_option maxRecDepth 100000 in
theorem law_10 {l : Launch} {g : am_G} {i : Nat} {M M2 : am_M} {o : Option (Option Value × am_M)} {x : Int32} (hsn : am_sn g ≤ 3072) (hi : i + 6 ≤ am_sn g) (hp : am_pair l g d_X10_jar d_X11_jar [.int (am_sc g (i + 1)), .int (am_sc g (i + 2))] M M2 (.int x)) (kk : am_E l g d_L_law 1537 (am_LLS i) [] M2 o) : am_E l g d_L_law 580 (am_LLS i) [] M o := by
  obtain ⟨h9, M1, e1, h10, e2⟩ := hp
  refine e_aload_n dL_law_580 rfl ?_
  refine e_aload_n dL_law_581 rfl ?_
  refine e_iload_n dL_law_582 rfl ?_
  refine e_iconst (v := 1) dL_law_583 (by decide) ?_
  refine e_iadd dL_law_584 ?_
  refine k_sld (jn := i + 1) dL_law_585 (nI_add i 1) (by omega) hsn ?_
  refine e_aload_n dL_law_586 rfl ?_
  refine e_iload_n dL_law_587 rfl ?_
  refine e_iconst (v := 2) dL_law_588 (by decide) ?_
  refine e_iadd dL_law_589 ?_
  refine k_sld (jn := i + 2) dL_law_590 (nI_add i 2) (by omega) hsn ?_
  refine k_callV0 (k0 := 9) (As := [_, _]) rfl dL_law_591 lm_W_57 (am_fitB rfl) yo_X10_jar ys_X10_jar rfl rfl (by decide) h9 rfl (Nat.le_of_ble_eq_true rfl) (Nat.le_of_ble_eq_true rfl) e1 ?_
  refine e_aload_n dL_law_594 rfl ?_
  refine e_aload_n dL_law_595 rfl ?_
  refine e_iload_n dL_law_596 rfl ?_
  refine e_iconst (v := 1) dL_law_597 (by decide) ?_
  refine e_iadd dL_law_598 ?_
  refine k_sld (jn := i + 1) dL_law_599 (nI_add i 1) (by omega) hsn ?_
  refine e_aload_n dL_law_600 rfl ?_
  refine e_iload_n dL_law_601 rfl ?_
  refine e_iconst (v := 2) dL_law_602 (by decide) ?_
  refine e_iadd dL_law_603 ?_
  refine k_sld (jn := i + 2) dL_law_604 (nI_add i 2) (by omega) hsn ?_
  refine k_callV0 (k0 := 10) (As := [_, _]) rfl dL_law_605 lm_W_60 (am_fitB rfl) yo_X11_jar ys_X11_jar rfl rfl (by decide) h10 rfl (Nat.le_of_ble_eq_true rfl) (Nat.le_of_ble_eq_true rfl) e2 ?_
  exact k_eq (tgt := 1537) dL_law_608 (by decide) kk
set_option maxRecDepth 100000 in
theorem law_11 {l : Launch} {g : am_G} {i : Nat} {M M2 : am_M} {o : Option (Option Value × am_M)} {x : Int32} (hsn : am_sn g ≤ 3072) (hi : i + 6 ≤ am_sn g) (hp : am_pair l g d_X10_mark d_X11_mark [.int (am_sc g (i + 1)), .int (am_sc g (i + 2))] M M2 (.int x)) (kk : am_E l g d_L_law 1537 (am_LLS i) [] M2 o) : am_E l g d_L_law 613 (am_LLS i) [] M o := by
  obtain ⟨h9, M1, e1, h10, e2⟩ := hp
  refine e_aload_n dL_law_613 rfl ?_
  refine e_aload_n dL_law_614 rfl ?_
  refine e_iload_n dL_law_615 rfl ?_
  refine e_iconst (v := 1) dL_law_616 (by decide) ?_
  refine e_iadd dL_law_617 ?_
  refine k_sld (jn := i + 1) dL_law_618 (nI_add i 1) (by omega) hsn ?_
  refine e_aload_n dL_law_619 rfl ?_
  refine e_iload_n dL_law_620 rfl ?_
  refine e_iconst (v := 2) dL_law_621 (by decide) ?_
  refine e_iadd dL_law_622 ?_
  refine k_sld (jn := i + 2) dL_law_623 (nI_add i 2) (by omega) hsn ?_
  refine k_callV0 (k0 := 9) (As := [_, _]) rfl dL_law_624 lm_W_61 (am_fitB rfl) yo_X10_mark ys_X10_mark rfl rfl (by decide) h9 rfl (Nat.le_of_ble_eq_true rfl) (Nat.le_of_ble_eq_true rfl) e1 ?_
  refine e_aload_n dL_law_627 rfl ?_
  refine e_aload_n dL_law_628 rfl ?_
  refine e_iload_n dL_law_629 rfl ?_
  refine e_iconst (v := 1) dL_law_630 (by decide) ?_
  refine e_iadd dL_law_631 ?_
  refine k_sld (jn := i + 1) dL_law_632 (nI_add i 1) (by omega) hsn ?_
  refine e_aload_n dL_law_633 rfl ?_
  refine e_iload_n dL_law_634 rfl ?_
  refine e_iconst (v := 2) dL_law_635 (by decide) ?_
  refine e_iadd dL_law_636 ?_
  refine k_sld (jn := i + 2) dL_law_637 (nI_add i 2) (by omega) hsn ?_
  refine k_callV0 (k0 := 10) (As := [_, _]) rfl dL_law_638 lm_W_64 (am_fitB rfl) yo_X11_mark ys_X11_mark rfl rfl (by decide) h10 rfl (Nat.le_of_ble_eq_true rfl) (Nat.le_of_ble_eq_true rfl) e2 ?_
  exact k_eq (tgt := 1537) dL_law_641 (by decide) kk
set_option maxRecDepth 100000 in
theorem law_12 {l : Launch} {g : am_G} {i : Nat} {M M2 : am_M} {o : Option (Option Value × am_M)} {x : Int32} (hsn : am_sn g ≤ 3072) (hi : i + 6 ≤ am_sn g) (hp : am_pair l g d_X10_place d_X11_place [.int (am_sc g (i + 1)), .int (am_sc g (i + 2))] M M2 (.int x)) (kk : am_E l g d_L_law 1537 (am_LLS i) [] M2 o) : am_E l g d_L_law 646 (am_LLS i) [] M o := by
  obtain ⟨h9, M1, e1, h10, e2⟩ := hp
  refine e_aload_n dL_law_646 rfl ?_
  refine e_aload_n dL_law_647 rfl ?_
  refine e_iload_n dL_law_648 rfl ?_
  refine e_iconst (v := 1) dL_law_649 (by decide) ?_
  refine e_iadd dL_law_650 ?_
  refine k_sld (jn := i + 1) dL_law_651 (nI_add i 1) (by omega) hsn ?_
  refine e_aload_n dL_law_652 rfl ?_
  refine e_iload_n dL_law_653 rfl ?_
  refine e_iconst (v := 2) dL_law_654 (by decide) ?_
  refine e_iadd dL_law_655 ?_
  refine k_sld (jn := i + 2) dL_law_656 (nI_add i 2) (by omega) hsn ?_
  refine k_callV0 (k0 := 9) (As := [_, _]) rfl dL_law_657 lm_W_65 (am_fitB rfl) yo_X10_place ys_X10_place rfl rfl (by decide) h9 rfl (Nat.le_of_ble_eq_true rfl) (Nat.le_of_ble_eq_true rfl) e1 ?_
  refine e_aload_n dL_law_660 rfl ?_
  refine e_aload_n dL_law_661 rfl ?_
  refine e_iload_n dL_law_662 rfl ?_
  refine e_iconst (v := 1) dL_law_663 (by decide) ?_
  refine e_iadd dL_law_664 ?_
  refine k_sld (jn := i + 1) dL_law_665 (nI_add i 1) (by omega) hsn ?_
  refine e_aload_n dL_law_666 rfl ?_
  refine e_iload_n dL_law_667 rfl ?_
  refine e_iconst (v := 2) dL_law_668 (by decide) ?_
  refine e_iadd dL_law_669 ?_
  refine k_sld (jn := i + 2) dL_law_670 (nI_add i 2) (by omega) hsn ?_
  refine k_callV0 (k0 := 10) (As := [_, _]) rfl dL_law_671 lm_W_68 (am_fitB rfl) yo_X11_place ys_X11_place rfl rfl (by decide) h10 rfl (Nat.le_of_ble_eq_true rfl) (Nat.le_of_ble_eq_true rfl) e2 ?_
  exact k_eq (tgt := 1537) dL_law_674 (by decide) kk
set_option maxRecDepth 100000 in
theorem law_13 {l : Launch} {g : am_G} {i : Nat} {M M2 : am_M} {o : Option (Option Value × am_M)} {x : Int32} (hsn : am_sn g ≤ 3072) (hi : i + 6 ≤ am_sn g) (hp : am_pair l g d_X10_sun d_X11_sun [.int (am_sc g (i + 1))] M M2 (.int x)) (kk : am_E l g d_L_law 1537 (am_LLS i) [] M2 o) : am_E l g d_L_law 679 (am_LLS i) [] M o := by
  obtain ⟨h9, M1, e1, h10, e2⟩ := hp
  refine e_aload_n dL_law_679 rfl ?_
  refine e_aload_n dL_law_680 rfl ?_
  refine e_iload_n dL_law_681 rfl ?_
  refine e_iconst (v := 1) dL_law_682 (by decide) ?_
  refine e_iadd dL_law_683 ?_
  refine k_sld (jn := i + 1) dL_law_684 (nI_add i 1) (by omega) hsn ?_
  refine k_callV0 (k0 := 9) (As := [_]) rfl dL_law_685 lm_W_69 (am_fitB rfl) yo_X10_sun ys_X10_sun rfl rfl (by decide) h9 rfl (Nat.le_of_ble_eq_true rfl) (Nat.le_of_ble_eq_true rfl) e1 ?_
  refine e_aload_n dL_law_688 rfl ?_
  refine e_aload_n dL_law_689 rfl ?_
  refine e_iload_n dL_law_690 rfl ?_
  refine e_iconst (v := 1) dL_law_691 (by decide) ?_
  refine e_iadd dL_law_692 ?_
  refine k_sld (jn := i + 1) dL_law_693 (nI_add i 1) (by omega) hsn ?_
  refine k_callV0 (k0 := 10) (As := [_]) rfl dL_law_694 lm_W_72 (am_fitB rfl) yo_X11_sun ys_X11_sun rfl rfl (by decide) h10 rfl (Nat.le_of_ble_eq_true rfl) (Nat.le_of_ble_eq_true rfl) e2 ?_
  exact k_eq (tgt := 1537) dL_law_697 (by decide) kk
set_option maxRecDepth 100000 in
theorem law_14 {l : Launch} {g : am_G} {i : Nat} {M M2 : am_M} {o : Option (Option Value × am_M)} {x : Int32} (hsn : am_sn g ≤ 3072) (hi : i + 6 ≤ am_sn g) (hp : am_pair l g d_X10_fill d_X11_fill [.int (am_sc g (i + 1))] M M2 (.int x)) (kk : am_E l g d_L_law 1537 (am_LLS i) [] M2 o) : am_E l g d_L_law 702 (am_LLS i) [] M o := by
  obtain ⟨h9, M1, e1, h10, e2⟩ := hp
  refine e_aload_n dL_law_702 rfl ?_
  refine e_aload_n dL_law_703 rfl ?_
  refine e_iload_n dL_law_704 rfl ?_
  refine e_iconst (v := 1) dL_law_705 (by decide) ?_
  refine e_iadd dL_law_706 ?_
  refine k_sld (jn := i + 1) dL_law_707 (nI_add i 1) (by omega) hsn ?_
  refine k_callV0 (k0 := 9) (As := [_]) rfl dL_law_708 lm_W_73 (am_fitB rfl) yo_X10_fill ys_X10_fill rfl rfl (by decide) h9 rfl (Nat.le_of_ble_eq_true rfl) (Nat.le_of_ble_eq_true rfl) e1 ?_
  refine e_aload_n dL_law_711 rfl ?_
  refine e_aload_n dL_law_712 rfl ?_
  refine e_iload_n dL_law_713 rfl ?_
  refine e_iconst (v := 1) dL_law_714 (by decide) ?_
  refine e_iadd dL_law_715 ?_
  refine k_sld (jn := i + 1) dL_law_716 (nI_add i 1) (by omega) hsn ?_
  refine k_callV0 (k0 := 10) (As := [_]) rfl dL_law_717 lm_W_76 (am_fitB rfl) yo_X11_fill ys_X11_fill rfl rfl (by decide) h10 rfl (Nat.le_of_ble_eq_true rfl) (Nat.le_of_ble_eq_true rfl) e2 ?_
  exact k_eq (tgt := 1537) dL_law_720 (by decide) kk
set_option maxRecDepth 100000 in
theorem law_15 {l : Launch} {g : am_G} {i : Nat} {M M2 : am_M} {o : Option (Option Value × am_M)} {x : Int32} (hsn : am_sn g ≤ 3072) (hi : i + 6 ≤ am_sn g) (hp : am_pair l g d_X10_carry d_X11_carry [.int (am_sc g (i + 1)), .int (am_sc g (i + 2))] M M2 (.int x)) (kk : am_E l g d_L_law 1537 (am_LLS i) [] M2 o) : am_E l g d_L_law 725 (am_LLS i) [] M o := by
  obtain ⟨h9, M1, e1, h10, e2⟩ := hp
  refine e_aload_n dL_law_725 rfl ?_
  refine e_aload_n dL_law_726 rfl ?_
  refine e_iload_n dL_law_727 rfl ?_
  refine e_iconst (v := 1) dL_law_728 (by decide) ?_
  refine e_iadd dL_law_729 ?_
  refine k_sld (jn := i + 1) dL_law_730 (nI_add i 1) (by omega) hsn ?_
  refine e_aload_n dL_law_731 rfl ?_
  refine e_iload_n dL_law_732 rfl ?_
  refine e_iconst (v := 2) dL_law_733 (by decide) ?_
  refine e_iadd dL_law_734 ?_
  refine k_sld (jn := i + 2) dL_law_735 (nI_add i 2) (by omega) hsn ?_
  refine k_callV0 (k0 := 9) (As := [_, _]) rfl dL_law_736 lm_W_77 (am_fitB rfl) yo_X10_carry ys_X10_carry rfl rfl (by decide) h9 rfl (Nat.le_of_ble_eq_true rfl) (Nat.le_of_ble_eq_true rfl) e1 ?_
  refine e_aload_n dL_law_739 rfl ?_
  refine e_aload_n dL_law_740 rfl ?_
  refine e_iload_n dL_law_741 rfl ?_
  refine e_iconst (v := 1) dL_law_742 (by decide) ?_
  refine e_iadd dL_law_743 ?_
  refine k_sld (jn := i + 1) dL_law_744 (nI_add i 1) (by omega) hsn ?_
  refine e_aload_n dL_law_745 rfl ?_
  refine e_iload_n dL_law_746 rfl ?_
  refine e_iconst (v := 2) dL_law_747 (by decide) ?_
  refine e_iadd dL_law_748 ?_
  refine k_sld (jn := i + 2) dL_law_749 (nI_add i 2) (by omega) hsn ?_
  refine k_callV0 (k0 := 10) (As := [_, _]) rfl dL_law_750 lm_W_80 (am_fitB rfl) yo_X11_carry ys_X11_carry rfl rfl (by decide) h10 rfl (Nat.le_of_ble_eq_true rfl) (Nat.le_of_ble_eq_true rfl) e2 ?_
  exact k_eq (tgt := 1537) dL_law_753 (by decide) kk
set_option maxRecDepth 100000 in
theorem law_16 {l : Launch} {g : am_G} {i : Nat} {M M2 : am_M} {o : Option (Option Value × am_M)} {x : Int32} (hsn : am_sn g ≤ 3072) (hi : i + 6 ≤ am_sn g) (hp : am_pair l g d_X10_pour d_X11_pour [.int (am_sc g (i + 1)), .int (am_sc g (i + 2))] M M2 (.int x)) (kk : am_E l g d_L_law 1537 (am_LLS i) [] M2 o) : am_E l g d_L_law 758 (am_LLS i) [] M o := by
  obtain ⟨h9, M1, e1, h10, e2⟩ := hp
  refine e_aload_n dL_law_758 rfl ?_
  refine e_aload_n dL_law_759 rfl ?_
  refine e_iload_n dL_law_760 rfl ?_
  refine e_iconst (v := 1) dL_law_761 (by decide) ?_
  refine e_iadd dL_law_762 ?_
  refine k_sld (jn := i + 1) dL_law_763 (nI_add i 1) (by omega) hsn ?_
  refine e_aload_n dL_law_764 rfl ?_
  refine e_iload_n dL_law_765 rfl ?_
  refine e_iconst (v := 2) dL_law_766 (by decide) ?_
  refine e_iadd dL_law_767 ?_
  refine k_sld (jn := i + 2) dL_law_768 (nI_add i 2) (by omega) hsn ?_
  refine k_callV0 (k0 := 9) (As := [_, _]) rfl dL_law_769 lm_W_81 (am_fitB rfl) yo_X10_pour ys_X10_pour rfl rfl (by decide) h9 rfl (Nat.le_of_ble_eq_true rfl) (Nat.le_of_ble_eq_true rfl) e1 ?_
  refine e_aload_n dL_law_772 rfl ?_
  refine e_aload_n dL_law_773 rfl ?_
  refine e_iload_n dL_law_774 rfl ?_
  refine e_iconst (v := 1) dL_law_775 (by decide) ?_
  refine e_iadd dL_law_776 ?_
  refine k_sld (jn := i + 1) dL_law_777 (nI_add i 1) (by omega) hsn ?_
  refine e_aload_n dL_law_778 rfl ?_
  refine e_iload_n dL_law_779 rfl ?_
  refine e_iconst (v := 2) dL_law_780 (by decide) ?_
  refine e_iadd dL_law_781 ?_
  refine k_sld (jn := i + 2) dL_law_782 (nI_add i 2) (by omega) hsn ?_
  refine k_callV0 (k0 := 10) (As := [_, _]) rfl dL_law_783 lm_W_84 (am_fitB rfl) yo_X11_pour ys_X11_pour rfl rfl (by decide) h10 rfl (Nat.le_of_ble_eq_true rfl) (Nat.le_of_ble_eq_true rfl) e2 ?_
  exact k_eq (tgt := 1537) dL_law_786 (by decide) kk
set_option maxRecDepth 100000 in
theorem law_17 {l : Launch} {g : am_G} {i : Nat} {M M2 : am_M} {o : Option (Option Value × am_M)} {x : Int32} (hsn : am_sn g ≤ 3072) (hi : i + 6 ≤ am_sn g) (hp : am_pair l g d_X10_spend d_X11_spend [.int (am_sc g (i + 1)), .int (am_sc g (i + 2))] M M2 (.int x)) (kk : am_E l g d_L_law 1537 (am_LLS i) [] M2 o) : am_E l g d_L_law 791 (am_LLS i) [] M o := by
  obtain ⟨h9, M1, e1, h10, e2⟩ := hp
  refine e_aload_n dL_law_791 rfl ?_
  refine e_aload_n dL_law_792 rfl ?_
  refine e_iload_n dL_law_793 rfl ?_
  refine e_iconst (v := 1) dL_law_794 (by decide) ?_
  refine e_iadd dL_law_795 ?_
  refine k_sld (jn := i + 1) dL_law_796 (nI_add i 1) (by omega) hsn ?_
  refine e_aload_n dL_law_797 rfl ?_
  refine e_iload_n dL_law_798 rfl ?_
  refine e_iconst (v := 2) dL_law_799 (by decide) ?_
  refine e_iadd dL_law_800 ?_
  refine k_sld (jn := i + 2) dL_law_801 (nI_add i 2) (by omega) hsn ?_
  refine k_callV0 (k0 := 9) (As := [_, _]) rfl dL_law_802 lm_W_85 (am_fitB rfl) yo_X10_spend ys_X10_spend rfl rfl (by decide) h9 rfl (Nat.le_of_ble_eq_true rfl) (Nat.le_of_ble_eq_true rfl) e1 ?_
  refine e_aload_n dL_law_805 rfl ?_
  refine e_aload_n dL_law_806 rfl ?_
  refine e_iload_n dL_law_807 rfl ?_
  refine e_iconst (v := 1) dL_law_808 (by decide) ?_
  refine e_iadd dL_law_809 ?_
  refine k_sld (jn := i + 1) dL_law_810 (nI_add i 1) (by omega) hsn ?_
  refine e_aload_n dL_law_811 rfl ?_
  refine e_iload_n dL_law_812 rfl ?_
  refine e_iconst (v := 2) dL_law_813 (by decide) ?_
  refine e_iadd dL_law_814 ?_
  refine k_sld (jn := i + 2) dL_law_815 (nI_add i 2) (by omega) hsn ?_
  refine k_callV0 (k0 := 10) (As := [_, _]) rfl dL_law_816 lm_W_88 (am_fitB rfl) yo_X11_spend ys_X11_spend rfl rfl (by decide) h10 rfl (Nat.le_of_ble_eq_true rfl) (Nat.le_of_ble_eq_true rfl) e2 ?_
  exact k_eq (tgt := 1537) dL_law_819 (by decide) kk
set_option maxRecDepth 100000 in
theorem law_18 {l : Launch} {g : am_G} {i : Nat} {M M2 : am_M} {o : Option (Option Value × am_M)} {x : Int32} (hsn : am_sn g ≤ 3072) (hi : i + 6 ≤ am_sn g) (hp : am_pair l g d_X10_steal d_X11_steal [.int (am_sc g (i + 1)), .int (am_sc g (i + 2))] M M2 (.int x)) (kk : am_E l g d_L_law 1537 (am_LLS i) [] M2 o) : am_E l g d_L_law 824 (am_LLS i) [] M o := by
  obtain ⟨h9, M1, e1, h10, e2⟩ := hp
  refine e_aload_n dL_law_824 rfl ?_
  refine e_aload_n dL_law_825 rfl ?_
  refine e_iload_n dL_law_826 rfl ?_
  refine e_iconst (v := 1) dL_law_827 (by decide) ?_
  refine e_iadd dL_law_828 ?_
  refine k_sld (jn := i + 1) dL_law_829 (nI_add i 1) (by omega) hsn ?_
  refine e_aload_n dL_law_830 rfl ?_
  refine e_iload_n dL_law_831 rfl ?_
  refine e_iconst (v := 2) dL_law_832 (by decide) ?_
  refine e_iadd dL_law_833 ?_
  refine k_sld (jn := i + 2) dL_law_834 (nI_add i 2) (by omega) hsn ?_
  refine k_callV0 (k0 := 9) (As := [_, _]) rfl dL_law_835 lm_W_89 (am_fitB rfl) yo_X10_steal ys_X10_steal rfl rfl (by decide) h9 rfl (Nat.le_of_ble_eq_true rfl) (Nat.le_of_ble_eq_true rfl) e1 ?_
  refine e_aload_n dL_law_838 rfl ?_
  refine e_aload_n dL_law_839 rfl ?_
  refine e_iload_n dL_law_840 rfl ?_
  refine e_iconst (v := 1) dL_law_841 (by decide) ?_
  refine e_iadd dL_law_842 ?_
  refine k_sld (jn := i + 1) dL_law_843 (nI_add i 1) (by omega) hsn ?_
  refine e_aload_n dL_law_844 rfl ?_
  refine e_iload_n dL_law_845 rfl ?_
  refine e_iconst (v := 2) dL_law_846 (by decide) ?_
  refine e_iadd dL_law_847 ?_
  refine k_sld (jn := i + 2) dL_law_848 (nI_add i 2) (by omega) hsn ?_
  refine k_callV0 (k0 := 10) (As := [_, _]) rfl dL_law_849 lm_W_92 (am_fitB rfl) yo_X11_steal ys_X11_steal rfl rfl (by decide) h10 rfl (Nat.le_of_ble_eq_true rfl) (Nat.le_of_ble_eq_true rfl) e2 ?_
  exact k_eq (tgt := 1537) dL_law_852 (by decide) kk
set_option maxRecDepth 100000 in
theorem law_19 {l : Launch} {g : am_G} {i : Nat} {M M2 : am_M} {o : Option (Option Value × am_M)} {x : Int32} (hsn : am_sn g ≤ 3072) (hi : i + 6 ≤ am_sn g) (hp : am_pair l g d_X10_night d_X11_night [] M M2 (.int x)) (kk : am_E l g d_L_law 1537 (am_LLS i) [] M2 o) : am_E l g d_L_law 857 (am_LLS i) [] M o := by
  obtain ⟨h9, M1, e1, h10, e2⟩ := hp
  refine e_aload_n dL_law_857 rfl ?_
  refine k_callV0 (k0 := 9) (As := []) rfl dL_law_858 lm_W_93 (am_fitB rfl) yo_X10_night ys_X10_night rfl rfl (by decide) h9 rfl (Nat.le_of_ble_eq_true rfl) (Nat.le_of_ble_eq_true rfl) e1 ?_
  refine e_aload_n dL_law_861 rfl ?_
  refine k_callV0 (k0 := 10) (As := []) rfl dL_law_862 lm_W_97 (am_fitB rfl) yo_X11_night ys_X11_night rfl rfl (by decide) h10 rfl (Nat.le_of_ble_eq_true rfl) (Nat.le_of_ble_eq_true rfl) e2 ?_
  exact k_eq (tgt := 1537) dL_law_865 (by decide) kk
set_option maxRecDepth 100000 in
theorem law_20 {l : Launch} {g : am_G} {i : Nat} {M M2 : am_M} {o : Option (Option Value × am_M)} {x : Int32} (hsn : am_sn g ≤ 3072) (hi : i + 6 ≤ am_sn g) (hp : am_pair l g d_X10_undo d_X11_undo [] M M2 (.int x)) (kk : am_E l g d_L_law 1537 (am_LLS i) [] M2 o) : am_E l g d_L_law 870 (am_LLS i) [] M o := by
  obtain ⟨h9, M1, e1, h10, e2⟩ := hp
  refine e_aload_n dL_law_870 rfl ?_
  refine k_callV0 (k0 := 9) (As := []) rfl dL_law_871 lm_W_98 (am_fitB rfl) yo_X10_undo ys_X10_undo rfl rfl (by decide) h9 rfl (Nat.le_of_ble_eq_true rfl) (Nat.le_of_ble_eq_true rfl) e1 ?_
  refine e_aload_n dL_law_874 rfl ?_
  refine k_callV0 (k0 := 10) (As := []) rfl dL_law_875 lm_W_101 (am_fitB rfl) yo_X11_undo ys_X11_undo rfl rfl (by decide) h10 rfl (Nat.le_of_ble_eq_true rfl) (Nat.le_of_ble_eq_true rfl) e2 ?_
  exact k_eq (tgt := 1537) dL_law_878 (by decide) kk
set_option maxRecDepth 100000 in
theorem law_21 {l : Launch} {g : am_G} {i : Nat} {M M2 : am_M} {o : Option (Option Value × am_M)} {x : Int32} (hsn : am_sn g ≤ 3072) (hi : i + 6 ≤ am_sn g) (hp : am_pair l g d_X10_keep d_X11_keep [.int (am_sc g (i + 1))] M M2 (.int x)) (kk : am_E l g d_L_law 1537 (am_LLS i) [] M2 o) : am_E l g d_L_law 883 (am_LLS i) [] M o := by
  obtain ⟨h9, M1, e1, h10, e2⟩ := hp
  refine e_aload_n dL_law_883 rfl ?_
  refine e_aload_n dL_law_884 rfl ?_
  refine e_iload_n dL_law_885 rfl ?_
  refine e_iconst (v := 1) dL_law_886 (by decide) ?_
  refine e_iadd dL_law_887 ?_
  refine k_sld (jn := i + 1) dL_law_888 (nI_add i 1) (by omega) hsn ?_
  refine k_callV0 (k0 := 9) (As := [_]) rfl dL_law_889 lm_W_102 (am_fitB rfl) yo_X10_keep ys_X10_keep rfl rfl (by decide) h9 rfl (Nat.le_of_ble_eq_true rfl) (Nat.le_of_ble_eq_true rfl) e1 ?_
  refine e_aload_n dL_law_892 rfl ?_
  refine e_aload_n dL_law_893 rfl ?_
  refine e_iload_n dL_law_894 rfl ?_
  refine e_iconst (v := 1) dL_law_895 (by decide) ?_
  refine e_iadd dL_law_896 ?_
  refine k_sld (jn := i + 1) dL_law_897 (nI_add i 1) (by omega) hsn ?_
  refine k_callV0 (k0 := 10) (As := [_]) rfl dL_law_898 lm_W_105 (am_fitB rfl) yo_X11_keep ys_X11_keep rfl rfl (by decide) h10 rfl (Nat.le_of_ble_eq_true rfl) (Nat.le_of_ble_eq_true rfl) e2 ?_
  exact k_eq (tgt := 1537) dL_law_901 (by decide) kk
set_option maxRecDepth 100000 in
theorem law_22 {l : Launch} {g : am_G} {i : Nat} {M M2 : am_M} {o : Option (Option Value × am_M)} {x : Int32} (hsn : am_sn g ≤ 3072) (hi : i + 6 ≤ am_sn g) (hp : am_pair l g d_X10_on d_X11_on [.int (am_sc g (i + 1))] M M2 (.int x)) (kk : am_E l g d_L_law 1537 (am_LLS i) [] M2 o) : am_E l g d_L_law 906 (am_LLS i) [] M o := by
  obtain ⟨h9, M1, e1, h10, e2⟩ := hp
  refine e_aload_n dL_law_906 rfl ?_
  refine e_aload_n dL_law_907 rfl ?_
  refine e_iload_n dL_law_908 rfl ?_
  refine e_iconst (v := 1) dL_law_909 (by decide) ?_
  refine e_iadd dL_law_910 ?_
  refine k_sld (jn := i + 1) dL_law_911 (nI_add i 1) (by omega) hsn ?_
  refine k_callV0 (k0 := 9) (As := [_]) rfl dL_law_912 lm_W_106 (am_fitB rfl) yo_X10_on ys_X10_on rfl rfl (by decide) h9 rfl (Nat.le_of_ble_eq_true rfl) (Nat.le_of_ble_eq_true rfl) e1 ?_
  refine e_aload_n dL_law_915 rfl ?_
  refine e_aload_n dL_law_916 rfl ?_
  refine e_iload_n dL_law_917 rfl ?_
  refine e_iconst (v := 1) dL_law_918 (by decide) ?_
  refine e_iadd dL_law_919 ?_
  refine k_sld (jn := i + 1) dL_law_920 (nI_add i 1) (by omega) hsn ?_
  refine k_callV0 (k0 := 10) (As := [_]) rfl dL_law_921 lm_W_109 (am_fitB rfl) yo_X11_on ys_X11_on rfl rfl (by decide) h10 rfl (Nat.le_of_ble_eq_true rfl) (Nat.le_of_ble_eq_true rfl) e2 ?_
  exact k_eq (tgt := 1537) dL_law_924 (by decide) kk
set_option maxRecDepth 100000 in
theorem law_23 {l : Launch} {g : am_G} {i : Nat} {M M2 : am_M} {o : Option (Option Value × am_M)} {x : Int32} (hsn : am_sn g ≤ 3072) (hi : i + 6 ≤ am_sn g) (hp : am_pair l g d_X10_brings d_X11_brings [.int (am_sc g (i + 1)), .int (am_sc g (i + 2))] M M2 (.int x)) (kk : am_E l g d_L_law 1537 (am_LLS i) [] M2 o) : am_E l g d_L_law 929 (am_LLS i) [] M o := by
  obtain ⟨h9, M1, e1, h10, e2⟩ := hp
  refine e_aload_n dL_law_929 rfl ?_
  refine e_aload_n dL_law_930 rfl ?_
  refine e_iload_n dL_law_931 rfl ?_
  refine e_iconst (v := 1) dL_law_932 (by decide) ?_
  refine e_iadd dL_law_933 ?_
  refine k_sld (jn := i + 1) dL_law_934 (nI_add i 1) (by omega) hsn ?_
  refine e_aload_n dL_law_935 rfl ?_
  refine e_iload_n dL_law_936 rfl ?_
  refine e_iconst (v := 2) dL_law_937 (by decide) ?_
  refine e_iadd dL_law_938 ?_
  refine k_sld (jn := i + 2) dL_law_939 (nI_add i 2) (by omega) hsn ?_
  refine k_callV0 (k0 := 9) (As := [_, _]) rfl dL_law_940 lm_W_110 (am_fitB rfl) yo_X10_brings ys_X10_brings rfl rfl (by decide) h9 rfl (Nat.le_of_ble_eq_true rfl) (Nat.le_of_ble_eq_true rfl) e1 ?_
  refine e_aload_n dL_law_943 rfl ?_
  refine e_aload_n dL_law_944 rfl ?_
  refine e_iload_n dL_law_945 rfl ?_
  refine e_iconst (v := 1) dL_law_946 (by decide) ?_
  refine e_iadd dL_law_947 ?_
  refine k_sld (jn := i + 1) dL_law_948 (nI_add i 1) (by omega) hsn ?_
  refine e_aload_n dL_law_949 rfl ?_
  refine e_iload_n dL_law_950 rfl ?_
  refine e_iconst (v := 2) dL_law_951 (by decide) ?_
  refine e_iadd dL_law_952 ?_
  refine k_sld (jn := i + 2) dL_law_953 (nI_add i 2) (by omega) hsn ?_
  refine k_callV0 (k0 := 10) (As := [_, _]) rfl dL_law_954 lm_W_113 (am_fitB rfl) yo_X11_brings ys_X11_brings rfl rfl (by decide) h10 rfl (Nat.le_of_ble_eq_true rfl) (Nat.le_of_ble_eq_true rfl) e2 ?_
  exact k_eq (tgt := 1537) dL_law_957 (by decide) kk
set_option maxRecDepth 100000 in
theorem law_24 {l : Launch} {g : am_G} {i : Nat} {M M2 : am_M} {o : Option (Option Value × am_M)} {x : Int32} (hsn : am_sn g ≤ 3072) (hi : i + 6 ≤ am_sn g) (hp : am_pair l g d_X10_best d_X11_best [.int (am_sc g (i + 1))] M M2 (.int x)) (kk : am_E l g d_L_law 1537 (am_LLS i) [] M2 o) : am_E l g d_L_law 962 (am_LLS i) [] M o := by
  obtain ⟨h9, M1, e1, h10, e2⟩ := hp
  refine e_aload_n dL_law_962 rfl ?_
  refine e_aload_n dL_law_963 rfl ?_
  refine e_iload_n dL_law_964 rfl ?_
  refine e_iconst (v := 1) dL_law_965 (by decide) ?_
  refine e_iadd dL_law_966 ?_
  refine k_sld (jn := i + 1) dL_law_967 (nI_add i 1) (by omega) hsn ?_
  refine k_callV0 (k0 := 9) (As := [_]) rfl dL_law_968 lm_W_114 (am_fitB rfl) yo_X10_best ys_X10_best rfl rfl (by decide) h9 rfl (Nat.le_of_ble_eq_true rfl) (Nat.le_of_ble_eq_true rfl) e1 ?_
  refine e_aload_n dL_law_971 rfl ?_
  refine e_aload_n dL_law_972 rfl ?_
  refine e_iload_n dL_law_973 rfl ?_
  refine e_iconst (v := 1) dL_law_974 (by decide) ?_
  refine e_iadd dL_law_975 ?_
  refine k_sld (jn := i + 1) dL_law_976 (nI_add i 1) (by omega) hsn ?_
  refine k_callV0 (k0 := 10) (As := [_]) rfl dL_law_977 lm_W_117 (am_fitB rfl) yo_X11_best ys_X11_best rfl rfl (by decide) h10 rfl (Nat.le_of_ble_eq_true rfl) (Nat.le_of_ble_eq_true rfl) e2 ?_
  exact k_eq (tgt := 1537) dL_law_980 (by decide) kk
set_option maxRecDepth 100000 in
theorem law_25 {l : Launch} {g : am_G} {i : Nat} {M M2 : am_M} {o : Option (Option Value × am_M)} {x : Int32} (hsn : am_sn g ≤ 3072) (hi : i + 6 ≤ am_sn g) (hp : am_pair l g d_X10_loads d_X11_loads [] M M2 (.int x)) (kk : am_E l g d_L_law 1537 (am_LLS i) [] M2 o) : am_E l g d_L_law 985 (am_LLS i) [] M o := by
  obtain ⟨h9, M1, e1, h10, e2⟩ := hp
  refine e_aload_n dL_law_985 rfl ?_
  refine k_callV0 (k0 := 9) (As := []) rfl dL_law_986 lm_W_118 (am_fitB rfl) yo_X10_loads ys_X10_loads rfl rfl (by decide) h9 rfl (Nat.le_of_ble_eq_true rfl) (Nat.le_of_ble_eq_true rfl) e1 ?_
  refine e_aload_n dL_law_989 rfl ?_
  refine k_callV0 (k0 := 10) (As := []) rfl dL_law_990 lm_W_121 (am_fitB rfl) yo_X11_loads ys_X11_loads rfl rfl (by decide) h10 rfl (Nat.le_of_ble_eq_true rfl) (Nat.le_of_ble_eq_true rfl) e2 ?_
  exact k_eq (tgt := 1537) dL_law_993 (by decide) kk
set_option maxRecDepth 100000 in
theorem law_26 {l : Launch} {g : am_G} {i : Nat} {M M2 : am_M} {o : Option (Option Value × am_M)} {x : Int32} (hsn : am_sn g ≤ 3072) (hi : i + 6 ≤ am_sn g) (hp : am_pair l g d_X10_needs d_X11_needs [.int (am_sc g (i + 1))] M M2 (.int x)) (kk : am_E l g d_L_law 1537 (am_LLS i) [] M2 o) : am_E l g d_L_law 998 (am_LLS i) [] M o := by
  obtain ⟨h9, M1, e1, h10, e2⟩ := hp
  refine e_aload_n dL_law_998 rfl ?_
  refine e_aload_n dL_law_999 rfl ?_
  refine e_iload_n dL_law_1000 rfl ?_
  refine e_iconst (v := 1) dL_law_1001 (by decide) ?_
  refine e_iadd dL_law_1002 ?_
  refine k_sld (jn := i + 1) dL_law_1003 (nI_add i 1) (by omega) hsn ?_
  refine k_callV0 (k0 := 9) (As := [_]) rfl dL_law_1004 lm_W_122 (am_fitB rfl) yo_X10_needs ys_X10_needs rfl rfl (by decide) h9 rfl (Nat.le_of_ble_eq_true rfl) (Nat.le_of_ble_eq_true rfl) e1 ?_
  refine e_aload_n dL_law_1007 rfl ?_
  refine e_aload_n dL_law_1008 rfl ?_
  refine e_iload_n dL_law_1009 rfl ?_
  refine e_iconst (v := 1) dL_law_1010 (by decide) ?_
  refine e_iadd dL_law_1011 ?_
  refine k_sld (jn := i + 1) dL_law_1012 (nI_add i 1) (by omega) hsn ?_
  refine k_callV0 (k0 := 10) (As := [_]) rfl dL_law_1013 lm_W_125 (am_fitB rfl) yo_X11_needs ys_X11_needs rfl rfl (by decide) h10 rfl (Nat.le_of_ble_eq_true rfl) (Nat.le_of_ble_eq_true rfl) e2 ?_
  exact k_eq (tgt := 1537) dL_law_1016 (by decide) kk
set_option maxRecDepth 100000 in
theorem law_27 {l : Launch} {g : am_G} {i : Nat} {M M2 : am_M} {o : Option (Option Value × am_M)} {x : Int32} (hsn : am_sn g ≤ 3072) (hi : i + 6 ≤ am_sn g) (hp : am_pair l g d_X10_store d_X11_store [.int (am_sc g (i + 1)), .int (am_sc g (i + 2))] M M2 (.int x)) (kk : am_E l g d_L_law 1537 (am_LLS i) [] M2 o) : am_E l g d_L_law 1021 (am_LLS i) [] M o := by
  obtain ⟨h9, M1, e1, h10, e2⟩ := hp
  refine e_aload_n dL_law_1021 rfl ?_
  refine e_aload_n dL_law_1022 rfl ?_
  refine e_iload_n dL_law_1023 rfl ?_
  refine e_iconst (v := 1) dL_law_1024 (by decide) ?_
  refine e_iadd dL_law_1025 ?_
  refine k_sld (jn := i + 1) dL_law_1026 (nI_add i 1) (by omega) hsn ?_
  refine e_aload_n dL_law_1027 rfl ?_
  refine e_iload_n dL_law_1028 rfl ?_
  refine e_iconst (v := 2) dL_law_1029 (by decide) ?_
  refine e_iadd dL_law_1030 ?_
  refine k_sld (jn := i + 2) dL_law_1031 (nI_add i 2) (by omega) hsn ?_
  refine k_callV0 (k0 := 9) (As := [_, _]) rfl dL_law_1032 lm_W_126 (am_fitB rfl) yo_X10_store ys_X10_store rfl rfl (by decide) h9 rfl (Nat.le_of_ble_eq_true rfl) (Nat.le_of_ble_eq_true rfl) e1 ?_
  refine e_aload_n dL_law_1035 rfl ?_
  refine e_aload_n dL_law_1036 rfl ?_
  refine e_iload_n dL_law_1037 rfl ?_
  refine e_iconst (v := 1) dL_law_1038 (by decide) ?_
  refine e_iadd dL_law_1039 ?_
  refine k_sld (jn := i + 1) dL_law_1040 (nI_add i 1) (by omega) hsn ?_
  refine e_aload_n dL_law_1041 rfl ?_
  refine e_iload_n dL_law_1042 rfl ?_
  refine e_iconst (v := 2) dL_law_1043 (by decide) ?_
  refine e_iadd dL_law_1044 ?_
  refine k_sld (jn := i + 2) dL_law_1045 (nI_add i 2) (by omega) hsn ?_
  refine k_callV0 (k0 := 10) (As := [_, _]) rfl dL_law_1046 lm_W_129 (am_fitB rfl) yo_X11_store ys_X11_store rfl rfl (by decide) h10 rfl (Nat.le_of_ble_eq_true rfl) (Nat.le_of_ble_eq_true rfl) e2 ?_
  exact k_eq (tgt := 1537) dL_law_1049 (by decide) kk
set_option maxRecDepth 100000 in
theorem law_28 {l : Launch} {g : am_G} {i : Nat} {M M2 : am_M} {o : Option (Option Value × am_M)} {x : Int32} (hsn : am_sn g ≤ 3072) (hi : i + 6 ≤ am_sn g) (hp : am_pair l g d_X10_pours d_X11_pours [.int (am_sc g (i + 1)), .int (am_sc g (i + 2))] M M2 (.int x)) (kk : am_E l g d_L_law 1537 (am_LLS i) [] M2 o) : am_E l g d_L_law 1054 (am_LLS i) [] M o := by
  obtain ⟨h9, M1, e1, h10, e2⟩ := hp
  refine e_aload_n dL_law_1054 rfl ?_
  refine e_aload_n dL_law_1055 rfl ?_
  refine e_iload_n dL_law_1056 rfl ?_
  refine e_iconst (v := 1) dL_law_1057 (by decide) ?_
  refine e_iadd dL_law_1058 ?_
  refine k_sld (jn := i + 1) dL_law_1059 (nI_add i 1) (by omega) hsn ?_
  refine e_aload_n dL_law_1060 rfl ?_
  refine e_iload_n dL_law_1061 rfl ?_
  refine e_iconst (v := 2) dL_law_1062 (by decide) ?_
  refine e_iadd dL_law_1063 ?_
  refine k_sld (jn := i + 2) dL_law_1064 (nI_add i 2) (by omega) hsn ?_
  refine k_callV0 (k0 := 9) (As := [_, _]) rfl dL_law_1065 lm_W_130 (am_fitB rfl) yo_X10_pours ys_X10_pours rfl rfl (by decide) h9 rfl (Nat.le_of_ble_eq_true rfl) (Nat.le_of_ble_eq_true rfl) e1 ?_
  refine e_aload_n dL_law_1068 rfl ?_
  refine e_aload_n dL_law_1069 rfl ?_
  refine e_iload_n dL_law_1070 rfl ?_
  refine e_iconst (v := 1) dL_law_1071 (by decide) ?_
  refine e_iadd dL_law_1072 ?_
  refine k_sld (jn := i + 1) dL_law_1073 (nI_add i 1) (by omega) hsn ?_
  refine e_aload_n dL_law_1074 rfl ?_
  refine e_iload_n dL_law_1075 rfl ?_
  refine e_iconst (v := 2) dL_law_1076 (by decide) ?_
  refine e_iadd dL_law_1077 ?_
  refine k_sld (jn := i + 2) dL_law_1078 (nI_add i 2) (by omega) hsn ?_
  refine k_callV0 (k0 := 10) (As := [_, _]) rfl dL_law_1079 lm_W_133 (am_fitB rfl) yo_X11_pours ys_X11_pours rfl rfl (by decide) h10 rfl (Nat.le_of_ble_eq_true rfl) (Nat.le_of_ble_eq_true rfl) e2 ?_
  exact k_eq (tgt := 1537) dL_law_1082 (by decide) kk
set_option maxRecDepth 100000 in
theorem law_29 {l : Launch} {g : am_G} {i : Nat} {M M2 : am_M} {o : Option (Option Value × am_M)} {x : Int32} (hsn : am_sn g ≤ 3072) (hi : i + 6 ≤ am_sn g) (hp : am_pair l g d_X10_way d_X11_way [.int (am_sc g (i + 1)), .int (am_sc g (i + 2)), .int (am_sc g (i + 3))] M M2 (.int x)) (kk : am_E l g d_L_law 1537 (am_LLS i) [] M2 o) : am_E l g d_L_law 1087 (am_LLS i) [] M o := by
  obtain ⟨h9, M1, e1, h10, e2⟩ := hp
  refine e_aload_n dL_law_1087 rfl ?_
  refine e_aload_n dL_law_1088 rfl ?_
  refine e_iload_n dL_law_1089 rfl ?_
  refine e_iconst (v := 1) dL_law_1090 (by decide) ?_
  refine e_iadd dL_law_1091 ?_
  refine k_sld (jn := i + 1) dL_law_1092 (nI_add i 1) (by omega) hsn ?_
  refine e_aload_n dL_law_1093 rfl ?_
  refine e_iload_n dL_law_1094 rfl ?_
  refine e_iconst (v := 2) dL_law_1095 (by decide) ?_
  refine e_iadd dL_law_1096 ?_
  refine k_sld (jn := i + 2) dL_law_1097 (nI_add i 2) (by omega) hsn ?_
  refine e_aload_n dL_law_1098 rfl ?_
  refine e_iload_n dL_law_1099 rfl ?_
  refine e_iconst (v := 3) dL_law_1100 (by decide) ?_
  refine e_iadd dL_law_1101 ?_
  refine k_sld (jn := i + 3) dL_law_1102 (nI_add i 3) (by omega) hsn ?_
  refine k_callV0 (k0 := 9) (As := [_, _, _]) rfl dL_law_1103 lm_W_134 (am_fitB rfl) yo_X10_way ys_X10_way rfl rfl (by decide) h9 rfl (Nat.le_of_ble_eq_true rfl) (Nat.le_of_ble_eq_true rfl) e1 ?_
  refine e_aload_n dL_law_1106 rfl ?_
  refine e_aload_n dL_law_1107 rfl ?_
  refine e_iload_n dL_law_1108 rfl ?_
  refine e_iconst (v := 1) dL_law_1109 (by decide) ?_
  refine e_iadd dL_law_1110 ?_
  refine k_sld (jn := i + 1) dL_law_1111 (nI_add i 1) (by omega) hsn ?_
  refine e_aload_n dL_law_1112 rfl ?_
  refine e_iload_n dL_law_1113 rfl ?_
  refine e_iconst (v := 2) dL_law_1114 (by decide) ?_
  refine e_iadd dL_law_1115 ?_
  refine k_sld (jn := i + 2) dL_law_1116 (nI_add i 2) (by omega) hsn ?_
  refine e_aload_n dL_law_1117 rfl ?_
  refine e_iload_n dL_law_1118 rfl ?_
  refine e_iconst (v := 3) dL_law_1119 (by decide) ?_
  refine e_iadd dL_law_1120 ?_
  refine k_sld (jn := i + 3) dL_law_1121 (nI_add i 3) (by omega) hsn ?_
  refine k_callV0 (k0 := 10) (As := [_, _, _]) rfl dL_law_1122 lm_W_137 (am_fitB rfl) yo_X11_way ys_X11_way rfl rfl (by decide) h10 rfl (Nat.le_of_ble_eq_true rfl) (Nat.le_of_ble_eq_true rfl) e2 ?_
  exact k_eq (tgt := 1537) dL_law_1125 (by decide) kk
set_option maxRecDepth 100000 in
theorem law_30 {l : Launch} {g : am_G} {i : Nat} {M M2 : am_M} {o : Option (Option Value × am_M)} {x : Int32} (hsn : am_sn g ≤ 3072) (hi : i + 6 ≤ am_sn g) (hp : am_pair l g d_X10_loss d_X11_loss [.int (am_sc g (i + 1)), .int (am_sc g (i + 2))] M M2 (.int x)) (kk : am_E l g d_L_law 1537 (am_LLS i) [] M2 o) : am_E l g d_L_law 1130 (am_LLS i) [] M o := by
  obtain ⟨h9, M1, e1, h10, e2⟩ := hp
  refine e_aload_n dL_law_1130 rfl ?_
  refine e_aload_n dL_law_1131 rfl ?_
  refine e_iload_n dL_law_1132 rfl ?_
  refine e_iconst (v := 1) dL_law_1133 (by decide) ?_
  refine e_iadd dL_law_1134 ?_
  refine k_sld (jn := i + 1) dL_law_1135 (nI_add i 1) (by omega) hsn ?_
  refine e_aload_n dL_law_1136 rfl ?_
  refine e_iload_n dL_law_1137 rfl ?_
  refine e_iconst (v := 2) dL_law_1138 (by decide) ?_
  refine e_iadd dL_law_1139 ?_
  refine k_sld (jn := i + 2) dL_law_1140 (nI_add i 2) (by omega) hsn ?_
  refine k_callV0 (k0 := 9) (As := [_, _]) rfl dL_law_1141 lm_W_138 (am_fitB rfl) yo_X10_loss ys_X10_loss rfl rfl (by decide) h9 rfl (Nat.le_of_ble_eq_true rfl) (Nat.le_of_ble_eq_true rfl) e1 ?_
  refine e_aload_n dL_law_1144 rfl ?_
  refine e_aload_n dL_law_1145 rfl ?_
  refine e_iload_n dL_law_1146 rfl ?_
  refine e_iconst (v := 1) dL_law_1147 (by decide) ?_
  refine e_iadd dL_law_1148 ?_
  refine k_sld (jn := i + 1) dL_law_1149 (nI_add i 1) (by omega) hsn ?_
  refine e_aload_n dL_law_1150 rfl ?_
  refine e_iload_n dL_law_1151 rfl ?_
  refine e_iconst (v := 2) dL_law_1152 (by decide) ?_
  refine e_iadd dL_law_1153 ?_
  refine k_sld (jn := i + 2) dL_law_1154 (nI_add i 2) (by omega) hsn ?_
  refine k_callV0 (k0 := 10) (As := [_, _]) rfl dL_law_1155 lm_W_141 (am_fitB rfl) yo_X11_loss ys_X11_loss rfl rfl (by decide) h10 rfl (Nat.le_of_ble_eq_true rfl) (Nat.le_of_ble_eq_true rfl) e2 ?_
  exact k_eq (tgt := 1537) dL_law_1158 (by decide) kk
set_option maxRecDepth 100000 in
theorem law_31 {l : Launch} {g : am_G} {i : Nat} {M M2 : am_M} {o : Option (Option Value × am_M)} {x : Int32} (hsn : am_sn g ≤ 3072) (hi : i + 6 ≤ am_sn g) (hp : am_pair l g d_X10_most d_X11_most [.int (am_sc g (i + 1))] M M2 (.int x)) (kk : am_E l g d_L_law 1537 (am_LLS i) [] M2 o) : am_E l g d_L_law 1163 (am_LLS i) [] M o := by
  obtain ⟨h9, M1, e1, h10, e2⟩ := hp
  refine e_aload_n dL_law_1163 rfl ?_
  refine e_aload_n dL_law_1164 rfl ?_
  refine e_iload_n dL_law_1165 rfl ?_
  refine e_iconst (v := 1) dL_law_1166 (by decide) ?_
  refine e_iadd dL_law_1167 ?_
  refine k_sld (jn := i + 1) dL_law_1168 (nI_add i 1) (by omega) hsn ?_
  refine k_callV0 (k0 := 9) (As := [_]) rfl dL_law_1169 lm_W_142 (am_fitB rfl) yo_X10_most ys_X10_most rfl rfl (by decide) h9 rfl (Nat.le_of_ble_eq_true rfl) (Nat.le_of_ble_eq_true rfl) e1 ?_
  refine e_aload_n dL_law_1172 rfl ?_
  refine e_aload_n dL_law_1173 rfl ?_
  refine e_iload_n dL_law_1174 rfl ?_
  refine e_iconst (v := 1) dL_law_1175 (by decide) ?_
  refine e_iadd dL_law_1176 ?_
  refine k_sld (jn := i + 1) dL_law_1177 (nI_add i 1) (by omega) hsn ?_
  refine k_callV0 (k0 := 10) (As := [_]) rfl dL_law_1178 lm_W_145 (am_fitB rfl) yo_X11_most ys_X11_most rfl rfl (by decide) h10 rfl (Nat.le_of_ble_eq_true rfl) (Nat.le_of_ble_eq_true rfl) e2 ?_
  exact k_eq (tgt := 1537) dL_law_1181 (by decide) kk
set_option maxRecDepth 100000 in
theorem law_32 {l : Launch} {g : am_G} {i : Nat} {M M2 : am_M} {o : Option (Option Value × am_M)} {x : Int32} (hsn : am_sn g ≤ 3072) (hi : i + 6 ≤ am_sn g) (hp : am_pair l g d_X10_burnt d_X11_burnt [.int (am_sc g (i + 1)), .int (am_sc g (i + 2))] M M2 (.int x)) (kk : am_E l g d_L_law 1537 (am_LLS i) [] M2 o) : am_E l g d_L_law 1186 (am_LLS i) [] M o := by
  obtain ⟨h9, M1, e1, h10, e2⟩ := hp
  refine e_aload_n dL_law_1186 rfl ?_
  refine e_aload_n dL_law_1187 rfl ?_
  refine e_iload_n dL_law_1188 rfl ?_
  refine e_iconst (v := 1) dL_law_1189 (by decide) ?_
  refine e_iadd dL_law_1190 ?_
  refine k_sld (jn := i + 1) dL_law_1191 (nI_add i 1) (by omega) hsn ?_
  refine e_aload_n dL_law_1192 rfl ?_
  refine e_iload_n dL_law_1193 rfl ?_
  refine e_iconst (v := 2) dL_law_1194 (by decide) ?_
  refine e_iadd dL_law_1195 ?_
  refine k_sld (jn := i + 2) dL_law_1196 (nI_add i 2) (by omega) hsn ?_
  refine k_callV0 (k0 := 9) (As := [_, _]) rfl dL_law_1197 lm_W_146 (am_fitB rfl) yo_X10_burnt ys_X10_burnt rfl rfl (by decide) h9 rfl (Nat.le_of_ble_eq_true rfl) (Nat.le_of_ble_eq_true rfl) e1 ?_
  refine e_aload_n dL_law_1200 rfl ?_
  refine e_aload_n dL_law_1201 rfl ?_
  refine e_iload_n dL_law_1202 rfl ?_
  refine e_iconst (v := 1) dL_law_1203 (by decide) ?_
  refine e_iadd dL_law_1204 ?_
  refine k_sld (jn := i + 1) dL_law_1205 (nI_add i 1) (by omega) hsn ?_
  refine e_aload_n dL_law_1206 rfl ?_
  refine e_iload_n dL_law_1207 rfl ?_
  refine e_iconst (v := 2) dL_law_1208 (by decide) ?_
  refine e_iadd dL_law_1209 ?_
  refine k_sld (jn := i + 2) dL_law_1210 (nI_add i 2) (by omega) hsn ?_
  refine k_callV0 (k0 := 10) (As := [_, _]) rfl dL_law_1211 lm_W_149 (am_fitB rfl) yo_X11_burnt ys_X11_burnt rfl rfl (by decide) h10 rfl (Nat.le_of_ble_eq_true rfl) (Nat.le_of_ble_eq_true rfl) e2 ?_
  exact k_eq (tgt := 1537) dL_law_1214 (by decide) kk
set_option maxRecDepth 100000 in
theorem law_33 {l : Launch} {g : am_G} {i : Nat} {M M2 : am_M} {o : Option (Option Value × am_M)} {x : Int32} (hsn : am_sn g ≤ 3072) (hi : i + 6 ≤ am_sn g) (hp : am_pair l g d_X10_forget d_X11_forget [.int (am_sc g (i + 1))] M M2 (.int x)) (kk : am_E l g d_L_law 1537 (am_LLS i) [] M2 o) : am_E l g d_L_law 1219 (am_LLS i) [] M o := by
  obtain ⟨h9, M1, e1, h10, e2⟩ := hp
  refine e_aload_n dL_law_1219 rfl ?_
  refine e_aload_n dL_law_1220 rfl ?_
  refine e_iload_n dL_law_1221 rfl ?_
  refine e_iconst (v := 1) dL_law_1222 (by decide) ?_
  refine e_iadd dL_law_1223 ?_
  refine k_sld (jn := i + 1) dL_law_1224 (nI_add i 1) (by omega) hsn ?_
  refine k_callV0 (k0 := 9) (As := [_]) rfl dL_law_1225 lm_W_150 (am_fitB rfl) yo_X10_forget ys_X10_forget rfl rfl (by decide) h9 rfl (Nat.le_of_ble_eq_true rfl) (Nat.le_of_ble_eq_true rfl) e1 ?_
  refine e_aload_n dL_law_1228 rfl ?_
  refine e_aload_n dL_law_1229 rfl ?_
  refine e_iload_n dL_law_1230 rfl ?_
  refine e_iconst (v := 1) dL_law_1231 (by decide) ?_
  refine e_iadd dL_law_1232 ?_
  refine k_sld (jn := i + 1) dL_law_1233 (nI_add i 1) (by omega) hsn ?_
  refine k_callV0 (k0 := 10) (As := [_]) rfl dL_law_1234 lm_W_153 (am_fitB rfl) yo_X11_forget ys_X11_forget rfl rfl (by decide) h10 rfl (Nat.le_of_ble_eq_true rfl) (Nat.le_of_ble_eq_true rfl) e2 ?_
  exact k_eq (tgt := 1537) dL_law_1237 (by decide) kk
set_option maxRecDepth 100000 in
theorem law_34 {l : Launch} {g : am_G} {i : Nat} {M M2 : am_M} {o : Option (Option Value × am_M)} {x : Int32} (hsn : am_sn g ≤ 3072) (hi : i + 6 ≤ am_sn g) (hp : am_pair l g d_X10_mixed d_X11_mixed [] M M2 (.int x)) (kk : am_E l g d_L_law 1537 (am_LLS i) [] M2 o) : am_E l g d_L_law 1242 (am_LLS i) [] M o := by
  obtain ⟨h9, M1, e1, h10, e2⟩ := hp
  refine e_aload_n dL_law_1242 rfl ?_
  refine k_callV0 (k0 := 9) (As := []) rfl dL_law_1243 lm_W_154 (am_fitB rfl) yo_X10_mixed ys_X10_mixed rfl rfl (by decide) h9 rfl (Nat.le_of_ble_eq_true rfl) (Nat.le_of_ble_eq_true rfl) e1 ?_
  refine e_aload_n dL_law_1246 rfl ?_
  refine k_callV0 (k0 := 10) (As := []) rfl dL_law_1247 lm_W_157 (am_fitB rfl) yo_X11_mixed ys_X11_mixed rfl rfl (by decide) h10 rfl (Nat.le_of_ble_eq_true rfl) (Nat.le_of_ble_eq_true rfl) e2 ?_
  exact k_eq (tgt := 1537) dL_law_1250 (by decide) kk
set_option maxRecDepth 100000 in
theorem law_35 {l : Launch} {g : am_G} {i : Nat} {M M2 : am_M} {o : Option (Option Value × am_M)} {x : Int32} (hsn : am_sn g ≤ 3072) (hi : i + 6 ≤ am_sn g) (hp : am_pair l g d_X10_sure d_X11_sure [] M M2 (.int x)) (kk : am_E l g d_L_law 1537 (am_LLS i) [] M2 o) : am_E l g d_L_law 1255 (am_LLS i) [] M o := by
  obtain ⟨h9, M1, e1, h10, e2⟩ := hp
  refine e_aload_n dL_law_1255 rfl ?_
  refine k_callV0 (k0 := 9) (As := []) rfl dL_law_1256 lm_W_158 (am_fitB rfl) yo_X10_sure ys_X10_sure rfl rfl (by decide) h9 rfl (Nat.le_of_ble_eq_true rfl) (Nat.le_of_ble_eq_true rfl) e1 ?_
  refine e_aload_n dL_law_1259 rfl ?_
  refine k_callV0 (k0 := 10) (As := []) rfl dL_law_1260 lm_W_161 (am_fitB rfl) yo_X11_sure ys_X11_sure rfl rfl (by decide) h10 rfl (Nat.le_of_ble_eq_true rfl) (Nat.le_of_ble_eq_true rfl) e2 ?_
  exact k_eq (tgt := 1537) dL_law_1263 (by decide) kk
set_option maxRecDepth 100000 in
theorem law_36 {l : Launch} {g : am_G} {i : Nat} {M M2 : am_M} {o : Option (Option Value × am_M)} {x : Int32} (hsn : am_sn g ≤ 3072) (hi : i + 6 ≤ am_sn g) (hp : am_pair l g d_X10_test d_X11_test [] M M2 (.int x)) (kk : am_E l g d_L_law 1537 (am_LLS i) [] M2 o) : am_E l g d_L_law 1268 (am_LLS i) [] M o := by
  obtain ⟨h9, M1, e1, h10, e2⟩ := hp
  refine e_aload_n dL_law_1268 rfl ?_
  refine k_callV0 (k0 := 9) (As := []) rfl dL_law_1269 lm_W_162 (am_fitB rfl) yo_X10_test ys_X10_test rfl rfl (by decide) h9 rfl (Nat.le_of_ble_eq_true rfl) (Nat.le_of_ble_eq_true rfl) e1 ?_
  refine e_aload_n dL_law_1272 rfl ?_
  refine k_callV0 (k0 := 10) (As := []) rfl dL_law_1273 lm_W_165 (am_fitB rfl) yo_X11_test ys_X11_test rfl rfl (by decide) h10 rfl (Nat.le_of_ble_eq_true rfl) (Nat.le_of_ble_eq_true rfl) e2 ?_
  exact k_eq (tgt := 1537) dL_law_1276 (by decide) kk
set_option maxRecDepth 100000 in
theorem law_37 {l : Launch} {g : am_G} {i : Nat} {M M2 : am_M} {o : Option (Option Value × am_M)} {x : Int32} (hsn : am_sn g ≤ 3072) (hi : i + 6 ≤ am_sn g) (hp : am_pair l g d_X10_theft d_X11_theft [.int (am_sc g (i + 1)), .int (am_sc g (i + 2))] M M2 (.int x)) (kk : am_E l g d_L_law 1537 (am_LLS i) [] M2 o) : am_E l g d_L_law 1281 (am_LLS i) [] M o := by
  obtain ⟨h9, M1, e1, h10, e2⟩ := hp
  refine e_aload_n dL_law_1281 rfl ?_
  refine e_aload_n dL_law_1282 rfl ?_
  refine e_iload_n dL_law_1283 rfl ?_
  refine e_iconst (v := 1) dL_law_1284 (by decide) ?_
  refine e_iadd dL_law_1285 ?_
  refine k_sld (jn := i + 1) dL_law_1286 (nI_add i 1) (by omega) hsn ?_
  refine e_aload_n dL_law_1287 rfl ?_
  refine e_iload_n dL_law_1288 rfl ?_
  refine e_iconst (v := 2) dL_law_1289 (by decide) ?_
  refine e_iadd dL_law_1290 ?_
  refine k_sld (jn := i + 2) dL_law_1291 (nI_add i 2) (by omega) hsn ?_
  refine k_callV0 (k0 := 9) (As := [_, _]) rfl dL_law_1292 lm_W_166 (am_fitB rfl) yo_X10_theft ys_X10_theft rfl rfl (by decide) h9 rfl (Nat.le_of_ble_eq_true rfl) (Nat.le_of_ble_eq_true rfl) e1 ?_
  refine e_aload_n dL_law_1295 rfl ?_
  refine e_aload_n dL_law_1296 rfl ?_
  refine e_iload_n dL_law_1297 rfl ?_
  refine e_iconst (v := 1) dL_law_1298 (by decide) ?_
  refine e_iadd dL_law_1299 ?_
  refine k_sld (jn := i + 1) dL_law_1300 (nI_add i 1) (by omega) hsn ?_
  refine e_aload_n dL_law_1301 rfl ?_
  refine e_iload_n dL_law_1302 rfl ?_
  refine e_iconst (v := 2) dL_law_1303 (by decide) ?_
  refine e_iadd dL_law_1304 ?_
  refine k_sld (jn := i + 2) dL_law_1305 (nI_add i 2) (by omega) hsn ?_
  refine k_callV0 (k0 := 10) (As := [_, _]) rfl dL_law_1306 lm_W_169 (am_fitB rfl) yo_X11_theft ys_X11_theft rfl rfl (by decide) h10 rfl (Nat.le_of_ble_eq_true rfl) (Nat.le_of_ble_eq_true rfl) e2 ?_
  exact k_eq (tgt := 1537) dL_law_1309 (by decide) kk
set_option maxRecDepth 100000 in
theorem law_38 {l : Launch} {g : am_G} {i : Nat} {M M2 : am_M} {o : Option (Option Value × am_M)} {x : Int32} (hsn : am_sn g ≤ 3072) (hi : i + 6 ≤ am_sn g) (hp : am_pair l g d_X10_seats d_X11_seats [.int (am_sc g (i + 1)), .int (am_sc g (i + 2)), .int (am_sc g (i + 3))] M M2 (.int x)) (kk : am_E l g d_L_law 1537 (am_LLS i) [] M2 o) : am_E l g d_L_law 1314 (am_LLS i) [] M o := by
  obtain ⟨h9, M1, e1, h10, e2⟩ := hp
  refine e_aload_n dL_law_1314 rfl ?_
  refine e_aload_n dL_law_1315 rfl ?_
  refine e_iload_n dL_law_1316 rfl ?_
  refine e_iconst (v := 1) dL_law_1317 (by decide) ?_
  refine e_iadd dL_law_1318 ?_
  refine k_sld (jn := i + 1) dL_law_1319 (nI_add i 1) (by omega) hsn ?_
  refine e_aload_n dL_law_1320 rfl ?_
  refine e_iload_n dL_law_1321 rfl ?_
  refine e_iconst (v := 2) dL_law_1322 (by decide) ?_
  refine e_iadd dL_law_1323 ?_
  refine k_sld (jn := i + 2) dL_law_1324 (nI_add i 2) (by omega) hsn ?_
  refine e_aload_n dL_law_1325 rfl ?_
  refine e_iload_n dL_law_1326 rfl ?_
  refine e_iconst (v := 3) dL_law_1327 (by decide) ?_
  refine e_iadd dL_law_1328 ?_
  refine k_sld (jn := i + 3) dL_law_1329 (nI_add i 3) (by omega) hsn ?_
  refine k_callV0 (k0 := 9) (As := [_, _, _]) rfl dL_law_1330 lm_W_170 (am_fitB rfl) yo_X10_seats ys_X10_seats rfl rfl (by decide) h9 rfl (Nat.le_of_ble_eq_true rfl) (Nat.le_of_ble_eq_true rfl) e1 ?_
  refine e_aload_n dL_law_1333 rfl ?_
  refine e_aload_n dL_law_1334 rfl ?_
  refine e_iload_n dL_law_1335 rfl ?_
  refine e_iconst (v := 1) dL_law_1336 (by decide) ?_
  refine e_iadd dL_law_1337 ?_
  refine k_sld (jn := i + 1) dL_law_1338 (nI_add i 1) (by omega) hsn ?_
  refine e_aload_n dL_law_1339 rfl ?_
  refine e_iload_n dL_law_1340 rfl ?_
  refine e_iconst (v := 2) dL_law_1341 (by decide) ?_
  refine e_iadd dL_law_1342 ?_
  refine k_sld (jn := i + 2) dL_law_1343 (nI_add i 2) (by omega) hsn ?_
  refine e_aload_n dL_law_1344 rfl ?_
  refine e_iload_n dL_law_1345 rfl ?_
  refine e_iconst (v := 3) dL_law_1346 (by decide) ?_
  refine e_iadd dL_law_1347 ?_
  refine k_sld (jn := i + 3) dL_law_1348 (nI_add i 3) (by omega) hsn ?_
  refine k_callV0 (k0 := 10) (As := [_, _, _]) rfl dL_law_1349 lm_W_173 (am_fitB rfl) yo_X11_seats ys_X11_seats rfl rfl (by decide) h10 rfl (Nat.le_of_ble_eq_true rfl) (Nat.le_of_ble_eq_true rfl) e2 ?_
  exact k_eq (tgt := 1537) dL_law_1352 (by decide) kk
set_option maxRecDepth 100000 in
theorem law_39 {l : Launch} {g : am_G} {i : Nat} {M M2 : am_M} {o : Option (Option Value × am_M)} {x : Int32} (hsn : am_sn g ≤ 3072) (hi : i + 6 ≤ am_sn g) (hp : am_pair l g d_X10_mirror d_X11_mirror [.int (am_sc g (i + 1)), .int (am_sc g (i + 2))] M M2 (.int x)) (kk : am_E l g d_L_law 1537 (am_LLS i) [] M2 o) : am_E l g d_L_law 1357 (am_LLS i) [] M o := by
  obtain ⟨h9, M1, e1, h10, e2⟩ := hp
  refine e_aload_n dL_law_1357 rfl ?_
  refine e_aload_n dL_law_1358 rfl ?_
  refine e_iload_n dL_law_1359 rfl ?_
  refine e_iconst (v := 1) dL_law_1360 (by decide) ?_
  refine e_iadd dL_law_1361 ?_
  refine k_sld (jn := i + 1) dL_law_1362 (nI_add i 1) (by omega) hsn ?_
  refine e_aload_n dL_law_1363 rfl ?_
  refine e_iload_n dL_law_1364 rfl ?_
  refine e_iconst (v := 2) dL_law_1365 (by decide) ?_
  refine e_iadd dL_law_1366 ?_
  refine k_sld (jn := i + 2) dL_law_1367 (nI_add i 2) (by omega) hsn ?_
  refine k_callV0 (k0 := 9) (As := [_, _]) rfl dL_law_1368 lm_W_174 (am_fitB rfl) yo_X10_mirror ys_X10_mirror rfl rfl (by decide) h9 rfl (Nat.le_of_ble_eq_true rfl) (Nat.le_of_ble_eq_true rfl) e1 ?_
  refine e_aload_n dL_law_1371 rfl ?_
  refine e_aload_n dL_law_1372 rfl ?_
  refine e_iload_n dL_law_1373 rfl ?_
  refine e_iconst (v := 1) dL_law_1374 (by decide) ?_
  refine e_iadd dL_law_1375 ?_
  refine k_sld (jn := i + 1) dL_law_1376 (nI_add i 1) (by omega) hsn ?_
  refine e_aload_n dL_law_1377 rfl ?_
  refine e_iload_n dL_law_1378 rfl ?_
  refine e_iconst (v := 2) dL_law_1379 (by decide) ?_
  refine e_iadd dL_law_1380 ?_
  refine k_sld (jn := i + 2) dL_law_1381 (nI_add i 2) (by omega) hsn ?_
  refine k_callV0 (k0 := 10) (As := [_, _]) rfl dL_law_1382 lm_W_177 (am_fitB rfl) yo_X11_mirror ys_X11_mirror rfl rfl (by decide) h10 rfl (Nat.le_of_ble_eq_true rfl) (Nat.le_of_ble_eq_true rfl) e2 ?_
  exact k_eq (tgt := 1537) dL_law_1385 (by decide) kk
set_option maxRecDepth 100000 in
theorem law_40 {l : Launch} {g : am_G} {i : Nat} {M M2 : am_M} {o : Option (Option Value × am_M)} {x : Int32} (hsn : am_sn g ≤ 3072) (hi : i + 6 ≤ am_sn g) (hp : am_pair l g d_X10_lots d_X11_lots [.int (am_sc g (i + 1)), .int (am_sc g (i + 2))] M M2 (.int x)) (kk : am_E l g d_L_law 1537 (am_LLS i) [] M2 o) : am_E l g d_L_law 1390 (am_LLS i) [] M o := by
  obtain ⟨h9, M1, e1, h10, e2⟩ := hp
  refine e_aload_n dL_law_1390 rfl ?_
  refine e_aload_n dL_law_1391 rfl ?_
  refine e_iload_n dL_law_1392 rfl ?_
  refine e_iconst (v := 1) dL_law_1393 (by decide) ?_
  refine e_iadd dL_law_1394 ?_
  refine k_sld (jn := i + 1) dL_law_1395 (nI_add i 1) (by omega) hsn ?_
  refine e_aload_n dL_law_1396 rfl ?_
  refine e_iload_n dL_law_1397 rfl ?_
  refine e_iconst (v := 2) dL_law_1398 (by decide) ?_
  refine e_iadd dL_law_1399 ?_
  refine k_sld (jn := i + 2) dL_law_1400 (nI_add i 2) (by omega) hsn ?_
  refine k_callV0 (k0 := 9) (As := [_, _]) rfl dL_law_1401 lm_W_178 (am_fitB rfl) yo_X10_lots ys_X10_lots rfl rfl (by decide) h9 rfl (Nat.le_of_ble_eq_true rfl) (Nat.le_of_ble_eq_true rfl) e1 ?_
  refine e_aload_n dL_law_1404 rfl ?_
  refine e_aload_n dL_law_1405 rfl ?_
  refine e_iload_n dL_law_1406 rfl ?_
  refine e_iconst (v := 1) dL_law_1407 (by decide) ?_
  refine e_iadd dL_law_1408 ?_
  refine k_sld (jn := i + 1) dL_law_1409 (nI_add i 1) (by omega) hsn ?_
  refine e_aload_n dL_law_1410 rfl ?_
  refine e_iload_n dL_law_1411 rfl ?_
  refine e_iconst (v := 2) dL_law_1412 (by decide) ?_
  refine e_iadd dL_law_1413 ?_
  refine k_sld (jn := i + 2) dL_law_1414 (nI_add i 2) (by omega) hsn ?_
  refine k_callV0 (k0 := 10) (As := [_, _]) rfl dL_law_1415 lm_W_181 (am_fitB rfl) yo_X11_lots ys_X11_lots rfl rfl (by decide) h10 rfl (Nat.le_of_ble_eq_true rfl) (Nat.le_of_ble_eq_true rfl) e2 ?_
  exact k_eq (tgt := 1537) dL_law_1418 (by decide) kk
set_option maxRecDepth 100000 in
theorem law_41 {l : Launch} {g : am_G} {i : Nat} {M M2 : am_M} {o : Option (Option Value × am_M)} {x : Int32} (hsn : am_sn g ≤ 3072) (hi : i + 6 ≤ am_sn g) (hp : am_pair l g d_X10_asked d_X11_asked [] M M2 (.int x)) (kk : am_E l g d_L_law 1537 (am_LLS i) [] M2 o) : am_E l g d_L_law 1423 (am_LLS i) [] M o := by
  obtain ⟨h9, M1, e1, h10, e2⟩ := hp
  refine e_aload_n dL_law_1423 rfl ?_
  refine k_callV0 (k0 := 9) (As := []) rfl dL_law_1424 lm_W_182 (am_fitB rfl) yo_X10_asked ys_X10_asked rfl rfl (by decide) h9 rfl (Nat.le_of_ble_eq_true rfl) (Nat.le_of_ble_eq_true rfl) e1 ?_
  refine e_aload_n dL_law_1427 rfl ?_
  refine k_callV0 (k0 := 10) (As := []) rfl dL_law_1428 lm_W_185 (am_fitB rfl) yo_X11_asked ys_X11_asked rfl rfl (by decide) h10 rfl (Nat.le_of_ble_eq_true rfl) (Nat.le_of_ble_eq_true rfl) e2 ?_
  exact k_eq (tgt := 1537) dL_law_1431 (by decide) kk
set_option maxRecDepth 100000 in
theorem law_42 {l : Launch} {g : am_G} {i : Nat} {M M2 : am_M} {o : Option (Option Value × am_M)} {x : Int64} (hsn : am_sn g ≤ 3072) (hi : i + 6 ≤ am_sn g) (hp : am_pair l g d_X10_upper d_X11_upper [] M M2 (.long x)) (kk : am_E l g d_L_law 1537 (am_LLS i) [] M2 o) : am_E l g d_L_law 1436 (am_LLS i) [] M o := by
  obtain ⟨h9, M1, e1, h10, e2⟩ := hp
  refine e_aload_n dL_law_1436 rfl ?_
  refine k_callV0 (k0 := 9) (As := []) rfl dL_law_1437 lm_W_186 (am_fitB rfl) yo_X10_upper ys_X10_upper rfl rfl (by decide) h9 rfl (Nat.le_of_ble_eq_true rfl) (Nat.le_of_ble_eq_true rfl) e1 ?_
  refine e_aload_n dL_law_1440 rfl ?_
  refine k_callV0 (k0 := 10) (As := []) rfl dL_law_1441 lm_W_190 (am_fitB rfl) yo_X11_upper ys_X11_upper rfl rfl (by decide) h10 rfl (Nat.le_of_ble_eq_true rfl) (Nat.le_of_ble_eq_true rfl) e2 ?_
  exact k_leq (tgt := 1537) dL_law_1444 dL_law_1445 (by decide) kk
set_option maxRecDepth 100000 in
theorem law_43 {l : Launch} {g : am_G} {i : Nat} {M M2 : am_M} {o : Option (Option Value × am_M)} {x : Int64} (hsn : am_sn g ≤ 3072) (hi : i + 6 ≤ am_sn g) (hp : am_pair l g d_X10_lower d_X11_lower [] M M2 (.long x)) (kk : am_E l g d_L_law 1537 (am_LLS i) [] M2 o) : am_E l g d_L_law 1450 (am_LLS i) [] M o := by
  obtain ⟨h9, M1, e1, h10, e2⟩ := hp
  refine e_aload_n dL_law_1450 rfl ?_
  refine k_callV0 (k0 := 9) (As := []) rfl dL_law_1451 lm_W_191 (am_fitB rfl) yo_X10_lower ys_X10_lower rfl rfl (by decide) h9 rfl (Nat.le_of_ble_eq_true rfl) (Nat.le_of_ble_eq_true rfl) e1 ?_
  refine e_aload_n dL_law_1454 rfl ?_
  refine k_callV0 (k0 := 10) (As := []) rfl dL_law_1455 lm_W_194 (am_fitB rfl) yo_X11_lower ys_X11_lower rfl rfl (by decide) h10 rfl (Nat.le_of_ble_eq_true rfl) (Nat.le_of_ble_eq_true rfl) e2 ?_
  exact k_leq (tgt := 1537) dL_law_1458 dL_law_1459 (by decide) kk
set_option maxRecDepth 100000 in
theorem law_44 {l : Launch} {g : am_G} {i : Nat} {M M2 : am_M} {o : Option (Option Value × am_M)} {x : Int32} (hsn : am_sn g ≤ 3072) (hi : i + 6 ≤ am_sn g) (hp : am_pair l g d_X10_count d_X11_count [.int (am_sc g (i + 1))] M M2 (.int x)) (kk : am_E l g d_L_law 1537 (am_LLS i) [] M2 o) : am_E l g d_L_law 1464 (am_LLS i) [] M o := by
  obtain ⟨h9, M1, e1, h10, e2⟩ := hp
  refine e_aload_n dL_law_1464 rfl ?_
  refine e_aload_n dL_law_1465 rfl ?_
  refine e_iload_n dL_law_1466 rfl ?_
  refine e_iconst (v := 1) dL_law_1467 (by decide) ?_
  refine e_iadd dL_law_1468 ?_
  refine k_sld (jn := i + 1) dL_law_1469 (nI_add i 1) (by omega) hsn ?_
  refine k_callV0 (k0 := 9) (As := [_]) rfl dL_law_1470 lm_W_195 (am_fitB rfl) yo_X10_count ys_X10_count rfl rfl (by decide) h9 rfl (Nat.le_of_ble_eq_true rfl) (Nat.le_of_ble_eq_true rfl) e1 ?_
  refine e_aload_n dL_law_1473 rfl ?_
  refine e_aload_n dL_law_1474 rfl ?_
  refine e_iload_n dL_law_1475 rfl ?_
  refine e_iconst (v := 1) dL_law_1476 (by decide) ?_
  refine e_iadd dL_law_1477 ?_
  refine k_sld (jn := i + 1) dL_law_1478 (nI_add i 1) (by omega) hsn ?_
  refine k_callV0 (k0 := 10) (As := [_]) rfl dL_law_1479 lm_W_198 (am_fitB rfl) yo_X11_count ys_X11_count rfl rfl (by decide) h10 rfl (Nat.le_of_ble_eq_true rfl) (Nat.le_of_ble_eq_true rfl) e2 ?_
  exact k_eq (tgt := 1537) dL_law_1482 (by decide) kk
set_option maxRecDepth 100000 in
theorem law_45 {l : Launch} {g : am_G} {i : Nat} {M M2 : am_M} {o : Option (Option Value × am_M)} {x : Int32} (hsn : am_sn g ≤ 3072) (hi : i + 6 ≤ am_sn g) (hp : am_pair l g d_X10_finding d_X11_finding [] M M2 (.int x)) (kk : am_E l g d_L_law 1537 (am_LLS i) [] M2 o) : am_E l g d_L_law 1487 (am_LLS i) [] M o := by
  obtain ⟨h9, M1, e1, h10, e2⟩ := hp
  refine e_aload_n dL_law_1487 rfl ?_
  refine k_callV0 (k0 := 9) (As := []) rfl dL_law_1488 lm_W_199 (am_fitB rfl) yo_X10_finding ys_X10_finding rfl rfl (by decide) h9 rfl (Nat.le_of_ble_eq_true rfl) (Nat.le_of_ble_eq_true rfl) e1 ?_
  refine e_aload_n dL_law_1491 rfl ?_
  refine k_callV0 (k0 := 10) (As := []) rfl dL_law_1492 lm_W_202 (am_fitB rfl) yo_X11_finding ys_X11_finding rfl rfl (by decide) h10 rfl (Nat.le_of_ble_eq_true rfl) (Nat.le_of_ble_eq_true rfl) e2 ?_
  exact k_eq (tgt := 1537) dL_law_1495 (by decide) kk
set_option maxRecDepth 100000 in
theorem law_46 {l : Launch} {g : am_G} {i : Nat} {M M2 : am_M} {o : Option (Option Value × am_M)} {x : Int32} (hsn : am_sn g ≤ 3072) (hi : i + 6 ≤ am_sn g) (hp : am_pair l g d_X10_findings d_X11_findings [.int (am_sc g (i + 1))] M M2 (.int x)) (kk : am_E l g d_L_law 1537 (am_LLS i) [] M2 o) : am_E l g d_L_law 1500 (am_LLS i) [] M o := by
  obtain ⟨h9, M1, e1, h10, e2⟩ := hp
  refine e_aload_n dL_law_1500 rfl ?_
  refine e_aload_n dL_law_1501 rfl ?_
  refine e_iload_n dL_law_1502 rfl ?_
  refine e_iconst (v := 1) dL_law_1503 (by decide) ?_
  refine e_iadd dL_law_1504 ?_
  refine k_sld (jn := i + 1) dL_law_1505 (nI_add i 1) (by omega) hsn ?_
  refine k_callV0 (k0 := 9) (As := [_]) rfl dL_law_1506 lm_W_203 (am_fitB rfl) yo_X10_findings ys_X10_findings rfl rfl (by decide) h9 rfl (Nat.le_of_ble_eq_true rfl) (Nat.le_of_ble_eq_true rfl) e1 ?_
  refine e_aload_n dL_law_1509 rfl ?_
  refine e_aload_n dL_law_1510 rfl ?_
  refine e_iload_n dL_law_1511 rfl ?_
  refine e_iconst (v := 1) dL_law_1512 (by decide) ?_
  refine e_iadd dL_law_1513 ?_
  refine k_sld (jn := i + 1) dL_law_1514 (nI_add i 1) (by omega) hsn ?_
  refine k_callV0 (k0 := 10) (As := [_]) rfl dL_law_1515 lm_W_206 (am_fitB rfl) yo_X11_findings ys_X11_findings rfl rfl (by decide) h10 rfl (Nat.le_of_ble_eq_true rfl) (Nat.le_of_ble_eq_true rfl) e2 ?_
  exact k_eq (tgt := 1537) dL_law_1518 (by decide) kk
set_option maxRecDepth 100000 in
theorem law_47 {l : Launch} {g : am_G} {i : Nat} {M M2 : am_M} {o : Option (Option Value × am_M)} {x : Int64} (hsn : am_sn g ≤ 3072) (hi : i + 6 ≤ am_sn g) (hp : am_pair l g d_X10_digest d_X11_digest [] M M2 (.long x)) (kk : am_E l g d_L_law 1537 (am_LLS i) [] M2 o) : am_E l g d_L_law 1523 (am_LLS i) [] M o := by
  obtain ⟨h9, M1, e1, h10, e2⟩ := hp
  refine e_aload_n dL_law_1523 rfl ?_
  refine k_callV0 (k0 := 9) (As := []) rfl dL_law_1524 lm_W_207 (am_fitB rfl) yo_X10_digest ys_X10_digest rfl rfl (by decide) h9 rfl (Nat.le_of_ble_eq_true rfl) (Nat.le_of_ble_eq_true rfl) e1 ?_
  refine e_aload_n dL_law_1527 rfl ?_
  refine k_callV0 (k0 := 10) (As := []) rfl dL_law_1528 lm_W_210 (am_fitB rfl) yo_X11_digest ys_X11_digest rfl rfl (by decide) h10 rfl (Nat.le_of_ble_eq_true rfl) (Nat.le_of_ble_eq_true rfl) e2 ?_
  exact k_leq (tgt := 1537) dL_law_1531 dL_law_1532 (by decide) kk
def am_ops : Nat → Option (am_Y × am_Y × Nat × Bool)
  | 0 => some (d_X10_row, d_X11_row, 2, false)
  | 1 => some (d_X10_lay, d_X11_lay, 3, false)
  | 2 => some (d_X10_at, d_X11_at, 2, false)
  | 3 => some (d_X10_tear, d_X11_tear, 1, false)
  | 4 => some (d_X10_copy, d_X11_copy, 5, false)
  | 5 => some (d_X10_mean, d_X11_mean, 1, false)
  | 6 => some (d_X10_text, d_X11_text, 2, false)
  | 7 => some (d_X10_put, d_X11_put, 3, false)
  | 8 => some (d_X10_fault, d_X11_fault, 1, false)
  | 9 => some (d_X10_land, d_X11_land, 1, false)
  | 10 => some (d_X10_jar, d_X11_jar, 2, false)
  | 11 => some (d_X10_mark, d_X11_mark, 2, false)
  | 12 => some (d_X10_place, d_X11_place, 2, false)
  | 13 => some (d_X10_sun, d_X11_sun, 1, false)
  | 14 => some (d_X10_fill, d_X11_fill, 1, false)
  | 15 => some (d_X10_carry, d_X11_carry, 2, false)
  | 16 => some (d_X10_pour, d_X11_pour, 2, false)
  | 17 => some (d_X10_spend, d_X11_spend, 2, false)
  | 18 => some (d_X10_steal, d_X11_steal, 2, false)
  | 19 => some (d_X10_night, d_X11_night, 0, false)
  | 20 => some (d_X10_undo, d_X11_undo, 0, false)
  | 21 => some (d_X10_keep, d_X11_keep, 1, false)
  | 22 => some (d_X10_on, d_X11_on, 1, false)
  | 23 => some (d_X10_brings, d_X11_brings, 2, false)
  | 24 => some (d_X10_best, d_X11_best, 1, false)
  | 25 => some (d_X10_loads, d_X11_loads, 0, false)
  | 26 => some (d_X10_needs, d_X11_needs, 1, false)
  | 27 => some (d_X10_store, d_X11_store, 2, false)
  | 28 => some (d_X10_pours, d_X11_pours, 2, false)
  | 29 => some (d_X10_way, d_X11_way, 3, false)
  | 30 => some (d_X10_loss, d_X11_loss, 2, false)
  | 31 => some (d_X10_most, d_X11_most, 1, false)
  | 32 => some (d_X10_burnt, d_X11_burnt, 2, false)
  | 33 => some (d_X10_forget, d_X11_forget, 1, false)
  | 34 => some (d_X10_mixed, d_X11_mixed, 0, false)
  | 35 => some (d_X10_sure, d_X11_sure, 0, false)
  | 36 => some (d_X10_test, d_X11_test, 0, false)
  | 37 => some (d_X10_theft, d_X11_theft, 2, false)
  | 38 => some (d_X10_seats, d_X11_seats, 3, false)
  | 39 => some (d_X10_mirror, d_X11_mirror, 2, false)
  | 40 => some (d_X10_lots, d_X11_lots, 2, false)
  | 41 => some (d_X10_asked, d_X11_asked, 0, false)
  | 42 => some (d_X10_upper, d_X11_upper, 0, true)
  | 43 => some (d_X10_lower, d_X11_lower, 0, true)
  | 44 => some (d_X10_count, d_X11_count, 1, false)
  | 45 => some (d_X10_finding, d_X11_finding, 0, false)
  | 46 => some (d_X10_findings, d_X11_findings, 1, false)
  | 47 => some (d_X10_digest, d_X11_digest, 0, true)
  | _ => none
