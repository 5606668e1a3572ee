/-! cells are made, one behind the other -/
def am_okp (M : am_M) (t : Nat) (p : Nat × Nat) (R : Nat → Nat) : Prop := t < am_nx M ∧ am_sh M t = p ∧ am_ro M t = R
theorem okp_mk {M : am_M} {t k n : Nat} {p : Nat × Nat} {R : Nat → Nat} (h : am_okp M t p R) : am_okp (am_mk M k n) t p R := ⟨Nat.lt_succ_of_lt h.1, (am_rw_n (Nat.ne_of_lt h.1)).trans h.2.1, (am_rw_n (Nat.ne_of_lt h.1)).trans h.2.2⟩
theorem okp_nw {M : am_M} {k n a : Nat} (h : am_nx M = a) : am_okp (am_mk M k n) a (k, n) (fun _ => 0) := by subst h; exact ⟨Nat.lt_succ_self _, am_rw_s, am_rw_s⟩
theorem nx_mk {M : am_M} {k n a : Nat} (h : am_nx M = a) : am_nx (am_mk M k n) = a + 1 := by subst h; rfl
theorem okp_wR {M : am_M} {t i f v : Nat} {p : Nat × Nat} {R : Nat → Nat} (hi : t ≠ i) (h : am_okp M t p R) : am_okp (am_wR M i f v) t p R := ⟨h.1, h.2.1, (am_rw_n hi).trans h.2.2⟩
theorem okp_wRs {M : am_M} {t f v : Nat} {p : Nat × Nat} {R : Nat → Nat} (h : am_okp M t p R) : am_okp (am_wR M t f v) t p (va_up R f v) := ⟨h.1, h.2.1, am_rw_s.trans (by rw [← h.2.2])⟩
theorem okp_wI {M : am_M} {t i f : Nat} {v : Int32} {p : Nat × Nat} {R : Nat → Nat} (h : am_okp M t p R) : am_okp (am_wI M i f v) t p R := h
theorem nx_wR {M : am_M} {i f v a : Nat} (h : am_nx M = a) : am_nx (am_wR M i f v) = a := h
theorem nx_wI {M : am_M} {i f a : Nat} {v : Int32} (h : am_nx M = a) : am_nx (am_wI M i f v) = a := h
theorem okp_k {M : am_M} {t k n : Nat} {R : Nat → Nat} (h : am_okp M t (k, n) R) : (am_sh M t).1 = k := by rw [h.2.1]
theorem okp_r {M : am_M} {t f v : Nat} {p : Nat × Nat} {R : Nat → Nat} (h : am_okp M t p R) (hv : am_av (R f) = .ref v) : am_av (am_ro M t f) = .ref v := by rw [h.2.2]; exact hv
theorem am_avN {t : Nat} (h : 0 < t) : am_av t = .ref t := by cases t with | zero => omega | succ n => rfl
section AM2
variable {l : Launch} {g : am_G} {d : am_Y} {pc : Nat} {LS : am_L} {st : List Value} {M : am_M} {o : Option (Option Value × am_M)} {α : Type} {φ : α → Option Value × am_M} {f0 : Option α}
theorem k_new {idx k a : Nat} {r : vw_C} (hN : am_nx M = a) (hdg : decode d.2.1 pc = .ok (.new idx, 3)) (hc : am_cl[k]? = some r) (hk : k < 11) (hw1 : Cond.classLink d.1.cls idx r.1 ∈ lw_tbl) (hw2 : Cond.instantiable r.1 r.2.2 ∈ lw_tbl) (hw3 : Cond.initialized r.1 ∈ lw_tbl) (hty : ∀ f, f < r.2.2 → am_tyok (am_ft k f) = true) (kk : am_E l g d (pc + 3) LS (.ref a :: st) (am_mk M k r.2.2) o) : am_E l g d pc LS st M o := e_new hdg hc hk hw1 hw2 hw3 hty rfl (by rw [hN]; exact kk)
theorem k_newa {at' : ArrayType} {k N a : Nat} {n : Int32} (hN : am_nx M = a) (hdg : decode d.2.1 pc = .ok (.newarray at', 2)) (hk : (k = 11 ∧ at' = .byte) ∨ (k = 12 ∧ at' = .int) ∨ (k = 13 ∧ at' = .boolean)) (hw : Cond.arrayClass (newarray.typeOf at') ∈ lw_tbl) (hn : ¬ n < 0) (hNN : n.toNatClampNeg = N) (hn2 : N ≤ 100000) (kk : am_E l g d (pc + 2) LS (.ref a :: st) (am_mk M k N) o) : am_E l g d pc LS (.int n :: st) M o := e_newa hdg hk hw hn hNN hn2 rfl (by rw [hN]; exact kk)
theorem k_anew {idx N a : Nat} {n : Int32} (hN : am_nx M = a) (hdg : decode d.2.1 pc = .ok (.anewarray idx, 3)) (hw1 : Cond.classLink d.1.cls idx "NoonJars$Row" ∈ lw_tbl) (hw2 : Cond.arrayOver (.object "NoonJars$Row") ∈ lw_tbl) (hn : ¬ n < 0) (hNN : n.toNatClampNeg = N) (hn2 : N ≤ 100000) (kk : am_E l g d (pc + 3) LS (.ref a :: st) (am_mk M 14 N) o) : am_E l g d pc LS (.int n :: st) M o := e_anew hdg hw1 hw2 hn hNN hn2 rfl (by rw [hN]; exact kk)
theorem k_callI0 {y : am_Y} {idx n b : Nat} {As S : List Value} {M1 : am_M} (hS : S = As.reverse ++ .ref b :: st) (hdg : decode d.2.1 pc = .ok (.invokespecial idx, 3)) (hlk : am_Ml d.1.cls idx y) (hf : am_fit y d) (hy : am_Yok y n) (hrt : y.2.2.2.1 = none) (hini : y.1.name = "<init>") (hst : am_IM y) (hn : As.length = n) (hml : (am_ents (.ref b :: As)).length ≤ y.2.2.1) (hcat : (st.map fun v => v.category).sum ≤ 8)
    (hE : am_E l g y 0 (am_ent y (.ref b :: As)) [] M (some (none, M1))) (k : am_E l g d (pc + 3) LS st M1 o) : am_E l g d pc LS S M o := by
  subst hS
  refine am_goC (hE _ _ rfl).1 (fun p e R s m args below meth c hX H locs cells slots ls Q hll hR hS h1 h2 h3 h4 kk => ?_) k
  rw [List.map_append, List.map_reverse]
  exact am_wcallI hX hll hR hS hf h1 h2 hy hrt hini hst hlk hn hml (by rw [am_catm]; exact hcat) hdg hE rfl ⟨h3, h4⟩ kk
theorem k_callS0 {y : am_Y} {idx n : Nat} {As S : List Value} {M1 : am_M} {v : Option Value} (hS : S = As.reverse ++ st) (hdg : decode d.2.1 pc = .ok (.invokestatic idx, 3)) (hlk : am_Ml d.1.cls idx y) (hf : am_fit y d) (hy : am_Yok y n) (hst : am_SM y) (hn : As.length = n) (hml : (am_ents As).length ≤ y.2.2.1) (hcat : (st.map fun v => v.category).sum ≤ 8)
    (hE : am_E l g y 0 (am_ent y As) [] M (some (v, M1))) (k : am_E l g d (pc + 3) LS (v.toList ++ st) M1 o) : am_E l g d pc LS S M o := by
  subst hS
  refine am_goC (hE _ _ rfl).1 (fun p e R s m args below meth c hX H locs cells slots ls Q hll hR hS h1 h2 h3 h4 kk => ?_) k
  rw [am_vst] at kk
  rw [List.map_append, List.map_reverse]
  exact am_wcallS hX hll hR hS hf h1 h2 hy hst hlk hn hml (by rw [am_catm]; exact hcat) hdg hE rfl ⟨h3, h4⟩ kk
theorem k_aast {i n v : Nat} {j : Int32} {jn : Nat} (hdg : decode d.2.1 pc = .ok (.aastore, 1)) (hs : am_sh M i = (14, n)) (hv : (am_sh M v).1 = 7) (hj : am_ix j n = true) (hjn : j.toNatClampNeg = jn) (kk : am_E l g d (pc + 1) LS st (am_wR M i jn v) o) : am_E l g d pc LS (.ref v :: .int j :: .ref i :: st) M o :=
  am_goM (M1 := am_wR M i jn v) rfl rfl (fun p e R s m args below meth c hX H locs cells slots ls Q hll hR hS h1 h2 kk => am_waast hX hR hS (by rw [hs]) hv (by rw [hs]; exact am_ix_in hj) hdg (by rw [hjn]; exact kk)) kk
theorem k_ge {x y : Int32} {off : Int} {tgt : Nat} (hdg : decode d.2.1 pc = .ok (.if_icmp .ge off, 3)) (ht : (pc : Int) + off = (tgt : Int)) (h : y ≤ x) (k : am_E l g d tgt LS st M o) : am_E l g d pc LS (.int y :: .int x :: st) M o :=
  am_goS (fun p e R s m args below meth c hX H locs cells slots ls Q hl hR hS kk => lv_icmp_ge hX.1 hX.2.1 hdg ht (fun _ => kk ls hl) (fun q => absurd h q)) k
theorem k_lt {x y : Int32} {off : Int} {tgt : Nat} (hdg : decode d.2.1 pc = .ok (.if_icmp .ge off, 3)) (ht : (pc : Int) + off = (tgt : Int)) (h : ¬ y ≤ x) (k : am_E l g d (pc + 3) LS st M o) : am_E l g d pc LS (.int y :: .int x :: st) M o :=
  am_goS (fun p e R s m args below meth c hX H locs cells slots ls Q hl hR hS kk => lv_icmp_ge hX.1 hX.2.1 hdg ht (fun q => absurd q h) (fun _ => kk ls hl)) k
end AM2
