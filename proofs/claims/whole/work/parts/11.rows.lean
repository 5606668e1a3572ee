/-! the judgement's rows, one an instruction -/
def am_ck {α : Type} (b : Bool) (o : Option α) : Option α := match b with
  | true => o
  | false => none
theorem am_ck_t {α : Type} {b : Bool} {o : Option α} (h : b = true) : am_ck b o = o := by rw [h]; rfl
def am_ix (j : Int32) (n : Nat) : Bool := decide (0 ≤ j) && Nat.blt j.toNatClampNeg n
theorem am_ix_in {j : Int32} {n : Nat} (h : am_ix j n = true) : vp_in j n := by
  unfold am_ix at h
  simp only [Bool.and_eq_true, decide_eq_true_eq, Nat.blt_eq] at h
  intro q
  rcases q with q | q
  · exact absurd h.1 (Int32.not_le.mpr q)
  · omega
theorem am_ix_nI {i n : Nat} (h : i < n) (hn : n < 2 ^ 31) : am_ix (nI i) n = true := by
  unfold am_ix
  simp only [Bool.and_eq_true, decide_eq_true_eq, Nat.blt_eq]
  exact ⟨nI_pos' (by omega), by rw [nI_clamp (by omega)]; exact h⟩
/-- results: an int and M, an int alone, M alone, a long, a cell -/
def am_r {α : Type} (φ : α → Option Value × am_M) (f : Option α) : Option (Option Value × am_M) := f.map φ
abbrev am_fI : Int32 × am_M → Option Value × am_M := fun q => (some (.int q.1), q.2)
abbrev am_fP (M : am_M) : Int32 → Option Value × am_M := fun r => (some (.int r), M)
abbrev am_fV : am_M → Option Value × am_M := fun M => (none, M)
abbrev am_fL : Int64 × am_M → Option Value × am_M := fun q => (some (.long q.1), q.2)
abbrev am_fN (M : am_M) : Int64 → Option Value × am_M := fun r => (some (.long r), M)
abbrev am_fR : Nat × am_M → Option Value × am_M := fun q => (some (.ref q.1), q.2)
section AZ
variable {l : Launch} {g : am_G} {d : am_Y} {pc : Nat} {LS : am_L} {st : List Value} {M : am_M} {o : Option (Option Value × am_M)} {α : Type} {φ : α → Option Value × am_M} {f fT fF : Option α}
theorem e_ck {b : Bool} (k : b = true → am_E l g d pc LS st M (am_r φ f)) : am_E l g d pc LS st M (am_r φ (am_ck b f)) := by
  cases b with
  | true => exact k rfl
  | false => exact am_none

theorem e_iconst {n : Int} {v : Int32} (hdg : decode d.2.1 pc = .ok (.iconst n, 1)) (hv : Int32.ofInt n = v) (k : am_E l g d (pc + 1) LS (.int v :: st) M o) : am_E l g d pc LS (st) M o :=
  am_goS (fun p e R s m args below meth c hX H locs cells slots ls Q hl hR hS kk => lv_iconst hX.1 hX.2.1 hdg hv (kk ls hl)) k
theorem e_bipush {n : Int} {v : Int32} (hdg : decode d.2.1 pc = .ok (.bipush n, 2)) (hv : (Int8.ofInt n).toInt32 = v) (k : am_E l g d (pc + 2) LS (.int v :: st) M o) : am_E l g d pc LS (st) M o :=
  am_goS (fun p e R s m args below meth c hX H locs cells slots ls Q hl hR hS kk => lv_bipush hX.1 hX.2.1 hdg hv (kk ls hl)) k
theorem e_sipush {n : Int} {v : Int32} (hdg : decode d.2.1 pc = .ok (.sipush n, 3)) (hv : (Int16.ofInt n).toInt32 = v) (k : am_E l g d (pc + 3) LS (.int v :: st) M o) : am_E l g d pc LS (st) M o :=
  am_goS (fun p e R s m args below meth c hX H locs cells slots ls Q hl hR hS kk => lv_sipush hX.1 hX.2.1 hdg hv (kk ls hl)) k
theorem e_lconst {n : Fin 2} {v : Int64} (hdg : decode d.2.1 pc = .ok (.lconst n, 1)) (hv : Int64.ofNat (n : Nat) = v) (k : am_E l g d (pc + 1) LS (.long v :: st) M o) : am_E l g d pc LS (st) M o :=
  am_goS (fun p e R s m args below meth c hX H locs cells slots ls Q hl hR hS kk => lv_lconst hX.1 hX.2.1 hdg hv (kk ls hl)) k
theorem e_ldc {idx : Nat} {v : Int32} (hdg : decode d.2.1 pc = .ok (.ldc idx, 2)) (hw : Cond.constant d.1.cls idx v ∈ lw_tbl) (k : am_E l g d (pc + 2) LS (.int v :: st) M o) : am_E l g d pc LS (st) M o :=
  am_goS (fun p e R s m args below meth c hX H locs cells slots ls Q hl hR hS kk => lv_ldc hX.1 hX.2.1 hX.2.2.2.1 (hX.2.2.2.2.2.1 _ hw rfl) hdg (kk ls hl)) k
theorem e_ldcw {idx : Nat} {v : Int32} (hdg : decode d.2.1 pc = .ok (.ldc_w idx, 3)) (hw : Cond.constant d.1.cls idx v ∈ lw_tbl) (k : am_E l g d (pc + 3) LS (.int v :: st) M o) : am_E l g d pc LS (st) M o :=
  am_goS (fun p e R s m args below meth c hX H locs cells slots ls Q hl hR hS kk => lv_ldcw hX.1 hX.2.1 hX.2.2.2.1 (hX.2.2.2.2.2.1 _ hw rfl) hdg (kk ls hl)) k
theorem e_ldc2 {idx : Nat} {v : Int64} (hdg : decode d.2.1 pc = .ok (.ldc2_w idx, 3)) (hw : Cond.constantLong d.1.cls idx v ∈ lw_tbl) (k : am_E l g d (pc + 3) LS (.long v :: st) M o) : am_E l g d pc LS (st) M o :=
  am_goS (fun p e R s m args below meth c hX H locs cells slots ls Q hl hR hS kk => lv_ldc2 hX.1 hX.2.1 hX.2.2.2.1 (hX.2.2.2.2.2.1 _ hw rfl) hdg (kk ls hl)) k
theorem e_iload_n {n : Fin 4} {x : Int32} (hdg : decode d.2.1 pc = .ok (.iload_n n, 1)) (hv : am_get LS n = some (.int x)) (k : am_E l g d (pc + 1) LS (.int x :: st) M o) : am_E l g d pc LS (st) M o :=
  am_goS (fun p e R s m args below meth c hX H locs cells slots ls Q hl hR hS kk => lv_iload_n hX.1 hX.2.1 hdg rfl (am_ll_at hl hv) (kk ls hl)) k
theorem e_iload {n : Nat} {x : Int32} (hdg : decode d.2.1 pc = .ok (.iload n, 2)) (hv : am_get LS n = some (.int x)) (k : am_E l g d (pc + 2) LS (.int x :: st) M o) : am_E l g d pc LS (st) M o :=
  am_goS (fun p e R s m args below meth c hX H locs cells slots ls Q hl hR hS kk => lv_iload hX.1 hX.2.1 hdg (am_ll_at hl hv) (kk ls hl)) k
theorem e_lload_n {n : Fin 4} {x : Int64} (hdg : decode d.2.1 pc = .ok (.lload_n n, 1)) (hv : am_get LS n = some (.long x)) (k : am_E l g d (pc + 1) LS (.long x :: st) M o) : am_E l g d pc LS (st) M o :=
  am_goS (fun p e R s m args below meth c hX H locs cells slots ls Q hl hR hS kk => lv_lload_n hX.1 hX.2.1 hdg rfl (am_ll_at hl hv) (kk ls hl)) k
theorem e_lload {n : Nat} {x : Int64} (hdg : decode d.2.1 pc = .ok (.lload n, 2)) (hv : am_get LS n = some (.long x)) (k : am_E l g d (pc + 2) LS (.long x :: st) M o) : am_E l g d pc LS (st) M o :=
  am_goS (fun p e R s m args below meth c hX H locs cells slots ls Q hl hR hS kk => lv_lload hX.1 hX.2.1 hdg (am_ll_at hl hv) (kk ls hl)) k
theorem e_aload_n {n : Fin 4} {x : Nat} (hdg : decode d.2.1 pc = .ok (.aload_n n, 1)) (hv : am_get LS n = some (.ref x)) (k : am_E l g d (pc + 1) LS (.ref x :: st) M o) : am_E l g d pc LS (st) M o :=
  am_goS (fun p e R s m args below meth c hX H locs cells slots ls Q hl hR hS kk => lv_aload_n hX.1 hX.2.1 hdg rfl (am_ll_at hl hv) (kk ls hl)) k
theorem e_aload {n : Nat} {x : Nat} (hdg : decode d.2.1 pc = .ok (.aload n, 2)) (hv : am_get LS n = some (.ref x)) (k : am_E l g d (pc + 2) LS (.ref x :: st) M o) : am_E l g d pc LS (st) M o :=
  am_goS (fun p e R s m args below meth c hX H locs cells slots ls Q hl hR hS kk => lv_aload hX.1 hX.2.1 hdg (am_ll_at hl hv) (kk ls hl)) k
theorem e_iadd {x y : Int32} (hdg : decode d.2.1 pc = .ok (.iadd, 1)) (k : am_E l g d (pc + 1) LS (.int (x + y) :: st) M o) : am_E l g d pc LS (.int y :: .int x :: st) M o :=
  am_goS (fun p e R s m args below meth c hX H locs cells slots ls Q hl hR hS kk => lv_iadd hX.1 hX.2.1 hdg (kk ls hl)) k
theorem e_isub {x y : Int32} (hdg : decode d.2.1 pc = .ok (.isub, 1)) (k : am_E l g d (pc + 1) LS (.int (x - y) :: st) M o) : am_E l g d pc LS (.int y :: .int x :: st) M o :=
  am_goS (fun p e R s m args below meth c hX H locs cells slots ls Q hl hR hS kk => lv_isub hX.1 hX.2.1 hdg (kk ls hl)) k
theorem e_imul {x y : Int32} (hdg : decode d.2.1 pc = .ok (.imul, 1)) (k : am_E l g d (pc + 1) LS (.int (x * y) :: st) M o) : am_E l g d pc LS (.int y :: .int x :: st) M o :=
  am_goS (fun p e R s m args below meth c hX H locs cells slots ls Q hl hR hS kk => lv_imul hX.1 hX.2.1 hdg (kk ls hl)) k
theorem e_iand {x y : Int32} (hdg : decode d.2.1 pc = .ok (.iand, 1)) (k : am_E l g d (pc + 1) LS (.int (x &&& y) :: st) M o) : am_E l g d pc LS (.int y :: .int x :: st) M o :=
  am_goS (fun p e R s m args below meth c hX H locs cells slots ls Q hl hR hS kk => lv_iand hX.1 hX.2.1 hdg (kk ls hl)) k
theorem e_ior {x y : Int32} (hdg : decode d.2.1 pc = .ok (.ior, 1)) (k : am_E l g d (pc + 1) LS (.int (x ||| y) :: st) M o) : am_E l g d pc LS (.int y :: .int x :: st) M o :=
  am_goS (fun p e R s m args below meth c hX H locs cells slots ls Q hl hR hS kk => lv_ior hX.1 hX.2.1 hdg (kk ls hl)) k
theorem e_ixor {x y : Int32} (hdg : decode d.2.1 pc = .ok (.ixor, 1)) (k : am_E l g d (pc + 1) LS (.int (x ^^^ y) :: st) M o) : am_E l g d pc LS (.int y :: .int x :: st) M o :=
  am_goS (fun p e R s m args below meth c hX H locs cells slots ls Q hl hR hS kk => lv_ixor hX.1 hX.2.1 hdg (kk ls hl)) k
theorem e_ineg {x : Int32} (hdg : decode d.2.1 pc = .ok (.ineg, 1)) (k : am_E l g d (pc + 1) LS (.int (-x) :: st) M o) : am_E l g d pc LS (.int x :: st) M o :=
  am_goS (fun p e R s m args below meth c hX H locs cells slots ls Q hl hR hS kk => lv_ineg hX.1 hX.2.1 hdg (kk ls hl)) k
theorem e_ishl {x y : Int32} (hdg : decode d.2.1 pc = .ok (.ishl, 1)) (k : am_E l g d (pc + 1) LS (.int (x <<< (y &&& 31)) :: st) M o) : am_E l g d pc LS (.int y :: .int x :: st) M o :=
  am_goS (fun p e R s m args below meth c hX H locs cells slots ls Q hl hR hS kk => lv_ishl hX.1 hX.2.1 hdg (kk ls hl)) k
theorem e_ishr {x y : Int32} (hdg : decode d.2.1 pc = .ok (.ishr, 1)) (k : am_E l g d (pc + 1) LS (.int (x >>> (y &&& 31)) :: st) M o) : am_E l g d pc LS (.int y :: .int x :: st) M o :=
  am_goS (fun p e R s m args below meth c hX H locs cells slots ls Q hl hR hS kk => lv_ishr hX.1 hX.2.1 hdg (kk ls hl)) k
theorem e_iushr {x y : Int32} (hdg : decode d.2.1 pc = .ok (.iushr, 1)) (k : am_E l g d (pc + 1) LS (.int ((x.toUInt32 >>> (y.toUInt32 &&& Int32.toUInt32 31)).toInt32) :: st) M o) : am_E l g d pc LS (.int y :: .int x :: st) M o :=
  am_goS (fun p e R s m args below meth c hX H locs cells slots ls Q hl hR hS kk => lv_iushr hX.1 hX.2.1 hdg rfl (kk ls hl)) k
theorem e_ladd {x y : Int64} (hdg : decode d.2.1 pc = .ok (.ladd, 1)) (k : am_E l g d (pc + 1) LS (.long (x + y) :: st) M o) : am_E l g d pc LS (.long y :: .long x :: st) M o :=
  am_goS (fun p e R s m args below meth c hX H locs cells slots ls Q hl hR hS kk => lv_ladd hX.1 hX.2.1 hdg (kk ls hl)) k
theorem e_lmul {x y : Int64} (hdg : decode d.2.1 pc = .ok (.lmul, 1)) (k : am_E l g d (pc + 1) LS (.long (x * y) :: st) M o) : am_E l g d pc LS (.long y :: .long x :: st) M o :=
  am_goS (fun p e R s m args below meth c hX H locs cells slots ls Q hl hR hS kk => lv_lmul hX.1 hX.2.1 hdg (kk ls hl)) k
theorem e_i2l {x : Int32} (hdg : decode d.2.1 pc = .ok (.i2l, 1)) (k : am_E l g d (pc + 1) LS (.long x.toInt64 :: st) M o) : am_E l g d pc LS (.int x :: st) M o :=
  am_goS (fun p e R s m args below meth c hX H locs cells slots ls Q hl hR hS kk => lv_i2l hX.1 hX.2.1 hdg rfl (kk ls hl)) k
theorem e_l2i {x : Int64} (hdg : decode d.2.1 pc = .ok (.l2i, 1)) (k : am_E l g d (pc + 1) LS (.int x.toInt32 :: st) M o) : am_E l g d pc LS (.long x :: st) M o :=
  am_goS (fun p e R s m args below meth c hX H locs cells slots ls Q hl hR hS kk => lv_l2i hX.1 hX.2.1 hdg rfl (kk ls hl)) k
theorem e_i2b {x : Int32} (hdg : decode d.2.1 pc = .ok (.i2b, 1)) (k : am_E l g d (pc + 1) LS (.int x.toInt8.toInt32 :: st) M o) : am_E l g d pc LS (.int x :: st) M o :=
  am_goS (fun p e R s m args below meth c hX H locs cells slots ls Q hl hR hS kk => lv_i2b hX.1 hX.2.1 hdg rfl (kk ls hl)) k
theorem e_lcmp {x y : Int64} (hdg : decode d.2.1 pc = .ok (.lcmp, 1)) (k : am_E l g d (pc + 1) LS (.int (lg_cmp x y) :: st) M o) : am_E l g d pc LS (.long y :: .long x :: st) M o :=
  am_goS (fun p e R s m args below meth c hX H locs cells slots ls Q hl hR hS kk => W.lcmp hX.1 hX.2.1 hdg (kk ls hl)) k
theorem e_dup {a : Value} (hdg : decode d.2.1 pc = .ok (.dup, 1)) (hc : a.category = 1) (k : am_E l g d (pc + 1) LS (a :: a :: st) M o) : am_E l g d pc LS (a :: st) M o :=
  am_goS (fun p e R s m args below meth c hX H locs cells slots ls Q hl hR hS kk => lv_dup hX.1 hX.2.1 hdg (by rw [am_tr_cat]; exact hc) (kk ls hl)) k
theorem e_dup2 {a b : Value} (hdg : decode d.2.1 pc = .ok (.dup2, 1)) (hc : a.category = 1) (hc2 : b.category = 1) (k : am_E l g d (pc + 1) LS (a :: b :: a :: b :: st) M o) : am_E l g d pc LS (a :: b :: st) M o :=
  am_goS (fun p e R s m args below meth c hX H locs cells slots ls Q hl hR hS kk => lv_dup2_11 hX.1 hX.2.1 hdg (by rw [am_tr_cat]; exact hc) (by rw [am_tr_cat]; exact hc2) (kk ls hl)) k
theorem e_idiv {x y : Int32} (hdg : decode d.2.1 pc = .ok (.idiv, 1)) (hne : ¬ y = 0) (k : am_E l g d (pc + 1) LS (.int (x / y) :: st) M o) : am_E l g d pc LS (.int y :: .int x :: st) M o :=
  am_goS (fun p e R s m args below meth c hX H locs cells slots ls Q hl hR hS kk => lv_idiv hX.1 hX.2.1 hdg hne (kk ls hl)) k
theorem e_irem {x y : Int32} (hdg : decode d.2.1 pc = .ok (.irem, 1)) (hne : ¬ y = 0) (k : am_E l g d (pc + 1) LS (.int (x - x / y * y) :: st) M o) : am_E l g d pc LS (.int y :: .int x :: st) M o :=
  am_goS (fun p e R s m args below meth c hX H locs cells slots ls Q hl hR hS kk => lv_irem hX.1 hX.2.1 hdg hne (kk ls hl)) k
theorem e_ldiv {x y : Int64} (hdg : decode d.2.1 pc = .ok (.ldiv, 1)) (hne : ¬ y = 0) (k : am_E l g d (pc + 1) LS (.long (x / y) :: st) M o) : am_E l g d pc LS (.long y :: .long x :: st) M o :=
  am_goS (fun p e R s m args below meth c hX H locs cells slots ls Q hl hR hS kk => lv_ldiv hX.1 hX.2.1 hdg hne (kk ls hl)) k
theorem e_lrem {x y : Int64} (hdg : decode d.2.1 pc = .ok (.lrem, 1)) (hne : ¬ y = 0) (k : am_E l g d (pc + 1) LS (.long (x - x / y * y) :: st) M o) : am_E l g d pc LS (.long y :: .long x :: st) M o :=
  am_goS (fun p e R s m args below meth c hX H locs cells slots ls Q hl hR hS kk => lv_lrem hX.1 hX.2.1 hdg hne (kk ls hl)) k
theorem e_istore_n {n : Fin 4} {x : Int32} {LS1 : am_L} (hdg : decode d.2.1 pc = .ok (.istore_n n, 1)) (hn : (n : Nat) < d.2.2.1) (hL : am_st1 LS n (.int x) = LS1) (k : am_E l g d (pc + 1) LS1 st M o) : am_E l g d pc LS (.int x :: st) M o :=
  am_goS (fun p e R s m args below meth c hX H locs cells slots ls Q hl hR hS kk => lv_istore_n hX.1 hX.2.1 hdg rfl hl hn rfl (fun ls' hl' => kk ls' (hL ▸ am_ll_sub hl' (am_st1_sub g LS n (.int x))))) k
theorem e_istore {n : Nat} {x : Int32} {LS1 : am_L} (hdg : decode d.2.1 pc = .ok (.istore n, 2)) (hn : (n : Nat) < d.2.2.1) (hL : am_st1 LS n (.int x) = LS1) (k : am_E l g d (pc + 2) LS1 st M o) : am_E l g d pc LS (.int x :: st) M o :=
  am_goS (fun p e R s m args below meth c hX H locs cells slots ls Q hl hR hS kk => lv_istore hX.1 hX.2.1 hdg hl hn rfl (fun ls' hl' => kk ls' (hL ▸ am_ll_sub hl' (am_st1_sub g LS n (.int x))))) k
theorem e_astore_n {n : Fin 4} {x : Nat} {LS1 : am_L} (hdg : decode d.2.1 pc = .ok (.astore_n n, 1)) (hn : (n : Nat) < d.2.2.1) (hL : am_st1 LS n (.ref x) = LS1) (k : am_E l g d (pc + 1) LS1 st M o) : am_E l g d pc LS (.ref x :: st) M o :=
  am_goS (fun p e R s m args below meth c hX H locs cells slots ls Q hl hR hS kk => lv_astore_n hX.1 hX.2.1 hdg rfl hl hn rfl (fun ls' hl' => kk ls' (hL ▸ am_ll_sub hl' (am_st1_sub g LS n (.ref x))))) k
theorem e_astore {n : Nat} {x : Nat} {LS1 : am_L} (hdg : decode d.2.1 pc = .ok (.astore n, 2)) (hn : (n : Nat) < d.2.2.1) (hL : am_st1 LS n (.ref x) = LS1) (k : am_E l g d (pc + 2) LS1 st M o) : am_E l g d pc LS (.ref x :: st) M o :=
  am_goS (fun p e R s m args below meth c hX H locs cells slots ls Q hl hR hS kk => lv_astore hX.1 hX.2.1 hdg hl hn rfl (fun ls' hl' => kk ls' (hL ▸ am_ll_sub hl' (am_st1_sub g LS n (.ref x))))) k
theorem e_lstore_n {n : Fin 4} {x : Int64} {LS1 : am_L} (hdg : decode d.2.1 pc = .ok (.lstore_n n, 1)) (hn : (n : Nat) + 1 < d.2.2.1) (hL : am_st2 LS n (.long x) = LS1) (k : am_E l g d (pc + 1) LS1 st M o) : am_E l g d pc LS (.long x :: st) M o :=
  am_goS (fun p e R s m args below meth c hX H locs cells slots ls Q hl hR hS kk => lv_lstore_n hX.1 hX.2.1 hdg rfl hl hn rfl (fun ls' hl' => kk ls' (hL ▸ am_ll_sub hl' (am_st2_sub g LS n (.long x))))) k
theorem e_lstore {n : Nat} {x : Int64} {LS1 : am_L} (hdg : decode d.2.1 pc = .ok (.lstore n, 2)) (hn : (n : Nat) + 1 < d.2.2.1) (hL : am_st2 LS n (.long x) = LS1) (k : am_E l g d (pc + 2) LS1 st M o) : am_E l g d pc LS (.long x :: st) M o :=
  am_goS (fun p e R s m args below meth c hX H locs cells slots ls Q hl hR hS kk => lv_lstore hX.1 hX.2.1 hdg hl hn rfl (fun ls' hl' => kk ls' (hL ▸ am_ll_sub hl' (am_st2_sub g LS n (.long x))))) k
theorem e_iinc {n : Nat} {i : Int} {x v : Int32} {LS1 : am_L} (hdg : decode d.2.1 pc = .ok (.iinc n i, 3)) (hv : am_get LS n = some (.int x)) (he : x + Int32.ofInt i = v) (hn : n < d.2.2.1) (hL : am_st1 LS n (.int v) = LS1) (k : am_E l g d (pc + 3) LS1 st M o) : am_E l g d pc LS st M o :=
  am_goS (fun p e R s m args below meth c hX H locs cells slots ls Q hl hR hS kk => by
    have hm : (n, Value.int x) ∈ am_lv g 0 LS := (am_lv_mem g LS 0 _).mpr ⟨n, .int x, by simp [am_tr], hv⟩
    obtain ⟨q, hq⟩ := List.getElem?_of_mem hm
    exact lv_iinc hX.1 hX.2.1 hdg hl hq he hn rfl (fun ls' hl' => kk ls' (hL ▸ am_ll_sub hl' (am_st1_sub g LS n (.int v))))) k
theorem am_br {c : Prop} {pt pf : Nat} (D : Decidable c) {st' : List Value} (h : ∀ (p : Program) (e : Env) (R : Room) (s : State) (m : MethodId) (args : Array Value) (below : List Frame) (meth : Method) (c0 : Code), am_X g d p s m args meth c0 →
    ∀ (H : Heap) (locs : List Loc) (cells slots : Nat) (ls : Array Slot) (Q : State → Prop),
    (c → W p l e R s m args below meth c0 H locs cells slots Q (F0 m pt ls (st'.map (am_tr g)))) → (¬ c → W p l e R s m args below meth c0 H locs cells slots Q (F0 m pf ls (st'.map (am_tr g)))) → W p l e R s m args below meth c0 H locs cells slots Q (F0 m pc ls (st.map (am_tr g))))
    (kt : am_E l g d pt LS st' M (am_r φ fT)) (kf : am_E l g d pf LS st' M (am_r φ fF)) : am_E l g d pc LS st M (am_r φ (if c then fT else fF)) := by
  by_cases hc : c
  · rw [if_pos hc]
    exact am_goS (fun p e R s m args below meth c0 hX H locs cells slots ls Q hl hR hS kk => h p e R s m args below meth c0 hX H locs cells slots ls Q (fun _ => kk ls hl) (fun q => absurd hc q)) kt
  · rw [if_neg hc]
    exact am_goS (fun p e R s m args below meth c0 hX H locs cells slots ls Q hl hR hS kk => h p e R s m args below meth c0 hX H locs cells slots ls Q (fun q => absurd q hc) (fun _ => kk ls hl)) kf
theorem e_if_eq {x : Int32} {off : Int} {tgt : Nat} (hdg : decode d.2.1 pc = .ok (.ifCond .eq off, 3)) (ht : (pc : Int) + off = (tgt : Int)) (kt : am_E l g d tgt LS st M (am_r φ fT)) (kf : am_E l g d (pc + 3) LS st M (am_r φ fF)) : am_E l g d pc LS (.int x :: st) M (am_r φ (if x = 0 then fT else fF)) :=
  am_br _ (fun p e R s m args below meth c0 hX H locs cells slots ls Q kt kf => lv_if_eq hX.1 hX.2.1 hdg ht kt kf) kt kf
theorem e_if2_eq {x y : Int32} {off : Int} {tgt : Nat} (hdg : decode d.2.1 pc = .ok (.if_icmp .eq off, 3)) (ht : (pc : Int) + off = (tgt : Int)) (kt : am_E l g d tgt LS st M (am_r φ fT)) (kf : am_E l g d (pc + 3) LS st M (am_r φ fF)) : am_E l g d pc LS (.int y :: .int x :: st) M (am_r φ (if x = y then fT else fF)) :=
  am_br _ (fun p e R s m args below meth c0 hX H locs cells slots ls Q kt kf => lv_icmp_eq hX.1 hX.2.1 hdg ht kt kf) kt kf
theorem e_if_ne {x : Int32} {off : Int} {tgt : Nat} (hdg : decode d.2.1 pc = .ok (.ifCond .ne off, 3)) (ht : (pc : Int) + off = (tgt : Int)) (kt : am_E l g d tgt LS st M (am_r φ fT)) (kf : am_E l g d (pc + 3) LS st M (am_r φ fF)) : am_E l g d pc LS (.int x :: st) M (am_r φ (if ¬ x = 0 then fT else fF)) :=
  am_br _ (fun p e R s m args below meth c0 hX H locs cells slots ls Q kt kf => lv_if_ne hX.1 hX.2.1 hdg ht kt (fun q => kf (fun z => z q))) kt kf
theorem e_if2_ne {x y : Int32} {off : Int} {tgt : Nat} (hdg : decode d.2.1 pc = .ok (.if_icmp .ne off, 3)) (ht : (pc : Int) + off = (tgt : Int)) (kt : am_E l g d tgt LS st M (am_r φ fT)) (kf : am_E l g d (pc + 3) LS st M (am_r φ fF)) : am_E l g d pc LS (.int y :: .int x :: st) M (am_r φ (if ¬ x = y then fT else fF)) :=
  am_br _ (fun p e R s m args below meth c0 hX H locs cells slots ls Q kt kf => lv_icmp_ne hX.1 hX.2.1 hdg ht kt (fun q => kf (fun z => z q))) kt kf
theorem e_if_lt {x : Int32} {off : Int} {tgt : Nat} (hdg : decode d.2.1 pc = .ok (.ifCond .lt off, 3)) (ht : (pc : Int) + off = (tgt : Int)) (kt : am_E l g d tgt LS st M (am_r φ fT)) (kf : am_E l g d (pc + 3) LS st M (am_r φ fF)) : am_E l g d pc LS (.int x :: st) M (am_r φ (if x < 0 then fT else fF)) :=
  am_br _ (fun p e R s m args below meth c0 hX H locs cells slots ls Q kt kf => lv_if_lt hX.1 hX.2.1 hdg ht kt kf) kt kf
theorem e_if2_lt {x y : Int32} {off : Int} {tgt : Nat} (hdg : decode d.2.1 pc = .ok (.if_icmp .lt off, 3)) (ht : (pc : Int) + off = (tgt : Int)) (kt : am_E l g d tgt LS st M (am_r φ fT)) (kf : am_E l g d (pc + 3) LS st M (am_r φ fF)) : am_E l g d pc LS (.int y :: .int x :: st) M (am_r φ (if x < y then fT else fF)) :=
  am_br _ (fun p e R s m args below meth c0 hX H locs cells slots ls Q kt kf => lv_icmp_lt hX.1 hX.2.1 hdg ht kt kf) kt kf
theorem e_if_ge {x : Int32} {off : Int} {tgt : Nat} (hdg : decode d.2.1 pc = .ok (.ifCond .ge off, 3)) (ht : (pc : Int) + off = (tgt : Int)) (kt : am_E l g d tgt LS st M (am_r φ fT)) (kf : am_E l g d (pc + 3) LS st M (am_r φ fF)) : am_E l g d pc LS (.int x :: st) M (am_r φ (if 0 ≤ x then fT else fF)) :=
  am_br _ (fun p e R s m args below meth c0 hX H locs cells slots ls Q kt kf => lv_if_ge hX.1 hX.2.1 hdg ht kt kf) kt kf
theorem e_if2_ge {x y : Int32} {off : Int} {tgt : Nat} (hdg : decode d.2.1 pc = .ok (.if_icmp .ge off, 3)) (ht : (pc : Int) + off = (tgt : Int)) (kt : am_E l g d tgt LS st M (am_r φ fT)) (kf : am_E l g d (pc + 3) LS st M (am_r φ fF)) : am_E l g d pc LS (.int y :: .int x :: st) M (am_r φ (if y ≤ x then fT else fF)) :=
  am_br _ (fun p e R s m args below meth c0 hX H locs cells slots ls Q kt kf => lv_icmp_ge hX.1 hX.2.1 hdg ht kt kf) kt kf
theorem e_if_gt {x : Int32} {off : Int} {tgt : Nat} (hdg : decode d.2.1 pc = .ok (.ifCond .gt off, 3)) (ht : (pc : Int) + off = (tgt : Int)) (kt : am_E l g d tgt LS st M (am_r φ fT)) (kf : am_E l g d (pc + 3) LS st M (am_r φ fF)) : am_E l g d pc LS (.int x :: st) M (am_r φ (if 0 < x then fT else fF)) :=
  am_br _ (fun p e R s m args below meth c0 hX H locs cells slots ls Q kt kf => lv_if_gt hX.1 hX.2.1 hdg ht kt kf) kt kf
theorem e_if2_gt {x y : Int32} {off : Int} {tgt : Nat} (hdg : decode d.2.1 pc = .ok (.if_icmp .gt off, 3)) (ht : (pc : Int) + off = (tgt : Int)) (kt : am_E l g d tgt LS st M (am_r φ fT)) (kf : am_E l g d (pc + 3) LS st M (am_r φ fF)) : am_E l g d pc LS (.int y :: .int x :: st) M (am_r φ (if y < x then fT else fF)) :=
  am_br _ (fun p e R s m args below meth c0 hX H locs cells slots ls Q kt kf => lv_icmp_gt hX.1 hX.2.1 hdg ht kt kf) kt kf
theorem e_if_le {x : Int32} {off : Int} {tgt : Nat} (hdg : decode d.2.1 pc = .ok (.ifCond .le off, 3)) (ht : (pc : Int) + off = (tgt : Int)) (kt : am_E l g d tgt LS st M (am_r φ fT)) (kf : am_E l g d (pc + 3) LS st M (am_r φ fF)) : am_E l g d pc LS (.int x :: st) M (am_r φ (if x ≤ 0 then fT else fF)) :=
  am_br _ (fun p e R s m args below meth c0 hX H locs cells slots ls Q kt kf => lv_if_le hX.1 hX.2.1 hdg ht kt kf) kt kf
theorem e_if2_le {x y : Int32} {off : Int} {tgt : Nat} (hdg : decode d.2.1 pc = .ok (.if_icmp .le off, 3)) (ht : (pc : Int) + off = (tgt : Int)) (kt : am_E l g d tgt LS st M (am_r φ fT)) (kf : am_E l g d (pc + 3) LS st M (am_r φ fF)) : am_E l g d pc LS (.int y :: .int x :: st) M (am_r φ (if x ≤ y then fT else fF)) :=
  am_br _ (fun p e R s m args below meth c0 hX H locs cells slots ls Q kt kf => lv_icmp_le hX.1 hX.2.1 hdg ht kt kf) kt kf
theorem e_goto {off : Int} {tgt : Nat} (hdg : decode d.2.1 pc = .ok (.goto off, 3)) (ht : (pc : Int) + off = (tgt : Int)) (k : am_E l g d tgt LS st M o) : am_E l g d pc LS st M o :=
  am_goS (fun p e R s m args below meth c hX H locs cells slots ls Q hl hR hS kk => lv_goto hX.1 hX.2.1 hdg ht (kk ls hl)) k
theorem e_ifnull {off : Int} {x : Nat} (hdg : decode d.2.1 pc = .ok (.ifnull off, 3)) (k : am_E l g d (pc + 3) LS st M o) : am_E l g d pc LS (.ref x :: st) M o :=
  am_goS (fun p e R s m args below meth c hX H locs cells slots ls Q hl hR hS kk => lv_ifnull hX.1 hX.2.1 hdg (kk ls hl)) k
theorem e_ifnonnull {off : Int} {x tgt : Nat} (hdg : decode d.2.1 pc = .ok (.ifnonnull off, 3)) (ht : (pc : Int) + off = (tgt : Int)) (k : am_E l g d tgt LS st M o) : am_E l g d pc LS (.ref x :: st) M o :=
  am_goS (fun p e R s m args below meth c hX H locs cells slots ls Q hl hR hS kk => lv_ifnonnull hX.1 hX.2.1 hdg ht (kk ls hl)) k
theorem e_ifnonnullN {off : Int} (hdg : decode d.2.1 pc = .ok (.ifnonnull off, 3)) (k : am_E l g d (pc + 3) LS st M o) : am_E l g d pc LS (.null :: st) M o :=
  am_goS (fun p e R s m args below meth c hX H locs cells slots ls Q hl hR hS kk => lv_ifnonnullN hX.1 hX.2.1 hdg (kk ls hl)) k
theorem e_tabIn {x : Int32} {df lo hi off : Int} {offs : Array Int} {len tgt : Nat} (hdg : decode d.2.1 pc = .ok (.tableswitch df lo hi offs, len)) (h1 : ¬ x.toInt < lo) (h2 : ¬ hi < x.toInt) (ho : offs[(x.toInt - lo).toNat]? = some off) (ht : (pc : Int) + off = (tgt : Int)) (k : am_E l g d tgt LS st M o) : am_E l g d pc LS (.int x :: st) M o :=
  am_goS (fun p e R s m args below meth c hX H locs cells slots ls Q hl hR hS kk => lv_tableIn hX.1 hX.2.1 hdg h1 h2 ho ht (kk ls hl)) k
theorem e_tabOut {x : Int32} {df lo hi : Int} {offs : Array Int} {len tgt : Nat} (hdg : decode d.2.1 pc = .ok (.tableswitch df lo hi offs, len)) (h : x.toInt < lo ∨ hi < x.toInt) (ht : (pc : Int) + df = (tgt : Int)) (k : am_E l g d tgt LS st M o) : am_E l g d pc LS (.int x :: st) M o :=
  am_goS (fun p e R s m args below meth c hX H locs cells slots ls Q hl hR hS kk => lv_tableOut hX.1 hX.2.1 hdg h ht (kk ls hl)) k
end AZ
