/-! the judgement's rows: fields, arrays, calls, ends -/
def am_isR (ty : FieldType) : Bool := match ty with
  | .array _ => true
  | .object _ => true
  | _ => false
theorem am_fv_r {g : am_G} {M : am_M} {i f : Nat} {ty : FieldType} (h : am_isR ty = true) : am_fv g M i f ty = am_tr g (am_av (am_ro M i f)) := by
  rw [am_tr_av]
  cases ty <;> simp [am_isR] at h <;> rfl
def am_nf (k f : Nat) : Bool := match am_cl[k]? with
  | some r => !(r.2.1 f).2.2.2
  | none => false
theorem am_nf_of {k f : Nat} (h : am_nf k f = true) {P : vw_C → Prop} : ∀ r : vw_C, am_cl[k]? = some r → (r.2.1 f).2.2.2 = false ∨ P r := by
  intro r hr
  unfold am_nf at h
  rw [hr] at h
  exact Or.inl (by simpa using h)
theorem am_fvI {g : am_G} {M : am_M} {i f : Nat} {v : Int32} : ∀ f', f' ≠ f → ∀ ty, am_fv g (am_wI M i f v) i f' ty = am_fv g M i f' ty := by
  intro f' h ty
  have e : am_mu (am_wI M i f v) i f' = am_mu M i f' := by
    show (am_rw (am_mu M) i (upd (am_mu M i) f v) i) f' = _
    rw [am_rw_s]
    unfold upd
    rw [if_neg h]
  unfold am_fv
  rw [e]
  rfl
theorem am_fvL {g : am_G} {M : am_M} {i f : Nat} {v : Int64} : ∀ f', f' ≠ f → ∀ ty, am_fv g (am_wL M i f v) i f' ty = am_fv g M i f' ty := by
  intro f' h ty
  have e : am_lg (am_wL M i f v) i f' = am_lg M i f' := by
    show (am_rw (am_lg M) i (vp_updL (am_lg M i) f v) i) f' = _
    rw [am_rw_s]
    unfold vp_updL
    rw [if_neg h]
  unfold am_fv
  rw [e]
  rfl
theorem am_fvR {g : am_G} {M : am_M} {i f v : Nat} : ∀ f', f' ≠ f → ∀ ty, am_fv g (am_wR M i f v) i f' ty = am_fv g M i f' ty := by
  intro f' h ty
  have e : am_ro (am_wR M i f v) i f' = am_ro M i f' := by
    show (am_rw (am_ro M) i (va_up (am_ro M i) f v) i) f' = _
    rw [am_rw_s]
    unfold va_up
    rw [if_neg h]
  unfold am_fv
  rw [e]
  rfl
theorem am_mu_s {M : am_M} {i f : Nat} {v : Int32} : am_mu (am_wI M i f v) i f = v := by
  show (am_rw (am_mu M) i (upd (am_mu M i) f v) i) f = _
  rw [am_rw_s]
  unfold upd
  rw [if_pos rfl]
theorem am_ro_s {M : am_M} {i f v : Nat} : am_ro (am_wR M i f v) i f = v := by
  show (am_rw (am_ro M) i (va_up (am_ro M i) f v) i) f = _
  rw [am_rw_s]
  unfold va_up
  rw [if_pos rfl]
theorem am_lg_s {M : am_M} {i f : Nat} {v : Int64} : am_lg (am_wL M i f v) i f = v := by
  show (am_rw (am_lg M) i (vp_updL (am_lg M i) f v) i) f = _
  rw [am_rw_s]
  unfold vp_updL
  rw [if_pos rfl]
section AF
variable {l : Launch} {g : am_G} {d : am_Y} {pc : Nat} {LS : am_L} {st : List Value} {M : am_M} {o : Option (Option Value × am_M)} {α β : Type} {φ : α → Option Value × am_M} {ψ : β → Option Value × am_M} {f0 : Option α}
theorem e_getI {idx k f i : Nat} (hdg : decode d.2.1 pc = .ok (.getfield idx, 3)) (hl : am_Fl d.1.cls idx k f .int) (hk : k < 11) (hs : (am_sh M i).1 = k) (kk : am_E l g d (pc + 3) LS (.int (am_mu M i f) :: st) M o) : am_E l g d pc LS (.ref i :: st) M o :=
  am_goS (fun p e R s m args below meth c hX H locs cells slots ls Q hll hR hS kk => am_wget hX hR hl hk hs hdg (kk ls hll)) kk
theorem e_getZ {idx k f i : Nat} (hdg : decode d.2.1 pc = .ok (.getfield idx, 3)) (hl : am_Fl d.1.cls idx k f .boolean) (hk : k < 11) (hs : (am_sh M i).1 = k) (kk : am_E l g d (pc + 3) LS (.int (am_mu M i f) :: st) M o) : am_E l g d pc LS (.ref i :: st) M o :=
  am_goS (fun p e R s m args below meth c hX H locs cells slots ls Q hll hR hS kk => am_wget hX hR hl hk hs hdg (kk ls hll)) kk
theorem e_getL {idx k f i : Nat} (hdg : decode d.2.1 pc = .ok (.getfield idx, 3)) (hl : am_Fl d.1.cls idx k f .long) (hk : k < 11) (hs : (am_sh M i).1 = k) (kk : am_E l g d (pc + 3) LS (.long (am_lg M i f) :: st) M o) : am_E l g d pc LS (.ref i :: st) M o :=
  am_goS (fun p e R s m args below meth c hX H locs cells slots ls Q hll hR hS kk => am_wget hX hR hl hk hs hdg (kk ls hll)) kk
theorem e_getR {idx k f i r : Nat} {ty : FieldType} (hdg : decode d.2.1 pc = .ok (.getfield idx, 3)) (hl : am_Fl d.1.cls idx k f ty) (hty : am_isR ty = true) (hk : k < 11) (hs : (am_sh M i).1 = k) (hr : am_av (am_ro M i f) = .ref r) (kk : am_E l g d (pc + 3) LS (.ref r :: st) M o) : am_E l g d pc LS (.ref i :: st) M o :=
  am_goS (fun p e R s m args below meth c hX H locs cells slots ls Q hll hR hS kk => am_wget hX hR hl hk hs hdg (by rw [am_fv_r hty, hr]; exact kk ls hll)) kk
theorem e_getN {idx k f i : Nat} {ty : FieldType} (hdg : decode d.2.1 pc = .ok (.getfield idx, 3)) (hl : am_Fl d.1.cls idx k f ty) (hty : am_isR ty = true) (hk : k < 11) (hs : (am_sh M i).1 = k) (hr : am_ro M i f = 0) (kk : am_E l g d (pc + 3) LS (.null :: st) M o) : am_E l g d pc LS (.ref i :: st) M o :=
  am_goS (fun p e R s m args below meth c hX H locs cells slots ls Q hll hR hS kk => am_wget hX hR hl hk hs hdg (by rw [am_fv_r hty, hr]; exact kk ls hll)) kk
theorem e_putI {idx k f i : Nat} {v : Int32} (hdg : decode d.2.1 pc = .ok (.putfield idx, 3)) (hl : am_Fl d.1.cls idx k f .int) (hnf : am_nf k f = true) (hk : k < 11) (hs : (am_sh M i).1 = k) (kk : am_E l g d (pc + 3) LS st (am_wI M i f v) o) : am_E l g d pc LS (.int v :: .ref i :: st) M o :=
  am_goM (M1 := am_wI M i f v) rfl rfl (fun p e R s m args below meth c hX H locs cells slots ls Q hll hR hS h1 h2 kk => am_wput (M1 := am_wI M i f v) hX hR hS hl hk hs rfl rfl (am_nf_of hnf) rfl rfl (fun _ h => am_wI_en h) (fun q hq => am_rw_n (by have := am_ge hR (show (am_sh M i).1 < 15 by omega); omega)) (show Value.int _ = _ from congrArg Value.int am_mu_s) (fun f' h => am_fvI f' h _) hdg kk) kk
theorem e_putZ {idx k f i : Nat} {v : Int32} (hdg : decode d.2.1 pc = .ok (.putfield idx, 3)) (hl : am_Fl d.1.cls idx k f .boolean) (hnf : am_nf k f = true) (hk : k < 11) (hs : (am_sh M i).1 = k) (hz : v = 0 ∨ v = 1) (kk : am_E l g d (pc + 3) LS st (am_wI M i f v) o) : am_E l g d pc LS (.int v :: .ref i :: st) M o :=
  am_goM (M1 := am_wI M i f v) rfl rfl (fun p e R s m args below meth c hX H locs cells slots ls Q hll hR hS h1 h2 kk => am_wput (M1 := am_wI M i f v) hX hR hS hl hk hs (by rcases hz with rfl | rfl <;> rfl) (by rcases hz with rfl | rfl <;> rfl) (am_nf_of hnf) rfl rfl (fun _ h => am_wI_en h) (fun q hq => am_rw_n (by have := am_ge hR (show (am_sh M i).1 < 15 by omega); omega)) (show Value.int _ = _ from congrArg Value.int am_mu_s) (fun f' h => am_fvI f' h _) hdg kk) kk
theorem e_putL {idx k f i : Nat} {v : Int64} (hdg : decode d.2.1 pc = .ok (.putfield idx, 3)) (hl : am_Fl d.1.cls idx k f .long) (hnf : am_nf k f = true) (hk : k < 11) (hs : (am_sh M i).1 = k) (kk : am_E l g d (pc + 3) LS st (am_wL M i f v) o) : am_E l g d pc LS (.long v :: .ref i :: st) M o :=
  am_goM (M1 := am_wL M i f v) rfl rfl (fun p e R s m args below meth c hX H locs cells slots ls Q hll hR hS h1 h2 kk => am_wput (M1 := am_wL M i f v) hX hR hS hl hk hs rfl rfl (am_nf_of hnf) rfl rfl (fun _ h => am_wL_en h) (fun q hq => rfl) (show Value.long _ = _ from congrArg Value.long am_lg_s) (fun f' h => am_fvL f' h _) hdg kk) kk
theorem am_nar_r {ty : FieldType} (h : am_isR ty = true) (a : Nat) : narrow ty (.ref a) = .ref a ∧ fits ty (.ref a) = true := by
  cases ty <;> simp [am_isR] at h <;> exact ⟨rfl, rfl⟩
theorem e_putR {idx k f i v : Nat} {ty : FieldType} (hdg : decode d.2.1 pc = .ok (.putfield idx, 3)) (hl : am_Fl d.1.cls idx k f ty) (hty : am_isR ty = true) (hnf : am_nf k f = true) (hk : k < 11) (hs : (am_sh M i).1 = k) (hv : am_av v = .ref v) (kk : am_E l g d (pc + 3) LS st (am_wR M i f v) o) : am_E l g d pc LS (.ref v :: .ref i :: st) M o :=
  am_goM (M1 := am_wR M i f v) rfl rfl (fun p e R s m args below meth c hX H locs cells slots ls Q hll hR hS h1 h2 kk => am_wput (M1 := am_wR M i f v) hX hR hS hl hk hs (am_nar_r hty _).1 (am_nar_r hty _).2 (am_nf_of hnf) rfl rfl (fun _ h => am_wR_en h) (fun q hq => rfl) (by rw [am_fv_r hty, am_ro_s, hv]) (fun f' h => am_fvR f' h _) hdg kk) kk
/-- a final field, in its constructor -/
def am_fn (own : String) (idx k f : Nat) : Prop := ∀ r : vw_C, am_cl[k]? = some r → (r.2.1 f).2.2.2 = true ∧ (r.2.1 f).1 = own ∧ Cond.fieldLink own idx (r.2.1 f).1 (r.2.1 f).2.1 (r.2.1 f).2.2.1 ∈ lw_tbl
theorem e_putRF {idx k f i v : Nat} {ty : FieldType} (hdg : decode d.2.1 pc = .ok (.putfield idx, 3)) (hl : am_Fl d.1.cls idx k f ty) (hty : am_isR ty = true) (hnf : am_fn d.1.cls idx k f) (hini : d.1.name = "<init>") (hk : k < 11) (hs : (am_sh M i).1 = k) (hv : am_av v = .ref v) (kk : am_E l g d (pc + 3) LS st (am_wR M i f v) o) : am_E l g d pc LS (.ref v :: .ref i :: st) M o :=
  am_goM (M1 := am_wR M i f v) rfl rfl (fun p e R s m args below meth c hX H locs cells slots ls Q hll hR hS h1 h2 kk => am_wput (M1 := am_wR M i f v) hX hR hS hl hk hs (am_nar_r hty _).1 (am_nar_r hty _).2 (fun r hr => Or.inr ⟨(hnf r hr).1, hini, (hnf r hr).2.1, (hnf r hr).2.2⟩) rfl rfl (fun _ h => am_wR_en h) (fun q hq => rfl) (by rw [am_fv_r hty, am_ro_s, hv]) (fun f' h => am_fvR f' h _) hdg kk) kk
theorem e_iald {i n : Nat} {j : Int32} (hdg : decode d.2.1 pc = .ok (.iaload, 1)) (hs : am_sh M i = (12, n)) (kk : am_E l g d (pc + 1) LS (.int (am_mu M i j.toNatClampNeg) :: st) M (am_r φ f0)) : am_E l g d pc LS (.int j :: .ref i :: st) M (am_r φ (am_ck (am_ix j n) f0)) :=
  e_ck (fun h => am_goS (fun p e R s m args below meth c hX H locs cells slots ls Q hll hR hS kk => am_wiald hX hR hS (Or.inl (by rw [hs])) (by rw [hs]; exact am_ix_in h) hdg (kk ls hll)) kk)
theorem e_ialdC {i n jn : Nat} {j : Int32} (hdg : decode d.2.1 pc = .ok (.iaload, 1)) (hs : am_sh M i = (12, n)) (hj : am_ix j n = true) (hjn : j.toNatClampNeg = jn) (kk : am_E l g d (pc + 1) LS (.int (am_mu M i jn) :: st) M o) : am_E l g d pc LS (.int j :: .ref i :: st) M o :=
  am_goS (fun p e R s m args below meth c hX H locs cells slots ls Q hll hR hS kk => am_wiald hX hR hS (Or.inl (by rw [hs])) (by rw [hs]; exact am_ix_in hj) hdg (by rw [hjn]; exact kk ls hll)) kk
theorem e_iald16 {i n : Nat} {j : Int32} (hdg : decode d.2.1 pc = .ok (.iaload, 1)) (hs : am_sh M i = (16, n)) (kk : am_E l g d (pc + 1) LS (.int (am_mu M i j.toNatClampNeg) :: st) M (am_r φ f0)) : am_E l g d pc LS (.int j :: .ref i :: st) M (am_r φ (am_ck (am_ix j n) f0)) :=
  e_ck (fun h => am_goS (fun p e R s m args below meth c hX H locs cells slots ls Q hll hR hS kk => am_wiald hX hR hS (Or.inr (by rw [hs])) (by rw [hs]; exact am_ix_in h) hdg (kk ls hll)) kk)
theorem e_iast {i n : Nat} {j x : Int32} (hdg : decode d.2.1 pc = .ok (.iastore, 1)) (hs : am_sh M i = (12, n)) (kk : am_E l g d (pc + 1) LS st (am_wI M i j.toNatClampNeg x) (am_r φ f0)) : am_E l g d pc LS (.int x :: .int j :: .ref i :: st) M (am_r φ (am_ck (am_ix j n) f0)) :=
  e_ck (fun h => am_goM (M1 := am_wI M i j.toNatClampNeg x) rfl rfl (fun p e R s m args below meth c hX H locs cells slots ls Q hll hR hS h1 h2 kk => am_wiast hX hR hS (by rw [hs]) (by rw [hs]; exact am_ix_in h) hdg kk) kk)
theorem e_iastC {i n jn : Nat} {j x : Int32} (hdg : decode d.2.1 pc = .ok (.iastore, 1)) (hs : am_sh M i = (12, n)) (hj : am_ix j n = true) (hjn : j.toNatClampNeg = jn) (kk : am_E l g d (pc + 1) LS st (am_wI M i jn x) o) : am_E l g d pc LS (.int x :: .int j :: .ref i :: st) M o :=
  am_goM (M1 := am_wI M i jn x) rfl rfl (fun p e R s m args below meth c hX H locs cells slots ls Q hll hR hS h1 h2 kk => am_wiast hX hR hS (by rw [hs]) (by rw [hs]; exact am_ix_in hj) hdg (by rw [hjn]; exact kk)) kk
theorem e_bald {i n : Nat} {j : Int32} (hdg : decode d.2.1 pc = .ok (.baload, 1)) (hs : am_sh M i = (11, n) ∨ am_sh M i = (13, n)) (kk : am_E l g d (pc + 1) LS (.int (am_mu M i j.toNatClampNeg) :: st) M (am_r φ f0)) : am_E l g d pc LS (.int j :: .ref i :: st) M (am_r φ (am_ck (am_ix j n) f0)) :=
  e_ck (fun h => am_goS (fun p e R s m args below meth c hX H locs cells slots ls Q hll hR hS kk => am_wbald hX hR (by rcases hs with hs | hs <;> rw [hs] <;> simp) (by rcases hs with hs | hs <;> rw [hs] <;> exact am_ix_in h) hdg (kk ls hll)) kk)
theorem e_bast {i n : Nat} {j x : Int32} (hdg : decode d.2.1 pc = .ok (.bastore, 1)) (hs : am_sh M i = (11, n)) (kk : am_E l g d (pc + 1) LS st (am_wI M i j.toNatClampNeg x.toInt8.toInt32) (am_r φ f0)) : am_E l g d pc LS (.int x :: .int j :: .ref i :: st) M (am_r φ (am_ck (am_ix j n) f0)) :=
  e_ck (fun h => am_goM (M1 := am_wI M i j.toNatClampNeg x.toInt8.toInt32) rfl rfl (fun p e R s m args below meth c hX H locs cells slots ls Q hll hR hS h1 h2 kk => am_wbast hX hR hS (by rw [hs]) (by rw [hs]; exact am_ix_in h) hdg kk) kk)
theorem e_zast {i n : Nat} {j x : Int32} (hdg : decode d.2.1 pc = .ok (.bastore, 1)) (hs : am_sh M i = (13, n)) (hz : x = 0 ∨ x = 1) (kk : am_E l g d (pc + 1) LS st (am_wI M i j.toNatClampNeg x) (am_r φ f0)) : am_E l g d pc LS (.int x :: .int j :: .ref i :: st) M (am_r φ (am_ck (am_ix j n) f0)) :=
  e_ck (fun h => am_goM (M1 := am_wI M i j.toNatClampNeg x) rfl rfl (fun p e R s m args below meth c hX H locs cells slots ls Q hll hR hS h1 h2 kk => am_wzast hX hR hS (by rw [hs]) (by rw [hs]; exact am_ix_in h) (by rcases hz with rfl | rfl <;> rfl) hdg kk) kk)
theorem e_cald {j : Int32} (hdg : decode d.2.1 pc = .ok (.caload, 1)) (kk : am_E l g d (pc + 1) LS (.int (am_mu M 2 j.toNatClampNeg) :: st) M (am_r φ f0)) : am_E l g d pc LS (.int j :: .ref 2 :: st) M (am_r φ (am_ck (am_ix j 6) f0)) :=
  e_ck (fun h => am_goS (fun p e R s m args below meth c hX H locs cells slots ls Q hll hR hS kk => am_wcald hX hR hS (am_ix_in h) hdg (kk ls hll)) kk)
/-- a cell out of an array of ROWS -/
theorem e_aald {i n : Nat} {j : Int32} (hdg : decode d.2.1 pc = .ok (.aaload, 1)) (hs : am_sh M i = (14, n)) (hr : am_ix j n = true → am_av (am_ro M i j.toNatClampNeg) = .ref (am_ro M i j.toNatClampNeg)) (kk : am_ix j n = true → am_E l g d (pc + 1) LS (.ref (am_ro M i j.toNatClampNeg) :: st) M (am_r φ f0)) : am_E l g d pc LS (.int j :: .ref i :: st) M (am_r φ (am_ck (am_ix j n) f0)) :=
  e_ck (fun h => am_goS (fun p e R s m args below meth c hX H locs cells slots ls Q hll hR hS kk => am_waald hX hR (by rw [hs]) (by rw [hs]; exact am_ix_in h) hdg (by rw [hr h]; exact kk ls hll)) (kk h))
theorem e_aast {i n v : Nat} {j : Int32} (hdg : decode d.2.1 pc = .ok (.aastore, 1)) (hs : am_sh M i = (14, n)) (hv : (am_sh M v).1 = 7) (kk : am_E l g d (pc + 1) LS st (am_wR M i j.toNatClampNeg v) (am_r φ f0)) : am_E l g d pc LS (.ref v :: .int j :: .ref i :: st) M (am_r φ (am_ck (am_ix j n) f0)) :=
  e_ck (fun h => am_goM (M1 := am_wR M i j.toNatClampNeg v) rfl rfl (fun p e R s m args below meth c hX H locs cells slots ls Q hll hR hS h1 h2 kk => am_waast hX hR hS (by rw [hs]) hv (by rw [hs]; exact am_ix_in h) hdg kk) kk)
theorem e_alen {i k n : Nat} {v : Int32} (hdg : decode d.2.1 pc = .ok (.arraylength, 1)) (hs : am_sh M i = (k, n)) (hk : 11 ≤ k ∧ k < 17) (hv : nI n = v) (kk : am_E l g d (pc + 1) LS (.int v :: st) M o) : am_E l g d pc LS (.ref i :: st) M o :=
  am_goS (fun p e R s m args below meth c hX H locs cells slots ls Q hll hR hS kk => am_walen hX hR hS (by rw [hs]; exact hk) hdg (by rw [hs, hv]; exact kk ls hll)) kk
theorem e_new {idx k : Nat} {r : vw_C} {M1 : am_M} (hdg : decode d.2.1 pc = .ok (.new idx, 3)) (hc : am_cl[k]? = some r) (hk : k < 11) (hw1 : Cond.classLink d.1.cls idx r.1 ∈ lw_tbl) (hw2 : Cond.instantiable r.1 r.2.2 ∈ lw_tbl) (hw3 : Cond.initialized r.1 ∈ lw_tbl) (hty : ∀ f, f < r.2.2 → am_tyok (am_ft k f) = true) (hM : am_mk M k r.2.2 = M1) (kk : am_E l g d (pc + 3) LS (.ref (am_nx M) :: st) M1 o) : am_E l g d pc LS st M o := by
  subst hM
  exact am_goA (fun p e R s m args below meth c hX H locs cells slots ls Q hll hR hS h1 h2 kk => am_wnew hX hR hS hc hk hw1 hw2 hw3 hty h1 h2 hdg kk) kk
theorem e_newa {at' : ArrayType} {k N : Nat} {n : Int32} {M1 : am_M} (hdg : decode d.2.1 pc = .ok (.newarray at', 2)) (hk : (k = 11 ∧ at' = .byte) ∨ (k = 12 ∧ at' = .int) ∨ (k = 13 ∧ at' = .boolean)) (hw : Cond.arrayClass (newarray.typeOf at') ∈ lw_tbl) (hn : ¬ n < 0) (hN : n.toNatClampNeg = N) (hn2 : N ≤ 100000) (hM : am_mk M k N = M1) (kk : am_E l g d (pc + 2) LS (.ref (am_nx M) :: st) M1 o) : am_E l g d pc LS (.int n :: st) M o := by
  subst hM; subst hN
  exact am_goA (fun p e R s m args below meth c hX H locs cells slots ls Q hll hR hS h1 h2 kk => am_wnewa hX hR hS hk hw hn hn2 h1 h2 hdg kk) kk
theorem e_anew {idx N : Nat} {n : Int32} {M1 : am_M} (hdg : decode d.2.1 pc = .ok (.anewarray idx, 3)) (hw1 : Cond.classLink d.1.cls idx "NoonJars$Row" ∈ lw_tbl) (hw2 : Cond.arrayOver (.object "NoonJars$Row") ∈ lw_tbl) (hn : ¬ n < 0) (hN : n.toNatClampNeg = N) (hn2 : N ≤ 100000) (hM : am_mk M 14 N = M1) (kk : am_E l g d (pc + 3) LS (.ref (am_nx M) :: st) M1 o) : am_E l g d pc LS (.int n :: st) M o := by
  subst hM; subst hN
  exact am_goA (fun p e R s m args below meth c hX H locs cells slots ls Q hll hR hS h1 h2 kk => am_wanew hX hR hS hw1 hw2 hn hn2 h1 h2 hdg kk) kk
theorem e_gets {idx k : Nat} (hdg : decode d.2.1 pc = .ok (.getstatic idx, 3)) (hk : (k = 2 ∧ Cond.fieldLink d.1.cls idx "NoonJars$Kinds" "LETTERS" "[C" ∈ lw_tbl) ∨ (k = 3 ∧ Cond.fieldLink d.1.cls idx "NoonJars$Pourings" "UNITS" "[I" ∈ lw_tbl)) (kk : am_E l g d (pc + 3) LS (.ref k :: st) M o) : am_E l g d pc LS st M o :=
  am_goS (fun p e R s m args below meth c hX H locs cells slots ls Q hll hR hS kk => am_wgets hX hS hk hdg (kk ls hll)) kk
def am_cp (sp dp n : Int32) (n0 n1 : Nat) : Bool := decide (0 ≤ sp) && (decide (0 ≤ dp) && (decide (0 ≤ n) && (Nat.ble (sp.toNatClampNeg + n.toNatClampNeg) n0 && Nat.ble (dp.toNatClampNeg + n.toNatClampNeg) n1)))
theorem e_copy {idx i0 i1 n0 n1 : Nat} {sp dp n : Int32} (hdg : decode d.2.1 pc = .ok (.invokestatic idx, 3)) (hw1 : Cond.methodLink d.1.cls idx arraycopyName ∈ lw_tbl) (hw2 : Cond.native arraycopyName ∈ lw_tbl) (hw3 : Cond.static arraycopyName ∈ lw_tbl) (hw4 : Cond.initialized "java/lang/System" ∈ lw_tbl) (hs0 : am_sh M i0 = (12, n0)) (hs1 : am_sh M i1 = (12, n1))
    (hfr : 1 ≤ d.2.2.2.2.1) (hlo : (st.map fun v => v.category).sum + (nativeFrameWords "java/lang/System" "arraycopy" 5 + 11) ≤ d.2.2.2.2.2)
    (kk : am_E l g d (pc + 3) LS st (am_wA M i1 (va_cpy (am_mu M i0) (am_mu M i1) sp.toNatClampNeg dp.toNatClampNeg n.toNatClampNeg)) (am_r φ f0)) : am_E l g d pc LS (.int n :: .int dp :: .ref i1 :: .int sp :: .ref i0 :: st) M (am_r φ (am_ck (am_cp sp dp n n0 n1) f0)) :=
  e_ck (fun h => by
    unfold am_cp at h
    simp only [Bool.and_eq_true, decide_eq_true_eq, Nat.ble_eq] at h
    obtain ⟨a1, a2, a3, a4, a5⟩ := h
    exact am_goM (M1 := am_wA M i1 (va_cpy (am_mu M i0) (am_mu M i1) sp.toNatClampNeg dp.toNatClampNeg n.toNatClampNeg)) rfl rfl (fun p e R s m args below meth c hX H locs cells slots ls Q hll hR hS h1 h2 kk => am_wcopy hX hR hS hw1 hw2 hw3 hw4 hll.1 (by rw [hs0]) (by rw [hs1]) (Int32.not_lt.mpr a1) (Int32.not_lt.mpr a2) (Int32.not_lt.mpr a3) (by rw [hs0]; exact a4) (by rw [hs1]; exact a5) (by omega) (by
      rw [List.map_map, show ((fun v => v.category) ∘ am_tr g) = (fun v : Value => v.category) from funext (fun v => am_tr_cat g v)]
      omega) hdg kk) kk)
theorem e_objInit {idx b : Nat} (hdg : decode d.2.1 pc = .ok (.invokespecial idx, 3)) (hw1 : Cond.methodLink d.1.cls idx Lib.objectInit ∈ lw_tbl) (hw2 : Cond.instanceMethod Lib.objectInit ∈ lw_tbl) (hw3 : Cond.code Lib.objectInit ⟨#[0xb1]⟩ 1 none ∈ lw_tbl) (hfr : 1 ≤ d.2.2.2.2.1) (hlo : (st.map fun v => v.category).sum + 12 ≤ d.2.2.2.2.2) (kk : am_E l g d (pc + 3) LS st M o) : am_E l g d pc LS (.ref b :: st) M o :=
  am_goM (M1 := M) rfl rfl (fun p e R s m args below meth c hX H locs cells slots ls Q hll hR hS h1 h2 kk => W.objInit hX.1 hX.2.1 hX.2.2.2.1 (hX.2.2.2.2.2.1 _ hw1 rfl) (hX.2.2.2.2.2.1 _ hw2 rfl) (hX.2.2.2.2.2.1 _ hw3 rfl) rfl (by show ls.size = c.maxLocals; rw [hll.1, hX.2.2.1]) (rest := st.map (am_tr g)) rfl hdg (by omega) (by
    show 2 * 0 + _ + 12 ≤ _
    rw [List.map_map, show ((fun v => v.category) ∘ am_tr g) = (fun v : Value => v.category) from funext (fun v => am_tr_cat g v)]
    omega) (kk H locs hR hS)) kk
/-! calls -/
theorem am_goC {pc' : Nat} {st' : List Value} {M1 : am_M} (hn : am_nx M ≤ am_nx M1 ∧ am_sl M ≤ am_sl M1) (h : ∀ (p : Program) (e : Env) (R : Room) (s : State) (m : MethodId) (args : Array Value) (below : List Frame) (meth : Method) (c : Code), am_X g d p s m args meth c →
    ∀ (H : Heap) (locs : List Loc) (cells slots : Nat) (ls : Array Slot) (Q : State → Prop), am_ll g ls d.2.2.1 LS → am_R g M H → va_S (am_A g) s.heap H locs → d.2.2.2.2.1 ≤ R.frames → d.2.2.2.2.2 ≤ R.locals → cells + (am_nx M1 - am_nx M) ≤ R.cells → slots + (am_sl M1 - am_sl M) ≤ R.slots →
    (∀ (H1 : Heap) (locs1 : List Loc), am_R g M1 H1 → va_S (am_A g) s.heap H1 locs1 → W p l e R s m args below meth c H1 locs1 (cells + (am_nx M1 - am_nx M)) (slots + (am_sl M1 - am_sl M)) Q (F0 m pc' ls (st'.map (am_tr g)))) → W p l e R s m args below meth c H locs cells slots Q (F0 m pc ls (st.map (am_tr g))))
    (k : am_E l g d pc' LS st' M1 o) : am_E l g d pc LS st M o := by
  intro v M' ho
  obtain ⟨hm, hw⟩ := k v M' ho
  refine ⟨by omega, fun p e R s m args below meth c hX H locs cells slots ls Q hl hR hS h1 h2 h3 h4 hk => h p e R s m args below meth c hX H locs cells slots ls Q hl hR hS h1 h2 (by omega) (by omega) (fun H1 locs1 hR1 hS1 => hw p e R s m args below meth c hX H1 locs1 _ _ ls Q hl hR1 hS1 h1 h2 (by omega) (by omega) (fun H' locs' ls' pc2 a1 a2 a3 => ?_))⟩
  have := hk H' locs' ls' pc2 a1 a2 a3
  rw [show cells + (am_nx M1 - am_nx M) + (am_nx M' - am_nx M1) = cells + (am_nx M' - am_nx M) by omega, show slots + (am_sl M1 - am_sl M) + (am_sl M' - am_sl M1) = slots + (am_sl M' - am_sl M) by omega]
  exact this
theorem am_catm (g : am_G) (st : List Value) : ((st.map (am_tr g)).map fun v => v.category).sum = (st.map fun v => v.category).sum := by
  rw [List.map_map, show ((fun v => v.category) ∘ am_tr g) = (fun v : Value => v.category) from funext (fun v => am_tr_cat g v)]
theorem am_vst (g : am_G) (v : Option Value) (st : List Value) : (v.toList ++ st).map (am_tr g) = (v.map (am_tr g)).toList ++ st.map (am_tr g) := by
  cases v <;> simp
theorem e_callS {y : am_Y} {idx n : Nat} {As S : List Value} {fc : Option β} {kf : β → Option α} (hS : S = As.reverse ++ st) (hdg : decode d.2.1 pc = .ok (.invokestatic idx, 3)) (hlk : am_Ml d.1.cls idx y) (hf : am_fit y d) (hy : am_Yok y n) (hst : am_SM y) (hn : As.length = n) (hml : (am_ents As).length ≤ y.2.2.1) (hcat : (st.map fun v => v.category).sum ≤ 8)
    (hE : am_E l g y 0 (am_ent y As) [] M (am_r ψ fc)) (k : ∀ a : β, am_E l g d (pc + 3) LS ((ψ a).1.toList ++ st) (ψ a).2 (am_r φ (kf a))) : am_E l g d pc LS S M (am_r φ (fc.bind kf)) := by
  subst hS
  cases fc with
  | none => exact am_none
  | some a =>
    refine am_goC (hE _ _ rfl).1 (fun p e R s m args below meth c hX H locs cells slots ls Q hll hR hS h1 h2 h3 h4 kk => ?_) (k a)
    rw [am_vst] at kk
    rw [List.map_append, List.map_reverse]
    exact am_wcallS hX hll hR hS hf h1 h2 hy hst hlk hn hml (by rw [am_catm]; exact hcat) hdg hE rfl ⟨h3, h4⟩ kk
theorem e_callI {y : am_Y} {idx n b : Nat} {As S : List Value} {fc : Option β} {kf : β → Option α} (hS : S = As.reverse ++ .ref b :: st) (hdg : decode d.2.1 pc = .ok (.invokespecial idx, 3)) (hlk : am_Ml d.1.cls idx y) (hf : am_fit y d) (hy : am_Yok y n) (hrt : y.2.2.2.1 = none) (hini : y.1.name = "<init>") (hst : am_IM y) (hn : As.length = n) (hml : (am_ents (.ref b :: As)).length ≤ y.2.2.1) (hcat : (st.map fun v => v.category).sum ≤ 8)
    (hE : am_E l g y 0 (am_ent y (.ref b :: As)) [] M (am_r ψ fc)) (k : ∀ a : β, am_E l g d (pc + 3) LS ((ψ a).1.toList ++ st) (ψ a).2 (am_r φ (kf a))) : am_E l g d pc LS S M (am_r φ (fc.bind kf)) := by
  subst hS
  cases fc with
  | none => exact am_none
  | some a =>
    refine am_goC (hE _ _ rfl).1 (fun p e R s m args below meth c hX H locs cells slots ls Q hll hR hS h1 h2 h3 h4 kk => ?_) (k a)
    rw [am_vst] at kk
    rw [List.map_append, List.map_reverse]
    exact am_wcallI hX hll hR hS hf h1 h2 hy hrt hini hst hlk hn hml (by rw [am_catm]; exact hcat) hdg hE rfl ⟨h3, h4⟩ kk
theorem e_callV {y : am_Y} {idx n b k0 : Nat} {r : vw_C} {As S : List Value} {fc : Option β} {kf : β → Option α} (hS : S = As.reverse ++ .ref b :: st) (hdg : decode d.2.1 pc = .ok (.invokevirtual idx, 3)) (hlk : am_Ml d.1.cls idx y) (hf : am_fit y d) (hy : am_Yok y n) (hst : am_VM y) (hcl : am_cl[k0]? = some r) (hrc : r.1 = y.1.cls) (hk0 : k0 < 11) (hsb : (am_sh M b).1 = k0) (hn : As.length = n) (hml : (am_ents (.ref b :: As)).length ≤ y.2.2.1) (hcat : (st.map fun v => v.category).sum ≤ 8)
    (hE : am_E l g y 0 (am_ent y (.ref b :: As)) [] M (am_r ψ fc)) (k : ∀ a : β, am_E l g d (pc + 3) LS ((ψ a).1.toList ++ st) (ψ a).2 (am_r φ (kf a))) : am_E l g d pc LS S M (am_r φ (fc.bind kf)) := by
  subst hS
  cases fc with
  | none => exact am_none
  | some a =>
    refine am_goC (hE _ _ rfl).1 (fun p e R s m args below meth c hX H locs cells slots ls Q hll hR hS h1 h2 h3 h4 kk => ?_) (k a)
    rw [am_vst] at kk
    rw [List.map_append, List.map_reverse]
    exact am_wcallV hX hll hR hS hf h1 h2 hy hst hcl hrc hk0 hsb hlk hn hml (by rw [am_catm]; exact hcat) hdg hE rfl ⟨h3, h4⟩ kk
/-! ends -/
theorem e_iret {x : Int32} {a : α} (hdg : decode d.2.1 pc = .ok (.ireturn, 1)) (hrt : d.2.2.2.1 = some .int) (ha : φ a = (some (.int x), M)) : am_E l g d pc LS [.int x] M (am_r φ (some a)) := by
  show am_E l g d pc LS [.int x] M (some (φ a))
  rw [ha]
  exact am_end rfl ⟨hdg, _, hrt, rfl⟩
theorem e_zret {x : Int32} {a : α} (hdg : decode d.2.1 pc = .ok (.ireturn, 1)) (hrt : d.2.2.2.1 = some .boolean) (ha : φ a = (some (.int x), M)) (hx : x = 0 ∨ x = 1) : am_E l g d pc LS [.int x] M (am_r φ (some a)) := by
  show am_E l g d pc LS [.int x] M (some (φ a))
  rw [ha]
  exact am_end rfl ⟨hdg, _, hrt, by rcases hx with rfl | rfl <;> rfl⟩
theorem e_lret {x : Int64} {a : α} (hdg : decode d.2.1 pc = .ok (.lreturn, 1)) (hrt : d.2.2.2.1 = some .long) (ha : φ a = (some (.long x), M)) : am_E l g d pc LS [.long x] M (am_r φ (some a)) := by
  show am_E l g d pc LS [.long x] M (some (φ a))
  rw [ha]
  exact am_end rfl ⟨hdg, hrt⟩
theorem e_aret {x : Nat} {C : String} {a : α} (hdg : decode d.2.1 pc = .ok (.areturn, 1)) (hrt : d.2.2.2.1 = some (.object C)) (ha : φ a = (some (.ref x), M)) : am_E l g d pc LS [.ref x] M (am_r φ (some a)) := by
  show am_E l g d pc LS [.ref x] M (some (φ a))
  rw [ha]
  exact am_end rfl ⟨hdg, _, hrt⟩
theorem e_vret {a : α} (hdg : decode d.2.1 pc = .ok (.return_, 1)) (hrt : d.2.2.2.1 = none) (ha : φ a = (none, M)) : am_E l g d pc LS [] M (am_r φ (some a)) := by
  show am_E l g d pc LS [] M (some (φ a))
  rw [ha]
  exact am_end rfl ⟨hdg, hrt⟩
end AF
