/-! M as what stays (B: shapes, references, longs) and the ints u -/
abbrev am_U : Type := Nat → Nat → Int32
def am_of (B : am_M) (u : am_U) : am_M := (B.1, B.2.1, B.2.2.1, u, B.2.2.2.2.1, B.2.2.2.2.2)
def am_w (u : am_U) (i j : Nat) (v : Int32) : am_U := am_rw u i (upd (u i) j v)
abbrev am_bI (B : am_M) : Int32 × am_U → Option Value × am_M := fun q => (some (.int q.1), am_of B q.2)
abbrev am_bL (B : am_M) : Int64 × am_U → Option Value × am_M := fun q => (some (.long q.1), am_of B q.2)
abbrev am_bV (B : am_M) : am_U → Option Value × am_M := fun u => (none, am_of B u)
abbrev am_bP (B : am_M) (u : am_U) : Int32 → Option Value × am_M := fun r => (some (.int r), am_of B u)
abbrev am_bN (B : am_M) (u : am_U) : Int64 → Option Value × am_M := fun r => (some (.long r), am_of B u)
section AQ
variable {l : Launch} {g : am_G} {d : am_Y} {pc : Nat} {LS : am_L} {st : List Value} {B : am_M} {u : am_U} {o : Option (Option Value × am_M)} {α β : Type} {φ : α → Option Value × am_M} {ψ : β → Option Value × am_M} {f0 : Option α}
theorem q_getI {idx k f i : Nat} (hdg : decode d.2.1 pc = .ok (.getfield idx, 3)) (hl : am_Fl d.1.cls idx k f .int) (hk : k < 11) (hs : (am_sh B i).1 = k) (kk : am_E l g d (pc + 3) LS (.int (u i f) :: st) (am_of B u) o) : am_E l g d pc LS (.ref i :: st) (am_of B u) o := e_getI hdg hl hk hs kk
theorem q_getZ {idx k f i : Nat} (hdg : decode d.2.1 pc = .ok (.getfield idx, 3)) (hl : am_Fl d.1.cls idx k f .boolean) (hk : k < 11) (hs : (am_sh B i).1 = k) (kk : am_E l g d (pc + 3) LS (.int (u i f) :: st) (am_of B u) o) : am_E l g d pc LS (.ref i :: st) (am_of B u) o := e_getZ hdg hl hk hs kk
theorem q_getR {idx k f i r : Nat} {ty : FieldType} (hdg : decode d.2.1 pc = .ok (.getfield idx, 3)) (hl : am_Fl d.1.cls idx k f ty) (hty : am_isR ty = true) (hk : k < 11) (hs : (am_sh B i).1 = k) (hr : am_av (am_ro B i f) = .ref r) (kk : am_E l g d (pc + 3) LS (.ref r :: st) (am_of B u) o) : am_E l g d pc LS (.ref i :: st) (am_of B u) o := e_getR hdg hl hty hk hs hr kk
theorem q_putI {idx k f i : Nat} {v : Int32} (hdg : decode d.2.1 pc = .ok (.putfield idx, 3)) (hl : am_Fl d.1.cls idx k f .int) (hnf : am_nf k f = true) (hk : k < 11) (hs : (am_sh B i).1 = k) (kk : am_E l g d (pc + 3) LS st (am_of B (am_w u i f v)) o) : am_E l g d pc LS (.int v :: .ref i :: st) (am_of B u) o := e_putI hdg hl hnf hk hs kk
theorem q_putZ {idx k f i : Nat} {v : Int32} (hdg : decode d.2.1 pc = .ok (.putfield idx, 3)) (hl : am_Fl d.1.cls idx k f .boolean) (hnf : am_nf k f = true) (hk : k < 11) (hs : (am_sh B i).1 = k) (hz : v = 0 ∨ v = 1) (kk : am_E l g d (pc + 3) LS st (am_of B (am_w u i f v)) o) : am_E l g d pc LS (.int v :: .ref i :: st) (am_of B u) o := e_putZ hdg hl hnf hk hs hz kk
theorem q_iald {i n : Nat} {j : Int32} (hdg : decode d.2.1 pc = .ok (.iaload, 1)) (hs : am_sh B i = (12, n)) (kk : am_E l g d (pc + 1) LS (.int (u i j.toNatClampNeg) :: st) (am_of B u) (am_r φ f0)) : am_E l g d pc LS (.int j :: .ref i :: st) (am_of B u) (am_r φ (am_ck (am_ix j n) f0)) := e_iald hdg hs kk
theorem q_ialdC {i n jn : Nat} {j : Int32} (hdg : decode d.2.1 pc = .ok (.iaload, 1)) (hs : am_sh B i = (12, n)) (hj : am_ix j n = true) (hjn : j.toNatClampNeg = jn) (kk : am_E l g d (pc + 1) LS (.int (u i jn) :: st) (am_of B u) o) : am_E l g d pc LS (.int j :: .ref i :: st) (am_of B u) o := e_ialdC hdg hs hj hjn kk
theorem q_iast {i n : Nat} {j x : Int32} (hdg : decode d.2.1 pc = .ok (.iastore, 1)) (hs : am_sh B i = (12, n)) (kk : am_E l g d (pc + 1) LS st (am_of B (am_w u i j.toNatClampNeg x)) (am_r φ f0)) : am_E l g d pc LS (.int x :: .int j :: .ref i :: st) (am_of B u) (am_r φ (am_ck (am_ix j n) f0)) := e_iast hdg hs kk
theorem q_iastC {i n jn : Nat} {j x : Int32} (hdg : decode d.2.1 pc = .ok (.iastore, 1)) (hs : am_sh B i = (12, n)) (hj : am_ix j n = true) (hjn : j.toNatClampNeg = jn) (kk : am_E l g d (pc + 1) LS st (am_of B (am_w u i jn x)) o) : am_E l g d pc LS (.int x :: .int j :: .ref i :: st) (am_of B u) o := e_iastC hdg hs hj hjn kk
theorem q_bald {i n : Nat} {j : Int32} (hdg : decode d.2.1 pc = .ok (.baload, 1)) (hs : am_sh B i = (11, n) ∨ am_sh B i = (13, n)) (kk : am_E l g d (pc + 1) LS (.int (u i j.toNatClampNeg) :: st) (am_of B u) (am_r φ f0)) : am_E l g d pc LS (.int j :: .ref i :: st) (am_of B u) (am_r φ (am_ck (am_ix j n) f0)) := e_bald hdg hs kk
theorem q_bast {i n : Nat} {j x : Int32} (hdg : decode d.2.1 pc = .ok (.bastore, 1)) (hs : am_sh B i = (11, n)) (kk : am_E l g d (pc + 1) LS st (am_of B (am_w u i j.toNatClampNeg x.toInt8.toInt32)) (am_r φ f0)) : am_E l g d pc LS (.int x :: .int j :: .ref i :: st) (am_of B u) (am_r φ (am_ck (am_ix j n) f0)) := e_bast hdg hs kk
theorem q_zast {i n : Nat} {j x : Int32} (hdg : decode d.2.1 pc = .ok (.bastore, 1)) (hs : am_sh B i = (13, n)) (hz : x = 0 ∨ x = 1) (kk : am_E l g d (pc + 1) LS st (am_of B (am_w u i j.toNatClampNeg x)) (am_r φ f0)) : am_E l g d pc LS (.int x :: .int j :: .ref i :: st) (am_of B u) (am_r φ (am_ck (am_ix j n) f0)) := e_zast hdg hs hz kk
theorem q_cald {j : Int32} (hdg : decode d.2.1 pc = .ok (.caload, 1)) (kk : am_E l g d (pc + 1) LS (.int (am_let j.toNatClampNeg) :: st) (am_of B u) (am_r φ f0)) : am_E l g d pc LS (.int j :: .ref 2 :: st) (am_of B u) (am_r φ (am_ck (am_ix j 6) f0)) :=
  e_ck (fun h => am_goS (fun p e R s m args below meth c hX H locs cells slots ls Q hll hR hS kk => am_wcald hX hR hS (am_ix_in h) hdg (by
    rw [hR.2.2.2.2.2.2.1 _ (Nat.not_le.mp fun q => am_ix_in h (Or.inr q))]
    exact kk ls hll)) kk)
theorem q_ialdU {j : Int32} (hdg : decode d.2.1 pc = .ok (.iaload, 1)) (hs : am_sh B 3 = (16, 3)) (kk : am_E l g d (pc + 1) LS (.int (am_uni j.toNatClampNeg) :: st) (am_of B u) (am_r φ f0)) : am_E l g d pc LS (.int j :: .ref 3 :: st) (am_of B u) (am_r φ (am_ck (am_ix j 3) f0)) :=
  e_ck (fun h => am_goS (fun p e R s m args below meth c hX H locs cells slots ls Q hll hR hS kk => am_wiald hX hR hS (Or.inr (show (am_sh B 3).1 = 16 by rw [hs])) (show vp_in j (am_sh B 3).2 by rw [hs]; exact am_ix_in h) hdg (by
    rw [hR.2.2.2.2.2.2.2.1 _ (Nat.not_le.mp fun q => am_ix_in h (Or.inr q))]
    exact kk ls hll)) kk)
theorem q_aald {i n : Nat} {j : Int32} {rid : Nat} (hdg : decode d.2.1 pc = .ok (.aaload, 1)) (hs : am_sh B i = (14, n)) (hr : am_ix j n = true → am_av (am_ro B i j.toNatClampNeg) = .ref rid) (kk : am_ix j n = true → am_E l g d (pc + 1) LS (.ref rid :: st) (am_of B u) (am_r φ f0)) : am_E l g d pc LS (.int j :: .ref i :: st) (am_of B u) (am_r φ (am_ck (am_ix j n) f0)) :=
  e_ck (fun h => am_goS (fun p e R s m args below meth c hX H locs cells slots ls Q hll hR hS kk => am_waald hX hR (show (am_sh B i).1 = 14 by rw [hs]) (show vp_in j (am_sh B i).2 by rw [hs]; exact am_ix_in h) hdg (by
    show W _ _ _ _ _ _ _ _ _ _ _ _ _ _ _ (F0 _ _ _ (am_tr g (am_av (am_ro B i j.toNatClampNeg)) :: _))
    rw [hr h]; exact kk ls hll)) (kk h))
theorem q_alen {i k n : Nat} {v : Int32} (hdg : decode d.2.1 pc = .ok (.arraylength, 1)) (hs : am_sh B i = (k, n)) (hk : 11 ≤ k ∧ k < 17) (hv : nI n = v) (kk : am_E l g d (pc + 1) LS (.int v :: st) (am_of B u) o) : am_E l g d pc LS (.ref i :: st) (am_of B u) o := e_alen hdg hs hk hv kk
theorem q_copy {idx i0 i1 n0 n1 : Nat} {sp dp n : Int32} (hdg : decode d.2.1 pc = .ok (.invokestatic idx, 3)) (hw1 : Cond.methodLink d.1.cls idx arraycopyName ∈ lw_tbl) (hw2 : Cond.native arraycopyName ∈ lw_tbl) (hw3 : Cond.static arraycopyName ∈ lw_tbl) (hw4 : Cond.initialized "java/lang/System" ∈ lw_tbl) (hs0 : am_sh B i0 = (12, n0)) (hs1 : am_sh B i1 = (12, n1))
    (hfr : 1 ≤ d.2.2.2.2.1) (hlo : (st.map fun v => v.category).sum + (nativeFrameWords "java/lang/System" "arraycopy" 5 + 11) ≤ d.2.2.2.2.2)
    (kk : am_E l g d (pc + 3) LS st (am_of B (am_rw u i1 (va_cpy (u i0) (u i1) sp.toNatClampNeg dp.toNatClampNeg n.toNatClampNeg))) (am_r φ f0)) : am_E l g d pc LS (.int n :: .int dp :: .ref i1 :: .int sp :: .ref i0 :: st) (am_of B u) (am_r φ (am_ck (am_cp sp dp n n0 n1) f0)) := e_copy hdg hw1 hw2 hw3 hw4 hs0 hs1 hfr hlo kk
theorem q_callV {y : am_Y} {idx n b k0 : Nat} {r : vw_C} {As S : List Value} {fc : Option β} {kf : β → Option α} (hS : S = As.reverse ++ .ref b :: st) (hdg : decode d.2.1 pc = .ok (.invokevirtual idx, 3)) (hlk : am_Ml d.1.cls idx y) (hf : am_fit y d) (hy : am_Yok y n) (hst : am_VM y) (hcl : am_cl[k0]? = some r) (hrc : r.1 = y.1.cls) (hk0 : k0 < 11) (hsb : (am_sh B b).1 = k0) (hn : As.length = n) (hml : (am_ents (.ref b :: As)).length ≤ y.2.2.1) (hcat : (st.map fun v => v.category).sum ≤ 8)
    (hE : am_E l g y 0 (am_ent y (.ref b :: As)) [] (am_of B u) (am_r ψ fc)) (k : ∀ a : β, am_E l g d (pc + 3) LS ((ψ a).1.toList ++ st) (ψ a).2 (am_r φ (kf a))) : am_E l g d pc LS S (am_of B u) (am_r φ (fc.bind kf)) := e_callV hS hdg hlk hf hy hst hcl hrc hk0 hsb hn hml hcat hE k
/-- a boolean's end, where it comes from a call -/
theorem e_zretq {M : am_M} {x : Int32} {a : α} (hdg : decode d.2.1 pc = .ok (.ireturn, 1)) (hrt : d.2.2.2.1 = some .boolean) (ha : φ a = (some (.int x), M)) : am_E l g d pc LS [.int x] M (am_r φ (am_ck (x == 0 || x == 1) (some a))) :=
  e_ck (fun h => e_zret hdg hrt ha (by simpa using h))
theorem e_divq {M : am_M} {x y : Int32} (hdg : decode d.2.1 pc = .ok (.idiv, 1)) (k : am_E l g d (pc + 1) LS (.int (x / y) :: st) M (am_r φ f0)) : am_E l g d pc LS (.int y :: .int x :: st) M (am_r φ (am_ck (!(y == 0)) f0)) :=
  e_ck (fun h => e_idiv hdg (by simpa using h) k)
theorem e_remq {M : am_M} {x y : Int32} (hdg : decode d.2.1 pc = .ok (.irem, 1)) (k : am_E l g d (pc + 1) LS (.int (x - x / y * y) :: st) M (am_r φ f0)) : am_E l g d pc LS (.int y :: .int x :: st) M (am_r φ (am_ck (!(y == 0)) f0)) :=
  e_ck (fun h => e_irem hdg (by simpa using h) k)
theorem e_ldivq {M : am_M} {x y : Int64} (hdg : decode d.2.1 pc = .ok (.ldiv, 1)) (k : am_E l g d (pc + 1) LS (.long (x / y) :: st) M (am_r φ f0)) : am_E l g d pc LS (.long y :: .long x :: st) M (am_r φ (am_ck (!(y == 0)) f0)) :=
  e_ck (fun h => e_ldiv hdg (by simpa using h) k)
theorem e_lremq {M : am_M} {x y : Int64} (hdg : decode d.2.1 pc = .ok (.lrem, 1)) (k : am_E l g d (pc + 1) LS (.long (x - x / y * y) :: st) M (am_r φ f0)) : am_E l g d pc LS (.long y :: .long x :: st) M (am_r φ (am_ck (!(y == 0)) f0)) :=
  e_ck (fun h => e_lrem hdg (by simpa using h) k)
end AQ
