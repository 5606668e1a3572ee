/-! the reference's hash: the one long -/
def am_hs (B : am_M) (h : Int64) : am_M := (B.1, B.2.1, B.2.2.1, B.2.2.2.1, am_rw B.2.2.2.2.1 60 (vp_updL (B.2.2.2.2.1 60) 46 h), B.2.2.2.2.2)
abbrev am_bH (B : am_M) (u : am_U) : Int64 → Option Value × am_M := fun h => (none, am_of (am_hs B h) u)
abbrev am_bD (B : am_M) (u : am_U) : Int64 → Option Value × am_M := fun h => (some (.long h), am_of (am_hs B h) u)
theorem am_hs_get {B : am_M} {h : Int64} {u : am_U} : am_lg (am_of (am_hs B h) u) 60 46 = h := by
  show (am_rw (am_lg B) 60 (vp_updL (am_lg B 60) 46 h) 60) 46 = h
  rw [am_rw_s]
  unfold vp_updL
  rw [if_pos rfl]
theorem am_hs_put {B : am_M} {h v : Int64} {u : am_U} : am_wL (am_of (am_hs B h) u) 60 46 v = am_of (am_hs B v) u := by
  have e : am_rw (am_rw (am_lg B) 60 (vp_updL (am_lg B 60) 46 h)) 60 (vp_updL (am_rw (am_lg B) 60 (vp_updL (am_lg B 60) 46 h) 60) 46 v) = am_rw (am_lg B) 60 (vp_updL (am_lg B 60) 46 v) := by
    funext a
    unfold am_rw
    by_cases ha : a = 60
    · rw [if_pos ha, if_pos ha]
      funext b
      unfold vp_updL
      by_cases hb : b = 46 <;> simp [hb]
    · rw [if_neg ha, if_neg ha, if_neg ha]
  exact congrArg (fun z => ((B.1, B.2.1, B.2.2.1, u, z, B.2.2.2.2.2) : am_M)) e
theorem am_LayH {B : am_M} {pl : Nat} {h : Int64} (hL : am_Lay B pl) : am_Lay (am_hs B h) pl := hL
section AH
variable {l : Launch} {g : am_G} {d : am_Y} {pc : Nat} {LS : am_L} {st : List Value} {B : am_M} {u : am_U} {h : Int64} {o : Option (Option Value × am_M)} {α : Type} {φ : α → Option Value × am_M}
theorem q_getH {idx : Nat} (hdg : decode d.2.1 pc = .ok (.getfield idx, 3)) (hl : am_Fl d.1.cls idx 10 46 .long) (hk : 10 < 11) (hs : (am_sh B 60).1 = 10) (kk : am_E l g d (pc + 3) LS (.long h :: st) (am_of (am_hs B h) u) o) : am_E l g d pc LS (.ref 60 :: st) (am_of (am_hs B h) u) o :=
  e_getL hdg hl hk hs (by rw [am_hs_get]; exact kk)
theorem q_putH {idx : Nat} {v : Int64} (hdg : decode d.2.1 pc = .ok (.putfield idx, 3)) (hl : am_Fl d.1.cls idx 10 46 .long) (hnf : am_nf 10 46 = true) (hk : 10 < 11) (hs : (am_sh B 60).1 = 10) (kk : am_E l g d (pc + 3) LS st (am_of (am_hs B v) u) o) : am_E l g d pc LS (.long v :: .ref 60 :: st) (am_of (am_hs B h) u) o :=
  e_putL hdg hl hnf hk hs (by rw [am_hs_put]; exact kk)
theorem q_callVW {y : am_Y} {idx n b k0 : Nat} {r : vw_C} {As S : List Value} {fc : Option Int64} {kf : Int64 → Option α} (hS : S = As.reverse ++ .ref b :: st) (hdg : decode d.2.1 pc = .ok (.invokevirtual idx, 3)) (hlk : am_Ml d.1.cls idx y) (hf : am_fit y d) (hy : am_Yok y n) (hst : am_VM y) (hcl : am_cl[k0]? = some r) (hrc : r.1 = y.1.cls) (hk0 : k0 < 11) (hsb : (am_sh B b).1 = k0) (hn : As.length = n) (hml : (am_ents (.ref b :: As)).length ≤ y.2.2.1) (hcat : (st.map fun v => v.category).sum ≤ 8)
    (hE : am_E l g y 0 (am_ent y (.ref b :: As)) [] (am_of (am_hs B h) u) (am_r (am_bH B u) fc)) (k : ∀ q : Int64, am_E l g d (pc + 3) LS st (am_of (am_hs B q) u) (am_r φ (kf q))) : am_E l g d pc LS S (am_of (am_hs B h) u) (am_r φ (fc.bind kf)) := e_callV hS hdg hlk hf hy hst hcl hrc hk0 hsb hn hml hcat hE (fun a => k a)
end AH
