/-! rows for what a program lays -/
def am_jn {τ α : Type} (t : τ) (k : τ → Option α) : Option α := k t
theorem am_fitB {y d : am_Y} (h : (Nat.ble (y.2.2.2.2.1 + 1) d.2.2.2.2.1 && Nat.ble (8 + (y.2.2.1 + 11) + y.2.2.2.2.2) d.2.2.2.2.2) = true) : am_fit y d := by
  simp only [Bool.and_eq_true, Nat.ble_eq] at h
  exact h
section AJ
variable {l : Launch} {g : am_G} {d : am_Y} {pc : Nat} {LS : am_L} {st : List Value} {B : am_M} {u : am_U} {o : Option (Option Value × am_M)} {α β : Type} {φ : α → Option Value × am_M} {f0 : Option α}
theorem e_jn {τ : Type} {t : τ} {k : τ → Option α} {M : am_M} {P : τ → Prop} (hj : P t) (hk : ∀ t', P t' → am_E l g d pc LS st M (am_r φ (k t'))) : am_E l g d pc LS st M (am_r φ (am_jn t k)) := hk t hj
theorem q_ialdH {i n : Nat} {j : Int32} (hdg : decode d.2.1 pc = .ok (.iaload, 1)) (hs : am_sh B i = (12, n)) (kk : am_ix j n = true → am_E l g d (pc + 1) LS (.int (u i j.toNatClampNeg) :: st) (am_of B u) (am_r φ f0)) : am_E l g d pc LS (.int j :: .ref i :: st) (am_of B u) (am_r φ (am_ck (am_ix j n) f0)) :=
  e_ck (fun h => q_ialdC hdg hs h rfl (kk h))
theorem q_iastH {i n : Nat} {j x : Int32} (hdg : decode d.2.1 pc = .ok (.iastore, 1)) (hs : am_sh B i = (12, n)) (kk : am_ix j n = true → am_E l g d (pc + 1) LS st (am_of B (am_w u i j.toNatClampNeg x)) (am_r φ f0)) : am_E l g d pc LS (.int x :: .int j :: .ref i :: st) (am_of B u) (am_r φ (am_ck (am_ix j n) f0)) :=
  e_ck (fun h => q_iastC hdg hs h rfl (kk h))
theorem q_aaldK {i n : Nat} {j : Int32} {rid : Nat} (hdg : decode d.2.1 pc = .ok (.aaload, 1)) (hs : am_sh B i = (14, n)) (h : am_ix j n = true) (hr : am_av (am_ro B i j.toNatClampNeg) = .ref rid) (kk : am_E l g d (pc + 1) LS (.ref rid :: st) (am_of B u) o) : am_E l g d pc LS (.int j :: .ref i :: st) (am_of B u) o :=
  am_goS (fun p e R s m args below meth c hX H locs cells slots ls Q hll hR hS kk => am_waald hX hR (show (am_sh B i).1 = 14 by rw [hs]) (show vp_in j (am_sh B i).2 by rw [hs]; exact am_ix_in h) hdg (by
    show W _ _ _ _ _ _ _ _ _ _ _ _ _ _ _ (F0 _ _ _ (am_tr g (am_av (am_ro B i j.toNatClampNeg)) :: _))
    rw [hr]; exact kk ls hll)) kk
theorem q_alenL {v : Int32} (hdg : decode d.2.1 pc = .ok (.arraylength, 1)) (hv : nI 6 = v) (kk : am_E l g d (pc + 1) LS (.int v :: st) (am_of B u) o) : am_E l g d pc LS (.ref 2 :: st) (am_of B u) o :=
  am_goS (fun p e R s m args below meth c hX H locs cells slots ls Q hll hR hS kk => am_walen hX hR hS (by rw [hR.2.2.2.2.1.2.2.1]; exact ⟨by decide, by decide⟩) hdg (by rw [hR.2.2.2.2.1.2.2.1, hv]; exact kk ls hll)) kk
end AJ
