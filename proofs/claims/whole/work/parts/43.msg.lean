/-! what is asked and found -/
theorem ok_asked {l : Launch} {g : am_G} : am_ok l g d_X10_asked d_X11_asked [] am_isI :=
  ok_PP (F := fun _ u => f_X10_asked u) (G := fun _ u => f_X11_asked u) (fun B pl hL u => s_X10_asked hL u) (fun B pl hL u => s_X11_asked hL u) (fun pl hp u hI => ⟨u 4 13, rfl, by rw [hI.1.1]; rfl⟩)
theorem ok_finding {l : Launch} {g : am_G} : am_ok l g d_X10_finding d_X11_finding [] am_isI :=
  ok_PP (F := fun _ u => f_X10_finding u) (G := fun _ u => f_X11_finding u) (fun B pl hL u => s_X10_finding hL u) (fun B pl hL u => s_X11_finding hL u) (fun pl hp u hI => ⟨u 4 14, rfl, by rw [hI.1.2.1]; rfl⟩)
/-- an int within two bounds, or not: of both alike -/
theorem in_eq (a lo hi : Int32) : f_X11_in a lo hi = f_X10_isWithin a lo hi := rfl
theorem wi_no {a lo hi : Int32} (h : a < lo ∨ hi < a) : f_X10_isWithin a lo hi = some 0 := by
  unfold f_X10_isWithin
  rcases h with h | h
  · rw [if_pos h]
  · by_cases h2 : a < lo
    · rw [if_pos h2]
    · rw [if_neg h2, if_pos h]
theorem wi_yes {a lo hi : Int32} (h : ¬ a < lo) (h2 : ¬ hi < a) : f_X10_isWithin a lo hi = some 1 := by
  unfold f_X10_isWithin
  rw [if_neg h, if_neg h2]
theorem nI_ex {a : Int32} {hi : Nat} (h : ¬ a < 0) (h2 : ¬ nI hi < a) (hh : hi < 2 ^ 31) : ∃ r, r ≤ hi ∧ a = nI r := by
  obtain ⟨j, h3, rfl⟩ := nI_of h
  refine ⟨j, ?_, rfl⟩
  rcases Nat.lt_or_ge hi j with q | q
  · exact absurd (nI_lt q h3) h2
  · exact q
theorem wi_cs (a : Int32) (lo hi : Nat) (hl : lo < 2 ^ 31) (hh : hi < 2 ^ 31) : f_X10_isWithin a (nI lo) (nI hi) = some 0 ∨ ∃ r, lo ≤ r ∧ r ≤ hi ∧ a = nI r ∧ f_X10_isWithin a (nI lo) (nI hi) = some 1 := by
  by_cases h : a < nI lo
  · exact Or.inl (wi_no (Or.inl h))
  · by_cases h2 : nI hi < a
    · exact Or.inl (wi_no (Or.inr h2))
    · have h0 : ¬ a < 0 := fun q => h (Int32.lt_of_lt_of_le q (nI_pos' hl))
      obtain ⟨r, h3, rfl⟩ := nI_ex h0 h2 hh
      refine Or.inr ⟨r, ?_, h3, rfl, wi_yes h h2⟩
      rcases Nat.lt_or_ge r lo with q | q
      · exact absurd (nI_lt q hl) h
      · exact q
theorem ok_findings {l : Launch} {g : am_G} (a1 : Int32) : am_ok l g d_X10_findings d_X11_findings [.int a1] am_isI :=
  ok_PP (F := fun _ u => f_X10_findings a1 u) (G := fun _ u => f_X11_findings a1 u) (fun B pl hL u => s_X10_findings hL a1 u) (fun B pl hL u => s_X11_findings hL a1 u) (fun pl hp u hI => by
    unfold f_X10_findings f_X11_findings
    rw [in_eq]
    rcases wi_cs a1 1 5 (by omega) (by omega) with h | ⟨r, h1, h2, rfl, h⟩
    · rw [show f_X10_isWithin a1 1 5 = some 0 from h]
      exact ⟨-1, rfl, rfl⟩
    · rw [show f_X10_isWithin (nI r) 1 5 = some 1 from h]
      have hix : am_ix (nI r) 6 = true := am_ix_nI (by omega) (by omega)
      refine ⟨u 29 r, ?_, ?_⟩
      · show am_ck (am_ix (nI r) 6) (some (u 29 (nI r).toNatClampNeg)) = _
        rw [hix, nI_clamp (by omega)]; rfl
      · show am_ck (am_ix (nI r) 6) (some (u 61 (nI r).toNatClampNeg)) = _
        rw [hix, nI_clamp (by omega), ← hI.1.2.2.1 r (by omega)]; rfl)
