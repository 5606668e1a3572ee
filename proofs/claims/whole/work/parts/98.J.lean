theorem whole_J (l : Launch) (g : am_G) (hsn : am_sn g ≤ 3072) : am_Good l g := by
  refine ⟨am_J, first_J g, fun i M hJ hi => ?_, fun i M hi hJ => ?_⟩
  · unfold am_stp
    generalize (am_sc g i &&& 63).toNatClampNeg = c
    match c with
    | 0 =>
      obtain ⟨M2, v, ⟨x, rfl⟩, h1, h2⟩ := ok_row (l := l) (g := g) (am_sc g (i + 1)) (am_sc g (i + 2)) i M (by omega) hJ
      exact ⟨M2, ⟨x, h1⟩, h2⟩
    | 1 =>
      obtain ⟨M2, v, ⟨x, rfl⟩, h1, h2⟩ := ok_lay (l := l) (g := g) (am_sc g (i + 1)) (am_sc g (i + 2)) (am_sc g (i + 3)) i M (by omega) hJ
      exact ⟨M2, ⟨x, h1⟩, h2⟩
    | 2 =>
      obtain ⟨M2, v, ⟨x, rfl⟩, h1, h2⟩ := ok_at (l := l) (g := g) (am_sc g (i + 1)) (am_sc g (i + 2)) i M (by omega) hJ
      exact ⟨M2, ⟨x, h1⟩, h2⟩
    | 3 =>
      obtain ⟨M2, v, ⟨x, rfl⟩, h1, h2⟩ := ok_tear (l := l) (g := g) (am_sc g (i + 1)) i M (by omega) hJ
      exact ⟨M2, ⟨x, h1⟩, h2⟩
    | 4 =>
      obtain ⟨M2, v, ⟨x, rfl⟩, h1, h2⟩ := ok_copy (l := l) (g := g) (am_sc g (i + 1)) (am_sc g (i + 2)) (am_sc g (i + 3)) (am_sc g (i + 4)) (am_sc g (i + 5)) i M (by omega) hJ
      exact ⟨M2, ⟨x, h1⟩, h2⟩
    | 5 =>
      obtain ⟨M2, v, ⟨x, rfl⟩, h1, h2⟩ := ok_mean (l := l) (g := g) (am_sc g (i + 1)) i M (by omega) hJ
      exact ⟨M2, ⟨x, h1⟩, h2⟩
    | 6 =>
      obtain ⟨M2, v, ⟨x, rfl⟩, h1, h2⟩ := ok_text (l := l) (g := g) (am_sc g (i + 1)) (am_sc g (i + 2)) i M (by omega) hJ
      exact ⟨M2, ⟨x, h1⟩, h2⟩
    | 7 =>
      obtain ⟨M2, v, ⟨x, rfl⟩, h1, h2⟩ := ok_put (l := l) (g := g) (am_sc g (i + 1)) (am_sc g (i + 2)) (am_sc g (i + 3)) i M (by omega) hJ
      exact ⟨M2, ⟨x, h1⟩, h2⟩
    | 8 =>
      obtain ⟨M2, v, ⟨x, rfl⟩, h1, h2⟩ := ok_fault (l := l) (g := g) (am_sc g (i + 1)) i M (by omega) hJ
      exact ⟨M2, ⟨x, h1⟩, h2⟩
    | 9 =>
      obtain ⟨M2, v, ⟨x, rfl⟩, h1, h2⟩ := ok_land (l := l) (g := g) (am_sc g (i + 1)) i M (by omega) hJ
      exact ⟨M2, ⟨x, h1⟩, h2⟩
    | 10 =>
      obtain ⟨M2, v, ⟨x, rfl⟩, h1, h2⟩ := ok_jar (l := l) (g := g) (am_sc g (i + 1)) (am_sc g (i + 2)) i M (by omega) hJ
      exact ⟨M2, ⟨x, h1⟩, h2⟩
    | 11 =>
      obtain ⟨M2, v, ⟨x, rfl⟩, h1, h2⟩ := ok_mark (l := l) (g := g) (am_sc g (i + 1)) (am_sc g (i + 2)) i M (by omega) hJ
      exact ⟨M2, ⟨x, h1⟩, h2⟩
    | 12 =>
      obtain ⟨M2, v, ⟨x, rfl⟩, h1, h2⟩ := ok_place (l := l) (g := g) (am_sc g (i + 1)) (am_sc g (i + 2)) i M (by omega) hJ
      exact ⟨M2, ⟨x, h1⟩, h2⟩
    | 13 =>
      obtain ⟨M2, v, ⟨x, rfl⟩, h1, h2⟩ := ok_sun (l := l) (g := g) (am_sc g (i + 1)) i M (by omega) hJ
      exact ⟨M2, ⟨x, h1⟩, h2⟩
    | 14 =>
      obtain ⟨M2, v, ⟨x, rfl⟩, h1, h2⟩ := ok_fill (l := l) (g := g) (am_sc g (i + 1)) i M (by omega) hJ
      exact ⟨M2, ⟨x, h1⟩, h2⟩
    | 15 =>
      obtain ⟨M2, v, ⟨x, rfl⟩, h1, h2⟩ := ok_carry (l := l) (g := g) (am_sc g (i + 1)) (am_sc g (i + 2)) i M (by omega) hJ
      exact ⟨M2, ⟨x, h1⟩, h2⟩
    | 16 =>
      obtain ⟨M2, v, ⟨x, rfl⟩, h1, h2⟩ := ok_pour (l := l) (g := g) (am_sc g (i + 1)) (am_sc g (i + 2)) i M (by omega) hJ
      exact ⟨M2, ⟨x, h1⟩, h2⟩
    | 17 =>
      obtain ⟨M2, v, ⟨x, rfl⟩, h1, h2⟩ := ok_spend (l := l) (g := g) (am_sc g (i + 1)) (am_sc g (i + 2)) i M (by omega) hJ
      exact ⟨M2, ⟨x, h1⟩, h2⟩
    | 18 =>
      obtain ⟨M2, v, ⟨x, rfl⟩, h1, h2⟩ := ok_steal (l := l) (g := g) (am_sc g (i + 1)) (am_sc g (i + 2)) i M (by omega) hJ
      exact ⟨M2, ⟨x, h1⟩, h2⟩
    | 19 =>
      obtain ⟨M2, v, ⟨x, rfl⟩, h1, h2⟩ := ok_night (l := l) (g := g) i M (by omega) hJ
      exact ⟨M2, ⟨x, h1⟩, h2⟩
    | 20 =>
      obtain ⟨M2, v, ⟨x, rfl⟩, h1, h2⟩ := ok_undo (l := l) (g := g) i M (by omega) hJ
      exact ⟨M2, ⟨x, h1⟩, h2⟩
    | 21 =>
      obtain ⟨M2, v, ⟨x, rfl⟩, h1, h2⟩ := ok_keep (l := l) (g := g) (am_sc g (i + 1)) i M (by omega) hJ
      exact ⟨M2, ⟨x, h1⟩, h2⟩
    | 22 =>
      obtain ⟨M2, v, ⟨x, rfl⟩, h1, h2⟩ := ok_on (l := l) (g := g) (am_sc g (i + 1)) i M (by omega) hJ
      exact ⟨M2, ⟨x, h1⟩, h2⟩
    | 23 =>
      obtain ⟨M2, v, ⟨x, rfl⟩, h1, h2⟩ := ok_brings (l := l) (g := g) (am_sc g (i + 1)) (am_sc g (i + 2)) i M (by omega) hJ
      exact ⟨M2, ⟨x, h1⟩, h2⟩
    | 24 =>
      obtain ⟨M2, v, ⟨x, rfl⟩, h1, h2⟩ := ok_best (l := l) (g := g) (am_sc g (i + 1)) i M (by omega) hJ
      exact ⟨M2, ⟨x, h1⟩, h2⟩
    | 25 =>
      obtain ⟨M2, v, ⟨x, rfl⟩, h1, h2⟩ := ok_loads (l := l) (g := g) i M (by omega) hJ
      exact ⟨M2, ⟨x, h1⟩, h2⟩
    | 26 =>
      obtain ⟨M2, v, ⟨x, rfl⟩, h1, h2⟩ := ok_needs (l := l) (g := g) (am_sc g (i + 1)) i M (by omega) hJ
      exact ⟨M2, ⟨x, h1⟩, h2⟩
    | 27 =>
      obtain ⟨M2, v, ⟨x, rfl⟩, h1, h2⟩ := ok_store (l := l) (g := g) (am_sc g (i + 1)) (am_sc g (i + 2)) i M (by omega) hJ
      exact ⟨M2, ⟨x, h1⟩, h2⟩
    | 28 =>
      obtain ⟨M2, v, ⟨x, rfl⟩, h1, h2⟩ := ok_pours (l := l) (g := g) (am_sc g (i + 1)) (am_sc g (i + 2)) i M (by omega) hJ
      exact ⟨M2, ⟨x, h1⟩, h2⟩
    | 29 =>
      obtain ⟨M2, v, ⟨x, rfl⟩, h1, h2⟩ := ok_way (l := l) (g := g) (am_sc g (i + 1)) (am_sc g (i + 2)) (am_sc g (i + 3)) i M (by omega) hJ
      exact ⟨M2, ⟨x, h1⟩, h2⟩
    | 30 =>
      obtain ⟨M2, v, ⟨x, rfl⟩, h1, h2⟩ := ok_loss (l := l) (g := g) (am_sc g (i + 1)) (am_sc g (i + 2)) i M (by omega) hJ
      exact ⟨M2, ⟨x, h1⟩, h2⟩
    | 31 =>
      obtain ⟨M2, v, ⟨x, rfl⟩, h1, h2⟩ := ok_most (l := l) (g := g) (am_sc g (i + 1)) i M (by omega) hJ
      exact ⟨M2, ⟨x, h1⟩, h2⟩
    | 32 =>
      obtain ⟨M2, v, ⟨x, rfl⟩, h1, h2⟩ := ok_burnt (l := l) (g := g) (am_sc g (i + 1)) (am_sc g (i + 2)) i M (by omega) hJ
      exact ⟨M2, ⟨x, h1⟩, h2⟩
    | 33 =>
      obtain ⟨M2, v, ⟨x, rfl⟩, h1, h2⟩ := ok_forget (l := l) (g := g) (am_sc g (i + 1)) i M (by omega) hJ
      exact ⟨M2, ⟨x, h1⟩, h2⟩
    | 34 =>
      obtain ⟨M2, v, ⟨x, rfl⟩, h1, h2⟩ := ok_mixed (l := l) (g := g) i M (by omega) hJ
      exact ⟨M2, ⟨x, h1⟩, h2⟩
    | 35 =>
      obtain ⟨M2, v, ⟨x, rfl⟩, h1, h2⟩ := ok_sure (l := l) (g := g) i M (by omega) hJ
      exact ⟨M2, ⟨x, h1⟩, h2⟩
    | 36 =>
      obtain ⟨M2, v, ⟨x, rfl⟩, h1, h2⟩ := ok_test (l := l) (g := g) i M (by omega) hJ
      exact ⟨M2, ⟨x, h1⟩, h2⟩
    | 37 =>
      obtain ⟨M2, v, ⟨x, rfl⟩, h1, h2⟩ := ok_theft (l := l) (g := g) (am_sc g (i + 1)) (am_sc g (i + 2)) i M (by omega) hJ
      exact ⟨M2, ⟨x, h1⟩, h2⟩
    | 38 =>
      obtain ⟨M2, v, ⟨x, rfl⟩, h1, h2⟩ := ok_seats (l := l) (g := g) (am_sc g (i + 1)) (am_sc g (i + 2)) (am_sc g (i + 3)) i M (by omega) hJ
      exact ⟨M2, ⟨x, h1⟩, h2⟩
    | 39 =>
      obtain ⟨M2, v, ⟨x, rfl⟩, h1, h2⟩ := ok_mirror (l := l) (g := g) (am_sc g (i + 1)) (am_sc g (i + 2)) i M (by omega) hJ
      exact ⟨M2, ⟨x, h1⟩, h2⟩
    | 40 =>
      obtain ⟨M2, v, ⟨x, rfl⟩, h1, h2⟩ := ok_lots (l := l) (g := g) (am_sc g (i + 1)) (am_sc g (i + 2)) i M (by omega) hJ
      exact ⟨M2, ⟨x, h1⟩, h2⟩
    | 41 =>
      obtain ⟨M2, v, ⟨x, rfl⟩, h1, h2⟩ := ok_asked (l := l) (g := g) i M (by omega) hJ
      exact ⟨M2, ⟨x, h1⟩, h2⟩
    | 42 =>
      obtain ⟨M2, v, ⟨x, rfl⟩, h1, h2⟩ := ok_upper (l := l) (g := g) i M (by omega) hJ
      exact ⟨M2, ⟨x, h1⟩, h2⟩
    | 43 =>
      obtain ⟨M2, v, ⟨x, rfl⟩, h1, h2⟩ := ok_lower (l := l) (g := g) i M (by omega) hJ
      exact ⟨M2, ⟨x, h1⟩, h2⟩
    | 44 =>
      obtain ⟨M2, v, ⟨x, rfl⟩, h1, h2⟩ := ok_count (l := l) (g := g) (am_sc g (i + 1)) i M (by omega) hJ
      exact ⟨M2, ⟨x, h1⟩, h2⟩
    | 45 =>
      obtain ⟨M2, v, ⟨x, rfl⟩, h1, h2⟩ := ok_finding (l := l) (g := g) i M (by omega) hJ
      exact ⟨M2, ⟨x, h1⟩, h2⟩
    | 46 =>
      obtain ⟨M2, v, ⟨x, rfl⟩, h1, h2⟩ := ok_findings (l := l) (g := g) (am_sc g (i + 1)) i M (by omega) hJ
      exact ⟨M2, ⟨x, h1⟩, h2⟩
    | 47 =>
      obtain ⟨M2, v, ⟨x, rfl⟩, h1, h2⟩ := ok_digest (l := l) (g := g) i M (by omega) hJ
      exact ⟨M2, ⟨x, h1⟩, h2⟩
    | n + 48 => exact ⟨M, rfl, am_J_up hJ⟩
  · obtain ⟨B, pl, dr, u, rfl, h2, h3, h4, h5, h6, h7⟩ := hJ
    show am_nx B ≤ 600000 ∧ am_sl B ≤ 7302250
    exact ⟨by omega, by omega⟩
