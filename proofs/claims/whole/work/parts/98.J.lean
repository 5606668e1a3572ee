theorem whole_J (l : Launch) (g : am_G) (h : am_sn g ≤ 3072) : am_Good l g := by
  sorry
