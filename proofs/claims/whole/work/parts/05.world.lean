/-! the world of M as the kit's list of cells -/
theorem am_ad_hi (g : am_G) {i : Nat} (h : 4 ≤ i) : am_ad g i = g.2.2.1 + (i - 4) := by
  unfold am_ad
  rw [if_neg (by omega)]
theorem am_ws_len (g : am_G) (M : am_M) : (am_ws g M).length = am_nx M - 4 := by simp [am_ws]
theorem am_ws_at {g : am_G} {M : am_M} {k : Nat} {q : Nat × va_E} (h : (am_ws g M)[k]? = some q) : k < am_nx M - 4 ∧ q = (g.2.2.1 + k, am_en g M (k + 4)) := by
  have hk : k < (am_ws g M).length := (List.getElem?_eq_some_iff.mp h).1
  rw [am_ws_len] at hk
  refine ⟨hk, ?_⟩
  unfold am_ws at h
  rw [List.getElem?_map, List.getElem?_range hk] at h
  exact (Option.some.inj h).symm
theorem am_ws_get {g : am_G} {M : am_M} {i : Nat} (h4 : 4 ≤ i) (hi : i < am_nx M) : (am_ws g M)[i - 4]? = some (am_ad g i, am_en g M i) := by
  unfold am_ws
  rw [List.getElem?_map, List.getElem?_range (by omega), am_ad_hi g h4]
  show some (_, am_en g M (i - 4 + 4)) = _
  rw [show i - 4 + 4 = i by omega]
theorem am_ws_D (g : am_G) (M : am_M) : va_D (am_A g) (am_ws g M) := by
  refine ⟨fun i j x y hi hj hxy => ?_, fun k q hk => ?_⟩
  · have h1 := (am_ws_at hi).2
    have h2 := (am_ws_at hj).2
    rw [h1, h2] at hxy
    simp at hxy
    exact hxy
  · rw [(am_ws_at hk).2]
    show g.2.2.1 ≤ g.2.2.1 + k
    omega
theorem am_lt {g : am_G} {M : am_M} {H : Heap} (hR : am_R g M H) {i : Nat} (h : (am_sh M i).1 < 99) : i < am_nx M := by
  rcases Nat.lt_or_ge i (am_nx M) with q | q
  · exact q
  · have := hR.2.2.2.1 i q
    omega
theorem am_ge {g : am_G} {M : am_M} {H : Heap} (hR : am_R g M H) {i : Nat} (h : (am_sh M i).1 < 15) : 4 ≤ i := by
  obtain ⟨-, -, -, -, ⟨h0, h1, h2, h3⟩, -⟩ := hR
  rcases Nat.lt_or_ge i 4 with q | q
  · rcases (show i = 0 ∨ i = 1 ∨ i = 2 ∨ i = 3 by omega) with rfl | rfl | rfl | rfl
    · omega
    · rw [h1] at h; simp at h
    · rw [h2] at h; simp at h
    · rw [h3] at h; simp at h
  · exact q
theorem am_at {g : am_G} {M : am_M} {H : Heap} (hR : am_R g M H) {i : Nat} (h : (am_sh M i).1 < 15) : (am_ws g M)[i - 4]? = some (am_ad g i, am_en g M i) := am_ws_get (am_ge hR h) (am_lt hR (by omega))
theorem am_in {g : am_G} {M : am_M} {H : Heap} (hR : am_R g M H) {i : Nat} (h : (am_sh M i).1 < 15) : va_at g.1 am_cl (am_ad g i, am_en g M i) H := hR.2.2.1 _ _ (am_at hR h)
theorem am_adA {g : am_G} {M : am_M} {H : Heap} (hR : am_R g M H) {i : Nat} (h : (am_sh M i).1 < 15) : am_A g (am_ad g i) := by
  rw [am_ad_hi g (am_ge hR h)]
  show g.2.2.1 ≤ _
  omega
/-- one cell has changed -/
theorem am_R_upd {g : am_G} {M M1 : am_M} {H H1 : Heap} {i : Nat} (hR : am_R g M H) (hnx : am_nx M1 = am_nx M) (hsh : am_sh M1 = am_sh M) (hi : (am_sh M i).1 < 15) (hen : ∀ j, j ≠ i → am_en g M1 j = am_en g M j)
    (hmu : ∀ j, j < 4 → am_mu M1 j = am_mu M j) (hat : va_at g.1 am_cl (am_ad g i, am_en g M1 i) H1) (hz : H1.size = H.size) (oq : ∀ q, q ≠ am_ad g i → H1[q]? = H[q]?) : am_R g M1 H1 := by
  have h4 := am_ge hR hi
  obtain ⟨r1, r2, r3, r4, r5, r6, r7, r8, r9, r10⟩ := hR
  refine ⟨by rw [hz, hnx]; exact r1, by rw [hnx]; exact r2, fun k q hk => ?_, by rw [hnx, hsh]; exact r4, by rw [hsh]; exact r5, by rw [hmu 1 (by omega)]; exact r6, by rw [hmu 2 (by omega)]; exact r7, by rw [hmu 3 (by omega)]; exact r8, by rw [hsh]; exact r9, by rw [hsh, hnx]; exact r10⟩
  obtain ⟨k1, k2⟩ := am_ws_at hk
  rw [hnx] at k1
  by_cases hki : k + 4 = i
  · rw [k2, hki]
    rw [am_ad_hi g h4, show i - 4 = k by omega] at hat
    exact hat
  · rw [k2, hen _ hki]
    have h5 := r3 k _ (by rw [show k = k + 4 - 4 by omega]; exact am_ws_get (g := g) (by omega) (show k + 4 < am_nx M by omega))
    rw [am_ad_hi g (show 4 ≤ k + 4 by omega)] at h5
    rw [show k + 4 - 4 = k by omega] at h5
    refine h5.kept (oq _ ?_)
    rw [am_ad_hi g h4]
    show g.2.2.1 + k ≠ _
    omega
theorem am_V {n k : Nat} (F : Nat → Value) (h : k < n) : vp_V ((List.range n).map F) k = F k := by
  unfold vp_V
  rw [List.getD_eq_getElem?_getD, List.getElem?_map, List.getElem?_range h]
  rfl
/-! what holds on -/
theorem am_ts_warm {args a' : Array Value} {s U : State} (h : am_ts args s) (hW : s.WarmedH U.vm) : am_ts a' U := by
  intro w hw hs
  have hb := h w hw hs
  by_cases hg : goodWord w = true
  · exact word_at hW (good_of_word hg) hb
  · cases w <;> first
      | (exact absurd hs hg)
      | exact va_Nw.use rfl (va_Nw.warmF hW (va_Nw.of rfl hb))
      | exact va_Nw.use rfl (va_Nw.warmM hW (va_Nw.of rfl hb))
      | skip
    next ty =>
      cases ty <;> first
        | (exact absurd hs hg)
        | exact va_AO.use (va_AO.moved hW.alike (va_AO.of hb))
theorem am_K_moved {g : am_G} {u U : State} {H : Heap} (hvm : u.vm.Alike U.vm) (h : am_K g u H) : am_K g U H :=
  ⟨h.1.moved hvm, ⟨h.2.1.1.moved hvm, h.2.1.2.moved hvm⟩, ⟨h.2.2.1.1.moved hvm, h.2.2.1.2.moved hvm⟩, h.2.2.2.1.moved hvm, h.2.2.2.2⟩
theorem am_K_kept {g : am_G} {U : State} {H H1 : Heap} (h : am_K g U H) (hz : H.size ≤ H1.size) (hq : ∀ a : Nat, a < H.size → ¬ am_A g a → H1[a]? = H[a]?) : am_K g U H1 :=
  ⟨h.1, ⟨h.2.1.1.kept hq, h.2.1.2.kept hq⟩, ⟨h.2.2.1.1.kept hq, h.2.2.1.2.kept hq⟩, h.2.2.2.1.kept (hq _ (by have := h.2.2.2.2; omega) (fun z => by have := h.2.2.2.2.1; have z : g.2.2.1 ≤ am_ad g 1 := z; omega)), h.2.2.2.2.1, by have := h.2.2.2.2.2; omega⟩
theorem am_S_K {g : am_G} {s : State} {H : Heap} {locs : List Loc} (h : am_K g s s.heap) (hS : va_S (am_A g) s.heap H locs) : am_K g s H := am_K_kept h hS.1 hS.2.1
