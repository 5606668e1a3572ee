/-! AM: the heap as numbers. Cells have numbers: 0 null, 1 the script, 2 LETTERS, 3 UNITS, from 4 on those that are made, in their order.
 M = (next number, slots made, shape (kind, length) of each, ints, longs, references by cell and place). -/
abbrev am_G : Type := va_G × (Nat → ClassId) × Nat × (Nat → Nat) × Nat × (Nat → Int32)
abbrev am_M : Type := Nat × Nat × (Nat → Nat × Nat) × (Nat → Nat → Int32) × (Nat → Nat → Int64) × (Nat → Nat → Nat)
abbrev am_Y : Type := MethodName × ByteArray × Nat × Option FieldType × Nat × Nat
abbrev am_L : Type := List (Option Value)
abbrev am_nx (M : am_M) : Nat := M.1
abbrev am_sl (M : am_M) : Nat := M.2.1
abbrev am_sh (M : am_M) : Nat → Nat × Nat := M.2.2.1
abbrev am_mu (M : am_M) : Nat → Nat → Int32 := M.2.2.2.1
abbrev am_lg (M : am_M) : Nat → Nat → Int64 := M.2.2.2.2.1
abbrev am_ro (M : am_M) : Nat → Nat → Nat := M.2.2.2.2.2
/-- one row of a table is another -/
def am_rw {α : Type} (f : Nat → α) (i : Nat) (r : α) : Nat → α := fun a => if a = i then r else f a
theorem am_rw_s {α : Type} {f : Nat → α} {i : Nat} {r : α} : am_rw f i r i = r := by simp [am_rw]
theorem am_rw_n {α : Type} {f : Nat → α} {i a : Nat} {r : α} (h : a ≠ i) : am_rw f i r a = f a := by simp [am_rw, h]
/-- an int, a long, a reference is written; a row of ints comes to an array -/
def am_wI (M : am_M) (i j : Nat) (v : Int32) : am_M := (M.1, M.2.1, M.2.2.1, am_rw M.2.2.2.1 i (upd (M.2.2.2.1 i) j v), M.2.2.2.2.1, M.2.2.2.2.2)
def am_wA (M : am_M) (i : Nat) (r : Nat → Int32) : am_M := (M.1, M.2.1, M.2.2.1, am_rw M.2.2.2.1 i r, M.2.2.2.2.1, M.2.2.2.2.2)
def am_wL (M : am_M) (i j : Nat) (v : Int64) : am_M := (M.1, M.2.1, M.2.2.1, M.2.2.2.1, am_rw M.2.2.2.2.1 i (vp_updL (M.2.2.2.2.1 i) j v), M.2.2.2.2.2)
def am_wR (M : am_M) (i j : Nat) (v : Nat) : am_M := (M.1, M.2.1, M.2.2.1, M.2.2.2.1, M.2.2.2.2.1, am_rw M.2.2.2.2.2 i (va_up (M.2.2.2.2.2 i) j v))
/-- a cell is made -/
def am_mk (M : am_M) (k n : Nat) : am_M := (M.1 + 1, M.2.1 + n, am_rw M.2.2.1 M.1 (k, n), am_rw M.2.2.2.1 M.1 (fun _ => 0), am_rw M.2.2.2.2.1 M.1 (fun _ => 0), am_rw M.2.2.2.2.2 M.1 (fun _ => 0))
def am_ad (g : am_G) (i : Nat) : Nat := if i < 4 then g.2.2.2.1 i else g.2.2.1 + (i - 4)
def am_tr (g : am_G) : Value → Value
  | .ref i => .ref (am_ad g i)
  | v => v
def am_av : Nat → Value
  | 0 => .null
  | n + 1 => .ref (n + 1)
def am_op (g : am_G) : Nat → Option Nat
  | 0 => none
  | n + 1 => some (am_ad g (n + 1))
theorem am_tr_av (g : am_G) (i : Nat) : am_tr g (am_av i) = va_rf (am_op g i) := by cases i <;> rfl
theorem am_tr_cat (g : am_G) (v : Value) : (am_tr g v).category = v.category := by cases v <;> rfl
def am_fv (g : am_G) (M : am_M) (i f : Nat) (ty : FieldType) : Value := match ty with
  | .long => .long (am_lg M i f)
  | .int => .int (am_mu M i f)
  | .boolean => .int (am_mu M i f)
  | _ => va_rf (am_op g (am_ro M i f))
def am_en (g : am_G) (M : am_M) (i : Nat) : va_E :=
  if (am_sh M i).1 < 11 then .inr ((am_sh M i).1, (List.range (am_sh M i).2).map (fun f => am_fv g M i f (am_ft (am_sh M i).1 f)))
  else if (am_sh M i).1 = 14 then .inl (g.2.1 14, (am_sh M i).2, .inr (.inr (.inr (.inr (fun j => am_op g (am_ro M i j))))))
  else .inl (g.2.1 (am_sh M i).1, (am_sh M i).2, .inl (am_mu M i))
def am_ws (g : am_G) (M : am_M) : va_W := (List.range (am_nx M - 4)).map (fun j => (g.2.2.1 + j, am_en g M (j + 4)))
def am_ty (g : am_G) : List (ClassId × FieldType) := [(g.2.1 11, .byte), (g.2.1 12, .int), (g.2.1 13, .boolean), (g.2.1 14, .object "NoonJars$Row")]
def am_A (g : am_G) : Nat → Prop := fun q => g.2.2.1 ≤ q
def am_let (j : Nat) : Int32 := ([106, 99, 101, 100, 108, 117] : List Int32).getD j 0
def am_uni (j : Nat) : Int32 := ([1, 21, 441] : List Int32).getD j 0
/-- the heap holds M -/
def am_R (g : am_G) (M : am_M) (H : Heap) : Prop := H.size + 4 = g.2.2.1 + am_nx M ∧ 4 ≤ am_nx M ∧ va_P g.1 am_cl (am_ws g M) H ∧ (∀ i, am_nx M ≤ i → (am_sh M i).1 = 99) ∧
  ((am_sh M 0).1 = 99 ∧ am_sh M 1 = (16, g.2.2.2.2.1) ∧ am_sh M 2 = (15, 6) ∧ am_sh M 3 = (16, 3)) ∧
  (∀ j, j < g.2.2.2.2.1 → am_mu M 1 j = g.2.2.2.2.2 j) ∧ (∀ j, j < 6 → am_mu M 2 j = am_let j) ∧ (∀ j, j < 3 → am_mu M 3 j = am_uni j) ∧ (∀ i, (am_sh M i).1 < 11 → ∃ r, am_cl[(am_sh M i).1]? = some r ∧ r.2.2 = (am_sh M i).2) ∧ (∀ i, 4 ≤ i → i < am_nx M → (am_sh M i).1 < 15)
def am_K (g : am_G) (U : State) (H : Heap) : Prop := va_K g.1 am_cl (am_ty g) U ∧
  (va_Z "NoonJars$Kinds" "LETTERS" "[C" (.ref (am_ad g 2)) (am_A g) U H ∧ va_T .char (am_ad g 2) 6 (fun j => .int (am_let j)) (am_A g) U H) ∧
  (va_Z "NoonJars$Pourings" "UNITS" "[I" (.ref (am_ad g 3)) (am_A g) U H ∧ va_T .int (am_ad g 3) 3 (fun j => .int (am_uni j)) (am_A g) U H) ∧
  va_X (am_ad g 1) g.2.2.2.2.1 g.2.2.2.2.2 U H ∧ am_ad g 1 < g.2.2.1 ∧ g.2.2.1 ≤ H.size
def am_ts (args : Array Value) (s : State) : Prop := ∀ w ∈ lw_tbl, am_stb w = true → w.before args s = true
def am_X (g : am_G) (d : am_Y) (p : Program) (s : State) (m : MethodId) (args : Array Value) (meth : Method) (c : Code) : Prop :=
  p.tables.exec = Jvm.exec ∧ c.code = d.2.1 ∧ c.maxLocals = d.2.2.1 ∧ s.vm.findClass d.1.cls = some m.cls ∧ meth.name = d.1.name ∧ am_ts args s ∧ am_K g s s.heap
/-! locals -/
def am_get : am_L → Nat → Option Value
  | [], _ => none
  | a :: _, 0 => a
  | _ :: l, n + 1 => am_get l n
def am_set : am_L → Nat → Option Value → am_L
  | [], _, _ => []
  | _ :: l, 0, v => v :: l
  | a :: l, n + 1, v => a :: am_set l n v
/-- a long that stood a place ahead is gone -/
def am_cutv (l : am_L) (n : Nat) : Option Value → am_L
  | some v => if v.category = 2 then am_set l n none else l
  | none => l
def am_cut (l : am_L) : Nat → am_L
  | 0 => l
  | n + 1 => am_cutv l n (am_get l n)
def am_st1 (l : am_L) (i : Nat) (v : Value) : am_L := am_set (am_cut l i) i (some v)
def am_st2 (l : am_L) (i : Nat) (v : Value) : am_L := am_set (am_set (am_cut l i) (i + 1) none) i (some v)
def am_ents : List Value → am_L
  | [] => []
  | v :: vs => if v.category = 2 then some v :: none :: am_ents vs else some v :: am_ents vs
def am_lv (g : am_G) : Nat → am_L → List (Nat × Value)
  | _, [] => []
  | i, some v :: t => (i, am_tr g v) :: am_lv g (i + 1) t
  | i, none :: t => am_lv g (i + 1) t
theorem am_lv_mem (g : am_G) : ∀ (l : am_L) (k : Nat) (q : Nat × Value), q ∈ am_lv g k l ↔ ∃ i v, q = (k + i, am_tr g v) ∧ am_get l i = some v := by
  intro l
  induction l with
  | nil => intro k q; simp [am_lv, am_get]
  | cons a t ih =>
    intro k q
    constructor
    · intro h
      cases a with
      | none =>
        obtain ⟨i, v, h1, h2⟩ := (ih (k + 1) q).mp h
        exact ⟨i + 1, v, by rw [h1]; simp; omega, h2⟩
      | some w =>
        rcases List.mem_cons.mp h with h | h
        · exact ⟨0, w, h, rfl⟩
        · obtain ⟨i, v, h1, h2⟩ := (ih (k + 1) q).mp h
          exact ⟨i + 1, v, by rw [h1]; simp; omega, h2⟩
    · rintro ⟨i, v, h1, h2⟩
      cases i with
      | zero =>
        have h2 : a = some v := h2
        subst h2
        rw [h1]
        exact List.mem_cons_self
      | succ i =>
        have h3 : q ∈ am_lv g (k + 1) t := (ih (k + 1) q).mpr ⟨i, v, by rw [h1]; simp; omega, h2⟩
        cases a with
        | none => exact h3
        | some w => exact List.mem_cons_of_mem _ h3
theorem am_set_get (l : am_L) (i j : Nat) (v : Option Value) (w : Value) (h : am_get (am_set l i v) j = some w) : (j = i ∧ v = some w) ∨ (j ≠ i ∧ am_get l j = some w) := by
  induction l generalizing i j with
  | nil => simp [am_set, am_get] at h
  | cons a t ih =>
    cases i with
    | zero =>
      cases j with
      | zero => exact Or.inl ⟨rfl, h⟩
      | succ j => exact Or.inr ⟨by omega, h⟩
    | succ i =>
      cases j with
      | zero => exact Or.inr ⟨by omega, h⟩
      | succ j =>
        rcases ih i j h with ⟨h1, h2⟩ | ⟨h1, h2⟩
        · exact Or.inl ⟨by omega, h2⟩
        · exact Or.inr ⟨by omega, h2⟩
theorem am_cut_get (l : am_L) (i j : Nat) (w : Value) (h : am_get (am_cut l i) j = some w) : am_get l j = some w ∧ ¬ (j + 1 = i ∧ w.category = 2) := by
  cases i with
  | zero => exact ⟨h, fun q => by omega⟩
  | succ n =>
    have h : am_get (am_cutv l n (am_get l n)) j = some w := h
    cases hv : am_get l n with
    | none =>
      rw [hv] at h
      have h8 : am_get l j = some w := h
      refine ⟨h8, fun q => ?_⟩
      rw [show j = n by omega, hv] at h8
      cases h8
    | some v =>
      rw [hv] at h
      have h : am_get (if v.category = 2 then am_set l n none else l) j = some w := h
      by_cases hc : v.category = 2
      · rw [if_pos hc] at h
        rcases am_set_get _ _ _ _ _ h with ⟨h1, h2⟩ | ⟨h1, h2⟩
        · cases h2
        · exact ⟨h2, fun q => h1 (by omega)⟩
      · rw [if_neg hc] at h
        refine ⟨h, fun q => ?_⟩
        rw [show j = n by omega, hv] at h
        cases h
        exact hc q.2
def am_ll (g : am_G) (ls : Array Slot) (nL : Nat) (l : am_L) : Prop := lv_has ls nL (am_lv g 0 l)
theorem am_ll_at {g : am_G} {ls : Array Slot} {nL : Nat} {l : am_L} (h : am_ll g ls nL l) {i : Nat} {v : Value} (hv : am_get l i = some v) : ls[i]? = some (.val (am_tr g v)) :=
  h.2.2 (i, am_tr g v) ((am_lv_mem g l 0 _).mpr ⟨i, v, by simp, hv⟩)
theorem am_ll_sub {g : am_G} {ls : Array Slot} {nL : Nat} {l : am_L} {lv : List (Nat × Value)} (h : lv_has ls nL lv) (hs : ∀ q ∈ am_lv g 0 l, q ∈ lv) : am_ll g ls nL l := ⟨h.1, h.2.1, fun q hq => h.2.2 q (hs q hq)⟩
theorem am_st1_sub (g : am_G) (l : am_L) (i : Nat) (v : Value) : ∀ q ∈ am_lv g 0 (am_st1 l i v), q ∈ (i, am_tr g v) :: (am_lv g 0 l).filter (fun q => !(q.1 == i) && !(q.1 + 1 == i && q.2.category == 2)) := by
  intro q hq
  obtain ⟨j, w, h1, h2⟩ := (am_lv_mem g _ 0 q).mp hq
  rcases am_set_get _ _ _ _ _ h2 with ⟨h3, h4⟩ | ⟨h3, h4⟩
  · cases h4
    rw [h1, h3]
    simp
  · obtain ⟨h5, h6⟩ := am_cut_get _ _ _ _ h4
    refine List.mem_cons_of_mem _ (List.mem_filter.mpr ⟨(am_lv_mem g l 0 q).mpr ⟨j, w, h1, h5⟩, ?_⟩)
    rw [h1]
    simp only [am_tr_cat, Nat.zero_add]
    have e1 : (j == i) = false := by simp [h3]
    rw [e1]
    by_cases e2 : j + 1 = i
    · have e3 : (w.category == 2) = false := by
        have h9 : ¬ w.category = 2 := fun z => h6 ⟨e2, z⟩
        simp [h9]
      simp [e3]
    · simp [e2]
theorem am_st2_sub (g : am_G) (l : am_L) (i : Nat) (v : Value) : ∀ q ∈ am_lv g 0 (am_st2 l i v), q ∈ (i, am_tr g v) :: (am_lv g 0 l).filter (fun q => !(q.1 == i) && (!(q.1 == i + 1) && !(q.1 + 1 == i && q.2.category == 2))) := by
  intro q hq
  obtain ⟨j, w, h1, h2⟩ := (am_lv_mem g _ 0 q).mp hq
  rcases am_set_get _ _ _ _ _ h2 with ⟨h3, h4⟩ | ⟨h3, h4⟩
  · cases h4
    rw [h1, h3]
    simp
  · rcases am_set_get _ _ _ _ _ h4 with ⟨h7, h8⟩ | ⟨h7, h8⟩
    · cases h8
    obtain ⟨h5, h6⟩ := am_cut_get _ _ _ _ h8
    refine List.mem_cons_of_mem _ (List.mem_filter.mpr ⟨(am_lv_mem g l 0 q).mpr ⟨j, w, h1, h5⟩, ?_⟩)
    rw [h1]
    simp only [am_tr_cat, Nat.zero_add]
    have e1 : (j == i) = false := by simp [h3]
    have e4 : (j == i + 1) = false := by simp [h7]
    rw [e1, e4]
    by_cases e2 : j + 1 = i
    · have e3 : (w.category == 2) = false := by
        have h9 : ¬ w.category = 2 := fun z => h6 ⟨e2, z⟩
        simp [h9]
      simp [e3]
    · simp [e2]
theorem am_ents_args (g : am_G) (vs : List Value) : ∀ k, am_lv g k (am_ents vs) = lv_args k (vs.map (am_tr g)) := by
  induction vs with
  | nil => intro k; rfl
  | cons v t ih =>
    intro k
    by_cases hc : v.category = 2
    · simp only [am_ents, hc, if_true, List.map_cons, lv_args, am_tr_cat, am_lv]
      rw [ih (k + 1 + 1)]
    · simp only [am_ents, hc, if_false, List.map_cons, lv_args, am_tr_cat, am_lv]
      rw [ih (k + 1)]
theorem am_lv_none (g : am_G) (n : Nat) : ∀ k, am_lv g k (List.replicate n none) = [] := by
  induction n with
  | zero => intro k; rfl
  | succ n ih => intro k; rw [List.replicate_succ]; exact ih (k + 1)
theorem am_lv_app (g : am_G) (l : am_L) (n : Nat) : ∀ k, am_lv g k (l ++ List.replicate n none) = am_lv g k l := by
  induction l with
  | nil => intro k; exact am_lv_none g n k
  | cons a t ih =>
    intro k
    cases a with
    | none => exact ih (k + 1)
    | some v =>
      rw [List.cons_append]
      simp only [am_lv]
      rw [ih (k + 1)]
