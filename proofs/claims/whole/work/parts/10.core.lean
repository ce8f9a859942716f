/-! THE ABSTRACT WORLD: cells by their numbers, a shape that says what each cell is, one memory of ints (cell, place) -/
/-- a cell's shape: an array (number of its type, length, its references if it is a row of references), or an object (number of its class, its fields: an int in the memory, or a reference) -/
abbrev q_S : Type := (Nat × Nat × Option (Nat → Option Nat)) ⊕ (Nat × List (Option (Option Nat)))
abbrev q_M : Type := Nat → Nat → Int32
/-- what a run takes as given: class numbers and slots, array classes, the first cell's address, addresses of constants, the script -/
abbrev q_E : Type := va_G × (Nat → ClassId) × Nat × (Nat → Nat) × Nat × (Nat → Int32)
abbrev q_D (E : q_E) : va_G := E.1
abbrev q_cT (E : q_E) : Nat → ClassId := E.2.1
abbrev q_h0 (E : q_E) : Nat := E.2.2.1
abbrev q_aS (E : q_E) : Nat → Nat := E.2.2.2.1
abbrev q_L (E : q_E) : Nat := E.2.2.2.2.1
abbrev q_xs (E : q_E) : Nat → Int32 := E.2.2.2.2.2
def q_a (E : q_E) (i : Nat) : Nat := if i < 1000000 then q_h0 E + i else q_aS E (i - 1000000)
theorem q_a_lo {E : q_E} {i : Nat} (h : i < 1000000) : q_a E i = q_h0 E + i := if_pos h
def q_v (E : q_E) : Value → Value
  | .ref i => .ref (q_a E i)
  | v => v
theorem q_v_cat (E : q_E) (v : Value) : (q_v E v).category = v.category := by cases v <;> rfl
def q_fl (E : q_E) (f : Nat → Int32) : Nat → List (Option (Option Nat)) → List Value
  | _, [] => []
  | k, none :: r => .int (f k) :: q_fl E f (k + 1) r
  | k, some x :: r => va_rf (x.map (q_a E)) :: q_fl E f (k + 1) r
def q_c (E : q_E) (f : Nat → Int32) : q_S → va_E
  | .inl (t, n, none) => .inl (q_cT E t, n, .inl f)
  | .inl (t, n, some g) => .inl (q_cT E t, n, .inr (.inr (.inr (.inr (fun j => (g j).map (q_a E))))))
  | .inr (ci, ks) => .inr (ci, q_fl E f 0 ks)
def q_w (E : q_E) (sh : List q_S) (σ : q_M) : va_W := sh.mapIdx (fun a x => (q_h0 E + a, q_c E (σ a) x))
theorem q_w_at {E : q_E} {sh : List q_S} {σ : q_M} {a : Nat} {x : q_S} (h : sh[a]? = some x) : (q_w E sh σ)[a]? = some (q_h0 E + a, q_c E (σ a) x) := by
  unfold q_w
  rw [List.getElem?_mapIdx, h]
  rfl
theorem q_w_len {E : q_E} {sh : List q_S} {σ : q_M} : (q_w E sh σ).length = sh.length := by
  unfold q_w
  simp
/-- a field that is an int -/
theorem q_fl_int {E : q_E} {f : Nat → Int32} : ∀ (ks : List (Option (Option Nat))) (i k : Nat), ks[k]? = some none → (q_fl E f i ks)[k]? = some (.int (f (i + k)))
  | [], _, k, h => by simp at h
  | none :: r, i, 0, _ => by simp [q_fl]
  | some _ :: r, i, 0, h => by simp at h
  | none :: r, i, k + 1, h => by
    have := q_fl_int (E := E) (f := f) r (i + 1) k (by simpa using h)
    rw [show i + (k + 1) = i + 1 + k by omega]
    simpa [q_fl] using this
  | some _ :: r, i, k + 1, h => by
    have := q_fl_int (E := E) (f := f) r (i + 1) k (by simpa using h)
    rw [show i + (k + 1) = i + 1 + k by omega]
    simpa [q_fl] using this
theorem q_fl_ref {E : q_E} {f : Nat → Int32} {x : Option Nat} : ∀ (ks : List (Option (Option Nat))) (i k : Nat), ks[k]? = some (some x) → (q_fl E f i ks)[k]? = some (va_rf (x.map (q_a E)))
  | [], _, k, h => by simp at h
  | none :: r, i, 0, h => by simp at h
  | some _ :: r, i, 0, h => by
    have e : some _ = some (some x) := h
    cases e
    simp [q_fl]
  | none :: r, i, k + 1, h => by
    have := q_fl_ref (E := E) (f := f) (x := x) r (i + 1) k (by simpa using h)
    simpa [q_fl] using this
  | some _ :: r, i, k + 1, h => by
    have := q_fl_ref (E := E) (f := f) (x := x) r (i + 1) k (by simpa using h)
    simpa [q_fl] using this
theorem q_fl_len {E : q_E} {f : Nat → Int32} : ∀ (ks : List (Option (Option Nat))) (i : Nat), (q_fl E f i ks).length = ks.length
  | [], _ => rfl
  | none :: r, i => by simp [q_fl, q_fl_len r (i + 1)]
  | some _ :: r, i => by simp [q_fl, q_fl_len r (i + 1)]
theorem q_fl_congr {E : q_E} {f g : Nat → Int32} : ∀ (ks : List (Option (Option Nat))) (i : Nat), (∀ k, i ≤ k → f k = g k) → q_fl E f i ks = q_fl E g i ks
  | [], _, _ => rfl
  | none :: r, i, h => by simp [q_fl, h i (Nat.le_refl i), q_fl_congr r (i + 1) (fun k hk => h k (by omega))]
  | some _ :: r, i, h => by simp [q_fl, q_fl_congr r (i + 1) (fun k hk => h k (by omega))]
theorem q_fl_upd {E : q_E} {f : Nat → Int32} {v : Int32} : ∀ (ks : List (Option (Option Nat))) (i k : Nat), ks[k]? = some none → (q_fl E f i ks).set k (.int v) = q_fl E (upd f (i + k) v) i ks
  | [], _, k, h => by simp at h
  | none :: r, i, 0, _ => by
    have e : q_fl E (upd f i v) (i + 1) r = q_fl E f (i + 1) r := q_fl_congr r (i + 1) (fun k hk => by simp [upd, show k ≠ i by omega])
    simp [q_fl, e]
    simp [upd]
  | some _ :: r, i, 0, h => by simp at h
  | none :: r, i, k + 1, h => by
    have := q_fl_upd (E := E) (f := f) (v := v) r (i + 1) k (by simpa using h)
    rw [show i + (k + 1) = i + 1 + k by omega]
    simp [q_fl, this]
    simp [upd, show i ≠ i + 1 + k by omega]
  | some _ :: r, i, k + 1, h => by
    have := q_fl_upd (E := E) (f := f) (v := v) r (i + 1) k (by simpa using h)
    rw [show i + (k + 1) = i + 1 + k by omega]
    simp [q_fl, this]
theorem q_fl_setr {E : q_E} {f : Nat → Int32} {x y : Option Nat} : ∀ (ks : List (Option (Option Nat))) (i k : Nat), ks[k]? = some (some x) → (q_fl E f i ks).set k (va_rf (y.map (q_a E))) = q_fl E f i (ks.set k (some y))
  | [], _, k, h => by simp at h
  | none :: r, i, 0, h => by simp at h
  | some _ :: r, i, 0, _ => by simp [q_fl]
  | none :: r, i, k + 1, h => by
    have := q_fl_setr (E := E) (f := f) (y := y) r (i + 1) k (by simpa using h)
    simp [q_fl, this]
  | some _ :: r, i, k + 1, h => by
    have := q_fl_setr (E := E) (f := f) (y := y) r (i + 1) k (by simpa using h)
    simp [q_fl, this]
/-- the memory with one place changed -/
def q_up (σ : q_M) (a k : Nat) (v : Int32) : q_M := fun b => if b = a then upd (σ a) k v else σ b
theorem q_up_same (σ : q_M) (a k : Nat) (v : Int32) : q_up σ a k v a = upd (σ a) k v := if_pos rfl
theorem q_up_ne {σ : q_M} {a b k : Nat} {v : Int32} (h : b ≠ a) : q_up σ a k v b = σ b := if_neg h
theorem q_up_at (σ : q_M) (a k : Nat) (v : Int32) : q_up σ a k v a k = v := by simp [q_up, upd]
theorem q_up_off {σ : q_M} {a k b j : Nat} {v : Int32} (h : ¬ (b = a ∧ j = k)) : q_up σ a k v b j = σ b j := by
  unfold q_up
  by_cases hb : b = a
  · subst hb
    rw [if_pos rfl]
    exact if_neg (fun e => h ⟨rfl, e⟩)
  · rw [if_neg hb]
theorem q_w_set {E : q_E} {sh : List q_S} {σ : q_M} {a k : Nat} {v : Int32} {x : q_S} (h : sh[a]? = some x) {c : va_E} (hc : c = q_c E (upd (σ a) k v) x) : (q_w E sh σ).set a (q_h0 E + a, c) = q_w E sh (q_up σ a k v) := by
  subst hc
  apply List.ext_getElem?
  intro j
  rw [List.getElem?_set, q_w_len]
  by_cases hj : a = j
  · subst hj
    have hl : a < sh.length := (List.getElem?_eq_some_iff.mp h).1
    rw [if_pos rfl, if_pos hl, q_w_at h, q_up_same]
  · rw [if_neg hj]
    cases hs : sh[j]? with
    | none =>
      unfold q_w
      rw [List.getElem?_mapIdx, List.getElem?_mapIdx, hs]
      rfl
    | some y => rw [q_w_at hs, q_w_at hs, q_up_ne (fun e => hj e.symm)]
theorem q_w_sets {E : q_E} {sh : List q_S} {σ : q_M} {a : Nat} {x y : q_S} (h : sh[a]? = some x) : (q_w E sh σ).set a (q_h0 E + a, q_c E (σ a) y) = q_w E (sh.set a y) σ := by
  apply List.ext_getElem?
  intro j
  have hl : a < sh.length := (List.getElem?_eq_some_iff.mp h).1
  rw [List.getElem?_set, q_w_len]
  by_cases hj : a = j
  · subst hj
    rw [if_pos rfl, if_pos hl, q_w_at (x := y) (by rw [List.getElem?_set, if_pos rfl, if_pos hl])]
  · rw [if_neg hj]
    have e : (sh.set a y)[j]? = sh[j]? := by rw [List.getElem?_set, if_neg hj]
    unfold q_w
    rw [List.getElem?_mapIdx, List.getElem?_mapIdx, e]
theorem q_w_app {E : q_E} {sh : List q_S} {σ : q_M} {x : q_S} {c : va_E} (hc : c = q_c E (σ sh.length) x) : q_w E sh σ ++ [(q_h0 E + sh.length, c)] = q_w E (sh ++ [x]) σ := by
  subst hc
  unfold q_w
  rw [List.mapIdx_append]
  simp
/-- the memory with a whole cell changed -/
def q_put (σ : q_M) (a : Nat) (f : Nat → Int32) : q_M := fun b => if b = a then f else σ b
theorem q_w_far {E : q_E} {sh : List q_S} {σ : q_M} {f : Nat → Int32} : q_w E sh (q_put σ sh.length f) = q_w E sh σ := by
  apply List.ext_getElem?
  intro j
  cases hs : sh[j]? with
  | none =>
    unfold q_w
    rw [List.getElem?_mapIdx, List.getElem?_mapIdx, hs]
    rfl
  | some y =>
    have hl : j < sh.length := (List.getElem?_eq_some_iff.mp hs).1
    rw [q_w_at hs, q_w_at hs]
    simp [q_put, show j ≠ sh.length by omega]
/-! locals by their places -/
def q_en (E : q_E) : Nat → List (Option Value) → List (Nat × Value)
  | _, [] => []
  | i, none :: r => q_en E (i + 1) r
  | i, some v :: r => (i, q_v E v) :: q_en E (i + 1) r
theorem q_en_mem {E : q_E} : ∀ (l : List (Option Value)) (i : Nat) (q : Nat × Value), q ∈ q_en E i l ↔ ∃ (k : Nat) (v : Value), l[k]? = some (some v) ∧ q = (i + k, q_v E v)
  | [], i, q => by simp [q_en]
  | none :: r, i, q => by
    rw [q_en, q_en_mem r (i + 1) q]
    constructor
    · rintro ⟨k, v, h1, h2⟩
      exact ⟨k + 1, v, by simpa using h1, by rw [h2, show i + 1 + k = i + (k + 1) by omega]⟩
    · rintro ⟨k, v, h1, h2⟩
      cases k with
      | zero => simp at h1
      | succ k => exact ⟨k, v, by simpa using h1, by rw [h2, show i + (k + 1) = i + 1 + k by omega]⟩
  | some w :: r, i, q => by
    rw [q_en, List.mem_cons, q_en_mem r (i + 1) q]
    constructor
    · rintro (h | ⟨k, v, h1, h2⟩)
      · exact ⟨0, w, rfl, h⟩
      · exact ⟨k + 1, v, by simpa using h1, by rw [h2, show i + 1 + k = i + (k + 1) by omega]⟩
    · rintro ⟨k, v, h1, h2⟩
      cases k with
      | zero =>
        have e : some (some w) = some (some v) := h1
        cases e
        exact Or.inl h2
      | succ k => exact Or.inr ⟨k, v, by simpa using h1, by rw [h2, show i + (k + 1) = i + 1 + k by omega]⟩
def q_ls (E : q_E) (a : Array Slot) (n : Nat) (l : List (Option Value)) : Prop := lv_has a n (q_en E 0 l)
theorem q_ls_at {E : q_E} {a : Array Slot} {n : Nat} {l : List (Option Value)} (h : q_ls E a n l) {k : Nat} {v : Value} (hk : l[k]? = some (some v)) : a[k]? = some (.val (q_v E v)) := h.2.2 (k, q_v E v) ((q_en_mem l 0 _).mpr ⟨k, v, hk, by rw [Nat.zero_add]⟩)
theorem q_ls_sub {E : q_E} {a : Array Slot} {n : Nat} {l l' : List (Option Value)} (h : q_ls E a n l) (hs : ∀ (k : Nat) (v : Value), l'[k]? = some (some v) → l[k]? = some (some v)) : q_ls E a n l' := by
  refine ⟨h.1, h.2.1, fun q hq => ?_⟩
  obtain ⟨k, v, h1, rfl⟩ := (q_en_mem l' 0 q).mp hq
  rw [Nat.zero_add]
  exact q_ls_at h (hs k v h1)
/-- a value stored: a long just ahead of it is gone -/
def q_kl (l : List (Option Value)) : Nat → List (Option Value)
  | 0 => l
  | k + 1 => match l[k]? with
    | some (some w) => if w.category = 2 then l.set k none else l
    | _ => l
def q_st (l : List (Option Value)) (i : Nat) (v : Value) : List (Option Value) := (q_kl l i).set i (some v)
def q_st2 (l : List (Option Value)) (i : Nat) (v : Value) : List (Option Value) := ((q_kl l i).set i (some v)).set (i + 1) none
theorem q_kl_get {l : List (Option Value)} {i k : Nat} {w : Value} (h : (q_kl l i)[k]? = some (some w)) : l[k]? = some (some w) ∧ ¬ (k + 1 = i ∧ w.category = 2) := by
  cases i with
  | zero => exact ⟨h, fun e => by omega⟩
  | succ j =>
    have h2 : (match l[j]? with
      | some (some w) => if w.category = 2 then l.set j none else l
      | _ => l)[k]? = some (some w) := h
    clear h
    cases hj : l[j]? with
    | none =>
      rw [hj] at h2
      refine ⟨h2, fun e => ?_⟩
      have hk : k = j := by omega
      subst hk
      exact absurd (hj.symm.trans h2) (by simp)
    | some o =>
      cases o with
      | none =>
        rw [hj] at h2
        refine ⟨h2, fun e => ?_⟩
        have hk : k = j := by omega
        subst hk
        exact absurd (hj.symm.trans h2) (by simp)
      | some w0 =>
        rw [hj] at h2
        dsimp only at h2
        by_cases hc : w0.category = 2
        · rw [if_pos hc, List.getElem?_set] at h2
          by_cases hne : j = k
          · rw [if_pos hne] at h2
            split at h2 <;> simp at h2
          · rw [if_neg hne] at h2
            exact ⟨h2, fun e => hne (by omega)⟩
        · rw [if_neg hc] at h2
          refine ⟨h2, fun e => ?_⟩
          have hk : k = j := by omega
          subst hk
          have e2 := hj.symm.trans h2
          simp at e2
          exact hc (by rw [e2]; exact e.2)
theorem q_ls_st {E : q_E} {a' : Array Slot} {n i : Nat} {l : List (Option Value)} {v : Value} (h : lv_has a' n ((i, q_v E v) :: (q_en E 0 l).filter (fun q => !(q.1 == i) && !(q.1 + 1 == i && q.2.category == 2)))) : q_ls E a' n (q_st l i v) := by
  refine ⟨h.1, h.2.1, fun q hq => ?_⟩
  obtain ⟨k, w, h1, rfl⟩ := (q_en_mem _ 0 q).mp hq
  rw [Nat.zero_add]
  refine h.2.2 (k, q_v E w) ?_
  unfold q_st at h1
  rw [List.getElem?_set] at h1
  split at h1
  · rename_i hik
    split at h1
    · cases h1
      subst hik
      exact List.mem_cons_self
    · simp at h1
  · rename_i hik
    obtain ⟨g1, g2⟩ := q_kl_get h1
    refine List.mem_cons_of_mem _ (List.mem_filter.mpr ⟨(q_en_mem l 0 _).mpr ⟨k, w, g1, by rw [Nat.zero_add]⟩, ?_⟩)
    simp only [q_v_cat, Bool.and_eq_true, Bool.not_eq_true', beq_eq_false_iff_ne, ne_eq]
    refine ⟨fun e => hik e.symm, ?_⟩
    rw [Bool.and_eq_false_iff]
    by_cases hk : k + 1 = i
    · exact Or.inr (by simpa using fun e => g2 ⟨hk, e⟩)
    · exact Or.inl (by simpa using hk)
theorem q_ls_st2 {E : q_E} {a' : Array Slot} {n i : Nat} {l : List (Option Value)} {v : Value} (h : lv_has a' n ((i, q_v E v) :: (q_en E 0 l).filter (fun q => !(q.1 == i) && (!(q.1 == i + 1) && !(q.1 + 1 == i && q.2.category == 2))))) : q_ls E a' n (q_st2 l i v) := by
  refine ⟨h.1, h.2.1, fun q hq => ?_⟩
  obtain ⟨k, w, h1, rfl⟩ := (q_en_mem _ 0 q).mp hq
  rw [Nat.zero_add]
  refine h.2.2 (k, q_v E w) ?_
  unfold q_st2 at h1
  rw [List.getElem?_set] at h1
  split at h1
  · split at h1 <;> simp at h1
  · rename_i hi1
    rw [List.getElem?_set] at h1
    split at h1
    · rename_i hik
      split at h1
      · cases h1
        subst hik
        exact List.mem_cons_self
      · simp at h1
    · rename_i hik
      obtain ⟨g1, g2⟩ := q_kl_get h1
      refine List.mem_cons_of_mem _ (List.mem_filter.mpr ⟨(q_en_mem l 0 _).mpr ⟨k, w, g1, by rw [Nat.zero_add]⟩, ?_⟩)
      simp only [q_v_cat, Bool.and_eq_true, Bool.not_eq_true', beq_eq_false_iff_ne, ne_eq]
      refine ⟨fun e => hik e.symm, fun e => hi1 e.symm, ?_⟩
      rw [Bool.and_eq_false_iff]
      by_cases hk : k + 1 = i
      · exact Or.inr (by simpa using fun e => g2 ⟨hk, e⟩)
      · exact Or.inl (by simpa using hk)
