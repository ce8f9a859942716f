/-! rows filled one by one; Water, Seen, Sheet -/
def q_fill (σ : q_M) (a : Nat) (f : Nat → Int32) (i : Nat) : q_M := fun b => if b = a then (fun j => if j < i then f j else σ a j) else σ b
theorem q_fill_0 (σ : q_M) (a : Nat) (f : Nat → Int32) : q_fill σ a f 0 = σ := by
  funext b j
  by_cases h : b = a <;> simp [q_fill, h]
theorem q_fill_s (σ : q_M) (a : Nat) (f : Nat → Int32) (i : Nat) : q_up (q_fill σ a f i) a i (f i) = q_fill σ a f (i + 1) := by
  funext b j
  by_cases h : b = a
  · subst h
    by_cases h2 : j = i
    · subst h2
      simp [q_fill, q_up, upd]
    · by_cases h3 : j < i
      · simp [q_fill, q_up, upd, h2, h3, show j < i + 1 by omega]
      · simp [q_fill, q_up, upd, h2, h3, show ¬ j < i + 1 by omega]
  · simp [q_fill, q_up, upd, h]
theorem q_fill_k {σ : q_M} {a : Nat} {f : Nat → Int32} {i : Nat} (h : f i = σ a i) : q_fill σ a f i = q_fill σ a f (i + 1) := by
  rw [← q_fill_s]
  funext b j
  by_cases hb : b = a
  · subst hb
    by_cases h2 : j = i
    · subst h2
      simp [q_fill, q_up, upd, h]
    · simp [q_up, upd, h2]
  · simp [q_up, hb]
theorem q_fill_ne {σ : q_M} {a b : Nat} {f : Nat → Int32} {i : Nat} (h : b ≠ a) : q_fill σ a f i b = σ b := if_neg h
theorem q_fill_lo {σ : q_M} {a : Nat} {f : Nat → Int32} {i j : Nat} (h : j < i) : q_fill σ a f i a j = f j := by simp [q_fill, h]
theorem q_fill_hi {σ : q_M} {a : Nat} {f : Nat → Int32} {i j : Nat} (h : i ≤ j) : q_fill σ a f i a j = σ a j := by simp [q_fill, show ¬ j < i by omega]
theorem q_fill_self {σ : q_M} {a : Nat} {f : Nat → Int32} {i : Nat} : q_fill σ a f i a i = σ a i := q_fill_hi (Nat.le_refl i)

set_option maxHeartbeats 4000000 in
set_option maxRecDepth 100000 in
theorem lpX6_begin2 {E : q_E} {sh : List q_S} {σ : q_M} {w r q : Nat} (hw : sh[w]? = some (.inr (6, [some (some r), some (some q)]))) (hr : sh[r]? = some (.inl (0, 7, none))) (hq : sh[q]? = some (.inl (0, 24, none))) : ∀ (n : Nat) (i : Nat), 24 + 1 ≤ i + n → i ≤ 24 → q_G YX6_begin E 0 0 27 [some (.ref w), some (.int (nI i))] [] sh (q_fill (q_fill σ r (q_tab 3) 7) q (fun _ => 0) i) (q_is none sh (q_fill (q_fill σ r (q_tab 3) 7) q (fun _ => 0) 24)) := by
  intro n
  induction n with
  | zero =>
    intro i hm h0
    exact absurd hm (by omega)
  | succ n ih =>
    intro i hm h0
    have hi := nI_toInt (n := i) (by omega)
    have hc : (24 : Int32).toInt = 24 := rfl
    refine q_iload_n dX6_begin_27 rfl ?_
    refine q_bipush (x := 24) dX6_begin_28 (by decide) ?_
    refine q_cge 46 dX6_begin_30 (by decide) (fun h30 => ?_) (fun h30 => ?_)
    · refine q_vret dX6_begin_46 ?_ rfl rfl
      have e : i = 24 := by omega
      subst e
      exact ⟨rfl, rfl, rfl⟩
    · refine q_aload_n dX6_begin_33 rfl ?_
      refine q_getr fX6_15 dX6_begin_34 (by first | assumption | rfl) (by rfl) ?_
      refine q_iload_n dX6_begin_37 rfl ?_
      refine q_iconst (x := 0) dX6_begin_38 (by decide) ?_
      refine q_isto i (by first | assumption | rfl) hi (by omega) dX6_begin_39 ?_
      refine q_inc 1 dX6_begin_40 (by decide) rfl (by decide) rfl ?_
      refine q_goto 27 dX6_begin_43 (by decide) ?_
      rw [nI_1, q_fill_s]
      exact ih (i + 1) (by omega) (by omega)

set_option maxHeartbeats 4000000 in
set_option maxRecDepth 100000 in
theorem lpX6_begin1 {E : q_E} {sh : List q_S} {σ : q_M} {w r q : Nat} (hw : sh[w]? = some (.inr (6, [some (some r), some (some q)]))) (hr : sh[r]? = some (.inl (0, 7, none))) (hq : sh[q]? = some (.inl (0, 24, none))) : ∀ (n : Nat) (i : Nat), 7 + 1 ≤ i + n → i ≤ 7 → q_G YX6_begin E 0 0 2 [some (.ref w), some (.int (nI i))] [] sh (q_fill σ r (q_tab 3) i) (q_is none sh (q_fill (q_fill σ r (q_tab 3) 7) q (fun _ => 0) 24)) := by
  intro n
  induction n with
  | zero =>
    intro i hm h0
    exact absurd hm (by omega)
  | succ n ih =>
    intro i hm h0
    have hi := nI_toInt (n := i) (by omega)
    have hc : (7 : Int32).toInt = 7 := rfl
    refine q_iload_n dX6_begin_2 rfl ?_
    refine q_bipush (x := 7) dX6_begin_3 (by decide) ?_
    refine q_cge 25 dX6_begin_5 (by decide) (fun h5 => ?_) (fun h5 => ?_)
    · refine q_iconst (x := 0) dX6_begin_25 (by decide) ?_
      refine q_istore_n dX6_begin_26 (by decide) rfl ?_
      have e : i = 7 := by omega
      subst e
      have z := lpX6_begin2 (E := E) (σ := σ) hw hr hq 25 0 (by omega) (by omega)
      rw [q_fill_0] at z
      exact z
    · refine q_aload_n dX6_begin_8 rfl ?_
      refine q_getr fX6_9 dX6_begin_9 (by first | assumption | rfl) (by rfl) ?_
      refine q_iload_n dX6_begin_12 rfl ?_
      refine q_gets 3 ⟨by decide, by decide⟩ gX6_24 dX6_begin_13 ?_
      refine q_iload_n dX6_begin_16 rfl ?_
      refine q_tld 3 i ⟨by decide, by decide⟩ hi (by omega) dX6_begin_17 ?_
      refine q_isto i (by first | assumption | rfl) hi (by omega) dX6_begin_18 ?_
      refine q_inc 1 dX6_begin_19 (by decide) rfl (by decide) rfl ?_
      refine q_goto 2 dX6_begin_22 (by decide) ?_
      rw [nI_1, q_fill_s]
      exact ih (i + 1) (by omega) (by omega)

set_option maxHeartbeats 4000000 in
set_option maxRecDepth 100000 in
theorem kX6_begin {sh : List q_S} {σ : q_M} {w r q : Nat} (hw : sh[w]? = some (.inr (6, [some (some r), some (some q)]))) (hr : sh[r]? = some (.inl (0, 7, none))) (hq : sh[q]? = some (.inl (0, 24, none))) : q_Ct YX6_begin [.ref w] sh σ (q_is none sh (q_fill (q_fill σ r (q_tab 3) 7) q (fun _ => 0) 24)) := by
  refine q_ct (n := 1) (by decide) (by decide) rfl (fun _ => Nat.le_of_ble_eq_true rfl) (fun E => ?_)
  refine q_iconst (x := 0) dX6_begin_0 (by decide) ?_
  refine q_istore_n dX6_begin_1 (by decide) rfl ?_
  have z := lpX6_begin1 (E := E) (σ := σ) hw hr hq 8 0 (by omega) (by omega)
  rw [q_fill_0] at z
  exact z

set_option maxHeartbeats 4000000 in
set_option maxRecDepth 100000 in
theorem lpX6_fill {E : q_E} {sh : List q_S} {σ : q_M} {w r q : Nat} (hw : sh[w]? = some (.inr (6, [some (some r), some (some q)]))) (hr : sh[r]? = some (.inl (0, 7, none))) (hq : sh[q]? = some (.inl (0, 24, none))) (hne : r ≠ q) : ∀ (n : Nat) (i : Nat), 24 + 1 ≤ i + n → i ≤ 24 → q_G YX6_fillWarmths E 0 0 2 [some (.ref w), some (.int (nI i))] [] sh (q_fill σ q (fun j => if σ q j = 0 then σ r 2 else σ q j) i) (q_is none sh (q_fill σ q (fun j => if σ q j = 0 then σ r 2 else σ q j) 24)) := by
  intro n
  induction n with
  | zero =>
    intro i hm h0
    exact absurd hm (by omega)
  | succ n ih =>
    intro i hm h0
    have hi := nI_toInt (n := i) (by omega)
    have hc : (24 : Int32).toInt = 24 := rfl
    refine q_iload_n dX6_fillWarmths_2 rfl ?_
    refine q_bipush (x := 24) dX6_fillWarmths_3 (by decide) ?_
    refine q_cge 35 dX6_fillWarmths_5 (by decide) (fun h5 => ?_) (fun h5 => ?_)
    · refine q_vret dX6_fillWarmths_35 ?_ rfl rfl
      have e : i = 24 := by omega
      subst e
      exact ⟨rfl, rfl, rfl⟩
    · refine q_aload_n dX6_fillWarmths_8 rfl ?_
      refine q_getr fX6_15 dX6_fillWarmths_9 (by first | assumption | rfl) (by rfl) ?_
      refine q_iload_n dX6_fillWarmths_12 rfl ?_
      refine q_ild i (by first | assumption | rfl) hi (by omega) dX6_fillWarmths_13 ?_
      rw [q_fill_self]
      refine q_if_ne 29 dX6_fillWarmths_14 (by decide) (fun h14 => ?_) (fun h14 => ?_)
      · refine q_inc 1 dX6_fillWarmths_29 (by decide) rfl (by decide) rfl ?_
        refine q_goto 2 dX6_fillWarmths_32 (by decide) ?_
        first
          | (rw [nI_1, q_fill_k (show (fun j => if σ q j = 0 then σ r 2 else σ q j) i = σ q i by simp [h14])]; exact ih (i + 1) (by omega) (by omega))
          | (rw [nI_1, show q_up (q_fill σ q (fun j => if σ q j = 0 then σ r 2 else σ q j) i) q i (σ r 2) = q_fill σ q (fun j => if σ q j = 0 then σ r 2 else σ q j) (i + 1) by rw [← q_fill_s]; congr 1; simp [h14]]; exact ih (i + 1) (by omega) (by omega))
      · refine q_aload_n dX6_fillWarmths_17 rfl ?_
        refine q_getr fX6_15 dX6_fillWarmths_18 (by first | assumption | rfl) (by rfl) ?_
        refine q_iload_n dX6_fillWarmths_21 rfl ?_
        refine q_aload_n dX6_fillWarmths_22 rfl ?_
        refine q_getr fX6_9 dX6_fillWarmths_23 (by first | assumption | rfl) (by rfl) ?_
        refine q_iconst (x := 2) dX6_fillWarmths_26 (by decide) ?_
        refine q_ild 2 (by first | assumption | rfl) rfl (by decide) dX6_fillWarmths_27 ?_
        rw [q_fill_ne hne]
        refine q_isto i (by first | assumption | rfl) hi (by omega) dX6_fillWarmths_28 ?_
        refine q_inc 1 dX6_fillWarmths_29 (by decide) rfl (by decide) rfl ?_
        refine q_goto 2 dX6_fillWarmths_32 (by decide) ?_
        first
          | (rw [nI_1, q_fill_k (show (fun j => if σ q j = 0 then σ r 2 else σ q j) i = σ q i by simp [h14])]; exact ih (i + 1) (by omega) (by omega))
          | (rw [nI_1, show q_up (q_fill σ q (fun j => if σ q j = 0 then σ r 2 else σ q j) i) q i (σ r 2) = q_fill σ q (fun j => if σ q j = 0 then σ r 2 else σ q j) (i + 1) by rw [← q_fill_s]; congr 1; simp [h14]]; exact ih (i + 1) (by omega) (by omega))

set_option maxHeartbeats 4000000 in
set_option maxRecDepth 100000 in
theorem kX6_fillWarmths {sh : List q_S} {σ : q_M} {w r q : Nat} (hw : sh[w]? = some (.inr (6, [some (some r), some (some q)]))) (hr : sh[r]? = some (.inl (0, 7, none))) (hq : sh[q]? = some (.inl (0, 24, none))) (hne : r ≠ q) : q_Ct YX6_fillWarmths [.ref w] sh σ (q_is none sh (q_fill σ q (fun j => if σ q j = 0 then σ r 2 else σ q j) 24)) := by
  refine q_ct (n := 1) (by decide) (by decide) rfl (fun _ => Nat.le_of_ble_eq_true rfl) (fun E => ?_)
  refine q_iconst (x := 0) dX6_fillWarmths_0 (by decide) ?_
  refine q_istore_n dX6_fillWarmths_1 (by decide) rfl ?_
  have z := lpX6_fill (E := E) (σ := σ) hw hr hq hne 25 0 (by omega) (by omega)
  rw [q_fill_0] at z
  exact z

set_option maxHeartbeats 4000000 in
set_option maxRecDepth 100000 in
theorem lpX6_copy2 {E : q_E} {sh : List q_S} {σ : q_M} {w r q : Nat} (hw : sh[w]? = some (.inr (6, [some (some r), some (some q)]))) (hr : sh[r]? = some (.inl (0, 7, none))) (hq : sh[q]? = some (.inl (0, 24, none))) {w2 r2 q2 : Nat} (hw2 : sh[w2]? = some (.inr (6, [some (some r2), some (some q2)]))) (hr2 : sh[r2]? = some (.inl (0, 7, none))) (hq2 : sh[q2]? = some (.inl (0, 24, none))) (n1 : r2 ≠ r) (n2 : q2 ≠ q) (n3 : q2 ≠ r) : ∀ (n : Nat) (i : Nat), 24 + 1 ≤ i + n → i ≤ 24 → q_G YX6_copyFrom E 0 0 28 [some (.ref w), some (.ref w2), some (.int (nI i))] [] sh (q_fill (q_fill σ r (σ r2) 7) q (σ q2) i) (q_is none sh (q_fill (q_fill σ r (σ r2) 7) q (σ q2) 24)) := by
  intro n
  induction n with
  | zero =>
    intro i hm h0
    exact absurd hm (by omega)
  | succ n ih =>
    intro i hm h0
    have hi := nI_toInt (n := i) (by omega)
    have hc : (24 : Int32).toInt = 24 := rfl
    refine q_iload_n dX6_copyFrom_28 rfl ?_
    refine q_bipush (x := 24) dX6_copyFrom_29 (by decide) ?_
    refine q_cge 52 dX6_copyFrom_31 (by decide) (fun h31 => ?_) (fun h31 => ?_)
    · refine q_vret dX6_copyFrom_52 ?_ rfl rfl
      have e : i = 24 := by omega
      subst e
      exact ⟨rfl, rfl, rfl⟩
    · refine q_aload_n dX6_copyFrom_34 rfl ?_
      refine q_getr fX6_15 dX6_copyFrom_35 (by first | assumption | rfl) (by rfl) ?_
      refine q_iload_n dX6_copyFrom_38 rfl ?_
      refine q_aload_n dX6_copyFrom_39 rfl ?_
      refine q_getr fX6_15 dX6_copyFrom_40 (by first | assumption | rfl) (by rfl) ?_
      refine q_iload_n dX6_copyFrom_43 rfl ?_
      refine q_ild i (by first | assumption | rfl) hi (by omega) dX6_copyFrom_44 ?_
      rw [q_fill_ne n2, q_fill_ne n3]
      refine q_isto i (by first | assumption | rfl) hi (by omega) dX6_copyFrom_45 ?_
      refine q_inc 1 dX6_copyFrom_46 (by decide) rfl (by decide) rfl ?_
      refine q_goto 28 dX6_copyFrom_49 (by decide) ?_
      rw [nI_1, q_fill_s]
      exact ih (i + 1) (by omega) (by omega)

set_option maxHeartbeats 4000000 in
set_option maxRecDepth 100000 in
theorem lpX6_copy1 {E : q_E} {sh : List q_S} {σ : q_M} {w r q : Nat} (hw : sh[w]? = some (.inr (6, [some (some r), some (some q)]))) (hr : sh[r]? = some (.inl (0, 7, none))) (hq : sh[q]? = some (.inl (0, 24, none))) {w2 r2 q2 : Nat} (hw2 : sh[w2]? = some (.inr (6, [some (some r2), some (some q2)]))) (hr2 : sh[r2]? = some (.inl (0, 7, none))) (hq2 : sh[q2]? = some (.inl (0, 24, none))) (n1 : r2 ≠ r) (n2 : q2 ≠ q) (n3 : q2 ≠ r) : ∀ (n : Nat) (i : Nat), 7 + 1 ≤ i + n → i ≤ 7 → q_G YX6_copyFrom E 0 0 2 [some (.ref w), some (.ref w2), some (.int (nI i))] [] sh (q_fill σ r (σ r2) i) (q_is none sh (q_fill (q_fill σ r (σ r2) 7) q (σ q2) 24)) := by
  intro n
  induction n with
  | zero =>
    intro i hm h0
    exact absurd hm (by omega)
  | succ n ih =>
    intro i hm h0
    have hi := nI_toInt (n := i) (by omega)
    have hc : (7 : Int32).toInt = 7 := rfl
    refine q_iload_n dX6_copyFrom_2 rfl ?_
    refine q_bipush (x := 7) dX6_copyFrom_3 (by decide) ?_
    refine q_cge 26 dX6_copyFrom_5 (by decide) (fun h5 => ?_) (fun h5 => ?_)
    · refine q_iconst (x := 0) dX6_copyFrom_26 (by decide) ?_
      refine q_istore_n dX6_copyFrom_27 (by decide) rfl ?_
      have e : i = 7 := by omega
      subst e
      have z := lpX6_copy2 (E := E) (σ := σ) hw hr hq hw2 hr2 hq2 n1 n2 n3 25 0 (by omega) (by omega)
      rw [q_fill_0] at z
      exact z
    · refine q_aload_n dX6_copyFrom_8 rfl ?_
      refine q_getr fX6_9 dX6_copyFrom_9 (by first | assumption | rfl) (by rfl) ?_
      refine q_iload_n dX6_copyFrom_12 rfl ?_
      refine q_aload_n dX6_copyFrom_13 rfl ?_
      refine q_getr fX6_9 dX6_copyFrom_14 (by first | assumption | rfl) (by rfl) ?_
      refine q_iload_n dX6_copyFrom_17 rfl ?_
      refine q_ild i (by first | assumption | rfl) hi (by omega) dX6_copyFrom_18 ?_
      rw [q_fill_ne n1]
      refine q_isto i (by first | assumption | rfl) hi (by omega) dX6_copyFrom_19 ?_
      refine q_inc 1 dX6_copyFrom_20 (by decide) rfl (by decide) rfl ?_
      refine q_goto 2 dX6_copyFrom_23 (by decide) ?_
      rw [nI_1, q_fill_s]
      exact ih (i + 1) (by omega) (by omega)

set_option maxHeartbeats 4000000 in
set_option maxRecDepth 100000 in
theorem kX6_copyFrom {sh : List q_S} {σ : q_M} {w r q : Nat} (hw : sh[w]? = some (.inr (6, [some (some r), some (some q)]))) (hr : sh[r]? = some (.inl (0, 7, none))) (hq : sh[q]? = some (.inl (0, 24, none))) {w2 r2 q2 : Nat} (hw2 : sh[w2]? = some (.inr (6, [some (some r2), some (some q2)]))) (hr2 : sh[r2]? = some (.inl (0, 7, none))) (hq2 : sh[q2]? = some (.inl (0, 24, none))) (n1 : r2 ≠ r) (n2 : q2 ≠ q) (n3 : q2 ≠ r) : q_Ct YX6_copyFrom [.ref w, .ref w2] sh σ (q_is none sh (q_fill (q_fill σ r (σ r2) 7) q (σ q2) 24)) := by
  refine q_ct (n := 1) (by decide) (by decide) rfl (fun _ => Nat.le_of_ble_eq_true rfl) (fun E => ?_)
  refine q_iconst (x := 0) dX6_copyFrom_0 (by decide) ?_
  refine q_istore_n dX6_copyFrom_1 (by decide) rfl ?_
  have z := lpX6_copy1 (E := E) (σ := σ) hw hr hq hw2 hr2 hq2 n1 n2 n3 8 0 (by omega) (by omega)
  rw [q_fill_0] at z
  exact z

/-- one more SEEN in the rows t, p, k of the Seen a, which has n -/
def q_sn (σ : q_M) (a t p k n : Nat) (x y z : Int32) : q_M := q_up (q_up (q_up (q_up σ t n x) p n y) k n z) a 3 (nI (n + 1))
theorem q_01_vn {z : Int32} (h : z = 0 ∨ z = 1) : vp_nar .boolean z = z := by rcases h with rfl | rfl <;> rfl

set_option maxHeartbeats 4000000 in
set_option maxRecDepth 100000 in
theorem kX4_add {sh : List q_S} {σ : q_M} {a t p k : Nat} (ha : sh[a]? = some (.inr (4, [some (some t), some (some p), some (some k), none]))) (ht : sh[t]? = some (.inl (0, 12, none))) (hp : sh[p]? = some (.inl (0, 12, none))) (hk : sh[k]? = some (.inl (2, 12, none))) (n1 : a ≠ t) (n2 : a ≠ p) (n3 : a ≠ k) {n : Nat} (hn : σ a 3 = nI n) (h12 : n < 12) {x y z : Int32} (hz : z = 0 ∨ z = 1) : q_Ct YX4_add [.ref a, .int x, .int y, .int z] sh σ (q_is (some (q_b true)) sh (q_sn σ a t p k n x y z)) := by
  refine q_ct (n := 0) (by decide) (by decide) rfl (fun _ => Nat.le_of_ble_eq_true rfl) (fun E => ?_)
  have hi := nI_toInt (n := n) (by omega)
  have hc : (12 : Int32).toInt = 12 := rfl
  refine q_aload_n dX4_add_0 rfl ?_
  refine q_get fX4_22 dX4_add_1 (by first | assumption | rfl) (by rfl) ?_
  rw [hn]
  refine q_bipush (x := 12) dX4_add_4 (by decide) ?_
  refine q_clt 11 dX4_add_6 (by decide) (fun h6 => ?_) (fun h6 => ?_)
  · 
    refine q_aload_n dX4_add_11 rfl ?_
    refine q_getr fX4_9 dX4_add_12 (by first | assumption | rfl) (by rfl) ?_
    refine q_aload_n dX4_add_15 rfl ?_
    refine q_get fX4_22 dX4_add_16 (by first | assumption | rfl) (by rfl) ?_
    rw [hn]
    refine q_iload_n dX4_add_19 rfl ?_
    refine q_isto n (by first | assumption | rfl) hi (by omega) dX4_add_20 ?_
    refine q_aload_n dX4_add_21 rfl ?_
    refine q_getr fX4_15 dX4_add_22 (by first | assumption | rfl) (by rfl) ?_
    refine q_aload_n dX4_add_25 rfl ?_
    refine q_get fX4_22 dX4_add_26 (by first | assumption | rfl) (by rfl) ?_
    simp only [q_up_g n1, q_up_g n2, q_up_g n3]
    rw [hn]
    refine q_iload_n dX4_add_29 rfl ?_
    refine q_isto n (by first | assumption | rfl) hi (by omega) dX4_add_30 ?_
    refine q_aload_n dX4_add_31 rfl ?_
    refine q_getr fX4_18 dX4_add_32 (by first | assumption | rfl) (by rfl) ?_
    refine q_aload_n dX4_add_35 rfl ?_
    refine q_get fX4_22 dX4_add_36 (by first | assumption | rfl) (by rfl) ?_
    simp only [q_up_g n1, q_up_g n2, q_up_g n3]
    rw [hn]
    refine q_iload_n dX4_add_39 rfl ?_
    refine q_zsto n (by first | assumption | rfl) hi (by omega) dX4_add_40 ?_
    rw [q_01_vn hz]
    refine q_aload_n dX4_add_41 rfl ?_
    refine q_dup rfl dX4_add_42 ?_
    refine q_get fX4_22 dX4_add_43 (by first | assumption | rfl) (by rfl) ?_
    simp only [q_up_g n1, q_up_g n2, q_up_g n3]
    rw [hn]
    refine q_iconst (x := 1) dX4_add_46 (by decide) ?_
    refine q_iadd dX4_add_47 ?_
    rw [nI_1]
    refine q_put_i pX4_22 dX4_add_48 (by first | assumption | rfl) (by rfl) rfl rfl ?_
    refine q_iconst (x := 1) dX4_add_51 (by decide) ?_
    refine q_ret1 dX4_add_52 ?_ rfl rfl
    exact ⟨rfl, rfl, rfl⟩
  · exact absurd h6 (by omega)

set_option maxHeartbeats 4000000 in
set_option maxRecDepth 100000 in
theorem kX4_addF {sh : List q_S} {σ : q_M} {a t p k : Nat} (ha : sh[a]? = some (.inr (4, [some (some t), some (some p), some (some k), none]))) (ht : sh[t]? = some (.inl (0, 12, none))) (hp : sh[p]? = some (.inl (0, 12, none))) (hk : sh[k]? = some (.inl (2, 12, none))) (n1 : a ≠ t) (n2 : a ≠ p) (n3 : a ≠ k) {n : Nat} (hn : σ a 3 = nI n) (h12 : n = 12) {x y z : Int32} : q_Ct YX4_add [.ref a, .int x, .int y, .int z] sh σ (q_is (some (q_b false)) sh σ) := by
  refine q_ct (n := 0) (by decide) (by decide) rfl (fun _ => Nat.le_of_ble_eq_true rfl) (fun E => ?_)
  have hi := nI_toInt (n := n) (by omega)
  have hc : (12 : Int32).toInt = 12 := rfl
  refine q_aload_n dX4_add_0 rfl ?_
  refine q_get fX4_22 dX4_add_1 (by first | assumption | rfl) (by rfl) ?_
  rw [hn]
  refine q_bipush (x := 12) dX4_add_4 (by decide) ?_
  refine q_clt 11 dX4_add_6 (by decide) (fun h6 => ?_) (fun h6 => ?_)
  · exact absurd h6 (by omega)
  · 
    refine q_iconst (x := 0) dX4_add_9 (by decide) ?_
    refine q_ret0 dX4_add_10 ?_ rfl rfl
    exact ⟨rfl, rfl, rfl⟩

def q_fa (lane size i : Int32) : Int32 := if lane = -4 then 1 else if q_win i 0 (size - 1) then 0 else 2
def q_f3 (lane size asked at0 : Int32) : Int32 := if ¬ lane = -4 ∧ ¬ lane = asked then 3 else if ¬ q_fa lane size at0 = 0 then q_fa lane size at0 else if ¬ q_fa lane size (at0 + 1) = 0 then q_fa lane size (at0 + 1) else q_fa lane size (at0 + 2)

set_option maxHeartbeats 4000000 in
set_option maxRecDepth 100000 in
theorem kX5_faultAt {sh : List q_S} {σ : q_M} {a c : Nat} (ha : sh[a]? = some (.inr (5, [some (some c), none, none]))) (hc : sh[c]? = some (.inl (0, 40, none))) {i : Int32} : q_Ct YX5_faultAt [.ref a, .int i] sh σ (q_is (some (q_fa (σ a 1) (σ a 2) i)) sh σ) := by
  refine q_ct (n := 0) (by decide) (by decide) rfl (fun _ => Nat.le_of_ble_eq_true rfl) (fun E => ?_)
  refine q_aload_n dX5_faultAt_0 rfl ?_
  refine q_get fX5_15 dX5_faultAt_1 (by first | assumption | rfl) (by rfl) ?_
  refine q_bipush (x := (-4)) dX5_faultAt_4 (by decide) ?_
  refine q_icmp_ne 11 dX5_faultAt_6 (by decide) (fun h6 => ?_) (fun h6 => ?_)
  · refine q_iload_n dX5_faultAt_11 rfl ?_
    refine q_iconst (x := 0) dX5_faultAt_12 (by decide) ?_
    refine q_aload_n dX5_faultAt_13 rfl ?_
    refine q_get fX5_25 dX5_faultAt_14 (by first | assumption | rfl) (by rfl) ?_
    refine q_iconst (x := 1) dX5_faultAt_17 (by decide) ?_
    refine q_isub dX5_faultAt_18 ?_
    refine q_cSi lX5_28 sX7_within dX5_faultAt_19 kX7_within rfl rfl (Nat.le_of_ble_eq_true rfl) (by decide) ?_
    refine q_beq 29 dX5_faultAt_22 (by decide) (fun h22 => ?_) (fun h22 => ?_)
    · refine q_iconst (x := 2) dX5_faultAt_29 (by decide) ?_
      refine q_ret dX5_faultAt_30 ?_ rfl rfl
      exact ⟨congrArg some (by simp [q_fa, *]), rfl, rfl⟩
    · refine q_iconst (x := 0) dX5_faultAt_25 (by decide) ?_
      refine q_goto 30 dX5_faultAt_26 (by decide) ?_
      refine q_ret dX5_faultAt_30 ?_ rfl rfl
      exact ⟨congrArg some (by simp [q_fa, *]), rfl, rfl⟩
  · refine q_iconst (x := 1) dX5_faultAt_9 (by decide) ?_
    refine q_ret dX5_faultAt_10 ?_ rfl rfl
    exact ⟨congrArg some (by simp [q_fa, *]), rfl, rfl⟩

set_option maxHeartbeats 4000000 in
set_option maxRecDepth 100000 in
theorem kX5_faultOfThree {sh : List q_S} {σ : q_M} {a c : Nat} (ha : sh[a]? = some (.inr (5, [some (some c), none, none]))) (hc : sh[c]? = some (.inl (0, 40, none))) {x y : Int32} : q_Ct YX5_faultOfThree [.ref a, .int x, .int y] sh σ (q_is (some (q_f3 (σ a 1) (σ a 2) x y)) sh σ) := by
  refine q_ct (n := 1) (by decide) (by decide) rfl (fun _ => Nat.le_of_ble_eq_true rfl) (fun E => ?_)
  refine q_aload_n dX5_faultOfThree_0 rfl ?_
  refine q_get fX5_15 dX5_faultOfThree_1 (by first | assumption | rfl) (by rfl) ?_
  refine q_bipush (x := (-4)) dX5_faultOfThree_4 (by decide) ?_
  refine q_icmp_eq 19 dX5_faultOfThree_6 (by decide) (fun h6 => ?_) (fun h6 => ?_)
  · refine q_aload_n dX5_faultOfThree_19 rfl ?_
    refine q_iload_n dX5_faultOfThree_20 rfl ?_
    refine q_cVi lX5_32 vX5_faultAt (ci := 5) rfl dX5_faultOfThree_21 (kX5_faultAt (by first | assumption | rfl) (by first | assumption | rfl)) (by first | assumption | rfl) rfl rfl (Nat.le_of_ble_eq_true rfl) (by decide) ?_
    refine q_istore_n dX5_faultOfThree_24 (by decide) rfl ?_
    refine q_iload_n dX5_faultOfThree_25 rfl ?_
    refine q_if_ne 37 dX5_faultOfThree_26 (by decide) (fun h26 => ?_) (fun h26 => ?_)
    · refine q_iload_n dX5_faultOfThree_37 rfl ?_
      refine q_if_ne 49 dX5_faultOfThree_38 (by decide) (fun h38 => ?_) (fun h38 => ?_)
      · refine q_iload_n dX5_faultOfThree_49 rfl ?_
        refine q_ret dX5_faultOfThree_50 ?_ rfl rfl
        exact ⟨congrArg some (by simp_all [q_f3]), rfl, rfl⟩
      · refine q_aload_n dX5_faultOfThree_41 rfl ?_
        refine q_iload_n dX5_faultOfThree_42 rfl ?_
        refine q_iconst (x := 2) dX5_faultOfThree_43 (by decide) ?_
        refine q_iadd dX5_faultOfThree_44 ?_
        refine q_cVi lX5_32 vX5_faultAt (ci := 5) rfl dX5_faultOfThree_45 (kX5_faultAt (by first | assumption | rfl) (by first | assumption | rfl)) (by first | assumption | rfl) rfl rfl (Nat.le_of_ble_eq_true rfl) (by decide) ?_
        refine q_istore_n dX5_faultOfThree_48 (by decide) rfl ?_
        refine q_iload_n dX5_faultOfThree_49 rfl ?_
        refine q_ret dX5_faultOfThree_50 ?_ rfl rfl
        exact ⟨congrArg some (by simp_all [q_f3]), rfl, rfl⟩
    · refine q_aload_n dX5_faultOfThree_29 rfl ?_
      refine q_iload_n dX5_faultOfThree_30 rfl ?_
      refine q_iconst (x := 1) dX5_faultOfThree_31 (by decide) ?_
      refine q_iadd dX5_faultOfThree_32 ?_
      refine q_cVi lX5_32 vX5_faultAt (ci := 5) rfl dX5_faultOfThree_33 (kX5_faultAt (by first | assumption | rfl) (by first | assumption | rfl)) (by first | assumption | rfl) rfl rfl (Nat.le_of_ble_eq_true rfl) (by decide) ?_
      refine q_istore_n dX5_faultOfThree_36 (by decide) rfl ?_
      refine q_iload_n dX5_faultOfThree_37 rfl ?_
      refine q_if_ne 49 dX5_faultOfThree_38 (by decide) (fun h38 => ?_) (fun h38 => ?_)
      · refine q_iload_n dX5_faultOfThree_49 rfl ?_
        refine q_ret dX5_faultOfThree_50 ?_ rfl rfl
        exact ⟨congrArg some (by simp_all [q_f3]), rfl, rfl⟩
      · refine q_aload_n dX5_faultOfThree_41 rfl ?_
        refine q_iload_n dX5_faultOfThree_42 rfl ?_
        refine q_iconst (x := 2) dX5_faultOfThree_43 (by decide) ?_
        refine q_iadd dX5_faultOfThree_44 ?_
        refine q_cVi lX5_32 vX5_faultAt (ci := 5) rfl dX5_faultOfThree_45 (kX5_faultAt (by first | assumption | rfl) (by first | assumption | rfl)) (by first | assumption | rfl) rfl rfl (Nat.le_of_ble_eq_true rfl) (by decide) ?_
        refine q_istore_n dX5_faultOfThree_48 (by decide) rfl ?_
        refine q_iload_n dX5_faultOfThree_49 rfl ?_
        refine q_ret dX5_faultOfThree_50 ?_ rfl rfl
        exact ⟨congrArg some (by simp_all [q_f3]), rfl, rfl⟩
  · refine q_aload_n dX5_faultOfThree_9 rfl ?_
    refine q_get fX5_15 dX5_faultOfThree_10 (by first | assumption | rfl) (by rfl) ?_
    refine q_iload_n dX5_faultOfThree_13 rfl ?_
    refine q_icmp_eq 19 dX5_faultOfThree_14 (by decide) (fun h14 => ?_) (fun h14 => ?_)
    · refine q_aload_n dX5_faultOfThree_19 rfl ?_
      refine q_iload_n dX5_faultOfThree_20 rfl ?_
      refine q_cVi lX5_32 vX5_faultAt (ci := 5) rfl dX5_faultOfThree_21 (kX5_faultAt (by first | assumption | rfl) (by first | assumption | rfl)) (by first | assumption | rfl) rfl rfl (Nat.le_of_ble_eq_true rfl) (by decide) ?_
      refine q_istore_n dX5_faultOfThree_24 (by decide) rfl ?_
      refine q_iload_n dX5_faultOfThree_25 rfl ?_
      refine q_if_ne 37 dX5_faultOfThree_26 (by decide) (fun h26 => ?_) (fun h26 => ?_)
      · refine q_iload_n dX5_faultOfThree_37 rfl ?_
        refine q_if_ne 49 dX5_faultOfThree_38 (by decide) (fun h38 => ?_) (fun h38 => ?_)
        · refine q_iload_n dX5_faultOfThree_49 rfl ?_
          refine q_ret dX5_faultOfThree_50 ?_ rfl rfl
          exact ⟨congrArg some (by simp_all [q_f3]), rfl, rfl⟩
        · refine q_aload_n dX5_faultOfThree_41 rfl ?_
          refine q_iload_n dX5_faultOfThree_42 rfl ?_
          refine q_iconst (x := 2) dX5_faultOfThree_43 (by decide) ?_
          refine q_iadd dX5_faultOfThree_44 ?_
          refine q_cVi lX5_32 vX5_faultAt (ci := 5) rfl dX5_faultOfThree_45 (kX5_faultAt (by first | assumption | rfl) (by first | assumption | rfl)) (by first | assumption | rfl) rfl rfl (Nat.le_of_ble_eq_true rfl) (by decide) ?_
          refine q_istore_n dX5_faultOfThree_48 (by decide) rfl ?_
          refine q_iload_n dX5_faultOfThree_49 rfl ?_
          refine q_ret dX5_faultOfThree_50 ?_ rfl rfl
          exact ⟨congrArg some (by simp_all [q_f3]), rfl, rfl⟩
      · refine q_aload_n dX5_faultOfThree_29 rfl ?_
        refine q_iload_n dX5_faultOfThree_30 rfl ?_
        refine q_iconst (x := 1) dX5_faultOfThree_31 (by decide) ?_
        refine q_iadd dX5_faultOfThree_32 ?_
        refine q_cVi lX5_32 vX5_faultAt (ci := 5) rfl dX5_faultOfThree_33 (kX5_faultAt (by first | assumption | rfl) (by first | assumption | rfl)) (by first | assumption | rfl) rfl rfl (Nat.le_of_ble_eq_true rfl) (by decide) ?_
        refine q_istore_n dX5_faultOfThree_36 (by decide) rfl ?_
        refine q_iload_n dX5_faultOfThree_37 rfl ?_
        refine q_if_ne 49 dX5_faultOfThree_38 (by decide) (fun h38 => ?_) (fun h38 => ?_)
        · refine q_iload_n dX5_faultOfThree_49 rfl ?_
          refine q_ret dX5_faultOfThree_50 ?_ rfl rfl
          exact ⟨congrArg some (by simp_all [q_f3]), rfl, rfl⟩
        · refine q_aload_n dX5_faultOfThree_41 rfl ?_
          refine q_iload_n dX5_faultOfThree_42 rfl ?_
          refine q_iconst (x := 2) dX5_faultOfThree_43 (by decide) ?_
          refine q_iadd dX5_faultOfThree_44 ?_
          refine q_cVi lX5_32 vX5_faultAt (ci := 5) rfl dX5_faultOfThree_45 (kX5_faultAt (by first | assumption | rfl) (by first | assumption | rfl)) (by first | assumption | rfl) rfl rfl (Nat.le_of_ble_eq_true rfl) (by decide) ?_
          refine q_istore_n dX5_faultOfThree_48 (by decide) rfl ?_
          refine q_iload_n dX5_faultOfThree_49 rfl ?_
          refine q_ret dX5_faultOfThree_50 ?_ rfl rfl
          exact ⟨congrArg some (by simp_all [q_f3]), rfl, rfl⟩
    · refine q_iconst (x := 3) dX5_faultOfThree_17 (by decide) ?_
      refine q_ret dX5_faultOfThree_18 ?_ rfl rfl
      exact ⟨congrArg some (by simp_all [q_f3]), rfl, rfl⟩

set_option maxHeartbeats 4000000 in
set_option maxRecDepth 100000 in
theorem lpX5_renew {E : q_E} {sh : List q_S} {σ : q_M} {a c : Nat} (ha : sh[a]? = some (.inr (5, [some (some c), none, none]))) (hc : sh[c]? = some (.inl (0, 40, none))) {x y : Int32} : ∀ (n : Nat) (i : Nat), 40 + 1 ≤ i + n → i ≤ 40 → q_G YX5_renew E 0 0 17 [some (.ref a), some (.int x), some (.int y), some (.int (nI i))] [] sh (q_fill (q_up (q_up σ a 1 x) a 2 (q_min y 40)) c (fun _ => 0) i) (q_is none sh (q_fill (q_up (q_up σ a 1 x) a 2 (q_min y 40)) c (fun _ => 0) 40)) := by
  intro n
  induction n with
  | zero =>
    intro i hm h0
    exact absurd hm (by omega)
  | succ n ih =>
    intro i hm h0
    have hi := nI_toInt (n := i) (by omega)
    have h40 : (40 : Int32).toInt = 40 := rfl
    refine q_iload_n dX5_renew_17 rfl ?_
    refine q_bipush (x := 40) dX5_renew_18 (by decide) ?_
    refine q_cge 36 dX5_renew_20 (by decide) (fun h20 => ?_) (fun h20 => ?_)
    · refine q_vret dX5_renew_36 ?_ rfl rfl
      have e : i = 40 := by omega
      subst e
      exact ⟨rfl, rfl, rfl⟩
    · refine q_aload_n dX5_renew_23 rfl ?_
      refine q_getr fX5_9 dX5_renew_24 (by first | assumption | rfl) (by rfl) ?_
      refine q_iload_n dX5_renew_27 rfl ?_
      refine q_iconst (x := 0) dX5_renew_28 (by decide) ?_
      refine q_isto i (by first | assumption | rfl) hi (by omega) dX5_renew_29 ?_
      refine q_inc 1 dX5_renew_30 (by decide) rfl (by decide) rfl ?_
      refine q_goto 17 dX5_renew_33 (by decide) ?_
      rw [nI_1, q_fill_s]
      exact ih (i + 1) (by omega) (by omega)

set_option maxHeartbeats 4000000 in
set_option maxRecDepth 100000 in
theorem kX5_renew {sh : List q_S} {σ : q_M} {a c : Nat} (ha : sh[a]? = some (.inr (5, [some (some c), none, none]))) (hc : sh[c]? = some (.inl (0, 40, none))) {x y : Int32} : q_Ct YX5_renew [.ref a, .int x, .int y] sh σ (q_is none sh (q_fill (q_up (q_up σ a 1 x) a 2 (q_min y 40)) c (fun _ => 0) 40)) := by
  refine q_ct (n := 1) (by decide) (by decide) rfl (fun _ => Nat.le_of_ble_eq_true rfl) (fun E => ?_)
  refine q_aload_n dX5_renew_0 rfl ?_
  refine q_iload_n dX5_renew_1 rfl ?_
  refine q_put_i pX5_15 dX5_renew_2 (by first | assumption | rfl) (by rfl) rfl rfl ?_
  refine q_aload_n dX5_renew_5 rfl ?_
  refine q_iload_n dX5_renew_6 rfl ?_
  refine q_bipush (x := 40) dX5_renew_7 (by decide) ?_
  refine q_cSi lX5_19 sJ9_min_7cf53 dX5_renew_9 kmin rfl rfl (Nat.le_of_ble_eq_true rfl) (by decide) ?_
  refine q_put_i pX5_25 dX5_renew_12 (by first | assumption | rfl) (by rfl) rfl rfl ?_
  refine q_iconst (x := 0) dX5_renew_15 (by decide) ?_
  refine q_istore_n dX5_renew_16 (by decide) rfl ?_
  have z := lpX5_renew (E := E) (σ := σ) (x := x) (y := y) ha hc 41 0 (by omega) (by omega)
  rw [q_fill_0] at z
  exact z

def q_cut (lane x : Int32) : Int32 := if lane = 0 then x.toInt8.toInt32 else if lane = 1 then x.toInt16.toInt32 else x

set_option maxHeartbeats 4000000 in
set_option maxRecDepth 100000 in
theorem kX5_put {sh : List q_S} {σ : q_M} {a c : Nat} (ha : sh[a]? = some (.inr (5, [some (some c), none, none]))) (hc : sh[c]? = some (.inl (0, 40, none))) {i x : Int32} {j : Nat} (hi : i.toInt = (j : Int)) (h40 : j < 40) (hf : q_fa (σ a 1) (σ a 2) i = 0) : q_Ct YX5_put [.ref a, .int i, .int x] sh σ (q_is none sh (q_up σ c j (q_cut (σ a 1) x))) := by
  refine q_ct (n := 0) (by decide) (by decide) rfl (fun _ => Nat.le_of_ble_eq_true rfl) (fun E => ?_)
  refine q_aload_n dX5_put_0 rfl ?_
  refine q_iload_n dX5_put_1 rfl ?_
  refine q_cVi lX5_32 vX5_faultAt (ci := 5) rfl dX5_put_2 (kX5_faultAt (by first | assumption | rfl) (by first | assumption | rfl)) (by first | assumption | rfl) rfl rfl (Nat.le_of_ble_eq_true rfl) (by decide) ?_
  refine q_if_eq 9 dX5_put_5 (by decide) (fun h5 => ?_) (fun h5 => ?_)
  · refine q_aload_n dX5_put_9 rfl ?_
    refine q_get fX5_15 dX5_put_10 (by first | assumption | rfl) (by rfl) ?_
    refine q_if_ne 27 dX5_put_13 (by decide) (fun h13 => ?_) (fun h13 => ?_)
    · refine q_aload_n dX5_put_27 rfl ?_
      refine q_get fX5_15 dX5_put_28 (by first | assumption | rfl) (by rfl) ?_
      refine q_iconst (x := 1) dX5_put_31 (by decide) ?_
      refine q_icmp_ne 46 dX5_put_32 (by decide) (fun h32 => ?_) (fun h32 => ?_)
      · refine q_aload_n dX5_put_46 rfl ?_
        refine q_getr fX5_9 dX5_put_47 (by first | assumption | rfl) (by rfl) ?_
        refine q_iload_n dX5_put_50 rfl ?_
        refine q_iload_n dX5_put_51 rfl ?_
        refine q_isto j (by first | assumption | rfl) hi h40 dX5_put_52 ?_
        refine q_vret dX5_put_53 ?_ rfl rfl
        exact ⟨rfl, rfl, by simp [q_cut, *]⟩
      · refine q_aload_n dX5_put_35 rfl ?_
        refine q_getr fX5_9 dX5_put_36 (by first | assumption | rfl) (by rfl) ?_
        refine q_iload_n dX5_put_39 rfl ?_
        refine q_iload_n dX5_put_40 rfl ?_
        refine q_i2s dX5_put_41 ?_
        refine q_isto j (by first | assumption | rfl) hi h40 dX5_put_42 ?_
        refine q_goto 53 dX5_put_43 (by decide) ?_
        refine q_vret dX5_put_53 ?_ rfl rfl
        exact ⟨rfl, rfl, by simp [q_cut, *]⟩
    · refine q_aload_n dX5_put_16 rfl ?_
      refine q_getr fX5_9 dX5_put_17 (by first | assumption | rfl) (by rfl) ?_
      refine q_iload_n dX5_put_20 rfl ?_
      refine q_iload_n dX5_put_21 rfl ?_
      refine q_i2b dX5_put_22 ?_
      refine q_isto j (by first | assumption | rfl) hi h40 dX5_put_23 ?_
      refine q_goto 53 dX5_put_24 (by decide) ?_
      refine q_vret dX5_put_53 ?_ rfl rfl
      exact ⟨rfl, rfl, by simp [q_cut, *]⟩
  · exact absurd hf h5
