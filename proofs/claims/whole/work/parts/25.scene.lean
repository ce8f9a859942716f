/-! Seen.copyFrom, Scene, Hand -/
def q_isSn (sh : List q_S) (a : Nat) : Prop := sh[a]? = some (.inr (4, [some (some (a + 1)), some (some (a + 2)), some (some (a + 3)), none])) ∧ sh[a + 1]? = some (.inl (0, 12, none)) ∧ sh[a + 2]? = some (.inl (0, 12, none)) ∧ sh[a + 3]? = some (.inl (2, 12, none))
/-- the Seen a with the first i of b -/
def q_cs (σ : q_M) (a b i : Nat) : q_M := fun c => if c = a then upd (σ a) 3 (nI i) else if a + 1 ≤ c ∧ c ≤ a + 3 then (fun j => if j < i then σ (b + (c - a)) j else σ c j) else σ c
theorem q_cs_0 (σ : q_M) (a b : Nat) : q_cs σ a b 0 = q_up σ a 3 0 := by
  funext c j
  by_cases h : c = a
  · subst h
    simp [q_cs, q_up]
    rfl
  · simp [q_cs, q_up, h]
theorem q_cs_ne {σ : q_M} {a b i c : Nat} (h : c < a ∨ a + 3 < c) : q_cs σ a b i c = σ c := by
  unfold q_cs
  rw [if_neg (by omega), if_neg (by omega)]
theorem q_cs_3 (σ : q_M) (a b i : Nat) : q_cs σ a b i a 3 = nI i := by simp [q_cs, upd]
theorem q_cs_s {σ : q_M} {a b i : Nat} : q_sn (q_cs σ a b i) a (a + 1) (a + 2) (a + 3) i (σ (b + 1) i) (σ (b + 2) i) (σ (b + 3) i) = q_cs σ a b (i + 1) := by
  funext c j
  by_cases h0 : c = a
  · subst h0
    by_cases hj : j = 3 <;> simp [q_sn, q_cs, q_up, upd, hj]
  · by_cases h1 : c = a + 1
    · subst h1
      by_cases hj : j = i
      · subst hj
        simp [q_sn, q_cs, q_up, upd]
      · by_cases hl : j < i
        · simp [q_sn, q_cs, q_up, upd, hj, hl, show j < i + 1 by omega]
        · simp [q_sn, q_cs, q_up, upd, hj, hl, show ¬ j < i + 1 by omega]
    · by_cases h2 : c = a + 2
      · subst h2
        by_cases hj : j = i
        · subst hj
          simp [q_sn, q_cs, q_up, upd]
        · by_cases hl : j < i
          · simp [q_sn, q_cs, q_up, upd, hj, hl, show j < i + 1 by omega]
          · simp [q_sn, q_cs, q_up, upd, hj, hl, show ¬ j < i + 1 by omega]
      · by_cases h3 : c = a + 3
        · subst h3
          by_cases hj : j = i
          · subst hj
            simp [q_sn, q_cs, q_up, upd]
          · by_cases hl : j < i
            · simp [q_sn, q_cs, q_up, upd, hj, hl, show j < i + 1 by omega]
            · simp [q_sn, q_cs, q_up, upd, hj, hl, show ¬ j < i + 1 by omega]
        · have hn : ¬ (a + 1 ≤ c ∧ c ≤ a + 3) := by omega
          simp [q_sn, q_cs, q_up, h0, h1, h2, h3, hn]

set_option maxHeartbeats 4000000 in
set_option maxRecDepth 100000 in
theorem lpX4_copy {E : q_E} {sh : List q_S} {σ : q_M} {a b N : Nat} (ha : q_isSn sh a) (hb : q_isSn sh b) (hab : a + 4 ≤ b ∨ b + 4 ≤ a) (hN : σ b 3 = nI N) (h12 : N ≤ 12) (hz : ∀ i, i < N → σ (b + 3) i = 0 ∨ σ (b + 3) i = 1) : ∀ (n : Nat) (i : Nat), N + 1 ≤ i + n → i ≤ N → q_G YX4_copyFrom E 0 0 7 [some (.ref a), some (.ref b), some (.int (nI i))] [] sh (q_cs σ a b i) (q_is none sh (q_cs σ a b N)) := by
  intro n
  induction n with
  | zero =>
    intro i hm h0
    exact absurd hm (by omega)
  | succ n ih =>
    intro i hm h0
    have hi := nI_toInt (n := i) (by omega)
    have hNt := nI_toInt (n := N) (by omega)
    obtain ⟨a0, a1, a2, a3⟩ := ha
    obtain ⟨b0, b1, b2, b3⟩ := hb
    refine q_iload_n dX4_copyFrom_7 rfl ?_
    refine q_aload_n dX4_copyFrom_8 rfl ?_
    refine q_get fX4_22 dX4_copyFrom_9 (by first | assumption | rfl) (by rfl) ?_
    rw [q_cs_ne (c := b) (by omega), hN]
    refine q_cge 44 dX4_copyFrom_12 (by decide) (fun h12 => ?_) (fun h12 => ?_)
    · refine q_vret dX4_copyFrom_44 ?_ rfl rfl
      have e : i = N := by omega
      subst e
      exact ⟨rfl, rfl, rfl⟩
    · refine q_aload_n dX4_copyFrom_15 rfl ?_
      refine q_aload_n dX4_copyFrom_16 rfl ?_
      refine q_getr fX4_9 dX4_copyFrom_17 (by first | assumption | rfl) (by rfl) ?_
      refine q_iload_n dX4_copyFrom_20 rfl ?_
      refine q_ild i (by first | assumption | rfl) hi (by omega) dX4_copyFrom_21 ?_
      rw [q_cs_ne (c := b + 1) (by omega)]
      refine q_aload_n dX4_copyFrom_22 rfl ?_
      refine q_getr fX4_15 dX4_copyFrom_23 (by first | assumption | rfl) (by rfl) ?_
      refine q_iload_n dX4_copyFrom_26 rfl ?_
      refine q_ild i (by first | assumption | rfl) hi (by omega) dX4_copyFrom_27 ?_
      rw [q_cs_ne (c := b + 2) (by omega)]
      refine q_aload_n dX4_copyFrom_28 rfl ?_
      refine q_getr fX4_18 dX4_copyFrom_29 (by first | assumption | rfl) (by rfl) ?_
      refine q_iload_n dX4_copyFrom_32 rfl ?_
      refine q_zld i (by first | assumption | rfl) hi (by omega) dX4_copyFrom_33 ?_
      rw [q_cs_ne (c := b + 3) (by omega)]
      refine q_cVi lX4_26 vX4_add (ci := 4) rfl dX4_copyFrom_34 (kX4_add a0 a1 a2 a3 (by omega) (by omega) (by omega) (q_cs_3 σ a b i) (by omega) (hz i (by omega))) (by first | assumption | rfl) rfl rfl (Nat.le_of_ble_eq_true rfl) (by decide) ?_
      refine q_pop rfl dX4_copyFrom_37 ?_
      refine q_inc 1 dX4_copyFrom_38 (by decide) rfl (by decide) rfl ?_
      refine q_goto 7 dX4_copyFrom_41 (by decide) ?_
      rw [nI_1, q_cs_s]
      exact ih (i + 1) (by omega) (by omega)

set_option maxHeartbeats 4000000 in
set_option maxRecDepth 100000 in
theorem kX4_copyFrom {sh : List q_S} {σ : q_M} {a b N : Nat} (ha : q_isSn sh a) (hb : q_isSn sh b) (hab : a + 4 ≤ b ∨ b + 4 ≤ a) (hN : σ b 3 = nI N) (h12 : N ≤ 12) (hz : ∀ i, i < N → σ (b + 3) i = 0 ∨ σ (b + 3) i = 1) : q_Ct YX4_copyFrom [.ref a, .ref b] sh σ (q_is none sh (q_cs σ a b N)) := by
  refine q_ct (n := 1) (by decide) (by decide) rfl (fun _ => Nat.le_of_ble_eq_true rfl) (fun E => ?_)
  have a0 := ha.1
  refine q_aload_n dX4_copyFrom_0 rfl ?_
  refine q_iconst (x := 0) dX4_copyFrom_1 (by decide) ?_
  refine q_put_i pX4_22 dX4_copyFrom_2 (by first | assumption | rfl) (by rfl) rfl rfl ?_
  refine q_iconst (x := 0) dX4_copyFrom_5 (by decide) ?_
  refine q_istore_n dX4_copyFrom_6 (by decide) rfl ?_
  have z := lpX4_copy (E := E) ha hb hab hN h12 hz (N + 1) 0 (by omega) (by omega)
  rw [q_cs_0] at z
  exact z

/-- the divers from b on with the first i of those from c on -/
def q_cd (σ : q_M) (b c i : Nat) : q_M := fun x => if b ≤ x ∧ x < b + i then (fun j => if j < 8 then σ (c + (x - b)) j else σ x j) else σ x
theorem q_cd_0 (σ : q_M) (b c : Nat) : q_cd σ b c 0 = σ := by
  funext x
  unfold q_cd
  rw [if_neg (by omega)]
theorem q_cd_ne {σ : q_M} {b c i x : Nat} (h : x < b ∨ b + i ≤ x) : q_cd σ b c i x = σ x := by
  unfold q_cd
  rw [if_neg (by omega)]
theorem q_cd_s {σ : q_M} {b c i : Nat} : q_up (q_up (q_up (q_up (q_up (q_up (q_up (q_up (q_cd σ b c i) (b + i) 0 (σ (c + i) 0)) (b + i) 1 (σ (c + i) 1)) (b + i) 2 (σ (c + i) 2)) (b + i) 3 (σ (c + i) 3)) (b + i) 7 (σ (c + i) 7)) (b + i) 4 (σ (c + i) 4)) (b + i) 5 (σ (c + i) 5)) (b + i) 6 (σ (c + i) 6) = q_cd σ b c (i + 1) := by
  funext x j
  by_cases h0 : x = b + i
  · subst h0
    rcases (show j = 0 ∨ j = 1 ∨ j = 2 ∨ j = 3 ∨ j = 4 ∨ j = 5 ∨ j = 6 ∨ j = 7 ∨ 8 ≤ j by omega) with h | h | h | h | h | h | h | h | h
    all_goals first
      | (subst h; simp [q_cd, q_up, upd])
      | simp [q_cd, q_up, upd, show j ≠ 0 by omega, show j ≠ 1 by omega, show j ≠ 2 by omega, show j ≠ 3 by omega, show j ≠ 4 by omega, show j ≠ 5 by omega, show j ≠ 6 by omega, show j ≠ 7 by omega, show ¬ j < 8 by omega]
  · by_cases h1 : b ≤ x ∧ x < b + i
    · simp [q_cd, q_up, h0, h1, show x < b + (i + 1) by omega]
    · simp [q_cd, q_up, h0, h1, show ¬ (b ≤ x ∧ x < b + (i + 1)) by omega]
theorem q_min_lo {N : Nat} (h : N ≤ 6) : q_min (nI N) 6 = nI N := by
  unfold q_min
  have := nI_toInt (n := N) (by omega)
  have e : (6 : Int32).toInt = 6 := rfl
  rw [if_neg (by omega)]
def q_isSc (sh : List q_S) (x : Nat) : Prop := sh[x]? = some (.inr (3, [some (some (x + 1)), some (some (x + 2)), none, none, none, none, none, none])) ∧ sh[x + 1]? = some (.inl (3, 6, some (q_ra (x + 6) 6))) ∧ q_isSn sh (x + 2) ∧ ∀ k, k < 6 → sh[x + 6 + k]? = some q_sD

set_option maxHeartbeats 4000000 in
set_option maxRecDepth 100000 in
theorem lpX3_cd {E : q_E} {sh : List q_S} {σ : q_M} {x fr c N : Nat} (hx : q_isSc sh x) (hfr : sh[fr]? = some (.inl (3, 6, some (q_ra c 6)))) (hc : ∀ k, k < 6 → sh[c + k]? = some q_sD) (hd : x + 12 ≤ c ∨ c + 6 ≤ x) (h6 : N ≤ 6) (hz : ∀ k, k < N → σ (c + k) 7 = 0 ∨ σ (c + k) 7 = 1) : ∀ (n : Nat) (i : Nat), N + 1 ≤ i + n → i ≤ N → q_G YX3_copyDivers E 0 0 12 [some (.ref x), some (.ref fr), some (.int (nI N)), some (.int (nI i))] [] sh (q_cd (q_up σ x 2 (nI N)) (x + 6) c i) (q_is none sh (q_cd (q_up σ x 2 (nI N)) (x + 6) c N)) := by
  intro n
  induction n with
  | zero =>
    intro i hm h0
    exact absurd hm (by omega)
  | succ n ih =>
    intro i hm h0
    have hi := nI_toInt (n := i) (by omega)
    have hNt := nI_toInt (n := N) (by omega)
    obtain ⟨x0, x1, x2, x3⟩ := hx
    refine q_iload_n dX3_copyDivers_12 rfl ?_
    refine q_aload_n dX3_copyDivers_13 rfl ?_
    refine q_get fX3_55 dX3_copyDivers_14 (by first | assumption | rfl) (by rfl) ?_
    rw [q_cd_ne (x := x) (by omega), q_up_at]
    refine q_cge 38 dX3_copyDivers_17 (by decide) (fun h17 => ?_) (fun h17 => ?_)
    · refine q_vret dX3_copyDivers_38 ?_ rfl rfl
      have e : i = N := by omega
      subst e
      exact ⟨rfl, rfl, rfl⟩
    · refine q_aload_n dX3_copyDivers_20 rfl ?_
      refine q_getr fX3_11 dX3_copyDivers_21 (by first | assumption | rfl) (by rfl) ?_
      refine q_iload_n dX3_copyDivers_24 rfl ?_
      refine q_ald i (by first | assumption | rfl) hi (by omega) (q_ra_at (by omega)) ⟨by decide, by decide⟩ dX3_copyDivers_25 ?_
      refine q_aload_n dX3_copyDivers_26 rfl ?_
      refine q_iload_n dX3_copyDivers_27 rfl ?_
      refine q_ald i (by first | assumption | rfl) hi (by omega) (q_ra_at (by omega)) ⟨by decide, by decide⟩ dX3_copyDivers_28 ?_
      have e1 : ∀ k, q_cd (q_up σ x 2 (nI N)) (x + 6) c i (c + i) k = σ (c + i) k := fun k => by rw [q_cd_ne (by omega), q_up_g (by omega)]
      refine q_cVv lX3_68 vX0_copyFrom (ci := 0) rfl dX3_copyDivers_29 (kX0_copyFrom (x3 i (by omega)) (hc i (by omega)) (by omega) (by rw [e1]; exact hz i (by omega))) (x3 i (by omega)) rfl rfl (Nat.le_of_ble_eq_true rfl) (by decide) ?_
      refine q_inc 1 dX3_copyDivers_32 (by decide) rfl (by decide) rfl ?_
      refine q_goto 12 dX3_copyDivers_35 (by decide) ?_
      simp only [e1]
      have e2 : ∀ k, σ (c + i) k = (q_up σ x 2 (nI N)) (c + i) k := fun k => by rw [q_up_g (by omega)]
      simp only [e2]
      rw [nI_1, q_cd_s]
      exact ih (i + 1) (by omega) (by omega)

set_option maxHeartbeats 4000000 in
set_option maxRecDepth 100000 in
theorem kX3_copyDivers {sh : List q_S} {σ : q_M} {x fr c N : Nat} (hx : q_isSc sh x) (hfr : sh[fr]? = some (.inl (3, 6, some (q_ra c 6)))) (hc : ∀ k, k < 6 → sh[c + k]? = some q_sD) (hd : x + 12 ≤ c ∨ c + 6 ≤ x) (h6 : N ≤ 6) (hz : ∀ k, k < N → σ (c + k) 7 = 0 ∨ σ (c + k) 7 = 1) : q_Ct YX3_copyDivers [.ref x, .ref fr, .int (nI N)] sh σ (q_is none sh (q_cd (q_up σ x 2 (nI N)) (x + 6) c N)) := by
  refine q_ct (n := 1) (by decide) (by decide) rfl (fun _ => Nat.le_of_ble_eq_true rfl) (fun E => ?_)
  have x0 := hx.1
  refine q_aload_n dX3_copyDivers_0 rfl ?_
  refine q_iload_n dX3_copyDivers_1 rfl ?_
  refine q_bipush (x := 6) dX3_copyDivers_2 (by decide) ?_
  refine q_cSi lX3_62 sJ9_min_7cf53 dX3_copyDivers_4 kmin rfl rfl (Nat.le_of_ble_eq_true rfl) (by decide) ?_
  rw [q_min_lo h6]
  refine q_put_i pX3_55 dX3_copyDivers_7 (by first | assumption | rfl) (by rfl) rfl rfl ?_
  refine q_iconst (x := 0) dX3_copyDivers_10 (by decide) ?_
  refine q_istore_n dX3_copyDivers_11 (by decide) rfl ?_
  have z := lpX3_cd (E := E) (σ := σ) hx hfr hc hd h6 hz (N + 1) 0 (by omega) (by omega)
  rw [q_cd_0] at z
  exact z
