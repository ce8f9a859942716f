/-! weights as whole numbers; questions about divers -/
theorem i_lt0 {dep s m : Int32} (hm : 0 ≤ m.toInt ∧ m.toInt ≤ 99) : 0 ≤ (q_lt0 dep s m).toInt ∧ (q_lt0 dep s m).toInt ≤ 99 := by
  unfold q_lt0
  split
  · exact hm
  · decide
theorem i_wt {a s m mass b w dep th : Int32} (ha : 800 ≤ a.toInt ∧ a.toInt ≤ 1200) (hm : 0 ≤ m.toInt ∧ m.toInt ≤ 99) (hM : -3000 ≤ mass.toInt ∧ mass.toInt ≤ 3000) (hb : 0 ≤ b.toInt ∧ b.toInt ≤ 9999) (hw : 250 ≤ w.toInt ∧ w.toInt ≤ 350) (hd : 0 ≤ dep.toInt ∧ dep.toInt ≤ 200) (ht : 0 ≤ th.toInt ∧ th.toInt ≤ 500) : (q_wt a s m mass b w dep th).toInt = mass.toInt - b.toInt * w.toInt / (a.toInt + th.toInt + dep.toInt) - (q_lt0 dep s m).toInt ∧ 0 ≤ b.toInt * w.toInt / (a.toInt + th.toInt + dep.toInt) ∧ b.toInt * w.toInt / (a.toInt + th.toInt + dep.toInt) ≤ 4375 := by
  have hl := i_lt0 (dep := dep) (s := s) hm
  have p1 : 0 ≤ b.toInt * w.toInt := Int.mul_nonneg hb.1 (by omega)
  have p2 : b.toInt * w.toInt ≤ 9999 * 350 := Int.mul_le_mul hb.2 hw.2 (by omega) (by decide)
  have e1 : (b * w).toInt = b.toInt * w.toInt := i_mul (by omega) (by omega)
  have e2 : (a + th).toInt = a.toInt + th.toInt := i_add (by omega) (by omega)
  have e3 : (a + th + dep).toInt = a.toInt + th.toInt + dep.toInt := by rw [i_add (by omega) (by omega), e2]
  have e4 : (q_dc (b * w) (a + th + dep)).toInt = b.toInt * w.toInt / (a.toInt + th.toInt + dep.toInt) := by
    rw [q_dc_pos (by omega), i_div (by omega) (by omega), e1, e3]
  have q1 : 0 ≤ b.toInt * w.toInt / (a.toInt + th.toInt + dep.toInt) := Int.ediv_nonneg p1 (by omega)
  have q2 : b.toInt * w.toInt / (a.toInt + th.toInt + dep.toInt) ≤ 4375 := by
    have : b.toInt * w.toInt / (a.toInt + th.toInt + dep.toInt) < 4376 := by
      rw [Int.ediv_lt_iff_lt_mul (by omega)]
      omega
    omega
  refine ⟨?_, q1, q2⟩
  unfold q_wt
  have e5 : (mass - q_dc (b * w) (a + th + dep)).toInt = mass.toInt - b.toInt * w.toInt / (a.toInt + th.toInt + dep.toInt) := by
    rw [i_sub (by rw [e4]; omega) (by rw [e4]; omega), e4]
  rw [i_sub (by rw [e5]; omega) (by rw [e5]; omega), e5]
/-- first places -/
theorem q_fst_sp {p : Nat → Bool} {n : Nat} : ∀ k, k ≤ n → (∃ i, n - k ≤ i ∧ i < n ∧ (∀ m, n - k ≤ m → m < i → p m = false) ∧ p i = true ∧ q_fst p n k = nI i) ∨ ((∀ m, n - k ≤ m → m < n → p m = false) ∧ q_fst p n k = -4)
  | 0, _ => Or.inr ⟨fun m h1 h2 => by omega, rfl⟩
  | k + 1, hk => by
    rw [q_fst]
    cases hp : p (n - (k + 1)) with
    | true => exact Or.inl ⟨n - (k + 1), by omega, by omega, fun m h1 h2 => by omega, hp, if_pos rfl⟩
    | false =>
      rw [if_neg (by decide)]
      rcases q_fst_sp (p := p) (n := n) k (by omega) with ⟨i, a, b, c, d, e⟩ | ⟨a, b⟩
      · refine Or.inl ⟨i, by omega, b, fun m h1 h2 => ?_, d, e⟩
        by_cases z : m = n - (k + 1)
        · rw [z]; exact hp
        · exact c m (by omega) h2
      · refine Or.inr ⟨fun m h1 h2 => ?_, b⟩
        by_cases z : m = n - (k + 1)
        · rw [z]; exact hp
        · exact a m (by omega) h2
theorem q_dn_sp {p : Nat → Bool} : ∀ n f, (∃ i, i < n ∧ (∀ m, m < i → p m = false) ∧ p i = true ∧ q_dn p n f = nI i) ∨ ((∀ m, m < n → p m = false) ∧ q_dn p n f = f)
  | 0, f => Or.inr ⟨fun m h => by omega, rfl⟩
  | n + 1, f => by
    rw [q_dn]
    rcases q_dn_sp (p := p) n (if p n then nI n else f) with ⟨i, a, b, c, d⟩ | ⟨a, b⟩
    · exact Or.inl ⟨i, by omega, b, c, d⟩
    · cases hp : p n with
      | true =>
        rw [hp, if_pos rfl] at b
        exact Or.inl ⟨n, by omega, a, hp, by rw [if_pos rfl]; exact b⟩
      | false =>
        rw [hp, if_neg (by decide)] at b
        refine Or.inr ⟨fun m h => ?_, by rw [if_neg (by decide)]; exact b⟩
        by_cases z : m = n
        · rw [z]; exact hp
        · exact a m (by omega)
theorem q_dn1_sp {p : Nat → Bool} : ∀ n f, (∃ i, 1 ≤ i ∧ i ≤ n ∧ (∀ m, 1 ≤ m → m < i → p m = false) ∧ p i = true ∧ q_dn1 p n f = nI i) ∨ ((∀ m, 1 ≤ m → m ≤ n → p m = false) ∧ q_dn1 p n f = f)
  | 0, f => Or.inr ⟨fun m h => by omega, rfl⟩
  | n + 1, f => by
    rw [q_dn1]
    rcases q_dn1_sp (p := p) n (if p (n + 1) then nI (n + 1) else f) with ⟨i, a0, a, b, c, d⟩ | ⟨a, b⟩
    · exact Or.inl ⟨i, a0, by omega, b, c, d⟩
    · cases hp : p (n + 1) with
      | true =>
        rw [hp, if_pos rfl] at b
        exact Or.inl ⟨n + 1, by omega, by omega, fun m h1 h2 => a m h1 (by omega), hp, by rw [if_pos rfl]; exact b⟩
      | false =>
        rw [hp, if_neg (by decide)] at b
        refine Or.inr ⟨fun m h h2 => ?_, by rw [if_neg (by decide)]; exact b⟩
        by_cases z : m = n + 1
        · rw [z]; exact hp
        · exact a m h (by omega)
theorem q_fst_dn {p : Nat → Bool} (n : Nat) : q_fst p n n = q_dn p n (-4) := by
  rcases q_fst_sp (p := p) (n := n) n (Nat.le_refl n) with ⟨i, a, b, c, d, e⟩ | ⟨a, b⟩
  · rcases q_dn_sp (p := p) n (-4) with ⟨i', a', b', c', d'⟩ | ⟨a', b'⟩
    · have : i = i' := by
        rcases Nat.lt_trichotomy i i' with z | z | z
        · exact absurd d (by rw [b' i z]; decide)
        · exact z
        · exact absurd c' (by rw [c i' (by omega) z]; decide)
      rw [e, d', this]
    · exact absurd d (by rw [a' i b]; decide)
  · rcases q_dn_sp (p := p) n (-4) with ⟨i', a', b', c', d'⟩ | ⟨a', b'⟩
    · exact absurd c' (by rw [a i' (by omega) a']; decide)
    · rw [b, b']
theorem q_fst_dn1 {p : Nat → Bool} (n : Nat) : q_fst p (n + 1) n = q_dn1 p n (-4) := by
  rcases q_fst_sp (p := p) (n := n + 1) n (by omega) with ⟨i, a, b, c, d, e⟩ | ⟨a, b⟩
  · rcases q_dn1_sp (p := p) n (-4) with ⟨i', a0, a', b', c', d'⟩ | ⟨a', b'⟩
    · have : i = i' := by
        rcases Nat.lt_trichotomy i i' with z | z | z
        · exact absurd d (by rw [b' i (by omega) z]; decide)
        · exact z
        · exact absurd c' (by rw [c i' (by omega) z]; decide)
      rw [e, d', this]
    · exact absurd d (by rw [a' i (by omega) (by omega)]; decide)
  · rcases q_dn1_sp (p := p) n (-4) with ⟨i', a0, a', b', c', d'⟩ | ⟨a', b'⟩
    · exact absurd c' (by rw [a i' (by omega) (by omega)]; decide)
    · rw [b, b']
theorem q_fst_c {p q : Nat → Bool} {n : Nat} : ∀ k, k ≤ n → (∀ i, i < n → p i = q i) → q_fst p n k = q_fst q n k
  | 0, _, _ => rfl
  | k + 1, hk, h => by rw [q_fst, q_fst, h _ (by omega), q_fst_c k (by omega) h]
theorem q_fN_c {p q : Nat → Bool} {n : Nat} : ∀ k, k ≤ n → (∀ i, i < n → p i = q i) → q_fN p n k = q_fN q n k
  | 0, _, _ => rfl
  | k + 1, hk, h => by rw [q_fN, q_fN, h _ (by omega), q_fN_c k (by omega) h]
/-- from T on -/
theorem q_fst_T {p : Nat → Bool} {n T : Nat} (h : ∀ i, i < n → p i = decide (T ≤ i)) : q_fst p n n = if T < n then nI T else -4 := by
  rcases q_fst_sp (p := p) (n := n) n (Nat.le_refl n) with ⟨i, a, b, c, d, e⟩ | ⟨a, b⟩
  · rw [h i b] at d
    have d' := of_decide_eq_true d
    have : i = T := by
      rcases Nat.lt_or_ge T i with z | z
      · have := c T (by omega) z
        rw [h T (by omega)] at this
        exact absurd this (by rw [decide_eq_true (Nat.le_refl T)]; decide)
      · omega
    rw [e, this, if_pos (by omega)]
  · rw [b, if_neg]
    intro z
    have := a T (by omega) z
    rw [h T z] at this
    exact absurd this (by rw [decide_eq_true (Nat.le_refl T)]; decide)
section R76
variable {σ : q_M}
theorem r_a (h : r_R σ) : 800 ≤ (σ 15 1).toInt ∧ (σ 15 1).toInt ≤ 1200 := h.wb (r := 1) (by decide)
theorem r_m (h : r_R σ) : 0 ≤ (σ 15 5).toInt ∧ (σ 15 5).toInt ≤ 99 := h.wb (r := 5) (by decide)
theorem r_k {N n : Nat} (hs : r_s σ 17 0 N n) : 250 ≤ (σ 17 4).toInt ∧ (σ 17 4).toInt ≤ 350 := q_win_t hs.2.2.1.2
theorem r_mass {N n : Nat} (hs : r_s σ 17 0 N n) {j : Nat} (hj : j < N) : (σ (23 + j) 0 + σ (23 + j) 4).toInt = (σ (23 + j) 0).toInt + (σ (23 + j) 4).toInt ∧ (1 ≤ (σ (23 + j) 0).toInt ∧ (σ (23 + j) 0).toInt ≤ 999) ∧ (0 ≤ (σ (23 + j) 4).toInt ∧ (σ (23 + j) 4).toInt ≤ 999) ∧ (0 ≤ (σ (23 + j) 1).toInt ∧ (σ (23 + j) 1).toInt ≤ 9999) := by
  have hb := (hs.2.2.2.2.2.2.2.1 j hj).2
  have h0 : 1 ≤ (σ (23 + j) 0).toInt ∧ (σ (23 + j) 0).toInt ≤ 999 := q_win_t hb.1
  have h4 : 0 ≤ (σ (23 + j) 4).toInt ∧ (σ (23 + j) 4).toInt ≤ 999 := q_win_t hb.2.2.2.2.1
  have h1 : 0 ≤ (σ (23 + j) 1).toInt ∧ (σ (23 + j) 1).toInt ≤ 9999 := q_win_t hb.2.1
  exact ⟨i_add (by omega) (by omega), h0, h4, h1⟩
/-- the thumb at which a diver goes -/
theorem r_gm (h : r_R σ) {N n : Nat} (hs : r_s σ 17 0 N n) {j : Nat} (hj : j < N) : q_gm σ j = q_th σ (23 + j) ∧ (q_gm σ j = -4 ∨ ∃ t, t ≤ 500 ∧ q_gm σ j = nI t) := by
  have hd := (hs.2.2.2.2.2.2.2.1 j hj).1
  have e0 : σ 73 (8 * j + 0) = σ (23 + j) 0 := hd 0 (by decide)
  have e5 : σ 73 (8 * j + 5) = σ (23 + j) 4 := hd 5 (by decide)
  have e1 : σ 73 (8 * j + 1) = σ (23 + j) 1 := hd 1 (by decide)
  have hA := r_a h
  have hm := r_m h
  have hK := r_k hs
  obtain ⟨em, h0, h4, h1⟩ := r_mass hs hj
  have hl := i_lt0 (dep := 0) (s := σ 15 4) hm
  have z0 : (0 : Int32).toInt = 0 := rfl
  have z1 : (1 : Int32).toInt = 1 := rfl
  have z5 : (500 : Int32).toInt = 500 := rfl
  have eV : (σ (23 + j) 0 + σ (23 + j) 4 - q_lt0 0 (σ 15 4) (σ 15 5)).toInt = (σ (23 + j) 0).toInt + (σ (23 + j) 4).toInt - (q_lt0 0 (σ 15 4) (σ 15 5)).toInt := by rw [i_sub (by omega) (by omega), em]
  generalize hVd : (σ (23 + j) 0).toInt + (σ (23 + j) 4).toInt - (q_lt0 0 (σ 15 4) (σ 15 5)).toInt = V at eV
  have p1 : 0 ≤ (σ (23 + j) 1).toInt * (σ 17 4).toInt := Int.mul_nonneg h1.1 (by omega)
  have p2 : (σ (23 + j) 1).toInt * (σ 17 4).toInt ≤ 9999 * 350 := Int.mul_le_mul h1.2 hK.2 (by omega) (by decide)
  have eBK : (σ (23 + j) 1 * σ 17 4).toInt = (σ (23 + j) 1).toInt * (σ 17 4).toInt := i_mul (by omega) (by omega)
  generalize hBK : (σ (23 + j) 1).toInt * (σ 17 4).toInt = BK at p1 p2 eBK
  have hp : ∀ t, t < 501 → q_gw σ (σ 73 (8 * j + 0) + σ 73 (8 * j + 5)) (σ 73 (8 * j + 1)) t = decide (BK / ((σ 15 1).toInt + t) < V) := by
    intro t ht
    have et := nI_toInt (n := t) (by omega)
    have w := (i_wt (a := σ 15 1) (s := σ 15 4) (m := σ 15 5) (mass := σ (23 + j) 0 + σ (23 + j) 4) (b := σ (23 + j) 1) (w := σ 17 4) (dep := 0) (th := nI t) hA hm (by omega) h1 hK (by decide) (by omega)).1
    unfold q_gw
    rw [e0, e5, e1, h.w (r := 1) (by decide), h.w (r := 4) (by decide), h.w (r := 5) (by decide), show σ 73 49 = σ 17 4 from hs.2.2.1.1, decide_eq_decide, w, em, et, hBK, z0, Int.add_zero]
    omega
  unfold q_gm q_th
  rw [eV]
  by_cases hV : V ≤ 0
  · rw [if_pos hV]
    have hno : q_fst (q_gw σ (σ 73 (8 * j + 0) + σ 73 (8 * j + 5)) (σ 73 (8 * j + 1))) 501 501 = if 501 < 501 then nI 501 else -4 := q_fst_T (T := 501) (fun i hi => by
      rw [hp i hi, decide_eq_decide]
      have : 0 ≤ BK / ((σ 15 1).toInt + i) := Int.ediv_nonneg p1 (by omega)
      omega)
    rw [hno]
    exact ⟨rfl, Or.inl rfl⟩
  · rw [if_neg hV]
    have q1 : 0 ≤ BK / V := Int.ediv_nonneg p1 (by omega)
    have q2 : BK / V ≤ BK := Int.ediv_le_self _ p1
    have eD : (q_dc (σ (23 + j) 1 * σ 17 4) (σ (23 + j) 0 + σ (23 + j) 4 - q_lt0 0 (σ 15 4) (σ 15 5))).toInt = BK / V := by
      rw [q_dc_pos (by omega), i_div (by omega) (by omega), eBK, eV]
    have eP : (q_dc (σ (23 + j) 1 * σ 17 4) (σ (23 + j) 0 + σ (23 + j) 4 - q_lt0 0 (σ 15 4) (σ 15 5)) + 1 - (σ 15 1 + 0 + 0)).toInt = BK / V + 1 - (σ 15 1).toInt := by
      have a1 : (σ 15 1 + 0 + 0).toInt = (σ 15 1).toInt := by rw [Int32.add_zero, Int32.add_zero]
      have a2 : (q_dc (σ (23 + j) 1 * σ 17 4) (σ (23 + j) 0 + σ (23 + j) 4 - q_lt0 0 (σ 15 4) (σ 15 5)) + 1).toInt = BK / V + 1 := by rw [i_add (by rw [eD, z1]; omega) (by rw [eD, z1]; omega), eD, z1]
      rw [i_sub (by rw [a1, a2]; omega) (by rw [a1, a2]; omega), a1, a2]
    generalize hG : q_dc (σ (23 + j) 1 * σ 17 4) (σ (23 + j) 0 + σ (23 + j) 4 - q_lt0 0 (σ 15 4) (σ 15 5)) + 1 - (σ 15 1 + 0 + 0) = G at eP
    have eT : (q_max 0 G).toInt = ((BK / V + 1 - (σ 15 1).toInt).toNat : Int) := by
      unfold q_max
      by_cases hg : (0 : Int32).toInt < G.toInt
      · rw [if_pos hg, eP]
        omega
      · rw [if_neg hg, z0]
        omega
    have eT2 : q_max 0 G = nI (BK / V + 1 - (σ 15 1).toInt).toNat := by
      apply i_ext
      rw [eT, nI_toInt (by omega)]
    have hT := q_fst_T (p := q_gw σ (σ 73 (8 * j + 0) + σ 73 (8 * j + 5)) (σ 73 (8 * j + 1))) (n := 501) (T := (BK / V + 1 - (σ 15 1).toInt).toNat) (fun i hi => by
      rw [hp i hi, decide_eq_decide, Int.ediv_lt_iff_lt_mul (by omega)]
      have : BK / V < (σ 15 1).toInt + i ↔ BK < ((σ 15 1).toInt + i) * V := Int.ediv_lt_iff_lt_mul (by omega)
      rw [Int.mul_comm V]
      omega)
    rw [hT, eT, z5, eT2]
    by_cases hc : (BK / V + 1 - (σ 15 1).toInt).toNat < 501
    · rw [if_pos hc, if_neg (by omega)]
      exact ⟨rfl, Or.inr ⟨_, by omega, rfl⟩⟩
    · rw [if_neg hc, if_pos (by omega)]
      exact ⟨rfl, Or.inl rfl⟩
end R76
