/-! questions about divers answer alike -/
theorem r_kd {σ : q_M} {N n : Nat} (hs : r_s σ 17 0 N n) (k : Int32) : q_win k 0 (σ 73 53 - 1) = q_win k 0 (σ 17 2 - 1) := r_dq hs.1.1 hs.1.2.2 k
theorem rE_turning {k th : Int32} : r_E YX7_turning YX8_turning [.int k, .int th] := r_E.ask (fun σ h => by
  obtain ⟨N, n, hs⟩ := h.m17
  obtain ⟨H, hH, h10, h200, hH2⟩ := r_wH h
  obtain ⟨A, hA, a1, a2, hA2⟩ := r_wA h
  by_cases hc : (q_win k 0 (σ 17 2 - 1) && q_win th 0 500) = true
  · have hc2 := hc
    rw [Bool.and_eq_true] at hc2
    obtain ⟨j, hj, rfl, hjc⟩ := r_dv hs.1.1 hs.1.2.1 hc2.1
    obtain ⟨t, rfl, -, ht⟩ := q_win_n hc2.2 (by decide)
    have e5 : (500 : Int32).toInt = 500 := rfl
    refine ⟨_, _, kX7_turning hs.1.1 hs.1.2.1 hH h200, kX8_turning hA2 (by omega) (by omega) hH2 h200 (j := j) (t := t) (by have := hs.1.2.1; omega) (by rw [r_kd hs]; exact hc2.1) (by omega), ?_⟩
    rw [if_pos hc, hjc, ← q_fst_dn]
    exact q_fst_c _ (Nat.le_refl _) (fun i hi => by rw [r_Wm h hs hj])
  · have hc' : (q_win k 0 (σ 17 2 - 1) && q_win th 0 500) = false := by simpa using hc
    refine ⟨_, _, kX7_turning hs.1.1 hs.1.2.1 hH h200, kX8_turningB (by rw [r_kd hs]; exact hc'), ?_⟩
    rw [if_neg hc])
theorem rE_holding {k th : Int32} : r_E YX7_holding YX8_holding [.int k, .int th] := r_E.ask (fun σ h => by
  obtain ⟨N, n, hs⟩ := h.m17
  obtain ⟨H, hH, h10, h200, hH2⟩ := r_wH h
  obtain ⟨A, hA, a1, a2, hA2⟩ := r_wA h
  by_cases hc : (q_win k 0 (σ 17 2 - 1) && q_win th 0 500) = true
  · have hc2 := hc
    rw [Bool.and_eq_true] at hc2
    obtain ⟨j, hj, rfl, hjc⟩ := r_dv hs.1.1 hs.1.2.1 hc2.1
    obtain ⟨t, rfl, -, ht⟩ := q_win_n hc2.2 (by decide)
    have e5 : (500 : Int32).toInt = 500 := rfl
    refine ⟨_, _, kX7_holding hs.1.1 hs.1.2.1 hH h200, kX8_holding hA2 (by omega) (by omega) hH2 h200 (j := j) (t := t) (by have := hs.1.2.1; omega) (by rw [r_kd hs]; exact hc2.1) (by omega), ?_⟩
    rw [if_pos hc, hjc, ← q_fst_dn1]
    exact q_fst_c _ (by omega) (fun i hi => by rw [r_Wm h hs hj, r_Wm h hs hj])
  · have hc' : (q_win k 0 (σ 17 2 - 1) && q_win th 0 500) = false := by simpa using hc
    refine ⟨_, _, kX7_holding hs.1.1 hs.1.2.1 hH h200, kX8_holdingB (by rw [r_kd hs]; exact hc'), ?_⟩
    rw [if_neg hc])
theorem rE_back {k : Int32} : r_E YX7_back YX8_back [.int k] := r_E.ask (fun σ h => by
  obtain ⟨N, n, hs⟩ := h.m17
  obtain ⟨H, hH, h10, h200, hH2⟩ := r_wH h
  obtain ⟨A, hA, a1, a2, hA2⟩ := r_wA h
  by_cases hc : q_win k 0 (σ 17 2 - 1) = true
  · obtain ⟨j, hj, rfl, hjc⟩ := r_dv hs.1.1 hs.1.2.1 hc
    refine ⟨_, _, kX7_back hs.1.1 hs.1.2.1 hH h200, kX8_back hA2 (by omega) (by omega) hH2 h200 (j := j) (by have := hs.1.2.1; omega) (by rw [r_kd hs]; exact hc), ?_⟩
    rw [if_pos hc, hjc, q_fN_c (q := fun i => decide (0 ≤ (q_Wm σ j (nI i) 0).toInt)) _ (Nat.le_refl _) (fun i hi => by rw [r_Wm h hs hj])]
  · have hc' : q_win k 0 (σ 17 2 - 1) = false := by simpa using hc
    refine ⟨_, _, kX7_back hs.1.1 hs.1.2.1 hH h200, kX8_backB (by rw [r_kd hs]; exact hc'), ?_⟩
    rw [if_neg hc])
theorem rE_goesAt {k : Int32} : r_E YX7_goesAt YX8_goesAt [.int k] := r_E.ask (fun σ h => by
  obtain ⟨N, n, hs⟩ := h.m17
  obtain ⟨A, hA, a1, a2, hA2⟩ := r_wA h
  by_cases hc : q_win k 0 (σ 17 2 - 1) = true
  · obtain ⟨j, hj, rfl, hjc⟩ := r_dv hs.1.1 hs.1.2.1 hc
    refine ⟨_, _, kX7_goesAt hs.1.1 hs.1.2.1, kX8_goesAt hA2 (by omega) (by omega) (j := j) (by have := hs.1.2.1; omega) (by rw [r_kd hs]; exact hc), ?_⟩
    rw [if_pos hc, hjc, (r_gm h hs hj).1]
  · have hc' : q_win k 0 (σ 17 2 - 1) = false := by simpa using hc
    refine ⟨_, _, kX7_goesAt hs.1.1 hs.1.2.1, kX8_goesAtB (by rw [r_kd hs]; exact hc'), ?_⟩
    rw [if_neg hc])
/-! order -/
def q_cn (p : Nat → Bool) : Nat → Nat
  | 0 => 0
  | n + 1 => if p n = true then q_cn p n + 1 else q_cn p n
theorem q_cn_le (p : Nat → Bool) : ∀ n, q_cn p n ≤ n
  | 0 => Nat.le_refl 0
  | n + 1 => by
    have := q_cn_le p n
    rw [q_cn]
    split <;> omega
theorem q_cnt_cn (p : Nat → Bool) : ∀ n, q_cnt p n = nI (q_cn p n)
  | 0 => rfl
  | n + 1 => by
    rw [q_cnt, q_cn, q_cnt_cn p n]
    cases p n with
    | true => rw [if_pos rfl, if_pos rfl, nI_1]
    | false => rw [if_neg (by decide), if_neg (by decide)]
theorem q_sb_cn (p : Nat → Bool) : ∀ n, q_sb p n = nI (q_cn p n)
  | 0 => rfl
  | n + 1 => by
    rw [q_sb, q_cn, q_sb_cn p n]
    cases p n with
    | true =>
      rw [if_pos rfl]
      exact nI_1 _
    | false =>
      rw [if_neg (by decide)]
      exact Int32.add_zero _
theorem q_cn_c {p q : Nat → Bool} : ∀ n, (∀ i, i < n → p i = q i) → q_cn p n = q_cn q n
  | 0, _ => rfl
  | n + 1, h => by rw [q_cn, q_cn, h n (by omega), q_cn_c n (fun i hi => h i (by omega))]
theorem q_cn_mono {p q : Nat → Bool} : ∀ n, (∀ i, i < n → p i = true → q i = true) → q_cn p n ≤ q_cn q n
  | 0, _ => Nat.le_refl 0
  | n + 1, h => by
    have ih := q_cn_mono (p := p) (q := q) n (fun i hi => h i (by omega))
    have h0 := h n (by omega)
    rw [q_cn, q_cn]
    cases hp : p n with
    | true =>
      rw [if_pos rfl, if_pos (h0 hp)]
      omega
    | false =>
      rw [if_neg (by decide)]
      split <;> omega
theorem q_cn_lt {p q : Nat → Bool} {a : Nat} : ∀ n, a < n → (∀ i, i < n → p i = true → q i = true) → p a = false → q a = true → q_cn p n < q_cn q n
  | 0, h, _, _, _ => by omega
  | n + 1, ha, h, hp, hq => by
    have h0 := h n (by omega)
    rw [q_cn, q_cn]
    by_cases z : a = n
    · subst z
      have := q_cn_mono (p := p) (q := q) a (fun i hi => h i (by omega))
      rw [hp, hq, if_neg (by decide), if_pos rfl]
      omega
    · have ih := q_cn_lt (p := p) (q := q) n (by omega) (fun i hi => h i (by omega)) hp hq
      cases hpn : p n with
      | true =>
        rw [if_pos rfl, if_pos (h0 hpn)]
        omega
      | false =>
        rw [if_neg (by decide)]
        split <;> omega
theorem q_fsd_sp {p : Nat → Bool} {n : Nat} : ∀ k, k ≤ n → (∃ i, n - k ≤ i ∧ i < n ∧ p i = true ∧ q_fsd p n k = nI i) ∨ ((∀ m, n - k ≤ m → m < n → p m = false) ∧ q_fsd p n k = -1)
  | 0, _ => Or.inr ⟨fun m h1 h2 => by omega, rfl⟩
  | k + 1, hk => by
    rw [q_fsd]
    cases hp : p (n - (k + 1)) with
    | true => exact Or.inl ⟨n - (k + 1), by omega, by omega, hp, if_pos rfl⟩
    | false =>
      rw [if_neg (by decide)]
      rcases q_fsd_sp (p := p) (n := n) k (by omega) with ⟨i, a, b, d, e⟩ | ⟨a, b⟩
      · exact Or.inl ⟨i, by omega, b, d, e⟩
      · refine Or.inr ⟨fun m h1 h2 => ?_, b⟩
        by_cases z : m = n - (k + 1)
        · rw [z]; exact hp
        · exact a m (by omega) h2
theorem q_oo_sp {p : Nat → Bool} : ∀ n, (∃ i, i < n ∧ p i = true ∧ q_oo p n = nI i) ∨ ((∀ m, m < n → p m = false) ∧ q_oo p n = -1)
  | 0 => Or.inr ⟨fun m h => by omega, rfl⟩
  | n + 1 => by
    rw [q_oo]
    cases hp : p n with
    | true => exact Or.inl ⟨n, by omega, hp, if_pos rfl⟩
    | false =>
      rw [if_neg (by decide)]
      rcases q_oo_sp (p := p) n with ⟨i, a, b, c⟩ | ⟨a, b⟩
      · exact Or.inl ⟨i, by omega, b, c⟩
      · refine Or.inr ⟨fun m h => ?_, b⟩
        by_cases z : m = n
        · rw [z]; exact hp
        · exact a m (by omega)
def q_rT (σ : q_M) (j : Nat) : Nat := if q_gm σ j = -4 then 999 else (q_gm σ j).toInt.toNat
section R77
variable {σ : q_M}
theorem r_rk (h : r_R σ) {N n : Nat} (hs : r_s σ 17 0 N n) {j : Nat} (hj : j < N) : (q_rk σ j).toInt = 8 * q_rT σ j + j ∧ q_rT σ j ≤ 999 ∧ (q_gm σ j = -4 → q_rT σ j = 999) ∧ (¬ q_gm σ j = -4 → q_rT σ j ≤ 500 ∧ q_gm σ j = nI (q_rT σ j)) := by
  have hN := hs.1.2.1
  unfold q_rk q_rT
  rcases (r_gm h hs hj).2 with z | ⟨t, ht, z⟩
  · rw [if_pos z, if_pos z]
    refine ⟨?_, by decide, fun _ => rfl, fun q => absurd z q⟩
    rw [show (8 * 999 : Int32) = nI 7992 from rfl, nI_add, nI_toInt (by omega)]
    omega
  · have hne : ¬ q_gm σ j = -4 := by
      rw [z]
      intro q
      have := congrArg Int32.toInt q
      rw [nI_toInt (by omega)] at this
      have e4 : (-4 : Int32).toInt = -4 := rfl
      omega
    rw [if_neg hne, if_neg hne, z, nI_toInt (by omega)]
    have et : ((t : Int)).toNat = t := by omega
    rw [et]
    refine ⟨?_, by omega, fun q => absurd (z ▸ q) hne, fun _ => ⟨ht, rfl⟩⟩
    rw [show (8 : Int32) = nI 8 from rfl, pk_mul, nI_add, nI_toInt (by omega)]
    omega
theorem r_aw (h : r_R σ) {N n : Nat} (hs : r_s σ 17 0 N n) {k o : Nat} (hk : k < N) (ho : o < N) : q_aw σ k o = q_ra2 σ k o := by
  obtain ⟨a1, a2, a3, a4⟩ := r_rk h hs hk
  obtain ⟨b1, b2, b3, b4⟩ := r_rk h hs ho
  have hN := hs.1.2.1
  unfold q_aw q_ra2 q_ah
  rw [← (r_gm h hs hk).1, ← (r_gm h hs ho).1, a1, b1]
  by_cases hok : o = k
  · subst hok
    rw [decide_eq_false (fun z => z rfl), Bool.false_and]
    exact (decide_eq_false (by omega)).symm
  · rw [decide_eq_true hok, Bool.true_and]
    by_cases ck : q_gm σ k = -4
    · by_cases co : q_gm σ o = -4
      · rw [if_pos (co.trans ck.symm), a3 ck, b3 co, decide_eq_decide]
        omega
      · have := b4 co
        rw [if_neg (fun z => co (z.trans ck)), decide_eq_true ck, Bool.true_or, a3 ck]
        exact (decide_eq_true (by omega)).symm
    · obtain ⟨k1, k2⟩ := a4 ck
      by_cases co : q_gm σ o = -4
      · rw [if_neg (fun z => ck (z.symm.trans co)), decide_eq_false ck, Bool.false_or, decide_eq_false (fun z => z co), Bool.false_and, b3 co]
        exact (decide_eq_false (by omega)).symm
      · obtain ⟨o1, o2⟩ := b4 co
        rw [decide_eq_false ck, Bool.false_or, decide_eq_true co, Bool.true_and]
        have ek := nI_toInt (n := q_rT σ k) (by omega)
        have eo := nI_toInt (n := q_rT σ o) (by omega)
        rw [k2, o2]
        by_cases z : q_rT σ o = q_rT σ k
        · rw [z, if_pos rfl, decide_eq_decide]
          omega
        · rw [if_neg (fun q => z (sp_eq (by omega) (by omega) q)), ek, eo, decide_eq_decide]
          omega
end R77
theorem rE_order {x : Int32} : r_E YX7_order YX8_order [.int x] := r_E.ask (fun σ h => by
  obtain ⟨N, n, hs⟩ := h.m17
  obtain ⟨A, hA, a1, a2, hA2⟩ := r_wA h
  have hN := hs.1.2.1
  refine ⟨_, _, kX7_order hs.1.1 hs.1.2.1, kX8_order hA2 (by omega) (by omega) hs.1.2.2 hs.1.2.1, ?_⟩
  have hcn : ∀ k, k < N → q_cnt (q_aw σ k) N = q_sb (q_ra2 σ k) N := fun k hk => by
    rw [q_cnt_cn, q_sb_cn, q_cn_c (q := q_ra2 σ k) N (fun i hi => r_aw h hs hk hi)]
  have inj : ∀ a b, a < N → b < N → q_sb (q_ra2 σ a) N = q_sb (q_ra2 σ b) N → a = b := by
    intro a b ha hb e
    rw [q_sb_cn, q_sb_cn] at e
    have l1 := q_cn_le (q_ra2 σ a) N
    have l2 := q_cn_le (q_ra2 σ b) N
    have e' := sp_eq (by omega) (by omega) e
    have ra := r_rk h hs ha
    have rb := r_rk h hs hb
    have step : ∀ a b, a < N → b < N → (q_rk σ a).toInt < (q_rk σ b).toInt → q_cn (q_ra2 σ a) N < q_cn (q_ra2 σ b) N := fun a b ha hb hl =>
      q_cn_lt (a := a) N ha (fun i hi hp => decide_eq_true (by have := of_decide_eq_true hp; omega)) (decide_eq_false (by omega)) (decide_eq_true hl)
    rcases Int.lt_trichotomy (q_rk σ a).toInt (q_rk σ b).toInt with z | z | z
    · have := step a b ha hb z; omega
    · rw [ra.1, rb.1] at z
      omega
    · have := step b a hb ha z; omega
  rcases q_fsd_sp (p := fun k => decide (q_cnt (q_aw σ k) N = x)) (n := N) N (Nat.le_refl _) with ⟨i, -, b, c, d⟩ | ⟨a, b⟩
  · have c' : q_cnt (q_aw σ i) N = x := of_decide_eq_true c
    rcases q_oo_sp (p := fun k => decide (q_sb (q_ra2 σ k) N = x)) N with ⟨i', b', c2, d'⟩ | ⟨a', b'⟩
    · have c2' : q_sb (q_ra2 σ i') N = x := of_decide_eq_true c2
      rw [d, d', inj i i' b b' (by rw [← hcn i b, c', c2'])]
    · have := of_decide_eq_false (a' i b)
      exact absurd (by rw [← hcn i b, c']) this
  · rcases q_oo_sp (p := fun k => decide (q_sb (q_ra2 σ k) N = x)) N with ⟨i', b', c2, d'⟩ | ⟨a', b'⟩
    · have := of_decide_eq_false (a i' (by omega) b')
      exact absurd (by rw [hcn i' b']; exact of_decide_eq_true c2) this
    · rw [b, b'])
theorem r_ai {σ : q_M} (h : r_R σ) {N n : Nat} (hs : r_s σ 17 0 N n) {k : Nat} (hk : k < N) : ∀ m l, m ≤ k → q_ai σ k m l = q_ai2 σ k m l
  | 0, _, _ => rfl
  | m + 1, l, hm => by
    rw [q_ai, q_ai2]
    have e : q_as σ k (k - (m + 1)) l = q_as2 σ k (k - (m + 1)) l := by
      unfold q_as q_as2
      rw [← (r_gm h hs hk).1, ← (r_gm h hs (show k - (m + 1) < N by omega)).1]
    rw [e]
    exact r_ai h hs hk m _ (by omega)
theorem r_ao {σ : q_M} (h : r_R σ) {N n : Nat} (hs : r_s σ 17 0 N n) : ∀ m l, m ≤ N → q_ao σ N m l = q_ao2 σ N m l
  | 0, _, _ => rfl
  | m + 1, l, hm => by
    rw [q_ao, q_ao2, r_ai h hs (show N - (m + 1) < N by omega) _ _ (Nat.le_refl _)]
    exact r_ao h hs m _ (by omega)
theorem rE_apart : r_E YX7_apart YX8_apart [] := r_E.ask (fun σ h => by
  obtain ⟨N, n, hs⟩ := h.m17
  obtain ⟨A, hA, a1, a2, hA2⟩ := r_wA h
  refine ⟨_, _, kX7_apart hs.1.1 hs.1.2.1, kX8_apart hA2 (by omega) (by omega) hs.1.2.2 hs.1.2.1, ?_⟩
  rw [r_ao h hs _ _ (by omega)]
  cases N with
  | zero => rfl
  | succ m =>
    show q_ao2 σ (m + 1) m (-4) = q_ao2 σ (m + 1) m (q_ai2 σ (m + 1 - (m + 1)) (m + 1 - (m + 1)) (-4))
    rw [Nat.sub_self]
    rfl)
theorem r_lf {σ : q_M} (h : r_R σ) {N n : Nat} (hs : r_s σ 17 0 N n) {j : Nat} (hj : j < N) : ∀ m, q_lf σ (23 + j) m = q_lfm σ j m
  | 0 => rfl
  | m + 1 => by
    have hd := (hs.2.2.2.2.2.2.2.1 j hj).1
    have e0 : σ 73 (8 * j + 0) = σ (23 + j) 0 := hd 0 (by decide)
    have e1 : σ 73 (8 * j + 1) = σ (23 + j) 1 := hd 1 (by decide)
    have er : ∀ x : Int32, -x - 1 = -1 - x := fun x => by
      rw [Int32.sub_eq_add_neg, Int32.sub_eq_add_neg, Int32.add_comm]
    rw [q_lf, q_lfm, ← r_lf h hs hj m, e0, e1, h.w (r := 1) (by decide), h.w (r := 4) (by decide), h.w (r := 5) (by decide), show σ 73 49 = σ 17 4 from hs.2.2.1.1, q_min, er]
theorem rE_lifts {k : Int32} : r_E YX7_lifts YX8_lifts [.int k] := r_E.ask (fun σ h => by
  obtain ⟨N, n, hs⟩ := h.m17
  obtain ⟨H, hH, h10, h200, hH2⟩ := r_wH h
  obtain ⟨A, hA, a1, a2, hA2⟩ := r_wA h
  by_cases hc : q_win k 0 (σ 17 2 - 1) = true
  · obtain ⟨j, hj, rfl, hjc⟩ := r_dv hs.1.1 hs.1.2.1 hc
    refine ⟨_, _, kX7_lifts hs.1.1 hs.1.2.1 hH h200, kX8_lifts hA2 (by omega) (by omega) hH2 h200 (j := j) (by have := hs.1.2.1; omega) (by rw [r_kd hs]; exact hc), ?_⟩
    rw [if_pos hc, hjc, r_lf h hs hj]
  · have hc' : q_win k 0 (σ 17 2 - 1) = false := by simpa using hc
    refine ⟨_, _, kX7_lifts hs.1.1 hs.1.2.1 hH h200, kX8_liftsB (by rw [r_kd hs]; exact hc'), ?_⟩
    rw [if_neg hc])
theorem r_jw {σ : q_M} (h : r_R σ) {N n : Nat} (hs : r_s σ 17 0 N n) {j : Nat} (hj : j < N) (b w dep : Int32) : qm_jw σ j b w dep = q_wt (σ 15 1) (σ 15 4) (σ 15 5) (σ (23 + j) 0 + σ (23 + j) 4) b w dep 0 := by
  have hd := (hs.2.2.2.2.2.2.2.1 j hj).1
  have e0 : σ 73 (8 * j + 0) = σ (23 + j) 0 := hd 0 (by decide)
  have e5 : σ 73 (8 * j + 5) = σ (23 + j) 4 := hd 5 (by decide)
  unfold qm_jw
  rw [h.w (r := 1) (by decide), h.w (r := 4) (by decide), h.w (r := 5) (by decide), e0, e5]
theorem r_hr {σ : q_M} (h : r_R σ) {N n : Nat} (hs : r_s σ 17 0 N n) {j : Nat} (hj : j < N) : ∀ m, m ≤ 24 → q_hrs σ (23 + j) m = qm_hr σ j m
  | 0, _ => rfl
  | m + 1, hm => by
    have ih := r_hr h hs hj m (by omega)
    have e1 : σ 73 (8 * j + 1) = σ (23 + j) 1 := (hs.2.2.2.2.2.2.2.1 j hj).1 1 (by decide)
    have elv : ∀ w d, q_lv σ (23 + j) w d = qm_lv σ j w d := fun w d => by
      cases d with
      | true =>
        show decide _ = decide _
        rw [r_jw h hs hj, e1, h.w (r := 0) (by decide)]
      | false =>
        show decide _ = decide _
        rw [r_jw h hs hj, e1]
    have z0 : ∀ s : Int32, (0 : Int32) <<< s = 0 := fun s => by simp
    rw [q_hrs, qm_hr, ih, (h.1.2 m (by omega)).1, elv]
    cases qm_lv σ j (σ 16 m) (qm_hr σ j m).1 <;> cases (qm_hr σ j m).1 <;> simp [q_b, q_t, z0]
theorem rE_hours {k w : Int32} : r_E YX7_hours YX8_hours [.int k, .int w] := r_E.ask (fun σ h => by
  obtain ⟨N, n, hs⟩ := h.m17
  obtain ⟨H, hH, h10, h200, hH2⟩ := r_wH h
  obtain ⟨A, hA, a1, a2, hA2⟩ := r_wA h
  by_cases hc : (q_win k 0 (σ 17 2 - 1) && q_win w 0 1) = true
  · have hc2 := hc
    rw [Bool.and_eq_true] at hc2
    obtain ⟨j, hj, rfl, hjc⟩ := r_dv hs.1.1 hs.1.2.1 hc2.1
    refine ⟨_, _, kX7_hours hs.1.1 hs.1.2.1, kX8_hours hA2 (by omega) (by omega) hH2 h200 (j := j) (by have := hs.1.2.1; omega) (by rw [r_kd hs]; exact hc2.1) hc2.2, ?_⟩
    rw [if_pos hc, hjc, r_hr h hs hj 24 (Nat.le_refl _)]
  · have hc' : (q_win k 0 (σ 17 2 - 1) && q_win w 0 1) = false := by simpa using hc
    refine ⟨_, _, kX7_hours hs.1.1 hs.1.2.1, kX8_hoursB (by rw [r_kd hs]; exact hc'), ?_⟩
    rw [if_neg hc])
theorem r_tr {σ : q_M} (h : r_R σ) {N n : Nat} (hs : r_s σ 17 0 N n) {j : Nat} (hj : j < N) : ∀ m i b, m + i = 999 → 0 ≤ b.toInt → b.toInt ≤ 9999 → q_trl σ (23 + j) m i b = qm_tr σ j m i b
  | 0, i, b, hi, _, _ => by
    rw [q_trl, qm_tr, show i = 999 by omega]
    rfl
  | m + 1, i, b, hi, h0, h1 => by
    have hb := (hs.2.2.2.2.2.2.2.1 j hj)
    have e2 : σ 73 (8 * j + 2) = σ (23 + j) 2 := hb.1 2 (by decide)
    have hl : 0 ≤ (σ (23 + j) 2).toInt ∧ (σ (23 + j) 2).toInt ≤ 99 := q_win_t hb.2.2.2.1
    have es : (b - σ (23 + j) 2).toInt = b.toInt - (σ (23 + j) 2).toInt := i_sub (by omega) (by omega)
    have z0 : (0 : Int32).toInt = 0 := rfl
    have el : q_max 0 (b - σ (23 + j) 2) = qm_lk b (σ (23 + j) 2) := by
      unfold q_max qm_lk
      by_cases c : b.toInt < (σ (23 + j) 2).toInt
      · rw [if_pos c, if_neg (by omega)]
      · rw [if_neg c]
        by_cases c2 : (0 : Int32).toInt < (b - σ (23 + j) 2).toInt
        · rw [if_pos c2]
        · rw [if_neg c2]
          apply i_ext
          omega
    have eb : 0 ≤ (qm_lk b (σ (23 + j) 2)).toInt ∧ (qm_lk b (σ (23 + j) 2)).toInt ≤ 9999 := by
      unfold qm_lk
      split
      · decide
      · omega
    rw [q_trl, qm_tr, e2, el, r_jw h hs hj, h.w (r := 0) (by decide), show σ 73 49 = σ 17 4 from hs.2.2.1.1, r_tr h hs hj m (i + 1) _ (by omega) eb.1 eb.2]
    by_cases c : 0 ≤ (q_wt (σ 15 1) (σ 15 4) (σ 15 5) (σ (23 + j) 0 + σ (23 + j) 4) (qm_lk b (σ (23 + j) 2)) (σ 17 4) (σ 15 0) 0).toInt
    · rw [if_pos c, if_neg (by omega)]
    · rw [if_neg c, if_pos (by omega)]
theorem rE_trips {k : Int32} : r_E YX7_trips YX8_trips [.int k] := r_E.ask (fun σ h => by
  obtain ⟨N, n, hs⟩ := h.m17
  obtain ⟨H, hH, h10, h200, hH2⟩ := r_wH h
  obtain ⟨A, hA, a1, a2, hA2⟩ := r_wA h
  by_cases hc : q_win k 0 (σ 17 2 - 1) = true
  · obtain ⟨j, hj, rfl, hjc⟩ := r_dv hs.1.1 hs.1.2.1 hc
    have hb := (r_mass hs hj).2.2.2
    have e1 : σ 73 (8 * j + 1) = σ (23 + j) 1 := (hs.2.2.2.2.2.2.2.1 j hj).1 1 (by decide)
    refine ⟨_, _, kX7_trips hs.1.1 hs.1.2.1, kX8_trips hA2 (by omega) (by omega) hH2 h200 (j := j) (by have := hs.1.2.1; omega) (by rw [r_kd hs]; exact hc), ?_⟩
    rw [if_pos hc, hjc, e1]
    exact r_tr h hs hj 999 0 _ (by omega) hb.1 hb.2
  · have hc' : q_win k 0 (σ 17 2 - 1) = false := by simpa using hc
    refine ⟨_, _, kX7_trips hs.1.1 hs.1.2.1, kX8_tripsB (by rw [r_kd hs]; exact hc'), ?_⟩
    rw [if_neg hc])
theorem q_allb_c {p q : Nat → Bool} : ∀ n, (∀ k, k < n → p k = q k) → q_allb p n = q_allb q n
  | 0, _ => rfl
  | n + 1, h => by rw [q_allb, q_allb, h n (by omega), q_allb_c n (fun k hk => h k (by omega))]
theorem r_sp {σ : q_M} (h : r_R σ) {N n : Nat} (hs : r_s σ 17 0 N n) {s : Nat} (hsn : s < n) : 0 < (σ 75 1 + σ 73 (55 + 3 * s) + σ 73 (55 + 3 * s + 1)).toInt := by
  obtain ⟨⟨a, b, -⟩, d, e, -⟩ := hs.2.2.2.2.2.2.2.2 s hsn
  have d' := q_win_t d
  have e' := q_win_t e
  have z0 : (0 : Int32).toInt = 0 := rfl
  have z5 : (500 : Int32).toInt = 500 := rfl
  have z2 : (200 : Int32).toInt = 200 := rfl
  rw [show σ 73 (55 + 3 * s) = σ (17 + 3) s from a, show σ 73 (55 + 3 * s + 1) = σ (17 + 4) s from b]
  exact r_pp h (by omega) (by omega) (by omega) (by omega)
theorem rE_who : r_E YX7_who YX8_who [] := r_E.ask (fun σ h => by
  obtain ⟨N, n, hs⟩ := h.m17
  have hn := hs.2.2.2.2.2.2.1
  refine ⟨_, _, kX7_who hs.1.1 hs.1.2.1 hn.1 hn.2.1, kX8_who hs.1.2.2 hs.1.2.1 hn.2.2 hn.2.1 (fun s hsn => r_sp h hs hsn), ?_⟩
  refine q_bits_c N (fun k hk => ?_)
  have hd := (hs.2.2.2.2.2.2.2.1 k hk).1
  have e0 : σ 73 (8 * k + 0) = σ (23 + k) 0 := hd 0 (by decide)
  have e5 : σ 73 (8 * k + 5) = σ (23 + k) 4 := hd 5 (by decide)
  have e1 : σ 73 (8 * k + 1) = σ (23 + k) 1 := hd 1 (by decide)
  unfold qm_ca
  refine q_allb_c n (fun i hi => ?_)
  obtain ⟨⟨a, b, c⟩, -⟩ := hs.2.2.2.2.2.2.2.2 i hi
  unfold q_cb qm_c1 q_Wc
  rw [e0, e5, e1, h.w (r := 1) (by decide), h.w (r := 4) (by decide), h.w (r := 5) (by decide), show σ 73 49 = σ 17 4 from hs.2.2.1.1, show σ 73 (55 + 3 * i) = σ 20 i from a, show σ 73 (55 + 3 * i + 1) = σ 21 i from b, show σ 73 (55 + 3 * i + 2) = σ 22 i from c])
