/-! calls that answer alike: images, sheets -/
section R73
variable {σ τ : q_M}
/-- a scene copied -/
theorem r_s.cpy {y oy N n x ox : Nat} (h : r_s σ y oy N n) (c2 : τ x 2 = nI N) (cf : ∀ k, 3 ≤ k → k < 8 → τ x k = σ y k) (cd : ∀ k, k < N → ∀ w, w < 8 → τ (x + 6 + k) w = σ (y + 6 + k) w) (cn : τ (x + 2) 3 = nI n) (c3 : ∀ i, i < n → τ (x + 3) i = σ (y + 3) i ∧ τ (x + 4) i = σ (y + 4) i ∧ τ (x + 5) i = σ (y + 5) i) (cm : ∀ k, k < 100 → τ 73 (k + ox) = σ 73 (k + oy)) (h15 : τ 15 0 = σ 15 0) : r_s τ x ox N n := by
  obtain ⟨a, b, c, d, e, f, g, i, j⟩ := h
  unfold r_s
  rw [cm 53 (by decide), cm 48 (by decide), cm 49 (by decide), cm 50 (by decide), cm 51 (by decide), cm 52 (by decide), cm 54 (by decide), cf 3 (by decide) (by decide), cf 4 (by decide) (by decide), cf 5 (by decide) (by decide), cf 6 (by decide) (by decide), cf 7 (by decide) (by decide)]
  refine ⟨⟨c2, a.2.1, a.2.2⟩, b, c, d, e, f, ⟨cn, g.2.1, g.2.2⟩, fun k hk => ⟨fun w hw => ?_, ?_⟩, fun k hk => ?_⟩
  · have h8 : ∀ w, w < 8 → rm_o w < 8 := by decide
    have := a.2.1
    rw [cm _ (by omega), cd k hk _ (h8 w hw)]
    exact (i k hk).1 w hw
  · unfold r_b
    rw [cd k hk 0 (by decide), cd k hk 1 (by decide), cd k hk 2 (by decide), cd k hk 3 (by decide), cd k hk 4 (by decide), cd k hk 5 (by decide), cd k hk 6 (by decide), cd k hk 7 (by decide), h15]
    exact (i k hk).2
  · have := g.2.1
    unfold r_n
    rw [cm _ (by omega), cm _ (by omega), cm _ (by omega), (c3 k hk).1, (c3 k hk).2.1, (c3 k hk).2.2]
    exact j k hk
theorem r_s.scn {y o N n : Nat} (h : r_s σ y o N n) : q_scn σ y N n := by
  obtain ⟨a, b, c, d, e, f, g, i, j⟩ := h
  exact ⟨a.1, a.2.1, fun k hk => (i k hk).2.2.2.2.2.2.2.2, g.1, g.2.1, fun k hk => (j k hk).2.2.2, e.2⟩
theorem q_ci_ne {x y N n b : Nat} (h : b < x ∨ x + 12 ≤ b) (hN : N ≤ 6) : q_ci σ x y N n b = σ b := by
  unfold q_ci
  rw [q_up_ne (by omega), q_up_ne (by omega), q_up_ne (by omega), q_up_ne (by omega), q_up_ne (by omega), q_cs_ne (by omega), q_cd_ne (by omega), q_up_ne (by omega)]
theorem q_ci_sc {x y N n : Nat} (hN : N ≤ 6) (hxy : x + 12 ≤ y ∨ y + 12 ≤ x) : q_ci σ x y N n x 2 = nI N ∧ (∀ k, 3 ≤ k → k < 8 → q_ci σ x y N n x k = σ y k) ∧ (∀ k, k < N → ∀ w, w < 8 → q_ci σ x y N n (x + 6 + k) w = σ (y + 6 + k) w) ∧ q_ci σ x y N n (x + 2) 3 = nI n ∧ ∀ i, i < n → q_ci σ x y N n (x + 3) i = σ (y + 3) i ∧ q_ci σ x y N n (x + 4) i = σ (y + 4) i ∧ q_ci σ x y N n (x + 5) i = σ (y + 5) i := by
  unfold q_ci
  refine ⟨?_, fun k h1 h2 => ?_, fun k hk w hw => ?_, ?_, fun i hi => ⟨?_, ?_, ?_⟩⟩
  · rw [q_up_f (by decide), q_up_f (by decide), q_up_f (by decide), q_up_f (by decide), q_up_f (by decide), q_cs_ne (by omega), q_cd_ne (by omega), q_up_at]
  · rcases (show k = 3 ∨ k = 4 ∨ k = 5 ∨ k = 6 ∨ k = 7 by omega) with rfl | rfl | rfl | rfl | rfl
    · rw [q_up_f (by decide), q_up_f (by decide), q_up_f (by decide), q_up_f (by decide), q_up_at]
    · rw [q_up_f (by decide), q_up_f (by decide), q_up_f (by decide), q_up_at]
    · rw [q_up_f (by decide), q_up_f (by decide), q_up_at]
    · rw [q_up_f (by decide), q_up_at]
    · rw [q_up_at]
  · rw [q_up_ne (by omega), q_up_ne (by omega), q_up_ne (by omega), q_up_ne (by omega), q_up_ne (by omega), q_cs_ne (by omega)]
    unfold q_cd
    rw [if_pos (by omega), show y + 6 + (x + 6 + k - (x + 6)) = y + 6 + k by omega]
    show (if w < 8 then _ else _) = _
    rw [if_pos hw, q_up_ne (by omega)]
  · rw [q_up_ne (by omega), q_up_ne (by omega), q_up_ne (by omega), q_up_ne (by omega), q_up_ne (by omega), q_cs_3]
  · rw [q_up_ne (by omega), q_up_ne (by omega), q_up_ne (by omega), q_up_ne (by omega), q_up_ne (by omega)]
    unfold q_cs
    rw [if_neg (by omega), if_pos (by omega)]
    show (if i < n then _ else _) = _
    rw [if_pos hi, show y + 2 + (x + 3 - (x + 2)) = y + 3 by omega, q_cd_ne (by omega), q_up_ne (by omega)]
  · rw [q_up_ne (by omega), q_up_ne (by omega), q_up_ne (by omega), q_up_ne (by omega), q_up_ne (by omega)]
    unfold q_cs
    rw [if_neg (by omega), if_pos (by omega)]
    show (if i < n then _ else _) = _
    rw [if_pos hi, show y + 2 + (x + 4 - (x + 2)) = y + 4 by omega, q_cd_ne (by omega), q_up_ne (by omega)]
  · rw [q_up_ne (by omega), q_up_ne (by omega), q_up_ne (by omega), q_up_ne (by omega), q_up_ne (by omega)]
    unfold q_cs
    rw [if_neg (by omega), if_pos (by omega)]
    show (if i < n then _ else _) = _
    rw [if_pos hi, show y + 2 + (x + 5 - (x + 2)) = y + 5 by omega, q_cd_ne (by omega), q_up_ne (by omega)]
theorem qm_cp_in {a b i k : Nat} (h : k < i) : qm_cp σ a b i 73 (k + a) = σ 73 (k + b) := by
  show (if a ≤ k + a ∧ k + a < a + i then σ 73 (b + (k + a - a)) else σ 73 (k + a)) = _
  rw [if_pos (by omega), show b + (k + a - a) = k + b by omega]
theorem qm_cp_out {a b i k : Nat} (h : k < a ∨ a + i ≤ k) : qm_cp σ a b i 73 k = σ 73 k := by
  show (if a ≤ k ∧ k < a + i then _ else σ 73 k) = _
  rw [if_neg (by omega)]
theorem qm_cp_ne {a b i x : Nat} (h : x ≠ 73) : qm_cp σ a b i x = σ x := if_neg h
end R73
theorem rE_keep {i : Int32} : r_E YX7_keep YX8_keep [.int i] := r_E.mk (fun σ h => by
  by_cases hc : q_win i 0 1 = true
  · obtain ⟨j, rfl, -, hj⟩ := q_win_n hc (by decide)
    have e1 : (1 : Int32).toInt = 1 := rfl
    have h2 : j < 2 := by omega
    obtain ⟨N, n, hs⟩ := h.m17
    have hN := hs.1.2.1
    have c1 := kX7_keep (σ := σ) h2 hs.scn
    have o : ∀ b, ¬ b = 30 → ¬ (31 + 12 * j ≤ b ∧ b < 43 + 12 * j) → q_up (q_ci σ (31 + 12 * j) 17 N n) 30 j 1 b = σ b := fun b a1 a2 => by rw [q_up_ne a1, q_ci_ne (by omega) hN]
    have m1 := kX8_keep (σ := q_up (q_ci σ (31 + 12 * j) 17 N n) 30 j 1) h2
    rw [o 74 (by omega) (by omega), (h.2.2.1 j h2).2.1] at m1
    refine ⟨_, _, _, c1, m1, ?_⟩
    have p : ∀ b, ¬ b = 73 → ¬ b = 74 → qm_cp (q_up (q_up (q_ci σ (31 + 12 * j) 17 N n) 30 j 1) 74 j 1) (100 * (j + 1)) 0 100 b = q_up (q_ci σ (31 + 12 * j) 17 N n) 30 j 1 b := fun b a1 a2 => by rw [qm_cp_ne a1, q_up_ne a2]
    have pm : ∀ k, q_up (q_up (q_ci σ (31 + 12 * j) 17 N n) 30 j 1) 74 j 1 73 k = σ 73 k := fun k => by rw [q_up_ne (by decide), o 73 (by omega) (by omega)]
    obtain ⟨a, -, c, d, e, f⟩ := h
    refine ⟨a.of ?_ ?_ ?_ ?_, ⟨N, n, hs.of (fun b h1 h2 => ?_) (fun k hk => ?_) ?_⟩, fun j' hj' => ?_, d.of ?_ ?_ ?_ ?_, e.of (fun b h1 h2 => ?_) ?_ ?_ ?_, f.of ?_ ?_ ?_⟩
    · rw [p 15 (by decide) (by decide), o 15 (by decide) (by omega)]
    · rw [p 16 (by decide) (by decide), o 16 (by decide) (by omega)]
    · rw [p 75 (by decide) (by decide), o 75 (by decide) (by omega)]
    · rw [p 76 (by decide) (by decide), o 76 (by decide) (by omega)]
    · rw [p b (by omega) (by omega), o b (by omega) (by omega)]
    · rw [qm_cp_out (by omega), pm]
    · rw [p 15 (by decide) (by decide), o 15 (by decide) (by omega)]
    · have h30 : qm_cp (q_up (q_up (q_ci σ (31 + 12 * j) 17 N n) 30 j 1) 74 j 1) (100 * (j + 1)) 0 100 30 j' = if j' = j then 1 else σ 30 j' := by
        rw [p 30 (by decide) (by decide)]
        by_cases z : j' = j
        · rw [if_pos z, z, q_up_at]
        · rw [if_neg z, q_up_f z, q_ci_ne (by omega) hN]
      have h74 : qm_cp (q_up (q_up (q_ci σ (31 + 12 * j) 17 N n) 30 j 1) 74 j 1) (100 * (j + 1)) 0 100 74 j' = if j' = j then 1 else σ 74 j' := by
        rw [qm_cp_ne (by decide)]
        by_cases z : j' = j
        · rw [if_pos z, z, q_up_at]
        · rw [if_neg z, q_up_f z, o 74 (by decide) (by omega)]
      rw [h30, h74]
      obtain ⟨i1, i2, i3⟩ := c j' hj'
      by_cases z : j' = j
      · subst z
        rw [if_pos rfl, if_pos rfl]
        refine ⟨Or.inr rfl, rfl, fun _ => ⟨N, n, ?_⟩⟩
        obtain ⟨q1, q2, q3, q4, q5⟩ := q_ci_sc (σ := σ) (x := 31 + 12 * j') (y := 17) (N := N) (n := n) hN (by omega)
        have pp : ∀ b, 31 ≤ b → b < 55 → qm_cp (q_up (q_up (q_ci σ (31 + 12 * j') 17 N n) 30 j' 1) 74 j' 1) (100 * (j' + 1)) 0 100 b = q_ci σ (31 + 12 * j') 17 N n b := fun b a1 a2 => by rw [p b (by omega) (by omega), q_up_ne (by omega)]
        refine hs.cpy (by rw [pp _ (by omega) (by omega)]; exact q1) (fun k a1 a2 => by rw [pp _ (by omega) (by omega)]; exact q2 k a1 a2) (fun k hk w hw => by rw [pp _ (by omega) (by omega)]; exact q3 k hk w hw) (by rw [pp _ (by omega) (by omega)]; exact q4) (fun i hi => by rw [pp _ (by omega) (by omega), pp _ (by omega) (by omega), pp _ (by omega) (by omega)]; exact q5 i hi) (fun k hk => by rw [qm_cp_in hk, pm]) (by rw [p 15 (by decide) (by decide), o 15 (by decide) (by omega)])
      · rw [if_neg z, if_neg z]
        refine ⟨i1, i2, fun z0 => ?_⟩
        obtain ⟨N', n', hs'⟩ := i3 z0
        exact ⟨N', n', hs'.of (fun b h1 h2 => by rw [p b (by omega) (by omega), o b (by omega) (by omega)]) (fun k hk => by rw [qm_cp_out (by omega), pm]) (by rw [p 15 (by decide) (by decide), o 15 (by decide) (by omega)])⟩
    · rw [p 1 (by decide) (by decide), o 1 (by decide) (by omega)]
    · rw [p 2 (by decide) (by decide), o 2 (by decide) (by omega)]
    · rw [p 72 (by decide) (by decide), o 72 (by decide) (by omega)]
    · rw [p 80 (by decide) (by decide), o 80 (by decide) (by omega)]
    · rw [p b (by omega) (by omega), o b (by omega) (by omega)]
    · rw [p 83 (by decide) (by decide), o 83 (by decide) (by omega)]
    · rw [p 84 (by decide) (by decide), o 84 (by decide) (by omega)]
    · rw [p 85 (by decide) (by decide), o 85 (by decide) (by omega)]
    · rw [p 72 (by decide) (by decide), o 72 (by decide) (by omega)]
    · rw [p 72 (by decide) (by decide), o 72 (by decide) (by omega)]
    · rw [p 0 (by decide) (by decide), o 0 (by decide) (by omega)]
  · have hc' : q_win i 0 1 = false := by simpa using hc
    exact ⟨_, _, _, kX7_keepB hc', kX8_keepB hc', h⟩)
theorem rE_restore {i : Int32} : r_E YX7_restore YX8_restore [.int i] := r_E.mk (fun σ h => by
  by_cases hc : q_win i 0 1 = true
  · obtain ⟨j, rfl, -, hj⟩ := q_win_n hc (by decide)
    have e1 : (1 : Int32).toInt = 1 := rfl
    have h2 : j < 2 := by omega
    obtain ⟨i1, i2, i3⟩ := h.2.2.1 j h2
    by_cases hk : σ 30 j = 0
    · exact ⟨_, _, _, kX7_restoreS h2 hk, kX8_restoreS h2 (i2.trans hk), h⟩
    · obtain ⟨N, n, hs⟩ := i3 hk
      have hN := hs.1.2.1
      have c1 := kX7_restore (σ := σ) h2 hk hs.scn
      have o : ∀ b, ¬ (17 ≤ b ∧ b < 29) → q_ci σ 17 (31 + 12 * j) N n b = σ b := fun b a => q_ci_ne (by omega) hN
      have m1 := kX8_restore (σ := q_ci σ 17 (31 + 12 * j) N n) h2 (by rw [o 74 (by decide), i2]; exact hk)
      rw [o 73 (by decide), show 100 * (j + 1) + 50 = 50 + 100 * (j + 1) by omega, show σ 73 (50 + 100 * (j + 1)) = σ (31 + 12 * j) 5 from hs.2.2.2.1] at m1
      refine ⟨_, _, _, c1, m1, ?_⟩
      obtain ⟨q1, q2, q3, q4, q5⟩ := q_ci_sc (σ := σ) (x := 17) (y := 31 + 12 * j) (N := N) (n := n) hN (by omega)
      have p : ∀ b, ¬ b = 73 → qm_cp (q_ci σ 17 (31 + 12 * j) N n) 0 (100 * (j + 1)) 100 b = q_ci σ 17 (31 + 12 * j) N n b := fun b a1 => qm_cp_ne a1
      refine h.sc (fun b h1 h2 => by rw [p b (by omega), o b h2]) (fun b h1 h2 _ _ => by rw [p b (by omega), o b (by omega)]) (fun k _ _ => by rw [qm_cp_out (by omega), o 73 (by decide)]) (fun k _ => by rw [p 72 (by decide), o 72 (by decide)]) ⟨N, n, hs.cpy (by rw [p _ (by decide)]; exact q1) (fun k a1 a2 => by rw [p _ (by decide)]; exact q2 k a1 a2) (fun k hk w hw => by rw [p _ (by omega)]; exact q3 k hk w hw) (by rw [p _ (by decide)]; exact q4) (fun i hi => by rw [p _ (by decide), p _ (by decide), p _ (by decide)]; exact q5 i hi) (fun k hk => by rw [qm_cp_in (a := 0) hk, o 73 (by decide)]) (by rw [p 15 (by decide), o 15 (by decide)])⟩
  · have hc' : q_win i 0 1 = false := by simpa using hc
    exact ⟨_, _, _, kX7_restoreB hc', kX8_restoreB hc', h⟩)
/-- one sheet changes -/
theorem r_R.sh {σ τ : q_M} (h : r_R σ) (h1 : ∀ b, b < 56 → τ b = σ b) (h2 : ∀ b, 72 ≤ b → b < 83 → τ b = σ b) (hh : r_h τ) : r_R τ := by
  obtain ⟨a, ⟨N, n, b⟩, c, d, -, f⟩ := h
  have m73 := h2 73 (by decide) (by decide)
  have m72 := h2 72 (by decide) (by decide)
  exact ⟨a.of (h1 _ (by decide)) (h1 _ (by decide)) (h2 _ (by decide) (by decide)) (h2 _ (by decide) (by decide)), ⟨N, n, b.of (fun b _ _ => h1 b (by omega)) (fun k _ => by rw [m73]) (by rw [h1 15 (by decide)])⟩, c.of (h1 _ (by decide)) (h2 _ (by decide) (by decide)) (fun b _ _ => h1 b (by omega)) (fun k _ _ => by rw [m73]) (by rw [h1 15 (by decide)]), d.of (by rw [h1 1 (by decide)]) (h1 _ (by decide)) (by rw [m72]) (h2 _ (by decide) (by decide)), hh, f.of (by rw [m72]) (by rw [m72]) (h1 0 (by decide))⟩
theorem rE_sheet {k l n : Int32} : r_E YX7_sheet YX8_sheet [.int k, .int l, .int n] := r_E.mk (fun σ h => by
  by_cases hc : (q_win k 0 3 && q_win l 0 2 && decide (n.toInt ≤ 40)) = true
  · rw [Bool.and_eq_true, Bool.and_eq_true] at hc
    have hn := of_decide_eq_true hc.2
    obtain ⟨j, rfl, -, hj⟩ := q_win_n hc.1.1 (by decide)
    have e3 : (3 : Int32).toInt = 3 := rfl
    have h4 : j < 4 := by omega
    have c1 := kX7_sheet (σ := σ) h4 hc.1.2 hn
    by_cases h0 : n.toInt < 0
    · rw [if_pos h0, if_pos h0] at c1
      have m1 := kX8_sheet (σ := σ) h4 hc.1.2 hn
      rw [if_pos h0, if_pos h0] at m1
      exact ⟨_, _, _, c1, m1, h⟩
    · rw [if_neg h0, if_neg h0] at c1
      have m1 := kX8_sheet (σ := q_fill (q_up (q_up σ (56 + 2 * j) 1 l) (56 + 2 * j) 2 (q_min n 40)) (57 + 2 * j) (fun _ => 0) 40) h4 hc.1.2 hn
      rw [if_neg h0, if_neg h0] at m1
      refine ⟨_, _, _, c1, m1, ?_⟩
      have e40 : (40 : Int32).toInt = 40 := rfl
      have em : q_min n 40 = n := if_neg (by omega)
      have p : ∀ b, ¬ (83 ≤ b ∧ b ≤ 85) → qm_zc (q_up (q_up (q_fill (q_up (q_up σ (56 + 2 * j) 1 l) (56 + 2 * j) 2 (q_min n 40)) (57 + 2 * j) (fun _ => 0) 40) 83 j l) 84 j n) j 40 b = q_fill (q_up (q_up σ (56 + 2 * j) 1 l) (56 + 2 * j) 2 (q_min n 40)) (57 + 2 * j) (fun _ => 0) 40 b := fun b hb => by
        show (if b = 85 then _ else q_up (q_up _ 83 j l) 84 j n b) = _
        rw [if_neg (by omega), q_up_ne (by omega), q_up_ne (by omega)]
      have o : ∀ b, ¬ (b = 56 + 2 * j ∨ b = 57 + 2 * j) → q_fill (q_up (q_up σ (56 + 2 * j) 1 l) (56 + 2 * j) 2 (q_min n 40)) (57 + 2 * j) (fun _ => 0) 40 b = σ b := fun b hb => by rw [q_fill_ne (by omega), q_up_ne (by omega), q_up_ne (by omega)]
      refine h.sh (fun b hb => by rw [p b (by omega), o b (by omega)]) (fun b h1 h2 => by rw [p b (by omega), o b (by omega)]) (fun i hi => ?_)
      obtain ⟨s1, s2, s3, s4⟩ := h.2.2.2.2.1 i hi
      have t83 : qm_zc (q_up (q_up (q_fill (q_up (q_up σ (56 + 2 * j) 1 l) (56 + 2 * j) 2 (q_min n 40)) (57 + 2 * j) (fun _ => 0) 40) 83 j l) 84 j n) j 40 83 i = if i = j then l else σ 83 i := by
        show q_up (q_up (q_fill (q_up (q_up σ (56 + 2 * j) 1 l) (56 + 2 * j) 2 (q_min n 40)) (57 + 2 * j) (fun _ => 0) 40) 83 j l) 84 j n 83 i = _
        rw [q_up_ne (by decide)]
        by_cases z : i = j
        · rw [if_pos z, z, q_up_at]
        · rw [if_neg z, q_up_f z, o 83 (by omega)]
      have t84 : qm_zc (q_up (q_up (q_fill (q_up (q_up σ (56 + 2 * j) 1 l) (56 + 2 * j) 2 (q_min n 40)) (57 + 2 * j) (fun _ => 0) 40) 83 j l) 84 j n) j 40 84 i = if i = j then n else σ 84 i := by
        show q_up (q_up (q_fill (q_up (q_up σ (56 + 2 * j) 1 l) (56 + 2 * j) 2 (q_min n 40)) (57 + 2 * j) (fun _ => 0) 40) 83 j l) 84 j n 84 i = _
        by_cases z : i = j
        · rw [if_pos z, z, q_up_at]
        · rw [if_neg z, q_up_f z, q_up_ne (by decide), o 84 (by omega)]
      have t85 : ∀ m, qm_zc (q_up (q_up (q_fill (q_up (q_up σ (56 + 2 * j) 1 l) (56 + 2 * j) 2 (q_min n 40)) (57 + 2 * j) (fun _ => 0) 40) 83 j l) 84 j n) j 40 85 m = if 40 * j ≤ m ∧ m < 40 * j + 40 then 0 else σ 85 m := fun m => by
        show (if 40 * j ≤ m ∧ m < 40 * j + 40 then 0 else q_up (q_up _ 83 j l) 84 j n 85 m) = _
        rw [q_up_ne (by decide), q_up_ne (by decide), o 85 (by omega)]
      rw [t83, t84, p (56 + 2 * i) (by omega), p (57 + 2 * i) (by omega)]
      by_cases z : i = j
      · subst z
        rw [if_pos rfl, if_pos rfl]
        have f1 : q_fill (q_up (q_up σ (56 + 2 * i) 1 l) (56 + 2 * i) 2 (q_min n 40)) (57 + 2 * i) (fun _ => 0) 40 (56 + 2 * i) 1 = l := by rw [q_fill_ne (by omega), q_up_f (by decide), q_up_at]
        have f2 : q_fill (q_up (q_up σ (56 + 2 * i) 1 l) (56 + 2 * i) 2 (q_min n 40)) (57 + 2 * i) (fun _ => 0) 40 (56 + 2 * i) 2 = n := by rw [q_fill_ne (by omega), q_up_at, em]
        rw [f1, f2]
        refine ⟨rfl, rfl, ⟨n.toInt.toNat, by omega, i_nI (by omega)⟩, fun m hm => ?_⟩
        rw [t85, if_pos (by omega), q_fill_lo hm]
      · rw [if_neg z, if_neg z, o (56 + 2 * i) (by omega), o (57 + 2 * i) (by omega)]
        refine ⟨s1, s2, s3, fun m hm => ?_⟩
        rw [t85, if_neg (by omega)]
        exact s4 m hm
  · have hc' : (q_win k 0 3 && q_win l 0 2 && decide (n.toInt ≤ 40)) = false := by simpa using hc
    exact ⟨_, _, _, kX7_sheetB hc', kX8_sheetB hc', h⟩)
theorem rE_lay {k i x : Int32} : r_E YX7_lay YX8_lay [.int k, .int i, .int x] := r_E.mk (fun σ h => by
  by_cases hc : q_win k 0 3 = true
  · obtain ⟨j, rfl, -, hj⟩ := q_win_n hc (by decide)
    have e3 : (3 : Int32).toInt = 3 := rfl
    have h4 : j < 4 := by omega
    obtain ⟨s1, s2, ⟨m, hm40, hm⟩, s4⟩ := h.2.2.2.2.1 j h4
    have c1 := kX7_lay (σ := σ) h4 (i := i) (x := x) hm hm40
    by_cases hl : σ (56 + 2 * j) 1 = -4
    · have hf : q_fa (σ (56 + 2 * j) 1) (σ (56 + 2 * j) 2) i = 1 := if_pos hl
      rw [hf, if_neg (by decide), if_neg (by decide)] at c1
      have m1 := kX8_lay (σ := σ) h4 (i := i) (x := x) (s2.trans hm) hm40
      rw [if_pos (s1.trans hl), if_pos (s1.trans hl)] at m1
      exact ⟨_, _, _, c1, m1, h⟩
    · by_cases hw : q_win i 0 (σ (56 + 2 * j) 2 - 1) = true
      · have hf : q_fa (σ (56 + 2 * j) 1) (σ (56 + 2 * j) 2) i = 0 := by
          unfold q_fa
          rw [if_neg hl, if_pos hw]
        rw [hf, if_pos rfl, if_pos rfl] at c1
        have m1 := kX8_lay (σ := q_up σ (57 + 2 * j) i.toNatClampNeg (q_cut (σ (56 + 2 * j) 1) x)) h4 (i := i) (x := x) (m := m) (by rw [q_up_ne (by omega)]; exact s2.trans hm) hm40
        rw [q_up_ne (by omega), q_up_ne (by omega), s1, s2, if_neg hl, if_pos hw, if_neg hl, if_pos hw] at m1
        refine ⟨_, _, _, c1, m1, ?_⟩
        have hi := q_win_t hw
        have e0 : (0 : Int32).toInt = 0 := rfl
        have e1 : (1 : Int32).toInt = 1 := rfl
        have hmt := nI_toInt (n := m) (by omega)
        rw [hm, i_sub (by omega) (by omega)] at hi
        have hic : i.toNatClampNeg < 40 := by
          show i.toInt.toNat < 40
          omega
        refine h.sh (fun b hb => by rw [q_up_ne (by omega), q_up_ne (by omega)]) (fun b h1 h2 => by rw [q_up_ne (by omega), q_up_ne (by omega)]) (fun q hq => ?_)
        obtain ⟨t1, t2, t3, t4⟩ := h.2.2.2.2.1 q hq
        rw [q_up_ne (by omega), q_up_ne (by omega), q_up_ne (by omega), q_up_ne (by omega), q_up_ne (by omega), q_up_ne (by omega)]
        refine ⟨t1, t2, t3, fun r hr => ?_⟩
        rw [q_up_ne (show 57 + 2 * q ≠ 85 by omega)]
        by_cases z : q = j ∧ r = i.toNatClampNeg
        · obtain ⟨rfl, rfl⟩ := z
          rw [q_up_at, q_up_at]
        · rw [q_up_f (by omega), q_up_ne (by omega)]
          by_cases z2 : q = j
          · subst z2
            rw [q_up_f (by omega)]
            exact t4 r hr
          · rw [q_up_ne (by omega)]
            exact t4 r hr
      · have hf : q_fa (σ (56 + 2 * j) 1) (σ (56 + 2 * j) 2) i = 2 := by
          unfold q_fa
          rw [if_neg hl, if_neg hw]
        rw [hf, if_neg (by decide), if_neg (by decide)] at c1
        have m1 := kX8_lay (σ := σ) h4 (i := i) (x := x) (s2.trans hm) hm40
        rw [s1, s2, if_neg hl, if_neg hw, if_neg hl, if_neg hw] at m1
        exact ⟨_, _, _, c1, m1, h⟩
  · have hc' : q_win k 0 3 = false := by simpa using hc
    exact ⟨_, _, _, kX7_layB hc', kX8_layB hc', h⟩)
