/-! go: tick for tick -/
def r_mx (C M : q_M) : q_M := fun b => if b < 72 then C b else M b
theorem r_mx_l {C M : q_M} {b : Nat} (h : b < 72) : r_mx C M b = C b := if_pos h
theorem r_mx_r {C M : q_M} {b : Nat} (h : 72 ≤ b) : r_mx C M b = M b := if_neg (by omega)
def r_X (C M : q_M) (N n : Nat) : Prop := r_w (r_mx C M) ∧ r_s (r_mx C M) 17 0 N n
theorem r_w.dg {σ : q_M} (h : r_w σ) : (1 ≤ (σ 15 3).toInt ∧ (σ 15 3).toInt ≤ 64) ∧ σ 75 3 = σ 15 3 := by
  have h1 := q_win_t (h.1 3 (by decide)).2
  have e1 : (q_tab 1 3).toInt = 1 := rfl
  have e2 : (q_tab 2 3).toInt = 64 := rfl
  exact ⟨by omega, (h.1 3 (by decide)).1⟩
theorem i_tdiv {a b : Int32} (ha : -1000000 ≤ a.toInt ∧ a.toInt ≤ 1000000) (hb : 1 ≤ b.toInt) : (a / b).toInt = a.toInt.tdiv b.toInt ∧ (0 ≤ a.toInt → 0 ≤ a.toInt.tdiv b.toInt ∧ a.toInt.tdiv b.toInt ≤ a.toInt) ∧ (a.toInt ≤ 0 → a.toInt ≤ a.toInt.tdiv b.toInt ∧ a.toInt.tdiv b.toInt ≤ 0) := by
  have p : 0 ≤ a.toInt → 0 ≤ a.toInt.tdiv b.toInt ∧ a.toInt.tdiv b.toInt ≤ a.toInt := fun h => by
    rw [Int.tdiv_eq_ediv_of_nonneg h]
    exact ⟨Int.ediv_nonneg h (by omega), Int.ediv_le_self _ h⟩
  have q : a.toInt ≤ 0 → a.toInt ≤ a.toInt.tdiv b.toInt ∧ a.toInt.tdiv b.toInt ≤ 0 := fun h => by
    have e : a.toInt.tdiv b.toInt = -((-a.toInt).tdiv b.toInt) := by rw [Int.neg_tdiv, Int.neg_neg]
    have h2 : 0 ≤ -a.toInt := by omega
    rw [e, Int.tdiv_eq_ediv_of_nonneg h2]
    have := Int.ediv_nonneg h2 (show 0 ≤ b.toInt by omega)
    have := Int.ediv_le_self b.toInt h2
    omega
  refine ⟨?_, p, q⟩
  rw [Int32.toInt_div]
  refine Int.bmod_eq_of_le ?_ ?_
  · rcases Int.le_total 0 a.toInt with z | z
    · have := p z; omega
    · have := q z; omega
  · rcases Int.le_total 0 a.toInt with z | z
    · have := p z; omega
    · have := q z; omega
theorem i_td64 {s d : Int} (hs : 0 ≤ s) (h1 : 1 ≤ d) (h2 : d ≤ 64) : s / 64 ≤ s / d := by
  rw [Int.le_ediv_iff_mul_le (by omega)]
  have q0 : 0 ≤ s / 64 := Int.ediv_nonneg hs (by decide)
  have := Int.mul_le_mul_of_nonneg_left h2 q0
  have := Int.ediv_mul_le s (show (64 : Int) ≠ 0 by decide)
  omega
theorem i_mp {p w drag : Int32} (hp : -400000 ≤ p.toInt ∧ p.toInt ≤ 400000) (hw : -5000 ≤ w.toInt ∧ w.toInt ≤ 5000) (hd : 1 ≤ drag.toInt ∧ drag.toInt ≤ 64) : -400000 ≤ (q_mp p w drag).toInt ∧ (q_mp p w drag).toInt ≤ 400000 := by
  have es : (p + w).toInt = p.toInt + w.toInt := i_add (by omega) (by omega)
  obtain ⟨t1, t2, t3⟩ := i_tdiv (a := p + w) (b := drag) (by omega) hd.1
  unfold q_mp
  rw [q_dc_pos (by omega)]
  rcases Int.le_total 0 (p + w).toInt with z | z
  · have k := t2 z
    have k2 := i_td64 z hd.1 hd.2
    rw [← Int.tdiv_eq_ediv_of_nonneg (b := drag.toInt) z] at k2
    rw [i_sub (by omega) (by omega), t1]
    omega
  · have k := t3 z
    have z2 : 0 ≤ -(p + w).toInt := by omega
    have k2 := i_td64 z2 hd.1 hd.2
    have e : (p + w).toInt.tdiv drag.toInt = -((-(p + w).toInt) / drag.toInt) := by
      rw [← Int.tdiv_eq_ediv_of_nonneg (b := drag.toInt) z2, Int.neg_tdiv, Int.neg_neg]
    rw [i_sub (by omega) (by omega), t1]
    omega
theorem i_mv {f p w drag fl : Int32} (hf : 0 ≤ f.toInt ∧ f.toInt ≤ fl.toInt) (hfl : 0 < fl.toInt ∧ fl.toInt ≤ 20000) (hp : -400000 ≤ p.toInt ∧ p.toInt ≤ 400000) (hw : -5000 ≤ w.toInt ∧ w.toInt ≤ 5000) (hd : 1 ≤ drag.toInt ∧ drag.toInt ≤ 64) : (0 ≤ (q_mv f p w drag fl).1.toInt ∧ (q_mv f p w drag fl).1.toInt ≤ fl.toInt) ∧ (-400000 ≤ (q_mv f p w drag fl).2.toInt ∧ (q_mv f p w drag fl).2.toInt ≤ 400000) := by
  have h := i_mp hp hw hd
  have e : (f + q_mp p w drag).toInt = f.toInt + (q_mp p w drag).toInt := i_add (by omega) (by omega)
  have z0 : (0 : Int32).toInt = 0 := rfl
  unfold q_mv
  split
  · show (0 ≤ (0 : Int32).toInt ∧ (0 : Int32).toInt ≤ fl.toInt) ∧ (-400000 ≤ (0 : Int32).toInt ∧ (0 : Int32).toInt ≤ 400000)
    omega
  · split
    · show (0 ≤ fl.toInt ∧ fl.toInt ≤ fl.toInt) ∧ (-400000 ≤ (0 : Int32).toInt ∧ (0 : Int32).toInt ≤ 400000)
      omega
    · show (0 ≤ (f + q_mp p w drag).toInt ∧ (f + q_mp p w drag).toInt ≤ fl.toInt) ∧ (-400000 ≤ (q_mp p w drag).toInt ∧ (q_mp p w drag).toInt ≤ 400000)
      omega
section R81
variable {C M C' M' : q_M} {N n j : Nat}
theorem r_stp (hX : r_X C M N n) (hj : j < N) {f p bu lo th fe : Int32} (c1 : ∀ b, b < 72 → ¬ b = 17 → ¬ b = 23 + j → C' b = C b) (c17 : ∀ k, ¬ k = 6 → ¬ k = 7 → C' 17 k = C 17 k) (c6 : C' 17 6 = fe) (c7 : C' 17 7 = th) (cd : ∀ w, w = 0 ∨ w = 2 ∨ w = 3 ∨ w = 7 → C' (23 + j) w = C (23 + j) w) (d1 : C' (23 + j) 1 = bu) (d4 : C' (23 + j) 4 = lo) (d5 : C' (23 + j) 5 = f) (d6 : C' (23 + j) 6 = p)
    (m1 : ∀ b, 74 ≤ b → M' b = M b) (m73 : ∀ k, ¬ (k = 8 * j + 1 ∨ k = 8 * j + 5 ∨ k = 8 * j + 6 ∨ k = 8 * j + 7 ∨ k = 51 ∨ k = 52) → M' 73 k = M 73 k) (e1 : M' 73 (8 * j + 1) = bu) (e5 : M' 73 (8 * j + 5) = lo) (e6 : M' 73 (8 * j + 6) = f) (e7 : M' 73 (8 * j + 7) = p) (e51 : M' 73 51 = th) (e52 : M' 73 52 = fe)
    (b1 : q_win bu 0 9999 = true) (b4 : q_win lo 0 999 = true) (b5 : 0 ≤ f.toInt ∧ f.toInt ≤ 64 * (C 15 0).toInt) (b6 : -400000 ≤ p.toInt ∧ p.toInt ≤ 400000) (b7 : th = 0 ∨ th = 1) : r_X C' M' N n := by
  obtain ⟨hw, hs⟩ := hX
  have hN : N ≤ 6 := hs.1.2.1
  have lo_ : ∀ b, b < 72 → ¬ b = 17 → ¬ b = 23 + j → r_mx C' M' b = r_mx C M b := fun b h1 h2 h3 => by rw [r_mx_l h1, r_mx_l h1, c1 b h1 h2 h3]
  have hi_ : ∀ b, 74 ≤ b → r_mx C' M' b = r_mx C M b := fun b h1 => by rw [r_mx_r (by omega), r_mx_r (by omega), m1 b h1]
  have x17 : ∀ k, ¬ k = 6 → ¬ k = 7 → r_mx C' M' 17 k = r_mx C M 17 k := fun k h1 h2 => by rw [r_mx_l (by decide), r_mx_l (by decide), c17 k h1 h2]
  have x73 : ∀ k, ¬ (k = 8 * j + 1 ∨ k = 8 * j + 5 ∨ k = 8 * j + 6 ∨ k = 8 * j + 7 ∨ k = 51 ∨ k = 52) → r_mx C' M' 73 k = r_mx C M 73 k := fun k hk => by rw [r_mx_r (by decide), r_mx_r (by decide), m73 k hk]
  refine ⟨hw.of (lo_ _ (by decide) (by decide) (by omega)) (lo_ _ (by decide) (by decide) (by omega)) (hi_ _ (by decide)) (hi_ _ (by decide)), ?_⟩
  obtain ⟨a, b, c, d, e, f', g, i, q⟩ := hs
  refine ⟨⟨?_, a.2.1, ?_⟩, ⟨?_, ?_⟩, ⟨?_, ?_⟩, ?_, ⟨?_, ?_⟩, ?_, ⟨?_, g.2.1, ?_⟩, fun k hk => ?_, fun k hk => ?_⟩
  · rw [x17 2 (by decide) (by decide)]; exact a.1
  · rw [x73 _ (by omega)]; exact a.2.2
  · rw [x73 _ (by omega), x17 3 (by decide) (by decide)]; exact b.1
  · rw [x17 3 (by decide) (by decide)]; exact b.2
  · rw [x73 _ (by omega), x17 4 (by decide) (by decide)]; exact c.1
  · rw [x17 4 (by decide) (by decide)]; exact c.2
  · rw [x73 _ (by omega), x17 5 (by decide) (by decide)]; exact d
  · rw [r_mx_r (by decide), r_mx_l (by decide), c7]; exact e51
  · rw [r_mx_l (by decide), c7]; exact b7
  · rw [r_mx_r (by decide), r_mx_l (by decide), c6]; exact e52
  · rw [lo_ _ (by decide) (by decide) (by omega)]; exact g.1
  · rw [x73 _ (by omega)]; exact g.2.2
  · by_cases hkj : k = j
    · subst hkj
      have cell : ∀ w, r_mx C' M' (17 + 6 + k) w = C' (23 + k) w := fun w => by rw [r_mx_l (by omega)]
      have ik := i k hk
      have cell0 : ∀ w, r_mx C M (17 + 6 + k) w = C (23 + k) w := fun w => by rw [r_mx_l (by omega)]
      refine ⟨fun w hw8 => ?_, ?_⟩
      · rw [cell, Nat.add_zero]
        have i0 : ∀ w, w < 8 → r_mx C M 73 (8 * k + w) = C (23 + k) (rm_o w) := fun w hw => by rw [← cell0]; exact ik.1 w hw
        rcases (show w = 0 ∨ w = 1 ∨ w = 2 ∨ w = 3 ∨ w = 4 ∨ w = 5 ∨ w = 6 ∨ w = 7 by omega) with rfl | rfl | rfl | rfl | rfl | rfl | rfl | rfl
        · rw [x73 _ (by omega), i0 0 (by decide)]
          exact (cd 0 (by decide)).symm
        · rw [r_mx_r (by decide), e1]
          exact d1.symm
        · rw [x73 _ (by omega), i0 2 (by decide)]
          exact (cd 2 (by decide)).symm
        · rw [x73 _ (by omega), i0 3 (by decide)]
          exact (cd 3 (by decide)).symm
        · rw [x73 _ (by omega), i0 4 (by decide)]
          exact (cd 7 (by decide)).symm
        · rw [r_mx_r (by decide), e5]
          exact d4.symm
        · rw [r_mx_r (by decide), e6]
          exact d5.symm
        · rw [r_mx_r (by decide), e7]
          exact d6.symm
      · unfold r_b
        rw [cell, cell, cell, cell, cell, cell, cell, cell, cd 0 (by decide), cd 2 (by decide), cd 3 (by decide), cd 7 (by decide), d1, d4, d5, d6, r_mx_l (show 15 < 72 by decide), c1 15 (by decide) (by decide) (by omega), ← cell0, ← cell0, ← cell0, ← cell0]
        exact ⟨ik.2.1, b1, ik.2.2.2.1, ik.2.2.2.2.1, b4, b5, b6, ik.2.2.2.2.2.2.2.2⟩
    · have ik := i k hk
      refine ⟨fun w hw8 => ?_, ik.2.of (lo_ _ (by omega) (by omega) (by omega)) (by rw [lo_ 15 (by decide) (by decide) (by omega)])⟩
      rw [x73 _ (by omega), lo_ _ (by omega) (by omega) (by omega)]
      exact ik.1 w hw8
  · have hg := g.2.1
    unfold r_n
    rw [x73 _ (by omega), x73 _ (by omega), x73 _ (by omega), lo_ (17 + 3) (by omega) (by omega) (by omega), lo_ (17 + 4) (by omega) (by omega) (by omega), lo_ (17 + 5) (by omega) (by omega) (by omega)]
    exact q k hk
theorem r_md (hX : r_X C M N n) (hj : j < N) : r_X (q_md C (23 + j)) (q_tm M j) N n := by
  have hX0 := hX
  obtain ⟨hw, hs⟩ := hX
  have hN : N ≤ 6 := hs.1.2.1
  have hdj := hs.2.2.2.2.2.2.2.1 j hj
  have l : ∀ b, b < 72 → r_mx C M b = C b := fun b h => r_mx_l h
  have r : ∀ b, 72 ≤ b → r_mx C M b = M b := fun b h => r_mx_r h
  have wr : ∀ k, k < 7 → M 75 k = C 15 k := fun k hk => by rw [← r 75 (by decide), ← l 15 (by decide)]; exact (hw.1 k hk).1
  have wb : ∀ k, k < 7 → (q_tab 1 k).toInt ≤ (C 15 k).toInt ∧ (C 15 k).toInt ≤ (q_tab 2 k).toInt := fun k hk => by rw [← l 15 (by decide)]; exact q_win_t (hw.1 k hk).2
  have dv : ∀ w, w < 8 → M 73 (8 * j + w) = C (23 + j) (rm_o w) := fun w hw8 => by
    rw [← r 73 (by decide), ← l (23 + j) (by omega)]
    exact hdj.1 w hw8
  have hb : r_b C (23 + j) := hdj.2.of (l (17 + 6 + j) (by omega)).symm (by rw [l 15 (by decide)])
  obtain ⟨v0, v1, v2, v3, v4, v5, v6, v7⟩ := hb
  have g0 : 10 ≤ (C 15 0).toInt ∧ (C 15 0).toInt ≤ 200 := wb 0 (by decide)
  have g1 : 800 ≤ (C 15 1).toInt ∧ (C 15 1).toInt ≤ 1200 := wb 1 (by decide)
  have g3 : 1 ≤ (C 15 3).toInt ∧ (C 15 3).toInt ≤ 64 := wb 3 (by decide)
  have g5 : 0 ≤ (C 15 5).toInt ∧ (C 15 5).toInt ≤ 99 := wb 5 (by decide)
  have g6 : 0 ≤ (C 15 6).toInt ∧ (C 15 6).toInt ≤ 999 := wb 6 (by decide)
  have k0 : 1 ≤ (C (23 + j) 0).toInt ∧ (C (23 + j) 0).toInt ≤ 999 := q_win_t v0
  have k1 : 0 ≤ (C (23 + j) 1).toInt ∧ (C (23 + j) 1).toInt ≤ 9999 := q_win_t v1
  have k2 : 0 ≤ (C (23 + j) 2).toInt ∧ (C (23 + j) 2).toInt ≤ 99 := q_win_t v2
  have k4 : 0 ≤ (C (23 + j) 4).toInt ∧ (C (23 + j) 4).toInt ≤ 999 := q_win_t v4
  have th : M 73 48 = C 17 3 := by rw [← r 73 (by decide), ← l 17 (by decide)]; exact hs.2.1.1
  have wm : M 73 49 = C 17 4 := by rw [← r 73 (by decide), ← l 17 (by decide)]; exact hs.2.2.1.1
  have e51 : M 73 51 = C 17 7 := by rw [← r 73 (by decide), ← l 17 (by decide)]; exact hs.2.2.2.2.1.1
  have e52 : M 73 52 = C 17 6 := by rw [← r 73 (by decide), ← l 17 (by decide)]; exact hs.2.2.2.2.2.1
  have c01 : C 17 7 = 0 ∨ C 17 7 = 1 := by have := hs.2.2.2.2.1.2; rw [l 17 (by decide)] at this; exact this
  have kth : 0 ≤ (C 17 3).toInt ∧ (C 17 3).toInt ≤ 500 := by have := q_win_t hs.2.1.2; rw [l 17 (by decide)] at this; exact this
  have kwm : 250 ≤ (C 17 4).toInt ∧ (C 17 4).toInt ≤ 350 := by have := q_win_t hs.2.2.1.2; rw [l 17 (by decide)] at this; exact this
  have z64 : (64 : Int32).toInt = 64 := rfl
  have z0 : (0 : Int32).toInt = 0 := rfl
  have e64 : (C 15 0 * 64).toInt = 64 * (C 15 0).toInt := by rw [i_mul (by rw [z64]; omega) (by rw [z64]; omega), z64, Int.mul_comm]
  have edc : q_dc (C (23 + j) 5) 64 = C (23 + j) 5 / 64 := q_dc_pos (by decide)
  have ed5 : (C (23 + j) 5 / 64).toInt = (C (23 + j) 5).toInt / 64 := by rw [i_div (by omega) (by decide), z64]
  have em : (C (23 + j) 0 + C (23 + j) 4).toInt = (C (23 + j) 0).toInt + (C (23 + j) 4).toInt := i_add (by omega) (by omega)
  -- both move alike
  have emv : q_mvt M j = q_mvd C (23 + j) := by
    unfold q_mvt q_mvd q_mw q_Wc
    rw [show M 73 (8 * j + 6) = C (23 + j) 5 from dv 6 (by decide), show M 73 (8 * j + 7) = C (23 + j) 6 from dv 7 (by decide), show M 73 (8 * j + 0) = C (23 + j) 0 from dv 0 (by decide), show M 73 (8 * j + 5) = C (23 + j) 4 from dv 5 (by decide), show M 73 (8 * j + 1) = C (23 + j) 1 from dv 1 (by decide), wr 0 (by decide), wr 1 (by decide), wr 3 (by decide), wr 4 (by decide), wr 5 (by decide), th, wm, edc, Int32.mul_comm 64]
  have hl := i_lt0 (dep := C (23 + j) 5 / 64) (s := C 15 4) g5
  obtain ⟨w1, w2, w3⟩ := i_wt (a := C 15 1) (s := C 15 4) (m := C 15 5) (mass := C (23 + j) 0 + C (23 + j) 4) (b := C (23 + j) 1) (w := C 17 4) (dep := C (23 + j) 5 / 64) (th := C 17 3) g1 g5 (by omega) k1 kwm (by omega) kth
  have hmv := i_mv (f := C (23 + j) 5) (p := C (23 + j) 6) (w := q_Wc C (23 + j) (q_dc (C (23 + j) 5) 64) (C 17 3)) (drag := C 15 3) (fl := C 15 0 * 64) (by omega) (by omega) v6 (by rw [edc]; unfold q_Wc; omega) g3
  have hmv2 : (0 ≤ (q_mvd C (23 + j)).1.toInt ∧ (q_mvd C (23 + j)).1.toInt ≤ 64 * (C 15 0).toInt) ∧ (-400000 ≤ (q_mvd C (23 + j)).2.toInt ∧ (q_mvd C (23 + j)).2.toInt ≤ 400000) := by
    rw [← e64]
    exact hmv
  have o6 : M 73 (8 * j + 6) = C (23 + j) 5 := dv 6 (by decide)
  -- the leak
  have elk : q_lk0 M j = q_max 0 (C (23 + j) 1 - C (23 + j) 2) := by
    have es : (C (23 + j) 1 - C (23 + j) 2).toInt = (C (23 + j) 1).toInt - (C (23 + j) 2).toInt := i_sub (by omega) (by omega)
    unfold q_lk0
    rw [show M 73 (8 * j + 1) = C (23 + j) 1 from dv 1 (by decide), show M 73 (8 * j + 2) = C (23 + j) 2 from dv 2 (by decide)]
    unfold q_max
    by_cases c : (C (23 + j) 1 - C (23 + j) 2).toInt < 0
    · rw [if_pos c, if_neg (by omega)]
    · rw [if_neg c]
      by_cases c2 : (0 : Int32).toInt < (C (23 + j) 1 - C (23 + j) 2).toInt
      · rw [if_pos c2]
      · rw [if_neg c2]
        exact i_ext (by omega)
  have blk : q_win (q_max 0 (C (23 + j) 1 - C (23 + j) 2)) 0 9999 = true := by
    have es : (C (23 + j) 1 - C (23 + j) 2).toInt = (C (23 + j) 1).toInt - (C (23 + j) 2).toInt := i_sub (by omega) (by omega)
    refine decide_eq_true ?_
    have z9 : (9999 : Int32).toInt = 9999 := rfl
    rw [i_max, es, z0, z9]
    omega
  have wok : q_win (C 15 6) 0 999 = true := decide_eq_true (by have z9 : (999 : Int32).toInt = 999 := rfl; omega)
  have mmo : ∀ b, ¬ b = 23 + j → q_mm C (23 + j) b = C b := fun b hb => by unfold q_mm; rw [q_up_ne hb, q_up_ne hb]
  have mmd : ∀ w, ¬ w = 5 → ¬ w = 6 → q_mm C (23 + j) (23 + j) w = C (23 + j) w := fun w h1 h2 => by unfold q_mm; rw [q_up_f h2, q_up_f h1]
  have mm5 : q_mm C (23 + j) (23 + j) 5 = (q_mvd C (23 + j)).1 := by unfold q_mm; rw [q_up_f (by decide), q_up_at]
  have mm6 : q_mm C (23 + j) (23 + j) 6 = (q_mvd C (23 + j)).2 := by unfold q_mm; rw [q_up_at]
  have m2o : ∀ b, 74 ≤ b → q_m2 M j b = M b := fun b hb => by unfold q_m2; rw [q_up_ne (by omega), q_up_ne (by omega), q_up_ne (by omega), q_up_ne (by omega)]
  have m2k : ∀ k, ¬ k = 8 * j + 6 → ¬ k = 8 * j + 7 → q_m2 M j 73 k = M 73 k := fun k h1 h2 => by unfold q_m2; rw [q_up_f h2, q_up_f h1, q_up_ne (by decide), q_up_ne (by decide)]
  have m26 : q_m2 M j 73 (8 * j + 6) = (q_mvd C (23 + j)).1 := by unfold q_m2; rw [q_up_f (by omega), q_up_at, emv]
  have m27 : q_m2 M j 73 (8 * j + 7) = (q_mvd C (23 + j)).2 := by unfold q_m2; rw [q_up_at, emv]
  have e4 : M 73 (8 * j + 4) = C (23 + j) 7 := dv 4 (by decide)
  have e1 : M 73 (8 * j + 1) = C (23 + j) 1 := dv 1 (by decide)
  have e5 : M 73 (8 * j + 5) = C (23 + j) 4 := dv 5 (by decide)
  -- nothing but the move
  have plain : q_md C (23 + j) = q_mm C (23 + j) → q_tm M j = q_m2 M j → r_X (q_md C (23 + j)) (q_tm M j) N n := fun q1 q2 => by
    rw [q1, q2]
    exact r_stp hX0 hj (fun b _ _ h3 => mmo b h3) (fun k _ _ => by rw [mmo 17 (by omega)]) (by rw [mmo 17 (by omega)]) (by rw [mmo 17 (by omega)]) (fun w hw => mmd w (by omega) (by omega)) (mmd 1 (by decide) (by decide)) (mmd 4 (by decide) (by decide)) mm5 mm6 m2o (fun k hk => m2k k (by omega) (by omega)) (by rw [m2k _ (by omega) (by omega)]; exact e1) (by rw [m2k _ (by omega) (by omega)]; exact e5) m26 m27 (by rw [m2k _ (by omega) (by omega)]; exact e51) (by rw [m2k _ (by omega) (by omega)]; exact e52) v1 v4 hmv2.1 hmv2.2 c01
  have efl : 64 * M 75 0 = C 15 0 * 64 := by rw [wr 0 (by decide), Int32.mul_comm]
  have fl0 : ¬ C 15 0 * 64 = 0 := fun q => by
    have := congrArg Int32.toInt q
    omega
  by_cases h1 : (q_mvd C (23 + j)).1 = C (23 + j) 5
  · refine plain (if_pos h1) ?_
    have n1 : ¬ ((q_mvt M j).1 = 64 * M 75 0 ∧ ¬ M 73 (8 * j + 6) = (q_mvt M j).1) := by
      rw [emv, o6, h1]
      exact fun z => z.2 rfl
    have ea : q_ma M j = q_m2 M j := if_neg n1
    have n2 : ¬ ((q_mvt M j).1 = 0 ∧ ¬ M 73 (8 * j + 6) = 0 ∧ 0 < (q_ma M j 73 (8 * j + 5)).toInt) := by
      rw [emv, o6, h1]
      exact fun z => z.2.1 z.1
    exact (if_neg n2).trans ea
  · by_cases h2 : (q_mvd C (23 + j)).1 = C 15 0 * 64
    · have h3 : ¬ (q_mvd C (23 + j)).1 = 0 := by rw [h2]; exact fl0
      have q1 : q_md C (23 + j) = q_cf (q_mm C (23 + j)) (23 + j) := by
        unfold q_md
        rw [if_neg h1, if_pos h2, if_neg h3]
      have n1 : (q_mvt M j).1 = 64 * M 75 0 ∧ ¬ M 73 (8 * j + 6) = (q_mvt M j).1 := by
        rw [emv, o6, efl]
        exact ⟨h2, fun z => h1 z.symm⟩
      have ea : q_ma M j = q_fl3 M j := if_pos n1
      have n2 : ¬ ((q_mvt M j).1 = 0 ∧ ¬ M 73 (8 * j + 6) = 0 ∧ 0 < (q_ma M j 73 (8 * j + 5)).toInt) := by
        rw [emv]
        exact fun z => h3 z.1
      have q2 : q_tm M j = q_fl3 M j := (if_neg n2).trans ea
      rw [q1, q2]
      by_cases hk : C (23 + j) 7 = 0 ∨ C 17 7 = 0
      · have q3 : q_cf (q_mm C (23 + j)) (23 + j) = q_up (q_mm C (23 + j)) (23 + j) 1 (q_max 0 (C (23 + j) 1 - C (23 + j) 2)) := by
          unfold q_cf
          rw [mmd 7 (by decide) (by decide), mmo 17 (by omega), if_pos hk, mmd 1 (by decide) (by decide), mmd 2 (by decide) (by decide)]
        have n3 : ¬ (M 73 (8 * j + 4) = 1 ∧ M 73 51 = 1) := by
          rw [e4, e51]
          rintro ⟨z1, z2⟩
          rcases hk with z | z
          · rw [z] at z1; exact absurd z1 (by decide)
          · rw [z] at z2; exact absurd z2 (by decide)
        have q4 : q_fl3 M j = q_up (q_m2 M j) 73 (8 * j + 1) (q_lk0 M j) := if_neg n3
        rw [q3, q4, elk]
        exact r_stp hX0 hj (fun b _ _ h3 => by rw [q_up_ne h3, mmo b h3]) (fun k _ _ => by rw [q_up_ne (by omega), mmo 17 (by omega)]) (by rw [q_up_ne (by omega), mmo 17 (by omega)]) (by rw [q_up_ne (by omega), mmo 17 (by omega)]) (fun w hw => by rw [q_up_f (by omega), mmd w (by omega) (by omega)]) (q_up_at _ _ _ _) (by rw [q_up_f (by decide), mmd 4 (by decide) (by decide)]) (by rw [q_up_f (by decide), mm5]) (by rw [q_up_f (by decide), mm6]) (fun b hb => by rw [q_up_ne (by omega), m2o b hb]) (fun k hk => by rw [q_up_f (by omega), m2k k (by omega) (by omega)]) (q_up_at _ _ _ _) (by rw [q_up_f (by omega), m2k _ (by omega) (by omega)]; exact e5) (by rw [q_up_f (by omega), m26]) (by rw [q_up_f (by omega), m27]) (by rw [q_up_f (by omega), m2k _ (by omega) (by omega)]; exact e51) (by rw [q_up_f (by omega), m2k _ (by omega) (by omega)]; exact e52) blk v4 hmv2.1 hmv2.2 c01
      · have hk7 : C (23 + j) 7 = 1 := v7.resolve_left (fun z => hk (Or.inl z))
        have hk17 : C 17 7 = 1 := c01.resolve_left (fun z => hk (Or.inr z))
        have q3 : q_cf (q_mm C (23 + j)) (23 + j) = q_up (q_up (q_up (q_mm C (23 + j)) (23 + j) 1 (q_max 0 (C (23 + j) 1 - C (23 + j) 2))) (23 + j) 4 (C 15 6)) 17 7 0 := by
          unfold q_cf
          rw [mmd 7 (by decide) (by decide), mmo 17 (by omega), if_neg hk, mmd 1 (by decide) (by decide), mmd 2 (by decide) (by decide), mmo 15 (by omega)]
        have n3 : M 73 (8 * j + 4) = 1 ∧ M 73 51 = 1 := by
          rw [e4, e51]
          exact ⟨hk7, hk17⟩
        have q4 : q_fl3 M j = q_up (q_up (q_up (q_m2 M j) 73 (8 * j + 1) (q_lk0 M j)) 73 (8 * j + 5) (M 75 6)) 73 51 0 := if_pos n3
        rw [q3, q4, elk, wr 6 (by decide)]
        exact r_stp hX0 hj (fun b _ h2 h3 => by rw [q_up_ne h2, q_up_ne h3, q_up_ne h3, mmo b h3]) (fun k _ h7 => by rw [q_up_f h7, q_up_ne (by omega), q_up_ne (by omega), mmo 17 (by omega)]) (by rw [q_up_f (by decide), q_up_ne (by omega), q_up_ne (by omega), mmo 17 (by omega)]) (q_up_at _ _ _ _) (fun w hw => by rw [q_up_ne (by omega), q_up_f (by omega), q_up_f (by omega), mmd w (by omega) (by omega)]) (by rw [q_up_ne (by omega), q_up_f (by decide), q_up_at]) (by rw [q_up_ne (by omega), q_up_at]) (by rw [q_up_ne (by omega), q_up_f (by decide), q_up_f (by decide), mm5]) (by rw [q_up_ne (by omega), q_up_f (by decide), q_up_f (by decide), mm6]) (fun b hb => by rw [q_up_ne (by omega), q_up_ne (by omega), q_up_ne (by omega), m2o b hb]) (fun k hk => by rw [q_up_f (by omega), q_up_f (by omega), q_up_f (by omega), m2k k (by omega) (by omega)]) (by rw [q_up_f (by omega), q_up_f (by omega), q_up_at]) (by rw [q_up_f (by omega), q_up_at]) (by rw [q_up_f (by omega), q_up_f (by omega), q_up_f (by omega), m26]) (by rw [q_up_f (by omega), q_up_f (by omega), q_up_f (by omega), m27]) (q_up_at _ _ _ _) (by rw [q_up_f (by omega), q_up_f (by omega), q_up_f (by omega), m2k _ (by omega) (by omega)]; exact e52) blk wok hmv2.1 hmv2.2 (Or.inl rfl)
    · have n1 : ¬ ((q_mvt M j).1 = 64 * M 75 0 ∧ ¬ M 73 (8 * j + 6) = (q_mvt M j).1) := by
        rw [emv, efl]
        exact fun z => h2 z.1
      have ea : q_ma M j = q_m2 M j := if_neg n1
      by_cases h3 : (q_mvd C (23 + j)).1 = 0
      · have q1 : q_md C (23 + j) = q_ctp (q_mm C (23 + j)) (23 + j) := by
          unfold q_md
          rw [if_neg h1, if_neg h2, if_pos h3]
        have em5 : q_ma M j 73 (8 * j + 5) = C (23 + j) 4 := by rw [ea, m2k _ (by omega) (by omega)]; exact e5
        by_cases hl0 : C (23 + j) 4 = 0
        · refine plain (q1.trans ?_) ?_
          · unfold q_ctp
            rw [mmd 4 (by decide) (by decide), if_pos hl0]
          · have n2 : ¬ ((q_mvt M j).1 = 0 ∧ ¬ M 73 (8 * j + 6) = 0 ∧ 0 < (q_ma M j 73 (8 * j + 5)).toInt) := by
              rw [em5, hl0]
              exact fun z => absurd z.2.2 (by decide)
            exact (if_neg n2).trans ea
        · have hl1 : 0 < (C (23 + j) 4).toInt := by
            rcases Int.lt_or_le 0 (C (23 + j) 4).toInt with z | z
            · exact z
            · exact absurd (i_ext (by omega)) hl0
          have q3 : q_ctp (q_mm C (23 + j)) (23 + j) = q_up (q_up (q_mm C (23 + j)) (23 + j) 4 0) 17 6 (C 17 6 + 1) := by
            unfold q_ctp
            rw [mmd 4 (by decide) (by decide), if_neg hl0, mmo 17 (by omega)]
          have n2 : (q_mvt M j).1 = 0 ∧ ¬ M 73 (8 * j + 6) = 0 ∧ 0 < (q_ma M j 73 (8 * j + 5)).toInt := by
            rw [emv, o6, em5]
            exact ⟨h3, fun z => h1 (h3.trans z.symm), hl1⟩
          have q2 : q_tm M j = q_up (q_up (q_m2 M j) 73 (8 * j + 5) 0) 73 52 (C 17 6 + 1) := by
            have : q_tm M j = q_tp (q_ma M j) j := if_pos n2
            rw [this, ea]
            unfold q_tp
            rw [m2k 52 (by omega) (by omega), e52]
          rw [q1, q3, q2]
          exact r_stp hX0 hj (fun b _ h2 h3 => by rw [q_up_ne h2, q_up_ne h3, mmo b h3]) (fun k h6 _ => by rw [q_up_f h6, q_up_ne (by omega), mmo 17 (by omega)]) (q_up_at _ _ _ _) (by rw [q_up_f (by decide), q_up_ne (by omega), mmo 17 (by omega)]) (fun w hw => by rw [q_up_ne (by omega), q_up_f (by omega), mmd w (by omega) (by omega)]) (by rw [q_up_ne (by omega), q_up_f (by decide), mmd 1 (by decide) (by decide)]) (by rw [q_up_ne (by omega), q_up_at]) (by rw [q_up_ne (by omega), q_up_f (by decide), mm5]) (by rw [q_up_ne (by omega), q_up_f (by decide), mm6]) (fun b hb => by rw [q_up_ne (by omega), q_up_ne (by omega), m2o b hb]) (fun k hk => by rw [q_up_f (by omega), q_up_f (by omega), m2k k (by omega) (by omega)]) (by rw [q_up_f (by omega), q_up_f (by omega), m2k _ (by omega) (by omega)]; exact e1) (by rw [q_up_f (by omega), q_up_at]) (by rw [q_up_f (by omega), q_up_f (by omega), m26]) (by rw [q_up_f (by omega), q_up_f (by omega), m27]) (by rw [q_up_f (by omega), q_up_f (by omega), m2k _ (by omega) (by omega)]; exact e51) (q_up_at _ _ _ _) v1 (by decide) hmv2.1 hmv2.2 c01
      · refine plain ?_ ?_
        · unfold q_md
          rw [if_neg h1, if_neg h2, if_neg h3]
        · have n2 : ¬ ((q_mvt M j).1 = 0 ∧ ¬ M 73 (8 * j + 6) = 0 ∧ 0 < (q_ma M j 73 (8 * j + 5)).toInt) := by
            rw [emv]
            exact fun z => h3 z.1
          exact (if_neg n2).trans ea
end R81
