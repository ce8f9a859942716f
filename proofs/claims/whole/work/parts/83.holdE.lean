/-! hold, late, step: tick for tick -/
theorem i_tt {th s g st : Int32} (h : 0 ≤ th.toInt ∧ th.toInt ≤ 500) (hs : 1 ≤ st.toInt ∧ st.toInt ≤ 50) : q_tt th s g st = qm_t2 (th + qm_t0 s g st) := by
  have z0 : (0 : Int32).toInt = 0 := rfl
  have z5 : (500 : Int32).toInt = 500 := rfl
  unfold q_tt qm_t0
  by_cases c1 : s.toInt < g.toInt
  · rw [if_pos c1, if_pos c1]
    have e : (th + st).toInt = th.toInt + st.toInt := i_add (by omega) (by omega)
    unfold qm_t2 q_min
    rw [if_neg (show ¬ (th + st).toInt < 0 by omega)]
    by_cases c : (th + st).toInt < (500 : Int32).toInt
    · rw [if_pos c, if_neg (by omega)]
    · rw [if_neg c]
      by_cases c2 : (500 : Int32).toInt < (th + st).toInt
      · rw [if_pos c2]
      · rw [if_neg c2]
        exact i_ext (by omega)
  · rw [if_neg c1, if_neg c1]
    by_cases c2 : g.toInt < s.toInt
    · rw [if_pos c2, if_pos c2, ← Int32.sub_eq_add_neg]
      have e : (th - st).toInt = th.toInt - st.toInt := i_sub (by omega) (by omega)
      unfold qm_t2 q_max
      by_cases c : (th - st).toInt < 0
      · rw [if_neg (show ¬ (0 : Int32).toInt < (th - st).toInt by omega), if_pos c]
      · rw [if_neg c, if_neg (show ¬ (500 : Int32).toInt < (th - st).toInt by omega)]
        by_cases c3 : (0 : Int32).toInt < (th - st).toInt
        · rw [if_pos c3]
        · rw [if_neg c3]
          exact i_ext (by omega)
    · rw [if_neg c2, if_neg c2, Int32.add_zero]
      unfold qm_t2
      rw [if_neg (by omega), if_neg (by omega)]
theorem q_mk_5 (σ : q_M) (t fl : Int32) : q_mk σ t fl 68 5 = q_max (σ 68 5) (q_abs (σ 69 5 - σ 68 2)) := by
  unfold q_mk
  split
  · rw [q_up_f (by decide), q_up_at]
  · rw [q_up_at]
theorem q_mk_4 (σ : q_M) (t fl : Int32) : q_mk σ t fl 68 4 = if σ 69 5 = 0 ∨ σ 69 5 = fl then t else σ 68 4 := by
  unfold q_mk
  split
  · rw [q_up_at]
  · rw [q_up_f (by decide)]
theorem q_mk_k {k : Nat} (σ : q_M) (t fl : Int32) (h4 : ¬ k = 4) (h5 : ¬ k = 5) : q_mk σ t fl 68 k = σ 68 k := by
  unfold q_mk
  split
  · rw [q_up_f h4, q_up_f h5]
  · rw [q_up_f h5]
/-- the hand's cells and the reference's, after a ticks -/
def r_Y (σ : q_M) (j : Nat) (g : Int32) (C M : q_M) (a : Nat) : Prop := (∀ b, ¬ b = 68 → ¬ b = 69 → ¬ b = 70 → C b = σ b) ∧ (M 73 = σ 73 ∧ M 75 = σ 75) ∧ (C 69 0 = σ (23 + j) 0 ∧ C 69 1 = σ (23 + j) 1 ∧ C 69 4 = σ (23 + j) 4) ∧ (C 68 2 = g ∧ M 82 0 = g) ∧ (C 69 5 = M 72 17 ∧ C 69 6 = M 72 18 ∧ C 68 3 = M 72 26 ∧ C 68 4 = M 72 24 ∧ C 68 5 = M 72 25) ∧ (M 82 a = M 72 17 ∧ ∀ i, i < a → a ≤ i + 50 → C 70 (i % 51) = M 82 i) ∧ (0 ≤ (M 72 17).toInt ∧ (M 72 17).toInt ≤ 64 * (σ 15 0).toInt) ∧ (-400000 ≤ (M 72 18).toInt ∧ (M 72 18).toInt ≤ 400000) ∧ (0 ≤ (M 72 26).toInt ∧ (M 72 26).toInt ≤ 500)
section R83
variable {σ C M : q_M} {N n j a b : Nat} {g st : Int32}
/-- a move of the hand's stays in the bottle -/
theorem r_hmv (h : r_R σ) (hs : r_s σ 17 0 N n) (hj : j < N) (h73 : M 73 = σ 73) (h75 : M 75 = σ 75) (hf : 0 ≤ (M 72 17).toInt ∧ (M 72 17).toInt ≤ 64 * (σ 15 0).toInt) (hp : -400000 ≤ (M 72 18).toInt ∧ (M 72 18).toInt ≤ 400000) {th : Int32} (ht : 0 ≤ th.toInt ∧ th.toInt ≤ 500) : (0 ≤ (qm_mv M j th).1.toInt ∧ (qm_mv M j th).1.toInt ≤ 64 * (σ 15 0).toInt) ∧ (-400000 ≤ (qm_mv M j th).2.toInt ∧ (qm_mv M j th).2.toInt ≤ 400000) := by
  have g0 : 10 ≤ (σ 15 0).toInt ∧ (σ 15 0).toInt ≤ 200 := h.wb (r := 0) (by decide)
  have g1 : 800 ≤ (σ 15 1).toInt ∧ (σ 15 1).toInt ≤ 1200 := h.wb (r := 1) (by decide)
  have g3 : 1 ≤ (σ 15 3).toInt ∧ (σ 15 3).toInt ≤ 64 := h.wb (r := 3) (by decide)
  have g5 : 0 ≤ (σ 15 5).toInt ∧ (σ 15 5).toInt ≤ 99 := h.wb (r := 5) (by decide)
  have kwm : 250 ≤ (σ 17 4).toInt ∧ (σ 17 4).toInt ≤ 350 := q_win_t hs.2.2.1.2
  have km := r_mass hs hj
  have z64 : (64 : Int32).toInt = 64 := rfl
  have hd := (hs.2.2.2.2.2.2.2.1 j hj).1
  have e0 : σ 73 (8 * j + 0) = σ (23 + j) 0 := hd 0 (by decide)
  have e1 : σ 73 (8 * j + 1) = σ (23 + j) 1 := hd 1 (by decide)
  have e5 : σ 73 (8 * j + 5) = σ (23 + j) 4 := hd 5 (by decide)
  have e64 : (64 * σ 15 0).toInt = 64 * (σ 15 0).toInt := by rw [i_mul (by rw [z64]; omega) (by rw [z64]; omega), z64]
  have ed5 : (M 72 17 / 64).toInt = (M 72 17).toInt / 64 := by rw [i_div (by omega) (by decide), z64]
  have hl := i_lt0 (dep := M 72 17 / 64) (s := σ 15 4) g5
  obtain ⟨w1, w2, w3⟩ := i_wt (a := σ 15 1) (s := σ 15 4) (m := σ 15 5) (mass := σ (23 + j) 0 + σ (23 + j) 4) (b := σ (23 + j) 1) (w := σ 17 4) (dep := M 72 17 / 64) (th := th) g1 g5 (by omega) km.2.2.2 kwm (by omega) ht
  unfold qm_mv
  rw [h73, h75, h.w (r := 0) (by decide), h.w (r := 1) (by decide), h.w (r := 3) (by decide), h.w (r := 4) (by decide), h.w (r := 5) (by decide), e0, e1, e5, show σ 73 49 = σ 17 4 from hs.2.2.1.1, ← e64]
  exact i_mv (by omega) (by omega) hp (by omega) g3
theorem r_hok (h : r_R σ) (h75 : M 75 = σ 75) (hf : 0 ≤ (M 72 17).toInt ∧ (M 72 17).toInt ≤ 64 * (σ 15 0).toInt) : qm_hok M := by
  have g0 : 10 ≤ (σ 15 0).toInt ∧ (σ 15 0).toInt ≤ 200 := h.wb (r := 0) (by decide)
  have g1 : 800 ≤ (σ 15 1).toInt ∧ (σ 15 1).toInt ≤ 1200 := h.wb (r := 1) (by decide)
  have g3 : 1 ≤ (σ 15 3).toInt ∧ (σ 15 3).toInt ≤ 64 := h.wb (r := 3) (by decide)
  have z64 : (64 : Int32).toInt = 64 := rfl
  unfold qm_hok
  rw [h75, h.w (r := 3) (by decide), h.w (r := 1) (by decide)]
  refine ⟨by omega, fun th h1 h2 => ?_⟩
  have ed5 : (M 72 17 / 64).toInt = (M 72 17).toInt / 64 := by rw [i_div (by omega) (by decide), z64]
  have ea : (σ 15 1 + th).toInt = (σ 15 1).toInt + th.toInt := i_add (by omega) (by omega)
  rw [i_add (by omega) (by omega)]
  omega
theorem qm_hz_o {g th : Int32} {i c k : Nat} (h : ¬ (c = 72 ∧ (k = 17 ∨ k = 18 ∨ k = 24 ∨ k = 25 ∨ k = 26)) ∧ ¬ (c = 82 ∧ k = i + 1)) : qm_hz M j i g th c k = M c k := by
  have p : ∀ {σ : q_M} {d l : Nat} {x : Int32}, ¬ (c = d ∧ k = l) → q_up σ d l x c k = σ c k := fun {σ d l x} hn => by
    by_cases e : c = d
    · subst e
      exact q_up_f (fun z => hn ⟨rfl, z⟩)
    · rw [q_up_ne e]
  unfold qm_hz qm_h4
  rw [p (by omega), p (by omega), p (by omega), p (by omega), p (by omega), p (by omega)]
theorem qm_hz_v {g th : Int32} {i : Nat} : qm_hz M j i g th 72 17 = (qm_mv M j th).1 ∧ qm_hz M j i g th 72 18 = (qm_mv M j th).2 ∧ qm_hz M j i g th 72 26 = th ∧ qm_hz M j i g th 72 24 = qm_lo M j i th ∧ qm_hz M j i g th 72 25 = qm_fa M j th g ∧ qm_hz M j i g th 82 (i + 1) = (qm_mv M j th).1 := by
  unfold qm_hz qm_h4
  refine ⟨?_, ?_, ?_, ?_, ?_, ?_⟩
  · rw [q_up_f (by decide), q_up_f (by decide), q_up_ne (by decide), q_up_f (by decide), q_up_at]
  · rw [q_up_f (by decide), q_up_f (by decide), q_up_ne (by decide), q_up_at]
  · rw [q_up_f (by decide), q_up_f (by decide), q_up_ne (by decide), q_up_f (by decide), q_up_f (by decide), q_up_at]
  · rw [q_up_at]
  · rw [q_up_f (by decide), q_up_at]
  · rw [q_up_ne (by decide), q_up_ne (by decide), q_up_at]
theorem r_hs (h : r_R σ) (hs : r_s σ 17 0 N n) (hj : j < N) (hb : b ≤ 50) (hst : 1 ≤ st.toInt ∧ st.toInt ≤ 50) (hY : r_Y σ j g C M a) (h4 : C 68 4 = -4) : r_Y σ j g (q_hs C a b st) (qm_hs j b g st a M) (a + 1) := by
  obtain ⟨o, ⟨h73, h75⟩, ⟨d0, d1, d4⟩, ⟨g1, g2⟩, ⟨v5, v6, v3, v4, vf⟩, ⟨t0, t1⟩, b1, b2, b3⟩ := hY
  -- both see alike
  have esg : q_sg C a b = qm_se M a b := by
    unfold q_sg qm_se
    by_cases c : a < b
    · rw [if_pos c, if_pos c, g1, g2]
    · rw [if_neg c, if_neg c]
      by_cases z : b = 0
      · subst z
        rw [Nat.sub_zero, q_up_at, v5, t0]
      · rw [q_up_f (by omega), t1 _ (by omega) (by omega)]
  have eth : q_tt (C 68 3) (q_sg C a b) (C 68 2) st = qm_tw M a b g st := by
    rw [esg, g1, v3, i_tt b3 hst]
    rfl
  have b4 : 0 ≤ (qm_tw M a b g st).toInt ∧ (qm_tw M a b g st).toInt ≤ 500 := qm_t2_r _
  have hmv := r_hmv h hs hj h73 h75 b1 b2 b4
  unfold qm_hs
  generalize hth : qm_tw M a b g st = th at *
  have c69 : q_tn C a b st 69 = C 69 := q_tn_ne (by decide) (by decide)
  have c15 : q_tn C a b st 15 = σ 15 := by rw [q_tn_ne (by decide) (by decide), o 15 (by decide) (by decide) (by decide)]
  have c17 : q_tn C a b st 17 = σ 17 := by rw [q_tn_ne (by decide) (by decide), o 17 (by decide) (by decide) (by decide)]
  have c683 : q_tn C a b st 68 3 = th := by
    unfold q_tn
    rw [q_up_at]
    exact eth
  have c68 : ∀ k, ¬ k = 3 → q_tn C a b st 68 k = C 68 k := fun k hk => by
    unfold q_tn
    rw [q_up_f hk, q_up_ne (by decide)]
  have c70 : ∀ k, q_tn C a b st 70 k = if k = a % 51 then C 69 5 else C 70 k := fun k => by
    unfold q_tn
    rw [q_up_ne (by decide)]
    split
    · rename_i e
      rw [e, q_up_at]
    · rename_i e
      rw [q_up_f e]
  have hd := (hs.2.2.2.2.2.2.2.1 j hj).1
  have e0 : σ 73 (8 * j + 0) = σ (23 + j) 0 := hd 0 (by decide)
  have e1 : σ 73 (8 * j + 1) = σ (23 + j) 1 := hd 1 (by decide)
  have e5 : σ 73 (8 * j + 5) = σ (23 + j) 4 := hd 5 (by decide)
  have emv : q_mv (q_tn C a b st 69 5) (q_tn C a b st 69 6) (q_Wc (q_tn C a b st) 69 (q_dc (q_tn C a b st 69 5) 64) (q_tn C a b st 68 3)) (q_tn C a b st 15 3) (q_tn C a b st 15 0 * 64) = qm_mv M j th := by
    unfold q_Wc qm_mv
    rw [c69, c15, c17, c683, d0, d1, d4, v5, v6, h73, h75, h.w (r := 0) (by decide), h.w (r := 1) (by decide), h.w (r := 3) (by decide), h.w (r := 4) (by decide), h.w (r := 5) (by decide), e0, e1, e5, show σ 73 49 = σ 17 4 from hs.2.2.1.1, q_dc_pos (by decide), Int32.mul_comm 64]
  have u5 : q_hm (q_tn C a b st) 69 5 = (qm_mv M j th).1 := by
    unfold q_hm
    rw [q_up_f (by decide), q_up_at, emv]
  have u6 : q_hm (q_tn C a b st) 69 6 = (qm_mv M j th).2 := by
    unfold q_hm
    rw [q_up_at, emv]
  have uk : ∀ k, ¬ k = 5 → ¬ k = 6 → q_hm (q_tn C a b st) 69 k = C 69 k := fun k k5 k6 => by
    unfold q_hm
    rw [q_up_f k6, q_up_f k5, c69]
  have uo : ∀ b', ¬ b' = 69 → q_hm (q_tn C a b st) b' = q_tn C a b st b' := fun b' hb' => q_hm_ne hb'
  have hC : ∀ b', ¬ b' = 68 → q_hs C a b st b' = q_hm (q_tn C a b st) b' := fun b' hb' => q_mk_ne hb'
  have u2 : q_hm (q_tn C a b st) 68 2 = g := by rw [uo 68 (by decide), c68 2 (by decide), g1]
  obtain ⟨m17, m18, m26, m24, m25, m82⟩ := qm_hz_v (M := M) (j := j) (g := g) (th := th) (i := a)
  have efl : C 15 0 * 64 = 64 * M 75 0 := by rw [o 15 (by decide) (by decide) (by decide), h75, h.w (r := 0) (by decide), Int32.mul_comm]
  refine ⟨fun b' h1 h2 h3 => ?_, ⟨?_, ?_⟩, ⟨?_, ?_, ?_⟩, ⟨?_, ?_⟩, ⟨?_, ?_, ?_, ?_, ?_⟩, ⟨?_, fun i h1 h2 => ?_⟩, ?_, ?_, ?_⟩
  · rw [q_hs_ne h1 h2 h3, o b' h1 h2 h3]
  · funext k
    rw [qm_hz_o (by omega), h73]
  · funext k
    rw [qm_hz_o (by omega), h75]
  · rw [hC 69 (by decide), uk 0 (by decide) (by decide), d0]
  · rw [hC 69 (by decide), uk 1 (by decide) (by decide), d1]
  · rw [hC 69 (by decide), uk 4 (by decide) (by decide), d4]
  · unfold q_hs
    rw [q_mk_k _ _ _ (by decide) (by decide), u2]
  · rw [qm_hz_o (by omega), g2]
  · rw [hC 69 (by decide), u5, m17]
  · rw [hC 69 (by decide), u6, m18]
  · unfold q_hs
    rw [q_mk_k _ _ _ (by decide) (by decide), uo 68 (by decide), c683, m26]
  · unfold q_hs
    rw [q_mk_4, u5, uo 68 (by decide), c68 4 (by decide), h4, m24, efl]
    rfl
  · unfold q_hs
    rw [q_mk_5, u5, u2, uo 68 (by decide), c68 5 (by decide), vf, m25]
    rfl
  · rw [m82, m17]
  · rw [hC 70 (by decide), uo 70 (by decide), c70]
    by_cases e : i = a
    · subst e
      rw [if_pos rfl, qm_hz_o (by omega), v5, t0]
    · rw [if_neg (by omega), qm_hz_o (by omega), t1 i (by omega) (by omega)]
  · rw [m17]
    exact hmv.1
  · rw [m18]
    exact hmv.2
  · rw [m26]
    exact b4
theorem r_hl (h : r_R σ) (hs : r_s σ 17 0 N n) (hj : j < N) (hb : b ≤ 50) (hst : 1 ≤ st.toInt ∧ st.toInt ≤ 50) {L : Nat} : ∀ (m a : Nat) (C M : q_M), a + m = L → r_Y σ j g C M a → ∃ a', r_Y σ j g (q_hl b st m a C) (qm_hl j b g st L m M) a'
  | 0, a, C, M, _, hY => ⟨a, hY⟩
  | m + 1, a, C, M, e, hY => by
    rw [q_hl, qm_hl]
    by_cases c : C 68 4 = -4
    · have c' : M 72 24 = -4 := by rw [← hY.2.2.2.2.1.2.2.2.1]; exact c
      rw [if_pos c, if_pos c', show L - (m + 1) = a by omega]
      exact r_hl h hs hj hb hst m (a + 1) _ _ (by omega) (r_hs h hs hj hb hst hY c)
    · have c' : ¬ M 72 24 = -4 := by rw [← hY.2.2.2.2.1.2.2.2.1]; exact c
      rw [if_neg c, if_neg c']
      exact ⟨a, hY⟩
/-- a hold, both sides -/
theorem r_hh (h : r_R σ) (hs : r_s σ 17 0 N n) (hj : j < N) (hb : b ≤ 50) (hst : 1 ≤ st.toInt ∧ st.toInt ≤ 50) {L : Nat} {dep t : Int32} (hd : q_win dep 1 (σ 15 0 - 1) = true) (ht : q_win t 0 500 = true) (hC : ∀ b, ¬ b = 68 → ¬ b = 69 → ¬ b = 70 → C b = σ b) (hM : M 73 = σ 73 ∧ M 75 = σ 75) : ∃ a, r_Y σ j (64 * dep) (q_hh C (23 + j) dep t b st L) (qm_hh M j (64 * dep) t b st L) a := by
  have hN := hs.1.2.1
  have g0 : 10 ≤ (σ 15 0).toInt ∧ (σ 15 0).toInt ≤ 200 := h.wb (r := 0) (by decide)
  have z1 : (1 : Int32).toInt = 1 := rfl
  have z0 : (0 : Int32).toInt = 0 := rfl
  have z64 : (64 : Int32).toInt = 64 := rfl
  have z5 : (500 : Int32).toInt = 500 := rfl
  have hd' := q_win_t hd
  rw [i_sub (by omega) (by omega)] at hd'
  have ht' := q_win_t ht
  have e64 : (64 * dep).toInt = 64 * dep.toInt := by rw [i_mul (by rw [z64]; omega) (by rw [z64]; omega), z64]
  have cd : C (23 + j) = σ (23 + j) := hC _ (by omega) (by omega) (by omega)
  unfold q_hh qm_hh
  refine r_hl h hs hj hb hst L 0 _ _ (by omega) ⟨fun b' h1 h2 h3 => ?_, ⟨?_, ?_⟩, ⟨?_, ?_, ?_⟩, ⟨?_, ?_⟩, ⟨?_, ?_, ?_, ?_, ?_⟩, ⟨?_, fun i h1 h2 => by omega⟩, ?_, ?_, ?_⟩
  · rw [q_tk_ne h1 h2, hC b' h1 h2 h3]
  · unfold qm_h0
    rw [q_up_ne (by decide), q_up_ne (by decide), q_up_ne (by decide), q_up_ne (by decide), q_up_ne (by decide), q_up_ne (by decide), hM.1]
  · unfold qm_h0
    rw [q_up_ne (by decide), q_up_ne (by decide), q_up_ne (by decide), q_up_ne (by decide), q_up_ne (by decide), q_up_ne (by decide), hM.2]
  · rw [← cd]; rfl
  · rw [← cd]; rfl
  · rw [← cd]; rfl
  · rw [Int32.mul_comm]; rfl
  · rfl
  · show dep * 64 = 64 * dep
    exact Int32.mul_comm _ _
  · rfl
  · rfl
  · rfl
  · rfl
  · rfl
  · show 0 ≤ (64 * dep).toInt ∧ (64 * dep).toInt ≤ 64 * (σ 15 0).toInt
    omega
  · show -400000 ≤ (0 : Int32).toInt ∧ (0 : Int32).toInt ≤ 400000
    decide
  · show 0 ≤ t.toInt ∧ t.toInt ≤ 500
    omega
/-- what a hold of the reference's leaves alone, and when the diver is lost -/
theorem qm_hl_o {L c k : Nat} (h : ¬ (c = 72 ∧ (k = 17 ∨ k = 18 ∨ k = 24 ∨ k = 25 ∨ k = 26)) ∧ ¬ c = 82) : ∀ (m : Nat) (M : q_M), qm_hl j b g st L m M c k = M c k
  | 0, _ => rfl
  | m + 1, M => by
    rw [qm_hl]
    split
    · rw [qm_hl_o h m, qm_hs, qm_hz_o (by omega)]
    · rfl
theorem qm_hh_o {L c k : Nat} {t : Int32} (h : ¬ (c = 72 ∧ (k = 17 ∨ k = 18 ∨ k = 24 ∨ k = 25 ∨ k = 26)) ∧ ¬ c = 82) : qm_hh M j g t b st L c k = M c k := by
  have p : ∀ {σ : q_M} {d l : Nat} {x : Int32}, ¬ (c = d ∧ k = l) → q_up σ d l x c k = σ c k := fun {σ d l x} hn => by
    by_cases e : c = d
    · subst e
      exact q_up_f (fun z => hn ⟨rfl, z⟩)
    · rw [q_up_ne e]
  unfold qm_hh qm_h0
  rw [qm_hl_o h, p (by omega), p (by omega), p (by omega), p (by omega), p (by omega), p (by omega)]
theorem qm_hl_4 {L : Nat} : ∀ (m : Nat) (M : q_M), m ≤ L → (M 72 24 = -4 ∨ ∃ i, 1 ≤ i ∧ i ≤ L ∧ M 72 24 = nI i) → (qm_hl j b g st L m M 72 24 = -4 ∨ ∃ i, 1 ≤ i ∧ i ≤ L ∧ qm_hl j b g st L m M 72 24 = nI i)
  | 0, _, _, h => h
  | m + 1, M, hm, h => by
    rw [qm_hl]
    split
    · refine qm_hl_4 m _ (by omega) ?_
      rw [qm_hs, qm_hz_v.2.2.2.1]
      unfold qm_lo
      split
      · exact Or.inr ⟨_, by omega, by omega, rfl⟩
      · exact Or.inl rfl
    · exact h
theorem qm_hh_4 {L : Nat} {t : Int32} : qm_hh M j g t b st L 72 24 = -4 ∨ ∃ i, 1 ≤ i ∧ i ≤ L ∧ qm_hh M j g t b st L 72 24 = nI i := by
  unfold qm_hh
  exact qm_hl_4 L _ (Nat.le_refl _) (Or.inl rfl)
end R83
