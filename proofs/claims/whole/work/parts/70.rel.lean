/-! THE TWO SIDES: what the class's cells and the reference's have to do with each other -/
def r_w (σ : q_M) : Prop := (∀ r, r < 7 → σ 75 r = σ 15 r ∧ q_win (σ 15 r) (q_tab 1 r) (q_tab 2 r) = true) ∧ ∀ h, h < 24 → σ 76 h = σ 16 h ∧ q_win (σ 16 h) 250 350 = true
def r_b (σ : q_M) (d : Nat) : Prop := q_win (σ d 0) 1 999 = true ∧ q_win (σ d 1) 0 9999 = true ∧ q_win (σ d 2) 0 99 = true ∧ q_win (σ d 3) 0 99 = true ∧ q_win (σ d 4) 0 999 = true ∧ (0 ≤ (σ d 5).toInt ∧ (σ d 5).toInt ≤ 64 * (σ 15 0).toInt) ∧ (-400000 ≤ (σ d 6).toInt ∧ (σ d 6).toInt ≤ 400000) ∧ (σ d 7 = 0 ∨ σ d 7 = 1)
def r_d (σ : q_M) (d j o : Nat) : Prop := (∀ w, w < 8 → σ 73 (8 * j + w + o) = σ d (rm_o w)) ∧ r_b σ d
def r_n (σ : q_M) (x i o : Nat) : Prop := (σ 73 (55 + 3 * i + o) = σ (x + 3) i ∧ σ 73 (55 + 3 * i + 1 + o) = σ (x + 4) i ∧ σ 73 (55 + 3 * i + 2 + o) = σ (x + 5) i) ∧ q_win (σ (x + 3) i) 0 500 = true ∧ q_win (σ (x + 4) i) 0 200 = true ∧ (σ (x + 5) i = 0 ∨ σ (x + 5) i = 1)
def r_s (σ : q_M) (x o N n : Nat) : Prop := (σ x 2 = nI N ∧ N ≤ 6 ∧ σ 73 (53 + o) = nI N) ∧ (σ 73 (48 + o) = σ x 3 ∧ q_win (σ x 3) 0 500 = true) ∧ (σ 73 (49 + o) = σ x 4 ∧ q_win (σ x 4) 250 350 = true) ∧ σ 73 (50 + o) = σ x 5 ∧ (σ 73 (51 + o) = σ x 7 ∧ (σ x 7 = 0 ∨ σ x 7 = 1)) ∧ σ 73 (52 + o) = σ x 6 ∧ (σ (x + 2) 3 = nI n ∧ n ≤ 12 ∧ σ 73 (54 + o) = nI n) ∧ (∀ k, k < N → r_d σ (x + 6 + k) k o) ∧ ∀ i, i < n → r_n σ x i o
def r_i (σ : q_M) : Prop := ∀ j, j < 2 → (σ 30 j = 0 ∨ σ 30 j = 1) ∧ σ 74 j = σ 30 j ∧ (¬ σ 30 j = 0 → ∃ N n, r_s σ (31 + 12 * j) (100 * (j + 1)) N n)
def r_t (σ : q_M) : Prop := ∃ L, σ 1 4 = nI L ∧ rm_t σ (σ 2) L
def r_h (σ : q_M) : Prop := ∀ k, k < 4 → σ 83 k = σ (56 + 2 * k) 1 ∧ σ 84 k = σ (56 + 2 * k) 2 ∧ (∃ m, m ≤ 40 ∧ σ (56 + 2 * k) 2 = nI m) ∧ ∀ i, i < 40 → σ 85 (40 * k + i) = σ (57 + 2 * k) i
def r_f (σ : q_M) : Prop := σ 72 15 = σ 0 9 ∧ σ 72 30 = σ 0 10
def r_R (σ : q_M) : Prop := r_w σ ∧ (∃ N n, r_s σ 17 0 N n) ∧ r_i σ ∧ r_t σ ∧ r_h σ ∧ r_f σ
section RF
variable {σ τ : q_M}
theorem r_w.of (h : r_w σ) (h1 : τ 15 = σ 15) (h2 : τ 16 = σ 16) (h3 : τ 75 = σ 75) (h4 : τ 76 = σ 76) : r_w τ := by
  unfold r_w
  rw [h1, h2, h3, h4]
  exact h
theorem r_b.of {d : Nat} (h : r_b σ d) (h1 : τ d = σ d) (h2 : τ 15 0 = σ 15 0) : r_b τ d := by
  unfold r_b
  rw [h1, h2]
  exact h
theorem r_s.of {x o N n : Nat} (h : r_s σ x o N n) (h1 : ∀ b, x ≤ b → b < x + 12 → τ b = σ b) (h2 : ∀ k, k < 100 → τ 73 (k + o) = σ 73 (k + o)) (h3 : τ 15 0 = σ 15 0) : r_s τ x o N n := by
  obtain ⟨a, b, c, d, e, f, g, i, j⟩ := h
  unfold r_s
  rw [h1 x (by omega) (by omega), h1 (x + 2) (by omega) (by omega), h2 53 (by decide), h2 48 (by decide), h2 49 (by decide), h2 50 (by decide), h2 51 (by decide), h2 52 (by decide), h2 54 (by decide)]
  refine ⟨a, b, c, d, e, f, g, fun k hk => ⟨fun w hw => ?_, (i k hk).2.of (h1 _ (by omega) (by omega)) h3⟩, fun k hk => ?_⟩
  · rw [h2 _ (by omega), h1 _ (by omega) (by omega)]
    exact (i k hk).1 w hw
  · unfold r_n
    rw [h2 _ (by omega), h2 _ (by omega), h2 _ (by omega), h1 (x + 3) (by omega) (by omega), h1 (x + 4) (by omega) (by omega), h1 (x + 5) (by omega) (by omega)]
    exact j k hk
theorem r_i.of (h : r_i σ) (h1 : τ 30 = σ 30) (h2 : τ 74 = σ 74) (h3 : ∀ b, 31 ≤ b → b < 55 → τ b = σ b) (h4 : ∀ k, 100 ≤ k → k < 300 → τ 73 k = σ 73 k) (h5 : τ 15 0 = σ 15 0) : r_i τ := by
  intro j hj
  rw [h1, h2]
  obtain ⟨a, b, c⟩ := h j hj
  refine ⟨a, b, fun z => ?_⟩
  obtain ⟨N, n, hs⟩ := c z
  exact ⟨N, n, hs.of (fun b h1 h2 => h3 b (by omega) (by omega)) (fun k hk => h4 _ (by omega) (by omega)) h5⟩
theorem r_t.of (h : r_t σ) (h1 : τ 1 4 = σ 1 4) (h2 : τ 2 = σ 2) (h3 : τ 72 10 = σ 72 10) (h4 : τ 80 = σ 80) : r_t τ := by
  obtain ⟨L, a, b⟩ := h
  exact ⟨L, h1.trans a, by rw [h2]; exact b.of h3 h4⟩
theorem r_h.of (h : r_h σ) (h1 : ∀ b, 56 ≤ b → b < 64 → τ b = σ b) (h2 : τ 83 = σ 83) (h3 : τ 84 = σ 84) (h4 : τ 85 = σ 85) : r_h τ := by
  intro k hk
  rw [h2, h3, h4, h1 (56 + 2 * k) (by omega) (by omega), h1 (57 + 2 * k) (by omega) (by omega)]
  exact h k hk
theorem r_f.of (h : r_f σ) (h1 : τ 72 15 = σ 72 15) (h2 : τ 72 30 = σ 72 30) (h3 : τ 0 = σ 0) : r_f τ := by
  unfold r_f
  rw [h1, h2, h3]
  exact h
/-- scratch cells don't matter -/
theorem r_R.of (h : r_R σ) (h1 : ∀ b, b < 64 → τ b = σ b) (h2 : ∀ b, 73 ≤ b → b < 86 → ¬ b = 81 → ¬ b = 82 → τ b = σ b) (h3 : ∀ k, k = 10 ∨ k = 15 ∨ k = 30 → τ 72 k = σ 72 k) : r_R τ := by
  obtain ⟨a, ⟨N, n, b⟩, c, d, e, f⟩ := h
  have m73 := h2 73 (by decide) (by decide) (by decide) (by decide)
  refine ⟨a.of (h1 _ (by decide)) (h1 _ (by decide)) (h2 _ (by decide) (by decide) (by decide) (by decide)) (h2 _ (by decide) (by decide) (by decide) (by decide)), ⟨N, n, b.of (fun b _ _ => h1 b (by omega)) (fun k _ => by rw [m73]) (by rw [h1 15 (by decide)])⟩, c.of (h1 _ (by decide)) (h2 _ (by decide) (by decide) (by decide) (by decide)) (fun b _ _ => h1 b (by omega)) (fun k _ _ => by rw [m73]) (by rw [h1 15 (by decide)]), d.of (by rw [h1 1 (by decide)]) (h1 _ (by decide)) (h3 10 (by decide)) (h2 _ (by decide) (by decide) (by decide) (by decide)), e.of (fun b _ _ => h1 b (by omega)) (h2 _ (by decide) (by decide) (by decide) (by decide)) (h2 _ (by decide) (by decide) (by decide) (by decide)) (h2 _ (by decide) (by decide) (by decide) (by decide)), f.of (h3 15 (by decide)) (h3 30 (by decide)) (h1 0 (by decide))⟩
end RF
/-- a call answers alike on both sides, and the two sides stay together -/
def r_E (Y1 Y2 : q_Y) (av : List Value) : Prop := ∀ σ, r_R σ → ∃ Q1, q_Ct Y1 (.ref 0 :: av) q_SH σ Q1 ∧ ∀ r s τ, Q1 r s τ → s = q_SH ∧ ∃ x, r = some x ∧ ∃ Q2, q_Ct Y2 (.ref 72 :: av) q_SH τ Q2 ∧ ∀ r2 s2 ρ, Q2 r2 s2 ρ → s2 = q_SH ∧ r2 = some x ∧ r_R ρ
theorem r_E.mk {Y1 Y2 : q_Y} {av : List Value} (h : ∀ σ, r_R σ → ∃ x σ1 σ2, q_Ct Y1 (.ref 0 :: av) q_SH σ (q_is (some x) q_SH σ1) ∧ q_Ct Y2 (.ref 72 :: av) q_SH σ1 (q_is (some x) q_SH σ2) ∧ r_R σ2) : r_E Y1 Y2 av := by
  intro σ hR
  obtain ⟨x, σ1, σ2, h1, h2, h3⟩ := h σ hR
  refine ⟨_, h1, fun r s τ hq => ?_⟩
  obtain ⟨rfl, rfl, rfl⟩ := hq
  refine ⟨rfl, x, rfl, _, h2, fun r2 s2 ρ hq2 => ?_⟩
  obtain ⟨rfl, rfl, rfl⟩ := hq2
  exact ⟨rfl, rfl, h3⟩
/-- a question: nothing changes -/
theorem r_E.ask {Y1 Y2 : q_Y} {av : List Value} (h : ∀ σ, r_R σ → ∃ x y, q_Ct Y1 (.ref 0 :: av) q_SH σ (q_is (some x) q_SH σ) ∧ q_Ct Y2 (.ref 72 :: av) q_SH σ (q_is (some y) q_SH σ) ∧ x = y) : r_E Y1 Y2 av := r_E.mk (fun σ hR => by
  obtain ⟨x, y, h1, h2, rfl⟩ := h σ hR
  exact ⟨x, σ, σ, h1, h2, hR⟩)
section RQ
variable {σ : q_M}
theorem r_R.w (h : r_R σ) {r : Nat} (hr : r < 7) : σ 75 r = σ 15 r := (h.1.1 r hr).1
theorem r_R.wb (h : r_R σ) {r : Nat} (hr : r < 7) : (q_tab 1 r).toInt ≤ (σ 15 r).toInt ∧ (σ 15 r).toInt ≤ (q_tab 2 r).toInt := q_win_t (h.1.1 r hr).2
theorem r_R.m17 (h : r_R σ) : ∃ N n, r_s σ 17 0 N n := h.2.1
theorem r_wH (h : r_R σ) : ∃ H, σ 15 0 = nI H ∧ 10 ≤ H ∧ H ≤ 200 ∧ σ 75 0 = nI H := by
  have h1 := h.wb (r := 0) (by decide)
  have e1 : (q_tab 1 0).toInt = 10 := rfl
  have e2 : (q_tab 2 0).toInt = 200 := rfl
  refine ⟨(σ 15 0).toInt.toNat, i_nI (by omega), by omega, by omega, ?_⟩
  rw [h.w (by decide)]
  exact i_nI (by omega)
theorem r_wA (h : r_R σ) : ∃ A, σ 15 1 = nI A ∧ 800 ≤ A ∧ A ≤ 1200 ∧ σ 75 1 = nI A := by
  have h1 := h.wb (r := 1) (by decide)
  have e1 : (q_tab 1 1).toInt = 800 := rfl
  have e2 : (q_tab 2 1).toInt = 1200 := rfl
  refine ⟨(σ 15 1).toInt.toNat, i_nI (by omega), by omega, by omega, ?_⟩
  rw [h.w (by decide)]
  exact i_nI (by omega)
end RQ
theorem q_win_n {x lo hi : Int32} (h : q_win x lo hi = true) (h0 : 0 ≤ lo.toInt) : ∃ j : Nat, x = nI j ∧ lo.toInt ≤ (j : Int) ∧ (j : Int) ≤ hi.toInt := by
  have h1 := q_win_t h
  refine ⟨x.toInt.toNat, i_nI (by omega), by omega, by omega⟩
/-- which diver a call means -/
theorem r_dv {σ : q_M} {N : Nat} (hN : σ 17 2 = nI N) (h6 : N ≤ 6) {k : Int32} (h : q_win k 0 (σ 17 2 - 1) = true) : ∃ j : Nat, j < N ∧ k = nI j ∧ k.toNatClampNeg = j := by
  have h1 := q_win_t h
  have e0 : (0 : Int32).toInt = 0 := rfl
  have e1 : (1 : Int32).toInt = 1 := rfl
  have e2 := nI_toInt (n := N) (by omega)
  rw [hN] at h1
  rw [i_sub (by omega) (by omega)] at h1
  have e3 := i_nI (x := k) (by omega)
  refine ⟨k.toInt.toNat, by omega, e3, rfl⟩
theorem r_dq {σ : q_M} {N : Nat} (h1 : σ 17 2 = nI N) (h2 : σ 73 53 = nI N) (k : Int32) : q_win k 0 (σ 73 53 - 1) = q_win k 0 (σ 17 2 - 1) := by rw [h1, h2]
