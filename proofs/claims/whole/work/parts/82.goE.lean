/-! go answers alike -/
theorem q_md_o {C : q_M} {d b : Nat} (h1 : ¬ b = d) (h2 : ¬ b = 17) : q_md C d b = C b := by
  have e0 : q_mm C d b = C b := by unfold q_mm; rw [q_up_ne h1, q_up_ne h1]
  have e1 : ∀ τ : q_M, q_cf τ d b = τ b := fun τ => by
    unfold q_cf
    split
    · rw [q_up_ne h1]
    · rw [q_up_ne h2, q_up_ne h1, q_up_ne h1]
  have e2 : ∀ τ : q_M, q_ctp τ d b = τ b := fun τ => by
    unfold q_ctp
    split
    · rfl
    · rw [q_up_ne h2, q_up_ne h1]
  unfold q_md
  split
  · exact e0
  · split
    · split
      · rw [e2, e1, e0]
      · rw [e1, e0]
    · split
      · rw [e2, e0]
      · exact e0
theorem q_mdl_o {N b : Nat} (h1 : ¬ (17 ≤ b ∧ b < 29)) (h6 : N ≤ 6) : ∀ (m : Nat) (C : q_M), m ≤ N → q_mdl N m C b = C b
  | 0, _, _ => rfl
  | m + 1, C, hm => by rw [q_mdl, q_mdl_o h1 h6 m _ (by omega), q_md_o (by omega) (by omega)]
theorem q_tk1_o {N b : Nat} (h1 : ¬ (17 ≤ b ∧ b < 29)) (h6 : N ≤ 6) (C : q_M) : q_tk1 N C b = C b := by
  unfold q_tk1
  rw [q_up_ne (by omega), q_mdl_o h1 h6 N C (Nat.le_refl _)]
theorem q_gol_o {N b : Nat} (h1 : ¬ (17 ≤ b ∧ b < 29)) (h6 : N ≤ 6) : ∀ (m : Nat) (C : q_M), q_gol N m C b = C b
  | 0, _ => rfl
  | m + 1, C => by rw [q_gol, q_gol_o h1 h6 m, q_tk1_o h1 h6]
theorem q_m2_o {M : q_M} {j b k : Nat} (h : ¬ (b = 72 ∧ (k = 17 ∨ k = 18)) ∧ ¬ (b = 73 ∧ k < 54)) (hj : j < 6) : q_m2 M j b k = M b k := by
  have p : ∀ {σ : q_M} {c i : Nat} {x : Int32}, ¬ (b = c ∧ k = i) → q_up σ c i x b k = σ b k := fun {σ c i x} hn => by
    by_cases e : b = c
    · subst e
      exact q_up_f (fun z => hn ⟨rfl, z⟩)
    · rw [q_up_ne e]
  unfold q_m2
  rw [p (by omega), p (by omega), p (by omega), p (by omega)]
theorem q_tm_o {M : q_M} {j b k : Nat} (h : ¬ (b = 72 ∧ (k = 17 ∨ k = 18)) ∧ ¬ (b = 73 ∧ k < 54)) (hj : j < 6) : q_tm M j b k = M b k := by
  have p : ∀ {σ : q_M} {i : Nat} {x : Int32}, i < 54 → q_up σ 73 i x b k = σ b k := fun {σ i x} hn => by
    by_cases e : b = 73
    · subst e
      exact q_up_f (by omega)
    · rw [q_up_ne e]
  have e2 : q_ma M j b k = M b k := by
    unfold q_ma
    split
    · unfold q_fl3
      split
      · rw [p (by omega), p (by omega), p (by omega), q_m2_o h hj]
      · rw [p (by omega), q_m2_o h hj]
    · exact q_m2_o h hj
  unfold q_tm
  split
  · unfold q_tp
    rw [p (by omega), p (by omega), e2]
  · exact e2
theorem q_tml_o {N b k : Nat} (h : ¬ (b = 72 ∧ (k = 17 ∨ k = 18)) ∧ ¬ (b = 73 ∧ k < 54)) (h6 : N ≤ 6) : ∀ (m : Nat) (M : q_M), m ≤ N → q_tml N m M b k = M b k
  | 0, _, _ => rfl
  | m + 1, M, hm => by rw [q_tml, q_tml_o h h6 m _ (by omega), q_tm_o h (by omega)]
theorem q_tk2_o {N b k : Nat} (h : ¬ (b = 72 ∧ (k = 17 ∨ k = 18)) ∧ ¬ (b = 73 ∧ k < 54)) (h6 : N ≤ 6) (M : q_M) : q_tk2 N M b k = M b k := by
  unfold q_tk2
  rw [← q_tml_o h h6 N M (Nat.le_refl _)]
  by_cases e : b = 73
  · subst e
    exact q_up_f (by omega)
  · rw [q_up_ne e]
theorem q_gom_o {N b k : Nat} (h : ¬ (b = 72 ∧ (k = 17 ∨ k = 18)) ∧ ¬ (b = 73 ∧ k < 54)) (h6 : N ≤ 6) : ∀ (m : Nat) (M : q_M), q_gom N m M b k = M b k
  | 0, _ => rfl
  | m + 1, M => by rw [q_gom, q_gom_o h h6 m, q_tk2_o h h6]
theorem r_mdl {N n : Nat} : ∀ (m : Nat) (C M : q_M), m ≤ N → r_X C M N n → r_X (q_mdl N m C) (q_tml N m M) N n
  | 0, _, _, _, h => h
  | m + 1, C, M, hm, h => by
    rw [q_mdl, q_tml]
    exact r_mdl m _ _ (by omega) (r_md h (by omega))
theorem r_tick {C M : q_M} {N n : Nat} (h : r_X C M N n) : r_X (q_tk1 N C) (q_tk2 N M) N n := by
  obtain ⟨hw, hs⟩ := r_mdl N C M (Nat.le_refl _) h
  unfold q_tk1 q_tk2
  generalize q_mdl N N C = A at *
  generalize q_tml N N M = B at *
  have l : ∀ b, ¬ b = 17 → ¬ b = 73 → r_mx (q_up A 17 5 (A 17 5 + 1)) (q_up B 73 50 (B 73 50 + 1)) b = r_mx A B b := fun b h1 h2 => by
    unfold r_mx
    split
    · rw [q_up_ne h1]
    · rw [q_up_ne h2]
  have a17 : ∀ k, ¬ k = 5 → r_mx (q_up A 17 5 (A 17 5 + 1)) (q_up B 73 50 (B 73 50 + 1)) 17 k = r_mx A B 17 k := fun k hk => by
    rw [r_mx_l (by decide), r_mx_l (by decide), q_up_f hk]
  have a73 : ∀ k, ¬ k = 50 → r_mx (q_up A 17 5 (A 17 5 + 1)) (q_up B 73 50 (B 73 50 + 1)) 73 k = r_mx A B 73 k := fun k hk => by
    rw [r_mx_r (by decide), r_mx_r (by decide), q_up_f hk]
  refine ⟨hw.of (l _ (by decide) (by decide)) (l _ (by decide) (by decide)) (l _ (by decide) (by decide)) (l _ (by decide) (by decide)), hs.sca (fun b h1 h2 => l b (by omega) (by omega)) (fun k h1 h2 => a73 k (by omega)) (by rw [l 15 (by decide) (by decide)]) (a17 2 (by decide)) ?_ ?_ ?_ ?_ ?_⟩
  · rw [a17 3 (by decide), a73 48 (by decide)]
    exact hs.2.1
  · rw [a17 4 (by decide), a73 49 (by decide)]
    exact hs.2.2.1
  · have e := hs.2.2.2.1
    rw [r_mx_r (by decide), r_mx_l (by decide)] at e ⊢
    rw [q_up_at, q_up_at, show B 73 50 = A 17 5 from e]
  · rw [a17 7 (by decide), a73 51 (by decide)]
    exact hs.2.2.2.2.1
  · rw [a17 6 (by decide), a73 52 (by decide)]
    exact hs.2.2.2.2.2.1
theorem r_gol {N n : Nat} : ∀ (m : Nat) (C M : q_M), r_X C M N n → r_X (q_gol N m C) (q_gom N m M) N n
  | 0, _, _, h => h
  | m + 1, C, M, h => by
    rw [q_gol, q_gom]
    exact r_gol m _ _ (r_tick h)
theorem r_mx_of {C M τ : q_M} (h1 : ∀ b, b < 72 → C b = τ b) (h2 : ∀ b, 72 ≤ b → M b = τ b) : r_mx C M = τ := by
  funext b
  unfold r_mx
  split
  · exact h1 b (by assumption)
  · exact h2 b (by omega)
theorem r_X.tok {C M : q_M} {N n : Nat} (h : r_X C M N n) : q_tok N M := by
  obtain ⟨hw, hs⟩ := h
  have r : ∀ b, 72 ≤ b → M b = r_mx C M b := fun b h => (r_mx_r h).symm
  have hd := r_w.dg hw
  have w1 := q_win_t (hw.1 1 (by decide)).2
  have z1 : (q_tab 1 1).toInt = 800 := rfl
  have z2 : (q_tab 2 1).toInt = 1200 := rfl
  have w0 := q_win_t (hw.1 0 (by decide)).2
  have z3 : (q_tab 1 0).toInt = 10 := rfl
  have z4 : (q_tab 2 0).toInt = 200 := rfl
  have th := q_win_t hs.2.1.2
  have z5 : (0 : Int32).toInt = 0 := rfl
  have z6 : (500 : Int32).toInt = 500 := rfl
  have z64 : (64 : Int32).toInt = 64 := rfl
  unfold q_tok
  rw [r 73 (by decide), r 75 (by decide)]
  refine ⟨hs.1.2.2, by rw [hd.2]; omega, fun j hj => ?_⟩
  have dj := hs.2.2.2.2.2.2.2.1 j hj
  have e6 : r_mx C M 73 (8 * j + 6) = r_mx C M (17 + 6 + j) 5 := dj.1 6 (by decide)
  have b5 := dj.2.2.2.2.2.2.1
  have e1 : (r_mx C M 75 1).toInt = (r_mx C M 15 1).toInt := by rw [(hw.1 1 (by decide)).1]
  have e2 : (r_mx C M 73 48).toInt = (r_mx C M 17 3).toInt := by rw [show r_mx C M 73 48 = r_mx C M 17 3 from hs.2.1.1]
  have ed : (r_mx C M 73 (8 * j + 6) / 64).toInt = (r_mx C M (17 + 6 + j) 5).toInt / 64 := by rw [e6, i_div (by omega) (by decide), z64]
  have ea : (r_mx C M 75 1 + r_mx C M 73 48).toInt = (r_mx C M 75 1).toInt + (r_mx C M 73 48).toInt := i_add (by omega) (by omega)
  rw [i_add (by omega) (by omega)]
  omega
theorem rE_go {x : Int32} : r_E YX7_go YX8_go [.int x] := r_E.mk (fun σ h => by
  obtain ⟨N, n, hs⟩ := h.m17
  have hN := hs.1.2.1
  by_cases hx : q_win x 1 999 = true
  · obtain ⟨m, rfl, h1, h9⟩ := q_win_n hx (by decide)
    have z1 : (1 : Int32).toInt = 1 := rfl
    have z9 : (999 : Int32).toInt = 999 := rfl
    have c1 := kX7_go (σ := σ) hs.1.1 hN (n0 := m) (by omega) (by omega)
    have lo : ∀ b, ¬ (17 ≤ b ∧ b < 29) → q_gol N m σ b = σ b := fun b hb => q_gol_o hb hN m σ
    have hX : r_X σ (q_gol N m σ) N n := by
      have e : r_mx σ (q_gol N m σ) = σ := r_mx_of (fun b _ => rfl) (fun b hb => lo b (by omega))
      unfold r_X
      rw [e]
      exact ⟨h.1, hs⟩
    have c2 := kX8_go (σ := q_gol N m σ) (N := N) (I := fun τ => ∃ C, r_X C τ N n) ⟨σ, hX⟩ hN (fun τ z => by obtain ⟨C, z⟩ := z; exact z.tok) (fun τ j hj z => by obtain ⟨C, z⟩ := z; exact ⟨_, r_md z hj⟩) (fun τ z => by obtain ⟨C, z⟩ := z; exact ⟨_, r_tick z⟩) (n0 := m) (by omega) (by omega)
    have hE := r_gol m _ _ hX
    have hi : ∀ b, ¬ b = 72 → ¬ b = 73 → q_gom N m (q_gol N m σ) b = q_gol N m σ b := fun b h1 h2 => by
      funext k
      exact q_gom_o (by omega) hN m _
    have e : r_mx (q_gol N m σ) (q_gom N m (q_gol N m σ)) = q_gom N m (q_gol N m σ) := r_mx_of (fun b hb => (hi b (by omega) (by omega)).symm) (fun b _ => rfl)
    unfold r_X at hE
    rw [e] at hE
    have eb : q_bits (fun k => decide (q_gol N m σ (23 + k) 5 = q_gol N m σ 15 0 * 64)) N = q_bits (fun k => decide (q_gom N m (q_gol N m σ) 73 (8 * k + 6) = 64 * q_gom N m (q_gol N m σ) 75 0)) N := by
      refine q_bits_c N (fun k hk => ?_)
      have dk : q_gom N m (q_gol N m σ) 73 (8 * k + 6) = q_gom N m (q_gol N m σ) (23 + k) 5 := (hE.2.2.2.2.2.2.2.2.1 k hk).1 6 (by decide)
      have w0 : q_gom N m (q_gol N m σ) 75 0 = q_gom N m (q_gol N m σ) 15 0 := (hE.1.1 0 (by decide)).1
      rw [dk, w0, hi (23 + k) (by omega) (by omega), hi 15 (by decide) (by decide), Int32.mul_comm 64]
    refine ⟨_, _, _, c1, by rw [eb]; exact c2, ?_⟩
    exact h.sc (fun b h1 h2 => by rw [hi b (by omega) (by omega), lo b h2]) (fun b h1 h2 _ _ => by rw [hi b (by omega) (by omega), lo b (by omega)]) (fun k h1 h2 => by rw [q_gom_o (by omega) hN, lo 73 (by decide)]) (fun k hk => by rw [q_gom_o (by omega) hN, lo 72 (by decide)]) ⟨N, n, hE.2⟩
  · have hx' : q_win x 1 999 = false := by simpa using hx
    exact ⟨_, _, _, kX7_goF hx', kX8_goF hx', h⟩)
