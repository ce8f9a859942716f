/-! hold, late, step answer alike -/
def r_I (σ τ : q_M) : Prop := (τ 73 = σ 73 ∧ τ 75 = σ 75) ∧ (0 ≤ (τ 72 17).toInt ∧ (τ 72 17).toInt ≤ 64 * (σ 15 0).toInt) ∧ (-400000 ≤ (τ 72 18).toInt ∧ (τ 72 18).toInt ≤ 400000)
section R84
variable {σ : q_M} {N n j : Nat}
theorem r_I.hs (h : r_R σ) (hs : r_s σ 17 0 N n) (hj : j < N) {τ : q_M} {l i : Nat} {g st : Int32} (hI : r_I σ τ) : r_I σ (qm_hs j l g st i τ) := by
  obtain ⟨⟨a, b⟩, c, d⟩ := hI
  have hm := r_hmv h hs hj a b c d (th := qm_tw τ i l g st) (qm_t2_r _)
  obtain ⟨m17, m18, -⟩ := qm_hz_v (M := τ) (j := j) (g := g) (th := qm_tw τ i l g st) (i := i)
  refine ⟨⟨?_, ?_⟩, ?_, ?_⟩
  · funext k
    rw [qm_hs, qm_hz_o (by omega), a]
  · funext k
    rw [qm_hs, qm_hz_o (by omega), b]
  · rw [qm_hs, m17]
    exact hm.1
  · rw [qm_hs, m18]
    exact hm.2
theorem r_I.h0 (h : r_R σ) {τ : q_M} {dep t : Int32} (hd : q_win dep 1 (σ 15 0 - 1) = true) (hM : τ 73 = σ 73 ∧ τ 75 = σ 75) : r_I σ (qm_h0 τ (64 * dep) t) := by
  have g0 : 10 ≤ (σ 15 0).toInt ∧ (σ 15 0).toInt ≤ 200 := h.wb (r := 0) (by decide)
  have z1 : (1 : Int32).toInt = 1 := rfl
  have z64 : (64 : Int32).toInt = 64 := rfl
  have hd' := q_win_t hd
  rw [i_sub (by omega) (by omega)] at hd'
  have e64 : (64 * dep).toInt = 64 * dep.toInt := by rw [i_mul (by rw [z64]; omega) (by rw [z64]; omega), z64]
  refine ⟨⟨?_, ?_⟩, ?_, ?_⟩
  · unfold qm_h0
    rw [q_up_ne (by decide), q_up_ne (by decide), q_up_ne (by decide), q_up_ne (by decide), q_up_ne (by decide), q_up_ne (by decide), hM.1]
  · unfold qm_h0
    rw [q_up_ne (by decide), q_up_ne (by decide), q_up_ne (by decide), q_up_ne (by decide), q_up_ne (by decide), q_up_ne (by decide), hM.2]
  · show 0 ≤ (64 * dep).toInt ∧ (64 * dep).toInt ≤ 64 * (σ 15 0).toInt
    omega
  · show -400000 ≤ (0 : Int32).toInt ∧ (0 : Int32).toInt ≤ 400000
    decide
theorem r_can (h : r_R σ) (hs : r_s σ 17 0 N n) {τ : q_M} (h73 : τ 73 = σ 73) (h75 : τ 75 = σ 75) (k d t m : Int32) : qm_can τ k d t m = q_can σ k d t m := by
  unfold qm_can q_can
  rw [h73, h75, r_dq hs.1.1 hs.1.2.2, h.w (r := 0) (by decide)]
theorem q_can_t {k d t m : Int32} (h : q_can σ k d t m = true) : q_win k 0 (σ 17 2 - 1) = true ∧ q_win d 1 (σ 15 0 - 1) = true ∧ q_win t 0 500 = true ∧ q_win m 1 999 = true := by
  unfold q_can at h
  rw [Bool.and_eq_true, Bool.and_eq_true, Bool.and_eq_true] at h
  exact ⟨h.1.1.1, h.1.1.2, h.1.2, h.2⟩
/-- back together after any holding -/
theorem r_R.hold (h : r_R σ) {τ ρ : q_M} (h1 : ∀ b, ¬ b = 68 → ¬ b = 69 → ¬ b = 70 → τ b = σ b) (h2 : ∀ c k, ¬ (c = 72 ∧ (k = 17 ∨ k = 18 ∨ k = 24 ∨ k = 25 ∨ k = 26)) ∧ ¬ c = 82 → ρ c k = τ c k) : r_R ρ :=
  h.of (fun b hb => by funext k; rw [h2 b k (by omega), h1 b (by omega) (by omega) (by omega)]) (fun b h3 h4 _ h5 => by funext k; rw [h2 b k (by omega), h1 b (by omega) (by omega) (by omega)]) (fun k hk => by rw [h2 72 k (by omega), h1 72 (by decide) (by decide) (by decide)])
end R84
theorem rE_hold {k d t l st m w : Int32} : r_E YX7_hold YX8_hold [.int k, .int d, .int t, .int l, .int st, .int m, .int w] := r_E.mk (fun σ h => by
  obtain ⟨N, n, hs⟩ := h.m17
  have hN := hs.1.2.1
  have z0 : (0 : Int32).toInt = 0 := rfl
  have z1 : (1 : Int32).toInt = 1 := rfl
  have z3 : (3 : Int32).toInt = 3 := rfl
  have z50 : (50 : Int32).toInt = 50 := rfl
  have z9 : (999 : Int32).toInt = 999 := rfl
  by_cases hc : (q_can σ k d t m && q_win l 0 50 && q_win st 1 50 && q_win w 0 3) = true
  · rw [Bool.and_eq_true, Bool.and_eq_true, Bool.and_eq_true] at hc
    obtain ⟨⟨⟨hcan, hl⟩, hst⟩, hw⟩ := hc
    obtain ⟨k1, k2, k3, k4⟩ := q_can_t hcan
    obtain ⟨j, hj, rfl, -⟩ := r_dv hs.1.1 hN k1
    obtain ⟨L, rfl, m1, m9⟩ := q_win_n k4 (by decide)
    obtain ⟨b, rfl, -, b50⟩ := q_win_n hl (by decide)
    obtain ⟨v, rfl, -, v3⟩ := q_win_n hw (by decide)
    have hst' := q_win_t hst
    have hz := (hs.2.2.2.2.2.2.2.1 j hj).2.2.2.2.2.2.2.2
    have c1 := kX7_hold (σ := σ) (j := j) (b := b) (N0 := L) (d := d) (t := t) (st := st) (w := nI v) (by omega) (by omega) (by omega) hz hcan hst hw
    have o : ∀ b', ¬ b' = 68 → ¬ b' = 69 → ¬ b' = 70 → q_hh σ (23 + j) d t b st L b' = σ b' := fun b' h1 h2 h3 => q_hh_ne h1 h2 h3
    obtain ⟨a, hY⟩ := r_hh h hs hj (show b ≤ 50 by omega) (st := st) (by omega) (L := L) k2 k3 (C := σ) (M := q_hh σ (23 + j) d t b st L) (fun _ _ _ _ => rfl) ⟨o 73 (by decide) (by decide) (by decide), o 75 (by decide) (by decide) (by decide)⟩
    have c2 := kX8_hold (σ := q_hh σ (23 + j) d t b st L) (j := j) (l := b) (N := L) (dep := d) (t := t) (step := st) (by omega) (by omega) (by omega) (I := r_I σ) (fun τ hI => r_hok h hI.1.2 hI.2.1) (fun τ i _ hI => hI.hs h hs hj) (r_I.h0 h k2 ⟨o 73 (by decide) (by decide) (by decide), o 75 (by decide) (by decide) (by decide)⟩) (by rw [r_can h hs (o 73 (by decide) (by decide) (by decide)) (o 75 (by decide) (by decide) (by decide))]; exact hcan) hst (w := v) (by omega)
    have e : q_hof (q_hh σ (23 + j) d t b st L) (nI v).toNatClampNeg = qm_hof (qm_hh (q_hh σ (23 + j) d t b st L) j (64 * d) t b st L) v := by
      have ev : (nI v).toNatClampNeg = v := by
        have := nI_toInt (n := v) (by omega)
        show (nI v).toInt.toNat = v
        omega
      rw [ev]
      obtain ⟨-, -, -, -, ⟨v5, v6, v3', v4, vf⟩, -⟩ := hY
      rcases (show v = 0 ∨ v = 1 ∨ v = 2 ∨ v = 3 by omega) with rfl | rfl | rfl | rfl
      · exact v4
      · exact v5
      · exact vf
      · exact v3'
    rw [e] at c1
    exact ⟨_, _, _, c1, c2, h.hold o (fun c k hk => qm_hh_o hk)⟩
  · have hc' : (q_can σ k d t m && q_win l 0 50 && q_win st 1 50 && q_win w 0 3) = false := by simpa using hc
    exact ⟨_, _, _, kX7_holdF hc', kX8_holdB (by rw [r_can h hs rfl rfl]; exact hc'), h⟩)
theorem q_ltl_o {d L : Nat} {dep t st : Int32} {b : Nat} (h1 : ¬ b = 68) (h2 : ¬ b = 69) (h3 : ¬ b = 70) : ∀ (m l : Nat) (g : Int32) (C : q_M), (q_ltl d dep t st L m l g C).2 b = C b
  | 0, _, _, _ => rfl
  | m + 1, l, g, C => by
    rw [q_ltl]
    split
    · rw [q_ltl_o h1 h2 h3 m, q_hh_ne h1 h2 h3]
    · exact congrFun (congrArg (fun x => x) rfl) b |>.trans (q_hh_ne h1 h2 h3)
theorem qm_lt_o {j L c k : Nat} {g t st : Int32} (h : ¬ (c = 72 ∧ (k = 17 ∨ k = 18 ∨ k = 24 ∨ k = 25 ∨ k = 26)) ∧ ¬ c = 82) : ∀ (m l : Nat) (M : q_M), (qm_lt j g t st L m l M).2 c k = M c k
  | 0, _, _ => rfl
  | m + 1, l, M => by
    rw [qm_lt]
    split
    · rw [qm_lt_o h m, qm_hh_o h]
    · exact qm_hh_o h
theorem r_lt {σ : q_M} {N n j : Nat} (h : r_R σ) (hs : r_s σ 17 0 N n) (hj : j < N) {dep t st : Int32} {L : Nat} (hst : 1 ≤ st.toInt ∧ st.toInt ≤ 50) (hd : q_win dep 1 (σ 15 0 - 1) = true) (ht : q_win t 0 500 = true) : ∀ (m l : Nat) (C M : q_M), l + m = 51 → (∀ b, ¬ b = 68 → ¬ b = 69 → ¬ b = 70 → C b = σ b) → (M 73 = σ 73 ∧ M 75 = σ 75) → (q_ltl (23 + j) dep t st L m l (if l = 0 then -4 else nI (l - 1)) C).1 = qm_ltr (qm_lt j (64 * dep) t st L m l M)
  | 0, l, C, M, _, _, _ => rfl
  | m + 1, l, C, M, e, hC, hM => by
    obtain ⟨a, hY⟩ := r_hh h hs hj (show l ≤ 50 by omega) hst (L := L) hd ht hC hM
    have e4 := hY.2.2.2.2.1.2.2.2.1
    rw [q_ltl, qm_lt]
    by_cases c : q_hh C (23 + j) dep t l st L 68 4 = -4
    · rw [if_pos c, if_pos (by rw [← e4]; exact c)]
      have := r_lt h hs hj (L := L) hst hd ht m (l + 1) _ _ (by omega) hY.1 hY.2.1
      rw [if_neg (by omega), show l + 1 - 1 = l by omega] at this
      exact this
    · rw [if_neg c, if_neg (show ¬ qm_hh M j (64 * dep) t l st L 72 24 = -4 by rw [← e4]; exact c)]
      rfl
theorem rE_late {k d t st m : Int32} : r_E YX7_late YX8_late [.int k, .int d, .int t, .int st, .int m] := r_E.mk (fun σ h => by
  obtain ⟨N, n, hs⟩ := h.m17
  have hN := hs.1.2.1
  have z1 : (1 : Int32).toInt = 1 := rfl
  have z50 : (50 : Int32).toInt = 50 := rfl
  have z9 : (999 : Int32).toInt = 999 := rfl
  by_cases hc : (q_can σ k d t m && q_win st 1 50) = true
  · rw [Bool.and_eq_true] at hc
    obtain ⟨hcan, hst⟩ := hc
    obtain ⟨k1, k2, k3, k4⟩ := q_can_t hcan
    obtain ⟨j, hj, rfl, -⟩ := r_dv hs.1.1 hN k1
    obtain ⟨L, rfl, m1, m9⟩ := q_win_n k4 (by decide)
    have hst' := q_win_t hst
    have hz := (hs.2.2.2.2.2.2.2.1 j hj).2.2.2.2.2.2.2.2
    have c1 := kX7_late (σ := σ) (j := j) (N0 := L) (d := d) (t := t) (st := st) (by omega) (by omega) hz hcan hst
    have o : ∀ b', ¬ b' = 68 → ¬ b' = 69 → ¬ b' = 70 → (q_ltl (23 + j) d t st L 51 0 (-4) σ).2 b' = σ b' := fun b' h1 h2 h3 => q_ltl_o h1 h2 h3 _ _ _ _
    have o73 := o 73 (by decide) (by decide) (by decide)
    have o75 := o 75 (by decide) (by decide) (by decide)
    have c2 := kX8_late (σ := (q_ltl (23 + j) d t st L 51 0 (-4) σ).2) (j := j) (N := L) (dep := d) (t := t) (step := st) (by omega) (by omega) (I := r_I σ) (fun τ hI => r_hok h hI.1.2 hI.2.1) (B := fun τ => τ 73 = σ 73 ∧ τ 75 = σ 75) (fun τ l _ hB => ⟨by funext k; rw [qm_hh_o (by omega), hB.1], by funext k; rw [qm_hh_o (by omega), hB.2]⟩) (fun l _ τ i _ hI => hI.hs h hs hj) (fun τ hB => r_I.h0 h k2 hB) ⟨o73, o75⟩ (by rw [r_can h hs o73 o75]; exact hcan) hst
    have e := r_lt h hs hj (dep := d) (t := t) (st := st) (L := L) (by omega) k2 k3 51 0 σ (q_ltl (23 + j) d t st L 51 0 (-4) σ).2 (by omega) (fun _ _ _ _ => rfl) ⟨o73, o75⟩
    rw [if_pos rfl] at e
    rw [e] at c1
    exact ⟨_, _, _, c1, c2, h.hold o (fun c k hk => qm_lt_o hk _ _ _)⟩
  · have hc' : (q_can σ k d t m && q_win st 1 50) = false := by simpa using hc
    exact ⟨_, _, _, kX7_lateF hc', kX8_lateB (by rw [r_can h hs rfl rfl]; exact hc'), h⟩)
theorem q_stl_o {d L l : Nat} {dep t : Int32} {b : Nat} (h1 : ¬ b = 68) (h2 : ¬ b = 69) (h3 : ¬ b = 70) : ∀ (m s : Nat) (g w : Int32) (C : q_M), (q_stl d dep t l L m s g w C).2 b = C b
  | 0, _, _, _, _ => rfl
  | m + 1, s, g, w, C => by
    rw [q_stl]
    split
    · rfl
    · split
      · rw [q_stl_o h1 h2 h3 m, q_hh_ne h1 h2 h3]
      · rw [q_stl_o h1 h2 h3 m, q_hh_ne h1 h2 h3]
theorem qm_st_o {j L l c k : Nat} {g t : Int32} (h : ¬ (c = 72 ∧ (k = 17 ∨ k = 18 ∨ k = 24 ∨ k = 25 ∨ k = 26)) ∧ ¬ c = 82) : ∀ (m s : Nat) (b v : Int32) (M : q_M), (qm_st j g t l L m s b v M).2 c k = M c k
  | 0, _, _, _, _ => rfl
  | m + 1, s, b, v, M => by rw [qm_st, qm_st_o h m, qm_hh_o h]
theorem qm_sv_r {j L l : Nat} {g t st : Int32} (M : q_M) (hL : L ≤ 999) : 1 ≤ (qm_sv (qm_hh M j g t l st L)).toInt ∧ (qm_sv (qm_hh M j g t l st L)).toInt ≤ 1000 := by
  have z : (1000 : Int32).toInt = 1000 := rfl
  unfold qm_sv
  split
  · omega
  · rename_i c
    rcases qm_hh_4 (M := M) (j := j) (b := l) (g := g) (st := st) (L := L) (t := t) with e | ⟨i, i1, i2, e⟩
    · exact absurd e c
    · rw [e, nI_toInt (by omega)]
      omega
/-- nothing beats a hold that never loses -/
theorem qm_st_end {j L l : Nat} {g t : Int32} (hL : L ≤ 999) : ∀ (m s : Nat) (b : Int32) (M : q_M), (qm_st j g t l L m s b 1000 M).1 = (b, 1000)
  | 0, _, _, _ => rfl
  | m + 1, s, b, M => by
    have z : (1000 : Int32).toInt = 1000 := rfl
    have := qm_sv_r (j := j) (l := l) (g := g) (t := t) (st := nI s) M hL
    rw [qm_st, if_neg (by omega), if_neg (by omega), qm_st_end hL m]
def r_v (w : Int32) : Int32 := if w = -4 then 1000 else w
theorem r_st {σ : q_M} {N n j : Nat} (h : r_R σ) (hs : r_s σ 17 0 N n) (hj : j < N) {dep t : Int32} {L l : Nat} (hL : L ≤ 999) (hl : l ≤ 50) (hd : q_win dep 1 (σ 15 0 - 1) = true) (ht : q_win t 0 500 = true) : ∀ (m s : Nat) (g w b : Int32) (C M : q_M), s + m = 51 → 1 ≤ s → (w = -4 ∨ 0 ≤ w.toInt ∧ w.toInt ≤ 999) → (b = g ∨ w = 0 ∧ 1 ≤ m) → (∀ b, ¬ b = 68 → ¬ b = 69 → ¬ b = 70 → C b = σ b) → (M 73 = σ 73 ∧ M 75 = σ 75) → ∃ w', (q_stl (23 + j) dep t l L m s g w C).1.2 = w' ∧ (w' = -4 ∨ 0 ≤ w'.toInt ∧ w'.toInt ≤ 999) ∧ (qm_st j (64 * dep) t l L m s b (r_v w) M).1 = ((q_stl (23 + j) dep t l L m s g w C).1.1, r_v w')
  | 0, s, g, w, b, C, M, _, _, hw, hb, _, _ => by
    refine ⟨w, rfl, hw, ?_⟩
    rcases hb with rfl | ⟨-, z⟩
    · rfl
    · omega
  | m + 1, s, g, w, b, C, M, e, h1, hw, hb, hC, hM => by
    have z4 : (-4 : Int32).toInt = -4 := rfl
    have z0 : (0 : Int32).toInt = 0 := rfl
    have zk : (1000 : Int32).toInt = 1000 := rfl
    rw [q_stl]
    by_cases c : w = -4
    · subst c
      rw [if_pos rfl]
      refine ⟨-4, rfl, Or.inl rfl, ?_⟩
      rw [show r_v (-4) = 1000 from rfl, qm_st_end hL]
      rcases hb with rfl | ⟨z, -⟩
      · rfl
      · exact absurd z (by decide)
    · rw [if_neg c]
      have hw' : 0 ≤ w.toInt ∧ w.toInt ≤ 999 := by
        rcases hw with z | z
        · exact absurd z c
        · exact z
      have ev : r_v w = w := if_neg c
      have es := nI_toInt (n := s) (by omega)
      obtain ⟨a, hY⟩ := r_hh h hs hj hl (st := nI s) (by omega) (L := L) hd ht hC hM
      have e4 : q_hh C (23 + j) dep t l (nI s) L 68 4 = qm_hh M j (64 * dep) t l (nI s) L 72 24 := hY.2.2.2.2.1.2.2.2.1
      have h4 := qm_hh_4 (M := M) (j := j) (b := l) (g := 64 * dep) (st := nI s) (L := L) (t := t)
      have esv : qm_sv (qm_hh M j (64 * dep) t l (nI s) L) = r_v (q_hh C (23 + j) dep t l (nI s) L 68 4) := by
        unfold qm_sv r_v
        rw [e4]
      rw [qm_st, ev, esv]
      rw [← e4] at h4
      generalize hx : q_hh C (23 + j) dep t l (nI s) L 68 4 = x at *
      have hxr : x = -4 ∨ 0 ≤ x.toInt ∧ x.toInt ≤ 999 := by
        rcases h4 with z | ⟨i, i1, i2, z⟩
        · exact Or.inl z
        · rw [z, nI_toInt (by omega)]
          exact Or.inr ⟨by omega, by omega⟩
      have hx1 : x = -4 ∨ 1 ≤ x.toInt := by
        rcases h4 with z | ⟨i, i1, i2, z⟩
        · exact Or.inl z
        · rw [z, nI_toInt (by omega)]
          exact Or.inr (by omega)
      by_cases c2 : x = -4 ∨ w.toInt < x.toInt
      · have c3 : w.toInt < (r_v x).toInt := by
          unfold r_v
          split
          · omega
          · rcases c2 with z | z
            · contradiction
            · exact z
        rw [if_pos c2, if_pos c3, if_pos c3]
        exact r_st h hs hj hL hl hd ht m (s + 1) (nI s) x (nI s) _ _ (by omega) (by omega) hxr (Or.inl rfl) hY.1 hY.2.1
      · have c3 : ¬ w.toInt < (r_v x).toInt := by
          unfold r_v
          rw [if_neg (fun z => c2 (Or.inl z))]
          exact fun z => c2 (Or.inr z)
        rw [if_neg c2, if_neg c3, if_neg c3]
        have hb' : b = g := by
          rcases hb with z | ⟨z, -⟩
          · exact z
          · refine absurd ?_ c2
            rcases hx1 with y | y
            · exact Or.inl y
            · exact Or.inr (by rw [z]; omega)
        have ih := r_st h hs hj hL hl hd ht m (s + 1) g w b (q_hh C (23 + j) dep t l (nI s) L) (qm_hh M j (64 * dep) t l (nI s) L) (by omega) (by omega) hw (Or.inl hb') hY.1 hY.2.1
        rw [ev] at ih
        exact ih
theorem rE_step {k d t l m w : Int32} : r_E YX7_step YX8_step [.int k, .int d, .int t, .int l, .int m, .int w] := r_E.mk (fun σ h => by
  obtain ⟨N, n, hs⟩ := h.m17
  have hN := hs.1.2.1
  have z0 : (0 : Int32).toInt = 0 := rfl
  have z1 : (1 : Int32).toInt = 1 := rfl
  have z50 : (50 : Int32).toInt = 50 := rfl
  have z9 : (999 : Int32).toInt = 999 := rfl
  by_cases hc : (q_can σ k d t m && q_win l 0 50 && q_win w 0 1) = true
  · rw [Bool.and_eq_true, Bool.and_eq_true] at hc
    obtain ⟨⟨hcan, hl⟩, hw⟩ := hc
    obtain ⟨k1, k2, k3, k4⟩ := q_can_t hcan
    obtain ⟨j, hj, rfl, -⟩ := r_dv hs.1.1 hN k1
    obtain ⟨L, rfl, m1, m9⟩ := q_win_n k4 (by decide)
    obtain ⟨b, rfl, -, b50⟩ := q_win_n hl (by decide)
    have hz := (hs.2.2.2.2.2.2.2.1 j hj).2.2.2.2.2.2.2.2
    have c1 := kX7_step (σ := σ) (j := j) (b := b) (N0 := L) (d := d) (t := t) (w := w) (by omega) (by omega) (by omega) hz hcan hw
    have o : ∀ b', ¬ b' = 68 → ¬ b' = 69 → ¬ b' = 70 → (q_stl (23 + j) d t b L 50 1 1 0 σ).2 b' = σ b' := fun b' h1 h2 h3 => q_stl_o h1 h2 h3 _ _ _ _ _
    have o73 := o 73 (by decide) (by decide) (by decide)
    have o75 := o 75 (by decide) (by decide) (by decide)
    have c2 := kX8_step (σ := (q_stl (23 + j) d t b L 50 1 1 0 σ).2) (j := j) (l := b) (N := L) (dep := d) (t := t) (w := w) (by omega) (by omega) (by omega) (I := r_I σ) (fun τ hI => r_hok h hI.1.2 hI.2.1) (B := fun τ => τ 73 = σ 73 ∧ τ 75 = σ 75) (fun τ s _ hB => ⟨by funext k; rw [qm_hh_o (by omega), hB.1], by funext k; rw [qm_hh_o (by omega), hB.2]⟩) (fun s _ τ i _ hI => hI.hs h hs hj) (fun τ hB => r_I.h0 h k2 hB) ⟨o73, o75⟩ (by rw [r_can h hs o73 o75]; exact hcan) hw
    obtain ⟨w', e1, e2, e3⟩ := r_st h hs hj (dep := d) (t := t) (L := L) (l := b) (by omega) (by omega) k2 k3 50 1 1 0 0 σ (q_stl (23 + j) d t b L 50 1 1 0 σ).2 (by omega) (by omega) (Or.inr (by decide)) (Or.inr ⟨rfl, by omega⟩) (fun _ _ _ _ => rfl) ⟨o73, o75⟩
    rw [show r_v 0 = 0 from rfl] at e3
    have e : (if w = 0 then (q_stl (23 + j) d t b L 50 1 1 0 σ).1.1 else (q_stl (23 + j) d t b L 50 1 1 0 σ).1.2) = qm_str (qm_st j (64 * d) t b L 50 1 0 0 (q_stl (23 + j) d t b L 50 1 1 0 σ).2).1 w := by
      rw [e3, e1]
      unfold qm_str
      by_cases c : w = 0
      · rw [if_pos c, if_pos c]
      · rw [if_neg c, if_neg c]
        show w' = if (999 : Int32).toInt < (r_v w').toInt then -4 else r_v w'
        unfold r_v
        by_cases c2 : w' = -4
        · rw [if_pos c2, if_pos (by decide), c2]
        · rw [if_neg c2]
          rcases e2 with z | z
          · exact absurd z c2
          · rw [if_neg (by omega)]
    rw [e] at c1
    exact ⟨_, _, _, c1, c2, h.hold o (fun c k hk => qm_st_o hk _ _ _ _ _)⟩
  · have hc' : (q_can σ k d t m && q_win l 0 50 && q_win w 0 1) = false := by simpa using hc
    exact ⟨_, _, _, kX7_stepF hc', kX8_stepB (by rw [r_can h hs rfl rfl]; exact hc'), h⟩)
