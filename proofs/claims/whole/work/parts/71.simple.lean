/-! calls that answer alike: the simple ones -/
section R71
variable {σ τ : q_M}
theorem r_R.sc (h : r_R σ) (h1 : ∀ b, b < 64 → ¬ (17 ≤ b ∧ b < 29) → τ b = σ b) (h2 : ∀ b, 74 ≤ b → b < 86 → ¬ b = 81 → ¬ b = 82 → τ b = σ b) (h4 : ∀ k, 100 ≤ k → k < 300 → τ 73 k = σ 73 k) (h3 : ∀ k, k = 10 ∨ k = 15 ∨ k = 30 → τ 72 k = σ 72 k) (hs : ∃ N n, r_s τ 17 0 N n) : r_R τ := by
  obtain ⟨a, -, c, d, e, f⟩ := h
  exact ⟨a.of (h1 _ (by decide) (by decide)) (h1 _ (by decide) (by decide)) (h2 _ (by decide) (by decide) (by decide) (by decide)) (h2 _ (by decide) (by decide) (by decide) (by decide)), hs, c.of (h1 _ (by decide) (by decide)) (h2 _ (by decide) (by decide) (by decide) (by decide)) (fun b _ _ => h1 b (by omega) (by omega)) h4 (by rw [h1 15 (by decide) (by decide)]), d.of (by rw [h1 1 (by decide) (by decide)]) (h1 _ (by decide) (by decide)) (h3 10 (by decide)) (h2 _ (by decide) (by decide) (by decide) (by decide)), e.of (fun b _ _ => h1 b (by omega) (by omega)) (h2 _ (by decide) (by decide) (by decide) (by decide)) (h2 _ (by decide) (by decide) (by decide) (by decide)) (h2 _ (by decide) (by decide) (by decide) (by decide)), f.of (h3 15 (by decide)) (h3 30 (by decide)) (h1 0 (by decide) (by decide))⟩
/-- scalars of the scene change -/
theorem r_s.sca {N n : Nat} (h : r_s σ 17 0 N n) (h1 : ∀ b, 19 ≤ b → b < 29 → τ b = σ b) (h2 : ∀ k, k < 100 → k < 48 ∨ 53 ≤ k → τ 73 k = σ 73 k) (h3 : τ 15 0 = σ 15 0) (h4 : τ 17 2 = σ 17 2) (f3 : τ 73 48 = τ 17 3 ∧ q_win (τ 17 3) 0 500 = true) (f4 : τ 73 49 = τ 17 4 ∧ q_win (τ 17 4) 250 350 = true) (f5 : τ 73 50 = τ 17 5) (f7 : τ 73 51 = τ 17 7 ∧ (τ 17 7 = 0 ∨ τ 17 7 = 1)) (f6 : τ 73 52 = τ 17 6) : r_s τ 17 0 N n := by
  obtain ⟨a, b, c, d, e, f, g, i, j⟩ := h
  refine ⟨⟨h4.trans a.1, a.2.1, (h2 53 (by decide) (by decide)).trans a.2.2⟩, f3, f4, f5, f7, f6, ⟨by rw [h1 (17 + 2) (by decide) (by decide)]; exact g.1, g.2.1, (h2 54 (by decide) (by decide)).trans g.2.2⟩, fun k hk => ⟨fun w hw => ?_, (i k hk).2.of (h1 _ (by omega) (by have := a.2.1; omega)) h3⟩, fun k hk => ?_⟩
  · have := a.2.1
    rw [h2 _ (by omega) (by omega), h1 _ (by omega) (by omega)]
    exact (i k hk).1 w hw
  · have := g.2.1
    unfold r_n
    rw [h2 _ (by omega) (by omega), h2 _ (by omega) (by omega), h2 _ (by omega) (by omega), h1 (17 + 3) (by omega) (by omega), h1 (17 + 4) (by omega) (by omega), h1 (17 + 5) (by omega) (by omega)]
    exact j k hk
/-- what was seen changes -/
theorem r_s.sen {N n m : Nat} (h : r_s σ 17 0 N n) (h1 : ∀ b, b = 17 ∨ (23 ≤ b ∧ b < 29) → τ b = σ b) (h2 : ∀ k, k < 54 → τ 73 k = σ 73 k) (h3 : τ 15 0 = σ 15 0) (hn : τ 19 3 = nI m ∧ m ≤ 12 ∧ τ 73 54 = nI m) (hs : ∀ i, i < m → r_n τ 17 i 0) : r_s τ 17 0 N m := by
  obtain ⟨a, b, c, d, e, f, g, i, j⟩ := h
  have h17 := h1 17 (Or.inl rfl)
  refine ⟨⟨by rw [h17]; exact a.1, a.2.1, (h2 53 (by decide)).trans a.2.2⟩, ⟨by rw [h17]; exact (h2 48 (by decide)).trans b.1, by rw [h17]; exact b.2⟩, ⟨by rw [h17]; exact (h2 49 (by decide)).trans c.1, by rw [h17]; exact c.2⟩, by rw [h17]; exact (h2 50 (by decide)).trans d, ⟨by rw [h17]; exact (h2 51 (by decide)).trans e.1, by rw [h17]; exact e.2⟩, by rw [h17]; exact (h2 52 (by decide)).trans f, hn, fun k hk => ⟨fun w hw => ?_, (i k hk).2.of (h1 _ (Or.inr (by have := a.2.1; omega))) h3⟩, hs⟩
  have := a.2.1
  rw [h2 _ (by omega), h1 _ (Or.inr (by omega))]
  exact (i k hk).1 w hw
/-- the divers change -/
theorem r_s.div {N n : Nat} (h : r_s σ 17 0 N n) (h1 : ∀ b, 17 ≤ b → b < 23 → τ b = σ b) (h2 : ∀ k, k < 100 → 48 ≤ k → τ 73 k = σ 73 k) (hd : ∀ k, k < N → r_d τ (17 + 6 + k) k 0) : r_s τ 17 0 N n := by
  obtain ⟨a, b, c, d, e, f, g, i, j⟩ := h
  have h17 := h1 17 (by decide) (by decide)
  refine ⟨⟨by rw [h17]; exact a.1, a.2.1, (h2 53 (by decide) (by decide)).trans a.2.2⟩, ⟨by rw [h17]; exact (h2 48 (by decide) (by decide)).trans b.1, by rw [h17]; exact b.2⟩, ⟨by rw [h17]; exact (h2 49 (by decide) (by decide)).trans c.1, by rw [h17]; exact c.2⟩, by rw [h17]; exact (h2 50 (by decide) (by decide)).trans d, ⟨by rw [h17]; exact (h2 51 (by decide) (by decide)).trans e.1, by rw [h17]; exact e.2⟩, by rw [h17]; exact (h2 52 (by decide) (by decide)).trans f, ⟨by rw [h1 (17 + 2) (by decide) (by decide)]; exact g.1, g.2.1, (h2 54 (by decide) (by decide)).trans g.2.2⟩, hd, fun k hk => ?_⟩
  have := g.2.1
  unfold r_n
  rw [h2 _ (by omega) (by omega), h2 _ (by omega) (by omega), h2 _ (by omega) (by omega), h1 (17 + 3) (by omega) (by omega), h1 (17 + 4) (by omega) (by omega), h1 (17 + 5) (by omega) (by omega)]
  exact j k hk
end R71
theorem rE_fault : r_E YX7_fault YX8_fault [] := r_E.ask (fun σ h => ⟨_, _, kX7_fault, kX8_fault, h.2.2.2.2.2.1.symm⟩)
theorem rE_torn : r_E YX7_torn YX8_torn [] := r_E.ask (fun σ h => ⟨_, _, kX7_torn, kX8_torn, h.2.2.2.2.2.2.symm⟩)
theorem rE_rule {w : Int32} : r_E YX7_rule YX8_rule [.int w] := r_E.ask (fun σ h => by
  refine ⟨_, _, kX7_rule, kX8_rule, ?_⟩
  obtain ⟨N, n, hs⟩ := h.m17
  by_cases h2 : w = 2
  · rw [if_pos h2, if_pos h2]
    exact hs.2.2.1.1.symm
  · rw [if_neg h2, if_neg h2]
    by_cases h3 : q_win w 0 6 = true
    · rw [if_pos h3, if_pos h3]
      obtain ⟨j, rfl, -, hj⟩ := q_win_n h3 (by decide)
      have e6 : (6 : Int32).toInt = 6 := rfl
      rw [pk_cl j rfl (by omega), h.w (by omega)]
    · rw [if_neg h3, if_neg h3]
      by_cases h4 : q_win w 10 33 = true
      · rw [if_pos h4, if_pos h4]
        obtain ⟨j, rfl, hj0, hj⟩ := q_win_n h4 (by decide)
        have e6 : (33 : Int32).toInt = 33 := rfl
        have e7 : (10 : Int32).toInt = 10 := rfl
        rw [show (10 : Int32) = nI 10 from rfl, pk_sub (by omega), pk_cl (j - 10) rfl (by omega)]
        exact (h.1.2 (j - 10) (by omega)).1.symm
      · rw [if_neg h4, if_neg h4])
theorem rE_press {w : Int32} : r_E YX7_press YX8_press [.int w] := r_E.ask (fun σ h => by
  refine ⟨_, _, kX7_press, kX8_press, ?_⟩
  obtain ⟨N, n, hs⟩ := h.m17
  rw [h.w (by decide), h.w (r := 1) (by decide), show σ 73 48 = σ 17 3 from hs.2.1.1])
theorem rE_end {x : Int32} : r_E YX7_end YX8_end [.int x] := r_E.mk (fun σ h => by
  obtain ⟨L, h1, h2⟩ := h.2.2.2.1
  have h72 : ∀ c : Bool, (if c then q_up σ 1 4 x else σ) 72 = σ 72 := fun c => by cases c <;> rfl
  have e1 := kX8_end (σ := if q_win x 0 (σ 1 4) then q_up σ 1 4 x else σ) (n := x)
  rw [h72] at e1
  have c1 := kX7_end (σ := σ) (n := x)
  rw [h2.1] at e1
  rw [h1] at e1 c1
  refine ⟨_, _, _, c1, e1, ?_⟩
  by_cases hc : q_win x 0 (nI L) = true
  · simp only [if_pos hc]
    obtain ⟨j, rfl, -, hj⟩ := q_win_n hc (by decide)
    have hl := nI_toInt (n := L) (by have := h2.2.1; omega)
    have hjL : j ≤ L := by omega
    obtain ⟨a, b, c, -, e, f⟩ := h
    refine ⟨a.of rfl rfl rfl rfl, ?_, c.of rfl rfl (fun b h1 h2 => ?_) (fun k _ _ => rfl) rfl, ⟨j, rfl, rfl, by have := h2.2.1; omega, fun i hi => h2.2.2 i (by omega)⟩, e.of (fun b h1 h2 => ?_) rfl rfl rfl, f⟩
    · obtain ⟨N, n, hs⟩ := b
      exact ⟨N, n, hs.of (fun b h1 h2 => by rw [q_up_ne (by omega), q_up_ne (by omega)]) (fun k _ => rfl) rfl⟩
    · rw [q_up_ne (by omega), q_up_ne (by omega)]
    · rw [q_up_ne (by omega), q_up_ne (by omega)]
  · simp only [if_neg hc]
    exact h)
theorem rE_thumb {x : Int32} : r_E YX7_thumb YX8_thumb [.int x] := r_E.mk (fun σ h => by
  obtain ⟨N, n, hs⟩ := h.m17
  have h73 : ∀ c : Bool, (if c then q_up σ 17 3 x else σ) 73 = σ 73 := fun c => by cases c <;> rfl
  have e1 := kX8_thumb (σ := if q_win x 0 500 then q_up σ 17 3 x else σ) (x := x)
  rw [h73, show σ 73 48 = σ 17 3 from hs.2.1.1] at e1
  refine ⟨_, _, _, kX7_thumb, e1, ?_⟩
  by_cases hc : q_win x 0 500 = true
  · simp only [if_pos hc]
    refine h.sc (fun b h1 h2 => by rw [q_up_ne (by omega), q_up_ne (by omega)]) (fun b h1 h2 _ _ => by rw [q_up_ne (by omega), q_up_ne (by omega)]) (fun k _ _ => by rw [q_up_f (by omega), q_up_ne (by decide)]) (fun k _ => by rw [q_up_g (by decide), q_up_g (by decide)]) ⟨N, n, hs.sca (fun b h1 h2 => by rw [q_up_ne (by omega), q_up_ne (by omega)]) (fun k h1 h2 => by rw [q_up_f (by omega), q_up_ne (by decide)]) rfl rfl ⟨rfl, hc⟩ hs.2.2.1 hs.2.2.2.1 hs.2.2.2.2.1 hs.2.2.2.2.2.1⟩
  · simp only [if_neg hc]
    exact h)
theorem rE_warm {x : Int32} : r_E YX7_warm YX8_warm [.int x] := r_E.mk (fun σ h => by
  obtain ⟨N, n, hs⟩ := h.m17
  have h73 : ∀ c : Bool, (if c then q_up σ 17 4 x else σ) 73 = σ 73 := fun c => by cases c <;> rfl
  have e1 := kX8_warm (σ := if q_win x 250 350 then q_up σ 17 4 x else σ) (x := x)
  rw [h73, show σ 73 49 = σ 17 4 from hs.2.2.1.1] at e1
  refine ⟨_, _, _, kX7_warm, e1, ?_⟩
  by_cases hc : q_win x 250 350 = true
  · simp only [if_pos hc]
    refine h.sc (fun b h1 h2 => by rw [q_up_ne (by omega), q_up_ne (by omega)]) (fun b h1 h2 _ _ => by rw [q_up_ne (by omega), q_up_ne (by omega)]) (fun k _ _ => by rw [q_up_f (by omega), q_up_ne (by decide)]) (fun k _ => by rw [q_up_g (by decide), q_up_g (by decide)]) ⟨N, n, hs.sca (fun b h1 h2 => by rw [q_up_ne (by omega), q_up_ne (by omega)]) (fun k h1 h2 => by rw [q_up_f (by omega), q_up_ne (by decide)]) rfl rfl hs.2.1 ⟨rfl, hc⟩ hs.2.2.2.1 hs.2.2.2.2.1 hs.2.2.2.2.2.1⟩
  · simp only [if_neg hc]
    exact h)
theorem rE_forget : r_E YX7_forget YX8_forget [] := r_E.mk (fun σ h => by
  obtain ⟨N, n, hs⟩ := h.m17
  have e1 := kX8_forget (σ := q_up σ 19 3 0)
  rw [show q_up σ 19 3 0 73 54 = σ 19 3 from hs.2.2.2.2.2.2.1.2.2.trans hs.2.2.2.2.2.2.1.1.symm] at e1
  refine ⟨_, _, _, kX7_forget, e1, ?_⟩
  exact h.sc (fun b h1 h2 => by rw [q_up_ne (by omega), q_up_ne (by omega)]) (fun b h1 h2 _ _ => by rw [q_up_ne (by omega), q_up_ne (by omega)]) (fun k _ _ => by rw [q_up_f (by omega), q_up_ne (by decide)]) (fun k _ => by rw [q_up_g (by decide), q_up_g (by decide)]) ⟨N, 0, hs.sen (fun b hb => by rw [q_up_ne (by omega), q_up_ne (by omega)]) (fun k hk => by rw [q_up_f (by omega), q_up_ne (by decide)]) rfl ⟨rfl, by decide, rfl⟩ (fun i hi => by omega)⟩)
theorem r_Wm {σ : q_M} (h : r_R σ) {N n : Nat} (hs : r_s σ 17 0 N n) {j : Nat} (hj : j < N) (dep th : Int32) : q_Wm σ j dep th = q_Wc σ (23 + j) dep th := by
  have hd := (hs.2.2.2.2.2.2.2.1 j hj).1
  have e0 : σ 73 (8 * j + 0) = σ (23 + j) 0 := hd 0 (by decide)
  have e5 : σ 73 (8 * j + 5) = σ (23 + j) 4 := hd 5 (by decide)
  have e1 : σ 73 (8 * j + 1) = σ (23 + j) 1 := hd 1 (by decide)
  unfold q_Wm q_Wc
  rw [h.w (r := 1) (by decide), h.w (r := 4) (by decide), h.w (r := 5) (by decide), e0, e5, e1, show σ 73 49 = σ 17 4 from hs.2.2.1.1]
/-- PRESS is above 0 -/
theorem r_pp {σ : q_M} (h : r_R σ) {th dep : Int32} (h1 : 0 ≤ th.toInt) (h2 : th.toInt ≤ 500) (h3 : 0 ≤ dep.toInt) (h4 : dep.toInt ≤ 200) : 0 < (σ 75 1 + th + dep).toInt := by
  obtain ⟨A, -, a1, a2, a3⟩ := r_wA h
  have ea := nI_toInt (n := A) (by omega)
  have e1 : (σ 75 1 + th).toInt = A + th.toInt := by rw [i_add (by rw [a3]; omega) (by rw [a3]; omega), a3, ea]
  rw [i_add (by omega) (by omega), e1]
  omega
theorem rE_weighs {k dep th : Int32} : r_E YX7_weighs YX8_weighs [.int k, .int dep, .int th] := r_E.ask (fun σ h => by
  obtain ⟨N, n, hs⟩ := h.m17
  obtain ⟨H, hH, h10, h200, hH2⟩ := r_wH h
  have e53 : σ 73 53 = nI N := hs.1.2.2
  by_cases hc : (q_win k 0 (σ 17 2 - 1) && q_win dep 0 (σ 15 0) && q_win th 0 500) = true
  · rw [Bool.and_eq_true, Bool.and_eq_true] at hc
    obtain ⟨j, hj, rfl, hjc⟩ := r_dv hs.1.1 hs.1.2.1 hc.1.1
    have e0 : (0 : Int32).toInt = 0 := rfl
    have w1 := q_win_t hc.1.2
    have w2 := q_win_t hc.2
    rw [hH, nI_toInt (by omega)] at w1
    have e5 : (500 : Int32).toInt = 500 := rfl
    refine ⟨_, _, kX7_weighs hs.1.1 hs.1.2.1, kX8_weighs (j := j) (by have := hs.1.2.1; omega) (by rw [r_dq hs.1.1 e53]; exact hc.1.1) (by rw [h.w (by decide)]; exact hc.1.2) hc.2 (r_pp h (by omega) (by omega) (by omega) (by omega)), ?_⟩
    rw [if_pos (by rw [hc.1.1, hc.1.2, hc.2]; rfl), hjc, r_Wm h hs hj]
  · have hc' : (q_win k 0 (σ 17 2 - 1) && q_win dep 0 (σ 15 0) && q_win th 0 500) = false := by simpa using hc
    refine ⟨_, _, kX7_weighs hs.1.1 hs.1.2.1, kX8_weighsB (by rw [r_dq hs.1.1 e53, h.w (by decide)]; exact hc'), ?_⟩
    rw [if_neg hc])
theorem r_dep {σ : q_M} {d : Nat} {H : Nat} (hb : r_b σ d) (hH : σ 15 0 = nI H) (h200 : H ≤ 200) : q_dc (σ d 5) 64 = σ d 5 / 64 ∧ 0 ≤ (σ d 5 / 64).toInt ∧ (σ d 5 / 64).toInt ≤ 200 := by
  have h5 := hb.2.2.2.2.2.1
  rw [hH, nI_toInt (by omega)] at h5
  have e64 : (64 : Int32).toInt = 64 := rfl
  refine ⟨q_dc_pos (by decide), ?_⟩
  rw [i_div (by omega) (by decide), e64]
  omega
theorem rE_diver {k w : Int32} : r_E YX7_diver YX8_diver [.int k, .int w] := r_E.ask (fun σ h => by
  obtain ⟨N, n, hs⟩ := h.m17
  obtain ⟨H, hH, h10, h200, hH2⟩ := r_wH h
  have e53 : σ 73 53 = nI N := hs.1.2.2
  by_cases hc : (q_win k 0 (σ 17 2 - 1) && q_win w 0 9) = true
  · rw [Bool.and_eq_true] at hc
    obtain ⟨j, hj, rfl, hjc⟩ := r_dv hs.1.1 hs.1.2.1 hc.1
    obtain ⟨v, rfl, -, hv⟩ := q_win_n hc.2 (by decide)
    have e9 : (9 : Int32).toInt = 9 := rfl
    have hd := hs.2.2.2.2.2.2.2.1 j hj
    have hdp := r_dep hd.2 hH h200
    have hth := q_win_t hs.2.1.2
    have e0 : (0 : Int32).toInt = 0 := rfl
    have e5 : (500 : Int32).toInt = 500 := rfl
    have e6 : σ 73 (8 * j + 6) = σ (23 + j) 5 := hd.1 6 (by decide)
    have e48 : σ 73 48 = σ 17 3 := hs.2.1.1
    refine ⟨_, _, kX7_diver hs.1.1 hs.1.2.1, kX8_diver (j := j) (by have := hs.1.2.1; omega) (by rw [r_dq hs.1.1 e53]; exact hc.1) (w := v) (by omega) ?_, ?_⟩
    · rw [e48, e6]
      exact r_pp h (by omega) (by omega) hdp.2.1 hdp.2.2
    · rw [if_pos (by rw [hc.1, hc.2]; rfl), hjc, pk_cl v rfl (by omega)]
      rcases (show v = 0 ∨ v = 1 ∨ v = 2 ∨ v = 3 ∨ v = 4 ∨ v = 5 ∨ v = 6 ∨ v = 7 ∨ v = 8 ∨ v = 9 by omega) with rfl | rfl | rfl | rfl | rfl | rfl | rfl | rfl | rfl | rfl
      · exact (hd.1 0 (by decide)).symm
      · exact (hd.1 1 (by decide)).symm
      · exact (hd.1 2 (by decide)).symm
      · exact (hd.1 3 (by decide)).symm
      · have e4 : σ 73 (8 * j + 4) = σ (23 + j) 7 := hd.1 4 (by decide)
        show q_b (q_t (σ (23 + j) 7)) = σ 73 (8 * j + 4)
        rw [e4]
        rcases (show σ (23 + j) 7 = 0 ∨ σ (23 + j) 7 = 1 from hd.2.2.2.2.2.2.2.2) with z | z <;> rw [z] <;> rfl
      · exact (hd.1 5 (by decide)).symm
      · show q_dc (σ (23 + j) 5) 64 = σ 73 (8 * j + 6) / 64
        rw [e6]
        exact hdp.1
      · exact e6.symm
      · exact (hd.1 7 (by decide)).symm
      · show q_Wc σ (23 + j) (q_dc (σ (23 + j) 5) 64) (σ 17 3) = q_Wm σ j (σ 73 (8 * j + 6) / 64) (σ 73 48)
        rw [r_Wm h hs hj, e6, e48, show q_dc (σ (23 + j) 5) 64 = σ (23 + j) 5 / 64 from hdp.1]
  · have hc' : (q_win k 0 (σ 17 2 - 1) && q_win w 0 9) = false := by simpa using hc
    refine ⟨_, _, kX7_diver hs.1.1 hs.1.2.1, kX8_diverB (by rw [r_dq hs.1.1 e53]; exact hc'), ?_⟩
    rw [if_neg hc])
theorem q_bits_c {p q : Nat → Bool} : ∀ n, (∀ k, k < n → p k = q k) → q_bits p n = q_bits q n
  | 0, _ => rfl
  | n + 1, h => by rw [q_bits, q_bits, h n (by omega), q_bits_c n (fun k hk => h k (by omega))]
theorem q_sum_c {f g : Nat → Int32} : ∀ n, (∀ k, k < n → f k = g k) → q_sum f n = q_sum g n
  | 0, _ => rfl
  | n + 1, h => by rw [q_sum, q_sum, h n (by omega), q_sum_c n (fun k hk => h k (by omega))]
theorem q_bt01 {x : Int32} (h : x = 0 ∨ x = 1) : q_b (q_t x) = x := by
  rcases h with z | z <;> rw [z] <;> rfl
theorem rE_now {w : Int32} : r_E YX7_now YX8_now [.int w] := r_E.ask (fun σ h => by
  obtain ⟨N, n, hs⟩ := h.m17
  have e53 : σ 73 53 = nI N := hs.1.2.2
  refine ⟨_, _, kX7_now hs.1.1 hs.1.2.1, kX8_now e53 hs.1.2.1, ?_⟩
  by_cases hc : q_win w 0 5 = true
  · rw [if_pos hc, if_pos hc]
    obtain ⟨v, rfl, -, hv⟩ := q_win_n hc (by decide)
    have e9 : (5 : Int32).toInt = 5 := rfl
    rw [pk_cl v rfl (by omega)]
    have hd := hs.2.2.2.2.2.2.2.1
    have e6 : ∀ j, j < N → σ 73 (8 * j + 6) = σ (23 + j) 5 := fun j hj => (hd j hj).1 6 (by decide)
    rcases (show v = 0 ∨ v = 1 ∨ v = 2 ∨ v = 3 ∨ v = 4 ∨ v = 5 by omega) with rfl | rfl | rfl | rfl | rfl | rfl
    · exact hs.2.2.2.1.symm
    · exact hs.2.1.1.symm
    · exact q_bits_c N (fun k hk => by rw [e6 k hk])
    · exact q_bits_c N (fun k hk => by rw [e6 k hk, h.w (by decide), Int32.mul_comm])
    · exact (q_bt01 hs.2.2.2.2.1.2).trans hs.2.2.2.2.1.1.symm
    · exact hs.2.2.2.2.2.1.symm
  · rw [if_neg hc, if_neg hc])
theorem rE_count {w : Int32} : r_E YX7_count YX8_count [.int w] := r_E.ask (fun σ h => by
  obtain ⟨N, n, hs⟩ := h.m17
  have e53 : σ 73 53 = nI N := hs.1.2.2
  refine ⟨_, _, kX7_count hs.1.1 hs.1.2.1, kX8_count e53 hs.1.2.1, ?_⟩
  by_cases hc : q_win w 0 5 = true
  · rw [if_pos hc, if_pos hc]
    obtain ⟨v, rfl, -, hv⟩ := q_win_n hc (by decide)
    have e9 : (5 : Int32).toInt = 5 := rfl
    rw [pk_cl v rfl (by omega)]
    have hd := hs.2.2.2.2.2.2.2.1
    rcases (show v = 0 ∨ v = 1 ∨ v = 2 ∨ v = 3 ∨ v = 4 ∨ v = 5 by omega) with rfl | rfl | rfl | rfl | rfl | rfl
    · exact hs.1.1.trans e53.symm
    · exact q_sum_c N (fun k hk => (q_bt01 (hd k hk).2.2.2.2.2.2.2.2).trans ((hd k hk).1 4 (by decide)).symm)
    · exact hs.2.2.2.2.2.2.1.1.trans hs.2.2.2.2.2.2.1.2.2.symm
    · show q_b (q_t (σ 30 0)) + q_b (q_t (σ 30 1)) = q_b (q_t (σ 74 0)) + q_b (q_t (σ 74 1))
      rw [(h.2.2.1 0 (by decide)).2.1, (h.2.2.1 1 (by decide)).2.1]
    · obtain ⟨L, h1, h2⟩ := h.2.2.2.1
      exact h1.trans h2.1.symm
    · have h5 := h.2.2.2.2.1 0 (by decide)
      show (if σ 56 1 = -4 then -4 else σ 56 2) = if σ 83 0 = -4 then -4 else σ 84 0
      rw [h5.1, h5.2.1]
  · rw [if_neg hc, if_neg hc])
