/-! calls that answer alike: those that change the scene, images, sheets -/
theorem rE_set {k dep : Int32} : r_E YX7_set YX8_set [.int k, .int dep] := r_E.mk (fun σ h => by
  obtain ⟨N, n, hs⟩ := h.m17
  obtain ⟨H, hH, h10, h200, hH2⟩ := r_wH h
  have e53 : σ 73 53 = nI N := hs.1.2.2
  have c1 := kX7_set (σ := σ) hs.1.1 hs.1.2.1 (k := k) (dep := dep)
  by_cases hc : (q_win k 0 (σ 17 2 - 1) && q_win dep 0 (σ 15 0)) = true
  · have hc2 := hc
    rw [Bool.and_eq_true] at hc2
    obtain ⟨j, hj, rfl, hjc⟩ := r_dv hs.1.1 hs.1.2.1 hc2.1
    obtain ⟨v, rfl, -, hv⟩ := q_win_n hc2.2 (by decide)
    rw [hH, nI_toInt (by omega)] at hv
    have hN := hs.1.2.1
    have hd := hs.2.2.2.2.2.2.2.1 j hj
    have hdp := r_dep hd.2 hH h200
    have e6 : σ 73 (8 * j + 6) = σ (23 + j) 5 := hd.1 6 (by decide)
    rw [if_pos hc, if_pos hc, hjc] at c1
    have e1 := kX8_set (σ := q_up (q_up σ (23 + j) 5 (nI v * 64)) (23 + j) 6 0) (j := j) (dep := nI v) (by omega) (by rw [q_up_ne (by omega), q_up_ne (by omega), r_dq hs.1.1 e53]; exact hc2.1) (by rw [q_up_ne (by omega), q_up_ne (by omega), h.w (by decide)]; exact hc2.2)
    rw [show q_up (q_up σ (23 + j) 5 (nI v * 64)) (23 + j) 6 0 73 = σ 73 by rw [q_up_ne (by omega), q_up_ne (by omega)], e6, ← hdp.1] at e1
    refine ⟨_, _, _, c1, e1, ?_⟩
    have ev : (nI v * 64).toInt = 64 * v := by
      rw [show (64 : Int32) = nI 64 from rfl, pk_mul, nI_toInt (by omega)]
      omega
    refine h.sc (fun b h1 h2 => by rw [q_up_ne (by omega), q_up_ne (by omega), q_up_ne (by omega), q_up_ne (by omega)]) (fun b h1 h2 _ _ => by rw [q_up_ne (by omega), q_up_ne (by omega), q_up_ne (by omega), q_up_ne (by omega)]) (fun i _ _ => by rw [q_up_f (by omega), q_up_f (by omega), q_up_ne (by omega), q_up_ne (by omega)]) (fun i _ => by rw [q_up_g (by decide), q_up_g (by decide), q_up_g (by omega), q_up_g (by omega)]) ⟨N, n, hs.div (fun b h1 h2 => by rw [q_up_ne (by omega), q_up_ne (by omega), q_up_ne (by omega), q_up_ne (by omega)]) (fun i _ _ => by rw [q_up_f (by omega), q_up_f (by omega), q_up_ne (by omega), q_up_ne (by omega)]) (fun i hi => ?_)⟩
    have hdi := hs.2.2.2.2.2.2.2.1 i hi
    have h15 : q_up (q_up (q_up (q_up σ (23 + j) 5 (nI v * 64)) (23 + j) 6 0) 73 (8 * j + 6) (64 * nI v)) 73 (8 * j + 7) 0 15 0 = σ 15 0 := by rw [q_up_ne (by omega), q_up_ne (by omega), q_up_ne (by omega), q_up_ne (by omega)]
    by_cases hij : i = j
    · subst hij
      refine ⟨fun w hw => ?_, ?_⟩
      · rw [Nat.add_zero]
        by_cases h7 : w = 7
        · subst h7
          rw [q_up_at, q_up_ne (by omega), q_up_ne (by omega)]
          exact (q_up_at _ _ _ _).symm
        · rw [q_up_f (by omega)]
          by_cases h6 : w = 6
          · subst h6
            rw [q_up_at, q_up_ne (by omega), q_up_ne (by omega), Int32.mul_comm]
            show _ = q_up (q_up σ (23 + i) 5 (nI v * 64)) (23 + i) 6 0 (23 + i) 5
            rw [q_up_f (by decide), q_up_at]
          · rw [q_up_f (by omega), q_up_ne (by omega), q_up_ne (by omega), q_up_ne (by omega), q_up_ne (by omega)]
            have hne : rm_o w ≠ 6 ∧ rm_o w ≠ 5 := by
              have z : ∀ w, w < 8 → ¬ w = 7 → ¬ w = 6 → rm_o w ≠ 6 ∧ rm_o w ≠ 5 := by decide
              exact z w hw h7 h6
            show _ = q_up (q_up σ (23 + i) 5 (nI v * 64)) (23 + i) 6 0 (23 + i) (rm_o w)
            rw [q_up_f hne.1, q_up_f hne.2]
            exact hdi.1 w hw
      · have hcell : ∀ w, w ≠ 6 → w ≠ 5 → q_up (q_up (q_up (q_up σ (23 + i) 5 (nI v * 64)) (23 + i) 6 0) 73 (8 * i + 6) (64 * nI v)) 73 (8 * i + 7) 0 (17 + 6 + i) w = σ (23 + i) w := fun w a b => by
          rw [q_up_ne (by omega), q_up_ne (by omega)]
          show q_up (q_up σ (23 + i) 5 (nI v * 64)) (23 + i) 6 0 (23 + i) w = _
          rw [q_up_f a, q_up_f b]
        have c5 : q_up (q_up (q_up (q_up σ (23 + i) 5 (nI v * 64)) (23 + i) 6 0) 73 (8 * i + 6) (64 * nI v)) 73 (8 * i + 7) 0 (17 + 6 + i) 5 = nI v * 64 := by
          rw [q_up_ne (by omega), q_up_ne (by omega)]
          show q_up (q_up σ (23 + i) 5 (nI v * 64)) (23 + i) 6 0 (23 + i) 5 = _
          rw [q_up_f (by decide), q_up_at]
        have c6 : q_up (q_up (q_up (q_up σ (23 + i) 5 (nI v * 64)) (23 + i) 6 0) 73 (8 * i + 6) (64 * nI v)) 73 (8 * i + 7) 0 (17 + 6 + i) 6 = 0 := by
          rw [q_up_ne (by omega), q_up_ne (by omega)]
          exact q_up_at _ _ _ _
        unfold r_b
        rw [h15, c5, c6, hcell 0 (by decide) (by decide), hcell 1 (by decide) (by decide), hcell 2 (by decide) (by decide), hcell 3 (by decide) (by decide), hcell 4 (by decide) (by decide), hcell 7 (by decide) (by decide)]
        have hb := hdi.2
        refine ⟨hb.1, hb.2.1, hb.2.2.1, hb.2.2.2.1, hb.2.2.2.2.1, ⟨by omega, ?_⟩, ⟨by decide, by decide⟩, hb.2.2.2.2.2.2.2⟩
        rw [ev, hH, nI_toInt (by omega)]
        omega
    · refine ⟨fun w hw => ?_, hdi.2.of ?_ h15⟩
      · rw [q_up_f (by omega), q_up_f (by omega), q_up_ne (by omega), q_up_ne (by omega), q_up_ne (by omega), q_up_ne (by omega), q_up_ne (by omega), q_up_ne (by omega)]
        exact hdi.1 w hw
      · rw [q_up_ne (by omega), q_up_ne (by omega), q_up_ne (by omega), q_up_ne (by omega)]
  · have hc' : (q_win k 0 (σ 17 2 - 1) && q_win dep 0 (σ 15 0)) = false := by simpa using hc
    rw [if_neg hc, if_neg hc] at c1
    exact ⟨_, _, _, c1, kX8_setB (by rw [r_dq hs.1.1 e53, h.w (by decide)]; exact hc'), h⟩)
theorem rE_drop : r_E YX7_drop YX8_drop [] := r_E.mk (fun σ h => by
  obtain ⟨N, n, hs⟩ := h.m17
  have e53 : σ 73 53 = nI N := hs.1.2.2
  have hN := hs.1.2.1
  have c1 := kX7_drop (σ := σ) hs.1.1 hs.1.2.1
  have e51 : σ 73 51 = σ 17 7 := hs.2.2.2.2.1.1
  have h01 := hs.2.2.2.2.1.2
  by_cases hc : σ 15 6 = 0 ∨ ¬ σ 17 7 = 0
  · rw [if_pos hc, if_pos hc] at c1
    have e1 := kX8_drop (σ := σ) e53 hs.1.2.1
    have hc2 : σ 75 6 = 0 ∨ σ 73 51 = 1 := by
      rw [h.w (by decide), e51]
      rcases hc with z | z
      · exact Or.inl z
      · exact Or.inr (h01.resolve_left z)
    rw [if_pos hc2, if_pos hc2] at e1
    exact ⟨_, _, _, c1, e1, h⟩
  · rw [if_neg hc, if_neg hc] at c1
    have m73 : q_up (q_dr σ N) 17 7 1 73 = σ 73 := by
      rw [q_up_ne (by decide)]
      exact if_neg (by omega)
    have m75 : q_up (q_dr σ N) 17 7 1 75 = σ 75 := by
      rw [q_up_ne (by decide)]
      exact if_neg (by omega)
    have e1 := kX8_drop (σ := q_up (q_dr σ N) 17 7 1) (by rw [m73]; exact e53) hs.1.2.1
    have hc2 : ¬ (q_up (q_dr σ N) 17 7 1 75 6 = 0 ∨ q_up (q_dr σ N) 17 7 1 73 51 = 1) := by
      rw [m73, m75, h.w (by decide), e51]
      rintro (z | z)
      · exact hc (Or.inl z)
      · exact hc (Or.inr (by rw [z]; decide))
    rw [if_neg hc2, if_neg hc2] at e1
    refine ⟨_, _, _, c1, e1, ?_⟩
    -- the divers first
    have hd1 : r_s (q_drm (q_dr σ N) N) 17 0 N n := by
      refine hs.div (fun b h1 h2 => ?_) (fun k h1 h2 => ?_) (fun k hk => ?_)
      · show (if b = 73 then _ else q_dr σ N b) = σ b
        rw [if_neg (by omega)]
        exact if_neg (by omega)
      · show (if k < 8 * N ∧ k % 8 = 5 then 0 else q_dr σ N 73 k) = σ 73 k
        rw [if_neg (by omega)]
        show (if 23 ≤ 73 ∧ 73 < 23 + N then _ else σ 73) k = _
        rw [if_neg (by omega)]
      · have hdi := hs.2.2.2.2.2.2.2.1 k hk
        have hcell : q_drm (q_dr σ N) N (17 + 6 + k) = upd (σ (23 + k)) 4 0 := by
          show (if 17 + 6 + k = 73 then _ else q_dr σ N (17 + 6 + k)) = _
          rw [if_neg (by omega)]
          exact if_pos (by omega)
        have h15 : q_drm (q_dr σ N) N 15 0 = σ 15 0 := by
          show q_dr σ N 15 0 = _
          show (if 23 ≤ 15 ∧ 15 < 23 + N then _ else σ 15) 0 = _
          rw [if_neg (by omega)]
        refine ⟨fun w hw => ?_, ?_⟩
        · rw [hcell]
          show (if 8 * k + w + 0 < 8 * N ∧ (8 * k + w + 0) % 8 = 5 then 0 else q_dr σ N 73 (8 * k + w + 0)) = _
          by_cases h5 : w = 5
          · subst h5
            rw [if_pos (by omega)]
            exact pk_us.symm
          · rw [if_neg (by omega)]
            have hne : rm_o w ≠ 4 := by
              have z : ∀ w, w < 8 → ¬ w = 5 → rm_o w ≠ 4 := by decide
              exact z w hw h5
            rw [pk_un hne]
            show (if 23 ≤ 73 ∧ 73 < 23 + N then _ else σ 73) _ = _
            rw [if_neg (by omega)]
            exact hdi.1 w hw
        · unfold r_b
          rw [hcell, h15, pk_un (show (0 : Nat) ≠ 4 by decide), pk_un (show (1 : Nat) ≠ 4 by decide), pk_un (show (2 : Nat) ≠ 4 by decide), pk_un (show (3 : Nat) ≠ 4 by decide), pk_us, pk_un (show (5 : Nat) ≠ 4 by decide), pk_un (show (6 : Nat) ≠ 4 by decide), pk_un (show (7 : Nat) ≠ 4 by decide)]
          have hb := hdi.2
          exact ⟨hb.1, hb.2.1, hb.2.2.1, hb.2.2.2.1, by decide, hb.2.2.2.2.2⟩
    have ox : ∀ b, ¬ b = 73 → ¬ b = 17 → q_up (q_drm (q_up (q_dr σ N) 17 7 1) N) 73 51 1 b = q_drm (q_dr σ N) N b := fun b a1 a2 => by
      rw [q_up_ne a1]
      show (if b = 73 then _ else q_up (q_dr σ N) 17 7 1 b) = if b = 73 then _ else q_dr σ N b
      rw [if_neg a1, if_neg a1, q_up_ne a2]
    have oy : ∀ b, ¬ b = 73 → ¬ (17 ≤ b ∧ b < 29) → q_drm (q_dr σ N) N b = σ b := fun b a1 a2 => by
      show (if b = 73 then _ else q_dr σ N b) = _
      rw [if_neg a1]
      exact if_neg (by omega)
    have o73 : ∀ k, ¬ k = 51 → q_up (q_drm (q_up (q_dr σ N) 17 7 1) N) 73 51 1 73 k = q_drm (q_dr σ N) N 73 k := fun k hk => by
      rw [q_up_f hk]
      rfl
    have o17 : ∀ k, ¬ k = 7 → q_up (q_drm (q_up (q_dr σ N) 17 7 1) N) 73 51 1 17 k = σ 17 k := fun k hk => by
      rw [q_up_ne (by decide)]
      show q_up (q_dr σ N) 17 7 1 17 k = _
      rw [q_up_f hk]
      show (if 23 ≤ 17 ∧ 17 < 23 + N then _ else σ 17) k = _
      rw [if_neg (by omega)]
    have o17' : ∀ k, q_drm (q_dr σ N) N 17 k = σ 17 k := fun k => rfl
    have o73' : ∀ k, 48 ≤ k → q_drm (q_dr σ N) N 73 k = σ 73 k := fun k hk => by
      show (if k < 8 * N ∧ k % 8 = 5 then 0 else q_dr σ N 73 k) = σ 73 k
      rw [if_neg (by omega)]
      show (if 23 ≤ 73 ∧ 73 < 23 + N then _ else σ 73) k = _
      rw [if_neg (by omega)]
    refine h.sc (fun b h1 h2 => by rw [ox b (by omega) (by omega), oy b (by omega) h2]) (fun b h1 h2 _ _ => by rw [ox b (by omega) (by omega), oy b (by omega) (by omega)]) (fun k _ _ => by rw [o73 k (by omega), o73' k (by omega)]) (fun k _ => by rw [ox 72 (by decide) (by decide), oy 72 (by decide) (by decide)]) ⟨N, n, hd1.sca (fun b h1 h2 => ox b (by omega) (by omega)) (fun k h1 h2 => o73 k (by omega)) (by rw [ox 15 (by decide) (by decide)]) ?_ ?_ ?_ ?_ ?_ ?_⟩
    · rw [o17 2 (by decide), o17']
    · rw [o17 3 (by decide), o73 48 (by decide), o73' 48 (by decide)]
      exact hs.2.1
    · rw [o17 4 (by decide), o73 49 (by decide), o73' 49 (by decide)]
      exact hs.2.2.1
    · rw [o17 5 (by decide), o73 50 (by decide), o73' 50 (by decide)]
      exact hs.2.2.2.1
    · rw [q_up_at]
      have : q_up (q_drm (q_up (q_dr σ N) 17 7 1) N) 73 51 1 17 7 = 1 := by
        rw [q_up_ne (by decide)]
        show q_up (q_dr σ N) 17 7 1 17 7 = 1
        exact q_up_at _ _ _ _
      rw [this]
      exact ⟨rfl, Or.inr rfl⟩
    · rw [o17 6 (by decide), o73 52 (by decide), o73' 52 (by decide)]
      exact hs.2.2.2.2.2.1)
theorem rE_saw {t d b : Int32} (hb : b = 0 ∨ b = 1) : r_E YX7_saw YX8_saw [.int t, .int d, .int b] := r_E.mk (fun σ h => by
  obtain ⟨N, n, hs⟩ := h.m17
  obtain ⟨H, hH, h10, h200, hH2⟩ := r_wH h
  have hn := hs.2.2.2.2.2.2.1
  by_cases hc : (q_win t 0 500 && q_win d 0 (σ 15 0)) = true
  · rw [Bool.and_eq_true] at hc
    by_cases h12 : n = 12
    · subst h12
      exact ⟨_, _, _, kX7_sawF hn.1 hc.1 hc.2, kX8_sawF hn.2.2 hc.1 (by rw [h.w (by decide)]; exact hc.2), h⟩
    · have hl : n < 12 := by have := hn.2.1; omega
      have c1 := kX7_saw (σ := σ) hn.1 hl hc.1 hc.2 hb
      have o : ∀ x, ¬ (19 ≤ x ∧ x < 23) → q_sn σ 19 20 21 22 n t d b x = σ x := fun x hx => by
        unfold q_sn
        rw [q_up_ne (by omega), q_up_ne (by omega), q_up_ne (by omega), q_up_ne (by omega)]
      have e1 := kX8_saw (σ := q_sn σ 19 20 21 22 n t d b) (n := n) (t := t) (d := d) (b := b) (by rw [o 73 (by decide)]; exact hn.2.2) hl hc.1 (by rw [o 75 (by decide), h.w (by decide)]; exact hc.2)
      refine ⟨_, _, _, c1, e1, ?_⟩
      have p : ∀ x, ¬ x = 73 → qm_sn (q_sn σ 19 20 21 22 n t d b) n t d b x = q_sn σ 19 20 21 22 n t d b x := fun x hx => by
        unfold qm_sn
        rw [q_up_ne hx, q_up_ne hx, q_up_ne hx, q_up_ne hx]
      have p73 : ∀ k, ¬ (k = 54 ∨ (55 + 3 * n ≤ k ∧ k < 58 + 3 * n)) → qm_sn (q_sn σ 19 20 21 22 n t d b) n t d b 73 k = σ 73 k := fun k hk => by
        unfold qm_sn
        rw [q_up_f (by omega), q_up_f (by omega), q_up_f (by omega), q_up_f (by omega), o 73 (by decide)]
      have hw := q_win_t hc.2
      rw [hH, nI_toInt (by omega)] at hw
      have e0 : (0 : Int32).toInt = 0 := rfl
      have e2 : (200 : Int32).toInt = 200 := rfl
      refine h.sc (fun x h1 h2 => by rw [p x (by omega), o x (by omega)]) (fun x h1 h2 _ _ => by rw [p x (by omega), o x (by omega)]) (fun k _ _ => p73 k (by omega)) (fun k _ => by rw [p 72 (by decide), o 72 (by decide)]) ⟨N, n + 1, hs.sen (fun x hx => by rw [p x (by omega), o x (by omega)]) (fun k hk => p73 k (by omega)) (by rw [p 15 (by decide), o 15 (by decide)]) ⟨?_, by omega, ?_⟩ (fun i hi => ?_)⟩
      · rw [p 19 (by decide)]
        exact q_up_at _ _ _ _
      · exact q_up_at _ _ _ _
      · have c20 : ∀ i, q_sn σ 19 20 21 22 n t d b 20 i = if i = n then t else σ 20 i := fun i => by
          unfold q_sn
          rw [q_up_ne (by decide), q_up_ne (by decide), q_up_ne (by decide)]
          by_cases e : i = n
          · rw [if_pos e, e, q_up_at]
          · rw [if_neg e, q_up_f e]
        have c21 : ∀ i, q_sn σ 19 20 21 22 n t d b 21 i = if i = n then d else σ 21 i := fun i => by
          unfold q_sn
          rw [q_up_ne (by decide), q_up_ne (by decide)]
          by_cases e : i = n
          · rw [if_pos e, e, q_up_at]
          · rw [if_neg e, q_up_f e, q_up_ne (by decide)]
        have c22 : ∀ i, q_sn σ 19 20 21 22 n t d b 22 i = if i = n then b else σ 22 i := fun i => by
          unfold q_sn
          rw [q_up_ne (by decide)]
          by_cases e : i = n
          · rw [if_pos e, e, q_up_at]
          · rw [if_neg e, q_up_f e, q_up_ne (by decide), q_up_ne (by decide)]
        unfold r_n
        rw [p (17 + 3) (by decide), p (17 + 4) (by decide), p (17 + 5) (by decide), show (17 + 3 : Nat) = 20 from rfl, show (17 + 4 : Nat) = 21 from rfl, show (17 + 5 : Nat) = 22 from rfl, c20, c21, c22]
        by_cases e : i = n
        · subst e
          rw [if_pos rfl, if_pos rfl, if_pos rfl]
          refine ⟨⟨?_, ?_, ?_⟩, hc.1, decide_eq_true (by omega), hb⟩
          · unfold qm_sn
            rw [q_up_f (by omega), q_up_f (by omega), q_up_f (by omega)]
            exact q_up_at _ _ _ _
          · unfold qm_sn
            rw [q_up_f (by omega), q_up_f (by omega)]
            exact q_up_at _ _ _ _
          · unfold qm_sn
            rw [q_up_f (by omega)]
            exact (q_up_at _ _ _ _).trans (q_bt01 hb)
        · rw [if_neg e, if_neg e, if_neg e, p73 _ (by omega), p73 _ (by omega), p73 _ (by omega)]
          exact hs.2.2.2.2.2.2.2.2 i (by omega)
  · have hc' : (q_win t 0 500 && q_win d 0 (σ 15 0)) = false := by simpa using hc
    exact ⟨_, _, _, kX7_sawB hc', kX8_sawB (by rw [h.w (by decide)]; exact hc'), h⟩)
