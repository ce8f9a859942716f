/-! calls that answer alike: feed, text, read -/
theorem rs_byz (x : Int64) : 0 ≤ (x &&& 255).toInt32.toInt ∧ ((x &&& 255).toInt32 = x.toInt32.toInt8.toInt32 ∨ (x.toInt32.toInt8.toInt32.toInt < 0 ∧ 128 ≤ (x &&& 255).toInt32.toInt)) := by
  have hx : (x &&& 255).toBitVec.toNat = x.toBitVec.toNat % 256 := by
    rw [Int64.toBitVec_and, BitVec.toNat_and]
    exact Nat.and_two_pow_sub_one_eq_mod x.toBitVec.toNat 8
  have hlt : x.toBitVec.toNat % 256 < 256 := Nat.mod_lt _ (by decide)
  have hz0 : (x &&& 255).toInt = ((x.toBitVec.toNat % 256 : Nat) : Int) := by
    show (x &&& 255).toBitVec.toInt = _
    rw [BitVec.toInt_eq_toNat_of_lt (by rw [hx]; omega), hx]
  have hz : (x &&& 255).toInt32.toInt = ((x.toBitVec.toNat % 256 : Nat) : Int) := by
    rw [Int64.toInt_toInt32, hz0]
    exact Int.bmod_eq_of_le (by omega) (by omega)
  have hy : x.toInt32.toInt8.toInt32.toInt = (x.toInt).bmod 256 := by
    rw [Int8.toInt_toInt32, Int32.toInt_toInt8, Int64.toInt_toInt32]
    exact Int.bmod_bmod_of_dvd (by decide)
  have hxi : x.toInt % 256 = ((x.toBitVec.toNat % 256 : Nat) : Int) := by
    have e : x.toInt = x.toBitVec.toInt := rfl
    rw [e, BitVec.toInt_eq_toNat_cond]
    split <;> omega
  refine ⟨by omega, ?_⟩
  rw [hy, hz]
  have hb : x.toInt.bmod 256 = if x.toInt % 256 < 128 then x.toInt % 256 else x.toInt % 256 - 256 := rfl
  by_cases h : x.toInt % 256 < 128
  · left
    apply i_ext
    rw [hz, hy, hb, if_pos h]
    omega
  · right
    rw [hb, if_neg h]
    omega
theorem rs_fd_2 {σ : q_M} {v : Int64} {L i : Nat} : ∀ n, rs_fd σ v L n 2 i = if L ≤ i ∧ i < L + n then rs_by v (i - L) else σ 2 i
  | 0 => by rw [if_neg (by omega)]; rfl
  | n + 1 => by
    rw [rs_fd, q_up_ne (by decide)]
    by_cases h : i = L + n
    · subst h
      rw [q_up_at, if_pos (by omega), Nat.add_sub_cancel_left]
    · rw [q_up_f h, rs_fd_2 n]
      by_cases h2 : L ≤ i ∧ i < L + n
      · rw [if_pos h2, if_pos (by omega)]
      · rw [if_neg h2, if_neg (by omega)]
theorem rs_fd_ne {σ : q_M} {v : Int64} {L x : Nat} (h1 : x ≠ 1) (h2 : x ≠ 2) : ∀ n, rs_fd σ v L n x = σ x
  | 0 => rfl
  | n + 1 => by rw [rs_fd, q_up_ne h1, q_up_ne h2, rs_fd_ne h1 h2 n]
theorem qm_fd_80 {σ : q_M} {v : Int64} {L i : Nat} : ∀ n, qm_fd σ v L n 80 i = if L ≤ i ∧ i < L + n then ((v >>> ((nI (8 * (7 - (i - L)))).toInt64 &&& 63)) &&& 255).toInt32 else σ 80 i
  | 0 => by rw [if_neg (by omega)]; rfl
  | n + 1 => by
    rw [qm_fd, q_up_ne (by decide)]
    by_cases h : i = L + n
    · subst h
      rw [q_up_at, if_pos (by omega), Nat.add_sub_cancel_left]
    · rw [q_up_f h, qm_fd_80 n]
      by_cases h2 : L ≤ i ∧ i < L + n
      · rw [if_pos h2, if_pos (by omega)]
      · rw [if_neg h2, if_neg (by omega)]
theorem qm_fd_ne {σ : q_M} {v : Int64} {L x : Nat} (h1 : x ≠ 72) (h2 : x ≠ 80) : ∀ n, qm_fd σ v L n x = σ x
  | 0 => rfl
  | n + 1 => by rw [qm_fd, q_up_ne h1, q_up_ne h2, qm_fd_ne h1 h2 n]
theorem qm_fd_72 {σ : q_M} {v : Int64} {L k : Nat} (h : k ≠ 10) : ∀ n, qm_fd σ v L n 72 k = σ 72 k
  | 0 => rfl
  | n + 1 => by rw [qm_fd, q_up_f h, q_up_ne (by decide), qm_fd_72 h n]
theorem rs_fd_1 {σ : q_M} {v : Int64} {L k : Nat} (h : k ≠ 4) : ∀ n, rs_fd σ v L n 1 k = σ 1 k
  | 0 => rfl
  | n + 1 => by rw [rs_fd, q_up_f h, q_up_ne (by decide), rs_fd_1 h n]
theorem rE_feed {v : Int64} : r_E YX7_feed YX8_feed [.long v] := r_E.mk (fun σ h => by
  obtain ⟨L, h1, h2⟩ := h.2.2.2.1
  have h320 := h2.2.1
  by_cases hc : 312 < L
  · have m1 := kX8_feed (σ := σ) (v := v) h2.1 h320
    rw [if_pos hc, if_pos hc] at m1
    exact ⟨_, _, _, kX7_feedF h1 h320 hc, m1, h⟩
  · have m1 := kX8_feed (σ := rs_fd σ v L 8) (v := v) (L := L) (by rw [rs_fd_ne (by decide) (by decide)]; exact h2.1) h320
    rw [if_neg hc, if_neg hc] at m1
    refine ⟨_, _, _, kX7_feed h1 (by omega), m1, ?_⟩
    have p : ∀ b, ¬ b = 72 → ¬ b = 80 → ¬ b = 1 → ¬ b = 2 → qm_fd (rs_fd σ v L 8) v L 8 b = σ b := fun b a1 a2 a3 a4 => by rw [qm_fd_ne a1 a2, rs_fd_ne a3 a4]
    obtain ⟨a, ⟨N, n, b⟩, c, d, e, f⟩ := h
    refine ⟨a.of (p _ (by decide) (by decide) (by decide) (by decide)) (p _ (by decide) (by decide) (by decide) (by decide)) (p _ (by decide) (by decide) (by decide) (by decide)) (p _ (by decide) (by decide) (by decide) (by decide)), ⟨N, n, b.of (fun b h1 h2 => p b (by omega) (by omega) (by omega) (by omega)) (fun k _ => by rw [p 73 (by decide) (by decide) (by decide) (by decide)]) (by rw [p 15 (by decide) (by decide) (by decide) (by decide)])⟩, c.of (p _ (by decide) (by decide) (by decide) (by decide)) (p _ (by decide) (by decide) (by decide) (by decide)) (fun b _ _ => p b (by omega) (by omega) (by omega) (by omega)) (fun k _ _ => by rw [p 73 (by decide) (by decide) (by decide) (by decide)]) (by rw [p 15 (by decide) (by decide) (by decide) (by decide)]), ?_, e.of (fun b _ _ => p b (by omega) (by omega) (by omega) (by omega)) (p _ (by decide) (by decide) (by decide) (by decide)) (p _ (by decide) (by decide) (by decide) (by decide)) (p _ (by decide) (by decide) (by decide) (by decide)), f.of (by rw [qm_fd_72 (by decide), rs_fd_ne (by decide) (by decide)]) (by rw [qm_fd_72 (by decide), rs_fd_ne (by decide) (by decide)]) (p _ (by decide) (by decide) (by decide) (by decide))⟩
    refine ⟨L + 8, ?_, ?_, by omega, fun i hi => ?_⟩
    · rw [qm_fd_ne (by decide) (by decide), rs_fd_4 h1]
    · exact qm_fd_10 (by rw [rs_fd_ne (by decide) (by decide)]; exact h2.1) 8
    · rw [qm_fd_80, qm_fd_ne (by decide) (by decide), rs_fd_2]
      by_cases hi2 : L ≤ i ∧ i < L + 8
      · rw [if_pos hi2, if_pos hi2]
        exact rs_byz _
      · rw [if_neg hi2, if_neg hi2, rs_fd_ne (by decide) (by decide)]
        exact h2.2.2 i (by omega))
/-! text -/
theorem rE_text : r_E YX7_text YX8_text [] := by
  intro σ h
  obtain ⟨L, h1, h2⟩ := h.2.2.2.1
  refine ⟨_, kX7_text h1 h2.2.1, fun r s τ hq => ?_⟩
  obtain ⟨rfl, hq⟩ := hq
  refine ⟨rfl, ?_⟩
  cases hr : sp_tx (σ 2) L 321 sp_D0 0 0 with
  | inl w =>
    rw [hr] at hq
    obtain ⟨q1, q2, q3, q4⟩ := hq
    have ht : rm_t τ (σ 2) L := h2.of (by rw [q2.1 72 (by unfold rd_c; omega)]) (q2.1 80 (by unfold rd_c; omega))
    refine ⟨_, q1, _, kX8_text ht, fun r2 s2 ρ hp => ?_⟩
    obtain ⟨rfl, hp⟩ := hp
    rw [hr] at hp
    obtain ⟨p1, p2, p3, p4⟩ := hp
    refine ⟨rfl, p1, ?_⟩
    have o : ∀ b, ¬ (rd_c b ∨ b = 0) → ¬ (b = 72 ∨ b = 77 ∨ b = 78 ∨ b = 79) → ρ b = σ b := fun b a1 a2 => (p2.1 b a2).trans (q2.1 b a1)
    have lo : ∀ b, 14 ≤ b → b < 72 → ρ b = σ b := fun b a1 a2 => o b (by unfold rd_c; omega) (by omega)
    have hi : ∀ b, 73 ≤ b → b < 77 ∨ 80 ≤ b → ρ b = σ b := fun b a1 a2 => o b (by unfold rd_c; omega) (by omega)
    obtain ⟨a, ⟨N, n, b⟩, c, d, e, f⟩ := h
    refine ⟨a.of (lo _ (by decide) (by decide)) (lo _ (by decide) (by decide)) (hi _ (by decide) (by decide)) (hi _ (by decide) (by decide)), ⟨N, n, b.of (fun b _ _ => lo b (by omega) (by omega)) (fun k _ => by rw [hi 73 (by decide) (by decide)]) (by rw [lo 15 (by decide) (by decide)])⟩, c.of (lo _ (by decide) (by decide)) (hi _ (by decide) (by decide)) (fun b _ _ => lo b (by omega) (by omega)) (fun k _ _ => by rw [hi 73 (by decide) (by decide)]) (by rw [lo 15 (by decide) (by decide)]), ⟨0, ?_, p4, by decide, fun i hi => by omega⟩, e.of (fun b _ _ => lo b (by omega) (by omega)) (hi _ (by decide) (by decide)) (hi _ (by decide) (by decide)) (hi _ (by decide) (by decide)), ?_, ?_⟩
    · rw [p2.1 1 (by decide)]
      exact q4
    · rw [p3, p2.1 0 (by decide)]
      exact q3.symm
    · rw [p2.2 30 (by decide), p2.1 0 (by decide), q2.2 10 (by decide), q2.1 72 (by unfold rd_c; omega)]
      exact f.2
  | inr y =>
    rw [hr] at hq
    obtain ⟨q1, κ, rfl, q2, k4, k5, k8, k6, k09, k14⟩ := hq
    have hwf := sp_tx_0 hr
    have ko : ∀ b, ¬ (b = 15 ∨ b = 16 ∨ b = 17 ∨ b = 19 ∨ (23 ≤ b ∧ b < 29) ∨ b = 30) → rd_kd κ y.1.2.2.2.1 b = κ b := fun b hb => by
      unfold rd_kd
      rw [q_fill_ne (by omega), q_up_ne (by omega), q_up_ne (by omega), q_up_ne (by omega), q_up_ne (by omega), q_up_ne (by omega), q_up_ne (by omega), q_cd_ne (by omega), q_up_ne (by omega), q_fill_ne (by omega), q_fill_ne (by omega)]
    have ht : rm_t (rd_kd κ y.1.2.2.2.1) (σ 2) L := h2.of (by rw [ko 72 (by decide), q2.1 72 (by unfold rd_c; omega)]) (by rw [ko 80 (by decide), q2.1 80 (by unfold rd_c; omega)])
    refine ⟨_, q1, _, kX8_text ht, fun r2 s2 ρ hp => ?_⟩
    obtain ⟨rfl, hp⟩ := hp
    rw [hr] at hp
    obtain ⟨p1, μ, rfl, p2, pd, p3, p4⟩ := hp
    refine ⟨rfl, p1, ?_⟩
    have mo : ∀ b, ¬ (b = 73 ∨ b = 74 ∨ b = 75 ∨ b = 76) → qm_kd μ b = μ b := fun b hb => by
      unfold qm_kd
      rw [q_up_ne (by omega), q_up_ne (by omega), q_up_ne (by omega), q_up_ne (by omega), q_up_ne (by omega), q_fill_ne (by omega), q_fill_ne (by omega), q_fill_ne (by omega)]
    have lo : ∀ b, b < 72 → qm_kd μ b = rd_kd κ y.1.2.2.2.1 b := fun b hb => by rw [mo b (by omega), p2.1 b (by omega)]
    have hi : ∀ b, 80 ≤ b → qm_kd μ b = σ b := fun b hb => by rw [mo b (by omega), p2.1 b (by omega), ko b (by omega), q2.1 b (by unfold rd_c; omega)]
    have l2 : ∀ b, 31 ≤ b → b < 72 → qm_kd μ b = σ b := fun b a1 a2 => by rw [lo b a2, ko b (by omega), q2.1 b (by unfold rd_c; omega)]
    obtain ⟨d1, d2, d3, d4, d5, d6, d7⟩ := pd
    have k15 : ∀ j, j < 7 → rd_kd κ y.1.2.2.2.1 15 j = y.1.1 j := fun j hj => by
      unfold rd_kd
      rw [q_fill_ne (by decide), q_up_ne (by decide), q_up_ne (by decide), q_up_ne (by decide), q_up_ne (by decide), q_up_ne (by decide), q_up_ne (by decide), q_cd_ne (by omega), q_up_ne (by decide), q_fill_ne (by decide), q_fill_lo hj]
      exact k4 j hj
    have k16 : ∀ j, j < 24 → rd_kd κ y.1.2.2.2.1 16 j = if y.1.2.1 j = 0 then y.1.1 2 else y.1.2.1 j := fun j hj => by
      unfold rd_kd
      rw [q_fill_ne (by decide), q_up_ne (by decide), q_up_ne (by decide), q_up_ne (by decide), q_up_ne (by decide), q_up_ne (by decide), q_up_ne (by decide), q_cd_ne (by omega), q_up_ne (by decide), q_fill_lo hj]
      exact k5 j hj
    have m75 : ∀ j, j < 7 → qm_kd μ 75 j = y.1.1 j := fun j hj => by
      unfold qm_kd
      rw [q_up_ne (by decide), q_up_ne (by decide), q_up_ne (by decide), q_up_ne (by decide), q_up_ne (by decide), q_fill_ne (by decide), q_fill_ne (by decide), q_fill_lo hj]
      exact d1 j hj
    have m76 : ∀ j, j < 24 → qm_kd μ 76 j = if y.1.2.1 j = 0 then y.1.1 2 else y.1.2.1 j := fun j hj => by
      unfold qm_kd
      rw [q_up_ne (by decide), q_up_ne (by decide), q_up_ne (by decide), q_up_ne (by decide), q_up_ne (by decide), q_fill_ne (by decide), q_fill_lo hj, d2 j hj, d1 2 (by decide)]
    have m73 : ∀ k, k < 100 → ¬ (k = 49 ∨ k = 51 ∨ k = 53) → qm_kd μ 73 k = if k < 48 then μ 79 k else 0 := fun k hk h2 => by
      unfold qm_kd
      rw [q_up_ne (by decide), q_up_ne (by decide), q_up_f (by omega), q_up_f (by omega), q_up_f (by omega), q_fill_lo hk]
    have m49 : qm_kd μ 73 49 = y.1.1 2 := d1 2 (by decide)
    have m51 : qm_kd μ 73 51 = q_b (decide (0 < (y.1.1 6).toInt)) := by
      show q_b (decide (0 < (μ 77 6).toInt)) = _
      rw [d1 6 (by decide)]
    have m53 : qm_kd μ 73 53 = nI y.1.2.2.2.1 := d4
    have m74 : ∀ j, j < 2 → qm_kd μ 74 j = 0 := fun j hj => by
      rcases (show j = 0 ∨ j = 1 by omega) with rfl | rfl <;> rfl
    have c17 : ∀ k, rd_kd κ y.1.2.2.2.1 17 k = if k = 7 then q_b (decide (0 < (y.1.1 6).toInt)) else if k = 6 then 0 else if k = 5 then 0 else if k = 4 then y.1.1 2 else if k = 3 then 0 else if k = 2 then nI y.1.2.2.2.1 else κ 17 k := fun k => by
      unfold rd_kd
      rw [q_fill_ne (by decide), ← k4 6 (by decide), ← k4 2 (by decide)]
      by_cases e7 : k = 7
      · subst e7; rw [q_up_at, if_pos rfl]
      rw [q_up_f e7, if_neg e7]
      by_cases e6 : k = 6
      · subst e6; rw [q_up_at, if_pos rfl]
      rw [q_up_f e6, if_neg e6]
      by_cases e5 : k = 5
      · subst e5; rw [q_up_at, if_pos rfl]
      rw [q_up_f e5, if_neg e5]
      by_cases e4 : k = 4
      · subst e4; rw [q_up_at, if_pos rfl]
      rw [q_up_f e4, if_neg e4]
      by_cases e3 : k = 3
      · subst e3; rw [q_up_at, if_pos rfl]
      rw [q_up_f e3, if_neg e3, q_up_ne (by decide), q_cd_ne (by omega)]
      by_cases e2 : k = 2
      · subst e2; rw [q_up_at, if_pos rfl]
      rw [q_up_f e2, if_neg e2, q_fill_ne (by decide), q_fill_ne (by decide)]
    have c19 : rd_kd κ y.1.2.2.2.1 19 3 = 0 := by
      unfold rd_kd
      rw [q_fill_ne (by decide), q_up_ne (by decide), q_up_ne (by decide), q_up_ne (by decide), q_up_ne (by decide), q_up_ne (by decide), q_up_at]
    have c23 : ∀ k, k < y.1.2.2.2.1 → ∀ w, w < 8 → rd_kd κ y.1.2.2.2.1 (23 + k) w = y.1.2.2.2.2 k w := fun k hk w hw => by
      unfold rd_kd
      rw [q_fill_ne (by omega), q_up_ne (by omega), q_up_ne (by omega), q_up_ne (by omega), q_up_ne (by omega), q_up_ne (by omega), q_up_ne (by omega)]
      unfold q_cd
      rw [if_pos (by omega), show 8 + (23 + k - 23) = 8 + k by omega]
      show (if w < 8 then _ else _) = _
      rw [if_pos hw, q_up_ne (by omega), q_fill_ne (by omega), q_fill_ne (by omega)]
      exact k8 k hk w hw
    have c30 : ∀ j, j < 2 → rd_kd κ y.1.2.2.2.1 30 j = 0 := fun j hj => by
      unfold rd_kd
      rw [q_fill_lo hj]
    have r01 : ∀ c : Bool, q_b c = 0 ∨ q_b c = 1 := fun c => by cases c <;> decide
    refine ⟨⟨fun r hr => ?_, fun j hj => ?_⟩, ⟨y.1.2.2.2.1, 0, ?_⟩, fun j hj => ?_, ⟨0, ?_, ?_, by decide, fun i hi => by omega⟩, h.2.2.2.2.1.of (fun b a1 a2 => l2 b (by omega) (by omega)) (hi _ (by decide)) (hi _ (by decide)) (hi _ (by decide)), ?_, ?_⟩
    · rw [lo 15 (by decide), m75 r hr, k15 r hr]
      exact ⟨rfl, hwf.1 r hr⟩
    · rw [lo 16 (by decide), m76 j hj, k16 j hj]
      refine ⟨rfl, ?_⟩
      by_cases z : y.1.2.1 j = 0
      · rw [if_pos z]
        exact hwf.1 2 (by decide)
      · rw [if_neg z]
        exact (hwf.2.1 j hj).resolve_left z
    · unfold r_s
      rw [lo 17 (by decide), lo (17 + 2) (by decide), c17 2, c17 3, c17 4, c17 5, c17 6, c17 7, show (17 + 2 : Nat) = 19 from rfl, c19, show (53 + 0 : Nat) = 53 from rfl, show (48 + 0 : Nat) = 48 from rfl, show (49 + 0 : Nat) = 49 from rfl, show (50 + 0 : Nat) = 50 from rfl, show (51 + 0 : Nat) = 51 from rfl, show (52 + 0 : Nat) = 52 from rfl, show (54 + 0 : Nat) = 54 from rfl, m53, m49, m51, m73 48 (by decide) (by decide), m73 50 (by decide) (by decide), m73 52 (by decide) (by decide), m73 54 (by decide) (by decide)]
      refine ⟨⟨rfl, k6, rfl⟩, ⟨rfl, (show q_win 0 0 500 = true by decide)⟩, ⟨rfl, hwf.1 2 (by decide)⟩, rfl, ⟨rfl, r01 _⟩, rfl, ⟨rfl, by decide, rfl⟩, fun k hk => ?_, fun i hi => by omega⟩
      have hh := hwf.2.2.2 k hk
      have cc : ∀ w, w < 8 → qm_kd μ (17 + 6 + k) w = y.1.2.2.2.2 k w := fun w hw => by
        rw [lo _ (by omega)]
        exact c23 k hk w hw
      refine ⟨fun w hw => ?_, ?_⟩
      · have h8 : ∀ w, w < 8 → rm_o w < 8 := by decide
        rw [Nat.add_zero, m73 _ (by omega) (by omega), if_pos (by omega), cc _ (h8 w hw)]
        exact d6 k hk w hw
      · unfold r_b
        rw [cc 0 (by decide), cc 1 (by decide), cc 2 (by decide), cc 3 (by decide), cc 4 (by decide), cc 5 (by decide), cc 6 (by decide), cc 7 (by decide), hh.2.2.2.2.1, hh.2.2.2.2.2.1, hh.2.2.2.2.2.2.1]
        have hH : 10 ≤ (qm_kd μ 15 0).toInt := by
          rw [lo 15 (by decide), k15 0 (by decide)]
          exact (q_win_t (hwf.1 0 (by decide))).1
        have e0 : (0 : Int32).toInt = 0 := rfl
        exact ⟨hh.1, hh.2.1, hh.2.2.1, hh.2.2.2.1, by decide, ⟨by omega, by omega⟩, ⟨by decide, by decide⟩, hh.2.2.2.2.2.2.2⟩
    · rw [lo 30 (by decide), c30 j hj, m74 j hj]
      exact ⟨Or.inl rfl, rfl, fun z => absurd rfl z⟩
    · rw [lo 1 (by decide), ko 1 (by decide)]
      exact k14
    · rw [mo 72 (by decide)]
      exact p4
    · rw [mo 72 (by decide), lo 0 (by decide), ko 0 (by decide), k09]
      exact p3
    · rw [mo 72 (by decide), p2.2 30 (by decide), lo 0 (by decide), ko 0 (by decide), ko 72 (by decide), q2.2 10 (by decide), q2.1 72 (by unfold rd_c; omega)]
      exact h.2.2.2.2.2.2
