/-! calls that answer alike: read -/
theorem rs_r_c {ln asked f0 H : Int32} {m : Nat} (hm : m ≤ 40) {ce cf : Nat → Int32} (h : ∀ x, x < 40 → ce x = cf x) {sc : Nat} : ∀ n i, (i = 0 ∨ 0 ≤ f0.toInt) → rs_r ln (nI m) asked f0 H ce sc n i = rs_r ln (nI m) asked f0 H cf sc n i
  | 0, _, _ => rfl
  | n + 1, i, hi => by
    rw [rs_r, rs_r]
    by_cases h0 : rs_f ln (nI m) asked (f0.toInt + 3 * i) = 0
    · obtain ⟨-, -, f3, f4⟩ := rs_f_0 h0
      rw [nI_toInt (by omega)] at f4
      have hf : 0 ≤ f0.toInt := by
        rcases hi with z | z
        · subst z
          omega
        · exact z
      have hv : rs_v H ce f0.toInt.toNat i = rs_v H cf f0.toInt.toNat i := by
        unfold rs_v
        rw [h _ (by omega), h _ (by omega), h _ (by omega)]
      have hn : ¬ ¬ rs_f ln (nI m) asked (f0.toInt + 3 * i) = 0 := fun z => z h0
      rw [if_neg hn, if_neg hn, hv, rs_r_c hm h n (i + 1) (Or.inr hf)]
    · rw [if_pos h0, if_pos h0]
section RAM
variable {σ : q_M} {gg : Nat → Int32 × Int32 × Int32} {s : Nat}
theorem rs_am_o {k : Nat} (hk : ¬ (k = 54 ∨ 55 + 3 * s ≤ k)) : ∀ i, rs_am σ gg s i 73 k = σ 73 k
  | 0 => rfl
  | i + 1 => by
    rw [rs_am, qm_sn, q_up_f (by omega), q_up_f (by omega), q_up_f (by omega), q_up_f (by omega)]
    exact rs_am_o hk i
theorem rs_am_h {k : Nat} {w : Nat} (hk : 55 + 3 * (s + w) ≤ k) : ∀ i, i ≤ w → rs_am σ gg s i 73 k = σ 73 k
  | 0, _ => rfl
  | i + 1, hi => by
    rw [rs_am, qm_sn, q_up_f (by omega), q_up_f (by omega), q_up_f (by omega), q_up_f (by omega)]
    exact rs_am_h hk i (by omega)
theorem rs_am_v {k : Nat} : ∀ i, rs_am σ gg s i 73 (55 + 3 * k) = (if s ≤ k ∧ k < s + i then (gg (k - s)).1 else σ 73 (55 + 3 * k)) ∧ rs_am σ gg s i 73 (55 + 3 * k + 1) = (if s ≤ k ∧ k < s + i then (gg (k - s)).2.1 else σ 73 (55 + 3 * k + 1)) ∧ rs_am σ gg s i 73 (55 + 3 * k + 2) = if s ≤ k ∧ k < s + i then q_b (q_t (gg (k - s)).2.2) else σ 73 (55 + 3 * k + 2)
  | 0 => by
    rw [if_neg (by omega), if_neg (by omega), if_neg (by omega)]
    exact ⟨rfl, rfl, rfl⟩
  | i + 1 => by
    obtain ⟨a, b, c⟩ := rs_am_v (k := k) i
    rw [rs_am, qm_sn]
    by_cases h : k = s + i
    · subst h
      rw [if_pos (by omega), if_pos (by omega), if_pos (by omega), show s + i - s = i by omega]
      refine ⟨?_, ?_, ?_⟩
      · rw [q_up_f (by omega), q_up_f (by omega), q_up_f (by omega), q_up_at]
      · rw [q_up_f (by omega), q_up_f (by omega), q_up_at]
      · rw [q_up_f (by omega), q_up_at]
    · rw [q_up_f (by omega), q_up_f (by omega), q_up_f (by omega), q_up_f (by omega), q_up_f (by omega), q_up_f (by omega), q_up_f (by omega), q_up_f (by omega), q_up_f (by omega), q_up_f (by omega), q_up_f (by omega), q_up_f (by omega), a, b, c]
      by_cases h2 : s ≤ k ∧ k < s + i
      · rw [if_pos h2, if_pos h2, if_pos h2, if_pos (by omega), if_pos (by omega), if_pos (by omega)]
        exact ⟨rfl, rfl, rfl⟩
      · rw [if_neg h2, if_neg h2, if_neg h2, if_neg (by omega), if_neg (by omega), if_neg (by omega)]
        exact ⟨rfl, rfl, rfl⟩
end RAM
theorem rE_read {k l f0 n : Int32} : r_E YX7_read YX8_read [.int k, .int l, .int f0, .int n] := by
  intro σ h
  by_cases hc : (q_win k 0 3 && q_win l 0 2 && q_win n 0 12) = true
  · rw [Bool.and_eq_true, Bool.and_eq_true] at hc
    obtain ⟨j, rfl, -, hj⟩ := q_win_n hc.1.1 (by decide)
    obtain ⟨n0, rfl, -, hn0⟩ := q_win_n hc.2 (by decide)
    have e3 : (3 : Int32).toInt = 3 := rfl
    have e12 : (12 : Int32).toInt = 12 := rfl
    have h4 : j < 4 := by omega
    have hn12 : n0 ≤ 12 := by omega
    obtain ⟨s1, s2, ⟨m, hm40, hm⟩, s4⟩ := h.2.2.2.2.1 j h4
    obtain ⟨N, sc, hs⟩ := h.m17
    obtain ⟨H, hH, h10, h200, hH2⟩ := r_wH h
    have hsn := hs.2.2.2.2.2.2.1
    refine ⟨_, kX7_read (σ := σ) (j := j) (n0 := n0) (m := m) (sc := sc) (l := l) (f0 := f0) h4 hn12 hm hm40 hsn.1 hsn.2.1 hc.1.2, fun r s τ hq => ?_⟩
    obtain ⟨rfl, hq⟩ := hq
    refine ⟨rfl, ?_⟩
    -- the reference, over what the class has left
    have key : ∀ (τ : q_M), (∀ b, 72 ≤ b → τ b = σ b) → q_Ct YX8_read [.ref 72, .int (nI j), .int l, .int f0, .int (nI n0)] q_SH τ (rs_PM τ j f0 sc (rs_r (σ (56 + 2 * j) 1) (nI m) l f0 (σ 15 0) (σ (57 + 2 * j)) sc n0 0)) := by
      intro τ hτ
      have m1 := kX8_read (σ := τ) (j := j) (n0 := n0) (m := m) (sc := sc) (l := l) (f0 := f0) h4 (by rw [hτ 84 (by decide)]; exact s2.trans hm) hm40 hn12 (by rw [hτ 73 (by decide)]; exact hsn.2.2) hsn.2.1 hc.1.2
      rw [hτ 83 (by decide), hτ 75 (by decide), s1, h.w (by decide)] at m1
      rw [rs_r_c hm40 (cf := σ (57 + 2 * j)) (fun x hx => by rw [hτ 85 (by decide)]; exact s4 x hx) _ _ (Or.inl rfl)] at m1
      exact m1
    cases hr : rs_r (σ (56 + 2 * j) 1) (nI m) l f0 (σ 15 0) (σ (57 + 2 * j)) sc n0 0 with
    | inl x =>
      rw [hr] at hq
      obtain ⟨q1, q2⟩ := hq
      refine ⟨_, q1, _, key τ (fun b hb => q2 b (by omega)), fun r2 s2 ρ hp => ?_⟩
      obtain ⟨rfl, hp⟩ := hp
      rw [hr] at hp
      obtain ⟨p1, rfl⟩ := hp
      exact ⟨rfl, p1, h.of (fun b hb => q2 b (by omega)) (fun b h1 _ _ _ => q2 b (by omega)) (fun k _ => by rw [q2 72 (by decide)])⟩
    | inr y =>
      rw [hr] at hq
      obtain ⟨q1, q2⟩ := hq
      obtain ⟨ok1, ok2, ok3⟩ := rs_r_ok _ _ _ hr
      have hy12 : sc + y.1 ≤ 12 := by
        by_cases z : y.1 = 0
        · have := hsn.2.1; omega
        · have := (ok3 (y.1 - 1) (by omega) (by omega)).2.2
          omega
      have o : ∀ b, ¬ (b = 0 ∨ (19 ≤ b ∧ b < 23) ∨ (64 ≤ b ∧ b ≤ 67)) → τ b = σ b := fun b hb => by
        rw [q2, q_up_ne (by omega), rs_ap_ne (by omega) (by omega) (by omega) (by omega), rs_cm_ne (by omega)]
      refine ⟨_, q1, _, key τ (fun b hb => o b (by omega)), fun r2 s2' ρ hp => ?_⟩
      obtain ⟨rfl, hp⟩ := hp
      rw [hr] at hp
      obtain ⟨p1, p2⟩ := hp
      refine ⟨rfl, p1, ?_⟩
      have po : ∀ b, ¬ b = 73 → ¬ b = 72 → ρ b = τ b := fun b a1 a2 => by rw [p2, rs_am_ne a1, q_up_ne a2]
      have p73 : ∀ k, ¬ (k = 54 ∨ (55 + 3 * sc ≤ k ∧ k < 55 + 3 * (sc + y.1))) → ρ 73 k = σ 73 k := fun k hk => by
        rw [p2]
        by_cases z : 55 + 3 * sc ≤ k
        · rw [rs_am_h (w := y.1) (by omega) y.1 (Nat.le_refl _), q_up_ne (by decide), o 73 (by omega)]
        · rw [rs_am_o (by omega), q_up_ne (by decide), o 73 (by omega)]
      have p72 : ∀ k, ¬ k = 30 → ρ 72 k = σ 72 k := fun k hk => by rw [p2, rs_am_ne (by decide), q_up_f hk, o 72 (by omega)]
      have t0 : ∀ k, ¬ k = 10 → τ 0 k = σ 0 k := fun k hk => by rw [q2, q_up_f hk, rs_ap_ne (by decide) (by decide) (by decide) (by decide), rs_cm_ne (by decide)]
      have hseen : r_s ρ 17 0 N (sc + y.1) := by
        refine hs.sen (fun b hb => by rw [po b (by omega) (by omega), o b (by omega)]) (fun k hk => p73 k (by omega)) (by rw [po 15 (by decide) (by decide), o 15 (by omega)]) ⟨?_, hy12, ?_⟩ (fun i hi => ?_)
        · rw [po 19 (by decide) (by decide), q2, q_up_ne (by decide), rs_ap_a (by rw [rs_cm_ne (by decide)]; exact hsn.1)]
        · rw [p2]
          exact rs_am_54 (by rw [q_up_ne (by decide), o 73 (by omega)]; exact hsn.2.2) y.1
        · have a3 : ∀ i, ρ 20 i = if sc ≤ i ∧ i < sc + y.1 then (rs_g (σ (57 + 2 * j)) f0.toInt.toNat (i - sc)).1 else σ 20 i := fun i => by
            rw [po 20 (by decide) (by decide), q2, q_up_ne (by decide), rs_ap_t (by decide) (by decide) (by decide), rs_cm_ne (by decide)]
          have a4 : ∀ i, ρ 21 i = if sc ≤ i ∧ i < sc + y.1 then (rs_g (σ (57 + 2 * j)) f0.toInt.toNat (i - sc)).2.1 else σ 21 i := fun i => by
            rw [po 21 (by decide) (by decide), q2, q_up_ne (by decide), rs_ap_p (by decide) (by decide) (by decide), rs_cm_ne (by decide)]
          have a5 : ∀ i, ρ 22 i = if sc ≤ i ∧ i < sc + y.1 then (rs_g (σ (57 + 2 * j)) f0.toInt.toNat (i - sc)).2.2 else σ 22 i := fun i => by
            rw [po 22 (by decide) (by decide), q2, q_up_ne (by decide), rs_ap_k (by decide) (by decide) (by decide), rs_cm_ne (by decide)]
          unfold r_n
          rw [show (17 + 3 : Nat) = 20 from rfl, show (17 + 4 : Nat) = 21 from rfl, show (17 + 5 : Nat) = 22 from rfl, a3, a4, a5]
          by_cases z : sc ≤ i
          · obtain ⟨v1, v2, v3⟩ := ok3 (i - sc) (by omega) (by omega)
            obtain ⟨-, -, f3, f4⟩ := rs_f_0 v1
            rw [nI_toInt (by omega)] at f4
            have f3' : 0 ≤ f0.toInt := by
              have := (rs_f_0 (ok3 0 (by omega) (by omega)).1).2.2.1
              omega
            rw [if_pos ⟨z, hi⟩, if_pos ⟨z, hi⟩, if_pos ⟨z, hi⟩]
            have mv := rs_am_v (σ := q_up τ 72 30 y.2) (gg := rs_g (fun x => τ 85 (40 * j + x)) f0.toInt.toNat) (s := sc) (k := i) y.1
            rw [← p2, if_pos ⟨z, hi⟩, if_pos ⟨z, hi⟩, if_pos ⟨z, hi⟩] at mv
            have eg : rs_g (fun x => τ 85 (40 * j + x)) f0.toInt.toNat (i - sc) = rs_g (σ (57 + 2 * j)) f0.toInt.toNat (i - sc) := by
              have g0 := s4 (f0.toInt.toNat + 3 * (i - sc)) (by omega)
              have g1 := s4 (f0.toInt.toNat + 3 * (i - sc) + 1) (by omega)
              have g2 := s4 (f0.toInt.toNat + 3 * (i - sc) + 2) (by omega)
              simp only [rs_g, o 85 (by omega), g0, g1, g2]
            rw [eg] at mv
            unfold rs_v at v2
            rw [Bool.and_eq_true, Bool.and_eq_true] at v2
            have hd := q_win_t v2.1.2
            rw [hH, nI_toInt (by omega)] at hd
            have e0 : (0 : Int32).toInt = 0 := rfl
            have e2 : (200 : Int32).toInt = 200 := rfl
            have b01 : ∀ c : Bool, q_b c = 0 ∨ q_b c = 1 := fun c => by cases c <;> decide
            refine ⟨⟨mv.1, mv.2.1, mv.2.2.trans (q_bt01 (b01 _))⟩, v2.1.1, decide_eq_true ?_, b01 _⟩
            show (0 : Int32).toInt ≤ (σ (57 + 2 * j) (f0.toInt.toNat + 3 * (i - sc) + 1)).toInt ∧ (σ (57 + 2 * j) (f0.toInt.toNat + 3 * (i - sc) + 1)).toInt ≤ (200 : Int32).toInt
            omega
          · rw [if_neg (by omega), if_neg (by omega), if_neg (by omega), p73 _ (by omega), p73 _ (by omega), p73 _ (by omega)]
            exact hs.2.2.2.2.2.2.2.2 i (by omega)
      obtain ⟨a, -, c, d, e, f⟩ := h
      have lo : ∀ b, b < 64 → ¬ b = 0 → ¬ (19 ≤ b ∧ b < 23) → ρ b = σ b := fun b h1 h2 h3 => by rw [po b (by omega) (by omega), o b (by omega)]
      have hi : ∀ b, 74 ≤ b → ρ b = σ b := fun b h1 => by rw [po b (by omega) (by omega), o b (by omega)]
      refine ⟨a.of (lo _ (by decide) (by decide) (by decide)) (lo _ (by decide) (by decide) (by decide)) (hi _ (by decide)) (hi _ (by decide)), ⟨N, _, hseen⟩, c.of (lo _ (by decide) (by decide) (by decide)) (hi _ (by decide)) (fun b _ _ => lo b (by omega) (by omega) (by omega)) (fun k _ _ => p73 k (by omega)) (by rw [lo 15 (by decide) (by decide) (by decide)]), d.of (by rw [lo 1 (by decide) (by decide) (by decide)]) (lo _ (by decide) (by decide) (by decide)) (p72 10 (by decide)) (hi _ (by decide)), e.of (fun b _ _ => lo b (by omega) (by omega) (by omega)) (hi _ (by decide)) (hi _ (by decide)) (hi _ (by decide)), ?_, ?_⟩
      · rw [p72 15 (by decide), po 0 (by decide) (by decide), t0 9 (by decide)]
        exact f.1
      · rw [po 0 (by decide) (by decide), p2, rs_am_ne (by decide), q_up_at, q2, q_up_at]
  · have hc' : (q_win k 0 3 && q_win l 0 2 && q_win n 0 12) = false := by simpa using hc
    refine ⟨_, kX7_readB hc', fun r s τ hq => ?_⟩
    obtain ⟨rfl, rfl, rfl⟩ := hq
    refine ⟨rfl, _, rfl, _, kX8_readB hc', fun r2 s2 ρ hp => ?_⟩
    obtain ⟨rfl, rfl, rfl⟩ := hp
    exact ⟨rfl, rfl, h⟩
