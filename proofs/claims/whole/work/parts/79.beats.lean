/-! bladder, beats, spread -/
theorem r_bd {σ : q_M} (h : r_R σ) {N n : Nat} (hs : r_s σ 17 0 N n) {j : Nat} (hj : j < N) {d : Nat} (hd : d ≤ 200) : qm_bd σ j d = if (q_ff σ (σ (23 + j) 0 + σ (23 + j) 4) (nI d) 0).toInt.toNat < 10000 then nI (q_ff σ (σ (23 + j) 0 + σ (23 + j) 4) (nI d) 0).toInt.toNat else -4 := by
  obtain ⟨em, h0, h4, -⟩ := r_mass hs hj
  have ed := nI_toInt (n := d) (by omega)
  have hb := r_ffb h hs (mass := σ (23 + j) 0 + σ (23 + j) 4) (dep := nI d) (th := 0) (by omega) (by omega) (by decide)
  unfold qm_bd
  refine q_fst_T (fun b hb2 => ?_)
  rw [r_jw h hs hj, show σ 73 49 = σ 17 4 from hs.2.2.1.1, decide_eq_decide, r_ffw h hs (by omega) (by omega) (by decide) (by omega)]
  omega
theorem i_abs {x y : Int32} (hx : 0 ≤ x.toInt ∧ x.toInt ≤ 9999) (hy : 0 ≤ y.toInt ∧ y.toInt ≤ 9999) : q_abs (x - y) = q_abs (y - x) ∧ 0 ≤ (q_abs (x - y)).toInt ∧ (q_abs (x - y)).toInt ≤ 9999 := by
  have e1 : (x - y).toInt = x.toInt - y.toInt := i_sub (by omega) (by omega)
  have e2 : (y - x).toInt = y.toInt - x.toInt := i_sub (by omega) (by omega)
  have n1 : (-(x - y)).toInt = -(x - y).toInt := i_neg (by omega)
  have n2 : (-(y - x)).toInt = -(y - x).toInt := i_neg (by omega)
  have a1 : (q_abs (x - y)).toInt = if x.toInt < y.toInt then y.toInt - x.toInt else x.toInt - y.toInt := by
    unfold q_abs
    by_cases c : x.toInt < y.toInt
    · rw [if_pos (by omega), if_pos c]; omega
    · rw [if_neg (by omega), if_neg c]; omega
  have a2 : (q_abs (y - x)).toInt = if x.toInt < y.toInt then y.toInt - x.toInt else x.toInt - y.toInt := by
    unfold q_abs
    by_cases c : x.toInt < y.toInt
    · rw [if_neg (by omega), if_pos c]; omega
    · rw [if_neg c]
      by_cases c2 : (y - x).toInt < 0
      · rw [if_pos c2]; omega
      · rw [if_neg c2]; omega
  refine ⟨i_ext (a1.trans a2.symm), ?_, ?_⟩
  · rw [a1]; split <;> omega
  · rw [a1]; split <;> omega
theorem rE_bladder {k fr to w : Int32} : r_E YX7_bladder YX8_bladder [.int k, .int fr, .int to, .int w] := r_E.ask (fun σ h => by
  obtain ⟨N, n, hs⟩ := h.m17
  obtain ⟨H, hH, h10, h200, hH2⟩ := r_wH h
  obtain ⟨A, hA, a1, a2, hA2⟩ := r_wA h
  by_cases hc : (q_win k 0 (σ 17 2 - 1) && q_win fr 0 (σ 15 0) && q_win to 0 (σ 15 0) && q_win w 0 1) = true
  · have hc2 := hc
    rw [Bool.and_eq_true, Bool.and_eq_true, Bool.and_eq_true] at hc2
    obtain ⟨j, hj, rfl, hjc⟩ := r_dv hs.1.1 hs.1.2.1 hc2.1.1.1
    obtain ⟨d, rfl, -, hd⟩ := q_win_n hc2.1.1.2 (by decide)
    obtain ⟨e, rfl, -, he⟩ := q_win_n hc2.1.2 (by decide)
    rw [hH, nI_toInt (by omega)] at hd he
    refine ⟨_, _, kX7_bladder hs.1.1 hs.1.2.1, kX8_bladder hA2 (by omega) (by omega) hH2 h200 (j := j) (d := d) (e := e) (by have := hs.1.2.1; omega) (by rw [r_kd hs]; exact hc2.1.1.1) (by rw [h.w (r := 0) (by decide)]; exact hc2.1.1.2) (by rw [h.w (r := 0) (by decide)]; exact hc2.1.2) (by omega) (by omega) hc2.2, ?_⟩
    rw [if_pos hc, hjc, r_bd h hs hj (by omega), r_bd h hs hj (by omega)]
    obtain ⟨em, h0, h4, -⟩ := r_mass hs hj
    have ed := nI_toInt (n := d) (by omega)
    have ee := nI_toInt (n := e) (by omega)
    have b1 := r_ffb h hs (mass := σ (23 + j) 0 + σ (23 + j) 4) (dep := nI d) (th := 0) (by omega) (by omega) (by decide)
    have b2 := r_ffb h hs (mass := σ (23 + j) 0 + σ (23 + j) 4) (dep := nI e) (th := 0) (by omega) (by omega) (by decide)
    have e3 : σ 73 (8 * j + 3) = σ (23 + j) 3 := (hs.2.2.2.2.2.2.2.1 j hj).1 3 (by decide)
    have hr : 0 ≤ (σ (23 + j) 3).toInt ∧ (σ (23 + j) 3).toInt ≤ 99 := q_win_t (hs.2.2.2.2.2.2.2.1 j hj).2.2.2.2.1
    rw [e3]
    generalize q_ff σ (σ (23 + j) 0 + σ (23 + j) 4) (nI d) 0 = a at b1
    generalize q_ff σ (σ (23 + j) 0 + σ (23 + j) 4) (nI e) 0 = b at b2
    have z9 : (9999 : Int32).toInt = 9999 := rfl
    have ea := i_nI b1.1
    have eb := i_nI b2.1
    have n4 : ∀ m : Nat, m ≤ 100000 → ¬ nI m = -4 := fun m hm q => by
      have := congrArg Int32.toInt q
      rw [nI_toInt (by omega)] at this
      have e4 : (-4 : Int32).toInt = -4 := rfl
      omega
    unfold q_bl qm_bl
    by_cases c1 : a.toInt.toNat < 10000
    · rw [if_pos c1]
      by_cases c2 : b.toInt.toNat < 10000
      · have k1 : ¬ ((9999 : Int32).toInt < a.toInt ∨ (9999 : Int32).toInt < b.toInt) := by omega
        have k2 : ¬ (a = -4 ∨ b = -4) := by
          intro q
          rcases q with q | q
          · exact n4 a.toInt.toNat (by omega) (ea.symm.trans q)
          · exact n4 b.toInt.toNat (by omega) (eb.symm.trans q)
        rw [if_pos c2, ← ea, ← eb, if_neg k1, if_neg k2]
        by_cases w1 : w = 1
        · rw [if_pos w1, if_pos w1]
        · rw [if_neg w1, if_neg w1]
          by_cases ab : a = b
          · rw [if_pos ab, if_pos ab]
          · rw [if_neg ab, if_neg ab]
            by_cases r0 : σ (23 + j) 3 = 0
            · rw [if_pos r0, if_pos r0]
            · have hr0 : ¬ (σ (23 + j) 3).toInt ≤ 0 := fun q => r0 (i_ext (by have z0 : (0 : Int32).toInt = 0 := rfl; omega))
              rw [if_neg r0, if_neg r0, q_du, if_neg hr0, (i_abs (x := b) (y := a) (by omega) (by omega)).1]
      · have k1 : (9999 : Int32).toInt < a.toInt ∨ (9999 : Int32).toInt < b.toInt := by omega
        rw [if_neg c2, if_pos k1, if_pos (Or.inr rfl)]
    · have k1 : (9999 : Int32).toInt < a.toInt ∨ (9999 : Int32).toInt < b.toInt := by omega
      rw [if_neg c1, if_pos k1, if_pos (Or.inl rfl)]
  · have hc' : (q_win k 0 (σ 17 2 - 1) && q_win fr 0 (σ 15 0) && q_win to 0 (σ 15 0) && q_win w 0 1) = false := by simpa using hc
    refine ⟨_, _, kX7_bladder hs.1.1 hs.1.2.1, kX8_bladderB (by rw [r_kd hs, h.w (r := 0) (by decide)]; exact hc'), ?_⟩
    rw [if_neg hc])
theorem qm_bt_c {p : Nat → Bool} {E gn : Nat} (hE : E ≤ 9999) (hg : 1 ≤ gn) (hp : ∀ v, v ≤ 9999 → p v = decide (E ≤ v)) : ∀ m v t, v ≤ 9999 → E ≤ v + m → qm_bt p gn m v t = (t + (E - v + gn - 1) / gn, min 9999 (v + (E - v + gn - 1) / gn * gn))
  | 0, v, t, hv, hm => by
    have e : (E - v + gn - 1) / gn = 0 := Nat.div_eq_of_lt (by omega)
    rw [e, qm_bt, Nat.zero_mul, Nat.add_zero, Nat.add_zero, Nat.min_eq_right hv]
  | m + 1, v, t, hv, hm => by
    rw [qm_bt, hp v hv]
    by_cases c : E ≤ v
    · have e : (E - v + gn - 1) / gn = 0 := Nat.div_eq_of_lt (by omega)
      rw [decide_eq_true c, if_pos rfl, e, Nat.zero_mul, Nat.add_zero, Nat.add_zero, Nat.min_eq_right hv]
    · rw [decide_eq_false c, if_neg (by decide)]
      by_cases c2 : 9999 < v + gn
      · rw [if_pos c2, qm_bt_c hE hg hp m 9999 (t + 1) (by omega) (by omega)]
        have e1 : (E - 9999 + gn - 1) / gn = 0 := Nat.div_eq_of_lt (by omega)
        have e2 : (E - v + gn - 1) / gn = 1 := by
          rw [show E - v + gn - 1 = (E - v - 1) + gn by omega, Nat.add_div_right _ (by omega), Nat.div_eq_of_lt (by omega)]
        rw [e1, e2, Nat.zero_mul, Nat.one_mul, Nat.add_zero, Nat.add_zero, Nat.min_self, Nat.min_eq_left (by omega)]
      · rw [if_neg c2, qm_bt_c hE hg hp m (v + gn) (t + 1) (by omega) (by omega)]
        have e2 : (E - v + gn - 1) / gn = (E - (v + gn) + gn - 1) / gn + 1 := by
          by_cases c3 : gn ≤ E - v
          · rw [show E - v + gn - 1 = (E - (v + gn) + gn - 1) + gn by omega, Nat.add_div_right _ (by omega)]
          · rw [show E - v + gn - 1 = (E - v - 1) + gn by omega, Nat.add_div_right _ (by omega), Nat.div_eq_of_lt (show E - v - 1 < gn by omega), Nat.div_eq_of_lt (show E - (v + gn) + gn - 1 < gn by omega)]
        rw [e2, Nat.add_mul, Nat.one_mul, show v + gn + (E - (v + gn) + gn - 1) / gn * gn = v + ((E - (v + gn) + gn - 1) / gn * gn + gn) by omega, show t + 1 + (E - (v + gn) + gn - 1) / gn = t + ((E - (v + gn) + gn - 1) / gn + 1) by omega]
theorem rE_beats {k b gn w : Int32} : r_E YX7_beats YX8_beats [.int k, .int b, .int gn, .int w] := r_E.ask (fun σ h => by
  obtain ⟨N, n, hs⟩ := h.m17
  obtain ⟨H, hH, h10, h200, hH2⟩ := r_wH h
  obtain ⟨A, hA, a1, a2, hA2⟩ := r_wA h
  by_cases hc : (q_win k 0 (σ 17 2 - 1) && q_win b 0 9999 && q_win gn 1 99 && q_win w 0 1) = true
  · have hc2 := hc
    rw [Bool.and_eq_true, Bool.and_eq_true, Bool.and_eq_true] at hc2
    obtain ⟨j, hj, rfl, hjc⟩ := r_dv hs.1.1 hs.1.2.1 hc2.1.1.1
    obtain ⟨v, rfl, -, hv⟩ := q_win_n hc2.1.1.2 (by decide)
    obtain ⟨g, rfl, hg1, hg2⟩ := q_win_n hc2.1.2 (by decide)
    have z9 : (9999 : Int32).toInt = 9999 := rfl
    have z99 : (99 : Int32).toInt = 99 := rfl
    have z1 : (1 : Int32).toInt = 1 := rfl
    have z0 : (0 : Int32).toInt = 0 := rfl
    have z2 : (2 : Int32).toInt = 2 := rfl
    refine ⟨_, _, kX7_beats hs.1.1 hs.1.2.1, kX8_beats hA2 (by omega) (by omega) hH2 h200 (j := j) (b := v) (gn := g) (by have := hs.1.2.1; omega) (by rw [r_kd hs]; exact hc2.1.1.1) (by omega) (by omega) (by omega) hc2.2, ?_⟩
    obtain ⟨em, h0, h4, -⟩ := r_mass hs hj
    have e0 : σ 73 (8 * j + 0) = σ (23 + j) 0 := (hs.2.2.2.2.2.2.2.1 j hj).1 0 (by decide)
    have ebw : ∀ x d, qm_bw σ j x d = q_wt (σ 15 1) (σ 15 4) (σ 15 5) (σ (23 + j) 0) x (σ 17 4) d 0 := fun x d => by
      unfold qm_bw
      rw [h.w (r := 1) (by decide), h.w (r := 4) (by decide), h.w (r := 5) (by decide), e0, show σ 73 49 = σ 17 4 from hs.2.2.1.1]
    rw [if_pos hc, hjc, ebw, ebw, h.w (r := 0) (by decide)]
    have w1 := r_ffw h hs (mass := σ (23 + j) 0) (dep := 0) (th := 0) (by omega) (by decide) (by decide) (b := v) (by omega)
    have w2 := r_ffn h hs (mass := σ (23 + j) 0) (dep := σ 15 0) (th := 0) (by omega) (r_hd h) (by decide) (b := 9999) (by omega)
    have hpv : ∀ x, x ≤ 9999 → (fun v => decide ((qm_bw σ j (nI v) (σ 15 0)).toInt < 0)) x = decide ((q_ff σ (σ (23 + j) 0 + 1) (σ 15 0) 0).toInt.toNat ≤ x) := fun x hx => by
      show decide ((qm_bw σ j (nI x) (σ 15 0)).toInt < 0) = _
      have w3 := r_ffn h hs (mass := σ (23 + j) 0) (dep := σ 15 0) (th := 0) (by omega) (r_hd h) (by decide) (b := x) hx
      rw [ebw, decide_eq_decide, w3]
      omega
    have e1 : (σ (23 + j) 0 + 1).toInt = (σ (23 + j) 0).toInt + 1 := by rw [i_add (by omega) (by omega), z1]
    have be := r_ffb h hs (mass := σ (23 + j) 0 + 1) (dep := σ 15 0) (th := 0) (by omega) (r_hd h) (by decide)
    have bf := r_ffb h hs (mass := σ (23 + j) 0) (dep := 0) (th := 0) (by omega) (by decide) (by decide)
    have ev := nI_toInt (n := v) (by omega)
    have eg := nI_toInt (n := g) (by omega)
    generalize q_ff σ (σ (23 + j) 0 + 1) (σ 15 0) 0 = en at be hpv w2
    generalize q_ff σ (σ (23 + j) 0) 0 0 = fl at bf w1
    have e9 : (9999 : Int32) = nI 9999 := rfl
    unfold q_bt
    have w2' : (q_wt (σ 15 1) (σ 15 4) (σ 15 5) (σ (23 + j) 0) 9999 (σ 17 4) (σ 15 0) 0).toInt < 0 ↔ en.toInt ≤ ((9999 : Nat) : Int) := w2
    by_cases c : fl.toInt ≤ v ∨ 9999 < en.toInt
    · have k1 : fl.toInt ≤ (nI v).toInt ∨ (9999 : Int32).toInt < en.toInt := by omega
      have k2 : (q_wt (σ 15 1) (σ 15 4) (σ 15 5) (σ (23 + j) 0) (nI v) (σ 17 4) 0 0).toInt ≤ 0 ∨ 0 ≤ (q_wt (σ 15 1) (σ 15 4) (σ 15 5) (σ (23 + j) 0) 9999 (σ 17 4) (σ 15 0) 0).toInt := by omega
      rw [if_pos k1, if_pos k2]
    · have k1 : ¬ (fl.toInt ≤ (nI v).toInt ∨ (9999 : Int32).toInt < en.toInt) := by omega
      have k2 : ¬ ((q_wt (σ 15 1) (σ 15 4) (σ 15 5) (σ (23 + j) 0) (nI v) (σ 17 4) 0 0).toInt ≤ 0 ∨ 0 ≤ (q_wt (σ 15 1) (σ 15 4) (σ 15 5) (σ (23 + j) 0) 9999 (σ 17 4) (σ 15 0) 0).toInt) := by omega
      rw [if_neg k1, if_neg k2, qm_bt_c (E := en.toInt.toNat) (by omega) (by omega) hpv 10000 v 2 (by omega) (by omega)]
      have es : (en - nI v).toInt = en.toInt - v := by rw [i_sub (by omega) (by omega), ev]
      have ex : q_max 0 (en - nI v) = nI (en.toInt.toNat - v) := by
        apply i_ext
        rw [i_max, nI_toInt (by omega), es, z0]
        omega
      have ed : q_du (nI (en.toInt.toNat - v)) (nI g) = nI ((en.toInt.toNat - v + g - 1) / g) := by
        unfold q_du
        rw [if_neg (by omega), nI_add, show (1 : Int32) = nI 1 from rfl, pk_sub (by omega), pk_div (by omega) (by omega) (by omega)]
      have hq : (en.toInt.toNat - v + g - 1) / g * g ≤ en.toInt.toNat - v + g - 1 := Nat.div_mul_le_self _ _
      have hq2 : (en.toInt.toNat - v + g - 1) / g ≤ en.toInt.toNat - v + g - 1 := Nat.div_le_self _ _
      unfold qm_btr
      by_cases hw : w = 0
      · rw [if_pos hw, if_pos hw, ex, ed, show (2 : Int32) = nI 2 from rfl, nI_add, Nat.add_comm]
      · rw [if_neg hw, if_neg hw, ex, ed, pk_mul, nI_add]
        apply i_ext
        rw [i_min, nI_toInt (by omega), z9]
        show _ = (nI (min 9999 (v + (en.toInt.toNat - v + g - 1) / g * g))).toInt
        rw [nI_toInt (by omega)]
        omega
  · have hc' : (q_win k 0 (σ 17 2 - 1) && q_win b 0 9999 && q_win gn 1 99 && q_win w 0 1) = false := by simpa using hc
    refine ⟨_, _, kX7_beats hs.1.1 hs.1.2.1, kX8_beatsB (by rw [r_kd hs]; exact hc'), ?_⟩
    rw [if_neg hc])
