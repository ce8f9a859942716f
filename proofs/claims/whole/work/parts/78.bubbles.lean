/-! which bubbles: ranges -/
theorem i_fl {a s m mass b w dep th : Int32} (ha : 800 ≤ a.toInt ∧ a.toInt ≤ 1200) (hm : 0 ≤ m.toInt ∧ m.toInt ≤ 99) (hM : -2000 ≤ mass.toInt ∧ mass.toInt ≤ 2500) (hb : 0 ≤ b.toInt ∧ b.toInt ≤ 9999) (hw : 250 ≤ w.toInt ∧ w.toInt ≤ 350) (hd : 0 ≤ dep.toInt ∧ dep.toInt ≤ 200) (ht : 0 ≤ th.toInt ∧ th.toInt ≤ 500) : ((q_wt a s m mass b w dep th).toInt ≤ 0 ↔ (q_lb (mass - q_lt0 dep s m) w (a + th + dep)).toInt ≤ b.toInt) ∧ 0 ≤ (q_lb (mass - q_lt0 dep s m) w (a + th + dep)).toInt ∧ (q_lb (mass - q_lt0 dep s m) w (a + th + dep)).toInt ≤ 100000 := by
  have hl := i_lt0 (dep := dep) (s := s) hm
  have hwt := (i_wt (s := s) (mass := mass) ha hm (by omega) hb hw hd ht).1
  have e2 : (a + th).toInt = a.toInt + th.toInt := i_add (by omega) (by omega)
  have e3 : (a + th + dep).toInt = a.toInt + th.toInt + dep.toInt := by rw [i_add (by omega) (by omega), e2]
  have eV : (mass - q_lt0 dep s m).toInt = mass.toInt - (q_lt0 dep s m).toInt := i_sub (by omega) (by omega)
  generalize hV : mass.toInt - (q_lt0 dep s m).toInt = V at eV
  generalize hP : a.toInt + th.toInt + dep.toInt = P at e3 hwt
  have p1 : 0 ≤ b.toInt * w.toInt := Int.mul_nonneg hb.1 (by omega)
  have hle : (q_wt a s m mass b w dep th).toInt ≤ 0 ↔ V * P ≤ b.toInt * w.toInt := by
    rw [hwt, ← Int.le_ediv_iff_mul_le (by omega)]
    omega
  rw [hle]
  unfold q_lb
  rw [eV]
  by_cases hv : V ≤ 0
  · rw [if_pos hv]
    have p3 : V * P ≤ 0 := Int.mul_nonpos_of_nonpos_of_nonneg hv (by omega)
    refine ⟨⟨fun _ => hb.1, fun _ => by omega⟩, by decide, by decide⟩
  · rw [if_neg hv]
    have p4 : 0 ≤ V * P := Int.mul_nonneg (by omega) (by omega)
    have p5 : V * P ≤ 2500 * 1900 := Int.mul_le_mul (by omega) (by omega) (by omega) (by decide)
    have e1 : ((mass - q_lt0 dep s m) * (a + th + dep)).toInt = V * P := by rw [i_mul (by rw [eV, e3]; omega) (by rw [eV, e3]; omega), eV, e3]
    have z1 : (1 : Int32).toInt = 1 := rfl
    have e4 : ((mass - q_lt0 dep s m) * (a + th + dep) + w).toInt = V * P + w.toInt := by rw [i_add (by omega) (by omega), e1]
    have e5 : ((mass - q_lt0 dep s m) * (a + th + dep) + w - 1).toInt = V * P + w.toInt - 1 := by rw [i_sub (by omega) (by omega), e4, z1]
    have e6 : (q_du ((mass - q_lt0 dep s m) * (a + th + dep)) w).toInt = (V * P + w.toInt - 1) / w.toInt := by
      unfold q_du
      rw [if_neg (by omega), i_div (by omega) (by omega), e5]
    have q0 : 0 ≤ (V * P + w.toInt - 1) / w.toInt := Int.ediv_nonneg (by omega) (by omega)
    have q1 : (V * P + w.toInt - 1) / w.toInt < 100000 := by
      rw [Int.ediv_lt_iff_lt_mul (by omega)]
      omega
    rw [e6]
    refine ⟨?_, q0, by omega⟩
    have hk : (V * P + w.toInt - 1) / w.toInt < b.toInt + 1 ↔ V * P + w.toInt - 1 < (b.toInt + 1) * w.toInt := Int.ediv_lt_iff_lt_mul (by omega)
    rw [Int.add_mul, Int.one_mul] at hk
    omega
theorem i_wt1 {a s m mass b w dep th : Int32} (ha : 800 ≤ a.toInt ∧ a.toInt ≤ 1200) (hm : 0 ≤ m.toInt ∧ m.toInt ≤ 99) (hM : -2000 ≤ mass.toInt ∧ mass.toInt ≤ 2000) (hb : 0 ≤ b.toInt ∧ b.toInt ≤ 9999) (hw : 250 ≤ w.toInt ∧ w.toInt ≤ 350) (hd : 0 ≤ dep.toInt ∧ dep.toInt ≤ 200) (ht : 0 ≤ th.toInt ∧ th.toInt ≤ 500) : (q_wt a s m mass b w dep th).toInt < 0 ↔ (q_wt a s m (mass + 1) b w dep th).toInt ≤ 0 := by
  have z1 : (1 : Int32).toInt = 1 := rfl
  have e1 : (mass + 1).toInt = mass.toInt + 1 := by rw [i_add (by omega) (by omega), z1]
  rw [(i_wt (s := s) (mass := mass) ha hm (by omega) hb hw hd ht).1, (i_wt (s := s) (mass := mass + 1) ha hm (by omega) hb hw hd ht).1, e1]
  omega
/-- a range of bubbles, counted one by one -/
theorem qm_bb_iv {p : Nat → Bool} {lo : Nat} {hi : Int} (hlo : lo ≤ 100000) : ∀ n, n ≤ 10000 → (∀ b, b < n → p b = decide (lo ≤ b ∧ (b : Int) ≤ hi)) → qm_bb p n = if (lo : Int) ≤ min hi (n - 1) then (nI (min hi (n - 1) - lo + 1).toNat, nI lo, nI (min hi (n - 1)).toNat) else (0, -4, -4)
  | 0, _, _ => by
    rw [if_neg (by omega)]
    rfl
  | n + 1, hn, h => by
    have ih := qm_bb_iv (p := p) (hi := hi) hlo n (by omega) (fun b hb => h b (by omega))
    rw [qm_bb, h n (by omega)]
    by_cases hp : lo ≤ n ∧ (n : Int) ≤ hi
    · rw [decide_eq_true hp, if_pos rfl]
      have m1 : min hi ((n : Int) - 1) = n - 1 := by omega
      have m2 : min hi (((n + 1 : Nat) : Int) - 1) = n := by omega
      rw [m1] at ih
      rw [m2, if_pos (show (lo : Int) ≤ (n : Int) by omega), ih]
      by_cases hl : lo = n
      · subst hl
        rw [if_neg (by omega)]
        have e1 : ((lo : Int) - lo + 1).toNat = 1 := by omega
        have e2 : ((lo : Int)).toNat = lo := by omega
        rw [e1, e2]
        rfl
      · rw [if_pos (by omega)]
        have hne : ¬ nI lo = -4 := by
          intro q
          have := congrArg Int32.toInt q
          rw [nI_toInt (by omega)] at this
          have e4 : (-4 : Int32).toInt = -4 := rfl
          omega
        have e2 : ((n : Int)).toNat = n := by omega
        have e3 : ((n : Int) - lo + 1).toNat = ((n : Int) - 1 - lo + 1).toNat + 1 := by omega
        rw [e2, e3, ← nI_1]
        show (_, (if nI lo = -4 then nI n else nI lo), nI n) = _
        rw [if_neg hne]
    · rw [decide_eq_false hp, if_neg (by decide), ih]
      by_cases hh : hi < n
      · have m1 : min hi ((n : Int) - 1) = hi := by omega
        have m2 : min hi (((n + 1 : Nat) : Int) - 1) = hi := by omega
        rw [m1, m2]
      · have m1 : min hi ((n : Int) - 1) = n - 1 := by omega
        have m2 : min hi (((n + 1 : Nat) : Int) - 1) = n := by omega
        rw [m1, m2, if_neg (by omega), if_neg (by omega)]
theorem r_tell {l g w : Int32} {p : Nat → Bool} (hl : 0 ≤ l.toInt ∧ l.toInt ≤ 100000) (hg : -1 ≤ g.toInt ∧ g.toInt ≤ 100000) (hp : ∀ b, b < 10000 → p b = decide (l.toInt ≤ b ∧ (b : Int) ≤ g.toInt)) : q_tell l g w = qm_tl (qm_bb p 10000) w := by
  have z0 : (0 : Int32).toInt = 0 := rfl
  have z1 : (1 : Int32).toInt = 1 := rfl
  have z9 : (9999 : Int32).toInt = 9999 := rfl
  have el := i_nI hl.1
  have h := qm_bb_iv (p := p) (lo := l.toInt.toNat) (hi := g.toInt) (by omega) 10000 (by omega) (fun b hb => by rw [hp b hb, decide_eq_decide]; omega)
  have em : (q_min g 9999).toInt = min g.toInt ((10000 : Nat) - 1) := by
    unfold q_min
    split
    · rw [z9]; omega
    · omega
  rw [h]
  generalize hM : min g.toInt (((10000 : Nat) : Int) - 1) = M at em ⊢
  unfold q_tell qm_tl
  by_cases hw : w = 0
  · rw [if_pos hw, if_pos hw]
    have e1 : (q_min g 9999 - l).toInt = M - l.toInt := by rw [i_sub (by omega) (by omega), em]
    have e2 : (q_min g 9999 - l + 1).toInt = M - l.toInt + 1 := by rw [i_add (by omega) (by omega), e1, z1]
    by_cases hc : ((l.toInt.toNat : Nat) : Int) ≤ M
    · rw [if_pos hc]
      apply i_ext
      show (q_max 0 (q_min g 9999 - l + 1)).toInt = (nI (M - (l.toInt.toNat : Nat) + 1).toNat).toInt
      rw [nI_toInt (by omega)]
      unfold q_max
      rw [if_pos (by omega), e2]
      omega
    · rw [if_neg hc]
      apply i_ext
      show (q_max 0 (q_min g 9999 - l + 1)).toInt = 0
      unfold q_max
      by_cases h0 : (0 : Int32).toInt < (q_min g 9999 - l + 1).toInt
      · rw [if_pos h0]; omega
      · rw [if_neg h0]; rfl
  · rw [if_neg hw, if_neg hw]
    by_cases hc : ((l.toInt.toNat : Nat) : Int) ≤ M
    · rw [if_pos hc, if_neg (by omega)]
      by_cases h1 : w = 1
      · rw [if_pos h1, if_pos h1]
        exact el
      · rw [if_neg h1, if_neg h1]
        apply i_ext
        show (q_min g 9999).toInt = (nI M.toNat).toInt
        rw [nI_toInt (by omega), em]
        omega
    · rw [if_neg hc, if_pos (by omega)]
      split <;> rfl
section R78
variable {σ : q_M}
theorem r_ffb (h : r_R σ) {N n : Nat} (hs : r_s σ 17 0 N n) {mass dep th : Int32} (hM : -2000 ≤ mass.toInt ∧ mass.toInt ≤ 2500) (hd : 0 ≤ dep.toInt ∧ dep.toInt ≤ 200) (ht : 0 ≤ th.toInt ∧ th.toInt ≤ 500) : 0 ≤ (q_ff σ mass dep th).toInt ∧ (q_ff σ mass dep th).toInt ≤ 100000 := (i_fl (b := 0) (r_a h) (r_m h) hM (by decide) (r_k hs) hd ht).2
theorem r_ffw (h : r_R σ) {N n : Nat} (hs : r_s σ 17 0 N n) {mass dep th : Int32} (hM : -2000 ≤ mass.toInt ∧ mass.toInt ≤ 2500) (hd : 0 ≤ dep.toInt ∧ dep.toInt ≤ 200) (ht : 0 ≤ th.toInt ∧ th.toInt ≤ 500) {b : Nat} (hb : b ≤ 9999) : (q_wt (σ 15 1) (σ 15 4) (σ 15 5) mass (nI b) (σ 17 4) dep th).toInt ≤ 0 ↔ (q_ff σ mass dep th).toInt ≤ b := by
  have eb := nI_toInt (n := b) (by omega)
  have := (i_fl (s := σ 15 4) (b := nI b) (r_a h) (r_m h) hM (by omega) (r_k hs) hd ht).1
  rw [eb] at this
  exact this
theorem r_ffn (h : r_R σ) {N n : Nat} (hs : r_s σ 17 0 N n) {mass dep th : Int32} (hM : -2000 ≤ mass.toInt ∧ mass.toInt ≤ 2000) (hd : 0 ≤ dep.toInt ∧ dep.toInt ≤ 200) (ht : 0 ≤ th.toInt ∧ th.toInt ≤ 500) {b : Nat} (hb : b ≤ 9999) : (q_wt (σ 15 1) (σ 15 4) (σ 15 5) mass (nI b) (σ 17 4) dep th).toInt < 0 ↔ (q_ff σ (mass + 1) dep th).toInt ≤ b := by
  have eb := nI_toInt (n := b) (by omega)
  have z1 : (1 : Int32).toInt = 1 := rfl
  have e1 : (mass + 1).toInt = mass.toInt + 1 := by rw [i_add (by omega) (by omega), z1]
  rw [i_wt1 (r_a h) (r_m h) hM (by omega) (r_k hs) hd ht]
  exact r_ffw h hs (by omega) hd ht hb
theorem r_qw (h : r_R σ) {N n : Nat} (hs : r_s σ 17 0 N n) (hv b dep th : Int32) : qm_w σ hv b dep th = q_wt (σ 15 1) (σ 15 4) (σ 15 5) hv b (σ 17 4) dep th := by
  unfold qm_w
  rw [h.w (r := 1) (by decide), h.w (r := 4) (by decide), h.w (r := 5) (by decide), show σ 73 49 = σ 17 4 from hs.2.2.1.1]
theorem r_hd (h : r_R σ) : 0 ≤ (σ 15 0).toInt ∧ (σ 15 0).toInt ≤ 200 := by
  have h1 := h.wb (r := 0) (by decide)
  have e1 : (q_tab 1 0).toInt = 10 := rfl
  have e2 : (q_tab 2 0).toInt = 200 := rfl
  omega
theorem i_max {x y : Int32} : (q_max x y).toInt = max x.toInt y.toInt := by
  unfold q_max
  split <;> omega
theorem i_min {x y : Int32} : (q_min x y).toInt = min x.toInt y.toInt := by
  unfold q_min
  split <;> omega
theorem r_cb (h : r_R σ) {N n : Nat} (hs : r_s σ 17 0 N n) {hv : Int32} (hh : 1 ≤ hv.toInt ∧ hv.toInt ≤ 999) {b : Nat} (hb : b ≤ 9999) : qm_cb σ hv (nI b) = decide ((q_max (q_ff σ (hv + 1) 0 0) (q_ff σ (hv + 1) (σ 15 0) 0)).toInt ≤ b) := by
  unfold qm_cb
  rw [decide_eq_decide, r_qw h hs, r_qw h hs, h.w (r := 0) (by decide), r_ffn h hs (by omega) (by decide) (by decide) hb, r_ffn h hs (by omega) (r_hd h) (by decide) hb, i_max]
  omega
theorem r_gb (h : r_R σ) {N n : Nat} (hs : r_s σ 17 0 N n) {hv : Int32} (hh : 1 ≤ hv.toInt ∧ hv.toInt ≤ 999) {b : Nat} (hb : b ≤ 9999) {t : Nat} (ht : t ≤ 500) : qm_gb σ hv (nI b) (nI t) = decide ((b : Int) < (q_ff σ hv 0 (nI t)).toInt) := by
  have et := nI_toInt (n := t) (by omega)
  unfold qm_gb
  rw [decide_eq_decide, r_qw h hs]
  have := r_ffw h hs (mass := hv) (dep := 0) (th := nI t) (by omega) (by decide) (by omega) hb
  omega
end R78
theorem r_bm {σ : q_M} (h : r_R σ) (t : Int32 × Int32 × Int32) : r_R (qm_bm σ t) := by
  refine h.of (fun b hb => ?_) (fun b h1 h2 _ _ => ?_) (fun k hk => ?_)
  · unfold qm_bm qm_b3
    rw [q_up_ne (by omega), q_up_ne (by omega), q_up_ne (by omega)]
  · unfold qm_bm qm_b3
    rw [q_up_ne (by omega), q_up_ne (by omega), q_up_ne (by omega)]
  · unfold qm_bm qm_b3
    rw [q_up_f (by omega), q_up_f (by omega), q_up_f (by omega)]
theorem rE_bubbles {hv th w : Int32} : r_E YX7_bubbles YX8_bubbles [.int hv, .int th, .int w] := r_E.mk (fun σ h => by
  obtain ⟨N, n, hs⟩ := h.m17
  obtain ⟨H, hH, h10, h200, hH2⟩ := r_wH h
  obtain ⟨A, hA, a1, a2, hA2⟩ := r_wA h
  have c1 := kX7_bubbles (σ := σ) (hv := hv) (th := th) (w := w)
  by_cases hc : (q_win hv 1 999 && q_win th 0 500 && q_win w 0 2) = true
  · have hc2 := hc
    rw [Bool.and_eq_true, Bool.and_eq_true] at hc2
    obtain ⟨t, rfl, -, ht⟩ := q_win_n hc2.1.2 (by decide)
    have e5 : (500 : Int32).toInt = 500 := rfl
    have hh : 1 ≤ hv.toInt ∧ hv.toInt ≤ 999 := q_win_t hc2.1.1
    have et := nI_toInt (n := t) (by omega)
    have z1 : (1 : Int32).toInt = 1 := rfl
    have e1 : (hv + 1).toInt = hv.toInt + 1 := by rw [i_add (by omega) (by omega), z1]
    have m1 := kX8_bubbles (σ := σ) hA2 (by omega) (by omega) hH2 h200 (hv := hv) (w := w) (t := t) (by omega) hc2.1.1 hc2.2
    rw [if_pos hc] at c1
    have b1 := r_ffb h hs (mass := hv + 1) (dep := 0) (th := 0) (by omega) (by decide) (by decide)
    have b2 := r_ffb h hs (mass := hv + 1) (dep := σ 15 0) (th := 0) (by omega) (r_hd h) (by decide)
    have b3 := r_ffb h hs (mass := hv) (dep := 0) (th := nI t) (by omega) (by decide) (by omega)
    have e3 : (q_ff σ hv 0 (nI t) - 1).toInt = (q_ff σ hv 0 (nI t)).toInt - 1 := by rw [i_sub (by omega) (by omega), z1]
    rw [r_tell (p := fun b => qm_cb σ hv (nI b) && qm_gb σ hv (nI b) (nI t)) (by rw [i_max]; omega) (by omega) (fun b hb => by
      show (qm_cb σ hv (nI b) && qm_gb σ hv (nI b) (nI t)) = _
      rw [r_cb h hs hh (by omega), r_gb h hs hh (by omega) (by omega), ← Bool.decide_and, decide_eq_decide, e3]
      omega)] at c1
    exact ⟨_, _, _, c1, m1, r_bm h _⟩
  · have hc' : (q_win hv 1 999 && q_win th 0 500 && q_win w 0 2) = false := by simpa using hc
    rw [if_neg hc] at c1
    exact ⟨_, _, _, c1, kX8_bubblesB hc', h⟩)
theorem rE_atThumb {hv th w : Int32} : r_E YX7_atThumb YX8_atThumb [.int hv, .int th, .int w] := r_E.mk (fun σ h => by
  obtain ⟨N, n, hs⟩ := h.m17
  obtain ⟨H, hH, h10, h200, hH2⟩ := r_wH h
  obtain ⟨A, hA, a1, a2, hA2⟩ := r_wA h
  have c1 := kX7_atThumb (σ := σ) (hv := hv) (th := th) (w := w)
  by_cases hc : (q_win hv 1 999 && q_win th 0 500 && q_win w 0 2) = true
  · have hc2 := hc
    rw [Bool.and_eq_true, Bool.and_eq_true] at hc2
    obtain ⟨t, rfl, -, ht⟩ := q_win_n hc2.1.2 (by decide)
    have e5 : (500 : Int32).toInt = 500 := rfl
    have hh : 1 ≤ hv.toInt ∧ hv.toInt ≤ 999 := q_win_t hc2.1.1
    have et := nI_toInt (n := t) (by omega)
    have z1 : (1 : Int32).toInt = 1 := rfl
    have z0 : (0 : Int32).toInt = 0 := rfl
    have m1 := kX8_atThumb (σ := σ) hA2 (by omega) (by omega) hH2 h200 (hv := hv) (w := w) (t := t) (by omega) hc2.1.1 hc2.2
    rw [if_pos hc] at c1
    have b3 := r_ffb h hs (mass := hv) (dep := 0) (th := nI t) (by omega) (by decide) (by omega)
    have e3 : (q_ff σ hv 0 (nI t) - 1).toInt = (q_ff σ hv 0 (nI t)).toInt - 1 := by rw [i_sub (by omega) (by omega), z1]
    have el : ∃ L : Int32, (if nI t = 0 then 0 else q_ff σ hv 0 (nI t - 1)) = L ∧ (0 ≤ L.toInt ∧ L.toInt ≤ 100000) ∧ ∀ b, b < 10000 → (decide (t = 0) || !qm_gb σ hv (nI b) (nI (t - 1))) = decide (L.toInt ≤ b) := by
      by_cases t0 : t = 0
      · subst t0
        refine ⟨0, if_pos rfl, by decide, fun b hb => ?_⟩
        rw [decide_eq_true rfl, Bool.true_or]
        exact (decide_eq_true (by omega)).symm
      · have ne : ¬ nI t = 0 := fun q => t0 (sp_eq (b := 0) (by omega) (by decide) q)
        have em : nI t - 1 = nI (t - 1) := pk_sub (b := 1) (by omega)
        have e1 := nI_toInt (n := t - 1) (by omega)
        refine ⟨_, if_neg ne, ?_, fun b hb => ?_⟩
        · rw [em]
          exact r_ffb h hs (by omega) (by decide) (by omega)
        · rw [decide_eq_false t0, Bool.false_or, r_gb h hs hh (by omega) (by omega), em, ← decide_not, decide_eq_decide]
          omega
    obtain ⟨L, hL, hLb, hLp⟩ := el
    rw [hL, r_tell (p := fun b => qm_gb σ hv (nI b) (nI t) && (decide (t = 0) || !qm_gb σ hv (nI b) (nI (t - 1)))) hLb (by omega) (fun b hb => by
      show (qm_gb σ hv (nI b) (nI t) && (decide (t = 0) || !qm_gb σ hv (nI b) (nI (t - 1)))) = _
      rw [hLp b hb, r_gb h hs hh (by omega) (by omega), ← Bool.decide_and, decide_eq_decide, e3]
      omega)] at c1
    exact ⟨_, _, _, c1, m1, r_bm h _⟩
  · have hc' : (q_win hv 1 999 && q_win th 0 500 && q_win w 0 2) = false := by simpa using hc
    rw [if_neg hc] at c1
    exact ⟨_, _, _, c1, kX8_atThumbB hc', h⟩)
theorem r_ft {σ : q_M} (h : r_R σ) {N n : Nat} (hs : r_s σ 17 0 N n) {hv : Int32} (hh : 1 ≤ hv.toInt ∧ hv.toInt ≤ 999) : ∀ m, m ≤ n → ((0 ≤ (q_ft σ hv m).1.toInt ∧ (q_ft σ hv m).1.toInt ≤ 100000) ∧ (-1 ≤ (q_ft σ hv m).2.toInt ∧ (q_ft σ hv m).2.toInt ≤ 100000)) ∧ ∀ b, b < 10000 → qm_ca σ hv (nI b) m = decide ((q_ft σ hv m).1.toInt ≤ b ∧ (b : Int) ≤ (q_ft σ hv m).2.toInt)
  | 0, _ => by
    refine ⟨⟨(show 0 ≤ (0 : Int32).toInt ∧ (0 : Int32).toInt ≤ 100000 by decide), (show -1 ≤ (9999 : Int32).toInt ∧ (9999 : Int32).toInt ≤ 100000 by decide)⟩, fun b hb => ?_⟩
    show true = decide ((0 : Int32).toInt ≤ b ∧ (b : Int) ≤ (9999 : Int32).toInt)
    have z0 : (0 : Int32).toInt = 0 := rfl
    have z9 : (9999 : Int32).toInt = 9999 := rfl
    exact (decide_eq_true (by omega)).symm
  | m + 1, hm => by
    obtain ⟨⟨i1, i2⟩, i3⟩ := r_ft h hs hh m (by omega)
    obtain ⟨⟨s1, s2, s3⟩, s4, s5, s6⟩ := hs.2.2.2.2.2.2.2.2 m (by omega)
    have w4 : 0 ≤ (σ 20 m).toInt ∧ (σ 20 m).toInt ≤ 500 := q_win_t s4
    have w5 : 0 ≤ (σ 21 m).toInt ∧ (σ 21 m).toInt ≤ 200 := q_win_t s5
    have bb := r_ffb h hs (mass := hv) (dep := σ 21 m) (th := σ 20 m) (by omega) w5 w4
    have z1 : (1 : Int32).toInt = 1 := rfl
    have e3 : (q_ff σ hv (σ 21 m) (σ 20 m) - 1).toInt = (q_ff σ hv (σ 21 m) (σ 20 m)).toInt - 1 := by rw [i_sub (by omega) (by omega), z1]
    have hc1 : ∀ b, b < 10000 → qm_c1 σ hv (nI b) m = decide (q_b (decide ((b : Int) < (q_ff σ hv (σ 21 m) (σ 20 m)).toInt)) = σ 22 m) := fun b hb => by
      have := r_ffw h hs (mass := hv) (dep := σ 21 m) (th := σ 20 m) (by omega) w5 w4 (b := b) (by omega)
      unfold qm_c1
      rw [h.w (r := 1) (by decide), h.w (r := 4) (by decide), h.w (r := 5) (by decide), show σ 73 49 = σ 17 4 from hs.2.2.1.1, show σ 73 (55 + 3 * m) = σ 20 m from s1, show σ 73 (55 + 3 * m + 1) = σ 21 m from s2, show σ 73 (55 + 3 * m + 2) = σ 22 m from s3]
      have e : decide (0 < (q_wt (σ 15 1) (σ 15 4) (σ 15 5) hv (nI b) (σ 17 4) (σ 21 m) (σ 20 m)).toInt) = decide ((b : Int) < (q_ff σ hv (σ 21 m) (σ 20 m)).toInt) := by
        rw [decide_eq_decide]
        omega
      rw [e]
    have hall : ∀ b, qm_ca σ hv (nI b) (m + 1) = (qm_ca σ hv (nI b) m && qm_c1 σ hv (nI b) m) := fun b => rfl
    have hft : q_ft σ hv (m + 1) = if q_t (σ 22 m) then ((q_ft σ hv m).1, q_min (q_ft σ hv m).2 (q_ff σ hv (σ 21 m) (σ 20 m) - 1)) else (q_max (q_ft σ hv m).1 (q_ff σ hv (σ 21 m) (σ 20 m)), (q_ft σ hv m).2) := rfl
    rw [hft]
    rcases (show σ 22 m = 0 ∨ σ 22 m = 1 from s6) with z | z
    · rw [z, if_neg (by decide)]
      show ((0 ≤ (q_max (q_ft σ hv m).1 (q_ff σ hv (σ 21 m) (σ 20 m))).toInt ∧ (q_max (q_ft σ hv m).1 (q_ff σ hv (σ 21 m) (σ 20 m))).toInt ≤ 100000) ∧ (-1 ≤ (q_ft σ hv m).2.toInt ∧ (q_ft σ hv m).2.toInt ≤ 100000)) ∧ ∀ b : Nat, b < 10000 → _ = decide ((q_max (q_ft σ hv m).1 (q_ff σ hv (σ 21 m) (σ 20 m))).toInt ≤ b ∧ (b : Int) ≤ (q_ft σ hv m).2.toInt)
      rw [i_max]
      refine ⟨⟨by omega, i2⟩, fun b hb => ?_⟩
      rw [hall, i3 b hb, hc1 b hb, z]
      have e : decide (q_b (decide ((b : Int) < (q_ff σ hv (σ 21 m) (σ 20 m)).toInt)) = 0) = decide (¬ (b : Int) < (q_ff σ hv (σ 21 m) (σ 20 m)).toInt) := by
        rw [decide_eq_decide, q_b_eq0, decide_eq_false_iff_not]
      rw [e, ← Bool.decide_and, decide_eq_decide]
      omega
    · rw [z, if_pos (by decide)]
      show ((0 ≤ (q_ft σ hv m).1.toInt ∧ (q_ft σ hv m).1.toInt ≤ 100000) ∧ (-1 ≤ (q_min (q_ft σ hv m).2 (q_ff σ hv (σ 21 m) (σ 20 m) - 1)).toInt ∧ (q_min (q_ft σ hv m).2 (q_ff σ hv (σ 21 m) (σ 20 m) - 1)).toInt ≤ 100000)) ∧ ∀ b : Nat, b < 10000 → _ = decide ((q_ft σ hv m).1.toInt ≤ b ∧ (b : Int) ≤ (q_min (q_ft σ hv m).2 (q_ff σ hv (σ 21 m) (σ 20 m) - 1)).toInt)
      rw [i_min, e3]
      refine ⟨⟨i1, by omega⟩, fun b hb => ?_⟩
      rw [hall, i3 b hb, hc1 b hb, z]
      have e : decide (q_b (decide ((b : Int) < (q_ff σ hv (σ 21 m) (σ 20 m)).toInt)) = 1) = decide ((b : Int) < (q_ff σ hv (σ 21 m) (σ 20 m)).toInt) := by
        rw [decide_eq_decide]
        cases hd : decide ((b : Int) < (q_ff σ hv (σ 21 m) (σ 20 m)).toInt) with
        | true => exact ⟨fun _ => of_decide_eq_true hd, fun _ => rfl⟩
        | false => exact ⟨fun q => absurd q (by decide), fun q => absurd q (of_decide_eq_false hd)⟩
      rw [e, ← Bool.decide_and, decide_eq_decide]
      omega
theorem rE_fits {hv w : Int32} : r_E YX7_fits YX8_fits [.int hv, .int w] := r_E.mk (fun σ h => by
  obtain ⟨N, n, hs⟩ := h.m17
  have hn := hs.2.2.2.2.2.2.1
  have c1 := kX7_fits (σ := σ) hn.1 hn.2.1 (hv := hv) (w := w)
  by_cases hc : (q_win hv 1 999 && q_win w 0 2) = true
  · have hc2 := hc
    rw [Bool.and_eq_true] at hc2
    have hh : 1 ≤ hv.toInt ∧ hv.toInt ≤ 999 := q_win_t hc2.1
    have m1 := kX8_fits (σ := σ) hn.2.2 hn.2.1 (fun s hsn => r_sp h hs hsn) hc2.1 hc2.2
    obtain ⟨⟨i1, i2⟩, i3⟩ := r_ft h hs hh n (Nat.le_refl n)
    rw [if_pos hc, r_tell (p := fun b => qm_ca σ hv (nI b) n) i1 i2 i3] at c1
    exact ⟨_, _, _, c1, m1, r_bm h _⟩
  · have hc' : (q_win hv 1 999 && q_win w 0 2) = false := by simpa using hc
    rw [if_neg hc] at c1
    exact ⟨_, _, _, c1, kX8_fitsB hc', h⟩)
