/-! what DiverBottle answers: depths, ticks, order -/

set_option maxHeartbeats 1000000 in
set_option maxRecDepth 100000 in
theorem lpX7_holding {E : q_E} {σ : q_M} {H : Nat} (hH : σ 15 0 = nI H) (h200 : H ≤ 200) {k th : Int32} {j : Nat} (hk : k.toInt = (j : Int)) (hj : j < 6) : ∀ (n : Nat) (i : Nat) (ab : Int32), H + 1 + 1 ≤ i + n → i ≤ H + 1 → 1 ≤ i → ab = q_Wc σ (23 + j) (nI (i - 1)) th → q_G YX7_holding E 0 0 36 [some (.ref 0), some (.int k), some (.int th), some (.int ab), some (.int (nI i)), none] [] q_SH σ (q_is (some (q_fst (fun i => decide ((q_Wc σ (23 + j) (nI i) th).toInt ≤ 0 ∧ 0 < (q_Wc σ (23 + j) (nI (i - 1)) th).toInt)) (H + 1) (H + 1 - i))) q_SH σ) := by
  intro n
  induction n with
  | zero =>
    intro i ab hm h0 h1 hab
    exact absurd hm (by omega)
  | succ n ih =>
    intro i ab hm h0 h1 hab
    have hHt : (σ 15 0).toInt = (H : Int) := by rw [hH]; exact nI_toInt (by omega)
    have hi := nI_toInt (n := i) (by omega)
    refine q_iload dX7_holding_36 rfl ?_
    refine q_aload_n dX7_holding_38 rfl ?_
    refine q_getr fX7_19 dX7_holding_39 (by first | rfl | assumption) (by rfl) ?_
    refine q_getr fX7_62 dX7_holding_42 (by first | rfl | assumption) (by rfl) ?_
    refine q_iconst (x := 0) dX7_holding_45 (by decide) ?_
    refine q_ild 0 (by first | rfl | assumption) rfl (by decide) dX7_holding_46 ?_
    refine q_cgt 89 dX7_holding_47 (by decide) (fun h47 => ?_) (fun h47 => ?_)
    · refine q_bipush (x := (-4)) dX7_holding_89 (by decide) ?_
      refine q_ret dX7_holding_91 ?_ rfl rfl
      exact ⟨congrArg some (by rw [show H + 1 - i = 0 by omega]; rfl), rfl, rfl⟩
    · refine q_aload_n dX7_holding_50 rfl ?_
      refine q_aload_n dX7_holding_51 rfl ?_
      refine q_getr fX7_26 dX7_holding_52 (by first | rfl | assumption) (by rfl) ?_
      refine q_getr fX7_121 dX7_holding_55 (by first | rfl | assumption) (by rfl) ?_
      refine q_iload_n dX7_holding_58 rfl ?_
      refine q_ald j (by first | rfl | assumption) hk hj (q_ra_at hj) ⟨by decide, by decide⟩ dX7_holding_59 ?_
      refine q_iload dX7_holding_60 rfl ?_
      refine q_iload_n dX7_holding_62 rfl ?_
      refine q_cVi lX7_160 vX7_weightOf (ci := 7) rfl dX7_holding_63 (kX7_weightOf (q_SH_dv hj)) (by first | rfl | assumption) rfl rfl (Nat.le_of_ble_eq_true rfl) (by decide) ?_
      refine q_topi (fun wi ewi => ?_)
      refine q_istore dX7_holding_66 (by decide) rfl ?_
      refine q_iload dX7_holding_68 rfl ?_
      refine q_zgt 80 dX7_holding_70 (by decide) (fun h70 => ?_) (fun h70 => ?_)
      · have hp : decide ((q_Wc σ (23 + j) (nI i) th).toInt ≤ 0 ∧ 0 < (q_Wc σ (23 + j) (nI (i - 1)) th).toInt) = false := decide_eq_false (by rw [← ewi]; omega)
        refine q_iload dX7_holding_80 rfl ?_
        refine q_istore_n dX7_holding_82 (by decide) rfl ?_
        refine q_inc 1 dX7_holding_83 (by decide) rfl (by decide) rfl ?_
        refine q_goto 36 dX7_holding_86 (by decide) ?_
        rw [nI_1]
        refine q_lset 5 ?_
        have z := ih (i + 1) wi (by omega) (by omega) (by omega) (by rw [ewi]; rfl)
        rw [show H + 1 - i = (H + 1 - (i + 1)) + 1 by omega, q_fst, show H + 1 - (H + 1 - (i + 1) + 1) = i by omega, if_neg (by simp [hp])]
        exact z
      · refine q_iload_n dX7_holding_73 rfl ?_
        refine q_zle 80 dX7_holding_74 (by decide) (fun h74 => ?_) (fun h74 => ?_)
        · have hp : decide ((q_Wc σ (23 + j) (nI i) th).toInt ≤ 0 ∧ 0 < (q_Wc σ (23 + j) (nI (i - 1)) th).toInt) = false := decide_eq_false (by rw [← hab]; omega)
          refine q_iload dX7_holding_80 rfl ?_
          refine q_istore_n dX7_holding_82 (by decide) rfl ?_
          refine q_inc 1 dX7_holding_83 (by decide) rfl (by decide) rfl ?_
          refine q_goto 36 dX7_holding_86 (by decide) ?_
          rw [nI_1]
          refine q_lset 5 ?_
          have z := ih (i + 1) wi (by omega) (by omega) (by omega) (by rw [ewi]; rfl)
          rw [show H + 1 - i = (H + 1 - (i + 1)) + 1 by omega, q_fst, show H + 1 - (H + 1 - (i + 1) + 1) = i by omega, if_neg (by simp [hp])]
          exact z
        · have hp : decide ((q_Wc σ (23 + j) (nI i) th).toInt ≤ 0 ∧ 0 < (q_Wc σ (23 + j) (nI (i - 1)) th).toInt) = true := decide_eq_true (by rw [← ewi, ← hab]; exact ⟨h70, h74⟩)
          refine q_iload dX7_holding_77 rfl ?_
          refine q_ret dX7_holding_79 ?_ rfl rfl
          exact ⟨congrArg some (by rw [show H + 1 - i = (H - i) + 1 by omega, q_fst, show H + 1 - (H - i + 1) = i by omega, if_pos hp]), rfl, rfl⟩

set_option maxHeartbeats 1000000 in
set_option maxRecDepth 100000 in
theorem kX7_holding {σ : q_M} {N : Nat} (hN : σ 17 2 = nI N) (h6 : N ≤ 6) {H : Nat} (hH : σ 15 0 = nI H) (h200 : H ≤ 200) {k th : Int32} : q_Ct YX7_holding [.ref 0, .int k, .int th] q_SH σ (q_is (some (if q_win k 0 (σ 17 2 - 1) && q_win th 0 500 then q_fst (fun i => decide ((q_Wc σ (23 + k.toNatClampNeg) (nI i) th).toInt ≤ 0 ∧ 0 < (q_Wc σ (23 + k.toNatClampNeg) (nI (i - 1)) th).toInt)) (H + 1) H else -1)) q_SH σ) := by
  refine q_ct (n := 3) (by decide) (by decide) rfl (fun _ => Nat.le_of_ble_eq_true rfl) (fun E => ?_)
  refine q_aload_n dX7_holding_0 rfl ?_
  refine q_iload_n dX7_holding_1 rfl ?_
  refine q_cVi lX7_116 vX7_isDiver (ci := 7) rfl dX7_holding_2 kX7_isDiver (by first | rfl | assumption) rfl rfl (Nat.le_of_ble_eq_true rfl) (by decide) ?_
  refine q_beq 15 dX7_holding_5 (by decide) (fun h5 => ?_) (fun h5 => ?_)
  · refine q_iconst (x := (-1)) dX7_holding_15 (by decide) ?_
    refine q_ret dX7_holding_16 ?_ rfl rfl
    try clear hN
    try clear hH
    exact ⟨congrArg some (by simp [*]), rfl, rfl⟩
  · refine q_iload_n dX7_holding_8 rfl ?_
    refine q_cSi lX7_164 sX7_isThumb dX7_holding_9 kX7_isThumb rfl rfl (Nat.le_of_ble_eq_true rfl) (by decide) ?_
    refine q_bne 17 dX7_holding_12 (by decide) (fun h12 => ?_) (fun h12 => ?_)
    · obtain ⟨hk, hj⟩ := q_dvi hN h6 h5
      have hd := q_SH_dv (j := k.toNatClampNeg) (by omega)
      refine q_aload_n dX7_holding_17 rfl ?_
      refine q_aload_n dX7_holding_18 rfl ?_
      refine q_getr fX7_26 dX7_holding_19 (by first | rfl | assumption) (by rfl) ?_
      refine q_getr fX7_121 dX7_holding_22 (by first | rfl | assumption) (by rfl) ?_
      refine q_iload_n dX7_holding_25 rfl ?_
      refine q_ald k.toNatClampNeg (by first | rfl | assumption) hk (by omega) (q_ra_at (by omega)) ⟨by decide, by decide⟩ dX7_holding_26 ?_
      refine q_iconst (x := 0) dX7_holding_27 (by decide) ?_
      refine q_iload_n dX7_holding_28 rfl ?_
      refine q_cVi lX7_160 vX7_weightOf (ci := 7) rfl dX7_holding_29 (kX7_weightOf (by first | rfl | assumption)) (by first | rfl | assumption) rfl rfl (Nat.le_of_ble_eq_true rfl) (by decide) ?_
      refine q_topi (fun w0 ew0 => ?_)
      refine q_istore_n dX7_holding_32 (by decide) rfl ?_
      refine q_iconst (x := 1) dX7_holding_33 (by decide) ?_
      refine q_istore dX7_holding_34 (by decide) rfl ?_
      rw [h5, h12]
      exact lpX7_holding hH h200 hk (by omega) (H + 1) 1 w0 (by omega) (by omega) (by omega) (by rw [ew0]; rfl)
    · refine q_iconst (x := (-1)) dX7_holding_15 (by decide) ?_
      refine q_ret dX7_holding_16 ?_ rfl rfl
      try clear hN
      try clear hH
      exact ⟨congrArg some (by simp [*]), rfl, rfl⟩

set_option maxHeartbeats 1000000 in
set_option maxRecDepth 100000 in
theorem lpX7_back {E : q_E} {σ : q_M} {H : Nat} (hH : σ 15 0 = nI H) (h200 : H ≤ 200) {k : Int32} {j : Nat} (hk : k.toInt = (j : Int)) (hj : j < 6) : ∀ (n : Nat) (i : Nat) (b : Int32), H + 1 + 1 ≤ i + n → i ≤ H + 1 → b = (if i = 0 then -4 else nI (i - 1)) → q_G YX7_back E 0 0 15 [some (.ref 0), some (.int k), some (.int b), some (.int (nI i))] [] q_SH σ (q_is (some ((if q_fN (fun i => decide (0 ≤ (q_Wc σ (23 + j) (nI i) 0).toInt)) (H + 1) (H + 1 - i) = 0 then -4 else nI (q_fN (fun i => decide (0 ≤ (q_Wc σ (23 + j) (nI i) 0).toInt)) (H + 1) (H + 1 - i) - 1)))) q_SH σ) := by
  intro n
  induction n with
  | zero =>
    intro i b hm h0 hb
    exact absurd hm (by omega)
  | succ n ih =>
    intro i b hm h0 hb
    have hHt : (σ 15 0).toInt = (H : Int) := by rw [hH]; exact nI_toInt (by omega)
    have hi := nI_toInt (n := i) (by omega)
    refine q_iload_n dX7_back_15 rfl ?_
    refine q_aload_n dX7_back_16 rfl ?_
    refine q_getr fX7_19 dX7_back_17 (by first | rfl | assumption) (by rfl) ?_
    refine q_getr fX7_62 dX7_back_20 (by first | rfl | assumption) (by rfl) ?_
    refine q_iconst (x := 0) dX7_back_23 (by decide) ?_
    refine q_ild 0 (by first | rfl | assumption) rfl (by decide) dX7_back_24 ?_
    refine q_cgt 56 dX7_back_25 (by decide) (fun h25 => ?_) (fun h25 => ?_)
    · refine q_iload_n dX7_back_56 rfl ?_
      refine q_ret dX7_back_57 ?_ rfl rfl
      have e : i = H + 1 := by omega
      exact ⟨congrArg some (by rw [show H + 1 - i = 0 by omega]; rw [e] at hb; exact hb), rfl, rfl⟩
    · refine q_aload_n dX7_back_28 rfl ?_
      refine q_aload_n dX7_back_29 rfl ?_
      refine q_getr fX7_26 dX7_back_30 (by first | rfl | assumption) (by rfl) ?_
      refine q_getr fX7_121 dX7_back_33 (by first | rfl | assumption) (by rfl) ?_
      refine q_iload_n dX7_back_36 rfl ?_
      refine q_ald j (by first | rfl | assumption) hk hj (q_ra_at hj) ⟨by decide, by decide⟩ dX7_back_37 ?_
      refine q_iload_n dX7_back_38 rfl ?_
      refine q_iconst (x := 0) dX7_back_39 (by decide) ?_
      refine q_cVi lX7_160 vX7_weightOf (ci := 7) rfl dX7_back_40 (kX7_weightOf (q_SH_dv hj)) (by first | rfl | assumption) rfl rfl (Nat.le_of_ble_eq_true rfl) (by decide) ?_
      refine q_zlt 48 dX7_back_43 (by decide) (fun h43 => ?_) (fun h43 => ?_)
      · have hp : decide (0 ≤ (q_Wc σ (23 + j) (nI i) 0).toInt) = false := decide_eq_false (by omega)
        refine q_iload_n dX7_back_48 rfl ?_
        refine q_istore_n dX7_back_49 (by decide) rfl ?_
        refine q_inc 1 dX7_back_50 (by decide) rfl (by decide) rfl ?_
        refine q_goto 15 dX7_back_53 (by decide) ?_
        rw [nI_1]
        have z := ih (i + 1) (nI i) (by omega) (by omega) (by simp)
        have eF : q_fN (fun i => decide (0 ≤ (q_Wc σ (23 + j) (nI i) 0).toInt)) (H + 1) (H + 1 - i) = q_fN (fun i => decide (0 ≤ (q_Wc σ (23 + j) (nI i) 0).toInt)) (H + 1) (H + 1 - (i + 1)) := by
          rw [show H + 1 - i = (H + 1 - (i + 1)) + 1 by omega, q_fN, show H + 1 - (H + 1 - (i + 1) + 1) = i by omega, if_neg (by simp [hp])]
        rw [eF]
        exact z
      · have hp : decide (0 ≤ (q_Wc σ (23 + j) (nI i) 0).toInt) = true := decide_eq_true h43
        refine q_iload_n dX7_back_46 rfl ?_
        refine q_ret dX7_back_47 ?_ rfl rfl
        exact ⟨congrArg some (by rw [show H + 1 - i = (H - i) + 1 by omega, q_fN, show H + 1 - (H - i + 1) = i by omega, if_pos hp]; exact hb), rfl, rfl⟩

set_option maxHeartbeats 1000000 in
set_option maxRecDepth 100000 in
theorem kX7_back {σ : q_M} {N : Nat} (hN : σ 17 2 = nI N) (h6 : N ≤ 6) {H : Nat} (hH : σ 15 0 = nI H) (h200 : H ≤ 200) {k : Int32} : q_Ct YX7_back [.ref 0, .int k] q_SH σ (q_is (some (if q_win k 0 (σ 17 2 - 1) then (if q_fN (fun i => decide (0 ≤ (q_Wc σ (23 + k.toNatClampNeg) (nI i) 0).toInt)) (H + 1) (H + 1) = 0 then -4 else nI (q_fN (fun i => decide (0 ≤ (q_Wc σ (23 + k.toNatClampNeg) (nI i) 0).toInt)) (H + 1) (H + 1) - 1)) else -1)) q_SH σ) := by
  refine q_ct (n := 2) (by decide) (by decide) rfl (fun _ => Nat.le_of_ble_eq_true rfl) (fun E => ?_)
  refine q_aload_n dX7_back_0 rfl ?_
  refine q_iload_n dX7_back_1 rfl ?_
  refine q_cVi lX7_116 vX7_isDiver (ci := 7) rfl dX7_back_2 kX7_isDiver (by first | rfl | assumption) rfl rfl (Nat.le_of_ble_eq_true rfl) (by decide) ?_
  refine q_bne 10 dX7_back_5 (by decide) (fun h5 => ?_) (fun h5 => ?_)
  · obtain ⟨hk, hj⟩ := q_dvi hN h6 h5
    have hd := q_SH_dv (j := k.toNatClampNeg) (by omega)
    refine q_bipush (x := (-4)) dX7_back_10 (by decide) ?_
    refine q_istore_n dX7_back_12 (by decide) rfl ?_
    refine q_iconst (x := 0) dX7_back_13 (by decide) ?_
    refine q_istore_n dX7_back_14 (by decide) rfl ?_
    rw [h5]
    exact lpX7_back hH h200 hk (by omega) (H + 1 + 1) 0 (-4) (by omega) (by omega) rfl
  · refine q_iconst (x := (-1)) dX7_back_8 (by decide) ?_
    refine q_ret dX7_back_9 ?_ rfl rfl
    try clear hN
    try clear hH
    exact ⟨congrArg some (by simp [*]), rfl, rfl⟩

def q_lf (σ : q_M) (d : Nat) : Nat → Int32
  | 0 => 999
  | n + 1 => q_min (q_lf σ d n) (-(q_wt (σ 15 1) (σ 15 4) (σ 15 5) (σ d 0) (σ d 1) (σ 17 4) (nI n) 0) - 1)

set_option maxHeartbeats 1000000 in
set_option maxRecDepth 100000 in
theorem lpX7_lifts {E : q_E} {σ : q_M} {H : Nat} (hH : σ 15 0 = nI H) (h200 : H ≤ 200) {k : Int32} {d : Nat} (hd : q_SH[d]? = some q_sD) : ∀ (n : Nat) (i : Nat) (b : Int32), H + 1 + 1 ≤ i + n → i ≤ H + 1 → b = q_lf σ d i → q_G YX7_lifts E 0 0 27 [some (.ref 0), some (.int k), some (.ref d), some (.int b), some (.int (nI i)), none] [] q_SH σ (q_is (some (if (q_lf σ d (H + 1)).toInt < 0 then -4 else q_lf σ d (H + 1))) q_SH σ) := by
  intro n
  induction n with
  | zero =>
    intro i b hm h0 hb
    exact absurd hm (by omega)
  | succ n ih =>
    intro i b hm h0 hb
    have hHt : (σ 15 0).toInt = (H : Int) := by rw [hH]; exact nI_toInt (by omega)
    have hi := nI_toInt (n := i) (by omega)
    refine q_iload dX7_lifts_27 rfl ?_
    refine q_aload_n dX7_lifts_29 rfl ?_
    refine q_getr fX7_19 dX7_lifts_30 (by first | rfl | assumption) (by rfl) ?_
    refine q_getr fX7_62 dX7_lifts_33 (by first | rfl | assumption) (by rfl) ?_
    refine q_iconst (x := 0) dX7_lifts_36 (by decide) ?_
    refine q_ild 0 (by first | rfl | assumption) rfl (by decide) dX7_lifts_37 ?_
    refine q_cgt 84 dX7_lifts_38 (by decide) (fun h38 => ?_) (fun h38 => ?_)
    · refine q_iload_n dX7_lifts_84 rfl ?_
      refine q_zge 93 dX7_lifts_85 (by decide) (fun h85 => ?_) (fun h85 => ?_)
      · refine q_iload_n dX7_lifts_93 rfl ?_
        refine q_ret dX7_lifts_94 ?_ rfl rfl
        have e : i = H + 1 := by omega
        exact ⟨congrArg some (by rw [← e, ← hb]; first | rw [if_neg (by omega)] | rw [if_pos (by omega)]), rfl, rfl⟩
      · refine q_bipush (x := (-4)) dX7_lifts_88 (by decide) ?_
        refine q_goto 94 dX7_lifts_90 (by decide) ?_
        refine q_ret dX7_lifts_94 ?_ rfl rfl
        have e : i = H + 1 := by omega
        exact ⟨congrArg some (by rw [← e, ← hb]; first | rw [if_neg (by omega)] | rw [if_pos (by omega)]), rfl, rfl⟩
    · refine q_aload_n dX7_lifts_41 rfl ?_
      refine q_getr fX7_19 dX7_lifts_42 (by first | rfl | assumption) (by rfl) ?_
      refine q_aload_n dX7_lifts_45 rfl ?_
      refine q_get fX7_122 dX7_lifts_46 (by first | rfl | assumption) (by rfl) ?_
      refine q_aload_n dX7_lifts_49 rfl ?_
      refine q_get fX7_127 dX7_lifts_50 (by first | rfl | assumption) (by rfl) ?_
      refine q_aload_n dX7_lifts_53 rfl ?_
      refine q_getr fX7_26 dX7_lifts_54 (by first | rfl | assumption) (by rfl) ?_
      refine q_get fX7_66 dX7_lifts_57 (by first | rfl | assumption) (by rfl) ?_
      refine q_iload dX7_lifts_60 rfl ?_
      refine q_iconst (x := 0) dX7_lifts_62 (by decide) ?_
      refine q_cVi lX7_212 vX6_weight (ci := 6) rfl dX7_lifts_63 (kX6_weight (by first | rfl | assumption) (by first | rfl | assumption)) (by first | rfl | assumption) rfl rfl (Nat.le_of_ble_eq_true rfl) (by decide) ?_
      refine q_topi (fun wi ewi => ?_)
      refine q_istore dX7_lifts_66 (by decide) rfl ?_
      refine q_iload_n dX7_lifts_68 rfl ?_
      refine q_iload dX7_lifts_69 rfl ?_
      refine q_ineg dX7_lifts_71 ?_
      refine q_iconst (x := 1) dX7_lifts_72 (by decide) ?_
      refine q_isub dX7_lifts_73 ?_
      refine q_cSi lX7_216 sJ9_min_7cf53 dX7_lifts_74 kmin rfl rfl (Nat.le_of_ble_eq_true rfl) (by decide) ?_
      refine q_topi (fun mn emn => ?_)
      refine q_istore_n dX7_lifts_77 (by decide) rfl ?_
      refine q_inc 1 dX7_lifts_78 (by decide) rfl (by decide) rfl ?_
      refine q_goto 27 dX7_lifts_81 (by decide) ?_
      rw [nI_1]
      refine q_lset 5 ?_
      exact ih (i + 1) mn (by omega) (by omega) (by rw [emn, ewi, hb]; rfl)

set_option maxHeartbeats 1000000 in
set_option maxRecDepth 100000 in
theorem kX7_lifts {σ : q_M} {N : Nat} (hN : σ 17 2 = nI N) (h6 : N ≤ 6) {H : Nat} (hH : σ 15 0 = nI H) (h200 : H ≤ 200) {k : Int32} : q_Ct YX7_lifts [.ref 0, .int k] q_SH σ (q_is (some (if q_win k 0 (σ 17 2 - 1) then (if (q_lf σ (23 + k.toNatClampNeg) (H + 1)).toInt < 0 then -4 else q_lf σ (23 + k.toNatClampNeg) (H + 1)) else -1)) q_SH σ) := by
  refine q_ct (n := 4) (by decide) (by decide) rfl (fun _ => Nat.le_of_ble_eq_true rfl) (fun E => ?_)
  refine q_aload_n dX7_lifts_0 rfl ?_
  refine q_iload_n dX7_lifts_1 rfl ?_
  refine q_cVi lX7_116 vX7_isDiver (ci := 7) rfl dX7_lifts_2 kX7_isDiver (by first | rfl | assumption) rfl rfl (Nat.le_of_ble_eq_true rfl) (by decide) ?_
  refine q_bne 10 dX7_lifts_5 (by decide) (fun h5 => ?_) (fun h5 => ?_)
  · obtain ⟨hk, hj⟩ := q_dvi hN h6 h5
    have hd := q_SH_dv (j := k.toNatClampNeg) (by omega)
    refine q_aload_n dX7_lifts_10 rfl ?_
    refine q_getr fX7_26 dX7_lifts_11 (by first | rfl | assumption) (by rfl) ?_
    refine q_getr fX7_121 dX7_lifts_14 (by first | rfl | assumption) (by rfl) ?_
    refine q_iload_n dX7_lifts_17 rfl ?_
    refine q_ald k.toNatClampNeg (by first | rfl | assumption) hk (by omega) (q_ra_at (by omega)) ⟨by decide, by decide⟩ dX7_lifts_18 ?_
    refine q_astore_n dX7_lifts_19 (by decide) rfl ?_
    refine q_sipush (x := 999) dX7_lifts_20 (by decide) ?_
    refine q_istore_n dX7_lifts_23 (by decide) rfl ?_
    refine q_iconst (x := 0) dX7_lifts_24 (by decide) ?_
    refine q_istore dX7_lifts_25 (by decide) rfl ?_
    rw [h5]
    exact lpX7_lifts hH h200 hd (H + 1 + 1) 0 999 (by omega) (by omega) rfl
  · refine q_iconst (x := (-1)) dX7_lifts_8 (by decide) ?_
    refine q_ret dX7_lifts_9 ?_ rfl rfl
    try clear hN
    try clear hH
    exact ⟨congrArg some (by simp [*]), rfl, rfl⟩

def q_dr (σ : q_M) (i : Nat) : q_M := fun x => if 23 ≤ x ∧ x < 23 + i then upd (σ x) 4 0 else σ x
theorem q_dr_0 (σ : q_M) : q_dr σ 0 = σ := by
  funext x
  unfold q_dr
  rw [if_neg (by omega)]
theorem q_dr_s (σ : q_M) (i : Nat) : q_up (q_dr σ i) (23 + i) 4 0 = q_dr σ (i + 1) := by
  funext x j
  by_cases h : x = 23 + i
  · subst h
    simp [q_dr, q_up]
  · by_cases h1 : 23 ≤ x ∧ x < 23 + i
    · simp [q_dr, q_up, h, h1, show x < 23 + (i + 1) by omega]
    · simp [q_dr, q_up, h, h1, show ¬ (23 ≤ x ∧ x < 23 + (i + 1)) by omega]

set_option maxHeartbeats 1000000 in
set_option maxRecDepth 100000 in
theorem lpX7_drop {E : q_E} {σ : q_M} {N : Nat} (hN : σ 17 2 = nI N) (h6 : N ≤ 6) : ∀ (n : Nat) (i : Nat), N + 1 ≤ i + n → i ≤ N → q_G YX7_drop E 0 0 27 [some (.ref 0), some (.int (nI i))] [] q_SH (q_dr σ i) (q_is (some (1)) q_SH (q_up (q_dr σ N) 17 7 1)) := by
  intro n
  induction n with
  | zero =>
    intro i hm h0
    exact absurd hm (by omega)
  | succ n ih =>
    intro i hm h0
    have hi := nI_toInt (n := i) (by omega)
    have hNt := nI_toInt (n := N) (by omega)
    refine q_iload_n dX7_drop_27 rfl ?_
    refine q_aload_n dX7_drop_28 rfl ?_
    refine q_getr fX7_26 dX7_drop_29 (by first | rfl | assumption) (by rfl) ?_
    refine q_get fX7_173 dX7_drop_32 (by first | rfl | assumption) (by rfl) ?_
    rw [show q_dr σ i 17 2 = nI N from hN]
    refine q_cge 57 dX7_drop_35 (by decide) (fun h35 => ?_) (fun h35 => ?_)
    · refine q_aload_n dX7_drop_57 rfl ?_
      refine q_getr fX7_26 dX7_drop_58 (by first | rfl | assumption) (by rfl) ?_
      refine q_iconst (x := 1) dX7_drop_61 (by decide) ?_
      refine q_put_i pX7_191 dX7_drop_62 (by first | rfl | assumption) (by rfl) rfl rfl ?_
      refine q_iconst (x := 1) dX7_drop_65 (by decide) ?_
      refine q_ret dX7_drop_66 ?_ rfl rfl
      have e : i = N := by omega
      subst e
      exact ⟨rfl, rfl, rfl⟩
    · refine q_aload_n dX7_drop_38 rfl ?_
      refine q_getr fX7_26 dX7_drop_39 (by first | rfl | assumption) (by rfl) ?_
      refine q_getr fX7_121 dX7_drop_42 (by first | rfl | assumption) (by rfl) ?_
      refine q_iload_n dX7_drop_45 rfl ?_
      refine q_ald i (by first | rfl | assumption) hi (by omega) (q_ra_at (by omega)) ⟨by decide, by decide⟩ dX7_drop_46 ?_
      refine q_iconst (x := 0) dX7_drop_47 (by decide) ?_
      refine q_put_i pX7_144 dX7_drop_48 (q_SH_dv (by omega)) (by rfl) rfl rfl ?_
      refine q_inc 1 dX7_drop_51 (by decide) rfl (by decide) rfl ?_
      refine q_goto 27 dX7_drop_54 (by decide) ?_
      rw [nI_1, q_dr_s]
      exact ih (i + 1) (by omega) (by omega)

set_option maxHeartbeats 1000000 in
set_option maxRecDepth 100000 in
theorem kX7_drop {σ : q_M} {N : Nat} (hN : σ 17 2 = nI N) (h6 : N ≤ 6) : q_Ct YX7_drop [.ref 0] q_SH σ (q_is (some (if σ 15 6 = 0 ∨ ¬ σ 17 7 = 0 then 0 else 1)) q_SH (if σ 15 6 = 0 ∨ ¬ σ 17 7 = 0 then σ else q_up (q_dr σ N) 17 7 1)) := by
  refine q_ct (n := 1) (by decide) (by decide) rfl (fun _ => Nat.le_of_ble_eq_true rfl) (fun E => ?_)
  refine q_aload_n dX7_drop_0 rfl ?_
  refine q_getr fX7_19 dX7_drop_1 (by first | rfl | assumption) (by rfl) ?_
  refine q_getr fX7_62 dX7_drop_4 (by first | rfl | assumption) (by rfl) ?_
  refine q_bipush (x := 6) dX7_drop_7 (by decide) ?_
  refine q_ild 6 (by first | rfl | assumption) rfl (by decide) dX7_drop_9 ?_
  refine q_if_eq 23 dX7_drop_10 (by decide) (fun h10 => ?_) (fun h10 => ?_)
  · refine q_iconst (x := 0) dX7_drop_23 (by decide) ?_
    refine q_ret dX7_drop_24 ?_ rfl rfl
    try clear hN
    try clear hH
    exact ⟨congrArg some (by simp [*]), rfl, by simp [*]⟩
  · refine q_aload_n dX7_drop_13 rfl ?_
    refine q_getr fX7_26 dX7_drop_14 (by first | rfl | assumption) (by rfl) ?_
    refine q_get fX7_191 dX7_drop_17 (by first | rfl | assumption) (by rfl) ?_
    refine q_if_eq 25 dX7_drop_20 (by decide) (fun h20 => ?_) (fun h20 => ?_)
    · refine q_iconst (x := 0) dX7_drop_25 (by decide) ?_
      refine q_istore_n dX7_drop_26 (by decide) rfl ?_
      rw [if_neg (by simp [*]), if_neg (by simp [*])]
      have z := lpX7_drop (E := E) hN h6 (N + 1) 0 (by omega) (by omega)
      rw [q_dr_0] at z
      exact z
    · refine q_iconst (x := 0) dX7_drop_23 (by decide) ?_
      refine q_ret dX7_drop_24 ?_ rfl rfl
      try clear hN
      try clear hH
      exact ⟨congrArg some (by simp [*]), rfl, by simp [*]⟩

theorem q_md_172 {σ : q_M} {d : Nat} (h : (17 : Nat) ≠ d) : q_md σ d 17 2 = σ 17 2 := by
  have e1 : ∀ x : Nat, q_mm σ d 17 x = σ 17 x := fun x => q_mm_ne h
  have e2 : q_cf (q_mm σ d) d 17 2 = σ 17 2 := by
    unfold q_cf
    split
    · rw [q_up_g h, e1]
    · rw [q_up_f (by decide), q_up_g h, q_up_g h, e1]
  have e3 : ∀ τ : q_M, q_ctp τ d 17 2 = τ 17 2 := fun τ => by
    unfold q_ctp
    split
    · rfl
    · rw [q_up_f (by decide), q_up_g h]
  unfold q_md
  split
  · exact e1 2
  · split
    · split
      · rw [e3, e2]
      · exact e2
    · split
      · rw [e3, e1]
      · exact e1 2
def q_mdl (N : Nat) : Nat → q_M → q_M
  | 0, σ => σ
  | m + 1, σ => q_mdl N m (q_md σ (23 + (N - (m + 1))))
def q_tk1 (N : Nat) (σ : q_M) : q_M := q_up (q_mdl N N σ) 17 5 (q_mdl N N σ 17 5 + 1)
def q_gol (N : Nat) : Nat → q_M → q_M
  | 0, σ => σ
  | n + 1, σ => q_gol N n (q_tk1 N σ)
theorem q_mdl_172 {N : Nat} : ∀ (m : Nat) (σ : q_M), q_mdl N m σ 17 2 = σ 17 2
  | 0, _ => rfl
  | m + 1, σ => by rw [q_mdl, q_mdl_172 m, q_md_172 (by omega)]
theorem q_tk1_172 {N : Nat} (σ : q_M) : q_tk1 N σ 17 2 = σ 17 2 := by rw [q_tk1, q_up_f (by decide), q_mdl_172]
theorem q_gol_172 {N : Nat} : ∀ (n : Nat) (σ : q_M), q_gol N n σ 17 2 = σ 17 2
  | 0, _ => rfl
  | n + 1, σ => by rw [q_gol, q_gol_172 n, q_tk1_172]

set_option maxHeartbeats 1000000 in
set_option maxRecDepth 100000 in
theorem lpX7_go1 {E : q_E} {x : Int32} {t N : Nat} {Q : q_P} (h6 : N ≤ 6) : ∀ (n : Nat) (i : Nat) (σ : q_M), N + 1 ≤ i + n → i ≤ N → σ 17 2 = nI N → q_G YX7_go E 0 0 15 [some (.ref 0), some (.int x), some (.int (nI (t + 1))), none] [] q_SH (q_up (q_mdl N (N - i) σ) 17 5 (q_mdl N (N - i) σ 17 5 + 1)) Q → q_G YX7_go E 0 0 22 [some (.ref 0), some (.int x), some (.int (nI t)), some (.int (nI i))] [] q_SH σ Q := by
  intro n
  induction n with
  | zero =>
    intro i σ hm h0 hN K
    exact absurd hm (by omega)
  | succ n ih =>
    intro i σ hm h0 hN K
    have hi := nI_toInt (n := i) (by omega)
    have hNt := nI_toInt (n := N) (by omega)
    refine q_iload_n dX7_go_22 rfl ?_
    refine q_aload_n dX7_go_23 rfl ?_
    refine q_getr fX7_26 dX7_go_24 (by first | rfl | assumption) (by rfl) ?_
    refine q_get fX7_173 dX7_go_27 (by first | rfl | assumption) (by rfl) ?_
    rw [hN]
    refine q_cge 52 dX7_go_30 (by decide) (fun h30 => ?_) (fun h30 => ?_)
    · have e : N - i = 0 := by omega
      rw [e] at K
      refine q_aload_n dX7_go_52 rfl ?_
      refine q_getr fX7_26 dX7_go_53 (by first | rfl | assumption) (by rfl) ?_
      refine q_dup rfl dX7_go_56 ?_
      refine q_get fX7_178 dX7_go_57 (by first | rfl | assumption) (by rfl) ?_
      refine q_iconst (x := 1) dX7_go_60 (by decide) ?_
      refine q_iadd dX7_go_61 ?_
      refine q_put_i pX7_178 dX7_go_62 (by first | rfl | assumption) (by rfl) rfl rfl ?_
      refine q_inc 1 dX7_go_65 (by decide) rfl (by decide) rfl ?_
      refine q_goto 15 dX7_go_68 (by decide) ?_
      rw [nI_1]
      refine q_lset 3 ?_
      exact K
    · refine q_aload_n dX7_go_33 rfl ?_
      refine q_aload_n dX7_go_34 rfl ?_
      refine q_getr fX7_26 dX7_go_35 (by first | rfl | assumption) (by rfl) ?_
      refine q_getr fX7_121 dX7_go_38 (by first | rfl | assumption) (by rfl) ?_
      refine q_iload_n dX7_go_41 rfl ?_
      refine q_ald i (by first | rfl | assumption) hi (by omega) (q_ra_at (by omega)) ⟨by decide, by decide⟩ dX7_go_42 ?_
      refine q_cVv lX7_174 vX7_moveDiver (ci := 7) rfl dX7_go_43 (kX7_moveDiver (q_SH_dv (by omega)) (by omega) (by omega)) (by first | rfl | assumption) rfl rfl (Nat.le_of_ble_eq_true rfl) (by decide) ?_
      refine q_inc 1 dX7_go_46 (by decide) rfl (by decide) rfl ?_
      refine q_goto 22 dX7_go_49 (by decide) ?_
      rw [nI_1]
      refine ih (i + 1) (q_md σ (23 + i)) (by omega) (by omega) (by rw [q_md_172 (by omega)]; exact hN) ?_
      rw [show N - i = (N - (i + 1)) + 1 by omega, q_mdl, show N - (N - (i + 1) + 1) = i by omega] at K
      exact K

set_option maxHeartbeats 1000000 in
set_option maxRecDepth 100000 in
theorem lpX7_go2 {E : q_E} {N n0 : Nat} (h6 : N ≤ 6) (hn0 : n0 < 1000) : ∀ (n : Nat) (t : Nat) (σ : q_M), n0 + 1 ≤ t + n → t ≤ n0 → σ 17 2 = nI N → q_G YX7_go E 0 0 15 [some (.ref 0), some (.int (nI n0)), some (.int (nI t)), none] [] q_SH σ (q_is (some (q_bits (fun k => decide (q_gol N (n0 - t) σ (23 + k) 5 = q_gol N (n0 - t) σ 15 0 * 64)) N)) q_SH (q_gol N (n0 - t) σ)) := by
  intro n
  induction n with
  | zero =>
    intro t σ hm h0 hN
    exact absurd hm (by omega)
  | succ n ih =>
    intro t σ hm h0 hN
    have hi := nI_toInt (n := t) (by omega)
    have hnt := nI_toInt (n := n0) (by omega)
    refine q_iload_n dX7_go_15 rfl ?_
    refine q_iload_n dX7_go_16 rfl ?_
    refine q_cge 71 dX7_go_17 (by decide) (fun h17 => ?_) (fun h17 => ?_)
    · have e : n0 - t = 0 := by omega
      rw [e]
      show q_G _ _ _ _ _ _ _ _ _ (q_is (some (q_bits (fun k => decide (σ (23 + k) 5 = σ 15 0 * 64)) N)) q_SH σ)
      refine q_aload_n dX7_go_71 rfl ?_
      refine q_aload_n dX7_go_72 rfl ?_
      refine q_getr fX7_19 dX7_go_73 (by first | rfl | assumption) (by rfl) ?_
      refine q_cVi lX7_181 vX6_floor (ci := 6) rfl dX7_go_76 (kX6_floor (by first | rfl | assumption) (by first | rfl | assumption)) (by first | rfl | assumption) rfl rfl (Nat.le_of_ble_eq_true rfl) (by decide) ?_
      refine q_cVi lX7_184 vX7_diversAt (ci := 7) rfl dX7_go_79 (kX7_diversAt hN h6) (by first | rfl | assumption) rfl rfl (Nat.le_of_ble_eq_true rfl) (by decide) ?_
      refine q_ret dX7_go_82 ?_ rfl rfl
      exact ⟨rfl, rfl, rfl⟩
    · refine q_iconst (x := 0) dX7_go_20 (by decide) ?_
      refine q_istore_n dX7_go_21 (by decide) rfl ?_
      have z := lpX7_go1 (E := E) (x := nI n0) (t := t) (N := N) (Q := (q_is (some (q_bits (fun k => decide (q_gol N (n0 - t) σ (23 + k) 5 = q_gol N (n0 - t) σ 15 0 * 64)) N)) q_SH (q_gol N (n0 - t) σ))) h6 (N + 1) 0 σ (by omega) (by omega) hN ?_
      · exact z
      · have z := ih (t + 1) (q_tk1 N σ) (by omega) (by omega) (by rw [q_tk1_172]; exact hN)
        rw [show n0 - t = (n0 - (t + 1)) + 1 by omega]
        exact z

set_option maxHeartbeats 1000000 in
set_option maxRecDepth 100000 in
theorem kX7_go {σ : q_M} {N : Nat} (hN : σ 17 2 = nI N) (h6 : N ≤ 6) {n0 : Nat} (h1 : 1 ≤ n0) (h9 : n0 ≤ 999) : q_Ct YX7_go [.ref 0, .int (nI n0)] q_SH σ (q_is (some (q_bits (fun k => decide (q_gol N n0 σ (23 + k) 5 = q_gol N n0 σ 15 0 * 64)) N)) q_SH (q_gol N n0 σ)) := by
  refine q_ct (n := 2) (by decide) (by decide) rfl (fun _ => Nat.le_of_ble_eq_true rfl) (fun E => ?_)
  refine q_iload_n dX7_go_0 rfl ?_
  refine q_iconst (x := 1) dX7_go_1 (by decide) ?_
  refine q_sipush (x := 999) dX7_go_2 (by decide) ?_
  refine q_cSi lX7_77 sX7_within dX7_go_5 kX7_within rfl rfl (Nat.le_of_ble_eq_true rfl) (by decide) ?_
  refine q_bne 13 dX7_go_8 (by decide) (fun h8 => ?_) (fun h8 => ?_)
  · refine q_iconst (x := 0) dX7_go_13 (by decide) ?_
    refine q_istore_n dX7_go_14 (by decide) rfl ?_
    exact lpX7_go2 h6 (by omega) (n0 + 1) 0 σ (by omega) (by omega) hN
  · exact absurd h8 (by rw [show q_win (nI n0) 1 999 = true from decide_eq_true (by have := nI_toInt (n := n0) (by omega); have e1 : (1 : Int32).toInt = 1 := rfl; have e2 : (999 : Int32).toInt = 999 := rfl; omega)]; decide)

set_option maxHeartbeats 1000000 in
set_option maxRecDepth 100000 in
theorem kX7_goF {σ : q_M} {x : Int32} (hx : q_win x 1 999 = false) : q_Ct YX7_go [.ref 0, .int x] q_SH σ (q_is (some (-1)) q_SH σ) := by
  refine q_ct (n := 2) (by decide) (by decide) rfl (fun _ => Nat.le_of_ble_eq_true rfl) (fun E => ?_)
  refine q_iload_n dX7_go_0 rfl ?_
  refine q_iconst (x := 1) dX7_go_1 (by decide) ?_
  refine q_sipush (x := 999) dX7_go_2 (by decide) ?_
  refine q_cSi lX7_77 sX7_within dX7_go_5 kX7_within rfl rfl (Nat.le_of_ble_eq_true rfl) (by decide) ?_
  refine q_bne 13 dX7_go_8 (by decide) (fun h8 => ?_) (fun h8 => ?_)
  · exact absurd h8 (by rw [hx]; decide)
  · refine q_iconst (x := (-1)) dX7_go_11 (by decide) ?_
    refine q_ret dX7_go_12 ?_ rfl rfl
    exact ⟨rfl, rfl, rfl⟩
