/-! what DiverBottle answers: first half -/
theorem q_sw (n : Nat) (x : Int32) : (x.toInt < 0 ∨ (n : Int) ≤ x.toInt) ∨ ∃ j, j < n ∧ x = nI j := by
  by_cases h : x.toInt < 0 ∨ (n : Int) ≤ x.toInt
  · exact Or.inl h
  · obtain ⟨j, h1, h2⟩ := nI_of (x := x) (fun e => h (Or.inl (Int32.lt_iff_toInt_lt.mp e)))
    refine Or.inr ⟨j, ?_, h2⟩
    have := nI_toInt h1
    rw [← h2] at this
    omega
theorem q_clamp {x : Int32} (h : 0 ≤ x.toInt) : x.toInt = (x.toNatClampNeg : Int) := by
  show x.toInt = (x.toInt.toNat : Int)
  omega
theorem q_dvi {σ : q_M} {k : Int32} {N : Nat} (hN : σ 17 2 = nI N) (h6 : N ≤ 6) (h : q_win k 0 (σ 17 2 - 1) = true) : k.toInt = (k.toNatClampNeg : Int) ∧ k.toNatClampNeg < N := by
  have h1 := q_win_t h
  have e0 : (0 : Int32).toInt = 0 := rfl
  have e1 : (σ 17 2 - 1).toInt = (N : Int) - 1 := by
    rw [hN]
    exact pk_sub_toInt (a := N) (b := 1) (by omega) (by omega)
  have e2 := q_clamp (x := k) (by omega)
  exact ⟨e2, by omega⟩
def q_fN (p : Nat → Bool) (n : Nat) : Nat → Nat
  | 0 => n
  | k + 1 => if p (n - (k + 1)) then n - (k + 1) else q_fN p n k

set_option maxHeartbeats 1000000 in
set_option maxRecDepth 100000 in
theorem kX7_end {σ : q_M} {n : Int32} : q_Ct YX7_end [.ref 0, .int n] q_SH σ (q_is (some (if q_win n 0 (σ 1 4) then σ 1 4 else -1)) q_SH (if q_win n 0 (σ 1 4) then q_up σ 1 4 n else σ)) := by
  refine q_ct (n := 1) (by decide) (by decide) rfl (fun _ => Nat.le_of_ble_eq_true rfl) (fun E => ?_)
  refine q_aload_n dX7_end_0 rfl ?_
  refine q_getr fX7_10 dX7_end_1 (by first | rfl | assumption) (by rfl) ?_
  refine q_get fX7_74 dX7_end_4 (by first | rfl | assumption) (by rfl) ?_
  refine q_istore_n dX7_end_7 (by decide) rfl ?_
  refine q_iload_n dX7_end_8 rfl ?_
  refine q_iconst (x := 0) dX7_end_9 (by decide) ?_
  refine q_iload_n dX7_end_10 rfl ?_
  refine q_cSi lX7_77 sX7_within dX7_end_11 kX7_within rfl rfl (Nat.le_of_ble_eq_true rfl) (by decide) ?_
  refine q_bne 19 dX7_end_14 (by decide) (fun h14 => ?_) (fun h14 => ?_)
  · refine q_aload_n dX7_end_19 rfl ?_
    refine q_getr fX7_10 dX7_end_20 (by first | rfl | assumption) (by rfl) ?_
    refine q_iload_n dX7_end_23 rfl ?_
    refine q_put_i pX7_74 dX7_end_24 (by first | rfl | assumption) (by rfl) rfl rfl ?_
    refine q_iload_n dX7_end_27 rfl ?_
    refine q_ret dX7_end_28 ?_ rfl rfl
    try clear hN
    try clear hH
    exact ⟨congrArg some (by simp [*]), rfl, by simp [*]⟩
  · refine q_iconst (x := (-1)) dX7_end_17 (by decide) ?_
    refine q_ret dX7_end_18 ?_ rfl rfl
    try clear hN
    try clear hH
    exact ⟨congrArg some (by simp [*]), rfl, by simp [*]⟩

set_option maxHeartbeats 1000000 in
set_option maxRecDepth 100000 in
theorem kX7_fault {σ : q_M}  : q_Ct YX7_fault [.ref 0] q_SH σ (q_is (some (σ 0 9)) q_SH σ) := by
  refine q_ct (n := 0) (by decide) (by decide) rfl (fun _ => Nat.le_of_ble_eq_true rfl) (fun E => ?_)
  refine q_aload_n dX7_fault_0 rfl ?_
  refine q_get fX7_88 dX7_fault_1 (by first | rfl | assumption) (by rfl) ?_
  refine q_ret dX7_fault_4 ?_ rfl rfl
  exact ⟨rfl, rfl, rfl⟩

set_option maxHeartbeats 1000000 in
set_option maxRecDepth 100000 in
theorem kX7_torn {σ : q_M}  : q_Ct YX7_torn [.ref 0] q_SH σ (q_is (some (σ 0 10)) q_SH σ) := by
  refine q_ct (n := 0) (by decide) (by decide) rfl (fun _ => Nat.le_of_ble_eq_true rfl) (fun E => ?_)
  refine q_aload_n dX7_torn_0 rfl ?_
  refine q_get fX7_337 dX7_torn_1 (by first | rfl | assumption) (by rfl) ?_
  refine q_ret dX7_torn_4 ?_ rfl rfl
  exact ⟨rfl, rfl, rfl⟩

set_option maxHeartbeats 1000000 in
set_option maxRecDepth 100000 in
theorem kX7_rule {σ : q_M} {w : Int32} : q_Ct YX7_rule [.ref 0, .int w] q_SH σ (q_is (some (if w = 2 then σ 17 4 else if q_win w 0 6 then σ 15 w.toNatClampNeg else if q_win w 10 33 then σ 16 (w - 10).toNatClampNeg else -1)) q_SH σ) := by
  refine q_ct (n := 0) (by decide) (by decide) rfl (fun _ => Nat.le_of_ble_eq_true rfl) (fun E => ?_)
  refine q_iload_n dX7_rule_0 rfl ?_
  refine q_iconst (x := 2) dX7_rule_1 (by decide) ?_
  refine q_icmp_ne 13 dX7_rule_2 (by decide) (fun h2 => ?_) (fun h2 => ?_)
  · refine q_iload_n dX7_rule_13 rfl ?_
    refine q_iconst (x := 0) dX7_rule_14 (by decide) ?_
    refine q_bipush (x := 6) dX7_rule_15 (by decide) ?_
    refine q_cSi lX7_77 sX7_within dX7_rule_17 kX7_within rfl rfl (Nat.le_of_ble_eq_true rfl) (by decide) ?_
    refine q_beq 33 dX7_rule_20 (by decide) (fun h20 => ?_) (fun h20 => ?_)
    · refine q_iload_n dX7_rule_33 rfl ?_
      refine q_bipush (x := 10) dX7_rule_34 (by decide) ?_
      refine q_bipush (x := 33) dX7_rule_36 (by decide) ?_
      refine q_cSi lX7_77 sX7_within dX7_rule_38 kX7_within rfl rfl (Nat.le_of_ble_eq_true rfl) (by decide) ?_
      refine q_beq 57 dX7_rule_41 (by decide) (fun h41 => ?_) (fun h41 => ?_)
      · refine q_iconst (x := (-1)) dX7_rule_57 (by decide) ?_
        refine q_ret dX7_rule_58 ?_ rfl rfl
        try clear hN
        try clear hH
        exact ⟨congrArg some (by simp [*]), rfl, rfl⟩
      · have hq := q_win_t h41
        have e0 : (10 : Int32).toInt = 10 := rfl
        have e6 : (33 : Int32).toInt = 33 := rfl
        have e1 : (w - 10).toInt = w.toInt - 10 := by
          obtain ⟨j, hj, hw⟩ := nI_of (x := w) (fun e => by have := Int32.lt_iff_toInt_lt.mp e; have z : (0 : Int32).toInt = 0 := rfl; omega)
          subst hw
          have hjt := nI_toInt hj
          rw [hjt]
          exact pk_sub_toInt (a := j) (b := 10) (by omega) (by omega)
        have hk := q_clamp (x := w - 10) (by omega)
        refine q_aload_n dX7_rule_44 rfl ?_
        refine q_getr fX7_19 dX7_rule_45 (by first | rfl | assumption) (by rfl) ?_
        refine q_getr fX7_113 dX7_rule_48 (by first | rfl | assumption) (by rfl) ?_
        refine q_iload_n dX7_rule_51 rfl ?_
        refine q_bipush (x := 10) dX7_rule_52 (by decide) ?_
        refine q_isub dX7_rule_54 ?_
        refine q_ild (w - 10).toNatClampNeg (by first | rfl | assumption) hk (by omega) dX7_rule_55 ?_
        refine q_ret dX7_rule_56 ?_ rfl rfl
        try clear hN
        try clear hH
        exact ⟨congrArg some (by simp [*]), rfl, rfl⟩
    · have hq := q_win_t h20
      have e0 : (0 : Int32).toInt = 0 := rfl
      have e6 : (6 : Int32).toInt = 6 := rfl
      have hk := q_clamp (x := w) (by omega)
      refine q_aload_n dX7_rule_23 rfl ?_
      refine q_getr fX7_19 dX7_rule_24 (by first | rfl | assumption) (by rfl) ?_
      refine q_getr fX7_62 dX7_rule_27 (by first | rfl | assumption) (by rfl) ?_
      refine q_iload_n dX7_rule_30 rfl ?_
      refine q_ild w.toNatClampNeg (by first | rfl | assumption) hk (by omega) dX7_rule_31 ?_
      refine q_ret dX7_rule_32 ?_ rfl rfl
      try clear hN
      try clear hH
      exact ⟨congrArg some (by simp [*]), rfl, rfl⟩
  · refine q_aload_n dX7_rule_5 rfl ?_
    refine q_getr fX7_26 dX7_rule_6 (by first | rfl | assumption) (by rfl) ?_
    refine q_get fX7_66 dX7_rule_9 (by first | rfl | assumption) (by rfl) ?_
    refine q_ret dX7_rule_12 ?_ rfl rfl
    try clear hN
    try clear hH
    exact ⟨congrArg some (by simp [*]), rfl, rfl⟩

def q_dvf (σ : q_M) (d : Nat) : Nat → Int32
  | 0 => σ d 0
  | 1 => σ d 1
  | 2 => σ d 2
  | 3 => σ d 3
  | 4 => q_b (q_t (σ d 7))
  | 5 => σ d 4
  | 6 => q_dc (σ d 5) 64
  | 7 => σ d 5
  | 8 => σ d 6
  | 9 => q_Wc σ d (q_dc (σ d 5) 64) (σ 17 3)
  | _ => -1000000

set_option maxHeartbeats 1000000 in
set_option maxRecDepth 100000 in
theorem kX7_diver {σ : q_M} {N : Nat} (hN : σ 17 2 = nI N) (h6 : N ≤ 6) {k w : Int32} : q_Ct YX7_diver [.ref 0, .int k, .int w] q_SH σ (q_is (some (if q_win k 0 (σ 17 2 - 1) && q_win w 0 9 then q_dvf σ (23 + k.toNatClampNeg) w.toNatClampNeg else -1000000)) q_SH σ) := by
  refine q_ct (n := 1) (by decide) (by decide) rfl (fun _ => Nat.le_of_ble_eq_true rfl) (fun E => ?_)
  refine q_aload_n dX7_diver_0 rfl ?_
  refine q_iload_n dX7_diver_1 rfl ?_
  refine q_cVi lX7_116 vX7_isDiver (ci := 7) rfl dX7_diver_2 kX7_isDiver (by first | rfl | assumption) rfl rfl (Nat.le_of_ble_eq_true rfl) (by decide) ?_
  refine q_bne 11 dX7_diver_5 (by decide) (fun h5 => ?_) (fun h5 => ?_)
  · obtain ⟨hk, hj⟩ := q_dvi hN h6 h5
    have hd := q_SH_dv (j := k.toNatClampNeg) (by omega)
    refine q_aload_n dX7_diver_11 rfl ?_
    refine q_getr fX7_26 dX7_diver_12 (by first | rfl | assumption) (by rfl) ?_
    refine q_getr fX7_121 dX7_diver_15 (by first | rfl | assumption) (by rfl) ?_
    refine q_iload_n dX7_diver_18 rfl ?_
    refine q_ald k.toNatClampNeg (by first | rfl | assumption) hk (by omega) (q_ra_at (by omega)) ⟨by decide, by decide⟩ dX7_diver_19 ?_
    refine q_astore_n dX7_diver_20 (by decide) rfl ?_
    refine q_iload_n dX7_diver_21 rfl ?_
    rcases q_sw 10 w with hsw | ⟨jsw, hsw, hjsw⟩
    · refine q_tabOut 141 dX7_diver_22 (by omega) (by decide) ?_
      refine q_ldc kX7_120 dX7_diver_141 ?_
      refine q_ret dX7_diver_143 ?_ rfl rfl
      have hf : q_win w 0 9 = false := decide_eq_false (by have e0 : (0 : Int32).toInt = 0 := rfl; have e9 : (9 : Int32).toInt = 9 := rfl; omega)
      clear hN
      exact ⟨congrArg some (by simp [*]), rfl, rfl⟩
    · rcases (show jsw = 0 ∨ jsw = 1 ∨ jsw = 2 ∨ jsw = 3 ∨ jsw = 4 ∨ jsw = 5 ∨ jsw = 6 ∨ jsw = 7 ∨ jsw = 8 ∨ jsw = 9 by omega) with rfl | rfl | rfl | rfl | rfl | rfl | rfl | rfl | rfl | rfl
      · subst hjsw
        refine q_tabIn 76 dX7_diver_22 (by decide) (by decide) rfl (by decide) ?_
        refine q_aload_n dX7_diver_76 rfl ?_
        refine q_get fX7_122 dX7_diver_77 (by first | rfl | assumption) (by rfl) ?_
        refine q_ret dX7_diver_80 ?_ rfl rfl
        exact ⟨congrArg some (by rw [h5]; rfl), rfl, rfl⟩
      · subst hjsw
        refine q_tabIn 81 dX7_diver_22 (by decide) (by decide) rfl (by decide) ?_
        refine q_aload_n dX7_diver_81 rfl ?_
        refine q_get fX7_127 dX7_diver_82 (by first | rfl | assumption) (by rfl) ?_
        refine q_ret dX7_diver_85 ?_ rfl rfl
        exact ⟨congrArg some (by rw [h5]; rfl), rfl, rfl⟩
      · subst hjsw
        refine q_tabIn 86 dX7_diver_22 (by decide) (by decide) rfl (by decide) ?_
        refine q_aload_n dX7_diver_86 rfl ?_
        refine q_get fX7_130 dX7_diver_87 (by first | rfl | assumption) (by rfl) ?_
        refine q_ret dX7_diver_90 ?_ rfl rfl
        exact ⟨congrArg some (by rw [h5]; rfl), rfl, rfl⟩
      · subst hjsw
        refine q_tabIn 91 dX7_diver_22 (by decide) (by decide) rfl (by decide) ?_
        refine q_aload_n dX7_diver_91 rfl ?_
        refine q_get fX7_133 dX7_diver_92 (by first | rfl | assumption) (by rfl) ?_
        refine q_ret dX7_diver_95 ?_ rfl rfl
        exact ⟨congrArg some (by rw [h5]; rfl), rfl, rfl⟩
      · subst hjsw
        refine q_tabIn 96 dX7_diver_22 (by decide) (by decide) rfl (by decide) ?_
        refine q_aload_n dX7_diver_96 rfl ?_
        refine q_get fX7_136 dX7_diver_97 (by first | rfl | assumption) (by rfl) ?_
        refine q_cSi lX7_140 sX7_bit dX7_diver_100 kX7_bit rfl rfl (Nat.le_of_ble_eq_true rfl) (by decide) ?_
        refine q_ret dX7_diver_103 ?_ rfl rfl
        exact ⟨congrArg some (by rw [h5]; rfl), rfl, rfl⟩
      · subst hjsw
        refine q_tabIn 104 dX7_diver_22 (by decide) (by decide) rfl (by decide) ?_
        refine q_aload_n dX7_diver_104 rfl ?_
        refine q_get fX7_144 dX7_diver_105 (by first | rfl | assumption) (by rfl) ?_
        refine q_ret dX7_diver_108 ?_ rfl rfl
        exact ⟨congrArg some (by rw [h5]; rfl), rfl, rfl⟩
      · subst hjsw
        refine q_tabIn 109 dX7_diver_22 (by decide) (by decide) rfl (by decide) ?_
        refine q_aload_n dX7_diver_109 rfl ?_
        refine q_cVi lX7_147 vX0_depth (ci := 0) rfl dX7_diver_110 (kX0_depth (by first | rfl | assumption)) (by first | rfl | assumption) rfl rfl (Nat.le_of_ble_eq_true rfl) (by decide) ?_
        refine q_ret dX7_diver_113 ?_ rfl rfl
        exact ⟨congrArg some (by rw [h5]; rfl), rfl, rfl⟩
      · subst hjsw
        refine q_tabIn 114 dX7_diver_22 (by decide) (by decide) rfl (by decide) ?_
        refine q_aload_n dX7_diver_114 rfl ?_
        refine q_get fX7_151 dX7_diver_115 (by first | rfl | assumption) (by rfl) ?_
        refine q_ret dX7_diver_118 ?_ rfl rfl
        exact ⟨congrArg some (by rw [h5]; rfl), rfl, rfl⟩
      · subst hjsw
        refine q_tabIn 119 dX7_diver_22 (by decide) (by decide) rfl (by decide) ?_
        refine q_aload_n dX7_diver_119 rfl ?_
        refine q_get fX7_154 dX7_diver_120 (by first | rfl | assumption) (by rfl) ?_
        refine q_ret dX7_diver_123 ?_ rfl rfl
        exact ⟨congrArg some (by rw [h5]; rfl), rfl, rfl⟩
      · subst hjsw
        refine q_tabIn 124 dX7_diver_22 (by decide) (by decide) rfl (by decide) ?_
        refine q_aload_n dX7_diver_124 rfl ?_
        refine q_aload_n dX7_diver_125 rfl ?_
        refine q_aload_n dX7_diver_126 rfl ?_
        refine q_cVi lX7_147 vX0_depth (ci := 0) rfl dX7_diver_127 (kX0_depth (by first | rfl | assumption)) (by first | rfl | assumption) rfl rfl (Nat.le_of_ble_eq_true rfl) (by decide) ?_
        refine q_aload_n dX7_diver_130 rfl ?_
        refine q_getr fX7_26 dX7_diver_131 (by first | rfl | assumption) (by rfl) ?_
        refine q_get fX7_157 dX7_diver_134 (by first | rfl | assumption) (by rfl) ?_
        refine q_cVi lX7_160 vX7_weightOf (ci := 7) rfl dX7_diver_137 (kX7_weightOf (by first | rfl | assumption)) (by first | rfl | assumption) rfl rfl (Nat.le_of_ble_eq_true rfl) (by decide) ?_
        refine q_ret dX7_diver_140 ?_ rfl rfl
        exact ⟨congrArg some (by rw [h5]; rfl), rfl, rfl⟩
  · refine q_ldc kX7_120 dX7_diver_8 ?_
    refine q_ret dX7_diver_10 ?_ rfl rfl
    try clear hN
    try clear hH
    exact ⟨congrArg some (by simp [*]), rfl, rfl⟩

set_option maxHeartbeats 1000000 in
set_option maxRecDepth 100000 in
theorem kX7_thumb {σ : q_M} {x : Int32} : q_Ct YX7_thumb [.ref 0, .int x] q_SH σ (q_is (some (if q_win x 0 500 then σ 17 3 else -1)) q_SH (if q_win x 0 500 then q_up σ 17 3 x else σ)) := by
  refine q_ct (n := 1) (by decide) (by decide) rfl (fun _ => Nat.le_of_ble_eq_true rfl) (fun E => ?_)
  refine q_iload_n dX7_thumb_0 rfl ?_
  refine q_cSi lX7_164 sX7_isThumb dX7_thumb_1 kX7_isThumb rfl rfl (Nat.le_of_ble_eq_true rfl) (by decide) ?_
  refine q_bne 9 dX7_thumb_4 (by decide) (fun h4 => ?_) (fun h4 => ?_)
  · refine q_aload_n dX7_thumb_9 rfl ?_
    refine q_getr fX7_26 dX7_thumb_10 (by first | rfl | assumption) (by rfl) ?_
    refine q_get fX7_157 dX7_thumb_13 (by first | rfl | assumption) (by rfl) ?_
    refine q_istore_n dX7_thumb_16 (by decide) rfl ?_
    refine q_aload_n dX7_thumb_17 rfl ?_
    refine q_getr fX7_26 dX7_thumb_18 (by first | rfl | assumption) (by rfl) ?_
    refine q_iload_n dX7_thumb_21 rfl ?_
    refine q_put_i pX7_157 dX7_thumb_22 (by first | rfl | assumption) (by rfl) rfl rfl ?_
    refine q_iload_n dX7_thumb_25 rfl ?_
    refine q_ret dX7_thumb_26 ?_ rfl rfl
    try clear hN
    try clear hH
    exact ⟨congrArg some (by simp [*]), rfl, by simp [*]⟩
  · refine q_iconst (x := (-1)) dX7_thumb_7 (by decide) ?_
    refine q_ret dX7_thumb_8 ?_ rfl rfl
    try clear hN
    try clear hH
    exact ⟨congrArg some (by simp [*]), rfl, by simp [*]⟩

set_option maxHeartbeats 1000000 in
set_option maxRecDepth 100000 in
theorem kX7_warm {σ : q_M} {x : Int32} : q_Ct YX7_warm [.ref 0, .int x] q_SH σ (q_is (some (if q_win x 250 350 then σ 17 4 else -1)) q_SH (if q_win x 250 350 then q_up σ 17 4 x else σ)) := by
  refine q_ct (n := 1) (by decide) (by decide) rfl (fun _ => Nat.le_of_ble_eq_true rfl) (fun E => ?_)
  refine q_iload_n dX7_warm_0 rfl ?_
  refine q_gets 1 ⟨by decide, by decide⟩ gX7_167 dX7_warm_1 ?_
  refine q_iconst (x := 2) dX7_warm_4 (by decide) ?_
  refine q_tld 1 2 ⟨by decide, by decide⟩ rfl (by decide) dX7_warm_5 ?_
  rw [show q_tab 1 2 = 250 from rfl]
  refine q_gets 2 ⟨by decide, by decide⟩ gX7_170 dX7_warm_6 ?_
  refine q_iconst (x := 2) dX7_warm_9 (by decide) ?_
  refine q_tld 2 2 ⟨by decide, by decide⟩ rfl (by decide) dX7_warm_10 ?_
  rw [show q_tab 2 2 = 350 from rfl]
  refine q_cSi lX7_77 sX7_within dX7_warm_11 kX7_within rfl rfl (Nat.le_of_ble_eq_true rfl) (by decide) ?_
  refine q_bne 19 dX7_warm_14 (by decide) (fun h14 => ?_) (fun h14 => ?_)
  · refine q_aload_n dX7_warm_19 rfl ?_
    refine q_getr fX7_26 dX7_warm_20 (by first | rfl | assumption) (by rfl) ?_
    refine q_get fX7_66 dX7_warm_23 (by first | rfl | assumption) (by rfl) ?_
    refine q_istore_n dX7_warm_26 (by decide) rfl ?_
    refine q_aload_n dX7_warm_27 rfl ?_
    refine q_getr fX7_26 dX7_warm_28 (by first | rfl | assumption) (by rfl) ?_
    refine q_iload_n dX7_warm_31 rfl ?_
    refine q_put_i pX7_66 dX7_warm_32 (by first | rfl | assumption) (by rfl) rfl rfl ?_
    refine q_iload_n dX7_warm_35 rfl ?_
    refine q_ret dX7_warm_36 ?_ rfl rfl
    try clear hN
    try clear hH
    exact ⟨congrArg some (by simp [*]), rfl, by simp [*]⟩
  · refine q_iconst (x := (-1)) dX7_warm_17 (by decide) ?_
    refine q_ret dX7_warm_18 ?_ rfl rfl
    try clear hN
    try clear hH
    exact ⟨congrArg some (by simp [*]), rfl, by simp [*]⟩

set_option maxHeartbeats 1000000 in
set_option maxRecDepth 100000 in
theorem kX7_set {σ : q_M} {N : Nat} (hN : σ 17 2 = nI N) (h6 : N ≤ 6) {k dep : Int32} : q_Ct YX7_set [.ref 0, .int k, .int dep] q_SH σ (q_is (some (if q_win k 0 (σ 17 2 - 1) && q_win dep 0 (σ 15 0) then q_dc (σ (23 + k.toNatClampNeg) 5) 64 else -1)) q_SH (if q_win k 0 (σ 17 2 - 1) && q_win dep 0 (σ 15 0) then q_up (q_up σ (23 + k.toNatClampNeg) 5 (dep * 64)) (23 + k.toNatClampNeg) 6 0 else σ)) := by
  refine q_ct (n := 2) (by decide) (by decide) rfl (fun _ => Nat.le_of_ble_eq_true rfl) (fun E => ?_)
  refine q_aload_n dX7_set_0 rfl ?_
  refine q_iload_n dX7_set_1 rfl ?_
  refine q_cVi lX7_116 vX7_isDiver (ci := 7) rfl dX7_set_2 kX7_isDiver (by first | rfl | assumption) rfl rfl (Nat.le_of_ble_eq_true rfl) (by decide) ?_
  refine q_beq 16 dX7_set_5 (by decide) (fun h5 => ?_) (fun h5 => ?_)
  · refine q_iconst (x := (-1)) dX7_set_16 (by decide) ?_
    refine q_ret dX7_set_17 ?_ rfl rfl
    try clear hN
    try clear hH
    exact ⟨congrArg some (by simp [*]), rfl, by simp [*]⟩
  · refine q_aload_n dX7_set_8 rfl ?_
    refine q_iload_n dX7_set_9 rfl ?_
    refine q_cVi lX7_188 vX7_isDepth (ci := 7) rfl dX7_set_10 kX7_isDepth (by first | rfl | assumption) rfl rfl (Nat.le_of_ble_eq_true rfl) (by decide) ?_
    refine q_bne 18 dX7_set_13 (by decide) (fun h13 => ?_) (fun h13 => ?_)
    · obtain ⟨hk, hj⟩ := q_dvi hN h6 h5
      have hd := q_SH_dv (j := k.toNatClampNeg) (by omega)
      refine q_aload_n dX7_set_18 rfl ?_
      refine q_getr fX7_26 dX7_set_19 (by first | rfl | assumption) (by rfl) ?_
      refine q_getr fX7_121 dX7_set_22 (by first | rfl | assumption) (by rfl) ?_
      refine q_iload_n dX7_set_25 rfl ?_
      refine q_ald k.toNatClampNeg (by first | rfl | assumption) hk (by omega) (q_ra_at (by omega)) ⟨by decide, by decide⟩ dX7_set_26 ?_
      refine q_astore_n dX7_set_27 (by decide) rfl ?_
      refine q_aload_n dX7_set_28 rfl ?_
      refine q_cVi lX7_147 vX0_depth (ci := 0) rfl dX7_set_29 (kX0_depth (by first | rfl | assumption)) (by first | rfl | assumption) rfl rfl (Nat.le_of_ble_eq_true rfl) (by decide) ?_
      refine q_istore dX7_set_32 (by decide) rfl ?_
      refine q_aload_n dX7_set_34 rfl ?_
      refine q_iload_n dX7_set_35 rfl ?_
      refine q_bipush (x := 64) dX7_set_36 (by decide) ?_
      refine q_imul dX7_set_38 ?_
      refine q_put_i pX7_151 dX7_set_39 (by first | rfl | assumption) (by rfl) rfl rfl ?_
      refine q_aload_n dX7_set_42 rfl ?_
      refine q_iconst (x := 0) dX7_set_43 (by decide) ?_
      refine q_put_i pX7_154 dX7_set_44 (by first | rfl | assumption) (by rfl) rfl rfl ?_
      refine q_iload dX7_set_47 rfl ?_
      refine q_ret dX7_set_49 ?_ rfl rfl
      try clear hN
      try clear hH
      exact ⟨congrArg some (by simp [*]), rfl, by simp [*]⟩
    · refine q_iconst (x := (-1)) dX7_set_16 (by decide) ?_
      refine q_ret dX7_set_17 ?_ rfl rfl
      try clear hN
      try clear hH
      exact ⟨congrArg some (by simp [*]), rfl, by simp [*]⟩

def q_nwf (σ : q_M) (N : Nat) : Nat → Int32
  | 0 => σ 17 5
  | 1 => σ 17 3
  | 2 => q_bits (fun k => decide (σ (23 + k) 5 = 0)) N
  | 3 => q_bits (fun k => decide (σ (23 + k) 5 = σ 15 0 * 64)) N
  | 4 => q_b (q_t (σ 17 7))
  | 5 => σ 17 6
  | _ => -1

set_option maxHeartbeats 1000000 in
set_option maxRecDepth 100000 in
theorem kX7_now {σ : q_M} {N : Nat} (hN : σ 17 2 = nI N) (h6 : N ≤ 6) {w : Int32} : q_Ct YX7_now [.ref 0, .int w] q_SH σ (q_is (some (if q_win w 0 5 then q_nwf σ N w.toNatClampNeg else -1)) q_SH σ) := by
  refine q_ct (n := 0) (by decide) (by decide) rfl (fun _ => Nat.le_of_ble_eq_true rfl) (fun E => ?_)
  refine q_iload_n dX7_now_0 rfl ?_
  rcases q_sw 6 w with hsw | ⟨jsw, hsw, hjsw⟩
  · refine q_tabOut 93 dX7_now_1 (by omega) (by decide) ?_
    refine q_iconst (x := (-1)) dX7_now_93 (by decide) ?_
    refine q_ret dX7_now_94 ?_ rfl rfl
    have hf : q_win w 0 5 = false := decide_eq_false (by have e0 : (0 : Int32).toInt = 0 := rfl; have e9 : (5 : Int32).toInt = 5 := rfl; omega)
    clear hN
    exact ⟨congrArg some (by simp [*]), rfl, rfl⟩
  · rcases (show jsw = 0 ∨ jsw = 1 ∨ jsw = 2 ∨ jsw = 3 ∨ jsw = 4 ∨ jsw = 5 by omega) with rfl | rfl | rfl | rfl | rfl | rfl
    · subst hjsw
      refine q_tabIn 40 dX7_now_1 (by decide) (by decide) rfl (by decide) ?_
      refine q_aload_n dX7_now_40 rfl ?_
      refine q_getr fX7_26 dX7_now_41 (by first | rfl | assumption) (by rfl) ?_
      refine q_get fX7_178 dX7_now_44 (by first | rfl | assumption) (by rfl) ?_
      refine q_ret dX7_now_47 ?_ rfl rfl
      exact ⟨rfl, rfl, rfl⟩
    · subst hjsw
      refine q_tabIn 48 dX7_now_1 (by decide) (by decide) rfl (by decide) ?_
      refine q_aload_n dX7_now_48 rfl ?_
      refine q_getr fX7_26 dX7_now_49 (by first | rfl | assumption) (by rfl) ?_
      refine q_get fX7_157 dX7_now_52 (by first | rfl | assumption) (by rfl) ?_
      refine q_ret dX7_now_55 ?_ rfl rfl
      exact ⟨rfl, rfl, rfl⟩
    · subst hjsw
      refine q_tabIn 56 dX7_now_1 (by decide) (by decide) rfl (by decide) ?_
      refine q_aload_n dX7_now_56 rfl ?_
      refine q_iconst (x := 0) dX7_now_57 (by decide) ?_
      refine q_cVi lX7_184 vX7_diversAt (ci := 7) rfl dX7_now_58 (kX7_diversAt hN h6) (by first | rfl | assumption) rfl rfl (Nat.le_of_ble_eq_true rfl) (by decide) ?_
      refine q_ret dX7_now_61 ?_ rfl rfl
      exact ⟨rfl, rfl, rfl⟩
    · subst hjsw
      refine q_tabIn 62 dX7_now_1 (by decide) (by decide) rfl (by decide) ?_
      refine q_aload_n dX7_now_62 rfl ?_
      refine q_aload_n dX7_now_63 rfl ?_
      refine q_getr fX7_19 dX7_now_64 (by first | rfl | assumption) (by rfl) ?_
      refine q_cVi lX7_181 vX6_floor (ci := 6) rfl dX7_now_67 (kX6_floor (by first | rfl | assumption) (by first | rfl | assumption)) (by first | rfl | assumption) rfl rfl (Nat.le_of_ble_eq_true rfl) (by decide) ?_
      refine q_cVi lX7_184 vX7_diversAt (ci := 7) rfl dX7_now_70 (kX7_diversAt hN h6) (by first | rfl | assumption) rfl rfl (Nat.le_of_ble_eq_true rfl) (by decide) ?_
      refine q_ret dX7_now_73 ?_ rfl rfl
      exact ⟨rfl, rfl, rfl⟩
    · subst hjsw
      refine q_tabIn 74 dX7_now_1 (by decide) (by decide) rfl (by decide) ?_
      refine q_aload_n dX7_now_74 rfl ?_
      refine q_getr fX7_26 dX7_now_75 (by first | rfl | assumption) (by rfl) ?_
      refine q_get fX7_191 dX7_now_78 (by first | rfl | assumption) (by rfl) ?_
      refine q_cSi lX7_140 sX7_bit dX7_now_81 kX7_bit rfl rfl (Nat.le_of_ble_eq_true rfl) (by decide) ?_
      refine q_ret dX7_now_84 ?_ rfl rfl
      exact ⟨rfl, rfl, rfl⟩
    · subst hjsw
      refine q_tabIn 85 dX7_now_1 (by decide) (by decide) rfl (by decide) ?_
      refine q_aload_n dX7_now_85 rfl ?_
      refine q_getr fX7_26 dX7_now_86 (by first | rfl | assumption) (by rfl) ?_
      refine q_get fX7_194 dX7_now_89 (by first | rfl | assumption) (by rfl) ?_
      refine q_ret dX7_now_92 ?_ rfl rfl
      exact ⟨rfl, rfl, rfl⟩

set_option maxHeartbeats 1000000 in
set_option maxRecDepth 100000 in
theorem kX7_press {σ : q_M} {dep : Int32} : q_Ct YX7_press [.ref 0, .int dep] q_SH σ (q_is (some (if q_win dep 0 (σ 15 0) then σ 15 1 + σ 17 3 + dep else -1)) q_SH σ) := by
  refine q_ct (n := 0) (by decide) (by decide) rfl (fun _ => Nat.le_of_ble_eq_true rfl) (fun E => ?_)
  refine q_aload_n dX7_press_0 rfl ?_
  refine q_iload_n dX7_press_1 rfl ?_
  refine q_cVi lX7_188 vX7_isDepth (ci := 7) rfl dX7_press_2 kX7_isDepth (by first | rfl | assumption) rfl rfl (Nat.le_of_ble_eq_true rfl) (by decide) ?_
  refine q_beq 26 dX7_press_5 (by decide) (fun h5 => ?_) (fun h5 => ?_)
  · refine q_iconst (x := (-1)) dX7_press_26 (by decide) ?_
    refine q_ret dX7_press_27 ?_ rfl rfl
    try clear hN
    try clear hH
    exact ⟨congrArg some (by simp [*]), rfl, rfl⟩
  · refine q_aload_n dX7_press_8 rfl ?_
    refine q_getr fX7_19 dX7_press_9 (by first | rfl | assumption) (by rfl) ?_
    refine q_iload_n dX7_press_12 rfl ?_
    refine q_aload_n dX7_press_13 rfl ?_
    refine q_getr fX7_26 dX7_press_14 (by first | rfl | assumption) (by rfl) ?_
    refine q_get fX7_157 dX7_press_17 (by first | rfl | assumption) (by rfl) ?_
    refine q_cVi lX7_197 vX6_pressAt (ci := 6) rfl dX7_press_20 (kX6_pressAt (by first | rfl | assumption) (by first | rfl | assumption)) (by first | rfl | assumption) rfl rfl (Nat.le_of_ble_eq_true rfl) (by decide) ?_
    refine q_goto 27 dX7_press_23 (by decide) ?_
    refine q_ret dX7_press_27 ?_ rfl rfl
    try clear hN
    try clear hH
    exact ⟨congrArg some (by simp [*]), rfl, rfl⟩

set_option maxHeartbeats 1000000 in
set_option maxRecDepth 100000 in
theorem kX7_weighs {σ : q_M} {N : Nat} (hN : σ 17 2 = nI N) (h6 : N ≤ 6) {k dep th : Int32} : q_Ct YX7_weighs [.ref 0, .int k, .int dep, .int th] q_SH σ (q_is (some (if q_win k 0 (σ 17 2 - 1) && q_win dep 0 (σ 15 0) && q_win th 0 500 then q_Wc σ (23 + k.toNatClampNeg) dep th else -1000000)) q_SH σ) := by
  refine q_ct (n := 0) (by decide) (by decide) rfl (fun _ => Nat.le_of_ble_eq_true rfl) (fun E => ?_)
  refine q_aload_n dX7_weighs_0 rfl ?_
  refine q_iload_n dX7_weighs_1 rfl ?_
  refine q_cVi lX7_116 vX7_isDiver (ci := 7) rfl dX7_weighs_2 kX7_isDiver (by first | rfl | assumption) rfl rfl (Nat.le_of_ble_eq_true rfl) (by decide) ?_
  refine q_beq 23 dX7_weighs_5 (by decide) (fun h5 => ?_) (fun h5 => ?_)
  · refine q_ldc kX7_120 dX7_weighs_23 ?_
    refine q_ret dX7_weighs_25 ?_ rfl rfl
    try clear hN
    try clear hH
    exact ⟨congrArg some (by simp [*]), rfl, rfl⟩
  · refine q_aload_n dX7_weighs_8 rfl ?_
    refine q_iload_n dX7_weighs_9 rfl ?_
    refine q_cVi lX7_188 vX7_isDepth (ci := 7) rfl dX7_weighs_10 kX7_isDepth (by first | rfl | assumption) rfl rfl (Nat.le_of_ble_eq_true rfl) (by decide) ?_
    refine q_beq 23 dX7_weighs_13 (by decide) (fun h13 => ?_) (fun h13 => ?_)
    · refine q_ldc kX7_120 dX7_weighs_23 ?_
      refine q_ret dX7_weighs_25 ?_ rfl rfl
      try clear hN
      try clear hH
      exact ⟨congrArg some (by simp [*]), rfl, rfl⟩
    · refine q_iload_n dX7_weighs_16 rfl ?_
      refine q_cSi lX7_164 sX7_isThumb dX7_weighs_17 kX7_isThumb rfl rfl (Nat.le_of_ble_eq_true rfl) (by decide) ?_
      refine q_bne 26 dX7_weighs_20 (by decide) (fun h20 => ?_) (fun h20 => ?_)
      · obtain ⟨hk, hj⟩ := q_dvi hN h6 h5
        have hd := q_SH_dv (j := k.toNatClampNeg) (by omega)
        refine q_aload_n dX7_weighs_26 rfl ?_
        refine q_aload_n dX7_weighs_27 rfl ?_
        refine q_getr fX7_26 dX7_weighs_28 (by first | rfl | assumption) (by rfl) ?_
        refine q_getr fX7_121 dX7_weighs_31 (by first | rfl | assumption) (by rfl) ?_
        refine q_iload_n dX7_weighs_34 rfl ?_
        refine q_ald k.toNatClampNeg (by first | rfl | assumption) hk (by omega) (q_ra_at (by omega)) ⟨by decide, by decide⟩ dX7_weighs_35 ?_
        refine q_iload_n dX7_weighs_36 rfl ?_
        refine q_iload_n dX7_weighs_37 rfl ?_
        refine q_cVi lX7_160 vX7_weightOf (ci := 7) rfl dX7_weighs_38 (kX7_weightOf (by first | rfl | assumption)) (by first | rfl | assumption) rfl rfl (Nat.le_of_ble_eq_true rfl) (by decide) ?_
        refine q_ret dX7_weighs_41 ?_ rfl rfl
        try clear hN
        try clear hH
        exact ⟨congrArg some (by simp [*]), rfl, rfl⟩
      · refine q_ldc kX7_120 dX7_weighs_23 ?_
        refine q_ret dX7_weighs_25 ?_ rfl rfl
        try clear hN
        try clear hH
        exact ⟨congrArg some (by simp [*]), rfl, rfl⟩

set_option maxHeartbeats 1000000 in
set_option maxRecDepth 100000 in
theorem kX7_goesAt {σ : q_M} {N : Nat} (hN : σ 17 2 = nI N) (h6 : N ≤ 6) {k : Int32} : q_Ct YX7_goesAt [.ref 0, .int k] q_SH σ (q_is (some (if q_win k 0 (σ 17 2 - 1) then q_th σ (23 + k.toNatClampNeg) else -1)) q_SH σ) := by
  refine q_ct (n := 0) (by decide) (by decide) rfl (fun _ => Nat.le_of_ble_eq_true rfl) (fun E => ?_)
  refine q_aload_n dX7_goesAt_0 rfl ?_
  refine q_iload_n dX7_goesAt_1 rfl ?_
  refine q_cVi lX7_116 vX7_isDiver (ci := 7) rfl dX7_goesAt_2 kX7_isDiver (by first | rfl | assumption) rfl rfl (Nat.le_of_ble_eq_true rfl) (by decide) ?_
  refine q_beq 16 dX7_goesAt_5 (by decide) (fun h5 => ?_) (fun h5 => ?_)
  · refine q_iconst (x := (-1)) dX7_goesAt_16 (by decide) ?_
    refine q_ret dX7_goesAt_17 ?_ rfl rfl
    try clear hN
    try clear hH
    exact ⟨congrArg some (by simp [*]), rfl, rfl⟩
  · obtain ⟨hk, hj⟩ := q_dvi hN h6 h5
    have hd := q_SH_dv (j := k.toNatClampNeg) (by omega)
    refine q_aload_n dX7_goesAt_8 rfl ?_
    refine q_iload_n dX7_goesAt_9 rfl ?_
    refine q_cVi lX7_201 vX7_thumbOf (ci := 7) rfl dX7_goesAt_10 (kX7_thumbOf hk (by omega)) (by first | rfl | assumption) rfl rfl (Nat.le_of_ble_eq_true rfl) (by decide) ?_
    refine q_goto 17 dX7_goesAt_13 (by decide) ?_
    refine q_ret dX7_goesAt_17 ?_ rfl rfl
    try clear hN
    try clear hH
    exact ⟨congrArg some (by simp [*]), rfl, rfl⟩

set_option maxHeartbeats 1000000 in
set_option maxRecDepth 100000 in
theorem kX7_bubbles {σ : q_M} {hv th w : Int32} : q_Ct YX7_bubbles [.ref 0, .int hv, .int th, .int w] q_SH σ (q_is (some (if q_win hv 1 999 && q_win th 0 500 && q_win w 0 2 then q_tell (q_max (q_ff σ (hv + 1) 0 0) (q_ff σ (hv + 1) (σ 15 0) 0)) (q_ff σ hv 0 th - 1) w else -1)) q_SH σ) := by
  refine q_ct (n := 0) (by decide) (by decide) rfl (fun _ => Nat.le_of_ble_eq_true rfl) (fun E => ?_)
  refine q_iload_n dX7_bubbles_0 rfl ?_
  refine q_cSi lX7_219 sX7_isHeavy dX7_bubbles_1 kX7_isHeavy rfl rfl (Nat.le_of_ble_eq_true rfl) (by decide) ?_
  refine q_beq 23 dX7_bubbles_4 (by decide) (fun h4 => ?_) (fun h4 => ?_)
  · refine q_iconst (x := (-1)) dX7_bubbles_23 (by decide) ?_
    refine q_ret dX7_bubbles_24 ?_ rfl rfl
    try clear hN
    try clear hH
    exact ⟨congrArg some (by simp [*]), rfl, rfl⟩
  · refine q_iload_n dX7_bubbles_7 rfl ?_
    refine q_cSi lX7_164 sX7_isThumb dX7_bubbles_8 kX7_isThumb rfl rfl (Nat.le_of_ble_eq_true rfl) (by decide) ?_
    refine q_beq 23 dX7_bubbles_11 (by decide) (fun h11 => ?_) (fun h11 => ?_)
    · refine q_iconst (x := (-1)) dX7_bubbles_23 (by decide) ?_
      refine q_ret dX7_bubbles_24 ?_ rfl rfl
      try clear hN
      try clear hH
      exact ⟨congrArg some (by simp [*]), rfl, rfl⟩
    · refine q_iload_n dX7_bubbles_14 rfl ?_
      refine q_iconst (x := 0) dX7_bubbles_15 (by decide) ?_
      refine q_iconst (x := 2) dX7_bubbles_16 (by decide) ?_
      refine q_cSi lX7_77 sX7_within dX7_bubbles_17 kX7_within rfl rfl (Nat.le_of_ble_eq_true rfl) (by decide) ?_
      refine q_bne 25 dX7_bubbles_20 (by decide) (fun h20 => ?_) (fun h20 => ?_)
      · refine q_aload_n dX7_bubbles_25 rfl ?_
        refine q_iload_n dX7_bubbles_26 rfl ?_
        refine q_cVi lX7_222 vX7_comesBackFrom (ci := 7) rfl dX7_bubbles_27 kX7_comesBackFrom (by first | rfl | assumption) rfl rfl (Nat.le_of_ble_eq_true rfl) (by decide) ?_
        refine q_aload_n dX7_bubbles_30 rfl ?_
        refine q_iload_n dX7_bubbles_31 rfl ?_
        refine q_iconst (x := 0) dX7_bubbles_32 (by decide) ?_
        refine q_iload_n dX7_bubbles_33 rfl ?_
        refine q_cVi lX7_225 vX7_floatsFrom (ci := 7) rfl dX7_bubbles_34 kX7_floatsFrom (by first | rfl | assumption) rfl rfl (Nat.le_of_ble_eq_true rfl) (by decide) ?_
        refine q_iconst (x := 1) dX7_bubbles_37 (by decide) ?_
        refine q_isub dX7_bubbles_38 ?_
        refine q_iload_n dX7_bubbles_39 rfl ?_
        refine q_cSi lX7_229 sX7_tellRange dX7_bubbles_40 kX7_tellRange rfl rfl (Nat.le_of_ble_eq_true rfl) (by decide) ?_
        refine q_ret dX7_bubbles_43 ?_ rfl rfl
        try clear hN
        try clear hH
        exact ⟨congrArg some (by simp [*]), rfl, rfl⟩
      · refine q_iconst (x := (-1)) dX7_bubbles_23 (by decide) ?_
        refine q_ret dX7_bubbles_24 ?_ rfl rfl
        try clear hN
        try clear hH
        exact ⟨congrArg some (by simp [*]), rfl, rfl⟩

set_option maxHeartbeats 1000000 in
set_option maxRecDepth 100000 in
theorem kX7_atThumb {σ : q_M} {hv th w : Int32} : q_Ct YX7_atThumb [.ref 0, .int hv, .int th, .int w] q_SH σ (q_is (some (if q_win hv 1 999 && q_win th 0 500 && q_win w 0 2 then q_tell (if th = 0 then 0 else q_ff σ hv 0 (th - 1)) (q_ff σ hv 0 th - 1) w else -1)) q_SH σ) := by
  refine q_ct (n := 0) (by decide) (by decide) rfl (fun _ => Nat.le_of_ble_eq_true rfl) (fun E => ?_)
  refine q_iload_n dX7_atThumb_0 rfl ?_
  refine q_cSi lX7_219 sX7_isHeavy dX7_atThumb_1 kX7_isHeavy rfl rfl (Nat.le_of_ble_eq_true rfl) (by decide) ?_
  refine q_beq 23 dX7_atThumb_4 (by decide) (fun h4 => ?_) (fun h4 => ?_)
  · refine q_iconst (x := (-1)) dX7_atThumb_23 (by decide) ?_
    refine q_ret dX7_atThumb_24 ?_ rfl rfl
    try clear hN
    try clear hH
    exact ⟨congrArg some (by simp [*]), rfl, rfl⟩
  · refine q_iload_n dX7_atThumb_7 rfl ?_
    refine q_cSi lX7_164 sX7_isThumb dX7_atThumb_8 kX7_isThumb rfl rfl (Nat.le_of_ble_eq_true rfl) (by decide) ?_
    refine q_beq 23 dX7_atThumb_11 (by decide) (fun h11 => ?_) (fun h11 => ?_)
    · refine q_iconst (x := (-1)) dX7_atThumb_23 (by decide) ?_
      refine q_ret dX7_atThumb_24 ?_ rfl rfl
      try clear hN
      try clear hH
      exact ⟨congrArg some (by simp [*]), rfl, rfl⟩
    · refine q_iload_n dX7_atThumb_14 rfl ?_
      refine q_iconst (x := 0) dX7_atThumb_15 (by decide) ?_
      refine q_iconst (x := 2) dX7_atThumb_16 (by decide) ?_
      refine q_cSi lX7_77 sX7_within dX7_atThumb_17 kX7_within rfl rfl (Nat.le_of_ble_eq_true rfl) (by decide) ?_
      refine q_bne 25 dX7_atThumb_20 (by decide) (fun h20 => ?_) (fun h20 => ?_)
      · refine q_aload_n dX7_atThumb_25 rfl ?_
        refine q_iload_n dX7_atThumb_26 rfl ?_
        refine q_iload_n dX7_atThumb_27 rfl ?_
        refine q_cVi lX7_232 vX7_leastAtThumb (ci := 7) rfl dX7_atThumb_28 kX7_leastAtThumb (by first | rfl | assumption) rfl rfl (Nat.le_of_ble_eq_true rfl) (by decide) ?_
        refine q_aload_n dX7_atThumb_31 rfl ?_
        refine q_iload_n dX7_atThumb_32 rfl ?_
        refine q_iload_n dX7_atThumb_33 rfl ?_
        refine q_cVi lX7_235 vX7_greatestAtThumb (ci := 7) rfl dX7_atThumb_34 kX7_greatestAtThumb (by first | rfl | assumption) rfl rfl (Nat.le_of_ble_eq_true rfl) (by decide) ?_
        refine q_iload_n dX7_atThumb_37 rfl ?_
        refine q_cSi lX7_229 sX7_tellRange dX7_atThumb_38 kX7_tellRange rfl rfl (Nat.le_of_ble_eq_true rfl) (by decide) ?_
        refine q_ret dX7_atThumb_41 ?_ rfl rfl
        try clear hN
        try clear hH
        exact ⟨congrArg some (by simp [*]), rfl, rfl⟩
      · refine q_iconst (x := (-1)) dX7_atThumb_23 (by decide) ?_
        refine q_ret dX7_atThumb_24 ?_ rfl rfl
        try clear hN
        try clear hH
        exact ⟨congrArg some (by simp [*]), rfl, rfl⟩

set_option maxHeartbeats 1000000 in
set_option maxRecDepth 100000 in
theorem lpX7_turning {E : q_E} {σ : q_M} {H : Nat} (hH : σ 15 0 = nI H) (h200 : H ≤ 200) {k th : Int32} {j : Nat} (hk : k.toInt = (j : Int)) (hj : j < 6) : ∀ (n : Nat) (i : Nat), H + 1 + 1 ≤ i + n → i ≤ H + 1 → q_G YX7_turning E 0 0 19 [some (.ref 0), some (.int k), some (.int th), some (.int (nI i))] [] q_SH σ (q_is (some (q_fst (fun i => decide (0 ≤ (q_Wc σ (23 + j) (nI i) th).toInt)) (H + 1) (H + 1 - i))) q_SH σ) := by
  intro n
  induction n with
  | zero =>
    intro i hm h0
    exact absurd hm (by omega)
  | succ n ih =>
    intro i hm h0
    have hHt : (σ 15 0).toInt = (H : Int) := by rw [hH]; exact nI_toInt (by omega)
    have hi := nI_toInt (n := i) (by omega)
    refine q_iload_n dX7_turning_19 rfl ?_
    refine q_aload_n dX7_turning_20 rfl ?_
    refine q_getr fX7_19 dX7_turning_21 (by first | rfl | assumption) (by rfl) ?_
    refine q_getr fX7_62 dX7_turning_24 (by first | rfl | assumption) (by rfl) ?_
    refine q_iconst (x := 0) dX7_turning_27 (by decide) ?_
    refine q_ild 0 (by first | rfl | assumption) rfl (by decide) dX7_turning_28 ?_
    refine q_cgt 58 dX7_turning_29 (by decide) (fun h29 => ?_) (fun h29 => ?_)
    · refine q_bipush (x := (-4)) dX7_turning_58 (by decide) ?_
      refine q_ret dX7_turning_60 ?_ rfl rfl
      exact ⟨congrArg some (by rw [show H + 1 - i = 0 by omega]; rfl), rfl, rfl⟩
    · refine q_aload_n dX7_turning_32 rfl ?_
      refine q_aload_n dX7_turning_33 rfl ?_
      refine q_getr fX7_26 dX7_turning_34 (by first | rfl | assumption) (by rfl) ?_
      refine q_getr fX7_121 dX7_turning_37 (by first | rfl | assumption) (by rfl) ?_
      refine q_iload_n dX7_turning_40 rfl ?_
      refine q_ald j (by first | rfl | assumption) hk hj (q_ra_at hj) ⟨by decide, by decide⟩ dX7_turning_41 ?_
      refine q_iload_n dX7_turning_42 rfl ?_
      refine q_iload_n dX7_turning_43 rfl ?_
      refine q_cVi lX7_160 vX7_weightOf (ci := 7) rfl dX7_turning_44 (kX7_weightOf (q_SH_dv hj)) (by first | rfl | assumption) rfl rfl (Nat.le_of_ble_eq_true rfl) (by decide) ?_
      refine q_zlt 52 dX7_turning_47 (by decide) (fun h47 => ?_) (fun h47 => ?_)
      · have hp : decide (0 ≤ (q_Wc σ (23 + j) (nI i) th).toInt) = false := decide_eq_false (by omega)
        refine q_inc 1 dX7_turning_52 (by decide) rfl (by decide) rfl ?_
        refine q_goto 19 dX7_turning_55 (by decide) ?_
        rw [nI_1]
        have z := ih (i + 1) (by omega) (by omega)
        rw [show H + 1 - i = (H + 1 - (i + 1)) + 1 by omega, q_fst, show H + 1 - (H + 1 - (i + 1) + 1) = i by omega, if_neg (by simp [hp])]
        exact z
      · have hp : decide (0 ≤ (q_Wc σ (23 + j) (nI i) th).toInt) = true := decide_eq_true h47
        refine q_iload_n dX7_turning_50 rfl ?_
        refine q_ret dX7_turning_51 ?_ rfl rfl
        exact ⟨congrArg some (by rw [show H + 1 - i = (H - i) + 1 by omega, q_fst, show H + 1 - (H - i + 1) = i by omega, if_pos hp]), rfl, rfl⟩

set_option maxHeartbeats 1000000 in
set_option maxRecDepth 100000 in
theorem kX7_turning {σ : q_M} {N : Nat} (hN : σ 17 2 = nI N) (h6 : N ≤ 6) {H : Nat} (hH : σ 15 0 = nI H) (h200 : H ≤ 200) {k th : Int32} : q_Ct YX7_turning [.ref 0, .int k, .int th] q_SH σ (q_is (some (if q_win k 0 (σ 17 2 - 1) && q_win th 0 500 then q_fst (fun i => decide (0 ≤ (q_Wc σ (23 + k.toNatClampNeg) (nI i) th).toInt)) (H + 1) (H + 1) else -1)) q_SH σ) := by
  refine q_ct (n := 1) (by decide) (by decide) rfl (fun _ => Nat.le_of_ble_eq_true rfl) (fun E => ?_)
  refine q_aload_n dX7_turning_0 rfl ?_
  refine q_iload_n dX7_turning_1 rfl ?_
  refine q_cVi lX7_116 vX7_isDiver (ci := 7) rfl dX7_turning_2 kX7_isDiver (by first | rfl | assumption) rfl rfl (Nat.le_of_ble_eq_true rfl) (by decide) ?_
  refine q_beq 15 dX7_turning_5 (by decide) (fun h5 => ?_) (fun h5 => ?_)
  · refine q_iconst (x := (-1)) dX7_turning_15 (by decide) ?_
    refine q_ret dX7_turning_16 ?_ rfl rfl
    try clear hN
    try clear hH
    exact ⟨congrArg some (by simp [*]), rfl, rfl⟩
  · refine q_iload_n dX7_turning_8 rfl ?_
    refine q_cSi lX7_164 sX7_isThumb dX7_turning_9 kX7_isThumb rfl rfl (Nat.le_of_ble_eq_true rfl) (by decide) ?_
    refine q_bne 17 dX7_turning_12 (by decide) (fun h12 => ?_) (fun h12 => ?_)
    · obtain ⟨hk, hj⟩ := q_dvi hN h6 h5
      have hd := q_SH_dv (j := k.toNatClampNeg) (by omega)
      refine q_iconst (x := 0) dX7_turning_17 (by decide) ?_
      refine q_istore_n dX7_turning_18 (by decide) rfl ?_
      rw [h5, h12]
      exact lpX7_turning hH h200 hk (by omega) (H + 1 + 1) 0 (by omega) (by omega)
    · refine q_iconst (x := (-1)) dX7_turning_15 (by decide) ?_
      refine q_ret dX7_turning_16 ?_ rfl rfl
      try clear hN
      try clear hH
      exact ⟨congrArg some (by simp [*]), rfl, rfl⟩
