/-! the reference: numbers, weights -/
theorem q_dc_pos {a b : Int32} (h : 0 < b.toInt) : q_dc a b = a / b := if_neg (by omega)
theorem q_pr {a : Int32} {ar t d : Nat} (ha : a = nI ar) (h1 : 1 ≤ ar) (h2 : ar ≤ 100000) (ht : t ≤ 100000) (hd : d ≤ 100000) : 0 < (a + nI t + nI d).toInt := by
  rw [ha, nI_add, nI_add, nI_toInt (by omega)]
  omega
theorem q_ix8 (j w : Nat) : (8 : Int32) * nI j + nI w = nI (8 * j + w) := by rw [show (8 : Int32) = nI 8 from rfl, pk_mul, nI_add]
theorem q_ix8' (j w : Nat) : nI (8 * j) + nI w = nI (8 * j + w) := nI_add _ _
/-- WEIGHT of the diver j, as the reference has it -/
def q_Wm (σ : q_M) (j : Nat) (dep th : Int32) : Int32 := q_wt (σ 75 1) (σ 75 4) (σ 75 5) (σ 73 (8 * j + 0) + σ 73 (8 * j + 5)) (σ 73 (8 * j + 1)) (σ 73 49) dep th

set_option maxHeartbeats 1000000 in
set_option maxRecDepth 100000 in
theorem kX8_in {sh : List q_S} {σ : q_M} {a b c : Int64} {x lo hi : Int32} (ha : a.toInt = x.toInt) (hb : b.toInt = lo.toInt) (hc : c.toInt = hi.toInt) : q_Ct YX8_in [.long a, .long b, .long c] sh σ (q_is (some (q_b (q_win x lo hi))) sh σ) := by
  refine q_ct (n := 0) (by decide) (by decide) rfl (fun _ => Nat.le_of_ble_eq_true rfl) (fun E => ?_)
  refine q_lload_n dX8_in_0 rfl ?_
  refine q_lload_n dX8_in_1 rfl ?_
  refine q_lcmp dX8_in_2 ?_
  refine q_zlt 17 dX8_in_3 (by decide) (fun h3 => ?_) (fun h3 => ?_)
  · have h3 := Int64.lt_iff_toInt_lt.mp ((lg_cmp_lt a b).mp (Int32.lt_iff_toInt_lt.mpr h3))
    refine q_iconst (x := 0) dX8_in_17 (by decide) ?_
    refine q_ret0 dX8_in_18 ?_ rfl rfl
    exact ⟨congrArg some (congrArg q_b (by first | (refine Eq.symm (decide_eq_false ?_); omega) | (refine Eq.symm (decide_eq_true ?_); omega))), rfl, rfl⟩
  · have h3 : ¬ a.toInt < b.toInt := fun z => absurd (Int32.lt_iff_toInt_lt.mp ((lg_cmp_lt a b).mpr (Int64.lt_iff_toInt_lt.mpr z))) (by have e : (0 : Int32).toInt = 0 := rfl; omega)
    refine q_lload_n dX8_in_6 rfl ?_
    refine q_lload dX8_in_7 rfl ?_
    refine q_lcmp dX8_in_9 ?_
    refine q_zgt 17 dX8_in_10 (by decide) (fun h10 => ?_) (fun h10 => ?_)
    · have h10 := Int64.lt_iff_toInt_lt.mp ((lg_cmp_gt a c).mp (Int32.lt_iff_toInt_lt.mpr h10))
      refine q_iconst (x := 0) dX8_in_17 (by decide) ?_
      refine q_ret0 dX8_in_18 ?_ rfl rfl
      exact ⟨congrArg some (congrArg q_b (by first | (refine Eq.symm (decide_eq_false ?_); omega) | (refine Eq.symm (decide_eq_true ?_); omega))), rfl, rfl⟩
    · have h10 : ¬ c.toInt < a.toInt := fun z => absurd (Int32.lt_iff_toInt_lt.mp ((lg_cmp_gt a c).mpr (Int64.lt_iff_toInt_lt.mpr z))) (by have e : (0 : Int32).toInt = 0 := rfl; omega)
      refine q_iconst (x := 1) dX8_in_13 (by decide) ?_
      refine q_goto 18 dX8_in_14 (by decide) ?_
      refine q_ret1 dX8_in_18 ?_ rfl rfl
      exact ⟨congrArg some (congrArg q_b (by first | (refine Eq.symm (decide_eq_false ?_); omega) | (refine Eq.symm (decide_eq_true ?_); omega))), rfl, rfl⟩

set_option maxHeartbeats 1000000 in
set_option maxRecDepth 100000 in
theorem kX8_flag {sh : List q_S} {σ : q_M} {x : Int32} : q_Ct YX8_flag [.int x] sh σ (q_is (some (q_b (q_t x))) sh σ) := by
  refine q_ct (n := 0) (by decide) (by decide) rfl (fun _ => Nat.le_of_ble_eq_true rfl) (fun E => ?_)
  refine q_iload_n dX8_flag_0 rfl ?_
  refine q_if_eq 8 dX8_flag_1 (by decide) (fun h1 => ?_) (fun h1 => ?_)
  · refine q_iconst (x := 0) dX8_flag_8 (by decide) ?_
    refine q_ret dX8_flag_9 ?_ rfl rfl
    exact ⟨congrArg some (by simp [q_t, q_b, *]), rfl, rfl⟩
  · refine q_iconst (x := 1) dX8_flag_4 (by decide) ?_
    refine q_goto 9 dX8_flag_5 (by decide) ?_
    refine q_ret dX8_flag_9 ?_ rfl rfl
    exact ⟨congrArg some (by simp [q_t, q_b, *]), rfl, rfl⟩

set_option maxHeartbeats 1000000 in
set_option maxRecDepth 100000 in
theorem kX8_size {sh : List q_S} {σ : q_M} {x : Int32} : q_Ct YX8_size [.int x] sh σ (q_is (some (q_abs x)) sh σ) := by
  refine q_ct (n := 0) (by decide) (by decide) rfl (fun _ => Nat.le_of_ble_eq_true rfl) (fun E => ?_)
  refine q_iload_n dX8_size_0 rfl ?_
  refine q_zge 9 dX8_size_1 (by decide) (fun h1 => ?_) (fun h1 => ?_)
  · refine q_iload_n dX8_size_9 rfl ?_
    refine q_ret dX8_size_10 ?_ rfl rfl
    exact ⟨congrArg some (by simp only [q_abs]; first | rw [if_pos (by omega)] | rw [if_neg (by omega)]), rfl, rfl⟩
  · refine q_iload_n dX8_size_4 rfl ?_
    refine q_ineg dX8_size_5 ?_
    refine q_goto 10 dX8_size_6 (by decide) ?_
    refine q_ret dX8_size_10 ?_ rfl rfl
    exact ⟨congrArg some (by simp only [q_abs]; first | rw [if_pos (by omega)] | rw [if_neg (by omega)]), rfl, rfl⟩

set_option maxHeartbeats 1000000 in
set_option maxRecDepth 100000 in
theorem kX8_isThumb {sh : List q_S} {σ : q_M} {x : Int32} : q_Ct YX8_isThumb [.int x] sh σ (q_is (some (q_b (q_win x 0 500))) sh σ) := by
  refine q_ct (n := 0) (by decide) (by decide) rfl (fun _ => Nat.le_of_ble_eq_true rfl) (fun E => ?_)
  refine q_iload_n dX8_isThumb_0 rfl ?_
  refine q_i2l dX8_isThumb_1 ?_
  refine q_lconst (x := 0) dX8_isThumb_2 (by decide) ?_
  refine q_ldc2 kX8_151 dX8_isThumb_3 ?_
  refine q_cSi lX8_72 sX8_in dX8_isThumb_6 (kX8_in (x := x) (lo := 0) (hi := 500) (Int32.toInt_toInt64 _) rfl rfl) rfl rfl (Nat.le_of_ble_eq_true rfl) (by decide) ?_
  refine q_bret dX8_isThumb_9 ?_ rfl rfl
  exact ⟨rfl, rfl, rfl⟩

set_option maxHeartbeats 1000000 in
set_option maxRecDepth 100000 in
theorem kX8_isHeavy {sh : List q_S} {σ : q_M} {x : Int32} : q_Ct YX8_isHeavy [.int x] sh σ (q_is (some (q_b (q_win x 1 999))) sh σ) := by
  refine q_ct (n := 0) (by decide) (by decide) rfl (fun _ => Nat.le_of_ble_eq_true rfl) (fun E => ?_)
  refine q_iload_n dX8_isHeavy_0 rfl ?_
  refine q_i2l dX8_isHeavy_1 ?_
  refine q_lconst (x := 1) dX8_isHeavy_2 (by decide) ?_
  refine q_ldc2 kX8_194 dX8_isHeavy_3 ?_
  refine q_cSi lX8_72 sX8_in dX8_isHeavy_6 (kX8_in (x := x) (lo := 1) (hi := 999) (Int32.toInt_toInt64 _) rfl rfl) rfl rfl (Nat.le_of_ble_eq_true rfl) (by decide) ?_
  refine q_bret dX8_isHeavy_9 ?_ rfl rfl
  exact ⟨rfl, rfl, rfl⟩

set_option maxHeartbeats 1000000 in
set_option maxRecDepth 100000 in
theorem kX8_isStep {sh : List q_S} {σ : q_M} {x : Int32} : q_Ct YX8_isStep [.int x] sh σ (q_is (some (q_b (q_win x 1 50))) sh σ) := by
  refine q_ct (n := 0) (by decide) (by decide) rfl (fun _ => Nat.le_of_ble_eq_true rfl) (fun E => ?_)
  refine q_iload_n dX8_isStep_0 rfl ?_
  refine q_i2l dX8_isStep_1 ?_
  refine q_lconst (x := 1) dX8_isStep_2 (by decide) ?_
  refine q_ldc2 kX8_263 dX8_isStep_3 ?_
  refine q_cSi lX8_72 sX8_in dX8_isStep_6 (kX8_in (x := x) (lo := 1) (hi := 50) (Int32.toInt_toInt64 _) rfl rfl) rfl rfl (Nat.le_of_ble_eq_true rfl) (by decide) ?_
  refine q_bret dX8_isStep_9 ?_ rfl rfl
  exact ⟨rfl, rfl, rfl⟩

set_option maxHeartbeats 1000000 in
set_option maxRecDepth 100000 in
theorem kX8_isLate {sh : List q_S} {σ : q_M} {x : Int32} : q_Ct YX8_isLate [.int x] sh σ (q_is (some (q_b (q_win x 0 50))) sh σ) := by
  refine q_ct (n := 0) (by decide) (by decide) rfl (fun _ => Nat.le_of_ble_eq_true rfl) (fun E => ?_)
  refine q_iload_n dX8_isLate_0 rfl ?_
  refine q_i2l dX8_isLate_1 ?_
  refine q_lconst (x := 0) dX8_isLate_2 (by decide) ?_
  refine q_ldc2 kX8_263 dX8_isLate_3 ?_
  refine q_cSi lX8_72 sX8_in dX8_isLate_6 (kX8_in (x := x) (lo := 0) (hi := 50) (Int32.toInt_toInt64 _) rfl rfl) rfl rfl (Nat.le_of_ble_eq_true rfl) (by decide) ?_
  refine q_bret dX8_isLate_9 ?_ rfl rfl
  exact ⟨rfl, rfl, rfl⟩

set_option maxHeartbeats 1000000 in
set_option maxRecDepth 100000 in
theorem kX8_isDiver {σ : q_M} {k : Int32} : q_Ct YX8_isDiver [.ref 72, .int k] q_SH σ (q_is (some (q_b (q_win k 0 (σ 73 53 - 1)))) q_SH σ) := by
  refine q_ct (n := 0) (by decide) (by decide) rfl (fun _ => Nat.le_of_ble_eq_true rfl) (fun E => ?_)
  refine q_iload_n dX8_isDiver_0 rfl ?_
  refine q_i2l dX8_isDiver_1 ?_
  refine q_lconst (x := 0) dX8_isDiver_2 (by decide) ?_
  refine q_aload_n dX8_isDiver_3 rfl ?_
  refine q_getr fX8_7 dX8_isDiver_4 (by first | rfl | assumption) (by rfl) ?_
  refine q_bipush (x := 53) dX8_isDiver_7 (by decide) ?_
  refine q_ild 53 (by first | rfl | assumption) rfl (by decide) dX8_isDiver_9 ?_
  refine q_iconst (x := 1) dX8_isDiver_10 (by decide) ?_
  refine q_isub dX8_isDiver_11 ?_
  refine q_i2l dX8_isDiver_12 ?_
  refine q_cSi lX8_72 sX8_in dX8_isDiver_13 (kX8_in (x := k) (lo := 0) (hi := (σ 73 53 - 1)) (Int32.toInt_toInt64 _) rfl (Int32.toInt_toInt64 _)) rfl rfl (Nat.le_of_ble_eq_true rfl) (by decide) ?_
  refine q_bret dX8_isDiver_16 ?_ rfl rfl
  exact ⟨rfl, rfl, rfl⟩

set_option maxHeartbeats 1000000 in
set_option maxRecDepth 100000 in
theorem kX8_isDepth {σ : q_M} {k : Int32} : q_Ct YX8_isDepth [.ref 72, .int k] q_SH σ (q_is (some (q_b (q_win k 0 (σ 75 0)))) q_SH σ) := by
  refine q_ct (n := 0) (by decide) (by decide) rfl (fun _ => Nat.le_of_ble_eq_true rfl) (fun E => ?_)
  refine q_iload_n dX8_isDepth_0 rfl ?_
  refine q_i2l dX8_isDepth_1 ?_
  refine q_lconst (x := 0) dX8_isDepth_2 (by decide) ?_
  refine q_aload_n dX8_isDepth_3 rfl ?_
  refine q_getr fX8_17 dX8_isDepth_4 (by first | rfl | assumption) (by rfl) ?_
  refine q_iconst (x := 0) dX8_isDepth_7 (by decide) ?_
  refine q_ild 0 (by first | rfl | assumption) rfl (by decide) dX8_isDepth_8 ?_
  refine q_i2l dX8_isDepth_9 ?_
  refine q_cSi lX8_72 sX8_in dX8_isDepth_10 (kX8_in (x := k) (lo := 0) (hi := (σ 75 0)) (Int32.toInt_toInt64 _) rfl (Int32.toInt_toInt64 _)) rfl rfl (Nat.le_of_ble_eq_true rfl) (by decide) ?_
  refine q_bret dX8_isDepth_13 ?_ rfl rfl
  exact ⟨rfl, rfl, rfl⟩

set_option maxHeartbeats 1000000 in
set_option maxRecDepth 100000 in
theorem kX8_end {σ : q_M} {n : Int32} : q_Ct YX8_end [.ref 72, .int n] q_SH σ (q_is (some (if q_win n 0 (σ 72 10) then σ 72 10 else -1)) q_SH (if q_win n 0 (σ 72 10) then q_up σ 72 10 n else σ)) := by
  refine q_ct (n := 1) (by decide) (by decide) rfl (fun _ => Nat.le_of_ble_eq_true rfl) (fun E => ?_)
  refine q_iload_n dX8_end_0 rfl ?_
  refine q_i2l dX8_end_1 ?_
  refine q_lconst (x := 0) dX8_end_2 (by decide) ?_
  refine q_aload_n dX8_end_3 rfl ?_
  refine q_get fX8_67 dX8_end_4 (by first | rfl | assumption) (by rfl) ?_
  refine q_i2l dX8_end_7 ?_
  refine q_cSi lX8_72 sX8_in dX8_end_8 (kX8_in (x := n) (lo := 0) (hi := (σ 72 10)) (Int32.toInt_toInt64 _) rfl (Int32.toInt_toInt64 _)) rfl rfl (Nat.le_of_ble_eq_true rfl) (by decide) ?_
  refine q_bne 16 dX8_end_11 (by decide) (fun h11 => ?_) (fun h11 => ?_)
  · refine q_aload_n dX8_end_16 rfl ?_
    refine q_get fX8_67 dX8_end_17 (by first | rfl | assumption) (by rfl) ?_
    refine q_istore_n dX8_end_20 (by decide) rfl ?_
    refine q_aload_n dX8_end_21 rfl ?_
    refine q_iload_n dX8_end_22 rfl ?_
    refine q_put_i pX8_67 dX8_end_23 (by first | rfl | assumption) (by rfl) rfl rfl ?_
    refine q_iload_n dX8_end_26 rfl ?_
    refine q_ret dX8_end_27 ?_ rfl rfl
    exact ⟨congrArg some (by simp [*]), rfl, by simp [*]⟩
  · refine q_iconst (x := (-1)) dX8_end_14 (by decide) ?_
    refine q_ret dX8_end_15 ?_ rfl rfl
    exact ⟨congrArg some (by simp [*]), rfl, by simp [*]⟩

set_option maxHeartbeats 1000000 in
set_option maxRecDepth 100000 in
theorem kX8_fault {σ : q_M}  : q_Ct YX8_fault [.ref 72] q_SH σ (q_is (some (σ 72 15)) q_SH σ) := by
  refine q_ct (n := 0) (by decide) (by decide) rfl (fun _ => Nat.le_of_ble_eq_true rfl) (fun E => ?_)
  refine q_aload_n dX8_fault_0 rfl ?_
  refine q_get fX8_76 dX8_fault_1 (by first | rfl | assumption) (by rfl) ?_
  refine q_ret dX8_fault_4 ?_ rfl rfl
  exact ⟨rfl, rfl, rfl⟩

set_option maxHeartbeats 1000000 in
set_option maxRecDepth 100000 in
theorem kX8_torn {σ : q_M}  : q_Ct YX8_torn [.ref 72] q_SH σ (q_is (some (σ 72 30)) q_SH σ) := by
  refine q_ct (n := 0) (by decide) (by decide) rfl (fun _ => Nat.le_of_ble_eq_true rfl) (fun E => ?_)
  refine q_aload_n dX8_torn_0 rfl ?_
  refine q_get fX8_299 dX8_torn_1 (by first | rfl | assumption) (by rfl) ?_
  refine q_ret dX8_torn_4 ?_ rfl rfl
  exact ⟨rfl, rfl, rfl⟩

set_option maxHeartbeats 1000000 in
set_option maxRecDepth 100000 in
theorem kX8_rule {σ : q_M} {w : Int32} : q_Ct YX8_rule [.ref 72, .int w] q_SH σ (q_is (some (if w = 2 then σ 73 49 else if q_win w 0 6 then σ 75 w.toNatClampNeg else if q_win w 10 33 then σ 76 (w - 10).toNatClampNeg else -1)) q_SH σ) := by
  refine q_ct (n := 0) (by decide) (by decide) rfl (fun _ => Nat.le_of_ble_eq_true rfl) (fun E => ?_)
  refine q_iload_n dX8_rule_0 rfl ?_
  refine q_iconst (x := 2) dX8_rule_1 (by decide) ?_
  refine q_icmp_ne 15 dX8_rule_2 (by decide) (fun h2 => ?_) (fun h2 => ?_)
  · refine q_iload_n dX8_rule_15 rfl ?_
    refine q_i2l dX8_rule_16 ?_
    refine q_lconst (x := 0) dX8_rule_17 (by decide) ?_
    refine q_ldc2 kX8_145 dX8_rule_18 ?_
    refine q_cSi lX8_72 sX8_in dX8_rule_21 (kX8_in (x := w) (lo := 0) (hi := 6) (Int32.toInt_toInt64 _) rfl rfl) rfl rfl (Nat.le_of_ble_eq_true rfl) (by decide) ?_
    refine q_beq 36 dX8_rule_24 (by decide) (fun h24 => ?_) (fun h24 => ?_)
    · refine q_iload_n dX8_rule_36 rfl ?_
      refine q_i2l dX8_rule_37 ?_
      refine q_ldc2 kX8_147 dX8_rule_38 ?_
      refine q_ldc2 kX8_149 dX8_rule_41 ?_
      refine q_cSi lX8_72 sX8_in dX8_rule_44 (kX8_in (x := w) (lo := 10) (hi := 33) (Int32.toInt_toInt64 _) rfl rfl) rfl rfl (Nat.le_of_ble_eq_true rfl) (by decide) ?_
      refine q_beq 62 dX8_rule_47 (by decide) (fun h47 => ?_) (fun h47 => ?_)
      · refine q_iconst (x := (-1)) dX8_rule_62 (by decide) ?_
        refine q_ret dX8_rule_63 ?_ rfl rfl
        exact ⟨congrArg some (by simp [*]), rfl, rfl⟩
      · have hq := q_win_t h47
        have e0 : (10 : Int32).toInt = 10 := rfl
        have e6 : (33 : Int32).toInt = 33 := rfl
        have e1 : (w - 10).toInt = w.toInt - 10 := by
          obtain ⟨j, hj, hw⟩ := nI_of (x := w) (fun e => by have := Int32.lt_iff_toInt_lt.mp e; have z : (0 : Int32).toInt = 0 := rfl; omega)
          subst hw
          have hjt := nI_toInt hj
          rw [hjt]
          exact pk_sub_toInt (a := j) (b := 10) (by omega) (by omega)
        have hk := q_clamp (x := w - 10) (by omega)
        refine q_aload_n dX8_rule_50 rfl ?_
        refine q_getr fX8_20 dX8_rule_51 (by first | rfl | assumption) (by rfl) ?_
        refine q_iload_n dX8_rule_54 rfl ?_
        refine q_bipush (x := 10) dX8_rule_55 (by decide) ?_
        refine q_isub dX8_rule_57 ?_
        refine q_ild (w - 10).toNatClampNeg (by first | rfl | assumption) hk (by omega) dX8_rule_58 ?_
        refine q_goto 63 dX8_rule_59 (by decide) ?_
        refine q_ret dX8_rule_63 ?_ rfl rfl
        exact ⟨congrArg some (by simp [*]), rfl, rfl⟩
    · have hq := q_win_t h24
      have e0 : (0 : Int32).toInt = 0 := rfl
      have e6 : (6 : Int32).toInt = 6 := rfl
      have hk := q_clamp (x := w) (by omega)
      refine q_aload_n dX8_rule_27 rfl ?_
      refine q_getr fX8_17 dX8_rule_28 (by first | rfl | assumption) (by rfl) ?_
      refine q_iload_n dX8_rule_31 rfl ?_
      refine q_ild w.toNatClampNeg (by first | rfl | assumption) hk (by omega) dX8_rule_32 ?_
      refine q_goto 63 dX8_rule_33 (by decide) ?_
      refine q_ret dX8_rule_63 ?_ rfl rfl
      exact ⟨congrArg some (by simp [*]), rfl, rfl⟩
  · refine q_aload_n dX8_rule_5 rfl ?_
    refine q_getr fX8_7 dX8_rule_6 (by first | rfl | assumption) (by rfl) ?_
    refine q_bipush (x := 49) dX8_rule_9 (by decide) ?_
    refine q_ild 49 (by first | rfl | assumption) rfl (by decide) dX8_rule_11 ?_
    refine q_goto 63 dX8_rule_12 (by decide) ?_
    refine q_ret dX8_rule_63 ?_ rfl rfl
    exact ⟨congrArg some (by simp [*]), rfl, rfl⟩

set_option maxHeartbeats 1000000 in
set_option maxRecDepth 100000 in
theorem kX8_of {σ : q_M} {j w : Nat} (hj : j < 6) (hw : w < 8) : q_Ct YX8_of [.ref 72, .int (nI j), .int (nI w)] q_SH σ (q_is (some (σ 73 (8 * j + w))) q_SH σ) := by
  refine q_ct (n := 0) (by decide) (by decide) rfl (fun _ => Nat.le_of_ble_eq_true rfl) (fun E => ?_)
  refine q_aload_n dX8_of_0 rfl ?_
  refine q_getr fX8_7 dX8_of_1 (by first | rfl | assumption) (by rfl) ?_
  refine q_bipush (x := 8) dX8_of_4 (by decide) ?_
  refine q_iload_n dX8_of_6 rfl ?_
  refine q_imul dX8_of_7 ?_
  refine q_iload_n dX8_of_8 rfl ?_
  refine q_iadd dX8_of_9 ?_
  rw [q_ix8]
  have hx := nI_toInt (n := 8 * j + w) (by omega)
  refine q_ild (8 * j + w) (by first | rfl | assumption) hx (by omega) dX8_of_10 ?_
  refine q_ret dX8_of_11 ?_ rfl rfl
  exact ⟨rfl, rfl, rfl⟩

set_option maxHeartbeats 1000000 in
set_option maxRecDepth 100000 in
theorem kX8_weight {σ : q_M} {hv bub wm th dep : Int32} (hp : 0 < (σ 75 1 + th + dep).toInt) : q_Ct YX8_weight [.ref 72, .int hv, .int bub, .int wm, .int th, .int dep] q_SH σ (q_is (some (q_wt (σ 75 1) (σ 75 4) (σ 75 5) hv bub wm dep th)) q_SH σ) := by
  refine q_ct (n := 1) (by decide) (by decide) rfl (fun _ => Nat.le_of_ble_eq_true rfl) (fun E => ?_)
  refine q_aload_n dX8_weight_0 rfl ?_
  refine q_getr fX8_17 dX8_weight_1 (by first | rfl | assumption) (by rfl) ?_
  refine q_iconst (x := 1) dX8_weight_4 (by decide) ?_
  refine q_ild 1 (by first | rfl | assumption) rfl (by decide) dX8_weight_5 ?_
  refine q_iload dX8_weight_6 rfl ?_
  refine q_iadd dX8_weight_8 ?_
  refine q_iload dX8_weight_9 rfl ?_
  refine q_iadd dX8_weight_11 ?_
  refine q_istore dX8_weight_12 (by decide) rfl ?_
  refine q_iload_n dX8_weight_14 rfl ?_
  refine q_iload_n dX8_weight_15 rfl ?_
  refine q_iload_n dX8_weight_16 rfl ?_
  refine q_imul dX8_weight_17 ?_
  refine q_iload dX8_weight_18 rfl ?_
  refine q_idiv (q_nz hp) dX8_weight_20 ?_
  refine q_isub dX8_weight_21 ?_
  refine q_iload dX8_weight_22 rfl ?_
  refine q_aload_n dX8_weight_24 rfl ?_
  refine q_getr fX8_17 dX8_weight_25 (by first | rfl | assumption) (by rfl) ?_
  refine q_iconst (x := 4) dX8_weight_28 (by decide) ?_
  refine q_ild 4 (by first | rfl | assumption) rfl (by decide) dX8_weight_29 ?_
  refine q_clt 42 dX8_weight_30 (by decide) (fun h30 => ?_) (fun h30 => ?_)
  · refine q_iconst (x := 0) dX8_weight_42 (by decide) ?_
    refine q_isub dX8_weight_43 ?_
    refine q_ret dX8_weight_44 ?_ rfl rfl
    exact ⟨congrArg some (by rw [q_wt, q_dc_pos hp, q_lt0]; first | rw [if_neg (by omega)] | rw [if_pos (by omega)]), rfl, rfl⟩
  · refine q_aload_n dX8_weight_33 rfl ?_
    refine q_getr fX8_17 dX8_weight_34 (by first | rfl | assumption) (by rfl) ?_
    refine q_iconst (x := 5) dX8_weight_37 (by decide) ?_
    refine q_ild 5 (by first | rfl | assumption) rfl (by decide) dX8_weight_38 ?_
    refine q_goto 43 dX8_weight_39 (by decide) ?_
    refine q_isub dX8_weight_43 ?_
    refine q_ret dX8_weight_44 ?_ rfl rfl
    exact ⟨congrArg some (by rw [q_wt, q_dc_pos hp, q_lt0]; first | rw [if_neg (by omega)] | rw [if_pos (by omega)]), rfl, rfl⟩

set_option maxHeartbeats 1000000 in
set_option maxRecDepth 100000 in
theorem kX8_heavy {σ : q_M} {j : Nat} (hj : j < 6) : q_Ct YX8_heavy [.ref 72, .int (nI j)] q_SH σ (q_is (some (σ 73 (8 * j + 0) + σ 73 (8 * j + 5))) q_SH σ) := by
  refine q_ct (n := 0) (by decide) (by decide) rfl (fun _ => Nat.le_of_ble_eq_true rfl) (fun E => ?_)
  refine q_aload_n dX8_heavy_0 rfl ?_
  refine q_iload_n dX8_heavy_1 rfl ?_
  refine q_iconst (x := 0) dX8_heavy_2 (by decide) ?_
  refine q_cVi lX8_153 vX8_of (ci := 8) rfl dX8_heavy_3 (kX8_of (w := 0) hj (by decide)) (by first | rfl | assumption) rfl rfl (Nat.le_of_ble_eq_true rfl) (by decide) ?_
  refine q_aload_n dX8_heavy_6 rfl ?_
  refine q_iload_n dX8_heavy_7 rfl ?_
  refine q_iconst (x := 5) dX8_heavy_8 (by decide) ?_
  refine q_cVi lX8_153 vX8_of (ci := 8) rfl dX8_heavy_9 (kX8_of (w := 5) hj (by decide)) (by first | rfl | assumption) rfl rfl (Nat.le_of_ble_eq_true rfl) (by decide) ?_
  refine q_iadd dX8_heavy_12 ?_
  refine q_ret dX8_heavy_13 ?_ rfl rfl
  exact ⟨rfl, rfl, rfl⟩

set_option maxHeartbeats 1000000 in
set_option maxRecDepth 100000 in
theorem kX8_weighsAt {σ : q_M} {j : Nat} (hj : j < 6) {dep th : Int32} (hp : 0 < (σ 75 1 + th + dep).toInt) : q_Ct YX8_weighsAt [.ref 72, .int (nI j), .int dep, .int th] q_SH σ (q_is (some (q_Wm σ j dep th)) q_SH σ) := by
  refine q_ct (n := 0) (by decide) (by decide) rfl (fun _ => Nat.le_of_ble_eq_true rfl) (fun E => ?_)
  refine q_aload_n dX8_weighsAt_0 rfl ?_
  refine q_aload_n dX8_weighsAt_1 rfl ?_
  refine q_iload_n dX8_weighsAt_2 rfl ?_
  refine q_cVi lX8_156 vX8_heavy (ci := 8) rfl dX8_weighsAt_3 (kX8_heavy hj) (by first | rfl | assumption) rfl rfl (Nat.le_of_ble_eq_true rfl) (by decide) ?_
  refine q_aload_n dX8_weighsAt_6 rfl ?_
  refine q_iload_n dX8_weighsAt_7 rfl ?_
  refine q_iconst (x := 1) dX8_weighsAt_8 (by decide) ?_
  refine q_cVi lX8_153 vX8_of (ci := 8) rfl dX8_weighsAt_9 (kX8_of (w := 1) hj (by decide)) (by first | rfl | assumption) rfl rfl (Nat.le_of_ble_eq_true rfl) (by decide) ?_
  refine q_aload_n dX8_weighsAt_12 rfl ?_
  refine q_getr fX8_7 dX8_weighsAt_13 (by first | rfl | assumption) (by rfl) ?_
  refine q_bipush (x := 49) dX8_weighsAt_16 (by decide) ?_
  refine q_ild 49 (by first | rfl | assumption) rfl (by decide) dX8_weighsAt_18 ?_
  refine q_iload_n dX8_weighsAt_19 rfl ?_
  refine q_iload_n dX8_weighsAt_20 rfl ?_
  refine q_cVi lX8_159 vX8_weight (ci := 8) rfl dX8_weighsAt_21 (kX8_weight hp) (by first | rfl | assumption) rfl rfl (Nat.le_of_ble_eq_true rfl) (by decide) ?_
  refine q_ret dX8_weighsAt_24 ?_ rfl rfl
  exact ⟨rfl, rfl, rfl⟩

set_option maxHeartbeats 1000000 in
set_option maxRecDepth 100000 in
theorem kX8_floor {σ : q_M}  : q_Ct YX8_floor [.ref 72] q_SH σ (q_is (some (64 * σ 75 0)) q_SH σ) := by
  refine q_ct (n := 0) (by decide) (by decide) rfl (fun _ => Nat.le_of_ble_eq_true rfl) (fun E => ?_)
  refine q_bipush (x := 64) dX8_floor_0 (by decide) ?_
  refine q_aload_n dX8_floor_2 rfl ?_
  refine q_getr fX8_17 dX8_floor_3 (by first | rfl | assumption) (by rfl) ?_
  refine q_iconst (x := 0) dX8_floor_6 (by decide) ?_
  refine q_ild 0 (by first | rfl | assumption) rfl (by decide) dX8_floor_7 ?_
  refine q_imul dX8_floor_8 ?_
  refine q_ret dX8_floor_9 ?_ rfl rfl
  exact ⟨rfl, rfl, rfl⟩

set_option maxHeartbeats 1000000 in
set_option maxRecDepth 100000 in
theorem kX8_thumb {σ : q_M} {x : Int32} : q_Ct YX8_thumb [.ref 72, .int x] q_SH σ (q_is (some (if q_win x 0 500 then σ 73 48 else -1)) q_SH (if q_win x 0 500 then q_up σ 73 48 x else σ)) := by
  refine q_ct (n := 1) (by decide) (by decide) rfl (fun _ => Nat.le_of_ble_eq_true rfl) (fun E => ?_)
  refine q_iload_n dX8_thumb_0 rfl ?_
  refine q_cSi lX8_174 sX8_isThumb dX8_thumb_1 kX8_isThumb rfl rfl (Nat.le_of_ble_eq_true rfl) (by decide) ?_
  refine q_bne 9 dX8_thumb_4 (by decide) (fun h4 => ?_) (fun h4 => ?_)
  · refine q_aload_n dX8_thumb_9 rfl ?_
    refine q_getr fX8_7 dX8_thumb_10 (by first | rfl | assumption) (by rfl) ?_
    refine q_bipush (x := 48) dX8_thumb_13 (by decide) ?_
    refine q_ild 48 (by first | rfl | assumption) rfl (by decide) dX8_thumb_15 ?_
    refine q_istore_n dX8_thumb_16 (by decide) rfl ?_
    refine q_aload_n dX8_thumb_17 rfl ?_
    refine q_getr fX8_7 dX8_thumb_18 (by first | rfl | assumption) (by rfl) ?_
    refine q_bipush (x := 48) dX8_thumb_21 (by decide) ?_
    refine q_iload_n dX8_thumb_23 rfl ?_
    refine q_isto 48 (by first | rfl | assumption) rfl (by decide) dX8_thumb_24 ?_
    refine q_iload_n dX8_thumb_25 rfl ?_
    refine q_ret dX8_thumb_26 ?_ rfl rfl
    exact ⟨congrArg some (by simp [*]), rfl, by simp [*]⟩
  · refine q_iconst (x := (-1)) dX8_thumb_7 (by decide) ?_
    refine q_ret dX8_thumb_8 ?_ rfl rfl
    exact ⟨congrArg some (by simp [*]), rfl, by simp [*]⟩

set_option maxHeartbeats 1000000 in
set_option maxRecDepth 100000 in
theorem kX8_warm {σ : q_M} {x : Int32} : q_Ct YX8_warm [.ref 72, .int x] q_SH σ (q_is (some (if q_win x 250 350 then σ 73 49 else -1)) q_SH (if q_win x 250 350 then q_up σ 73 49 x else σ)) := by
  refine q_ct (n := 1) (by decide) (by decide) rfl (fun _ => Nat.le_of_ble_eq_true rfl) (fun E => ?_)
  refine q_iload_n dX8_warm_0 rfl ?_
  refine q_i2l dX8_warm_1 ?_
  refine q_ldc2 kX8_177 dX8_warm_2 ?_
  refine q_ldc2 kX8_179 dX8_warm_5 ?_
  refine q_cSi lX8_72 sX8_in dX8_warm_8 (kX8_in (x := x) (lo := 250) (hi := 350) (Int32.toInt_toInt64 _) rfl rfl) rfl rfl (Nat.le_of_ble_eq_true rfl) (by decide) ?_
  refine q_bne 16 dX8_warm_11 (by decide) (fun h11 => ?_) (fun h11 => ?_)
  · refine q_aload_n dX8_warm_16 rfl ?_
    refine q_getr fX8_7 dX8_warm_17 (by first | rfl | assumption) (by rfl) ?_
    refine q_bipush (x := 49) dX8_warm_20 (by decide) ?_
    refine q_ild 49 (by first | rfl | assumption) rfl (by decide) dX8_warm_22 ?_
    refine q_istore_n dX8_warm_23 (by decide) rfl ?_
    refine q_aload_n dX8_warm_24 rfl ?_
    refine q_getr fX8_7 dX8_warm_25 (by first | rfl | assumption) (by rfl) ?_
    refine q_bipush (x := 49) dX8_warm_28 (by decide) ?_
    refine q_iload_n dX8_warm_30 rfl ?_
    refine q_isto 49 (by first | rfl | assumption) rfl (by decide) dX8_warm_31 ?_
    refine q_iload_n dX8_warm_32 rfl ?_
    refine q_ret dX8_warm_33 ?_ rfl rfl
    exact ⟨congrArg some (by simp [*]), rfl, by simp [*]⟩
  · refine q_iconst (x := (-1)) dX8_warm_14 (by decide) ?_
    refine q_ret dX8_warm_15 ?_ rfl rfl
    exact ⟨congrArg some (by simp [*]), rfl, by simp [*]⟩

set_option maxHeartbeats 1000000 in
set_option maxRecDepth 100000 in
theorem kX8_press {σ : q_M} {dep : Int32} : q_Ct YX8_press [.ref 72, .int dep] q_SH σ (q_is (some (if q_win dep 0 (σ 75 0) then σ 75 1 + σ 73 48 + dep else -1)) q_SH σ) := by
  refine q_ct (n := 0) (by decide) (by decide) rfl (fun _ => Nat.le_of_ble_eq_true rfl) (fun E => ?_)
  refine q_aload_n dX8_press_0 rfl ?_
  refine q_iload_n dX8_press_1 rfl ?_
  refine q_cVi lX8_202 vX8_isDepth (ci := 8) rfl dX8_press_2 kX8_isDepth (by first | rfl | assumption) rfl rfl (Nat.le_of_ble_eq_true rfl) (by decide) ?_
  refine q_beq 27 dX8_press_5 (by decide) (fun h5 => ?_) (fun h5 => ?_)
  · refine q_iconst (x := (-1)) dX8_press_27 (by decide) ?_
    refine q_ret dX8_press_28 ?_ rfl rfl
    exact ⟨congrArg some (by simp [*]), rfl, rfl⟩
  · refine q_aload_n dX8_press_8 rfl ?_
    refine q_getr fX8_17 dX8_press_9 (by first | rfl | assumption) (by rfl) ?_
    refine q_iconst (x := 1) dX8_press_12 (by decide) ?_
    refine q_ild 1 (by first | rfl | assumption) rfl (by decide) dX8_press_13 ?_
    refine q_aload_n dX8_press_14 rfl ?_
    refine q_getr fX8_7 dX8_press_15 (by first | rfl | assumption) (by rfl) ?_
    refine q_bipush (x := 48) dX8_press_18 (by decide) ?_
    refine q_ild 48 (by first | rfl | assumption) rfl (by decide) dX8_press_20 ?_
    refine q_iadd dX8_press_21 ?_
    refine q_iload_n dX8_press_22 rfl ?_
    refine q_iadd dX8_press_23 ?_
    refine q_goto 28 dX8_press_24 (by decide) ?_
    refine q_ret dX8_press_28 ?_ rfl rfl
    exact ⟨congrArg some (by simp [*]), rfl, rfl⟩

set_option maxHeartbeats 1000000 in
set_option maxRecDepth 100000 in
theorem kX8_weighsB {σ : q_M} {k dep th : Int32} (hbad : (q_win k 0 (σ 73 53 - 1) && q_win dep 0 (σ 75 0) && q_win th 0 500) = false) : q_Ct YX8_weighs [.ref 72, .int k, .int dep, .int th] q_SH σ (q_is (some (-1000000)) q_SH σ) := by
  refine q_ct (n := 0) (by decide) (by decide) rfl (fun _ => Nat.le_of_ble_eq_true rfl) (fun E => ?_)
  refine q_aload_n dX8_weighs_0 rfl ?_
  refine q_iload_n dX8_weighs_1 rfl ?_
  refine q_cVi lX8_163 vX8_isDiver (ci := 8) rfl dX8_weighs_2 kX8_isDiver (by first | rfl | assumption) rfl rfl (Nat.le_of_ble_eq_true rfl) (by decide) ?_
  refine q_beq 33 dX8_weighs_5 (by decide) (fun h5 => ?_) (fun h5 => ?_)
  · refine q_ldc kX8_169 dX8_weighs_33 ?_
    refine q_ret dX8_weighs_35 ?_ rfl rfl
    exact ⟨rfl, rfl, rfl⟩
  · refine q_aload_n dX8_weighs_8 rfl ?_
    refine q_iload_n dX8_weighs_9 rfl ?_
    refine q_cVi lX8_202 vX8_isDepth (ci := 8) rfl dX8_weighs_10 kX8_isDepth (by first | rfl | assumption) rfl rfl (Nat.le_of_ble_eq_true rfl) (by decide) ?_
    refine q_beq 33 dX8_weighs_13 (by decide) (fun h13 => ?_) (fun h13 => ?_)
    · refine q_ldc kX8_169 dX8_weighs_33 ?_
      refine q_ret dX8_weighs_35 ?_ rfl rfl
      exact ⟨rfl, rfl, rfl⟩
    · refine q_iload_n dX8_weighs_16 rfl ?_
      refine q_cSi lX8_174 sX8_isThumb dX8_weighs_17 kX8_isThumb rfl rfl (Nat.le_of_ble_eq_true rfl) (by decide) ?_
      refine q_beq 33 dX8_weighs_20 (by decide) (fun h20 => ?_) (fun h20 => ?_)
      · refine q_ldc kX8_169 dX8_weighs_33 ?_
        refine q_ret dX8_weighs_35 ?_ rfl rfl
        exact ⟨rfl, rfl, rfl⟩
      · exact absurd hbad (by simp [*])

set_option maxHeartbeats 1000000 in
set_option maxRecDepth 100000 in
theorem kX8_weighs {σ : q_M} {j : Nat} (hj : j < 6) (hk : q_win (nI j) 0 (σ 73 53 - 1) = true) {dep th : Int32} (hd : q_win dep 0 (σ 75 0) = true) (ht : q_win th 0 500 = true) (hp : 0 < (σ 75 1 + th + dep).toInt) : q_Ct YX8_weighs [.ref 72, .int (nI j), .int dep, .int th] q_SH σ (q_is (some (q_Wm σ j dep th)) q_SH σ) := by
  refine q_ct (n := 0) (by decide) (by decide) rfl (fun _ => Nat.le_of_ble_eq_true rfl) (fun E => ?_)
  refine q_aload_n dX8_weighs_0 rfl ?_
  refine q_iload_n dX8_weighs_1 rfl ?_
  refine q_cVi lX8_163 vX8_isDiver (ci := 8) rfl dX8_weighs_2 kX8_isDiver (by first | rfl | assumption) rfl rfl (Nat.le_of_ble_eq_true rfl) (by decide) ?_
  refine q_beq 33 dX8_weighs_5 (by decide) (fun h5 => ?_) (fun h5 => ?_)
  · exact absurd hk (by rw [h5]; decide)
  · refine q_aload_n dX8_weighs_8 rfl ?_
    refine q_iload_n dX8_weighs_9 rfl ?_
    refine q_cVi lX8_202 vX8_isDepth (ci := 8) rfl dX8_weighs_10 kX8_isDepth (by first | rfl | assumption) rfl rfl (Nat.le_of_ble_eq_true rfl) (by decide) ?_
    refine q_beq 33 dX8_weighs_13 (by decide) (fun h13 => ?_) (fun h13 => ?_)
    · exact absurd hd (by rw [h13]; decide)
    · refine q_iload_n dX8_weighs_16 rfl ?_
      refine q_cSi lX8_174 sX8_isThumb dX8_weighs_17 kX8_isThumb rfl rfl (Nat.le_of_ble_eq_true rfl) (by decide) ?_
      refine q_beq 33 dX8_weighs_20 (by decide) (fun h20 => ?_) (fun h20 => ?_)
      · exact absurd ht (by rw [h20]; decide)
      · refine q_aload_n dX8_weighs_23 rfl ?_
        refine q_iload_n dX8_weighs_24 rfl ?_
        refine q_iload_n dX8_weighs_25 rfl ?_
        refine q_iload_n dX8_weighs_26 rfl ?_
        refine q_cVi lX8_170 vX8_weighsAt (ci := 8) rfl dX8_weighs_27 (kX8_weighsAt hj hp) (by first | rfl | assumption) rfl rfl (Nat.le_of_ble_eq_true rfl) (by decide) ?_
        refine q_goto 35 dX8_weighs_30 (by decide) ?_
        refine q_ret dX8_weighs_35 ?_ rfl rfl
        exact ⟨rfl, rfl, rfl⟩

theorem q_or0 (x : Int32) : x ||| 0 = x := by
  apply Int32.toBitVec_inj.mp
  simp

set_option maxHeartbeats 1000000 in
set_option maxRecDepth 100000 in
theorem lpX8_those {E : q_E} {σ : q_M} {N : Nat} (hN : σ 73 53 = nI N) (h6 : N ≤ 6) {f : Int32} : ∀ (n : Nat) (i : Nat) (b : Int32), N + 1 ≤ i + n → i ≤ N → b = q_bits (fun k => decide (σ 73 (8 * k + 6) = f)) i → q_G YX8_those E 0 0 4 [some (.ref 72), some (.int f), some (.int b), some (.int (nI i))] [] q_SH σ (q_is (some (q_bits (fun k => decide (σ 73 (8 * k + 6) = f)) N)) q_SH σ) := by
  intro n
  induction n with
  | zero =>
    intro i b hm h0 hb
    exact absurd hm (by omega)
  | succ n ih =>
    intro i b hm h0 hb
    have hi := nI_toInt (n := i) (by omega)
    have hNt := nI_toInt (n := N) (by omega)
    refine q_iload_n dX8_those_4 rfl ?_
    refine q_aload_n dX8_those_5 rfl ?_
    refine q_getr fX8_7 dX8_those_6 (by first | rfl | assumption) (by rfl) ?_
    refine q_bipush (x := 53) dX8_those_9 (by decide) ?_
    refine q_ild 53 (by first | rfl | assumption) rfl (by decide) dX8_those_11 ?_
    rw [hN]
    refine q_cge 42 dX8_those_12 (by decide) (fun h12 => ?_) (fun h12 => ?_)
    · refine q_iload_n dX8_those_42 rfl ?_
      refine q_ret dX8_those_43 ?_ rfl rfl
      have e : i = N := by omega
      exact ⟨congrArg some (by rw [hb, e]), rfl, rfl⟩
    · refine q_iload_n dX8_those_15 rfl ?_
      refine q_aload_n dX8_those_16 rfl ?_
      refine q_iload_n dX8_those_17 rfl ?_
      refine q_bipush (x := 6) dX8_those_18 (by decide) ?_
      refine q_cVi lX8_153 vX8_of (ci := 8) rfl dX8_those_20 (kX8_of (w := 6) (by omega) (by decide)) (by first | rfl | assumption) rfl rfl (Nat.le_of_ble_eq_true rfl) (by decide) ?_
      refine q_iload_n dX8_those_23 rfl ?_
      refine q_icmp_ne 33 dX8_those_24 (by decide) (fun h24 => ?_) (fun h24 => ?_)
      · refine q_iconst (x := 0) dX8_those_33 (by decide) ?_
        refine q_ior dX8_those_34 ?_
        try rw [q_or0]
        refine q_istore_n dX8_those_35 (by decide) rfl ?_
        refine q_inc 1 dX8_those_36 (by decide) rfl (by decide) rfl ?_
        refine q_goto 4 dX8_those_39 (by decide) ?_
        rw [nI_1]
        exact ih (i + 1) _ (by omega) (by omega) (by simp_all [q_bits])
      · refine q_iconst (x := 1) dX8_those_27 (by decide) ?_
        refine q_iload_n dX8_those_28 rfl ?_
        refine q_ishl dX8_those_29 ?_
        refine q_goto 34 dX8_those_30 (by decide) ?_
        refine q_ior dX8_those_34 ?_
        try rw [q_or0]
        refine q_istore_n dX8_those_35 (by decide) rfl ?_
        refine q_inc 1 dX8_those_36 (by decide) rfl (by decide) rfl ?_
        refine q_goto 4 dX8_those_39 (by decide) ?_
        rw [nI_1]
        exact ih (i + 1) _ (by omega) (by omega) (by simp_all [q_bits])

set_option maxHeartbeats 1000000 in
set_option maxRecDepth 100000 in
theorem kX8_those {σ : q_M} {N : Nat} (hN : σ 73 53 = nI N) (h6 : N ≤ 6) {f : Int32} : q_Ct YX8_those [.ref 72, .int f] q_SH σ (q_is (some (q_bits (fun k => decide (σ 73 (8 * k + 6) = f)) N)) q_SH σ) := by
  refine q_ct (n := 2) (by decide) (by decide) rfl (fun _ => Nat.le_of_ble_eq_true rfl) (fun E => ?_)
  refine q_iconst (x := 0) dX8_those_0 (by decide) ?_
  refine q_istore_n dX8_those_1 (by decide) rfl ?_
  refine q_iconst (x := 0) dX8_those_2 (by decide) ?_
  refine q_istore_n dX8_those_3 (by decide) rfl ?_
  exact lpX8_those hN h6 (N + 1) 0 0 (by omega) (by omega) rfl

def q_nwm (σ : q_M) (N : Nat) : Nat → Int32
  | 0 => σ 73 50
  | 1 => σ 73 48
  | 2 => q_bits (fun k => decide (σ 73 (8 * k + 6) = 0)) N
  | 3 => q_bits (fun k => decide (σ 73 (8 * k + 6) = 64 * σ 75 0)) N
  | 4 => σ 73 51
  | 5 => σ 73 52
  | _ => -1

set_option maxHeartbeats 1000000 in
set_option maxRecDepth 100000 in
theorem kX8_now {σ : q_M} {N : Nat} (hN : σ 73 53 = nI N) (h6 : N ≤ 6) {w : Int32} : q_Ct YX8_now [.ref 72, .int w] q_SH σ (q_is (some (if q_win w 0 5 then q_nwm σ N w.toNatClampNeg else -1)) q_SH σ) := by
  refine q_ct (n := 0) (by decide) (by decide) rfl (fun _ => Nat.le_of_ble_eq_true rfl) (fun E => ?_)
  refine q_iload_n dX8_now_0 rfl ?_
  rcases q_sw 6 w with hsw | ⟨jsw, hsw, hjsw⟩
  · refine q_tabOut 87 dX8_now_1 (by omega) (by decide) ?_
    refine q_iconst (x := (-1)) dX8_now_87 (by decide) ?_
    refine q_ret dX8_now_88 ?_ rfl rfl
    have hf : q_win w 0 5 = false := decide_eq_false (by have e0 : (0 : Int32).toInt = 0 := rfl; have e9 : (5 : Int32).toInt = 5 := rfl; omega)
    clear hN
    exact ⟨congrArg some (by simp [*]), rfl, rfl⟩
  · rcases (show jsw = 0 ∨ jsw = 1 ∨ jsw = 2 ∨ jsw = 3 ∨ jsw = 4 ∨ jsw = 5 by omega) with rfl | rfl | rfl | rfl | rfl | rfl
    · subst hjsw
      refine q_tabIn 40 dX8_now_1 (by decide) (by decide) rfl (by decide) ?_
      refine q_aload_n dX8_now_40 rfl ?_
      refine q_getr fX8_7 dX8_now_41 (by first | rfl | assumption) (by rfl) ?_
      refine q_bipush (x := 50) dX8_now_44 (by decide) ?_
      refine q_ild 50 (by first | rfl | assumption) rfl (by decide) dX8_now_46 ?_
      refine q_ret dX8_now_47 ?_ rfl rfl
      exact ⟨rfl, rfl, rfl⟩
    · subst hjsw
      refine q_tabIn 48 dX8_now_1 (by decide) (by decide) rfl (by decide) ?_
      refine q_aload_n dX8_now_48 rfl ?_
      refine q_getr fX8_7 dX8_now_49 (by first | rfl | assumption) (by rfl) ?_
      refine q_bipush (x := 48) dX8_now_52 (by decide) ?_
      refine q_ild 48 (by first | rfl | assumption) rfl (by decide) dX8_now_54 ?_
      refine q_ret dX8_now_55 ?_ rfl rfl
      exact ⟨rfl, rfl, rfl⟩
    · subst hjsw
      refine q_tabIn 56 dX8_now_1 (by decide) (by decide) rfl (by decide) ?_
      refine q_aload_n dX8_now_56 rfl ?_
      refine q_iconst (x := 0) dX8_now_57 (by decide) ?_
      refine q_cVi lX8_199 vX8_those (ci := 8) rfl dX8_now_58 (kX8_those hN h6) (by first | rfl | assumption) rfl rfl (Nat.le_of_ble_eq_true rfl) (by decide) ?_
      refine q_ret dX8_now_61 ?_ rfl rfl
      exact ⟨rfl, rfl, rfl⟩
    · subst hjsw
      refine q_tabIn 62 dX8_now_1 (by decide) (by decide) rfl (by decide) ?_
      refine q_aload_n dX8_now_62 rfl ?_
      refine q_aload_n dX8_now_63 rfl ?_
      refine q_cVi lX8_187 vX8_floor (ci := 8) rfl dX8_now_64 kX8_floor (by first | rfl | assumption) rfl rfl (Nat.le_of_ble_eq_true rfl) (by decide) ?_
      refine q_cVi lX8_199 vX8_those (ci := 8) rfl dX8_now_67 (kX8_those hN h6) (by first | rfl | assumption) rfl rfl (Nat.le_of_ble_eq_true rfl) (by decide) ?_
      refine q_ret dX8_now_70 ?_ rfl rfl
      exact ⟨rfl, rfl, rfl⟩
    · subst hjsw
      refine q_tabIn 71 dX8_now_1 (by decide) (by decide) rfl (by decide) ?_
      refine q_aload_n dX8_now_71 rfl ?_
      refine q_getr fX8_7 dX8_now_72 (by first | rfl | assumption) (by rfl) ?_
      refine q_bipush (x := 51) dX8_now_75 (by decide) ?_
      refine q_ild 51 (by first | rfl | assumption) rfl (by decide) dX8_now_77 ?_
      refine q_ret dX8_now_78 ?_ rfl rfl
      exact ⟨rfl, rfl, rfl⟩
    · subst hjsw
      refine q_tabIn 79 dX8_now_1 (by decide) (by decide) rfl (by decide) ?_
      refine q_aload_n dX8_now_79 rfl ?_
      refine q_getr fX8_7 dX8_now_80 (by first | rfl | assumption) (by rfl) ?_
      refine q_bipush (x := 52) dX8_now_83 (by decide) ?_
      refine q_ild 52 (by first | rfl | assumption) rfl (by decide) dX8_now_85 ?_
      refine q_ret dX8_now_86 ?_ rfl rfl
      exact ⟨rfl, rfl, rfl⟩

set_option maxHeartbeats 1000000 in
set_option maxRecDepth 100000 in
theorem kX8_setB {σ : q_M} {k dep : Int32} (hbad : (q_win k 0 (σ 73 53 - 1) && q_win dep 0 (σ 75 0)) = false) : q_Ct YX8_set [.ref 72, .int k, .int dep] q_SH σ (q_is (some (-1)) q_SH σ) := by
  refine q_ct (n := 1) (by decide) (by decide) rfl (fun _ => Nat.le_of_ble_eq_true rfl) (fun E => ?_)
  refine q_aload_n dX8_set_0 rfl ?_
  refine q_iload_n dX8_set_1 rfl ?_
  refine q_cVi lX8_163 vX8_isDiver (ci := 8) rfl dX8_set_2 kX8_isDiver (by first | rfl | assumption) rfl rfl (Nat.le_of_ble_eq_true rfl) (by decide) ?_
  refine q_beq 16 dX8_set_5 (by decide) (fun h5 => ?_) (fun h5 => ?_)
  · refine q_iconst (x := (-1)) dX8_set_16 (by decide) ?_
    refine q_ret dX8_set_17 ?_ rfl rfl
    exact ⟨rfl, rfl, rfl⟩
  · refine q_aload_n dX8_set_8 rfl ?_
    refine q_iload_n dX8_set_9 rfl ?_
    refine q_cVi lX8_202 vX8_isDepth (ci := 8) rfl dX8_set_10 kX8_isDepth (by first | rfl | assumption) rfl rfl (Nat.le_of_ble_eq_true rfl) (by decide) ?_
    refine q_bne 18 dX8_set_13 (by decide) (fun h13 => ?_) (fun h13 => ?_)
    · exact absurd hbad (by simp [*])
    · refine q_iconst (x := (-1)) dX8_set_16 (by decide) ?_
      refine q_ret dX8_set_17 ?_ rfl rfl
      exact ⟨rfl, rfl, rfl⟩

set_option maxHeartbeats 1000000 in
set_option maxRecDepth 100000 in
theorem kX8_set {σ : q_M} {j : Nat} (hj : j < 6) (hk : q_win (nI j) 0 (σ 73 53 - 1) = true) {dep : Int32} (hd : q_win dep 0 (σ 75 0) = true) : q_Ct YX8_set [.ref 72, .int (nI j), .int dep] q_SH σ (q_is (some (σ 73 (8 * j + 6) / 64)) q_SH (q_up (q_up σ 73 (8 * j + 6) (64 * dep)) 73 (8 * j + 7) 0)) := by
  refine q_ct (n := 1) (by decide) (by decide) rfl (fun _ => Nat.le_of_ble_eq_true rfl) (fun E => ?_)
  refine q_aload_n dX8_set_0 rfl ?_
  refine q_iload_n dX8_set_1 rfl ?_
  refine q_cVi lX8_163 vX8_isDiver (ci := 8) rfl dX8_set_2 kX8_isDiver (by first | rfl | assumption) rfl rfl (Nat.le_of_ble_eq_true rfl) (by decide) ?_
  refine q_beq 16 dX8_set_5 (by decide) (fun h5 => ?_) (fun h5 => ?_)
  · exact absurd hk (by rw [h5]; decide)
  · refine q_aload_n dX8_set_8 rfl ?_
    refine q_iload_n dX8_set_9 rfl ?_
    refine q_cVi lX8_202 vX8_isDepth (ci := 8) rfl dX8_set_10 kX8_isDepth (by first | rfl | assumption) rfl rfl (Nat.le_of_ble_eq_true rfl) (by decide) ?_
    refine q_bne 18 dX8_set_13 (by decide) (fun h13 => ?_) (fun h13 => ?_)
    · refine q_aload_n dX8_set_18 rfl ?_
      refine q_iload_n dX8_set_19 rfl ?_
      refine q_bipush (x := 6) dX8_set_20 (by decide) ?_
      refine q_cVi lX8_153 vX8_of (ci := 8) rfl dX8_set_22 (kX8_of (w := 6) hj (by decide)) (by first | rfl | assumption) rfl rfl (Nat.le_of_ble_eq_true rfl) (by decide) ?_
      refine q_bipush (x := 64) dX8_set_25 (by decide) ?_
      refine q_idiv (by decide) dX8_set_27 ?_
      refine q_istore_n dX8_set_28 (by decide) rfl ?_
      refine q_aload_n dX8_set_29 rfl ?_
      refine q_getr fX8_7 dX8_set_30 (by first | rfl | assumption) (by rfl) ?_
      refine q_bipush (x := 8) dX8_set_33 (by decide) ?_
      refine q_iload_n dX8_set_35 rfl ?_
      refine q_imul dX8_set_36 ?_
      refine q_bipush (x := 6) dX8_set_37 (by decide) ?_
      refine q_iadd dX8_set_39 ?_
      refine q_bipush (x := 64) dX8_set_40 (by decide) ?_
      refine q_iload_n dX8_set_42 rfl ?_
      refine q_imul dX8_set_43 ?_
      refine q_isto (8 * j + 6) (by first | rfl | assumption) (by rw [show (8 : Int32) * nI j + 6 = nI (8 * j + 6) from q_ix8 j 6]; exact nI_toInt (by omega)) (by omega) dX8_set_44 ?_
      refine q_aload_n dX8_set_45 rfl ?_
      refine q_getr fX8_7 dX8_set_46 (by first | rfl | assumption) (by rfl) ?_
      refine q_bipush (x := 8) dX8_set_49 (by decide) ?_
      refine q_iload_n dX8_set_51 rfl ?_
      refine q_imul dX8_set_52 ?_
      refine q_bipush (x := 7) dX8_set_53 (by decide) ?_
      refine q_iadd dX8_set_55 ?_
      refine q_iconst (x := 0) dX8_set_56 (by decide) ?_
      refine q_isto (8 * j + 7) (by first | rfl | assumption) (by rw [show (8 : Int32) * nI j + 7 = nI (8 * j + 7) from q_ix8 j 7]; exact nI_toInt (by omega)) (by omega) dX8_set_57 ?_
      refine q_iload_n dX8_set_58 rfl ?_
      refine q_ret dX8_set_59 ?_ rfl rfl
      exact ⟨rfl, rfl, rfl⟩
    · exact absurd hd (by rw [h13]; decide)

def q_drm (σ : q_M) (i : Nat) : q_M := fun x => if x = 73 then (fun j => if j < 8 * i ∧ j % 8 = 5 then 0 else σ 73 j) else σ x
theorem q_drm_0 (σ : q_M) : q_drm σ 0 = σ := by
  funext x j
  by_cases h : x = 73
  · subst h
    simp [q_drm]
  · simp [q_drm, h]
theorem q_drm_s (σ : q_M) (i : Nat) : q_up (q_drm σ i) 73 (8 * i + 5) 0 = q_drm σ (i + 1) := by
  funext x j
  by_cases h : x = 73
  · subst h
    by_cases h1 : j = 8 * i + 5
    · subst h1
      simp [q_drm, q_up, upd, show 8 * i + 5 < 8 * (i + 1) ∧ (8 * i + 5) % 8 = 5 by omega]
    · by_cases h2 : j < 8 * i ∧ j % 8 = 5
      · simp [q_drm, q_up, upd, h1, h2, show j < 8 * (i + 1) by omega]
      · simp [q_drm, q_up, upd, h1, h2, show ¬ (j < 8 * (i + 1) ∧ j % 8 = 5) by omega]
  · simp [q_drm, q_up, h]

set_option maxHeartbeats 1000000 in
set_option maxRecDepth 100000 in
theorem lpX8_drop {E : q_E} {σ : q_M} {N : Nat} (hN : σ 73 53 = nI N) (h6 : N ≤ 6) : ∀ (n : Nat) (i : Nat), N + 1 ≤ i + n → i ≤ N → q_G YX8_drop E 0 0 25 [some (.ref 72), some (.int (nI i))] [] q_SH (q_drm σ i) (q_is (some (1)) q_SH (q_up (q_drm σ N) 73 51 1)) := by
  intro n
  induction n with
  | zero =>
    intro i hm h0
    exact absurd hm (by omega)
  | succ n ih =>
    intro i hm h0
    have hi := nI_toInt (n := i) (by omega)
    have hNt := nI_toInt (n := N) (by omega)
    refine q_iload_n dX8_drop_25 rfl ?_
    refine q_aload_n dX8_drop_26 rfl ?_
    refine q_getr fX8_7 dX8_drop_27 (by first | rfl | assumption) (by rfl) ?_
    refine q_bipush (x := 53) dX8_drop_30 (by decide) ?_
    refine q_ild 53 (by first | rfl | assumption) rfl (by decide) dX8_drop_32 ?_
    rw [show q_drm σ i 73 53 = nI N by rw [← hN]; simp [q_drm]; intro hq; omega]
    refine q_cge 54 dX8_drop_33 (by decide) (fun h33 => ?_) (fun h33 => ?_)
    · refine q_aload_n dX8_drop_54 rfl ?_
      refine q_getr fX8_7 dX8_drop_55 (by first | rfl | assumption) (by rfl) ?_
      refine q_bipush (x := 51) dX8_drop_58 (by decide) ?_
      refine q_iconst (x := 1) dX8_drop_60 (by decide) ?_
      refine q_isto 51 (by first | rfl | assumption) rfl (by decide) dX8_drop_61 ?_
      refine q_iconst (x := 1) dX8_drop_62 (by decide) ?_
      refine q_ret dX8_drop_63 ?_ rfl rfl
      have e : i = N := by omega
      subst e
      exact ⟨rfl, rfl, rfl⟩
    · refine q_aload_n dX8_drop_36 rfl ?_
      refine q_getr fX8_7 dX8_drop_37 (by first | rfl | assumption) (by rfl) ?_
      refine q_bipush (x := 8) dX8_drop_40 (by decide) ?_
      refine q_iload_n dX8_drop_42 rfl ?_
      refine q_imul dX8_drop_43 ?_
      refine q_iconst (x := 5) dX8_drop_44 (by decide) ?_
      refine q_iadd dX8_drop_45 ?_
      refine q_iconst (x := 0) dX8_drop_46 (by decide) ?_
      refine q_isto (8 * i + 5) (by first | rfl | assumption) (by rw [show (8 : Int32) * nI i + 5 = nI (8 * i + 5) from q_ix8 i 5]; exact nI_toInt (by omega)) (by omega) dX8_drop_47 ?_
      refine q_inc 1 dX8_drop_48 (by decide) rfl (by decide) rfl ?_
      refine q_goto 25 dX8_drop_51 (by decide) ?_
      rw [nI_1, q_drm_s]
      exact ih (i + 1) (by omega) (by omega)

set_option maxHeartbeats 1000000 in
set_option maxRecDepth 100000 in
theorem kX8_drop {σ : q_M} {N : Nat} (hN : σ 73 53 = nI N) (h6 : N ≤ 6) : q_Ct YX8_drop [.ref 72] q_SH σ (q_is (some (if σ 75 6 = 0 ∨ σ 73 51 = 1 then 0 else 1)) q_SH (if σ 75 6 = 0 ∨ σ 73 51 = 1 then σ else q_up (q_drm σ N) 73 51 1)) := by
  refine q_ct (n := 1) (by decide) (by decide) rfl (fun _ => Nat.le_of_ble_eq_true rfl) (fun E => ?_)
  refine q_aload_n dX8_drop_0 rfl ?_
  refine q_getr fX8_17 dX8_drop_1 (by first | rfl | assumption) (by rfl) ?_
  refine q_bipush (x := 6) dX8_drop_4 (by decide) ?_
  refine q_ild 6 (by first | rfl | assumption) rfl (by decide) dX8_drop_6 ?_
  refine q_if_eq 21 dX8_drop_7 (by decide) (fun h7 => ?_) (fun h7 => ?_)
  · refine q_iconst (x := 0) dX8_drop_21 (by decide) ?_
    refine q_ret dX8_drop_22 ?_ rfl rfl
    clear hN
    exact ⟨congrArg some (by simp [*]), rfl, by simp [*]⟩
  · refine q_aload_n dX8_drop_10 rfl ?_
    refine q_getr fX8_7 dX8_drop_11 (by first | rfl | assumption) (by rfl) ?_
    refine q_bipush (x := 51) dX8_drop_14 (by decide) ?_
    refine q_ild 51 (by first | rfl | assumption) rfl (by decide) dX8_drop_16 ?_
    refine q_iconst (x := 1) dX8_drop_17 (by decide) ?_
    refine q_icmp_ne 23 dX8_drop_18 (by decide) (fun h18 => ?_) (fun h18 => ?_)
    · refine q_iconst (x := 0) dX8_drop_23 (by decide) ?_
      refine q_istore_n dX8_drop_24 (by decide) rfl ?_
      rw [if_neg (by simp [*]), if_neg (by simp [*])]
      have z := lpX8_drop (E := E) hN h6 (N + 1) 0 (by omega) (by omega)
      rw [q_drm_0] at z
      exact z
    · refine q_iconst (x := 0) dX8_drop_21 (by decide) ?_
      refine q_ret dX8_drop_22 ?_ rfl rfl
      clear hN
      exact ⟨congrArg some (by simp [*]), rfl, by simp [*]⟩
