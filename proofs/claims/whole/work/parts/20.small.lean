/-! small functions of numbers -/
def q_max (x y : Int32) : Int32 := if x.toInt < y.toInt then y else x
def q_min (x y : Int32) : Int32 := if y.toInt < x.toInt then y else x
def q_abs (x : Int32) : Int32 := if x.toInt < 0 then -x else x
def q_dc (a b : Int32) : Int32 := if b.toInt ≤ 0 then 0 else a / b
def q_du (a b : Int32) : Int32 := if b.toInt ≤ 0 then 0 else (a + b - 1) / b
def q_tell (l g w : Int32) : Int32 := if w = 0 then q_max 0 (q_min g 9999 - l + 1) else if (q_min g 9999).toInt < l.toInt then -4 else if w = 1 then l else q_min g 9999
def q_t (x : Int32) : Bool := decide (¬ x = 0)
theorem q_t_b (c : Bool) : q_t (q_b c) = c := by cases c <;> decide
theorem q_nz {b : Int32} (h : 0 < b.toInt) : ¬ b = 0 := fun e => by rw [e] at h; exact absurd h (by decide)

set_option maxHeartbeats 4000000 in
set_option maxRecDepth 100000 in
theorem kX7_within {sh : List q_S} {σ : q_M} {x : Int32} {lo : Int32} {hi : Int32} : q_Ct YX7_within [.int x, .int lo, .int hi] sh σ (q_is (some (q_b (q_win x lo hi))) sh σ) := by
  refine q_ct (n := 0) (by decide) (by decide) rfl (fun _ => Nat.le_of_ble_eq_true rfl) (fun E => ?_)
  refine q_iload_n dX7_within_0 rfl ?_
  refine q_iload_n dX7_within_1 rfl ?_
  refine q_clt 14 dX7_within_2 (by decide) (fun h2 => ?_) (fun h2 => ?_)
  · refine q_iconst (x := 0) dX7_within_14 (by decide) ?_
    refine q_ret0 dX7_within_15 ?_ rfl rfl
    exact ⟨congrArg some (congrArg q_b (by simp [q_win]; omega)), rfl, rfl⟩
  · refine q_iload_n dX7_within_5 rfl ?_
    refine q_iload_n dX7_within_6 rfl ?_
    refine q_cgt 14 dX7_within_7 (by decide) (fun h7 => ?_) (fun h7 => ?_)
    · refine q_iconst (x := 0) dX7_within_14 (by decide) ?_
      refine q_ret0 dX7_within_15 ?_ rfl rfl
      exact ⟨congrArg some (congrArg q_b (by simp [q_win]; omega)), rfl, rfl⟩
    · refine q_iconst (x := 1) dX7_within_10 (by decide) ?_
      refine q_goto 15 dX7_within_11 (by decide) ?_
      refine q_ret1 dX7_within_15 ?_ rfl rfl
      exact ⟨congrArg some (congrArg q_b (by simp [q_win]; omega)), rfl, rfl⟩

set_option maxHeartbeats 4000000 in
set_option maxRecDepth 100000 in
theorem kX7_isThumb {sh : List q_S} {σ : q_M} {x : Int32} : q_Ct YX7_isThumb [.int x] sh σ (q_is (some (q_b (q_win x 0 500))) sh σ) := by
  refine q_ct (n := 0) (by decide) (by decide) rfl (fun _ => Nat.le_of_ble_eq_true rfl) (fun E => ?_)
  refine q_iload_n dX7_isThumb_0 rfl ?_
  refine q_iconst (x := 0) dX7_isThumb_1 (by decide) ?_
  refine q_sipush (x := 500) dX7_isThumb_2 (by decide) ?_
  refine q_cSi lX7_77 sX7_within dX7_isThumb_5 kX7_within rfl rfl (Nat.le_of_ble_eq_true rfl) (by decide) ?_
  refine q_bret dX7_isThumb_8 ?_ rfl rfl
  exact ⟨rfl, rfl, rfl⟩

set_option maxHeartbeats 4000000 in
set_option maxRecDepth 100000 in
theorem kX7_isHeavy {sh : List q_S} {σ : q_M} {x : Int32} : q_Ct YX7_isHeavy [.int x] sh σ (q_is (some (q_b (q_win x 1 999))) sh σ) := by
  refine q_ct (n := 0) (by decide) (by decide) rfl (fun _ => Nat.le_of_ble_eq_true rfl) (fun E => ?_)
  refine q_iload_n dX7_isHeavy_0 rfl ?_
  refine q_iconst (x := 1) dX7_isHeavy_1 (by decide) ?_
  refine q_sipush (x := 999) dX7_isHeavy_2 (by decide) ?_
  refine q_cSi lX7_77 sX7_within dX7_isHeavy_5 kX7_within rfl rfl (Nat.le_of_ble_eq_true rfl) (by decide) ?_
  refine q_bret dX7_isHeavy_8 ?_ rfl rfl
  exact ⟨rfl, rfl, rfl⟩

set_option maxHeartbeats 4000000 in
set_option maxRecDepth 100000 in
theorem kX7_isLate {sh : List q_S} {σ : q_M} {x : Int32} : q_Ct YX7_isLate [.int x] sh σ (q_is (some (q_b (q_win x 0 50))) sh σ) := by
  refine q_ct (n := 0) (by decide) (by decide) rfl (fun _ => Nat.le_of_ble_eq_true rfl) (fun E => ?_)
  refine q_iload_n dX7_isLate_0 rfl ?_
  refine q_iconst (x := 0) dX7_isLate_1 (by decide) ?_
  refine q_bipush (x := 50) dX7_isLate_2 (by decide) ?_
  refine q_cSi lX7_77 sX7_within dX7_isLate_4 kX7_within rfl rfl (Nat.le_of_ble_eq_true rfl) (by decide) ?_
  refine q_bret dX7_isLate_7 ?_ rfl rfl
  exact ⟨rfl, rfl, rfl⟩

set_option maxHeartbeats 4000000 in
set_option maxRecDepth 100000 in
theorem kX7_isStep {sh : List q_S} {σ : q_M} {x : Int32} : q_Ct YX7_isStep [.int x] sh σ (q_is (some (q_b (q_win x 1 50))) sh σ) := by
  refine q_ct (n := 0) (by decide) (by decide) rfl (fun _ => Nat.le_of_ble_eq_true rfl) (fun E => ?_)
  refine q_iload_n dX7_isStep_0 rfl ?_
  refine q_iconst (x := 1) dX7_isStep_1 (by decide) ?_
  refine q_bipush (x := 50) dX7_isStep_2 (by decide) ?_
  refine q_cSi lX7_77 sX7_within dX7_isStep_4 kX7_within rfl rfl (Nat.le_of_ble_eq_true rfl) (by decide) ?_
  refine q_bret dX7_isStep_7 ?_ rfl rfl
  exact ⟨rfl, rfl, rfl⟩

set_option maxHeartbeats 4000000 in
set_option maxRecDepth 100000 in
theorem kX7_isSheet {sh : List q_S} {σ : q_M} {x : Int32} : q_Ct YX7_isSheet [.int x] sh σ (q_is (some (q_b (q_win x 0 3))) sh σ) := by
  refine q_ct (n := 0) (by decide) (by decide) rfl (fun _ => Nat.le_of_ble_eq_true rfl) (fun E => ?_)
  refine q_iload_n dX7_isSheet_0 rfl ?_
  refine q_iconst (x := 0) dX7_isSheet_1 (by decide) ?_
  refine q_iconst (x := 3) dX7_isSheet_2 (by decide) ?_
  refine q_cSi lX7_77 sX7_within dX7_isSheet_3 kX7_within rfl rfl (Nat.le_of_ble_eq_true rfl) (by decide) ?_
  refine q_bret dX7_isSheet_6 ?_ rfl rfl
  exact ⟨rfl, rfl, rfl⟩

set_option maxHeartbeats 4000000 in
set_option maxRecDepth 100000 in
theorem kX7_isLane {sh : List q_S} {σ : q_M} {x : Int32} : q_Ct YX7_isLane [.int x] sh σ (q_is (some (q_b (q_win x 0 2))) sh σ) := by
  refine q_ct (n := 0) (by decide) (by decide) rfl (fun _ => Nat.le_of_ble_eq_true rfl) (fun E => ?_)
  refine q_iload_n dX7_isLane_0 rfl ?_
  refine q_iconst (x := 0) dX7_isLane_1 (by decide) ?_
  refine q_iconst (x := 2) dX7_isLane_2 (by decide) ?_
  refine q_cSi lX7_77 sX7_within dX7_isLane_3 kX7_within rfl rfl (Nat.le_of_ble_eq_true rfl) (by decide) ?_
  refine q_bret dX7_isLane_6 ?_ rfl rfl
  exact ⟨rfl, rfl, rfl⟩

set_option maxHeartbeats 4000000 in
set_option maxRecDepth 100000 in
theorem kmax {sh : List q_S} {σ : q_M} {x : Int32} {y : Int32} : q_Ct YJ9_max_7cf53 [.int x, .int y] sh σ (q_is (some (q_max x y)) sh σ) := by
  refine q_ctJ (n := 0) (by decide +kernel) (by decide) rfl (fun _ => Nat.le_of_ble_eq_true rfl) (fun E => ?_)
  refine q_iload_n dJ9_max_7cf53_0 rfl ?_
  refine q_iload_n dJ9_max_7cf53_1 rfl ?_
  refine q_clt 9 dJ9_max_7cf53_2 (by decide) (fun h2 => ?_) (fun h2 => ?_)
  · refine q_iload_n dJ9_max_7cf53_9 rfl ?_
    refine q_ret dJ9_max_7cf53_10 ?_ rfl rfl
    exact ⟨congrArg some (by simp only [q_max]; first | rw [if_pos (by omega)] | rw [if_neg (by omega)]), rfl, rfl⟩
  · refine q_iload_n dJ9_max_7cf53_5 rfl ?_
    refine q_goto 10 dJ9_max_7cf53_6 (by decide) ?_
    refine q_ret dJ9_max_7cf53_10 ?_ rfl rfl
    exact ⟨congrArg some (by simp only [q_max]; first | rw [if_pos (by omega)] | rw [if_neg (by omega)]), rfl, rfl⟩

set_option maxHeartbeats 4000000 in
set_option maxRecDepth 100000 in
theorem kmin {sh : List q_S} {σ : q_M} {x : Int32} {y : Int32} : q_Ct YJ9_min_7cf53 [.int x, .int y] sh σ (q_is (some (q_min x y)) sh σ) := by
  refine q_ctJ (n := 0) (by decide +kernel) (by decide) rfl (fun _ => Nat.le_of_ble_eq_true rfl) (fun E => ?_)
  refine q_iload_n dJ9_min_7cf53_0 rfl ?_
  refine q_iload_n dJ9_min_7cf53_1 rfl ?_
  refine q_cgt 9 dJ9_min_7cf53_2 (by decide) (fun h2 => ?_) (fun h2 => ?_)
  · refine q_iload_n dJ9_min_7cf53_9 rfl ?_
    refine q_ret dJ9_min_7cf53_10 ?_ rfl rfl
    exact ⟨congrArg some (by simp only [q_min]; first | rw [if_pos (by omega)] | rw [if_neg (by omega)]), rfl, rfl⟩
  · refine q_iload_n dJ9_min_7cf53_5 rfl ?_
    refine q_goto 10 dJ9_min_7cf53_6 (by decide) ?_
    refine q_ret dJ9_min_7cf53_10 ?_ rfl rfl
    exact ⟨congrArg some (by simp only [q_min]; first | rw [if_pos (by omega)] | rw [if_neg (by omega)]), rfl, rfl⟩

set_option maxHeartbeats 4000000 in
set_option maxRecDepth 100000 in
theorem kabs {sh : List q_S} {σ : q_M} {x : Int32} : q_Ct YJ9_abs_0f7a4 [.int x] sh σ (q_is (some (q_abs x)) sh σ) := by
  refine q_ctJ (n := 0) (by decide +kernel) (by decide) rfl (fun _ => Nat.le_of_ble_eq_true rfl) (fun E => ?_)
  refine q_iload_n dJ9_abs_0f7a4_0 rfl ?_
  refine q_zge 9 dJ9_abs_0f7a4_1 (by decide) (fun h1 => ?_) (fun h1 => ?_)
  · refine q_iload_n dJ9_abs_0f7a4_9 rfl ?_
    refine q_ret dJ9_abs_0f7a4_10 ?_ rfl rfl
    exact ⟨congrArg some (by simp only [q_abs]; first | rw [if_pos (by omega)] | rw [if_neg (by omega)]), rfl, rfl⟩
  · refine q_iload_n dJ9_abs_0f7a4_4 rfl ?_
    refine q_ineg dJ9_abs_0f7a4_5 ?_
    refine q_goto 10 dJ9_abs_0f7a4_6 (by decide) ?_
    refine q_ret dJ9_abs_0f7a4_10 ?_ rfl rfl
    exact ⟨congrArg some (by simp only [q_abs]; first | rw [if_pos (by omega)] | rw [if_neg (by omega)]), rfl, rfl⟩

set_option maxHeartbeats 4000000 in
set_option maxRecDepth 100000 in
theorem kX7_divideCut {sh : List q_S} {σ : q_M} {a : Int32} {b : Int32} : q_Ct YX7_divideCut [.int a, .int b] sh σ (q_is (some (q_dc a b)) sh σ) := by
  refine q_ct (n := 0) (by decide) (by decide) rfl (fun _ => Nat.le_of_ble_eq_true rfl) (fun E => ?_)
  refine q_iload_n dX7_divideCut_0 rfl ?_
  refine q_zgt 8 dX7_divideCut_1 (by decide) (fun h1 => ?_) (fun h1 => ?_)
  · refine q_iload_n dX7_divideCut_8 rfl ?_
    refine q_iload_n dX7_divideCut_9 rfl ?_
    refine q_idiv (q_nz (by assumption)) dX7_divideCut_10 ?_
    refine q_ret dX7_divideCut_11 ?_ rfl rfl
    exact ⟨congrArg some (by simp only [q_dc]; first | rw [if_pos (by omega)] | rw [if_neg (by omega)]), rfl, rfl⟩
  · refine q_iconst (x := 0) dX7_divideCut_4 (by decide) ?_
    refine q_goto 11 dX7_divideCut_5 (by decide) ?_
    refine q_ret dX7_divideCut_11 ?_ rfl rfl
    exact ⟨congrArg some (by simp only [q_dc]; first | rw [if_pos (by omega)] | rw [if_neg (by omega)]), rfl, rfl⟩

set_option maxHeartbeats 4000000 in
set_option maxRecDepth 100000 in
theorem kX7_divideUp {sh : List q_S} {σ : q_M} {a : Int32} {b : Int32} : q_Ct YX7_divideUp [.int a, .int b] sh σ (q_is (some (q_du a b)) sh σ) := by
  refine q_ct (n := 0) (by decide) (by decide) rfl (fun _ => Nat.le_of_ble_eq_true rfl) (fun E => ?_)
  refine q_iload_n dX7_divideUp_0 rfl ?_
  refine q_zgt 8 dX7_divideUp_1 (by decide) (fun h1 => ?_) (fun h1 => ?_)
  · refine q_iload_n dX7_divideUp_8 rfl ?_
    refine q_iload_n dX7_divideUp_9 rfl ?_
    refine q_iadd dX7_divideUp_10 ?_
    refine q_iconst (x := 1) dX7_divideUp_11 (by decide) ?_
    refine q_isub dX7_divideUp_12 ?_
    refine q_iload_n dX7_divideUp_13 rfl ?_
    refine q_idiv (q_nz (by assumption)) dX7_divideUp_14 ?_
    refine q_ret dX7_divideUp_15 ?_ rfl rfl
    exact ⟨congrArg some (by simp only [q_du]; first | rw [if_pos (by omega)] | rw [if_neg (by omega)]), rfl, rfl⟩
  · refine q_iconst (x := 0) dX7_divideUp_4 (by decide) ?_
    refine q_goto 15 dX7_divideUp_5 (by decide) ?_
    refine q_ret dX7_divideUp_15 ?_ rfl rfl
    exact ⟨congrArg some (by simp only [q_du]; first | rw [if_pos (by omega)] | rw [if_neg (by omega)]), rfl, rfl⟩

set_option maxHeartbeats 4000000 in
set_option maxRecDepth 100000 in
theorem kX7_bit {sh : List q_S} {σ : q_M} {x : Int32} : q_Ct YX7_bit [.int x] sh σ (q_is (some (q_b (q_t x))) sh σ) := by
  refine q_ct (n := 0) (by decide) (by decide) rfl (fun _ => Nat.le_of_ble_eq_true rfl) (fun E => ?_)
  refine q_iload_n dX7_bit_0 rfl ?_
  refine q_if_eq 8 dX7_bit_1 (by decide) (fun h1 => ?_) (fun h1 => ?_)
  · refine q_iconst (x := 0) dX7_bit_8 (by decide) ?_
    refine q_ret dX7_bit_9 ?_ rfl rfl
    exact ⟨congrArg some (by simp [q_t, q_b, *]), rfl, rfl⟩
  · refine q_iconst (x := 1) dX7_bit_4 (by decide) ?_
    refine q_goto 9 dX7_bit_5 (by decide) ?_
    refine q_ret dX7_bit_9 ?_ rfl rfl
    exact ⟨congrArg some (by simp [q_t, q_b, *]), rfl, rfl⟩
