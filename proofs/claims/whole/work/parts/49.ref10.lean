/-! the reference: images, sheets, count, feed, drafts -/
def qm_cp (σ : q_M) (a b i : Nat) : q_M := fun x => if x = 73 then (fun j => if a ≤ j ∧ j < a + i then σ 73 (b + (j - a)) else σ 73 j) else σ x
theorem qm_cp_0 (σ : q_M) (a b : Nat) : qm_cp σ a b 0 = σ := by
  funext x j
  by_cases h : x = 73
  · subst h
    simp only [qm_cp, if_true]
    rw [if_neg (by omega)]
  · simp [qm_cp, h]
theorem qm_cp_s {σ : q_M} {a b i : Nat} (h : b + i < a ∨ a + i ≤ b + i) (h2 : b + i < a ∨ a + i ≤ b) : q_up (qm_cp σ a b i) 73 (a + i) (qm_cp σ a b i 73 (b + i)) = qm_cp σ a b (i + 1) := by
  have e : qm_cp σ a b i 73 (b + i) = σ 73 (b + i) := by
    simp only [qm_cp, if_true]
    rw [if_neg (by omega)]
  rw [e]
  funext x j
  by_cases h : x = 73
  · subst h
    by_cases h1 : j = a + i
    · subst h1
      rw [q_up_at]
      simp only [qm_cp, if_true]
      rw [if_pos (by omega), show b + (a + i - a) = b + i by omega]
    · rw [q_up_f h1]
      simp only [qm_cp, if_true]
      by_cases h3 : a ≤ j ∧ j < a + i
      · rw [if_pos h3, if_pos (by omega)]
      · rw [if_neg h3, if_neg (by omega)]
  · rw [q_up_g h]
    simp [qm_cp, h]
def qm_zc (σ : q_M) (k i : Nat) : q_M := fun x => if x = 85 then (fun j => if 40 * k ≤ j ∧ j < 40 * k + i then 0 else σ 85 j) else σ x
theorem qm_zc_0 (σ : q_M) (k : Nat) : qm_zc σ k 0 = σ := by
  funext x j
  by_cases h : x = 85
  · subst h
    simp only [qm_zc, if_true]
    rw [if_neg (by omega)]
  · simp [qm_zc, h]
theorem qm_zc_s {σ : q_M} {k i : Nat} : q_up (qm_zc σ k i) 85 (40 * k + i) 0 = qm_zc σ k (i + 1) := by
  funext x j
  by_cases h : x = 85
  · subst h
    by_cases h1 : j = 40 * k + i
    · subst h1
      rw [q_up_at]
      simp only [qm_zc, if_true]
      rw [if_pos (by omega)]
    · rw [q_up_f h1]
      simp only [qm_zc, if_true]
      by_cases h3 : 40 * k ≤ j ∧ j < 40 * k + i
      · rw [if_pos h3, if_pos (by omega)]
      · rw [if_neg h3, if_neg (by omega)]
  · rw [q_up_g h]
    simp [qm_zc, h]

set_option maxHeartbeats 1000000 in
set_option maxRecDepth 100000 in
theorem lpX8_copies {E : q_E} {σ : q_M} {a b : Nat} (ha : a ≤ 200) (hb : b ≤ 200) (hab : b + 100 ≤ a ∨ a + 100 ≤ b) : ∀ (n : Nat) (i : Nat), 100 + 1 ≤ i + n → i ≤ 100 → q_G YX8_copies E 0 0 2 [some (.ref 72), some (.int (nI a)), some (.int (nI b)), some (.int (nI i))] [] q_SH (qm_cp σ a b i) (q_is none q_SH (qm_cp σ a b 100)) := by
  intro n
  induction n with
  | zero =>
    intro i hm h0
    exact absurd hm (by omega)
  | succ n ih =>
    intro i hm h0
    have hi := nI_toInt (n := i) (by omega)
    have e100 : (100 : Int32).toInt = 100 := rfl
    refine q_iload_n dX8_copies_2 rfl ?_
    refine q_bipush (x := 100) dX8_copies_3 (by decide) ?_
    refine q_cge 30 dX8_copies_5 (by decide) (fun h5 => ?_) (fun h5 => ?_)
    · refine q_vret dX8_copies_30 ?_ rfl rfl
      have e : i = 100 := by omega
      subst e
      exact ⟨rfl, rfl, rfl⟩
    · refine q_aload_n dX8_copies_8 rfl ?_
      refine q_getr fX8_7 dX8_copies_9 (by first | rfl | assumption) (by rfl) ?_
      refine q_iload_n dX8_copies_12 rfl ?_
      refine q_iload_n dX8_copies_13 rfl ?_
      refine q_iadd dX8_copies_14 ?_
      refine q_aload_n dX8_copies_15 rfl ?_
      refine q_getr fX8_7 dX8_copies_16 (by first | rfl | assumption) (by rfl) ?_
      refine q_iload_n dX8_copies_19 rfl ?_
      refine q_iload_n dX8_copies_20 rfl ?_
      refine q_iadd dX8_copies_21 ?_
      refine q_ild (b + i) (by first | rfl | assumption) (by rw [nI_add]; exact nI_toInt (by omega)) (by omega) dX8_copies_22 ?_
      refine q_isto (a + i) (by first | rfl | assumption) (by rw [nI_add]; exact nI_toInt (by omega)) (by omega) dX8_copies_23 ?_
      refine q_inc 1 dX8_copies_24 (by decide) rfl (by decide) rfl ?_
      refine q_goto 2 dX8_copies_27 (by decide) ?_
      rw [nI_1, qm_cp_s (by omega) (by omega)]
      exact ih (i + 1) (by omega) (by omega)

set_option maxHeartbeats 1000000 in
set_option maxRecDepth 100000 in
theorem kX8_copies {σ : q_M} {a b : Nat} (ha : a ≤ 200) (hb : b ≤ 200) (hab : b + 100 ≤ a ∨ a + 100 ≤ b) : q_Ct YX8_copies [.ref 72, .int (nI a), .int (nI b)] q_SH σ (q_is none q_SH (qm_cp σ a b 100)) := by
  refine q_ct (n := 1) (by decide) (by decide) rfl (fun _ => Nat.le_of_ble_eq_true rfl) (fun E => ?_)
  refine q_iconst (x := 0) dX8_copies_0 (by decide) ?_
  refine q_istore_n dX8_copies_1 (by decide) rfl ?_
  have z := lpX8_copies (E := E) (σ := σ) ha hb hab 101 0 (by omega) (by omega)
  rw [qm_cp_0] at z
  exact z

set_option maxHeartbeats 1000000 in
set_option maxRecDepth 100000 in
theorem kX8_keepB {σ : q_M} {i : Int32} (hbad : q_win i 0 1 = false) : q_Ct YX8_keep [.ref 72, .int i] q_SH σ (q_is (some (-1)) q_SH σ) := by
  refine q_ct (n := 1) (by decide) (by decide) rfl (fun _ => Nat.le_of_ble_eq_true rfl) (fun E => ?_)
  refine q_iload_n dX8_keep_0 rfl ?_
  refine q_i2l dX8_keep_1 ?_
  refine q_lconst (x := 0) dX8_keep_2 (by decide) ?_
  refine q_lconst (x := 1) dX8_keep_3 (by decide) ?_
  refine q_cSi lX8_72 sX8_in dX8_keep_4 (kX8_in (x := i) (lo := 0) (hi := 1) (Int32.toInt_toInt64 _) rfl rfl) rfl rfl (Nat.le_of_ble_eq_true rfl) (by decide) ?_
  refine q_bne 12 dX8_keep_7 (by decide) (fun h7 => ?_) (fun h7 => ?_)
  · exact absurd h7 (by rw [hbad]; decide)
  · refine q_iconst (x := (-1)) dX8_keep_10 (by decide) ?_
    refine q_ret dX8_keep_11 ?_ rfl rfl
    exact ⟨rfl, rfl, rfl⟩

set_option maxHeartbeats 1000000 in
set_option maxRecDepth 100000 in
theorem kX8_keep {σ : q_M} {j : Nat} (h2 : j < 2) : q_Ct YX8_keep [.ref 72, .int (nI j)] q_SH σ (q_is (some (q_b (q_t (σ 74 j)))) q_SH (qm_cp (q_up σ 74 j 1) (100 * (j + 1)) 0 100)) := by
  refine q_ct (n := 1) (by decide) (by decide) rfl (fun _ => Nat.le_of_ble_eq_true rfl) (fun E => ?_)
  have hjt := nI_toInt (n := j) (by omega)
  refine q_iload_n dX8_keep_0 rfl ?_
  refine q_i2l dX8_keep_1 ?_
  refine q_lconst (x := 0) dX8_keep_2 (by decide) ?_
  refine q_lconst (x := 1) dX8_keep_3 (by decide) ?_
  refine q_cSi lX8_72 sX8_in dX8_keep_4 (kX8_in (x := (nI j)) (lo := 0) (hi := 1) (Int32.toInt_toInt64 _) rfl rfl) rfl rfl (Nat.le_of_ble_eq_true rfl) (by decide) ?_
  refine q_bne 12 dX8_keep_7 (by decide) (fun h7 => ?_) (fun h7 => ?_)
  · refine q_aload_n dX8_keep_12 rfl ?_
    refine q_getr fX8_13 dX8_keep_13 (by first | rfl | assumption) (by rfl) ?_
    refine q_iload_n dX8_keep_16 rfl ?_
    refine q_zld j (by first | rfl | assumption) hjt (by omega) dX8_keep_17 ?_
    refine q_cSi lX8_63 sX8_flag dX8_keep_18 kX8_flag rfl rfl (Nat.le_of_ble_eq_true rfl) (by decide) ?_
    refine q_istore_n dX8_keep_21 (by decide) rfl ?_
    refine q_aload_n dX8_keep_22 rfl ?_
    refine q_getr fX8_13 dX8_keep_23 (by first | rfl | assumption) (by rfl) ?_
    refine q_iload_n dX8_keep_26 rfl ?_
    refine q_iconst (x := 1) dX8_keep_27 (by decide) ?_
    refine q_zsto j (by first | rfl | assumption) hjt (by omega) dX8_keep_28 ?_
    refine q_aload_n dX8_keep_29 rfl ?_
    refine q_bipush (x := 100) dX8_keep_30 (by decide) ?_
    refine q_iload_n dX8_keep_32 rfl ?_
    refine q_iconst (x := 1) dX8_keep_33 (by decide) ?_
    refine q_iadd dX8_keep_34 ?_
    refine q_imul dX8_keep_35 ?_
    rw [show (100 : Int32) * (nI j + 1) = nI (100 * (j + 1)) by rw [nI_1, show (100 : Int32) = nI 100 from rfl, pk_mul]]
    refine q_iconst (x := 0) dX8_keep_36 (by decide) ?_
    refine q_cVv lX8_291 vX8_copies (ci := 8) rfl dX8_keep_37 (kX8_copies (a := 100 * (j + 1)) (b := 0) (by omega) (by omega) (by omega)) (by first | rfl | assumption) rfl rfl (Nat.le_of_ble_eq_true rfl) (by decide) ?_
    refine q_iload_n dX8_keep_40 rfl ?_
    refine q_ret dX8_keep_41 ?_ rfl rfl
    exact ⟨rfl, rfl, rfl⟩
  · exact absurd (show q_win (nI j) 0 1 = true from decide_eq_true (by have := nI_toInt (n := j) (by omega); have e0 : (0 : Int32).toInt = 0 := rfl; have e5 : (1 : Int32).toInt = 1 := rfl; omega)) (by rw [h7]; decide)

set_option maxHeartbeats 1000000 in
set_option maxRecDepth 100000 in
theorem kX8_restoreB {σ : q_M} {i : Int32} (hbad : q_win i 0 1 = false) : q_Ct YX8_restore [.ref 72, .int i] q_SH σ (q_is (some (-1)) q_SH σ) := by
  refine q_ct (n := 0) (by decide) (by decide) rfl (fun _ => Nat.le_of_ble_eq_true rfl) (fun E => ?_)
  refine q_iload_n dX8_restore_0 rfl ?_
  refine q_i2l dX8_restore_1 ?_
  refine q_lconst (x := 0) dX8_restore_2 (by decide) ?_
  refine q_lconst (x := 1) dX8_restore_3 (by decide) ?_
  refine q_cSi lX8_72 sX8_in dX8_restore_4 (kX8_in (x := i) (lo := 0) (hi := 1) (Int32.toInt_toInt64 _) rfl rfl) rfl rfl (Nat.le_of_ble_eq_true rfl) (by decide) ?_
  refine q_bne 12 dX8_restore_7 (by decide) (fun h7 => ?_) (fun h7 => ?_)
  · exact absurd h7 (by rw [hbad]; decide)
  · refine q_iconst (x := (-1)) dX8_restore_10 (by decide) ?_
    refine q_ret dX8_restore_11 ?_ rfl rfl
    exact ⟨rfl, rfl, rfl⟩

set_option maxHeartbeats 1000000 in
set_option maxRecDepth 100000 in
theorem kX8_restoreS {σ : q_M} {j : Nat} (h2 : j < 2) (hz : σ 74 j = 0) : q_Ct YX8_restore [.ref 72, .int (nI j)] q_SH σ (q_is (some (-2)) q_SH σ) := by
  refine q_ct (n := 0) (by decide) (by decide) rfl (fun _ => Nat.le_of_ble_eq_true rfl) (fun E => ?_)
  have hjt := nI_toInt (n := j) (by omega)
  refine q_iload_n dX8_restore_0 rfl ?_
  refine q_i2l dX8_restore_1 ?_
  refine q_lconst (x := 0) dX8_restore_2 (by decide) ?_
  refine q_lconst (x := 1) dX8_restore_3 (by decide) ?_
  refine q_cSi lX8_72 sX8_in dX8_restore_4 (kX8_in (x := (nI j)) (lo := 0) (hi := 1) (Int32.toInt_toInt64 _) rfl rfl) rfl rfl (Nat.le_of_ble_eq_true rfl) (by decide) ?_
  refine q_bne 12 dX8_restore_7 (by decide) (fun h7 => ?_) (fun h7 => ?_)
  · refine q_aload_n dX8_restore_12 rfl ?_
    refine q_getr fX8_13 dX8_restore_13 (by first | rfl | assumption) (by rfl) ?_
    refine q_iload_n dX8_restore_16 rfl ?_
    refine q_zld j (by first | rfl | assumption) hjt (by omega) dX8_restore_17 ?_
    refine q_if_ne 24 dX8_restore_18 (by decide) (fun h18 => ?_) (fun h18 => ?_)
    · exact absurd hz h18
    · refine q_bipush (x := (-2)) dX8_restore_21 (by decide) ?_
      refine q_ret dX8_restore_23 ?_ rfl rfl
      exact ⟨rfl, rfl, rfl⟩
  · exact absurd (show q_win (nI j) 0 1 = true from decide_eq_true (by have := nI_toInt (n := j) (by omega); have e0 : (0 : Int32).toInt = 0 := rfl; have e5 : (1 : Int32).toInt = 1 := rfl; omega)) (by rw [h7]; decide)

set_option maxHeartbeats 1000000 in
set_option maxRecDepth 100000 in
theorem kX8_restore {σ : q_M} {j : Nat} (h2 : j < 2) (hz : ¬ σ 74 j = 0) : q_Ct YX8_restore [.ref 72, .int (nI j)] q_SH σ (q_is (some (σ 73 (100 * (j + 1) + 50))) q_SH (qm_cp σ 0 (100 * (j + 1)) 100)) := by
  refine q_ct (n := 0) (by decide) (by decide) rfl (fun _ => Nat.le_of_ble_eq_true rfl) (fun E => ?_)
  have hjt := nI_toInt (n := j) (by omega)
  refine q_iload_n dX8_restore_0 rfl ?_
  refine q_i2l dX8_restore_1 ?_
  refine q_lconst (x := 0) dX8_restore_2 (by decide) ?_
  refine q_lconst (x := 1) dX8_restore_3 (by decide) ?_
  refine q_cSi lX8_72 sX8_in dX8_restore_4 (kX8_in (x := (nI j)) (lo := 0) (hi := 1) (Int32.toInt_toInt64 _) rfl rfl) rfl rfl (Nat.le_of_ble_eq_true rfl) (by decide) ?_
  refine q_bne 12 dX8_restore_7 (by decide) (fun h7 => ?_) (fun h7 => ?_)
  · refine q_aload_n dX8_restore_12 rfl ?_
    refine q_getr fX8_13 dX8_restore_13 (by first | rfl | assumption) (by rfl) ?_
    refine q_iload_n dX8_restore_16 rfl ?_
    refine q_zld j (by first | rfl | assumption) hjt (by omega) dX8_restore_17 ?_
    refine q_if_ne 24 dX8_restore_18 (by decide) (fun h18 => ?_) (fun h18 => ?_)
    · refine q_aload_n dX8_restore_24 rfl ?_
      refine q_iconst (x := 0) dX8_restore_25 (by decide) ?_
      refine q_bipush (x := 100) dX8_restore_26 (by decide) ?_
      refine q_iload_n dX8_restore_28 rfl ?_
      refine q_iconst (x := 1) dX8_restore_29 (by decide) ?_
      refine q_iadd dX8_restore_30 ?_
      refine q_imul dX8_restore_31 ?_
      rw [show (100 : Int32) * (nI j + 1) = nI (100 * (j + 1)) by rw [nI_1, show (100 : Int32) = nI 100 from rfl, pk_mul]]
      refine q_cVv lX8_291 vX8_copies (ci := 8) rfl dX8_restore_32 (kX8_copies (a := 0) (b := 100 * (j + 1)) (by omega) (by omega) (by omega)) (by first | rfl | assumption) rfl rfl (Nat.le_of_ble_eq_true rfl) (by decide) ?_
      refine q_aload_n dX8_restore_35 rfl ?_
      refine q_getr fX8_7 dX8_restore_36 (by first | rfl | assumption) (by rfl) ?_
      refine q_bipush (x := 50) dX8_restore_39 (by decide) ?_
      refine q_ild 50 (by first | rfl | assumption) rfl (by decide) dX8_restore_41 ?_
      refine q_tope (y := σ 73 (100 * (j + 1) + 50)) rfl ?_
      refine q_ret dX8_restore_42 ?_ rfl rfl
      exact ⟨rfl, rfl, rfl⟩
    · exact absurd h18 hz
  · exact absurd (show q_win (nI j) 0 1 = true from decide_eq_true (by have := nI_toInt (n := j) (by omega); have e0 : (0 : Int32).toInt = 0 := rfl; have e5 : (1 : Int32).toInt = 1 := rfl; omega)) (by rw [h7]; decide)

set_option maxHeartbeats 1000000 in
set_option maxRecDepth 100000 in
theorem kX8_isSheet {σ : q_M} {k l : Int32} : q_Ct YX8_isSheet [.int k, .int l] q_SH σ (q_is (some (q_b (q_win k 0 3 && q_win l 0 2))) q_SH σ) := by
  refine q_ct (n := 0) (by decide) (by decide) rfl (fun _ => Nat.le_of_ble_eq_true rfl) (fun E => ?_)
  refine q_iload_n dX8_isSheet_0 rfl ?_
  refine q_i2l dX8_isSheet_1 ?_
  refine q_lconst (x := 0) dX8_isSheet_2 (by decide) ?_
  refine q_ldc2 kX8_275 dX8_isSheet_3 ?_
  refine q_cSi lX8_72 sX8_in dX8_isSheet_6 (kX8_in (x := k) (lo := 0) (hi := 3) (Int32.toInt_toInt64 _) rfl rfl) rfl rfl (Nat.le_of_ble_eq_true rfl) (by decide) ?_
  refine q_beq 28 dX8_isSheet_9 (by decide) (fun h9 => ?_) (fun h9 => ?_)
  · refine q_iconst (x := 0) dX8_isSheet_28 (by decide) ?_
    refine q_ret0 dX8_isSheet_29 ?_ rfl rfl
    exact ⟨congrArg some (by simp [*]), rfl, rfl⟩
  · refine q_iload_n dX8_isSheet_12 rfl ?_
    refine q_i2l dX8_isSheet_13 ?_
    refine q_lconst (x := 0) dX8_isSheet_14 (by decide) ?_
    refine q_ldc2 kX8_229 dX8_isSheet_15 ?_
    refine q_cSi lX8_72 sX8_in dX8_isSheet_18 (kX8_in (x := l) (lo := 0) (hi := 2) (Int32.toInt_toInt64 _) rfl rfl) rfl rfl (Nat.le_of_ble_eq_true rfl) (by decide) ?_
    refine q_beq 28 dX8_isSheet_21 (by decide) (fun h21 => ?_) (fun h21 => ?_)
    · refine q_iconst (x := 0) dX8_isSheet_28 (by decide) ?_
      refine q_ret0 dX8_isSheet_29 ?_ rfl rfl
      exact ⟨congrArg some (by simp [*]), rfl, rfl⟩
    · refine q_iconst (x := 1) dX8_isSheet_24 (by decide) ?_
      refine q_goto 29 dX8_isSheet_25 (by decide) ?_
      refine q_ret1 dX8_isSheet_29 ?_ rfl rfl
      exact ⟨congrArg some (by simp [*]), rfl, rfl⟩

set_option maxHeartbeats 1000000 in
set_option maxRecDepth 100000 in
theorem kX8_sheetB {σ : q_M} {k l n : Int32} (hbad : (q_win k 0 3 && q_win l 0 2 && decide (n.toInt ≤ 40)) = false) : q_Ct YX8_sheet [.ref 72, .int k, .int l, .int n] q_SH σ (q_is (some (-1)) q_SH σ) := by
  refine q_ct (n := 1) (by decide) (by decide) rfl (fun _ => Nat.le_of_ble_eq_true rfl) (fun E => ?_)
  refine q_iload_n dX8_sheet_0 rfl ?_
  refine q_iload_n dX8_sheet_1 rfl ?_
  refine q_cSi lX8_294 sX8_isSheet dX8_sheet_2 kX8_isSheet rfl rfl (Nat.le_of_ble_eq_true rfl) (by decide) ?_
  refine q_beq 14 dX8_sheet_5 (by decide) (fun h5 => ?_) (fun h5 => ?_)
  · refine q_iconst (x := (-1)) dX8_sheet_14 (by decide) ?_
    refine q_ret dX8_sheet_15 ?_ rfl rfl
    exact ⟨rfl, rfl, rfl⟩
  · refine q_iload_n dX8_sheet_8 rfl ?_
    refine q_bipush (x := 40) dX8_sheet_9 (by decide) ?_
    refine q_cle 16 dX8_sheet_11 (by decide) (fun h11 => ?_) (fun h11 => ?_)
    · exact absurd hbad (by have e4 : (40 : Int32).toInt = 40 := rfl; rw [h5, decide_eq_true (show n.toInt ≤ 40 by omega)]; decide)
    · refine q_iconst (x := (-1)) dX8_sheet_14 (by decide) ?_
      refine q_ret dX8_sheet_15 ?_ rfl rfl
      exact ⟨rfl, rfl, rfl⟩

set_option maxHeartbeats 1000000 in
set_option maxRecDepth 100000 in
theorem lpX8_sheet {E : q_E} {σ : q_M} {j : Nat} (h4 : j < 4) {l n0 : Int32} : ∀ (n : Nat) (i : Nat), 40 + 1 ≤ i + n → i ≤ 40 → q_G YX8_sheet E 0 0 40 [some (.ref 72), some (.int (nI j)), some (.int l), some (.int n0), some (.int (nI i))] [] q_SH (qm_zc σ j i) (q_is (some (1)) q_SH (qm_zc σ j 40)) := by
  intro n
  induction n with
  | zero =>
    intro i hm h0
    exact absurd hm (by omega)
  | succ n ih =>
    intro i hm h0
    have hi := nI_toInt (n := i) (by omega)
    have e40 : (40 : Int32).toInt = 40 := rfl
    refine q_iload dX8_sheet_40 rfl ?_
    refine q_bipush (x := 40) dX8_sheet_42 (by decide) ?_
    refine q_cge 66 dX8_sheet_44 (by decide) (fun h44 => ?_) (fun h44 => ?_)
    · refine q_iconst (x := 1) dX8_sheet_66 (by decide) ?_
      refine q_ret dX8_sheet_67 ?_ rfl rfl
      have e : i = 40 := by omega
      subst e
      exact ⟨rfl, rfl, rfl⟩
    · refine q_aload_n dX8_sheet_47 rfl ?_
      refine q_getr fX8_47 dX8_sheet_48 (by first | rfl | assumption) (by rfl) ?_
      refine q_bipush (x := 40) dX8_sheet_51 (by decide) ?_
      refine q_iload_n dX8_sheet_53 rfl ?_
      refine q_imul dX8_sheet_54 ?_
      refine q_iload dX8_sheet_55 rfl ?_
      refine q_iadd dX8_sheet_57 ?_
      refine q_iconst (x := 0) dX8_sheet_58 (by decide) ?_
      refine q_isto (40 * j + i) (by first | rfl | assumption) (by rw [show (40 : Int32) * nI j + nI i = nI (40 * j + i) by rw [show (40 : Int32) = nI 40 from rfl, pk_mul, nI_add]]; exact nI_toInt (by omega)) (by omega) dX8_sheet_59 ?_
      refine q_inc 1 dX8_sheet_60 (by decide) rfl (by decide) rfl ?_
      refine q_goto 40 dX8_sheet_63 (by decide) ?_
      rw [nI_1, qm_zc_s]
      exact ih (i + 1) (by omega) (by omega)

set_option maxHeartbeats 1000000 in
set_option maxRecDepth 100000 in
theorem kX8_sheet {σ : q_M} {j : Nat} (h4 : j < 4) {l n : Int32} (hl : q_win l 0 2 = true) (hn : n.toInt ≤ 40) : q_Ct YX8_sheet [.ref 72, .int (nI j), .int l, .int n] q_SH σ (q_is (some (if n.toInt < 0 then -14 else 1)) q_SH (if n.toInt < 0 then σ else qm_zc (q_up (q_up σ 83 j l) 84 j n) j 40)) := by
  refine q_ct (n := 1) (by decide) (by decide) rfl (fun _ => Nat.le_of_ble_eq_true rfl) (fun E => ?_)
  have hjt := nI_toInt (n := j) (by omega)
  refine q_iload_n dX8_sheet_0 rfl ?_
  refine q_iload_n dX8_sheet_1 rfl ?_
  refine q_cSi lX8_294 sX8_isSheet dX8_sheet_2 kX8_isSheet rfl rfl (Nat.le_of_ble_eq_true rfl) (by decide) ?_
  refine q_beq 14 dX8_sheet_5 (by decide) (fun h5 => ?_) (fun h5 => ?_)
  · exact absurd h5 (by rw [hl, show q_win (nI j) 0 3 = true from decide_eq_true (by have e0 : (0 : Int32).toInt = 0 := rfl; have e5 : (3 : Int32).toInt = 3 := rfl; omega)]; decide)
  · refine q_iload_n dX8_sheet_8 rfl ?_
    refine q_bipush (x := 40) dX8_sheet_9 (by decide) ?_
    refine q_cle 16 dX8_sheet_11 (by decide) (fun h11 => ?_) (fun h11 => ?_)
    · refine q_iload_n dX8_sheet_16 rfl ?_
      refine q_zge 23 dX8_sheet_17 (by decide) (fun h17 => ?_) (fun h17 => ?_)
      · rw [if_neg (by omega), if_neg (by omega)]
        refine q_aload_n dX8_sheet_23 rfl ?_
        refine q_getr fX8_41 dX8_sheet_24 (by first | rfl | assumption) (by rfl) ?_
        refine q_iload_n dX8_sheet_27 rfl ?_
        refine q_iload_n dX8_sheet_28 rfl ?_
        refine q_isto j (by first | rfl | assumption) hjt (by omega) dX8_sheet_29 ?_
        refine q_aload_n dX8_sheet_30 rfl ?_
        refine q_getr fX8_44 dX8_sheet_31 (by first | rfl | assumption) (by rfl) ?_
        refine q_iload_n dX8_sheet_34 rfl ?_
        refine q_iload_n dX8_sheet_35 rfl ?_
        refine q_isto j (by first | rfl | assumption) hjt (by omega) dX8_sheet_36 ?_
        refine q_iconst (x := 0) dX8_sheet_37 (by decide) ?_
        refine q_istore dX8_sheet_38 (by decide) rfl ?_
        have z := lpX8_sheet (E := E) (σ := (q_up (q_up σ 83 j l) 84 j n)) h4 (l := l) (n0 := n) 41 0 (by omega) (by omega)
        rw [qm_zc_0] at z
        exact z
      · rw [if_pos h17, if_pos h17]
        refine q_bipush (x := (-14)) dX8_sheet_20 (by decide) ?_
        refine q_ret dX8_sheet_22 ?_ rfl rfl
        exact ⟨rfl, rfl, rfl⟩
    · exact absurd hn (by have e4 : (40 : Int32).toInt = 40 := rfl; omega)

set_option maxHeartbeats 1000000 in
set_option maxRecDepth 100000 in
theorem kX8_layB {σ : q_M} {k i x : Int32} (hbad : q_win k 0 3 = false) : q_Ct YX8_lay [.ref 72, .int k, .int i, .int x] q_SH σ (q_is (some (-1)) q_SH σ) := by
  refine q_ct (n := 0) (by decide) (by decide) rfl (fun _ => Nat.le_of_ble_eq_true rfl) (fun E => ?_)
  refine q_iload_n dX8_lay_0 rfl ?_
  refine q_iconst (x := 0) dX8_lay_1 (by decide) ?_
  refine q_cSi lX8_294 sX8_isSheet dX8_lay_2 kX8_isSheet rfl rfl (Nat.le_of_ble_eq_true rfl) (by decide) ?_
  refine q_bne 10 dX8_lay_5 (by decide) (fun h5 => ?_) (fun h5 => ?_)
  · exact absurd h5 (by rw [hbad]; decide)
  · refine q_iconst (x := (-1)) dX8_lay_8 (by decide) ?_
    refine q_ret dX8_lay_9 ?_ rfl rfl
    exact ⟨rfl, rfl, rfl⟩

set_option maxHeartbeats 1000000 in
set_option maxRecDepth 100000 in
theorem kX8_lay {σ : q_M} {j m : Nat} (h4 : j < 4) {i x : Int32} (hm : σ 84 j = nI m) (h40 : m ≤ 40) : q_Ct YX8_lay [.ref 72, .int (nI j), .int i, .int x] q_SH σ (q_is (some (if σ 83 j = -4 then -11 else if q_win i 0 (σ 84 j - 1) then 1 else -12)) q_SH (if σ 83 j = -4 then σ else if q_win i 0 (σ 84 j - 1) then q_up σ 85 (40 * j + i.toNatClampNeg) (q_cut (σ 83 j) x) else σ)) := by
  refine q_ct (n := 0) (by decide) (by decide) rfl (fun _ => Nat.le_of_ble_eq_true rfl) (fun E => ?_)
  have hjt := nI_toInt (n := j) (by omega)
  refine q_iload_n dX8_lay_0 rfl ?_
  refine q_iconst (x := 0) dX8_lay_1 (by decide) ?_
  refine q_cSi lX8_294 sX8_isSheet dX8_lay_2 kX8_isSheet rfl rfl (Nat.le_of_ble_eq_true rfl) (by decide) ?_
  refine q_bne 10 dX8_lay_5 (by decide) (fun h5 => ?_) (fun h5 => ?_)
  · refine q_aload_n dX8_lay_10 rfl ?_
    refine q_getr fX8_41 dX8_lay_11 (by first | rfl | assumption) (by rfl) ?_
    refine q_iload_n dX8_lay_14 rfl ?_
    refine q_ild j (by first | rfl | assumption) hjt (by omega) dX8_lay_15 ?_
    refine q_bipush (x := (-4)) dX8_lay_16 (by decide) ?_
    refine q_icmp_ne 24 dX8_lay_18 (by decide) (fun h18 => ?_) (fun h18 => ?_)
    · rw [if_neg h18, if_neg h18]
      refine q_iload_n dX8_lay_24 rfl ?_
      refine q_i2l dX8_lay_25 ?_
      refine q_lconst (x := 0) dX8_lay_26 (by decide) ?_
      refine q_aload_n dX8_lay_27 rfl ?_
      refine q_getr fX8_44 dX8_lay_28 (by first | rfl | assumption) (by rfl) ?_
      refine q_iload_n dX8_lay_31 rfl ?_
      refine q_ild j (by first | rfl | assumption) hjt (by omega) dX8_lay_32 ?_
      refine q_iconst (x := 1) dX8_lay_33 (by decide) ?_
      refine q_isub dX8_lay_34 ?_
      refine q_i2l dX8_lay_35 ?_
      refine q_cSi lX8_72 sX8_in dX8_lay_36 (kX8_in (x := i) (lo := 0) (hi := (σ 84 j - 1)) (Int32.toInt_toInt64 _) rfl (Int32.toInt_toInt64 _)) rfl rfl (Nat.le_of_ble_eq_true rfl) (by decide) ?_
      refine q_bne 45 dX8_lay_39 (by decide) (fun h39 => ?_) (fun h39 => ?_)
      · rw [if_pos h39, if_pos h39]
        have hq := q_win_t h39
        rw [hm] at hq
        have e0 : (0 : Int32).toInt = 0 := rfl
        have hs := pk_sub_toInt (a := m) (b := 1) (by omega) (by omega)
        have hs : (nI m - 1).toInt = (m : Int) - 1 := hs
        have hcl := q_clamp (x := i) (by omega)
        have hin : i = nI i.toNatClampNeg := Int32.toInt_inj.mp (by rw [nI_toInt (by omega)]; exact hcl)
        refine q_aload_n dX8_lay_45 rfl ?_
        refine q_getr fX8_47 dX8_lay_46 (by first | rfl | assumption) (by rfl) ?_
        refine q_bipush (x := 40) dX8_lay_49 (by decide) ?_
        refine q_iload_n dX8_lay_51 rfl ?_
        refine q_imul dX8_lay_52 ?_
        refine q_iload_n dX8_lay_53 rfl ?_
        refine q_iadd dX8_lay_54 ?_
        refine q_aload_n dX8_lay_55 rfl ?_
        refine q_getr fX8_41 dX8_lay_56 (by first | rfl | assumption) (by rfl) ?_
        refine q_iload_n dX8_lay_59 rfl ?_
        refine q_ild j (by first | rfl | assumption) hjt (by omega) dX8_lay_60 ?_
        refine q_if_ne 69 dX8_lay_61 (by decide) (fun h61 => ?_) (fun h61 => ?_)
        · refine q_aload_n dX8_lay_69 rfl ?_
          refine q_getr fX8_41 dX8_lay_70 (by first | rfl | assumption) (by rfl) ?_
          refine q_iload_n dX8_lay_73 rfl ?_
          refine q_ild j (by first | rfl | assumption) hjt (by omega) dX8_lay_74 ?_
          refine q_iconst (x := 1) dX8_lay_75 (by decide) ?_
          refine q_icmp_ne 84 dX8_lay_76 (by decide) (fun h76 => ?_) (fun h76 => ?_)
          · have hc : q_cut (σ 83 j) x = x := by rw [q_cut, if_neg h61, if_neg h76]
            refine q_iload_n dX8_lay_84 rfl ?_
            refine q_isto (40 * j + i.toNatClampNeg) (by first | rfl | assumption) (by rw [show (40 : Int32) * nI j + i = nI (40 * j + i.toNatClampNeg) by rw [hin, nI_clamp (by omega), show (40 : Int32) = nI 40 from rfl, pk_mul, nI_add]]; exact nI_toInt (by omega)) (by omega) dX8_lay_85 ?_
            refine q_iconst (x := 1) dX8_lay_86 (by decide) ?_
            refine q_ret dX8_lay_87 ?_ rfl rfl
            exact ⟨rfl, rfl, by rw [hc]⟩
          · have hc : q_cut (σ 83 j) x = x.toInt16.toInt32 := by rw [q_cut, if_neg h61, if_pos h76]
            refine q_iload_n dX8_lay_79 rfl ?_
            refine q_i2s dX8_lay_80 ?_
            refine q_goto 85 dX8_lay_81 (by decide) ?_
            refine q_isto (40 * j + i.toNatClampNeg) (by first | rfl | assumption) (by rw [show (40 : Int32) * nI j + i = nI (40 * j + i.toNatClampNeg) by rw [hin, nI_clamp (by omega), show (40 : Int32) = nI 40 from rfl, pk_mul, nI_add]]; exact nI_toInt (by omega)) (by omega) dX8_lay_85 ?_
            refine q_iconst (x := 1) dX8_lay_86 (by decide) ?_
            refine q_ret dX8_lay_87 ?_ rfl rfl
            exact ⟨rfl, rfl, by rw [hc]⟩
        · have hc : q_cut (σ 83 j) x = x.toInt8.toInt32 := if_pos h61
          refine q_iload_n dX8_lay_64 rfl ?_
          refine q_i2b dX8_lay_65 ?_
          refine q_goto 85 dX8_lay_66 (by decide) ?_
          refine q_isto (40 * j + i.toNatClampNeg) (by first | rfl | assumption) (by rw [show (40 : Int32) * nI j + i = nI (40 * j + i.toNatClampNeg) by rw [hin, nI_clamp (by omega), show (40 : Int32) = nI 40 from rfl, pk_mul, nI_add]]; exact nI_toInt (by omega)) (by omega) dX8_lay_85 ?_
          refine q_iconst (x := 1) dX8_lay_86 (by decide) ?_
          refine q_ret dX8_lay_87 ?_ rfl rfl
          exact ⟨rfl, rfl, by rw [hc]⟩
      · rw [if_neg (by rw [h39]; decide), if_neg (by rw [h39]; decide)]
        refine q_bipush (x := (-12)) dX8_lay_42 (by decide) ?_
        refine q_ret dX8_lay_44 ?_ rfl rfl
        exact ⟨rfl, rfl, rfl⟩
    · rw [if_pos h18, if_pos h18]
      refine q_bipush (x := (-11)) dX8_lay_21 (by decide) ?_
      refine q_ret dX8_lay_23 ?_ rfl rfl
      exact ⟨rfl, rfl, rfl⟩
  · exact absurd h5 (by rw [show q_win (nI j) 0 3 = true from decide_eq_true (by have e0 : (0 : Int32).toInt = 0 := rfl; have e5 : (3 : Int32).toInt = 3 := rfl; omega)]; decide)

def qm_ct (σ : q_M) (N : Nat) : Nat → Int32
  | 0 => σ 73 53
  | 1 => q_sum (fun k => σ 73 (8 * k + 4)) N
  | 2 => σ 73 54
  | 3 => q_b (q_t (σ 74 0)) + q_b (q_t (σ 74 1))
  | 4 => σ 72 10
  | 5 => if σ 83 0 = -4 then -4 else σ 84 0
  | _ => -1

set_option maxHeartbeats 1000000 in
set_option maxRecDepth 100000 in
theorem sgX8_count {E : q_E} {σ : q_M} {N : Nat} {w x : Int32} {a : Int32} (ha : a = q_sum (fun k => σ 73 (8 * k + 4)) N) : q_G YX8_count E 0 0 30 [some (.ref 72), some (.int w), some (.int a), some (.int x)] [] q_SH σ (q_is (some (if q_win w 0 5 then qm_ct σ N w.toNatClampNeg else -1)) q_SH σ) := by
  refine q_iload_n dX8_count_30 rfl ?_
  rcases q_sw 6 w with hsw | ⟨jsw, hsw, hjsw⟩
  · refine q_tabOut 134 dX8_count_31 (by omega) (by decide) ?_
    refine q_iconst (x := (-1)) dX8_count_134 (by decide) ?_
    refine q_ret dX8_count_135 ?_ rfl rfl
    have hf : q_win w 0 5 = false := decide_eq_false (by have e0 : (0 : Int32).toInt = 0 := rfl; have e9 : (5 : Int32).toInt = 5 := rfl; omega)
    exact ⟨congrArg some (by rw [hf]; rfl), rfl, rfl⟩
  · rcases (show jsw = 0 ∨ jsw = 1 ∨ jsw = 2 ∨ jsw = 3 ∨ jsw = 4 ∨ jsw = 5 by omega) with rfl | rfl | rfl | rfl | rfl | rfl
    · subst hjsw
      refine q_tabIn 68 dX8_count_31 (by decide) (by decide) rfl (by decide) ?_
      refine q_aload_n dX8_count_68 rfl ?_
      refine q_getr fX8_7 dX8_count_69 (by first | rfl | assumption) (by rfl) ?_
      refine q_bipush (x := 53) dX8_count_72 (by decide) ?_
      refine q_ild 53 (by first | rfl | assumption) rfl (by decide) dX8_count_74 ?_
      refine q_ret dX8_count_75 ?_ rfl rfl
      exact ⟨rfl, rfl, rfl⟩
    · subst hjsw
      refine q_tabIn 76 dX8_count_31 (by decide) (by decide) rfl (by decide) ?_
      refine q_iload_n dX8_count_76 rfl ?_
      refine q_ret dX8_count_77 ?_ rfl rfl
      exact ⟨congrArg some (by rw [ha]; rfl), rfl, rfl⟩
    · subst hjsw
      refine q_tabIn 78 dX8_count_31 (by decide) (by decide) rfl (by decide) ?_
      refine q_aload_n dX8_count_78 rfl ?_
      refine q_getr fX8_7 dX8_count_79 (by first | rfl | assumption) (by rfl) ?_
      refine q_bipush (x := 54) dX8_count_82 (by decide) ?_
      refine q_ild 54 (by first | rfl | assumption) rfl (by decide) dX8_count_84 ?_
      refine q_ret dX8_count_85 ?_ rfl rfl
      exact ⟨rfl, rfl, rfl⟩
    · subst hjsw
      refine q_tabIn 86 dX8_count_31 (by decide) (by decide) rfl (by decide) ?_
      refine q_aload_n dX8_count_86 rfl ?_
      refine q_getr fX8_13 dX8_count_87 (by first | rfl | assumption) (by rfl) ?_
      refine q_iconst (x := 0) dX8_count_90 (by decide) ?_
      refine q_zld 0 (by first | rfl | assumption) rfl (by decide) dX8_count_91 ?_
      refine q_cSi lX8_63 sX8_flag dX8_count_92 kX8_flag rfl rfl (Nat.le_of_ble_eq_true rfl) (by decide) ?_
      refine q_aload_n dX8_count_95 rfl ?_
      refine q_getr fX8_13 dX8_count_96 (by first | rfl | assumption) (by rfl) ?_
      refine q_iconst (x := 1) dX8_count_99 (by decide) ?_
      refine q_zld 1 (by first | rfl | assumption) rfl (by decide) dX8_count_100 ?_
      refine q_cSi lX8_63 sX8_flag dX8_count_101 kX8_flag rfl rfl (Nat.le_of_ble_eq_true rfl) (by decide) ?_
      refine q_iadd dX8_count_104 ?_
      refine q_ret dX8_count_105 ?_ rfl rfl
      exact ⟨rfl, rfl, rfl⟩
    · subst hjsw
      refine q_tabIn 106 dX8_count_31 (by decide) (by decide) rfl (by decide) ?_
      refine q_aload_n dX8_count_106 rfl ?_
      refine q_get fX8_67 dX8_count_107 (by first | rfl | assumption) (by rfl) ?_
      refine q_ret dX8_count_110 ?_ rfl rfl
      exact ⟨rfl, rfl, rfl⟩
    · subst hjsw
      refine q_tabIn 111 dX8_count_31 (by decide) (by decide) rfl (by decide) ?_
      refine q_aload_n dX8_count_111 rfl ?_
      refine q_getr fX8_41 dX8_count_112 (by first | rfl | assumption) (by rfl) ?_
      refine q_iconst (x := 0) dX8_count_115 (by decide) ?_
      refine q_ild 0 (by first | rfl | assumption) rfl (by decide) dX8_count_116 ?_
      refine q_bipush (x := (-4)) dX8_count_117 (by decide) ?_
      refine q_icmp_ne 127 dX8_count_119 (by decide) (fun h119 => ?_) (fun h119 => ?_)
      · refine q_aload_n dX8_count_127 rfl ?_
        refine q_getr fX8_44 dX8_count_128 (by first | rfl | assumption) (by rfl) ?_
        refine q_iconst (x := 0) dX8_count_131 (by decide) ?_
        refine q_ild 0 (by first | rfl | assumption) rfl (by decide) dX8_count_132 ?_
        refine q_ret dX8_count_133 ?_ rfl rfl
        exact ⟨congrArg some (by first | (rw [show (if q_win (nI 5) 0 5 then qm_ct σ N (nI 5).toNatClampNeg else -1) = if σ 83 0 = -4 then -4 else σ 84 0 from rfl, if_pos h119]) | (rw [show (if q_win (nI 5) 0 5 then qm_ct σ N (nI 5).toNatClampNeg else -1) = if σ 83 0 = -4 then -4 else σ 84 0 from rfl, if_neg h119])), rfl, rfl⟩
      · refine q_bipush (x := (-4)) dX8_count_122 (by decide) ?_
        refine q_goto 133 dX8_count_124 (by decide) ?_
        refine q_ret dX8_count_133 ?_ rfl rfl
        exact ⟨congrArg some (by first | (rw [show (if q_win (nI 5) 0 5 then qm_ct σ N (nI 5).toNatClampNeg else -1) = if σ 83 0 = -4 then -4 else σ 84 0 from rfl, if_pos h119]) | (rw [show (if q_win (nI 5) 0 5 then qm_ct σ N (nI 5).toNatClampNeg else -1) = if σ 83 0 = -4 then -4 else σ 84 0 from rfl, if_neg h119])), rfl, rfl⟩

set_option maxHeartbeats 1000000 in
set_option maxRecDepth 100000 in
theorem lpX8_count {E : q_E} {σ : q_M} {N : Nat} (hN : σ 73 53 = nI N) (h6 : N ≤ 6) {w : Int32} : ∀ (n : Nat) (i : Nat) (a : Int32), N + 1 ≤ i + n → i ≤ N → a = q_sum (fun k => σ 73 (8 * k + 4)) i → q_G YX8_count E 0 0 4 [some (.ref 72), some (.int w), some (.int a), some (.int (nI i))] [] q_SH σ (q_is (some (if q_win w 0 5 then qm_ct σ N w.toNatClampNeg else -1)) q_SH σ) := by
  intro n
  induction n with
  | zero =>
    intro i a hm h0 ha
    exact absurd hm (by omega)
  | succ n ih =>
    intro i a hm h0 ha
    have hi := nI_toInt (n := i) (by omega)
    have hNt := nI_toInt (n := N) (by omega)
    refine q_iload_n dX8_count_4 rfl ?_
    refine q_aload_n dX8_count_5 rfl ?_
    refine q_getr fX8_7 dX8_count_6 (by first | rfl | assumption) (by rfl) ?_
    refine q_bipush (x := 53) dX8_count_9 (by decide) ?_
    refine q_ild 53 (by first | rfl | assumption) rfl (by decide) dX8_count_11 ?_
    rw [hN]
    refine q_cge 30 dX8_count_12 (by decide) (fun h12 => ?_) (fun h12 => ?_)
    · have e : i = N := by omega
      subst e
      exact sgX8_count ha
    · refine q_iload_n dX8_count_15 rfl ?_
      refine q_aload_n dX8_count_16 rfl ?_
      refine q_iload_n dX8_count_17 rfl ?_
      refine q_iconst (x := 4) dX8_count_18 (by decide) ?_
      refine q_cVi lX8_153 vX8_of (ci := 8) rfl dX8_count_19 (kX8_of (w := 4) (by omega) (by decide)) (by first | rfl | assumption) rfl rfl (Nat.le_of_ble_eq_true rfl) (by decide) ?_
      refine q_iadd dX8_count_22 ?_
      refine q_istore_n dX8_count_23 (by decide) rfl ?_
      refine q_inc 1 dX8_count_24 (by decide) rfl (by decide) rfl ?_
      refine q_goto 4 dX8_count_27 (by decide) ?_
      rw [nI_1]
      exact ih (i + 1) _ (by omega) (by omega) (by rw [q_sum, ha])

set_option maxHeartbeats 1000000 in
set_option maxRecDepth 100000 in
theorem kX8_count {σ : q_M} {N : Nat} (hN : σ 73 53 = nI N) (h6 : N ≤ 6) {w : Int32} : q_Ct YX8_count [.ref 72, .int w] q_SH σ (q_is (some (if q_win w 0 5 then qm_ct σ N w.toNatClampNeg else -1)) q_SH σ) := by
  refine q_ct (n := 2) (by decide) (by decide) rfl (fun _ => Nat.le_of_ble_eq_true rfl) (fun E => ?_)
  refine q_iconst (x := 0) dX8_count_0 (by decide) ?_
  refine q_istore_n dX8_count_1 (by decide) rfl ?_
  refine q_iconst (x := 0) dX8_count_2 (by decide) ?_
  refine q_istore_n dX8_count_3 (by decide) rfl ?_
  exact lpX8_count hN h6 (N + 1) 0 0 (by omega) (by omega) rfl

def qm_fd (σ : q_M) (v : Int64) (L : Nat) : Nat → q_M
  | 0 => σ
  | n + 1 => q_up (q_up (qm_fd σ v L n) 80 (L + n) ((v >>> ((nI (8 * (7 - n))).toInt64 &&& 63)) &&& 255).toInt32) 72 10 (nI (L + n + 1))
theorem qm_fd_10 {σ : q_M} {v : Int64} {L : Nat} (hL : σ 72 10 = nI L) : ∀ n, qm_fd σ v L n 72 10 = nI (L + n)
  | 0 => hL
  | n + 1 => q_up_at _ _ _ _

theorem q_a8 (n : Nat) : nI (n + 8) - 8 = nI n := by
  rw [← nI_add, show nI 8 = (8 : Int32) from rfl]
  exact Int32.add_sub_cancel _ _

set_option maxHeartbeats 1000000 in
set_option maxRecDepth 100000 in
theorem lpX8_feed {E : q_E} {σ : q_M} {v : Int64} {L : Nat} (hL : σ 72 10 = nI L) (h312 : L + 8 ≤ 320) : ∀ (n : Nat) (i : Nat), 8 + 1 ≤ i + n → i ≤ 8 → q_G YX8_feed E 0 0 19 [some (.ref 72), some (.long v), none, some (.int (nI (8 * (8 - i)) - 8))] [] q_SH (qm_fd σ v L i) (q_is (some (nI (L + 8))) q_SH (qm_fd σ v L 8)) := by
  intro n
  induction n with
  | zero =>
    intro i hm h0
    exact absurd hm (by omega)
  | succ n ih =>
    intro i hm h0
    have hs := pk_sub_toInt (a := 8 * (8 - i)) (b := 8) (by omega) (by omega)
    have hs : (nI (8 * (8 - i)) - 8).toInt = ((8 * (8 - i) : Nat) : Int) - 8 := hs
    refine q_iload_n dX8_feed_19 rfl ?_
    refine q_zlt 56 dX8_feed_20 (by decide) (fun h20 => ?_) (fun h20 => ?_)
    · have e : i = 8 := by omega
      subst e
      refine q_aload_n dX8_feed_56 rfl ?_
      refine q_get fX8_67 dX8_feed_57 (by first | rfl | assumption) (by rfl) ?_
      refine q_tope (y := nI (L + 8)) (qm_fd_10 hL 8) ?_
      refine q_ret dX8_feed_60 ?_ rfl rfl
      exact ⟨rfl, rfl, rfl⟩
    · have e8 : 8 * (8 - i) = 8 * (7 - i) + 8 := by omega
      have es : nI (8 * (8 - i)) - 8 = nI (8 * (7 - i)) := by rw [e8]; exact q_a8 _
      rw [es]
      refine q_aload_n dX8_feed_23 rfl ?_
      refine q_getr fX8_32 dX8_feed_24 (by first | rfl | assumption) (by rfl) ?_
      refine q_aload_n dX8_feed_27 rfl ?_
      refine q_get fX8_67 dX8_feed_28 (by first | rfl | assumption) (by rfl) ?_
      refine q_tope (y := nI (L + i)) (qm_fd_10 hL i) ?_
      refine q_lload_n dX8_feed_31 rfl ?_
      refine q_iload_n dX8_feed_32 rfl ?_
      refine q_lshr dX8_feed_33 ?_
      refine q_ldc2 kX8_70 dX8_feed_34 ?_
      refine q_land dX8_feed_37 ?_
      refine q_l2i dX8_feed_38 ?_
      refine q_isto (L + i) (by first | rfl | assumption) (nI_toInt (by omega)) (by omega) dX8_feed_39 ?_
      refine q_aload_n dX8_feed_40 rfl ?_
      refine q_dup rfl dX8_feed_41 ?_
      refine q_get fX8_67 dX8_feed_42 (by first | rfl | assumption) (by rfl) ?_
      refine q_tope (y := nI (L + i)) (by rw [q_up_g (by decide)]; exact qm_fd_10 hL i) ?_
      refine q_iconst (x := 1) dX8_feed_45 (by decide) ?_
      refine q_iadd dX8_feed_46 ?_
      refine q_tope (y := nI (L + i + 1)) (nI_1 _) ?_
      refine q_put_i pX8_67 dX8_feed_47 (by first | rfl | assumption) (by rfl) rfl rfl ?_
      refine q_inc (-8) dX8_feed_50 (by decide) rfl (by decide) rfl ?_
      refine q_goto 19 dX8_feed_53 (by decide) ?_
      rw [show nI (8 * (7 - i)) + (-8) = nI (8 * (8 - (i + 1))) - 8 by rw [show 8 * (8 - (i + 1)) = 8 * (7 - i) by omega]; exact (Int32.sub_eq_add_neg _ _).symm]
      exact ih (i + 1) (by omega) (by omega)

set_option maxHeartbeats 1000000 in
set_option maxRecDepth 100000 in
theorem kX8_feed {σ : q_M} {v : Int64} {L : Nat} (hL : σ 72 10 = nI L) (h320 : L ≤ 320) : q_Ct YX8_feed [.ref 72, .long v] q_SH σ (q_is (some (if 312 < L then -3 else nI (L + 8))) q_SH (if 312 < L then σ else qm_fd σ v L 8)) := by
  refine q_ct (n := 1) (by decide) (by decide) rfl (fun _ => Nat.le_of_ble_eq_true rfl) (fun E => ?_)
  have hLt := nI_toInt (n := L + 8) (by omega)
  have e3 : (320 : Int32).toInt = 320 := rfl
  refine q_aload_n dX8_feed_0 rfl ?_
  refine q_get fX8_67 dX8_feed_1 (by first | rfl | assumption) (by rfl) ?_
  refine q_bipush (x := 8) dX8_feed_4 (by decide) ?_
  rw [hL]
  refine q_iadd dX8_feed_6 ?_
  rw [show nI L + 8 = nI (L + 8) from nI_add L 8]
  refine q_sipush (x := 320) dX8_feed_7 (by decide) ?_
  refine q_cle 16 dX8_feed_10 (by decide) (fun h10 => ?_) (fun h10 => ?_)
  · rw [if_neg (by omega), if_neg (by omega)]
    refine q_bipush (x := 56) dX8_feed_16 (by decide) ?_
    refine q_istore_n dX8_feed_18 (by decide) rfl ?_
    exact lpX8_feed hL (by omega) 9 0 (by omega) (by omega)
  · rw [if_pos (by omega), if_pos (by omega)]
    refine q_bipush (x := (-3)) dX8_feed_13 (by decide) ?_
    refine q_ret dX8_feed_15 ?_ rfl rfl
    exact ⟨rfl, rfl, rfl⟩

def qm_r7 : Nat → Int32
  | 0 => 100
  | 1 => 1000
  | 2 => 293
  | 3 => 8
  | 4 => 201
  | _ => 0
def qm_fr (σ : q_M) : q_M := q_up (q_up (q_fill (q_fill (q_fill σ 77 qm_r7 7) 78 (fun _ => 0) 24) 79 (fun _ => 0) 48) 72 7 0) 72 8 0

set_option maxHeartbeats 1000000 in
set_option maxRecDepth 100000 in
theorem lpX8_fd2 {E : q_E} {σ : q_M}  : ∀ (n : Nat) (i : Nat), 48 + 1 ≤ i + n → i ≤ 48 → q_G YX8_firstDraft E 0 0 81 [some (.ref 72), some (.int (nI i))] [] q_SH (q_fill σ 79 (fun _ => 0) i) (q_is none q_SH (q_up (q_up (q_fill σ 79 (fun _ => 0) 48) 72 7 0) 72 8 0)) := by
  intro n
  induction n with
  | zero =>
    intro i hm h0
    exact absurd hm (by omega)
  | succ n ih =>
    intro i hm h0
    have hi := nI_toInt (n := i) (by omega)
    have e48 : (48 : Int32).toInt = 48 := rfl
    refine q_iload_n dX8_firstDraft_81 rfl ?_
    refine q_bipush (x := 48) dX8_firstDraft_82 (by decide) ?_
    refine q_cge 100 dX8_firstDraft_84 (by decide) (fun h84 => ?_) (fun h84 => ?_)
    · refine q_aload_n dX8_firstDraft_100 rfl ?_
      refine q_iconst (x := 0) dX8_firstDraft_101 (by decide) ?_
      refine q_put_i pX8_56 dX8_firstDraft_102 (by first | rfl | assumption) (by rfl) rfl rfl ?_
      refine q_aload_n dX8_firstDraft_105 rfl ?_
      refine q_iconst (x := 0) dX8_firstDraft_106 (by decide) ?_
      refine q_put_i pX8_60 dX8_firstDraft_107 (by first | rfl | assumption) (by rfl) rfl rfl ?_
      refine q_vret dX8_firstDraft_110 ?_ rfl rfl
      have e : i = 48 := by omega
      subst e
      exact ⟨rfl, rfl, rfl⟩
    · refine q_aload_n dX8_firstDraft_87 rfl ?_
      refine q_getr fX8_29 dX8_firstDraft_88 (by first | rfl | assumption) (by rfl) ?_
      refine q_iload_n dX8_firstDraft_91 rfl ?_
      refine q_iconst (x := 0) dX8_firstDraft_92 (by decide) ?_
      
      refine q_isto i (by first | rfl | assumption) hi (by omega) dX8_firstDraft_93 ?_
      refine q_inc 1 dX8_firstDraft_94 (by decide) rfl (by decide) rfl ?_
      refine q_goto 81 dX8_firstDraft_97 (by decide) ?_
      rw [nI_1, q_fill_s σ 79 (fun _ => 0)]
      exact ih (i + 1) (by omega) (by omega)

set_option maxHeartbeats 1000000 in
set_option maxRecDepth 100000 in
theorem lpX8_fd1 {E : q_E} {σ : q_M}  : ∀ (n : Nat) (i : Nat), 24 + 1 ≤ i + n → i ≤ 24 → q_G YX8_firstDraft E 0 0 60 [some (.ref 72), some (.int (nI i))] [] q_SH (q_fill σ 78 (fun _ => 0) i) (q_is none q_SH (q_up (q_up (q_fill (q_fill σ 78 (fun _ => 0) 24) 79 (fun _ => 0) 48) 72 7 0) 72 8 0)) := by
  intro n
  induction n with
  | zero =>
    intro i hm h0
    exact absurd hm (by omega)
  | succ n ih =>
    intro i hm h0
    have hi := nI_toInt (n := i) (by omega)
    have e24 : (24 : Int32).toInt = 24 := rfl
    refine q_iload_n dX8_firstDraft_60 rfl ?_
    refine q_bipush (x := 24) dX8_firstDraft_61 (by decide) ?_
    refine q_cge 79 dX8_firstDraft_63 (by decide) (fun h63 => ?_) (fun h63 => ?_)
    · refine q_iconst (x := 0) dX8_firstDraft_79 (by decide) ?_
      refine q_istore_n dX8_firstDraft_80 (by decide) rfl ?_
      have e : i = 24 := by omega
      subst e
      have z := lpX8_fd2 (E := E) (σ := q_fill σ 78 (fun _ => 0) 24) 49 0 (by omega) (by omega)
      rw [q_fill_0] at z
      exact z
    · refine q_aload_n dX8_firstDraft_66 rfl ?_
      refine q_getr fX8_26 dX8_firstDraft_67 (by first | rfl | assumption) (by rfl) ?_
      refine q_iload_n dX8_firstDraft_70 rfl ?_
      refine q_iconst (x := 0) dX8_firstDraft_71 (by decide) ?_
      refine q_isto i (by first | rfl | assumption) hi (by omega) dX8_firstDraft_72 ?_
      refine q_inc 1 dX8_firstDraft_73 (by decide) rfl (by decide) rfl ?_
      refine q_goto 60 dX8_firstDraft_76 (by decide) ?_
      rw [nI_1, q_fill_s σ 78 (fun _ => 0)]
      exact ih (i + 1) (by omega) (by omega)

set_option maxHeartbeats 1000000 in
set_option maxRecDepth 100000 in
theorem kX8_firstDraft {σ : q_M}  : q_Ct YX8_firstDraft [.ref 72] q_SH σ (q_is none q_SH (qm_fr σ)) := by
  refine q_ct (n := 1) (by decide) (by decide) rfl (fun _ => Nat.le_of_ble_eq_true rfl) (fun E => ?_)
  refine q_aload_n dX8_firstDraft_0 rfl ?_
  refine q_getr fX8_23 dX8_firstDraft_1 (by first | rfl | assumption) (by rfl) ?_
  refine q_iconst (x := 0) dX8_firstDraft_4 (by decide) ?_
  refine q_bipush (x := 100) dX8_firstDraft_5 (by decide) ?_
  refine q_isto 0 (by first | rfl | assumption) rfl (by decide) dX8_firstDraft_7 ?_
  refine q_aload_n dX8_firstDraft_8 rfl ?_
  refine q_getr fX8_23 dX8_firstDraft_9 (by first | rfl | assumption) (by rfl) ?_
  refine q_iconst (x := 1) dX8_firstDraft_12 (by decide) ?_
  refine q_sipush (x := 1000) dX8_firstDraft_13 (by decide) ?_
  refine q_isto 1 (by first | rfl | assumption) rfl (by decide) dX8_firstDraft_16 ?_
  refine q_aload_n dX8_firstDraft_17 rfl ?_
  refine q_getr fX8_23 dX8_firstDraft_18 (by first | rfl | assumption) (by rfl) ?_
  refine q_iconst (x := 2) dX8_firstDraft_21 (by decide) ?_
  refine q_sipush (x := 293) dX8_firstDraft_22 (by decide) ?_
  refine q_isto 2 (by first | rfl | assumption) rfl (by decide) dX8_firstDraft_25 ?_
  refine q_aload_n dX8_firstDraft_26 rfl ?_
  refine q_getr fX8_23 dX8_firstDraft_27 (by first | rfl | assumption) (by rfl) ?_
  refine q_iconst (x := 3) dX8_firstDraft_30 (by decide) ?_
  refine q_bipush (x := 8) dX8_firstDraft_31 (by decide) ?_
  refine q_isto 3 (by first | rfl | assumption) rfl (by decide) dX8_firstDraft_33 ?_
  refine q_aload_n dX8_firstDraft_34 rfl ?_
  refine q_getr fX8_23 dX8_firstDraft_35 (by first | rfl | assumption) (by rfl) ?_
  refine q_iconst (x := 4) dX8_firstDraft_38 (by decide) ?_
  refine q_sipush (x := 201) dX8_firstDraft_39 (by decide) ?_
  refine q_isto 4 (by first | rfl | assumption) rfl (by decide) dX8_firstDraft_42 ?_
  refine q_aload_n dX8_firstDraft_43 rfl ?_
  refine q_getr fX8_23 dX8_firstDraft_44 (by first | rfl | assumption) (by rfl) ?_
  refine q_iconst (x := 5) dX8_firstDraft_47 (by decide) ?_
  refine q_iconst (x := 0) dX8_firstDraft_48 (by decide) ?_
  refine q_isto 5 (by first | rfl | assumption) rfl (by decide) dX8_firstDraft_49 ?_
  refine q_aload_n dX8_firstDraft_50 rfl ?_
  refine q_getr fX8_23 dX8_firstDraft_51 (by first | rfl | assumption) (by rfl) ?_
  refine q_bipush (x := 6) dX8_firstDraft_54 (by decide) ?_
  refine q_iconst (x := 0) dX8_firstDraft_56 (by decide) ?_
  refine q_isto 6 (by first | rfl | assumption) rfl (by decide) dX8_firstDraft_57 ?_
  refine q_iconst (x := 0) dX8_firstDraft_58 (by decide) ?_
  refine q_istore_n dX8_firstDraft_59 (by decide) rfl ?_
  have z := lpX8_fd1 (E := E) (σ := q_fill σ 77 qm_r7 7) 25 0 (by omega) (by omega)
  rw [q_fill_0] at z
  have e : q_fill σ 77 qm_r7 7 = q_up (q_up (q_up (q_up (q_up (q_up (q_up σ 77 0 100) 77 1 1000) 77 2 293) 77 3 8) 77 4 201) 77 5 0) 77 6 0 := by
    rw [← q_fill_s, ← q_fill_s, ← q_fill_s, ← q_fill_s, ← q_fill_s, ← q_fill_s, ← q_fill_s, q_fill_0]
    rfl
  refine q_mem e.symm ?_
  exact z

/-- the state behind a draft that is kept -/
def qm_kd (σ : q_M) : q_M :=
  q_up (q_up (q_up (q_up (q_up (q_fill (q_fill (q_fill σ 75 (σ 77) 7) 76 (fun h => if σ 78 h = 0 then σ 77 2 else σ 78 h) 24) 73 (fun k => if k < 48 then σ 79 k else 0) 100) 73 49 (σ 77 2)) 73 51 (q_b (decide (0 < (σ 77 6).toInt)))) 73 53 (σ 72 7)) 74 0 0) 74 1 0

set_option maxHeartbeats 1000000 in
set_option maxRecDepth 100000 in
theorem lpX8_kd3 {E : q_E} {σ : q_M}  : ∀ (n : Nat) (i : Nat), 100 + 1 ≤ i + n → i ≤ 100 → q_G YX8_keepDraft E 0 0 72 [some (.ref 72), some (.int (nI i))] [] q_SH (q_fill (q_fill (q_fill σ 75 (σ 77) 7) 76 (fun h => if σ 78 h = 0 then σ 77 2 else σ 78 h) 24) 73 (fun k => if k < 48 then σ 79 k else 0) i) (q_is none q_SH (qm_kd σ)) := by
  intro n
  induction n with
  | zero =>
    intro i hm h0
    exact absurd hm (by omega)
  | succ n ih =>
    intro i hm h0
    have hi := nI_toInt (n := i) (by omega)
    have e100 : (100 : Int32).toInt = 100 := rfl
    have e48 : (48 : Int32).toInt = 48 := rfl
    refine q_iload_n dX8_keepDraft_72 rfl ?_
    refine q_bipush (x := 100) dX8_keepDraft_73 (by decide) ?_
    refine q_cge 106 dX8_keepDraft_75 (by decide) (fun h75 => ?_) (fun h75 => ?_)
    · have e : i = 100 := by omega
      subst e
      refine q_aload_n dX8_keepDraft_106 rfl ?_
      refine q_getr fX8_7 dX8_keepDraft_107 (by first | rfl | assumption) (by rfl) ?_
      refine q_bipush (x := 49) dX8_keepDraft_110 (by decide) ?_
      refine q_aload_n dX8_keepDraft_112 rfl ?_
      refine q_getr fX8_17 dX8_keepDraft_113 (by first | rfl | assumption) (by rfl) ?_
      refine q_iconst (x := 2) dX8_keepDraft_116 (by decide) ?_
      refine q_ild 2 (by first | rfl | assumption) rfl (by decide) dX8_keepDraft_117 ?_
      refine q_tope (y := σ 77 2) rfl ?_
      refine q_isto 49 (by first | rfl | assumption) rfl (by decide) dX8_keepDraft_118 ?_
      refine q_aload_n dX8_keepDraft_119 rfl ?_
      refine q_getr fX8_7 dX8_keepDraft_120 (by first | rfl | assumption) (by rfl) ?_
      refine q_bipush (x := 51) dX8_keepDraft_123 (by decide) ?_
      refine q_aload_n dX8_keepDraft_125 rfl ?_
      refine q_getr fX8_17 dX8_keepDraft_126 (by first | rfl | assumption) (by rfl) ?_
      refine q_bipush (x := 6) dX8_keepDraft_129 (by decide) ?_
      refine q_ild 6 (by first | rfl | assumption) rfl (by decide) dX8_keepDraft_131 ?_
      refine q_tope (y := σ 77 6) rfl ?_
      refine q_zle 139 dX8_keepDraft_132 (by decide) (fun h132 => ?_) (fun h132 => ?_)
      · have hr : q_b (q_t 0) = q_b (decide (0 < (σ 77 6).toInt)) := by rw [decide_eq_false (by omega)]; rfl
        refine q_iconst (x := 0) dX8_keepDraft_139 (by decide) ?_
        refine q_cSi lX8_63 sX8_flag dX8_keepDraft_140 kX8_flag rfl rfl (Nat.le_of_ble_eq_true rfl) (by decide) ?_
        refine q_tope hr ?_
        refine q_isto 51 (by first | rfl | assumption) rfl (by decide) dX8_keepDraft_143 ?_
        refine q_aload_n dX8_keepDraft_144 rfl ?_
        refine q_getr fX8_7 dX8_keepDraft_145 (by first | rfl | assumption) (by rfl) ?_
        refine q_bipush (x := 53) dX8_keepDraft_148 (by decide) ?_
        refine q_aload_n dX8_keepDraft_150 rfl ?_
        refine q_get fX8_56 dX8_keepDraft_151 (by first | rfl | assumption) (by rfl) ?_
        refine q_tope (y := σ 72 7) rfl ?_
        refine q_isto 53 (by first | rfl | assumption) rfl (by decide) dX8_keepDraft_154 ?_
        refine q_aload_n dX8_keepDraft_155 rfl ?_
        refine q_getr fX8_13 dX8_keepDraft_156 (by first | rfl | assumption) (by rfl) ?_
        refine q_iconst (x := 0) dX8_keepDraft_159 (by decide) ?_
        refine q_iconst (x := 0) dX8_keepDraft_160 (by decide) ?_
        refine q_zsto 0 (by first | rfl | assumption) rfl (by decide) dX8_keepDraft_161 ?_
        refine q_aload_n dX8_keepDraft_162 rfl ?_
        refine q_getr fX8_13 dX8_keepDraft_163 (by first | rfl | assumption) (by rfl) ?_
        refine q_iconst (x := 1) dX8_keepDraft_166 (by decide) ?_
        refine q_iconst (x := 0) dX8_keepDraft_167 (by decide) ?_
        refine q_zsto 1 (by first | rfl | assumption) rfl (by decide) dX8_keepDraft_168 ?_
        refine q_vret dX8_keepDraft_169 ?_ rfl rfl
        exact ⟨rfl, rfl, rfl⟩
      · have hr : q_b (q_t 1) = q_b (decide (0 < (σ 77 6).toInt)) := by rw [decide_eq_true h132]; rfl
        refine q_iconst (x := 1) dX8_keepDraft_135 (by decide) ?_
        refine q_goto 140 dX8_keepDraft_136 (by decide) ?_
        refine q_cSi lX8_63 sX8_flag dX8_keepDraft_140 kX8_flag rfl rfl (Nat.le_of_ble_eq_true rfl) (by decide) ?_
        refine q_tope hr ?_
        refine q_isto 51 (by first | rfl | assumption) rfl (by decide) dX8_keepDraft_143 ?_
        refine q_aload_n dX8_keepDraft_144 rfl ?_
        refine q_getr fX8_7 dX8_keepDraft_145 (by first | rfl | assumption) (by rfl) ?_
        refine q_bipush (x := 53) dX8_keepDraft_148 (by decide) ?_
        refine q_aload_n dX8_keepDraft_150 rfl ?_
        refine q_get fX8_56 dX8_keepDraft_151 (by first | rfl | assumption) (by rfl) ?_
        refine q_tope (y := σ 72 7) rfl ?_
        refine q_isto 53 (by first | rfl | assumption) rfl (by decide) dX8_keepDraft_154 ?_
        refine q_aload_n dX8_keepDraft_155 rfl ?_
        refine q_getr fX8_13 dX8_keepDraft_156 (by first | rfl | assumption) (by rfl) ?_
        refine q_iconst (x := 0) dX8_keepDraft_159 (by decide) ?_
        refine q_iconst (x := 0) dX8_keepDraft_160 (by decide) ?_
        refine q_zsto 0 (by first | rfl | assumption) rfl (by decide) dX8_keepDraft_161 ?_
        refine q_aload_n dX8_keepDraft_162 rfl ?_
        refine q_getr fX8_13 dX8_keepDraft_163 (by first | rfl | assumption) (by rfl) ?_
        refine q_iconst (x := 1) dX8_keepDraft_166 (by decide) ?_
        refine q_iconst (x := 0) dX8_keepDraft_167 (by decide) ?_
        refine q_zsto 1 (by first | rfl | assumption) rfl (by decide) dX8_keepDraft_168 ?_
        refine q_vret dX8_keepDraft_169 ?_ rfl rfl
        exact ⟨rfl, rfl, rfl⟩
    · refine q_aload_n dX8_keepDraft_78 rfl ?_
      refine q_getr fX8_7 dX8_keepDraft_79 (by first | rfl | assumption) (by rfl) ?_
      refine q_iload_n dX8_keepDraft_82 rfl ?_
      refine q_iload_n dX8_keepDraft_83 rfl ?_
      refine q_bipush (x := 48) dX8_keepDraft_84 (by decide) ?_
      refine q_cge 98 dX8_keepDraft_86 (by decide) (fun h86 => ?_) (fun h86 => ?_)
      · have hx : (if i < 48 then σ 79 i else 0) = 0 := if_neg (by omega)
        refine q_iconst (x := 0) dX8_keepDraft_98 (by decide) ?_
        refine q_tope hx.symm ?_
        refine q_isto i (by first | rfl | assumption) hi (by omega) dX8_keepDraft_99 ?_
        refine q_inc 1 dX8_keepDraft_100 (by decide) rfl (by decide) rfl ?_
        refine q_goto 72 dX8_keepDraft_103 (by decide) ?_
        rw [nI_1, q_fill_s _ 73 (fun k => if k < 48 then σ 79 k else 0)]
        exact ih (i + 1) (by omega) (by omega)
      · have hx : (if i < 48 then σ 79 i else 0) = σ 79 i := if_pos (by omega)
        refine q_aload_n dX8_keepDraft_89 rfl ?_
        refine q_getr fX8_29 dX8_keepDraft_90 (by first | rfl | assumption) (by rfl) ?_
        refine q_iload_n dX8_keepDraft_93 rfl ?_
        refine q_ild i (by first | rfl | assumption) hi (by omega) dX8_keepDraft_94 ?_
        refine q_tope (y := σ 79 i) rfl ?_
        refine q_goto 99 dX8_keepDraft_95 (by decide) ?_
        refine q_tope hx.symm ?_
        refine q_isto i (by first | rfl | assumption) hi (by omega) dX8_keepDraft_99 ?_
        refine q_inc 1 dX8_keepDraft_100 (by decide) rfl (by decide) rfl ?_
        refine q_goto 72 dX8_keepDraft_103 (by decide) ?_
        rw [nI_1, q_fill_s _ 73 (fun k => if k < 48 then σ 79 k else 0)]
        exact ih (i + 1) (by omega) (by omega)

set_option maxHeartbeats 1000000 in
set_option maxRecDepth 100000 in
theorem lpX8_kd2 {E : q_E} {σ : q_M}  : ∀ (n : Nat) (i : Nat), 24 + 1 ≤ i + n → i ≤ 24 → q_G YX8_keepDraft E 0 0 28 [some (.ref 72), some (.int (nI i))] [] q_SH (q_fill (q_fill σ 75 (σ 77) 7) 76 (fun h => if σ 78 h = 0 then σ 77 2 else σ 78 h) i) (q_is none q_SH (qm_kd σ)) := by
  intro n
  induction n with
  | zero =>
    intro i hm h0
    exact absurd hm (by omega)
  | succ n ih =>
    intro i hm h0
    have hi := nI_toInt (n := i) (by omega)
    have e24 : (24 : Int32).toInt = 24 := rfl
    refine q_iload_n dX8_keepDraft_28 rfl ?_
    refine q_bipush (x := 24) dX8_keepDraft_29 (by decide) ?_
    refine q_cge 70 dX8_keepDraft_31 (by decide) (fun h31 => ?_) (fun h31 => ?_)
    · refine q_iconst (x := 0) dX8_keepDraft_70 (by decide) ?_
      refine q_istore_n dX8_keepDraft_71 (by decide) rfl ?_
      have e : i = 24 := by omega
      subst e
      have z := lpX8_kd3 (E := E) (σ := σ) 101 0 (by omega) (by omega)
      rw [q_fill_0] at z
      exact z
    · refine q_aload_n dX8_keepDraft_34 rfl ?_
      refine q_getr fX8_20 dX8_keepDraft_35 (by first | rfl | assumption) (by rfl) ?_
      refine q_iload_n dX8_keepDraft_38 rfl ?_
      refine q_aload_n dX8_keepDraft_39 rfl ?_
      refine q_getr fX8_26 dX8_keepDraft_40 (by first | rfl | assumption) (by rfl) ?_
      refine q_iload_n dX8_keepDraft_43 rfl ?_
      refine q_ild i (by first | rfl | assumption) hi (by omega) dX8_keepDraft_44 ?_
      refine q_tope (y := σ 78 i) rfl ?_
      refine q_if_ne 57 dX8_keepDraft_45 (by decide) (fun h45 => ?_) (fun h45 => ?_)
      · have hx : (if σ 78 i = 0 then σ 77 2 else σ 78 i) = σ 78 i := if_neg h45
        refine q_aload_n dX8_keepDraft_57 rfl ?_
        refine q_getr fX8_26 dX8_keepDraft_58 (by first | rfl | assumption) (by rfl) ?_
        refine q_iload_n dX8_keepDraft_61 rfl ?_
        refine q_ild i (by first | rfl | assumption) hi (by omega) dX8_keepDraft_62 ?_
        refine q_tope (y := σ 78 i) rfl ?_
        refine q_tope hx.symm ?_
        refine q_isto i (by first | rfl | assumption) hi (by omega) dX8_keepDraft_63 ?_
        refine q_inc 1 dX8_keepDraft_64 (by decide) rfl (by decide) rfl ?_
        refine q_goto 28 dX8_keepDraft_67 (by decide) ?_
        rw [nI_1, q_fill_s _ 76 (fun h => if σ 78 h = 0 then σ 77 2 else σ 78 h)]
        exact ih (i + 1) (by omega) (by omega)
      · have hx : (if σ 78 i = 0 then σ 77 2 else σ 78 i) = σ 77 2 := if_pos h45
        refine q_aload_n dX8_keepDraft_48 rfl ?_
        refine q_getr fX8_23 dX8_keepDraft_49 (by first | rfl | assumption) (by rfl) ?_
        refine q_iconst (x := 2) dX8_keepDraft_52 (by decide) ?_
        refine q_ild 2 (by first | rfl | assumption) rfl (by decide) dX8_keepDraft_53 ?_
        refine q_tope (y := σ 77 2) rfl ?_
        refine q_goto 63 dX8_keepDraft_54 (by decide) ?_
        refine q_tope hx.symm ?_
        refine q_isto i (by first | rfl | assumption) hi (by omega) dX8_keepDraft_63 ?_
        refine q_inc 1 dX8_keepDraft_64 (by decide) rfl (by decide) rfl ?_
        refine q_goto 28 dX8_keepDraft_67 (by decide) ?_
        rw [nI_1, q_fill_s _ 76 (fun h => if σ 78 h = 0 then σ 77 2 else σ 78 h)]
        exact ih (i + 1) (by omega) (by omega)

set_option maxHeartbeats 1000000 in
set_option maxRecDepth 100000 in
theorem lpX8_kd1 {E : q_E} {σ : q_M}  : ∀ (n : Nat) (i : Nat), 7 + 1 ≤ i + n → i ≤ 7 → q_G YX8_keepDraft E 0 0 2 [some (.ref 72), some (.int (nI i))] [] q_SH (q_fill σ 75 (σ 77) i) (q_is none q_SH (qm_kd σ)) := by
  intro n
  induction n with
  | zero =>
    intro i hm h0
    exact absurd hm (by omega)
  | succ n ih =>
    intro i hm h0
    have hi := nI_toInt (n := i) (by omega)
    have e7 : (7 : Int32).toInt = 7 := rfl
    refine q_iload_n dX8_keepDraft_2 rfl ?_
    refine q_bipush (x := 7) dX8_keepDraft_3 (by decide) ?_
    refine q_cge 26 dX8_keepDraft_5 (by decide) (fun h5 => ?_) (fun h5 => ?_)
    · refine q_iconst (x := 0) dX8_keepDraft_26 (by decide) ?_
      refine q_istore_n dX8_keepDraft_27 (by decide) rfl ?_
      have e : i = 7 := by omega
      subst e
      have z := lpX8_kd2 (E := E) (σ := σ) 25 0 (by omega) (by omega)
      rw [q_fill_0] at z
      exact z
    · refine q_aload_n dX8_keepDraft_8 rfl ?_
      refine q_getr fX8_17 dX8_keepDraft_9 (by first | rfl | assumption) (by rfl) ?_
      refine q_iload_n dX8_keepDraft_12 rfl ?_
      refine q_aload_n dX8_keepDraft_13 rfl ?_
      refine q_getr fX8_23 dX8_keepDraft_14 (by first | rfl | assumption) (by rfl) ?_
      refine q_iload_n dX8_keepDraft_17 rfl ?_
      refine q_ild i (by first | rfl | assumption) hi (by omega) dX8_keepDraft_18 ?_
      refine q_tope (y := σ 77 i) rfl ?_
      refine q_isto i (by first | rfl | assumption) hi (by omega) dX8_keepDraft_19 ?_
      refine q_inc 1 dX8_keepDraft_20 (by decide) rfl (by decide) rfl ?_
      refine q_goto 2 dX8_keepDraft_23 (by decide) ?_
      rw [nI_1, q_fill_s σ 75 (σ 77)]
      exact ih (i + 1) (by omega) (by omega)

set_option maxHeartbeats 1000000 in
set_option maxRecDepth 100000 in
theorem kX8_keepDraft {σ : q_M}  : q_Ct YX8_keepDraft [.ref 72] q_SH σ (q_is none q_SH (qm_kd σ)) := by
  refine q_ct (n := 1) (by decide) (by decide) rfl (fun _ => Nat.le_of_ble_eq_true rfl) (fun E => ?_)
  refine q_iconst (x := 0) dX8_keepDraft_0 (by decide) ?_
  refine q_istore_n dX8_keepDraft_1 (by decide) rfl ?_
  have z := lpX8_kd1 (E := E) (σ := σ) 8 0 (by omega) (by omega)
  rw [q_fill_0] at z
  exact z
