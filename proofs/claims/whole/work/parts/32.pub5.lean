/-! images, sheets, counts -/
theorem q_SH_sc : q_isSc q_SH 17 := ⟨rfl, rfl, ⟨rfl, rfl, rfl, rfl⟩, fun k hk => by
  rcases (show k = 0 ∨ k = 1 ∨ k = 2 ∨ k = 3 ∨ k = 4 ∨ k = 5 by omega) with rfl | rfl | rfl | rfl | rfl | rfl <;> rfl⟩
theorem q_SH_im {j : Nat} (h : j < 2) : q_isSc q_SH (31 + 12 * j) := by
  rcases (show j = 0 ∨ j = 1 by omega) with rfl | rfl
  · exact ⟨rfl, rfl, ⟨rfl, rfl, rfl, rfl⟩, fun k hk => by
      rcases (show k = 0 ∨ k = 1 ∨ k = 2 ∨ k = 3 ∨ k = 4 ∨ k = 5 by omega) with rfl | rfl | rfl | rfl | rfl | rfl <;> rfl⟩
  · exact ⟨rfl, rfl, ⟨rfl, rfl, rfl, rfl⟩, fun k hk => by
      rcases (show k = 0 ∨ k = 1 ∨ k = 2 ∨ k = 3 ∨ k = 4 ∨ k = 5 by omega) with rfl | rfl | rfl | rfl | rfl | rfl <;> rfl⟩
theorem q_SH_st {j : Nat} (h : j < 4) : q_SH[56 + 2 * j]? = some (.inr (5, [some (some (57 + 2 * j)), none, none])) ∧ q_SH[57 + 2 * j]? = some (.inl (0, 40, none)) := by
  rcases (show j = 0 ∨ j = 1 ∨ j = 2 ∨ j = 3 by omega) with rfl | rfl | rfl | rfl <;> exact ⟨rfl, rfl⟩
theorem q_ri_at {j : Nat} (h : j < 2) : q_ri j = some (31 + 12 * j) := if_pos h
theorem q_rs_at {j : Nat} (h : j < 4) : q_rs j = some (56 + 2 * j) := if_pos h
/-- the scene x is that of y, which has N divers and n seen -/
def q_ci (σ : q_M) (x y N n : Nat) : q_M := q_up (q_up (q_up (q_up (q_up (q_cs (q_cd (q_up σ x 2 (nI N)) (x + 6) (y + 6) N) (x + 2) (y + 2) n) x 3 (σ y 3)) x 4 (σ y 4)) x 5 (σ y 5)) x 6 (σ y 6)) x 7 (σ y 7)
/-- what a scene must be to be copied -/
def q_scn (σ : q_M) (y N n : Nat) : Prop := σ y 2 = nI N ∧ N ≤ 6 ∧ (∀ k, k < N → σ (y + 6 + k) 7 = 0 ∨ σ (y + 6 + k) 7 = 1) ∧ σ (y + 2) 3 = nI n ∧ n ≤ 12 ∧ (∀ i, i < n → σ (y + 2 + 3) i = 0 ∨ σ (y + 2 + 3) i = 1) ∧ (σ y 7 = 0 ∨ σ y 7 = 1)
theorem q_cpk {σ : q_M} {x y N n : Nat} (hx : q_isSc q_SH x) (hy : q_isSc q_SH y) (hxy : x + 12 ≤ y ∨ y + 12 ≤ x) (h : q_scn σ y N n) : q_Ct YX3_copyFrom [.ref x, .ref y] q_SH σ (q_is none q_SH (q_ci σ x y N n)) := kX3_copyFrom hx hy hxy h.1 h.2.1 h.2.2.1 h.2.2.2.1 h.2.2.2.2.1 h.2.2.2.2.2.1 h.2.2.2.2.2.2

set_option maxHeartbeats 1000000 in
set_option maxRecDepth 100000 in
theorem kX7_keepB {σ : q_M} {i : Int32} (hbad : q_win i 0 1 = false) : q_Ct YX7_keep [.ref 0, .int i] q_SH σ (q_is (some (-1)) q_SH σ) := by
  refine q_ct (n := 1) (by decide) (by decide) rfl (fun _ => Nat.le_of_ble_eq_true rfl) (fun E => ?_)
  refine q_iload_n dX7_keep_0 rfl ?_
  refine q_iconst (x := 0) dX7_keep_1 (by decide) ?_
  refine q_iconst (x := 1) dX7_keep_2 (by decide) ?_
  refine q_cSi lX7_77 sX7_within dX7_keep_3 kX7_within rfl rfl (Nat.le_of_ble_eq_true rfl) (by decide) ?_
  refine q_bne 11 dX7_keep_6 (by decide) (fun h6 => ?_) (fun h6 => ?_)
  · exact absurd h6 (by rw [hbad]; decide)
  · refine q_iconst (x := (-1)) dX7_keep_9 (by decide) ?_
    refine q_ret dX7_keep_10 ?_ rfl rfl
    exact ⟨rfl, rfl, rfl⟩

set_option maxHeartbeats 1000000 in
set_option maxRecDepth 100000 in
theorem kX7_keep {σ : q_M} {j N n : Nat} (h2 : j < 2) (hs : q_scn σ 17 N n) : q_Ct YX7_keep [.ref 0, .int (nI j)] q_SH σ (q_is (some (q_b (q_t (σ 30 j)))) q_SH (q_up (q_ci σ (31 + 12 * j) 17 N n) 30 j 1)) := by
  refine q_ct (n := 1) (by decide) (by decide) rfl (fun _ => Nat.le_of_ble_eq_true rfl) (fun E => ?_)
  have hj := nI_toInt (n := j) (by omega)
  refine q_iload_n dX7_keep_0 rfl ?_
  refine q_iconst (x := 0) dX7_keep_1 (by decide) ?_
  refine q_iconst (x := 1) dX7_keep_2 (by decide) ?_
  refine q_cSi lX7_77 sX7_within dX7_keep_3 kX7_within rfl rfl (Nat.le_of_ble_eq_true rfl) (by decide) ?_
  refine q_bne 11 dX7_keep_6 (by decide) (fun h6 => ?_) (fun h6 => ?_)
  · refine q_aload_n dX7_keep_11 rfl ?_
    refine q_getr fX7_34 dX7_keep_12 (by first | rfl | assumption) (by rfl) ?_
    refine q_iload_n dX7_keep_15 rfl ?_
    refine q_zld j (by first | rfl | assumption) hj h2 dX7_keep_16 ?_
    refine q_cSi lX7_140 sX7_bit dX7_keep_17 kX7_bit rfl rfl (Nat.le_of_ble_eq_true rfl) (by decide) ?_
    refine q_istore_n dX7_keep_20 (by decide) rfl ?_
    refine q_aload_n dX7_keep_21 rfl ?_
    refine q_getr fX7_30 dX7_keep_22 (by first | rfl | assumption) (by rfl) ?_
    refine q_iload_n dX7_keep_25 rfl ?_
    refine q_ald j (by first | rfl | assumption) hj h2 (q_ri_at h2) ⟨by decide, by decide⟩ dX7_keep_26 ?_
    refine q_aload_n dX7_keep_27 rfl ?_
    refine q_getr fX7_26 dX7_keep_28 (by first | rfl | assumption) (by rfl) ?_
    refine q_cVv lX7_312 vX3_copyFrom (ci := 3) rfl dX7_keep_31 (q_cpk (q_SH_im h2) q_SH_sc (by omega) hs) (q_SH_im h2).1 rfl rfl (Nat.le_of_ble_eq_true rfl) (by decide) ?_
    refine q_aload_n dX7_keep_34 rfl ?_
    refine q_getr fX7_34 dX7_keep_35 (by first | rfl | assumption) (by rfl) ?_
    refine q_iload_n dX7_keep_38 rfl ?_
    refine q_iconst (x := 1) dX7_keep_39 (by decide) ?_
    refine q_zsto j (by first | rfl | assumption) hj h2 dX7_keep_40 ?_
    refine q_iload_n dX7_keep_41 rfl ?_
    refine q_ret dX7_keep_42 ?_ rfl rfl
    exact ⟨rfl, rfl, rfl⟩
  · exact absurd h6 (by rw [show q_win (nI j) 0 1 = true from decide_eq_true (by have e2 : (0 : Int32).toInt = 0 := rfl; have e6 : (1 : Int32).toInt = 1 := rfl; omega)]; decide)

set_option maxHeartbeats 1000000 in
set_option maxRecDepth 100000 in
theorem kX7_restoreB {σ : q_M} {i : Int32} (hbad : q_win i 0 1 = false) : q_Ct YX7_restore [.ref 0, .int i] q_SH σ (q_is (some (-1)) q_SH σ) := by
  refine q_ct (n := 0) (by decide) (by decide) rfl (fun _ => Nat.le_of_ble_eq_true rfl) (fun E => ?_)
  refine q_iload_n dX7_restore_0 rfl ?_
  refine q_iconst (x := 0) dX7_restore_1 (by decide) ?_
  refine q_iconst (x := 1) dX7_restore_2 (by decide) ?_
  refine q_cSi lX7_77 sX7_within dX7_restore_3 kX7_within rfl rfl (Nat.le_of_ble_eq_true rfl) (by decide) ?_
  refine q_bne 11 dX7_restore_6 (by decide) (fun h6 => ?_) (fun h6 => ?_)
  · exact absurd h6 (by rw [hbad]; decide)
  · refine q_iconst (x := (-1)) dX7_restore_9 (by decide) ?_
    refine q_ret dX7_restore_10 ?_ rfl rfl
    exact ⟨rfl, rfl, rfl⟩

set_option maxHeartbeats 1000000 in
set_option maxRecDepth 100000 in
theorem kX7_restoreS {σ : q_M} {j : Nat} (h2 : j < 2) (hk : σ 30 j = 0) : q_Ct YX7_restore [.ref 0, .int (nI j)] q_SH σ (q_is (some (-2)) q_SH σ) := by
  refine q_ct (n := 0) (by decide) (by decide) rfl (fun _ => Nat.le_of_ble_eq_true rfl) (fun E => ?_)
  have hj := nI_toInt (n := j) (by omega)
  refine q_iload_n dX7_restore_0 rfl ?_
  refine q_iconst (x := 0) dX7_restore_1 (by decide) ?_
  refine q_iconst (x := 1) dX7_restore_2 (by decide) ?_
  refine q_cSi lX7_77 sX7_within dX7_restore_3 kX7_within rfl rfl (Nat.le_of_ble_eq_true rfl) (by decide) ?_
  refine q_bne 11 dX7_restore_6 (by decide) (fun h6 => ?_) (fun h6 => ?_)
  · refine q_aload_n dX7_restore_11 rfl ?_
    refine q_getr fX7_34 dX7_restore_12 (by first | rfl | assumption) (by rfl) ?_
    refine q_iload_n dX7_restore_15 rfl ?_
    refine q_zld j (by first | rfl | assumption) hj h2 dX7_restore_16 ?_
    refine q_if_ne 23 dX7_restore_17 (by decide) (fun h17 => ?_) (fun h17 => ?_)
    · exact absurd hk h17
    · refine q_bipush (x := (-2)) dX7_restore_20 (by decide) ?_
      refine q_ret dX7_restore_22 ?_ rfl rfl
      exact ⟨rfl, rfl, rfl⟩
  · exact absurd h6 (by rw [show q_win (nI j) 0 1 = true from decide_eq_true (by have e2 : (0 : Int32).toInt = 0 := rfl; have e6 : (1 : Int32).toInt = 1 := rfl; omega)]; decide)

set_option maxHeartbeats 1000000 in
set_option maxRecDepth 100000 in
theorem kX7_restore {σ : q_M} {j N n : Nat} (h2 : j < 2) (hk : ¬ σ 30 j = 0) (hs : q_scn σ (31 + 12 * j) N n) : q_Ct YX7_restore [.ref 0, .int (nI j)] q_SH σ (q_is (some (σ (31 + 12 * j) 5)) q_SH (q_ci σ 17 (31 + 12 * j) N n)) := by
  refine q_ct (n := 0) (by decide) (by decide) rfl (fun _ => Nat.le_of_ble_eq_true rfl) (fun E => ?_)
  have hj := nI_toInt (n := j) (by omega)
  refine q_iload_n dX7_restore_0 rfl ?_
  refine q_iconst (x := 0) dX7_restore_1 (by decide) ?_
  refine q_iconst (x := 1) dX7_restore_2 (by decide) ?_
  refine q_cSi lX7_77 sX7_within dX7_restore_3 kX7_within rfl rfl (Nat.le_of_ble_eq_true rfl) (by decide) ?_
  refine q_bne 11 dX7_restore_6 (by decide) (fun h6 => ?_) (fun h6 => ?_)
  · refine q_aload_n dX7_restore_11 rfl ?_
    refine q_getr fX7_34 dX7_restore_12 (by first | rfl | assumption) (by rfl) ?_
    refine q_iload_n dX7_restore_15 rfl ?_
    refine q_zld j (by first | rfl | assumption) hj h2 dX7_restore_16 ?_
    refine q_if_ne 23 dX7_restore_17 (by decide) (fun h17 => ?_) (fun h17 => ?_)
    · refine q_aload_n dX7_restore_23 rfl ?_
      refine q_getr fX7_26 dX7_restore_24 (by first | rfl | assumption) (by rfl) ?_
      refine q_aload_n dX7_restore_27 rfl ?_
      refine q_getr fX7_30 dX7_restore_28 (by first | rfl | assumption) (by rfl) ?_
      refine q_iload_n dX7_restore_31 rfl ?_
      refine q_ald j (by first | rfl | assumption) hj h2 (q_ri_at h2) ⟨by decide, by decide⟩ dX7_restore_32 ?_
      refine q_cVv lX7_312 vX3_copyFrom (ci := 3) rfl dX7_restore_33 (q_cpk q_SH_sc (q_SH_im h2) (by omega) hs) q_SH_sc.1 rfl rfl (Nat.le_of_ble_eq_true rfl) (by decide) ?_
      refine q_aload_n dX7_restore_36 rfl ?_
      refine q_getr fX7_26 dX7_restore_37 (by first | rfl | assumption) (by rfl) ?_
      refine q_get fX7_178 dX7_restore_40 (by first | rfl | assumption) (by rfl) ?_
      rw [show q_ci σ 17 (31 + 12 * j) N n 17 5 = σ (31 + 12 * j) 5 by rw [q_ci, q_up_f (by decide), q_up_f (by decide), q_up_at]]
      refine q_ret dX7_restore_43 ?_ rfl rfl
      exact ⟨rfl, rfl, rfl⟩
    · exact absurd h17 hk
  · exact absurd h6 (by rw [show q_win (nI j) 0 1 = true from decide_eq_true (by have e2 : (0 : Int32).toInt = 0 := rfl; have e6 : (1 : Int32).toInt = 1 := rfl; omega)]; decide)

set_option maxHeartbeats 1000000 in
set_option maxRecDepth 100000 in
theorem kX7_sheetB {σ : q_M} {k l n : Int32} (hbad : (q_win k 0 3 && q_win l 0 2 && decide (n.toInt ≤ 40)) = false) : q_Ct YX7_sheet [.ref 0, .int k, .int l, .int n] q_SH σ (q_is (some (-1)) q_SH σ) := by
  refine q_ct (n := 0) (by decide) (by decide) rfl (fun _ => Nat.le_of_ble_eq_true rfl) (fun E => ?_)
  refine q_iload_n dX7_sheet_0 rfl ?_
  refine q_cSi lX7_315 sX7_isSheet dX7_sheet_1 kX7_isSheet rfl rfl (Nat.le_of_ble_eq_true rfl) (by decide) ?_
  refine q_beq 20 dX7_sheet_4 (by decide) (fun h4 => ?_) (fun h4 => ?_)
  · refine q_iconst (x := (-1)) dX7_sheet_20 (by decide) ?_
    refine q_ret dX7_sheet_21 ?_ rfl rfl
    exact ⟨rfl, rfl, rfl⟩
  · refine q_iload_n dX7_sheet_7 rfl ?_
    refine q_cSi lX7_318 sX7_isLane dX7_sheet_8 kX7_isLane rfl rfl (Nat.le_of_ble_eq_true rfl) (by decide) ?_
    refine q_beq 20 dX7_sheet_11 (by decide) (fun h11 => ?_) (fun h11 => ?_)
    · refine q_iconst (x := (-1)) dX7_sheet_20 (by decide) ?_
      refine q_ret dX7_sheet_21 ?_ rfl rfl
      exact ⟨rfl, rfl, rfl⟩
    · refine q_iload_n dX7_sheet_14 rfl ?_
      refine q_bipush (x := 40) dX7_sheet_15 (by decide) ?_
      refine q_cle 22 dX7_sheet_17 (by decide) (fun h17 => ?_) (fun h17 => ?_)
      · exact absurd hbad (by have e4 : (40 : Int32).toInt = 40 := rfl; simp [*]; omega)
      · refine q_iconst (x := (-1)) dX7_sheet_20 (by decide) ?_
        refine q_ret dX7_sheet_21 ?_ rfl rfl
        exact ⟨rfl, rfl, rfl⟩

set_option maxHeartbeats 1000000 in
set_option maxRecDepth 100000 in
theorem kX7_sheet {σ : q_M} {j : Nat} (h4 : j < 4) {l n : Int32} (hl : q_win l 0 2 = true) (hn : n.toInt ≤ 40) : q_Ct YX7_sheet [.ref 0, .int (nI j), .int l, .int n] q_SH σ (q_is (some (if n.toInt < 0 then -14 else 1)) q_SH (if n.toInt < 0 then σ else q_fill (q_up (q_up σ (56 + 2 * j) 1 l) (56 + 2 * j) 2 (q_min n 40)) (57 + 2 * j) (fun _ => 0) 40)) := by
  refine q_ct (n := 0) (by decide) (by decide) rfl (fun _ => Nat.le_of_ble_eq_true rfl) (fun E => ?_)
  have hj := nI_toInt (n := j) (by omega)
  have h4x := h4
  refine q_iload_n dX7_sheet_0 rfl ?_
  refine q_cSi lX7_315 sX7_isSheet dX7_sheet_1 kX7_isSheet rfl rfl (Nat.le_of_ble_eq_true rfl) (by decide) ?_
  refine q_beq 20 dX7_sheet_4 (by decide) (fun h4x => ?_) (fun h4x => ?_)
  · exact absurd h4x (by rw [show q_win (nI j) 0 3 = true from decide_eq_true (by have e2 : (0 : Int32).toInt = 0 := rfl; have e6 : (3 : Int32).toInt = 3 := rfl; omega)]; decide)
  · refine q_iload_n dX7_sheet_7 rfl ?_
    refine q_cSi lX7_318 sX7_isLane dX7_sheet_8 kX7_isLane rfl rfl (Nat.le_of_ble_eq_true rfl) (by decide) ?_
    refine q_beq 20 dX7_sheet_11 (by decide) (fun h11 => ?_) (fun h11 => ?_)
    · exact absurd hl (by rw [h11]; decide)
    · refine q_iload_n dX7_sheet_14 rfl ?_
      refine q_bipush (x := 40) dX7_sheet_15 (by decide) ?_
      refine q_cle 22 dX7_sheet_17 (by decide) (fun h17 => ?_) (fun h17 => ?_)
      · refine q_iload_n dX7_sheet_22 rfl ?_
        refine q_zge 29 dX7_sheet_23 (by decide) (fun h23 => ?_) (fun h23 => ?_)
        · have hn0 : ¬ n.toInt < 0 := by omega
          refine q_aload_n dX7_sheet_29 rfl ?_
          refine q_getr fX7_40 dX7_sheet_30 (by first | rfl | assumption) (by rfl) ?_
          refine q_iload_n dX7_sheet_33 rfl ?_
          refine q_ald j (by first | rfl | assumption) hj h4 (q_rs_at h4) ⟨by decide, by decide⟩ dX7_sheet_34 ?_
          refine q_iload_n dX7_sheet_35 rfl ?_
          refine q_iload_n dX7_sheet_36 rfl ?_
          refine q_cVv lX7_321 vX5_renew (ci := 5) rfl dX7_sheet_37 (kX5_renew (q_SH_st h4).1 (q_SH_st h4).2) (q_SH_st h4).1 rfl rfl (Nat.le_of_ble_eq_true rfl) (by decide) ?_
          refine q_iconst (x := 1) dX7_sheet_40 (by decide) ?_
          refine q_ret dX7_sheet_41 ?_ rfl rfl
          exact ⟨congrArg some (by simp [*]), rfl, by simp [*]⟩
        · refine q_bipush (x := (-14)) dX7_sheet_26 (by decide) ?_
          refine q_ret dX7_sheet_28 ?_ rfl rfl
          exact ⟨congrArg some (by simp [*]), rfl, by simp [*]⟩
      · exact absurd h17 (by have e4 : (40 : Int32).toInt = 40 := rfl; omega)

set_option maxHeartbeats 1000000 in
set_option maxRecDepth 100000 in
theorem kX7_layB {σ : q_M} {k i x : Int32} (hbad : q_win k 0 3 = false) : q_Ct YX7_lay [.ref 0, .int k, .int i, .int x] q_SH σ (q_is (some (-1)) q_SH σ) := by
  refine q_ct (n := 1) (by decide) (by decide) rfl (fun _ => Nat.le_of_ble_eq_true rfl) (fun E => ?_)
  refine q_iload_n dX7_lay_0 rfl ?_
  refine q_cSi lX7_315 sX7_isSheet dX7_lay_1 kX7_isSheet rfl rfl (Nat.le_of_ble_eq_true rfl) (by decide) ?_
  refine q_bne 9 dX7_lay_4 (by decide) (fun h4 => ?_) (fun h4 => ?_)
  · exact absurd h4 (by rw [hbad]; decide)
  · refine q_iconst (x := (-1)) dX7_lay_7 (by decide) ?_
    refine q_ret dX7_lay_8 ?_ rfl rfl
    exact ⟨rfl, rfl, rfl⟩

set_option maxHeartbeats 1000000 in
set_option maxRecDepth 100000 in
theorem kX7_lay {σ : q_M} {j m : Nat} (h4 : j < 4) {i x : Int32} (hm : σ (56 + 2 * j) 2 = nI m) (h40 : m ≤ 40) : q_Ct YX7_lay [.ref 0, .int (nI j), .int i, .int x] q_SH σ (q_is (some (if q_fa (σ (56 + 2 * j) 1) (σ (56 + 2 * j) 2) i = 0 then 1 else -10 - q_fa (σ (56 + 2 * j) 1) (σ (56 + 2 * j) 2) i)) q_SH (if q_fa (σ (56 + 2 * j) 1) (σ (56 + 2 * j) 2) i = 0 then q_up σ (57 + 2 * j) i.toNatClampNeg (q_cut (σ (56 + 2 * j) 1) x) else σ)) := by
  refine q_ct (n := 1) (by decide) (by decide) rfl (fun _ => Nat.le_of_ble_eq_true rfl) (fun E => ?_)
  have hj := nI_toInt (n := j) (by omega)
  refine q_iload_n dX7_lay_0 rfl ?_
  refine q_cSi lX7_315 sX7_isSheet dX7_lay_1 kX7_isSheet rfl rfl (Nat.le_of_ble_eq_true rfl) (by decide) ?_
  refine q_bne 9 dX7_lay_4 (by decide) (fun h4x => ?_) (fun h4x => ?_)
  · refine q_aload_n dX7_lay_9 rfl ?_
    refine q_getr fX7_40 dX7_lay_10 (by first | rfl | assumption) (by rfl) ?_
    refine q_iload_n dX7_lay_13 rfl ?_
    refine q_ald j (by first | rfl | assumption) hj h4 (q_rs_at h4) ⟨by decide, by decide⟩ dX7_lay_14 ?_
    refine q_iload_n dX7_lay_15 rfl ?_
    refine q_cVi lX7_325 vX5_faultAt (ci := 5) rfl dX7_lay_16 (kX5_faultAt (q_SH_st h4).1 (q_SH_st h4).2) (q_SH_st h4).1 rfl rfl (Nat.le_of_ble_eq_true rfl) (by decide) ?_
    refine q_istore dX7_lay_19 (by decide) rfl ?_
    refine q_iload dX7_lay_21 rfl ?_
    refine q_if_eq 32 dX7_lay_23 (by decide) (fun h23 => ?_) (fun h23 => ?_)
    · refine q_aload_n dX7_lay_32 rfl ?_
      refine q_getr fX7_40 dX7_lay_33 (by first | rfl | assumption) (by rfl) ?_
      refine q_iload_n dX7_lay_36 rfl ?_
      refine q_ald j (by first | rfl | assumption) hj h4 (q_rs_at h4) ⟨by decide, by decide⟩ dX7_lay_37 ?_
      refine q_iload_n dX7_lay_38 rfl ?_
      refine q_iload_n dX7_lay_39 rfl ?_
      have hq : 0 ≤ i.toInt ∧ i.toInt < 40 := by
        have hf := h23
        unfold q_fa at hf
        split at hf
        · exact absurd hf (by decide)
        · split at hf
          · rename_i hw
            have hw := q_win_t hw
            have e0 : (0 : Int32).toInt = 0 := rfl
            have e1 : (σ (56 + 2 * j) 2 - 1).toInt = (m : Int) - 1 := by rw [hm]; exact pk_sub_toInt (a := m) (b := 1) (by omega) (by omega)
            omega
          · exact absurd hf (by decide)
      have hi := q_clamp hq.1
      refine q_cVv lX7_328 vX5_put (ci := 5) rfl dX7_lay_40 (kX5_put (q_SH_st h4).1 (q_SH_st h4).2 hi (by omega) h23) (q_SH_st h4).1 rfl rfl (Nat.le_of_ble_eq_true rfl) (by decide) ?_
      refine q_iconst (x := 1) dX7_lay_43 (by decide) ?_
      refine q_ret dX7_lay_44 ?_ rfl rfl
      clear hm
      exact ⟨congrArg some (by simp [*]), rfl, by simp [*]⟩
    · refine q_bipush (x := (-10)) dX7_lay_26 (by decide) ?_
      refine q_iload dX7_lay_28 rfl ?_
      refine q_isub dX7_lay_30 ?_
      refine q_ret dX7_lay_31 ?_ rfl rfl
      clear hm
      exact ⟨congrArg some (by simp [*]), rfl, by simp [*]⟩
  · exact absurd h4x (by rw [show q_win (nI j) 0 3 = true from decide_eq_true (by have e2 : (0 : Int32).toInt = 0 := rfl; have e6 : (3 : Int32).toInt = 3 := rfl; omega)]; decide)

def q_cf0 (σ : q_M) (N : Nat) : Nat → Int32
  | 0 => σ 17 2
  | 1 => q_sum (fun k => q_b (q_t (σ (23 + k) 7))) N
  | 2 => σ 19 3
  | 3 => q_b (q_t (σ 30 0)) + q_b (q_t (σ 30 1))
  | 4 => σ 1 4
  | 5 => if σ 56 1 = -4 then -4 else σ 56 2
  | _ => -1

set_option maxHeartbeats 1000000 in
set_option maxRecDepth 100000 in
theorem kX7_count {σ : q_M} {N : Nat} (hN : σ 17 2 = nI N) (h6 : N ≤ 6) {w : Int32} : q_Ct YX7_count [.ref 0, .int w] q_SH σ (q_is (some (if q_win w 0 5 then q_cf0 σ N w.toNatClampNeg else -1)) q_SH σ) := by
  refine q_ct (n := 0) (by decide) (by decide) rfl (fun _ => Nat.le_of_ble_eq_true rfl) (fun E => ?_)
  refine q_iload_n dX7_count_0 rfl ?_
  rcases q_sw 6 w with hsw | ⟨jsw, hsw, hjsw⟩
  · refine q_tabOut 121 dX7_count_1 (by omega) (by decide) ?_
    refine q_iconst (x := (-1)) dX7_count_121 (by decide) ?_
    refine q_ret dX7_count_122 ?_ rfl rfl
    have hf : q_win w 0 5 = false := decide_eq_false (by have e0 : (0 : Int32).toInt = 0 := rfl; have e9 : (5 : Int32).toInt = 5 := rfl; omega)
    clear hN
    exact ⟨congrArg some (by simp [*]), rfl, rfl⟩
  · rcases (show jsw = 0 ∨ jsw = 1 ∨ jsw = 2 ∨ jsw = 3 ∨ jsw = 4 ∨ jsw = 5 by omega) with rfl | rfl | rfl | rfl | rfl | rfl
    · subst hjsw
      refine q_tabIn 40 dX7_count_1 (by decide) (by decide) rfl (by decide) ?_
      refine q_aload_n dX7_count_40 rfl ?_
      refine q_getr fX7_26 dX7_count_41 (by first | rfl | assumption) (by rfl) ?_
      refine q_get fX7_173 dX7_count_44 (by first | rfl | assumption) (by rfl) ?_
      refine q_ret dX7_count_47 ?_ rfl rfl
      exact ⟨rfl, rfl, rfl⟩
    · subst hjsw
      refine q_tabIn 48 dX7_count_1 (by decide) (by decide) rfl (by decide) ?_
      refine q_aload_n dX7_count_48 rfl ?_
      refine q_cVi lX7_340 vX7_hooks (ci := 7) rfl dX7_count_49 (kX7_hooks hN h6) (by first | rfl | assumption) rfl rfl (Nat.le_of_ble_eq_true rfl) (by decide) ?_
      refine q_ret dX7_count_52 ?_ rfl rfl
      exact ⟨rfl, rfl, rfl⟩
    · subst hjsw
      refine q_tabIn 53 dX7_count_1 (by decide) (by decide) rfl (by decide) ?_
      refine q_aload_n dX7_count_53 rfl ?_
      refine q_getr fX7_26 dX7_count_54 (by first | rfl | assumption) (by rfl) ?_
      refine q_getr fX7_289 dX7_count_57 (by first | rfl | assumption) (by rfl) ?_
      refine q_get fX7_296 dX7_count_60 (by first | rfl | assumption) (by rfl) ?_
      refine q_ret dX7_count_63 ?_ rfl rfl
      exact ⟨rfl, rfl, rfl⟩
    · subst hjsw
      refine q_tabIn 64 dX7_count_1 (by decide) (by decide) rfl (by decide) ?_
      refine q_aload_n dX7_count_64 rfl ?_
      refine q_getr fX7_34 dX7_count_65 (by first | rfl | assumption) (by rfl) ?_
      refine q_iconst (x := 0) dX7_count_68 (by decide) ?_
      refine q_zld 0 (by first | rfl | assumption) rfl (by decide) dX7_count_69 ?_
      refine q_cSi lX7_140 sX7_bit dX7_count_70 kX7_bit rfl rfl (Nat.le_of_ble_eq_true rfl) (by decide) ?_
      refine q_aload_n dX7_count_73 rfl ?_
      refine q_getr fX7_34 dX7_count_74 (by first | rfl | assumption) (by rfl) ?_
      refine q_iconst (x := 1) dX7_count_77 (by decide) ?_
      refine q_zld 1 (by first | rfl | assumption) rfl (by decide) dX7_count_78 ?_
      refine q_cSi lX7_140 sX7_bit dX7_count_79 kX7_bit rfl rfl (Nat.le_of_ble_eq_true rfl) (by decide) ?_
      refine q_iadd dX7_count_82 ?_
      refine q_ret dX7_count_83 ?_ rfl rfl
      exact ⟨rfl, rfl, rfl⟩
    · subst hjsw
      refine q_tabIn 84 dX7_count_1 (by decide) (by decide) rfl (by decide) ?_
      refine q_aload_n dX7_count_84 rfl ?_
      refine q_getr fX7_10 dX7_count_85 (by first | rfl | assumption) (by rfl) ?_
      refine q_get fX7_74 dX7_count_88 (by first | rfl | assumption) (by rfl) ?_
      refine q_ret dX7_count_91 ?_ rfl rfl
      exact ⟨rfl, rfl, rfl⟩
    · subst hjsw
      refine q_tabIn 92 dX7_count_1 (by decide) (by decide) rfl (by decide) ?_
      refine q_aload_n dX7_count_92 rfl ?_
      refine q_getr fX7_40 dX7_count_93 (by first | rfl | assumption) (by rfl) ?_
      refine q_iconst (x := 0) dX7_count_96 (by decide) ?_
      refine q_ald 0 (by first | rfl | assumption) rfl (by decide) (q_rs_at (by decide)) ⟨by decide, by decide⟩ dX7_count_97 ?_
      refine q_get fX7_343 dX7_count_98 (by first | rfl | assumption) (by rfl) ?_
      refine q_bipush (x := (-4)) dX7_count_101 (by decide) ?_
      refine q_icmp_ne 111 dX7_count_103 (by decide) (fun h103 => ?_) (fun h103 => ?_)
      · have hs : q_cf0 σ N 5 = σ 56 2 := if_neg h103
        refine q_aload_n dX7_count_111 rfl ?_
        refine q_getr fX7_40 dX7_count_112 (by first | rfl | assumption) (by rfl) ?_
        refine q_iconst (x := 0) dX7_count_115 (by decide) ?_
        refine q_ald 0 (by first | rfl | assumption) rfl (by decide) (q_rs_at (by decide)) ⟨by decide, by decide⟩ dX7_count_116 ?_
        refine q_get fX7_346 dX7_count_117 (by first | rfl | assumption) (by rfl) ?_
        refine q_ret dX7_count_120 ?_ rfl rfl
        exact ⟨congrArg some hs.symm, rfl, rfl⟩
      · have hs : q_cf0 σ N 5 = -4 := if_pos h103
        refine q_bipush (x := (-4)) dX7_count_106 (by decide) ?_
        refine q_goto 120 dX7_count_108 (by decide) ?_
        refine q_ret dX7_count_120 ?_ rfl rfl
        exact ⟨congrArg some hs.symm, rfl, rfl⟩
