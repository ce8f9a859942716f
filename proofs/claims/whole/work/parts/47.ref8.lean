/-! the reference: hold, late, step, told -/
def qm_can (σ : q_M) (k d t n : Int32) : Bool := q_win k 0 (σ 73 53 - 1) && q_win d 1 (σ 75 0 - 1) && q_win t 0 500 && q_win n 1 999
def qm_hof (σ : q_M) : Nat → Int32
  | 0 => σ 72 24
  | 1 => σ 72 17
  | 2 => σ 72 25
  | _ => σ 72 26

set_option maxHeartbeats 1000000 in
set_option maxRecDepth 100000 in
theorem kX8_isHold {σ : q_M} {k d t n : Int32} : q_Ct YX8_isHold [.ref 72, .int k, .int d, .int t, .int n] q_SH σ (q_is (some (q_b (qm_can σ k d t n))) q_SH σ) := by
  refine q_ct (n := 0) (by decide) (by decide) rfl (fun _ => Nat.le_of_ble_eq_true rfl) (fun E => ?_)
  refine q_aload_n dX8_isHold_0 rfl ?_
  refine q_iload_n dX8_isHold_1 rfl ?_
  refine q_cVi lX8_163 vX8_isDiver (ci := 8) rfl dX8_isHold_2 kX8_isDiver (by first | rfl | assumption) rfl rfl (Nat.le_of_ble_eq_true rfl) (by decide) ?_
  refine q_beq 50 dX8_isHold_5 (by decide) (fun h5 => ?_) (fun h5 => ?_)
  · refine q_iconst (x := 0) dX8_isHold_50 (by decide) ?_
    refine q_ret0 dX8_isHold_51 ?_ rfl rfl
    exact ⟨congrArg some (by simp [qm_can, *]), rfl, rfl⟩
  · refine q_iload_n dX8_isHold_8 rfl ?_
    refine q_i2l dX8_isHold_9 ?_
    refine q_lconst (x := 1) dX8_isHold_10 (by decide) ?_
    refine q_aload_n dX8_isHold_11 rfl ?_
    refine q_getr fX8_17 dX8_isHold_12 (by first | rfl | assumption) (by rfl) ?_
    refine q_iconst (x := 0) dX8_isHold_15 (by decide) ?_
    refine q_ild 0 (by first | rfl | assumption) rfl (by decide) dX8_isHold_16 ?_
    refine q_iconst (x := 1) dX8_isHold_17 (by decide) ?_
    refine q_isub dX8_isHold_18 ?_
    refine q_i2l dX8_isHold_19 ?_
    refine q_cSi lX8_72 sX8_in dX8_isHold_20 (kX8_in (x := d) (lo := 1) (hi := (σ 75 0 - 1)) (Int32.toInt_toInt64 _) rfl (Int32.toInt_toInt64 _)) rfl rfl (Nat.le_of_ble_eq_true rfl) (by decide) ?_
    refine q_beq 50 dX8_isHold_23 (by decide) (fun h23 => ?_) (fun h23 => ?_)
    · refine q_iconst (x := 0) dX8_isHold_50 (by decide) ?_
      refine q_ret0 dX8_isHold_51 ?_ rfl rfl
      exact ⟨congrArg some (by simp [qm_can, *]), rfl, rfl⟩
    · refine q_iload_n dX8_isHold_26 rfl ?_
      refine q_cSi lX8_174 sX8_isThumb dX8_isHold_27 kX8_isThumb rfl rfl (Nat.le_of_ble_eq_true rfl) (by decide) ?_
      refine q_beq 50 dX8_isHold_30 (by decide) (fun h30 => ?_) (fun h30 => ?_)
      · refine q_iconst (x := 0) dX8_isHold_50 (by decide) ?_
        refine q_ret0 dX8_isHold_51 ?_ rfl rfl
        exact ⟨congrArg some (by simp [qm_can, *]), rfl, rfl⟩
      · refine q_iload dX8_isHold_33 rfl ?_
        refine q_i2l dX8_isHold_35 ?_
        refine q_lconst (x := 1) dX8_isHold_36 (by decide) ?_
        refine q_ldc2 kX8_194 dX8_isHold_37 ?_
        refine q_cSi lX8_72 sX8_in dX8_isHold_40 (kX8_in (x := n) (lo := 1) (hi := 999) (Int32.toInt_toInt64 _) rfl rfl) rfl rfl (Nat.le_of_ble_eq_true rfl) (by decide) ?_
        refine q_beq 50 dX8_isHold_43 (by decide) (fun h43 => ?_) (fun h43 => ?_)
        · refine q_iconst (x := 0) dX8_isHold_50 (by decide) ?_
          refine q_ret0 dX8_isHold_51 ?_ rfl rfl
          exact ⟨congrArg some (by simp [qm_can, *]), rfl, rfl⟩
        · refine q_iconst (x := 1) dX8_isHold_46 (by decide) ?_
          refine q_goto 51 dX8_isHold_47 (by decide) ?_
          refine q_ret1 dX8_isHold_51 ?_ rfl rfl
          exact ⟨congrArg some (by simp [qm_can, *]), rfl, rfl⟩

set_option maxHeartbeats 1000000 in
set_option maxRecDepth 100000 in
theorem kX8_holdB {σ : q_M} {k d t l st n w : Int32} (hbad : (qm_can σ k d t n && q_win l 0 50 && q_win st 1 50 && q_win w 0 3) = false) : q_Ct YX8_hold [.ref 72, .int k, .int d, .int t, .int l, .int st, .int n, .int w] q_SH σ (q_is (some (-1)) q_SH σ) := by
  refine q_ct (n := 0) (by decide) (by decide) rfl (fun _ => Nat.le_of_ble_eq_true rfl) (fun E => ?_)
  refine q_aload_n dX8_hold_0 rfl ?_
  refine q_iload_n dX8_hold_1 rfl ?_
  refine q_iload_n dX8_hold_2 rfl ?_
  refine q_iload_n dX8_hold_3 rfl ?_
  refine q_iload dX8_hold_4 rfl ?_
  refine q_cVi lX8_265 vX8_isHold (ci := 8) rfl dX8_hold_6 kX8_isHold (by first | rfl | assumption) rfl rfl (Nat.le_of_ble_eq_true rfl) (by decide) ?_
  refine q_beq 41 dX8_hold_9 (by decide) (fun h9 => ?_) (fun h9 => ?_)
  · refine q_iconst (x := (-1)) dX8_hold_41 (by decide) ?_
    refine q_ret dX8_hold_42 ?_ rfl rfl
    exact ⟨rfl, rfl, rfl⟩
  · refine q_iload dX8_hold_12 rfl ?_
    refine q_cSi lX8_269 sX8_isLate dX8_hold_14 kX8_isLate rfl rfl (Nat.le_of_ble_eq_true rfl) (by decide) ?_
    refine q_beq 41 dX8_hold_17 (by decide) (fun h17 => ?_) (fun h17 => ?_)
    · refine q_iconst (x := (-1)) dX8_hold_41 (by decide) ?_
      refine q_ret dX8_hold_42 ?_ rfl rfl
      exact ⟨rfl, rfl, rfl⟩
    · refine q_iload dX8_hold_20 rfl ?_
      refine q_cSi lX8_272 sX8_isStep dX8_hold_22 kX8_isStep rfl rfl (Nat.le_of_ble_eq_true rfl) (by decide) ?_
      refine q_beq 41 dX8_hold_25 (by decide) (fun h25 => ?_) (fun h25 => ?_)
      · refine q_iconst (x := (-1)) dX8_hold_41 (by decide) ?_
        refine q_ret dX8_hold_42 ?_ rfl rfl
        exact ⟨rfl, rfl, rfl⟩
      · refine q_iload dX8_hold_28 rfl ?_
        refine q_i2l dX8_hold_30 ?_
        refine q_lconst (x := 0) dX8_hold_31 (by decide) ?_
        refine q_ldc2 kX8_275 dX8_hold_32 ?_
        refine q_cSi lX8_72 sX8_in dX8_hold_35 (kX8_in (x := w) (lo := 0) (hi := 3) (Int32.toInt_toInt64 _) rfl rfl) rfl rfl (Nat.le_of_ble_eq_true rfl) (by decide) ?_
        refine q_bne 43 dX8_hold_38 (by decide) (fun h38 => ?_) (fun h38 => ?_)
        · exact absurd hbad (by simp [*])
        · refine q_iconst (x := (-1)) dX8_hold_41 (by decide) ?_
          refine q_ret dX8_hold_42 ?_ rfl rfl
          exact ⟨rfl, rfl, rfl⟩

set_option maxHeartbeats 1000000 in
set_option maxRecDepth 100000 in
theorem kX8_hold {σ : q_M} {j l N : Nat} {dep t step : Int32} (hj : j < 6) (hN : N < 1000) (hl : l ≤ 50) {I : q_M → Prop} (hI : ∀ τ, I τ → qm_hok τ) (hinv : ∀ τ i, i < N → I τ → I (qm_hs j l (64 * dep) step i τ)) (h0 : I (qm_h0 σ (64 * dep) t)) (hcan : qm_can σ (nI j) dep t (nI N) = true) (hst : q_win step 1 50 = true) {w : Nat} (hw : w < 4) : q_Ct YX8_hold [.ref 72, .int (nI j), .int dep, .int t, .int (nI l), .int step, .int (nI N), .int (nI w)] q_SH σ (q_is (some (qm_hof (qm_hh σ j (64 * dep) t l step N) w)) q_SH (qm_hh σ j (64 * dep) t l step N)) := by
  refine q_ct (n := 0) (by decide) (by decide) rfl (fun _ => Nat.le_of_ble_eq_true rfl) (fun E => ?_)
  refine q_aload_n dX8_hold_0 rfl ?_
  refine q_iload_n dX8_hold_1 rfl ?_
  refine q_iload_n dX8_hold_2 rfl ?_
  refine q_iload_n dX8_hold_3 rfl ?_
  refine q_iload dX8_hold_4 rfl ?_
  refine q_cVi lX8_265 vX8_isHold (ci := 8) rfl dX8_hold_6 kX8_isHold (by first | rfl | assumption) rfl rfl (Nat.le_of_ble_eq_true rfl) (by decide) ?_
  refine q_beq 41 dX8_hold_9 (by decide) (fun h9 => ?_) (fun h9 => ?_)
  · exact absurd hcan (by rw [h9]; decide)
  · refine q_iload dX8_hold_12 rfl ?_
    refine q_cSi lX8_269 sX8_isLate dX8_hold_14 kX8_isLate rfl rfl (Nat.le_of_ble_eq_true rfl) (by decide) ?_
    refine q_beq 41 dX8_hold_17 (by decide) (fun h17 => ?_) (fun h17 => ?_)
    · exact absurd (show q_win (nI l) 0 50 = true from decide_eq_true (by have := nI_toInt (n := l) (by omega); have e0 : (0 : Int32).toInt = 0 := rfl; have e5 : (50 : Int32).toInt = 50 := rfl; omega)) (by rw [h17]; decide)
    · refine q_iload dX8_hold_20 rfl ?_
      refine q_cSi lX8_272 sX8_isStep dX8_hold_22 kX8_isStep rfl rfl (Nat.le_of_ble_eq_true rfl) (by decide) ?_
      refine q_beq 41 dX8_hold_25 (by decide) (fun h25 => ?_) (fun h25 => ?_)
      · exact absurd hst (by rw [h25]; decide)
      · refine q_iload dX8_hold_28 rfl ?_
        refine q_i2l dX8_hold_30 ?_
        refine q_lconst (x := 0) dX8_hold_31 (by decide) ?_
        refine q_ldc2 kX8_275 dX8_hold_32 ?_
        refine q_cSi lX8_72 sX8_in dX8_hold_35 (kX8_in (x := (nI w)) (lo := 0) (hi := 3) (Int32.toInt_toInt64 _) rfl rfl) rfl rfl (Nat.le_of_ble_eq_true rfl) (by decide) ?_
        refine q_bne 43 dX8_hold_38 (by decide) (fun h38 => ?_) (fun h38 => ?_)
        · refine q_aload_n dX8_hold_43 rfl ?_
          refine q_iload_n dX8_hold_44 rfl ?_
          refine q_iload_n dX8_hold_45 rfl ?_
          refine q_iload_n dX8_hold_46 rfl ?_
          refine q_iload dX8_hold_47 rfl ?_
          refine q_iload dX8_hold_49 rfl ?_
          refine q_iload dX8_hold_51 rfl ?_
          refine q_cVv lX8_277 vX8_holds (ci := 8) rfl dX8_hold_53 (kX8_holds hj hN (by omega) hI hinv h0) (by first | rfl | assumption) rfl rfl (Nat.le_of_ble_eq_true rfl) (by decide) ?_
          refine q_iload dX8_hold_56 rfl ?_
          refine q_if_ne 68 dX8_hold_58 (by decide) (fun h58 => ?_) (fun h58 => ?_)
          · refine q_iload dX8_hold_68 rfl ?_
            refine q_iconst (x := 1) dX8_hold_70 (by decide) ?_
            refine q_icmp_ne 81 dX8_hold_71 (by decide) (fun h71 => ?_) (fun h71 => ?_)
            · refine q_iload dX8_hold_81 rfl ?_
              refine q_iconst (x := 2) dX8_hold_83 (by decide) ?_
              refine q_icmp_ne 94 dX8_hold_84 (by decide) (fun h84 => ?_) (fun h84 => ?_)
              · refine q_aload_n dX8_hold_94 rfl ?_
                refine q_get fX8_260 dX8_hold_95 (by first | rfl | assumption) (by rfl) ?_
                refine q_ret dX8_hold_98 ?_ rfl rfl
                rcases (show w = 0 ∨ w = 1 ∨ w = 2 ∨ w = 3 by omega) with rfl | rfl | rfl | rfl
                all_goals first
                  | exact ⟨rfl, rfl, rfl⟩
                  | exact absurd rfl h58
                  | exact absurd h58 (by decide)
                  | exact absurd rfl h71
                  | exact absurd h71 (by decide)
                  | exact absurd rfl h84
                  | exact absurd h84 (by decide)
              · refine q_aload_n dX8_hold_87 rfl ?_
                refine q_get fX8_257 dX8_hold_88 (by first | rfl | assumption) (by rfl) ?_
                refine q_goto 98 dX8_hold_91 (by decide) ?_
                refine q_ret dX8_hold_98 ?_ rfl rfl
                rcases (show w = 0 ∨ w = 1 ∨ w = 2 ∨ w = 3 by omega) with rfl | rfl | rfl | rfl
                all_goals first
                  | exact ⟨rfl, rfl, rfl⟩
                  | exact absurd rfl h58
                  | exact absurd h58 (by decide)
                  | exact absurd rfl h71
                  | exact absurd h71 (by decide)
                  | exact absurd rfl h84
                  | exact absurd h84 (by decide)
            · refine q_aload_n dX8_hold_74 rfl ?_
              refine q_get fX8_184 dX8_hold_75 (by first | rfl | assumption) (by rfl) ?_
              refine q_goto 98 dX8_hold_78 (by decide) ?_
              refine q_ret dX8_hold_98 ?_ rfl rfl
              rcases (show w = 0 ∨ w = 1 ∨ w = 2 ∨ w = 3 by omega) with rfl | rfl | rfl | rfl
              all_goals first
                | exact ⟨rfl, rfl, rfl⟩
                | exact absurd rfl h58
                | exact absurd h58 (by decide)
                | exact absurd rfl h71
                | exact absurd h71 (by decide)
                | exact absurd rfl h84
                | exact absurd h84 (by decide)
          · refine q_aload_n dX8_hold_61 rfl ?_
            refine q_get fX8_254 dX8_hold_62 (by first | rfl | assumption) (by rfl) ?_
            refine q_goto 98 dX8_hold_65 (by decide) ?_
            refine q_ret dX8_hold_98 ?_ rfl rfl
            rcases (show w = 0 ∨ w = 1 ∨ w = 2 ∨ w = 3 by omega) with rfl | rfl | rfl | rfl
            all_goals first
              | exact ⟨rfl, rfl, rfl⟩
              | exact absurd rfl h58
              | exact absurd h58 (by decide)
              | exact absurd rfl h71
              | exact absurd h71 (by decide)
              | exact absurd rfl h84
              | exact absurd h84 (by decide)
        · exact absurd (show q_win (nI w) 0 3 = true from decide_eq_true (by have := nI_toInt (n := w) (by omega); have e0 : (0 : Int32).toInt = 0 := rfl; have e5 : (3 : Int32).toInt = 3 := rfl; omega)) (by rw [h38]; decide)

def qm_lt (j : Nat) (goal t step : Int32) (N : Nat) : Nat → Nat → q_M → Nat × q_M
  | 0, l, σ => (l, σ)
  | m + 1, l, σ => if (qm_hh σ j goal t l step N) 72 24 = -4 then qm_lt j goal t step N m (l + 1) (qm_hh σ j goal t l step N) else (l, qm_hh σ j goal t l step N)
def qm_ltr (x : Nat × q_M) : Int32 := if x.1 = 0 then -4 else nI (x.1 - 1)

set_option maxHeartbeats 1000000 in
set_option maxRecDepth 100000 in
theorem sgX8_late {E : q_E} {σ : q_M} {j N : Nat} {dep t step : Int32} {l : Nat} (hl : l ≤ 51) {b : Int32} : q_G YX8_late E 0 0 82 [some (.ref 72), some (.int (nI j)), some (.int dep), some (.int t), some (.int step), some (.int (nI N)), some (.int (nI l)), some (.int b)] [] q_SH σ (q_is (some (qm_ltr ((l, σ)))) q_SH (((l, σ)).2)) := by
  refine q_iload dX8_late_82 rfl ?_
  refine q_if_ne 92 dX8_late_84 (by decide) (fun h84 => ?_) (fun h84 => ?_)
  · have h84 : ¬ l = 0 := fun z => h84 (by rw [z]; rfl)
    refine q_iload dX8_late_92 rfl ?_
    refine q_iconst (x := 1) dX8_late_94 (by decide) ?_
    refine q_isub dX8_late_95 ?_
    refine q_ret dX8_late_96 ?_ rfl rfl
    exact ⟨congrArg some (by rw [qm_ltr]; first | rw [if_pos h84] | (rw [if_neg h84]; exact q_p1 h84)), rfl, rfl⟩
  · have h84 : l = 0 := (nI_eq (b := 0) (by omega) (by omega)).mp h84
    refine q_bipush (x := (-4)) dX8_late_87 (by decide) ?_
    refine q_goto 96 dX8_late_89 (by decide) ?_
    refine q_ret dX8_late_96 ?_ rfl rfl
    exact ⟨congrArg some (by rw [qm_ltr]; first | rw [if_pos h84] | (rw [if_neg h84]; exact q_p1 h84)), rfl, rfl⟩

set_option maxHeartbeats 1000000 in
set_option maxRecDepth 100000 in
theorem lpX8_late {E : q_E} {j N : Nat} {dep t step : Int32} (hj : j < 6) (hN : N < 1000) {I : q_M → Prop} (hI : ∀ τ, I τ → qm_hok τ) {B : q_M → Prop} (hB : ∀ τ l, l ≤ 50 → B τ → B (qm_hh τ j (64 * dep) t l step N)) (hinv : ∀ l, l ≤ 50 → ∀ τ i, i < N → I τ → I (qm_hs j l (64 * dep) step i τ)) (h0 : ∀ τ, B τ → I (qm_h0 τ (64 * dep) t))  : ∀ (n : Nat) (l : Nat) (σ : q_M), 51 + 1 ≤ l + n → l ≤ 51 → B σ → q_G YX8_late E 0 0 28 [some (.ref 72), some (.int (nI j)), some (.int dep), some (.int t), some (.int step), some (.int (nI N)), some (.int (nI l)), some (.int 1)] [] q_SH σ (q_is (some (qm_ltr (qm_lt j (64 * dep) t step N (51 - l) l σ))) q_SH ((qm_lt j (64 * dep) t step N (51 - l) l σ).2)) := by
  intro n
  induction n with
  | zero =>
    intro l σ hm h0x hb
    exact absurd hm (by omega)
  | succ n ih =>
    intro l σ hm h0x hb
    have hi := nI_toInt (n := l) (by omega)
    have e5 : (50 : Int32).toInt = 50 := rfl
    refine q_iload dX8_late_28 rfl ?_
    refine q_bipush (x := 50) dX8_late_30 (by decide) ?_
    refine q_cgt 82 dX8_late_32 (by decide) (fun h32 => ?_) (fun h32 => ?_)
    · rw [show 51 - l = 0 by omega]
      exact sgX8_late (by omega)
    · refine q_iload dX8_late_35 rfl ?_
      refine q_if_eq 82 dX8_late_37 (by decide) (fun h37 => ?_) (fun h37 => ?_)
      · exact absurd h37 (by decide)
      · refine q_aload_n dX8_late_40 rfl ?_
        refine q_iload_n dX8_late_41 rfl ?_
        refine q_iload_n dX8_late_42 rfl ?_
        refine q_iload_n dX8_late_43 rfl ?_
        refine q_iload dX8_late_44 rfl ?_
        refine q_iload dX8_late_46 rfl ?_
        refine q_iload dX8_late_48 rfl ?_
        refine q_cVv lX8_277 vX8_holds (ci := 8) rfl dX8_late_50 (kX8_holds hj hN (by omega) hI (hinv l (by omega)) (h0 σ hb)) (by first | rfl | assumption) rfl rfl (Nat.le_of_ble_eq_true rfl) (by decide) ?_
        refine q_aload_n dX8_late_53 rfl ?_
        refine q_get fX8_254 dX8_late_54 (by first | rfl | assumption) (by rfl) ?_
        refine q_bipush (x := (-4)) dX8_late_57 (by decide) ?_
        refine q_icmp_ne 66 dX8_late_59 (by decide) (fun h59 => ?_) (fun h59 => ?_)
        · rw [show 51 - l = (51 - (l + 1)) + 1 by omega, qm_lt, if_neg h59]
          refine q_iconst (x := 0) dX8_late_66 (by decide) ?_
          refine q_istore dX8_late_67 (by decide) rfl ?_
          refine q_iload dX8_late_69 rfl ?_
          refine q_iload dX8_late_71 rfl ?_
          refine q_cSi lX8_63 sX8_flag dX8_late_73 kX8_flag rfl rfl (Nat.le_of_ble_eq_true rfl) (by decide) ?_
          refine q_iadd dX8_late_76 ?_
          refine q_istore dX8_late_77 (by decide) rfl ?_
          refine q_goto 28 dX8_late_79 (by decide) ?_
          rw [show nI l + q_b (q_t 0) = nI l from Int32.add_zero _]
          refine q_iload dX8_late_28 rfl ?_
          refine q_bipush (x := 50) dX8_late_30 (by decide) ?_
          refine q_cgt 82 dX8_late_32 (by decide) (fun g1 => ?_) (fun g1 => ?_)
          · exact sgX8_late (by omega)
          · refine q_iload dX8_late_35 rfl ?_
            refine q_if_eq 82 dX8_late_37 (by decide) (fun g2 => ?_) (fun g2 => ?_)
            · exact sgX8_late (by omega)
            · exact absurd rfl g2
        · rw [show 51 - l = (51 - (l + 1)) + 1 by omega, qm_lt, if_pos h59]
          refine q_iconst (x := 1) dX8_late_62 (by decide) ?_
          refine q_goto 67 dX8_late_63 (by decide) ?_
          refine q_istore dX8_late_67 (by decide) rfl ?_
          refine q_iload dX8_late_69 rfl ?_
          refine q_iload dX8_late_71 rfl ?_
          refine q_cSi lX8_63 sX8_flag dX8_late_73 kX8_flag rfl rfl (Nat.le_of_ble_eq_true rfl) (by decide) ?_
          refine q_iadd dX8_late_76 ?_
          refine q_istore dX8_late_77 (by decide) rfl ?_
          refine q_goto 28 dX8_late_79 (by decide) ?_
          rw [show nI l + q_b (q_t 1) = nI (l + 1) from nI_1 l]
          exact ih (l + 1) _ (by omega) (by omega) (hB σ l (by omega) hb)

set_option maxHeartbeats 1000000 in
set_option maxRecDepth 100000 in
theorem kX8_late {σ : q_M} {j N : Nat} {dep t step : Int32} (hj : j < 6) (hN : N < 1000) {I : q_M → Prop} (hI : ∀ τ, I τ → qm_hok τ) {B : q_M → Prop} (hB : ∀ τ l, l ≤ 50 → B τ → B (qm_hh τ j (64 * dep) t l step N)) (hinv : ∀ l, l ≤ 50 → ∀ τ i, i < N → I τ → I (qm_hs j l (64 * dep) step i τ)) (h0 : ∀ τ, B τ → I (qm_h0 τ (64 * dep) t)) (hb : B σ) (hcan : qm_can σ (nI j) dep t (nI N) = true) (hst : q_win step 1 50 = true) : q_Ct YX8_late [.ref 72, .int (nI j), .int dep, .int t, .int step, .int (nI N)] q_SH σ (q_is (some (qm_ltr (qm_lt j (64 * dep) t step N 51 0 σ))) q_SH ((qm_lt j (64 * dep) t step N 51 0 σ).2)) := by
  refine q_ct (n := 2) (by decide) (by decide) rfl (fun _ => Nat.le_of_ble_eq_true rfl) (fun E => ?_)
  refine q_aload_n dX8_late_0 rfl ?_
  refine q_iload_n dX8_late_1 rfl ?_
  refine q_iload_n dX8_late_2 rfl ?_
  refine q_iload_n dX8_late_3 rfl ?_
  refine q_iload dX8_late_4 rfl ?_
  refine q_cVi lX8_265 vX8_isHold (ci := 8) rfl dX8_late_6 kX8_isHold (by first | rfl | assumption) rfl rfl (Nat.le_of_ble_eq_true rfl) (by decide) ?_
  refine q_beq 20 dX8_late_9 (by decide) (fun h9 => ?_) (fun h9 => ?_)
  · exact absurd hcan (by rw [h9]; decide)
  · refine q_iload dX8_late_12 rfl ?_
    refine q_cSi lX8_272 sX8_isStep dX8_late_14 kX8_isStep rfl rfl (Nat.le_of_ble_eq_true rfl) (by decide) ?_
    refine q_bne 22 dX8_late_17 (by decide) (fun h17 => ?_) (fun h17 => ?_)
    · refine q_iconst (x := 0) dX8_late_22 (by decide) ?_
      refine q_istore dX8_late_23 (by decide) rfl ?_
      refine q_iconst (x := 1) dX8_late_25 (by decide) ?_
      refine q_istore dX8_late_26 (by decide) rfl ?_
      exact lpX8_late hj hN hI hB hinv h0 52 0 σ (by omega) (by omega) hb
    · exact absurd hst (by rw [h17]; decide)

set_option maxHeartbeats 1000000 in
set_option maxRecDepth 100000 in
theorem kX8_lateB {σ : q_M} {k d t st n : Int32} (hbad : (qm_can σ k d t n && q_win st 1 50) = false) : q_Ct YX8_late [.ref 72, .int k, .int d, .int t, .int st, .int n] q_SH σ (q_is (some (-1)) q_SH σ) := by
  refine q_ct (n := 2) (by decide) (by decide) rfl (fun _ => Nat.le_of_ble_eq_true rfl) (fun E => ?_)
  refine q_aload_n dX8_late_0 rfl ?_
  refine q_iload_n dX8_late_1 rfl ?_
  refine q_iload_n dX8_late_2 rfl ?_
  refine q_iload_n dX8_late_3 rfl ?_
  refine q_iload dX8_late_4 rfl ?_
  refine q_cVi lX8_265 vX8_isHold (ci := 8) rfl dX8_late_6 kX8_isHold (by first | rfl | assumption) rfl rfl (Nat.le_of_ble_eq_true rfl) (by decide) ?_
  refine q_beq 20 dX8_late_9 (by decide) (fun h9 => ?_) (fun h9 => ?_)
  · refine q_iconst (x := (-1)) dX8_late_20 (by decide) ?_
    refine q_ret dX8_late_21 ?_ rfl rfl
    exact ⟨rfl, rfl, rfl⟩
  · refine q_iload dX8_late_12 rfl ?_
    refine q_cSi lX8_272 sX8_isStep dX8_late_14 kX8_isStep rfl rfl (Nat.le_of_ble_eq_true rfl) (by decide) ?_
    refine q_bne 22 dX8_late_17 (by decide) (fun h17 => ?_) (fun h17 => ?_)
    · exact absurd hbad (by simp [*])
    · refine q_iconst (x := (-1)) dX8_late_20 (by decide) ?_
      refine q_ret dX8_late_21 ?_ rfl rfl
      exact ⟨rfl, rfl, rfl⟩

def qm_sv (σ : q_M) : Int32 := if σ 72 24 = -4 then 1000 else σ 72 24
def qm_st (j : Nat) (goal t : Int32) (l N : Nat) : Nat → Nat → Int32 → Int32 → q_M → (Int32 × Int32) × q_M
  | 0, _, b, v, σ => ((b, v), σ)
  | m + 1, s, b, v, σ => qm_st j goal t l N m (s + 1) (if v.toInt < (qm_sv (qm_hh σ j goal t l (nI s) N)).toInt then nI s else b) (if v.toInt < (qm_sv (qm_hh σ j goal t l (nI s) N)).toInt then qm_sv (qm_hh σ j goal t l (nI s) N) else v) (qm_hh σ j goal t l (nI s) N)
def qm_str (x : Int32 × Int32) (w : Int32) : Int32 := if w = 0 then x.1 else if (999 : Int32).toInt < x.2.toInt then -4 else x.2

set_option maxHeartbeats 1000000 in
set_option maxRecDepth 100000 in
theorem sgX8_step {E : q_E} {σ : q_M} {j l N s n : Nat} {dep t w b v : Int32} {B : q_M → Prop} (hb : B (qm_hh σ j (64 * dep) t l (nI s) N)) (ih : ∀ (s : Nat) (b v : Int32) (σ : q_M), 51 + 1 ≤ s + n → s ≤ 51 → B σ → q_G YX8_step E 0 0 42 [some (.ref 72), some (.int (nI j)), some (.int dep), some (.int t), some (.int (nI l)), some (.int (nI N)), some (.int w), some (.int b), some (.int v), some (.int (nI s)), none] [] q_SH σ (q_is (some (qm_str (qm_st j (64 * dep) t l N (51 - s) s b v σ).1 w)) q_SH ((qm_st j (64 * dep) t l N (51 - s) s b v σ).2))) (hm : 51 + 1 ≤ s + 1 + n) (h0x : s + 1 ≤ 51) : q_G YX8_step E 0 0 81 [some (.ref 72), some (.int (nI j)), some (.int dep), some (.int t), some (.int (nI l)), some (.int (nI N)), some (.int w), some (.int b), some (.int v), some (.int (nI s)), none] [.int (qm_sv (qm_hh σ j (64 * dep) t l (nI s) N))] q_SH (qm_hh σ j (64 * dep) t l (nI s) N) (q_is (some (qm_str (qm_st j (64 * dep) t l N (51 - (s + 1)) (s + 1) (if v.toInt < (qm_sv (qm_hh σ j (64 * dep) t l (nI s) N)).toInt then nI s else b) (if v.toInt < (qm_sv (qm_hh σ j (64 * dep) t l (nI s) N)).toInt then qm_sv (qm_hh σ j (64 * dep) t l (nI s) N) else v) (qm_hh σ j (64 * dep) t l (nI s) N)).1 w)) q_SH ((qm_st j (64 * dep) t l N (51 - (s + 1)) (s + 1) (if v.toInt < (qm_sv (qm_hh σ j (64 * dep) t l (nI s) N)).toInt then nI s else b) (if v.toInt < (qm_sv (qm_hh σ j (64 * dep) t l (nI s) N)).toInt then qm_sv (qm_hh σ j (64 * dep) t l (nI s) N) else v) (qm_hh σ j (64 * dep) t l (nI s) N)).2)) := by
  have hi := nI_toInt (n := s) (by omega)
  refine q_topi (fun x ex => ?_)
  refine q_istore dX8_step_81 (by decide) rfl ?_
  refine q_iload dX8_step_83 rfl ?_
  refine q_iload dX8_step_85 rfl ?_
  refine q_cle 95 dX8_step_87 (by decide) (fun h87 => ?_) (fun h87 => ?_)
  · rw [← ex, if_neg (by omega), if_neg (by omega)]
    refine q_iload dX8_step_95 rfl ?_
    refine q_istore dX8_step_97 (by decide) rfl ?_
    refine q_iload dX8_step_99 rfl ?_
    refine q_iload dX8_step_101 rfl ?_
    refine q_cle 111 dX8_step_103 (by decide) (fun h103 => ?_) (fun h103 => ?_)
    · refine q_iload dX8_step_111 rfl ?_
      refine q_istore dX8_step_113 (by decide) rfl ?_
      refine q_inc 1 dX8_step_115 (by decide) rfl (by decide) rfl ?_
      refine q_goto 42 dX8_step_118 (by decide) ?_
      first
        | exact absurd h87 (by omega)
        | (rw [nI_1]; refine q_lz (ih (s + 1) _ _ _ hm h0x hb) ?_; exact ⟨rfl, rfl, rfl, rfl, rfl, rfl, rfl, rfl, rfl, rfl, trivial⟩)
    · refine q_iload dX8_step_106 rfl ?_
      refine q_goto 113 dX8_step_108 (by decide) ?_
      refine q_istore dX8_step_113 (by decide) rfl ?_
      refine q_inc 1 dX8_step_115 (by decide) rfl (by decide) rfl ?_
      refine q_goto 42 dX8_step_118 (by decide) ?_
      first
        | exact absurd h87 (by omega)
        | (rw [nI_1]; refine q_lz (ih (s + 1) _ _ _ hm h0x hb) ?_; exact ⟨rfl, rfl, rfl, rfl, rfl, rfl, rfl, rfl, rfl, rfl, trivial⟩)
  · rw [← ex, if_pos h87, if_pos h87]
    refine q_iload dX8_step_90 rfl ?_
    refine q_goto 97 dX8_step_92 (by decide) ?_
    refine q_istore dX8_step_97 (by decide) rfl ?_
    refine q_iload dX8_step_99 rfl ?_
    refine q_iload dX8_step_101 rfl ?_
    refine q_cle 111 dX8_step_103 (by decide) (fun h103 => ?_) (fun h103 => ?_)
    · refine q_iload dX8_step_111 rfl ?_
      refine q_istore dX8_step_113 (by decide) rfl ?_
      refine q_inc 1 dX8_step_115 (by decide) rfl (by decide) rfl ?_
      refine q_goto 42 dX8_step_118 (by decide) ?_
      first
        | exact absurd h87 (by omega)
        | (rw [nI_1]; refine q_lz (ih (s + 1) _ _ _ hm h0x hb) ?_; exact ⟨rfl, rfl, rfl, rfl, rfl, rfl, rfl, rfl, rfl, rfl, trivial⟩)
    · refine q_iload dX8_step_106 rfl ?_
      refine q_goto 113 dX8_step_108 (by decide) ?_
      refine q_istore dX8_step_113 (by decide) rfl ?_
      refine q_inc 1 dX8_step_115 (by decide) rfl (by decide) rfl ?_
      refine q_goto 42 dX8_step_118 (by decide) ?_
      first
        | exact absurd h87 (by omega)
        | (rw [nI_1]; refine q_lz (ih (s + 1) _ _ _ hm h0x hb) ?_; exact ⟨rfl, rfl, rfl, rfl, rfl, rfl, rfl, rfl, rfl, rfl, trivial⟩)

set_option maxHeartbeats 1000000 in
set_option maxRecDepth 100000 in
theorem lpX8_step {E : q_E} {j l N : Nat} {dep t w : Int32} (hj : j < 6) (hN : N < 1000) (hl : l ≤ 50) {I : q_M → Prop} (hI : ∀ τ, I τ → qm_hok τ) {B : q_M → Prop} (hB : ∀ τ s, s ≤ 50 → B τ → B (qm_hh τ j (64 * dep) t l (nI s) N)) (hinv : ∀ s, s ≤ 50 → ∀ τ i, i < N → I τ → I (qm_hs j l (64 * dep) (nI s) i τ)) (h0 : ∀ τ, B τ → I (qm_h0 τ (64 * dep) t))  : ∀ (n : Nat) (s : Nat) (b v : Int32) (σ : q_M), 51 + 1 ≤ s + n → s ≤ 51 → B σ → q_G YX8_step E 0 0 42 [some (.ref 72), some (.int (nI j)), some (.int dep), some (.int t), some (.int (nI l)), some (.int (nI N)), some (.int w), some (.int b), some (.int v), some (.int (nI s)), none] [] q_SH σ (q_is (some (qm_str (qm_st j (64 * dep) t l N (51 - s) s b v σ).1 w)) q_SH ((qm_st j (64 * dep) t l N (51 - s) s b v σ).2)) := by
  intro n
  induction n with
  | zero =>
    intro s b v σ hm h0x hb
    exact absurd hm (by omega)
  | succ n ih =>
    intro s b v σ hm h0x hb
    have hi := nI_toInt (n := s) (by omega)
    have e5 : (50 : Int32).toInt = 50 := rfl
    refine q_iload dX8_step_42 rfl ?_
    refine q_bipush (x := 50) dX8_step_44 (by decide) ?_
    refine q_cgt 121 dX8_step_46 (by decide) (fun h46 => ?_) (fun h46 => ?_)
    · rw [show 51 - s = 0 by omega]
      show q_G _ _ _ _ _ _ _ _ _ (q_is (some (qm_str (b, v) w)) q_SH σ)
      refine q_iload dX8_step_121 rfl ?_
      refine q_if_ne 131 dX8_step_123 (by decide) (fun h123 => ?_) (fun h123 => ?_)
      · refine q_iload dX8_step_131 rfl ?_
        refine q_sipush (x := 999) dX8_step_133 (by decide) ?_
        refine q_cle 144 dX8_step_136 (by decide) (fun h136 => ?_) (fun h136 => ?_)
        · have h136 : ¬ (999 : Int32).toInt < v.toInt := by omega
          refine q_iload dX8_step_144 rfl ?_
          refine q_ret dX8_step_146 ?_ rfl rfl
          exact ⟨congrArg some (by simp only [qm_str]; first | rw [if_pos (by assumption)] | (rw [if_neg (by assumption)]; first | rw [if_pos h136] | rw [if_neg h136])), rfl, rfl⟩
        · refine q_bipush (x := (-4)) dX8_step_139 (by decide) ?_
          refine q_goto 146 dX8_step_141 (by decide) ?_
          refine q_ret dX8_step_146 ?_ rfl rfl
          exact ⟨congrArg some (by simp only [qm_str]; first | rw [if_pos (by assumption)] | (rw [if_neg (by assumption)]; first | rw [if_pos h136] | rw [if_neg h136])), rfl, rfl⟩
      · refine q_iload dX8_step_126 rfl ?_
        refine q_goto 146 dX8_step_128 (by decide) ?_
        refine q_ret dX8_step_146 ?_ rfl rfl
        exact ⟨congrArg some (by simp only [qm_str]; first | rw [if_pos (by assumption)] | (rw [if_neg (by assumption)]; first | rw [if_pos h136] | rw [if_neg h136])), rfl, rfl⟩
    · rw [show 51 - s = (51 - (s + 1)) + 1 by omega, qm_st]
      refine q_aload_n dX8_step_49 rfl ?_
      refine q_iload_n dX8_step_50 rfl ?_
      refine q_iload_n dX8_step_51 rfl ?_
      refine q_iload_n dX8_step_52 rfl ?_
      refine q_iload dX8_step_53 rfl ?_
      refine q_iload dX8_step_55 rfl ?_
      refine q_iload dX8_step_57 rfl ?_
      refine q_cVv lX8_277 vX8_holds (ci := 8) rfl dX8_step_59 (kX8_holds hj hN (by omega) hI (hinv s (by omega)) (h0 σ hb)) (by first | rfl | assumption) rfl rfl (Nat.le_of_ble_eq_true rfl) (by decide) ?_
      refine q_aload_n dX8_step_62 rfl ?_
      refine q_get fX8_254 dX8_step_63 (by first | rfl | assumption) (by rfl) ?_
      refine q_bipush (x := (-4)) dX8_step_66 (by decide) ?_
      refine q_icmp_ne 77 dX8_step_68 (by decide) (fun h68 => ?_) (fun h68 => ?_)
      · have hv : (qm_hh σ j (64 * dep) t l (nI s) N) 72 24 = qm_sv (qm_hh σ j (64 * dep) t l (nI s) N) := by rw [qm_sv, if_neg h68]
        refine q_aload_n dX8_step_77 rfl ?_
        refine q_get fX8_254 dX8_step_78 (by first | rfl | assumption) (by rfl) ?_
        refine q_tope hv ?_
        exact sgX8_step (hB σ s (by omega) hb) ih (by omega) (by omega)
      · have hv : (1000 : Int32) = qm_sv (qm_hh σ j (64 * dep) t l (nI s) N) := by rw [qm_sv, if_pos h68]
        refine q_sipush (x := 1000) dX8_step_71 (by decide) ?_
        refine q_goto 81 dX8_step_74 (by decide) ?_
        refine q_tope hv ?_
        exact sgX8_step (hB σ s (by omega) hb) ih (by omega) (by omega)

set_option maxHeartbeats 1000000 in
set_option maxRecDepth 100000 in
theorem kX8_step {σ : q_M} {j l N : Nat} {dep t w : Int32} (hj : j < 6) (hN : N < 1000) (hl : l ≤ 50) {I : q_M → Prop} (hI : ∀ τ, I τ → qm_hok τ) {B : q_M → Prop} (hB : ∀ τ s, s ≤ 50 → B τ → B (qm_hh τ j (64 * dep) t l (nI s) N)) (hinv : ∀ s, s ≤ 50 → ∀ τ i, i < N → I τ → I (qm_hs j l (64 * dep) (nI s) i τ)) (h0 : ∀ τ, B τ → I (qm_h0 τ (64 * dep) t)) (hb : B σ) (hcan : qm_can σ (nI j) dep t (nI N) = true) (hw : q_win w 0 1 = true) : q_Ct YX8_step [.ref 72, .int (nI j), .int dep, .int t, .int (nI l), .int (nI N), .int w] q_SH σ (q_is (some (qm_str (qm_st j (64 * dep) t l N 50 1 0 0 σ).1 w)) q_SH ((qm_st j (64 * dep) t l N 50 1 0 0 σ).2)) := by
  refine q_ct (n := 4) (by decide) (by decide) rfl (fun _ => Nat.le_of_ble_eq_true rfl) (fun E => ?_)
  refine q_aload_n dX8_step_0 rfl ?_
  refine q_iload_n dX8_step_1 rfl ?_
  refine q_iload_n dX8_step_2 rfl ?_
  refine q_iload_n dX8_step_3 rfl ?_
  refine q_iload dX8_step_4 rfl ?_
  refine q_cVi lX8_265 vX8_isHold (ci := 8) rfl dX8_step_6 kX8_isHold (by first | rfl | assumption) rfl rfl (Nat.le_of_ble_eq_true rfl) (by decide) ?_
  refine q_beq 31 dX8_step_9 (by decide) (fun h9 => ?_) (fun h9 => ?_)
  · exact absurd hcan (by rw [h9]; decide)
  · refine q_iload dX8_step_12 rfl ?_
    refine q_cSi lX8_269 sX8_isLate dX8_step_14 kX8_isLate rfl rfl (Nat.le_of_ble_eq_true rfl) (by decide) ?_
    refine q_beq 31 dX8_step_17 (by decide) (fun h17 => ?_) (fun h17 => ?_)
    · exact absurd (show q_win (nI l) 0 50 = true from decide_eq_true (by have := nI_toInt (n := l) (by omega); have e0 : (0 : Int32).toInt = 0 := rfl; have e5 : (50 : Int32).toInt = 50 := rfl; omega)) (by rw [h17]; decide)
    · refine q_iload dX8_step_20 rfl ?_
      refine q_i2l dX8_step_22 ?_
      refine q_lconst (x := 0) dX8_step_23 (by decide) ?_
      refine q_lconst (x := 1) dX8_step_24 (by decide) ?_
      refine q_cSi lX8_72 sX8_in dX8_step_25 (kX8_in (x := w) (lo := 0) (hi := 1) (Int32.toInt_toInt64 _) rfl rfl) rfl rfl (Nat.le_of_ble_eq_true rfl) (by decide) ?_
      refine q_bne 33 dX8_step_28 (by decide) (fun h28 => ?_) (fun h28 => ?_)
      · refine q_iconst (x := 0) dX8_step_33 (by decide) ?_
        refine q_istore dX8_step_34 (by decide) rfl ?_
        refine q_iconst (x := 0) dX8_step_36 (by decide) ?_
        refine q_istore dX8_step_37 (by decide) rfl ?_
        refine q_iconst (x := 1) dX8_step_39 (by decide) ?_
        refine q_istore dX8_step_40 (by decide) rfl ?_
        exact lpX8_step hj hN hl hI hB hinv h0 51 1 0 0 σ (by omega) (by omega) hb
      · exact absurd hw (by rw [h28]; decide)

set_option maxHeartbeats 1000000 in
set_option maxRecDepth 100000 in
theorem kX8_stepB {σ : q_M} {k d t l n w : Int32} (hbad : (qm_can σ k d t n && q_win l 0 50 && q_win w 0 1) = false) : q_Ct YX8_step [.ref 72, .int k, .int d, .int t, .int l, .int n, .int w] q_SH σ (q_is (some (-1)) q_SH σ) := by
  refine q_ct (n := 4) (by decide) (by decide) rfl (fun _ => Nat.le_of_ble_eq_true rfl) (fun E => ?_)
  refine q_aload_n dX8_step_0 rfl ?_
  refine q_iload_n dX8_step_1 rfl ?_
  refine q_iload_n dX8_step_2 rfl ?_
  refine q_iload_n dX8_step_3 rfl ?_
  refine q_iload dX8_step_4 rfl ?_
  refine q_cVi lX8_265 vX8_isHold (ci := 8) rfl dX8_step_6 kX8_isHold (by first | rfl | assumption) rfl rfl (Nat.le_of_ble_eq_true rfl) (by decide) ?_
  refine q_beq 31 dX8_step_9 (by decide) (fun h9 => ?_) (fun h9 => ?_)
  · refine q_iconst (x := (-1)) dX8_step_31 (by decide) ?_
    refine q_ret dX8_step_32 ?_ rfl rfl
    exact ⟨rfl, rfl, rfl⟩
  · refine q_iload dX8_step_12 rfl ?_
    refine q_cSi lX8_269 sX8_isLate dX8_step_14 kX8_isLate rfl rfl (Nat.le_of_ble_eq_true rfl) (by decide) ?_
    refine q_beq 31 dX8_step_17 (by decide) (fun h17 => ?_) (fun h17 => ?_)
    · refine q_iconst (x := (-1)) dX8_step_31 (by decide) ?_
      refine q_ret dX8_step_32 ?_ rfl rfl
      exact ⟨rfl, rfl, rfl⟩
    · refine q_iload dX8_step_20 rfl ?_
      refine q_i2l dX8_step_22 ?_
      refine q_lconst (x := 0) dX8_step_23 (by decide) ?_
      refine q_lconst (x := 1) dX8_step_24 (by decide) ?_
      refine q_cSi lX8_72 sX8_in dX8_step_25 (kX8_in (x := w) (lo := 0) (hi := 1) (Int32.toInt_toInt64 _) rfl rfl) rfl rfl (Nat.le_of_ble_eq_true rfl) (by decide) ?_
      refine q_bne 33 dX8_step_28 (by decide) (fun h28 => ?_) (fun h28 => ?_)
      · exact absurd hbad (by simp [*])
      · refine q_iconst (x := (-1)) dX8_step_31 (by decide) ?_
        refine q_ret dX8_step_32 ?_ rfl rfl
        exact ⟨rfl, rfl, rfl⟩
