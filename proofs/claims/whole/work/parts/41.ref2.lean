/-! the reference: depths, thumbs, ticks -/
theorem q_m1 (x : Int32) : x + (-1) = x - 1 := by rw [Int32.sub_eq_add_neg]

def q_dmf (σ : q_M) (j : Nat) : Nat → Int32
  | 6 => σ 73 (8 * j + 6) / 64
  | 7 => σ 73 (8 * j + 6)
  | 8 => σ 73 (8 * j + 7)
  | 9 => q_Wm σ j (σ 73 (8 * j + 6) / 64) (σ 73 48)
  | w => σ 73 (8 * j + w)

set_option maxHeartbeats 1000000 in
set_option maxRecDepth 100000 in
theorem kX8_diverB {σ : q_M} {k w : Int32} (hbad : (q_win k 0 (σ 73 53 - 1) && q_win w 0 9) = false) : q_Ct YX8_diver [.ref 72, .int k, .int w] q_SH σ (q_is (some (-1000000)) q_SH σ) := by
  refine q_ct (n := 1) (by decide) (by decide) rfl (fun _ => Nat.le_of_ble_eq_true rfl) (fun E => ?_)
  refine q_aload_n dX8_diver_0 rfl ?_
  refine q_iload_n dX8_diver_1 rfl ?_
  refine q_cVi lX8_163 vX8_isDiver (ci := 8) rfl dX8_diver_2 kX8_isDiver (by first | rfl | assumption) rfl rfl (Nat.le_of_ble_eq_true rfl) (by decide) ?_
  refine q_beq 20 dX8_diver_5 (by decide) (fun h5 => ?_) (fun h5 => ?_)
  · refine q_ldc kX8_169 dX8_diver_20 ?_
    refine q_ret dX8_diver_22 ?_ rfl rfl
    exact ⟨rfl, rfl, rfl⟩
  · refine q_iload_n dX8_diver_8 rfl ?_
    refine q_i2l dX8_diver_9 ?_
    refine q_lconst (x := 0) dX8_diver_10 (by decide) ?_
    refine q_ldc2 kX8_167 dX8_diver_11 ?_
    refine q_cSi lX8_72 sX8_in dX8_diver_14 (kX8_in (x := w) (lo := 0) (hi := 9) (Int32.toInt_toInt64 _) rfl rfl) rfl rfl (Nat.le_of_ble_eq_true rfl) (by decide) ?_
    refine q_bne 23 dX8_diver_17 (by decide) (fun h17 => ?_) (fun h17 => ?_)
    · exact absurd hbad (by simp [*])
    · refine q_ldc kX8_169 dX8_diver_20 ?_
      refine q_ret dX8_diver_22 ?_ rfl rfl
      exact ⟨rfl, rfl, rfl⟩

set_option maxHeartbeats 1000000 in
set_option maxRecDepth 100000 in
theorem kX8_diver {σ : q_M} {j : Nat} (hj : j < 6) (hk : q_win (nI j) 0 (σ 73 53 - 1) = true) {w : Nat} (hw : w < 10) (hp : 0 < (σ 75 1 + σ 73 48 + σ 73 (8 * j + 6) / 64).toInt) : q_Ct YX8_diver [.ref 72, .int (nI j), .int (nI w)] q_SH σ (q_is (some (q_dmf σ j w)) q_SH σ) := by
  refine q_ct (n := 1) (by decide) (by decide) rfl (fun _ => Nat.le_of_ble_eq_true rfl) (fun E => ?_)
  have hwt := nI_toInt (n := w) (by omega)
  have e6 : (6 : Int32).toInt = 6 := rfl
  refine q_aload_n dX8_diver_0 rfl ?_
  refine q_iload_n dX8_diver_1 rfl ?_
  refine q_cVi lX8_163 vX8_isDiver (ci := 8) rfl dX8_diver_2 kX8_isDiver (by first | rfl | assumption) rfl rfl (Nat.le_of_ble_eq_true rfl) (by decide) ?_
  refine q_beq 20 dX8_diver_5 (by decide) (fun h5 => ?_) (fun h5 => ?_)
  · exact absurd hk (by rw [h5]; decide)
  · refine q_iload_n dX8_diver_8 rfl ?_
    refine q_i2l dX8_diver_9 ?_
    refine q_lconst (x := 0) dX8_diver_10 (by decide) ?_
    refine q_ldc2 kX8_167 dX8_diver_11 ?_
    refine q_cSi lX8_72 sX8_in dX8_diver_14 (kX8_in (x := (nI w)) (lo := 0) (hi := 9) (Int32.toInt_toInt64 _) rfl rfl) rfl rfl (Nat.le_of_ble_eq_true rfl) (by decide) ?_
    refine q_bne 23 dX8_diver_17 (by decide) (fun h17 => ?_) (fun h17 => ?_)
    · refine q_aload_n dX8_diver_23 rfl ?_
      refine q_iload_n dX8_diver_24 rfl ?_
      refine q_bipush (x := 6) dX8_diver_25 (by decide) ?_
      refine q_cVi lX8_153 vX8_of (ci := 8) rfl dX8_diver_27 (kX8_of (w := 6) hj (by decide)) (by first | rfl | assumption) rfl rfl (Nat.le_of_ble_eq_true rfl) (by decide) ?_
      refine q_bipush (x := 64) dX8_diver_30 (by decide) ?_
      refine q_idiv (by decide) dX8_diver_32 ?_
      refine q_istore_n dX8_diver_33 (by decide) rfl ?_
      refine q_iload_n dX8_diver_34 rfl ?_
      refine q_bipush (x := 6) dX8_diver_35 (by decide) ?_
      refine q_cge 49 dX8_diver_37 (by decide) (fun h37 => ?_) (fun h37 => ?_)
      · refine q_iload_n dX8_diver_49 rfl ?_
        refine q_bipush (x := 6) dX8_diver_50 (by decide) ?_
        refine q_icmp_ne 59 dX8_diver_52 (by decide) (fun h52 => ?_) (fun h52 => ?_)
        · refine q_iload_n dX8_diver_59 rfl ?_
          refine q_bipush (x := 7) dX8_diver_60 (by decide) ?_
          refine q_icmp_ne 75 dX8_diver_62 (by decide) (fun h62 => ?_) (fun h62 => ?_)
          · refine q_iload_n dX8_diver_75 rfl ?_
            refine q_bipush (x := 8) dX8_diver_76 (by decide) ?_
            refine q_icmp_ne 91 dX8_diver_78 (by decide) (fun h78 => ?_) (fun h78 => ?_)
            · refine q_aload_n dX8_diver_91 rfl ?_
              refine q_iload_n dX8_diver_92 rfl ?_
              refine q_iload_n dX8_diver_93 rfl ?_
              refine q_aload_n dX8_diver_94 rfl ?_
              refine q_getr fX8_7 dX8_diver_95 (by first | rfl | assumption) (by rfl) ?_
              refine q_bipush (x := 48) dX8_diver_98 (by decide) ?_
              refine q_ild 48 (by first | rfl | assumption) rfl (by decide) dX8_diver_100 ?_
              refine q_cVi lX8_170 vX8_weighsAt (ci := 8) rfl dX8_diver_101 (kX8_weighsAt hj hp) (by first | rfl | assumption) rfl rfl (Nat.le_of_ble_eq_true rfl) (by decide) ?_
              refine q_ret dX8_diver_104 ?_ rfl rfl
              rcases (show w = 0 ∨ w = 1 ∨ w = 2 ∨ w = 3 ∨ w = 4 ∨ w = 5 ∨ w = 6 ∨ w = 7 ∨ w = 8 ∨ w = 9 by omega) with rfl | rfl | rfl | rfl | rfl | rfl | rfl | rfl | rfl | rfl
              all_goals first
                | exact ⟨rfl, rfl, rfl⟩
                | exact absurd h37 (by omega)
                | exact absurd h52 (by decide)
                | exact absurd h62 (by decide)
                | exact absurd h78 (by decide)
            · refine q_aload_n dX8_diver_81 rfl ?_
              refine q_iload_n dX8_diver_82 rfl ?_
              refine q_bipush (x := 7) dX8_diver_83 (by decide) ?_
              refine q_cVi lX8_153 vX8_of (ci := 8) rfl dX8_diver_85 (kX8_of (w := 7) hj (by decide)) (by first | rfl | assumption) rfl rfl (Nat.le_of_ble_eq_true rfl) (by decide) ?_
              refine q_goto 104 dX8_diver_88 (by decide) ?_
              refine q_ret dX8_diver_104 ?_ rfl rfl
              rcases (show w = 0 ∨ w = 1 ∨ w = 2 ∨ w = 3 ∨ w = 4 ∨ w = 5 ∨ w = 6 ∨ w = 7 ∨ w = 8 ∨ w = 9 by omega) with rfl | rfl | rfl | rfl | rfl | rfl | rfl | rfl | rfl | rfl
              all_goals first
                | exact ⟨rfl, rfl, rfl⟩
                | exact absurd h37 (by omega)
                | exact absurd h52 (by decide)
                | exact absurd h62 (by decide)
                | exact absurd h78 (by decide)
          · refine q_aload_n dX8_diver_65 rfl ?_
            refine q_iload_n dX8_diver_66 rfl ?_
            refine q_bipush (x := 6) dX8_diver_67 (by decide) ?_
            refine q_cVi lX8_153 vX8_of (ci := 8) rfl dX8_diver_69 (kX8_of (w := 6) hj (by decide)) (by first | rfl | assumption) rfl rfl (Nat.le_of_ble_eq_true rfl) (by decide) ?_
            refine q_goto 104 dX8_diver_72 (by decide) ?_
            refine q_ret dX8_diver_104 ?_ rfl rfl
            rcases (show w = 0 ∨ w = 1 ∨ w = 2 ∨ w = 3 ∨ w = 4 ∨ w = 5 ∨ w = 6 ∨ w = 7 ∨ w = 8 ∨ w = 9 by omega) with rfl | rfl | rfl | rfl | rfl | rfl | rfl | rfl | rfl | rfl
            all_goals first
              | exact ⟨rfl, rfl, rfl⟩
              | exact absurd h37 (by omega)
              | exact absurd h52 (by decide)
              | exact absurd h62 (by decide)
              | exact absurd h78 (by decide)
        · refine q_iload_n dX8_diver_55 rfl ?_
          refine q_goto 104 dX8_diver_56 (by decide) ?_
          refine q_ret dX8_diver_104 ?_ rfl rfl
          rcases (show w = 0 ∨ w = 1 ∨ w = 2 ∨ w = 3 ∨ w = 4 ∨ w = 5 ∨ w = 6 ∨ w = 7 ∨ w = 8 ∨ w = 9 by omega) with rfl | rfl | rfl | rfl | rfl | rfl | rfl | rfl | rfl | rfl
          all_goals first
            | exact ⟨rfl, rfl, rfl⟩
            | exact absurd h37 (by omega)
            | exact absurd h52 (by decide)
            | exact absurd h62 (by decide)
            | exact absurd h78 (by decide)
      · refine q_aload_n dX8_diver_40 rfl ?_
        refine q_iload_n dX8_diver_41 rfl ?_
        refine q_iload_n dX8_diver_42 rfl ?_
        refine q_cVi lX8_153 vX8_of (ci := 8) rfl dX8_diver_43 (kX8_of hj (by omega)) (by first | rfl | assumption) rfl rfl (Nat.le_of_ble_eq_true rfl) (by decide) ?_
        refine q_goto 104 dX8_diver_46 (by decide) ?_
        refine q_ret dX8_diver_104 ?_ rfl rfl
        rcases (show w = 0 ∨ w = 1 ∨ w = 2 ∨ w = 3 ∨ w = 4 ∨ w = 5 ∨ w = 6 ∨ w = 7 ∨ w = 8 ∨ w = 9 by omega) with rfl | rfl | rfl | rfl | rfl | rfl | rfl | rfl | rfl | rfl
        all_goals first
          | exact ⟨rfl, rfl, rfl⟩
          | exact absurd h37 (by omega)
          | exact absurd h52 (by decide)
          | exact absurd h62 (by decide)
          | exact absurd h78 (by decide)
    · exact absurd h17 (by rw [show q_win (nI w) 0 9 = true from decide_eq_true (by have e2 : (0 : Int32).toInt = 0 := rfl; have e6 : (9 : Int32).toInt = 9 := rfl; omega)]; decide)

def q_dn (p : Nat → Bool) : Nat → Int32 → Int32
  | 0, f => f
  | n + 1, f => q_dn p n (if p n then nI n else f)

set_option maxHeartbeats 1000000 in
set_option maxRecDepth 100000 in
theorem lpX8_turning {E : q_E} {σ : q_M} {ar : Nat} (hA : σ 75 1 = nI ar) (hA1 : 1 ≤ ar) (hA2 : ar ≤ 100000) {j t : Nat} (hj : j < 6) (ht : t ≤ 500) : ∀ (n : Nat) (m : Nat) (f : Int32), m + 1 ≤ n → m ≤ 201 → q_G YX8_turning E 0 0 28 [some (.ref 72), some (.int (nI j)), some (.int (nI t)), some (.int f), some (.int (nI m - 1))] [] q_SH σ (q_is (some (q_dn (fun i => decide (0 ≤ (q_Wm σ j (nI i) (nI t)).toInt)) m f)) q_SH σ) := by
  intro n
  induction n with
  | zero =>
    intro m f hm h0
    exact absurd hm (by omega)
  | succ n ih =>
    intro m f hm h0
    have hmt := pk_sub_toInt (a := m) (b := 1) (by omega) (by omega)
    have hmt : (nI m - 1).toInt = (m : Int) - 1 := hmt
    refine q_iload dX8_turning_28 rfl ?_
    refine q_zlt 57 dX8_turning_30 (by decide) (fun h30 => ?_) (fun h30 => ?_)
    · have e : m = 0 := by omega
      subst e
      refine q_iload_n dX8_turning_57 rfl ?_
      refine q_ret dX8_turning_58 ?_ rfl rfl
      exact ⟨rfl, rfl, rfl⟩
    · obtain ⟨i, rfl⟩ : ∃ i, m = i + 1 := ⟨m - 1, by omega⟩
      rw [nI_pred]
      refine q_aload_n dX8_turning_33 rfl ?_
      refine q_iload_n dX8_turning_34 rfl ?_
      refine q_iload dX8_turning_35 rfl ?_
      refine q_iload_n dX8_turning_37 rfl ?_
      refine q_cVi lX8_170 vX8_weighsAt (ci := 8) rfl dX8_turning_38 (kX8_weighsAt hj (q_pr (t := t) (d := i) hA hA1 hA2 (by omega) (by omega))) (by first | rfl | assumption) rfl rfl (Nat.le_of_ble_eq_true rfl) (by decide) ?_
      refine q_zlt 49 dX8_turning_41 (by decide) (fun h41 => ?_) (fun h41 => ?_)
      · have hp : decide (0 ≤ (q_Wm σ j (nI i) (nI t)).toInt) = false := decide_eq_false (by omega)
        refine q_iload_n dX8_turning_49 rfl ?_
        refine q_istore_n dX8_turning_50 (by decide) rfl ?_
        refine q_inc (-1) dX8_turning_51 (by decide) rfl (by decide) rfl ?_
        refine q_goto 28 dX8_turning_54 (by decide) ?_
        rw [q_m1]
        rw [q_dn]
        first
          | (rw [if_pos hp]; exact ih i _ (by omega) (by omega))
          | (rw [if_neg (fun z => absurd (z.symm.trans hp) (by decide))]; exact ih i _ (by omega) (by omega))
      · have hp : decide (0 ≤ (q_Wm σ j (nI i) (nI t)).toInt) = true := decide_eq_true h41
        refine q_iload dX8_turning_44 rfl ?_
        refine q_goto 50 dX8_turning_46 (by decide) ?_
        refine q_istore_n dX8_turning_50 (by decide) rfl ?_
        refine q_inc (-1) dX8_turning_51 (by decide) rfl (by decide) rfl ?_
        refine q_goto 28 dX8_turning_54 (by decide) ?_
        rw [q_m1]
        rw [q_dn]
        first
          | (rw [if_pos hp]; exact ih i _ (by omega) (by omega))
          | (rw [if_neg (fun z => absurd (z.symm.trans hp) (by decide))]; exact ih i _ (by omega) (by omega))

set_option maxHeartbeats 1000000 in
set_option maxRecDepth 100000 in
theorem kX8_turningB {σ : q_M} {k th : Int32} (hbad : (q_win k 0 (σ 73 53 - 1) && q_win th 0 500) = false) : q_Ct YX8_turning [.ref 72, .int k, .int th] q_SH σ (q_is (some (-1)) q_SH σ) := by
  refine q_ct (n := 2) (by decide) (by decide) rfl (fun _ => Nat.le_of_ble_eq_true rfl) (fun E => ?_)
  refine q_aload_n dX8_turning_0 rfl ?_
  refine q_iload_n dX8_turning_1 rfl ?_
  refine q_cVi lX8_163 vX8_isDiver (ci := 8) rfl dX8_turning_2 kX8_isDiver (by first | rfl | assumption) rfl rfl (Nat.le_of_ble_eq_true rfl) (by decide) ?_
  refine q_beq 15 dX8_turning_5 (by decide) (fun h5 => ?_) (fun h5 => ?_)
  · refine q_iconst (x := (-1)) dX8_turning_15 (by decide) ?_
    refine q_ret dX8_turning_16 ?_ rfl rfl
    exact ⟨rfl, rfl, rfl⟩
  · refine q_iload_n dX8_turning_8 rfl ?_
    refine q_cSi lX8_174 sX8_isThumb dX8_turning_9 kX8_isThumb rfl rfl (Nat.le_of_ble_eq_true rfl) (by decide) ?_
    refine q_bne 17 dX8_turning_12 (by decide) (fun h12 => ?_) (fun h12 => ?_)
    · exact absurd hbad (by simp [*])
    · refine q_iconst (x := (-1)) dX8_turning_15 (by decide) ?_
      refine q_ret dX8_turning_16 ?_ rfl rfl
      exact ⟨rfl, rfl, rfl⟩

set_option maxHeartbeats 1000000 in
set_option maxRecDepth 100000 in
theorem kX8_turning {σ : q_M} {ar : Nat} (hA : σ 75 1 = nI ar) (hA1 : 1 ≤ ar) (hA2 : ar ≤ 100000) {H : Nat} (hH : σ 75 0 = nI H) (h200 : H ≤ 200) {j t : Nat} (hj : j < 6) (hk : q_win (nI j) 0 (σ 73 53 - 1) = true) (ht : t ≤ 500) : q_Ct YX8_turning [.ref 72, .int (nI j), .int (nI t)] q_SH σ (q_is (some (q_dn (fun i => decide (0 ≤ (q_Wm σ j (nI i) (nI t)).toInt)) (H + 1) (-4))) q_SH σ) := by
  refine q_ct (n := 2) (by decide) (by decide) rfl (fun _ => Nat.le_of_ble_eq_true rfl) (fun E => ?_)
  have htt := nI_toInt (n := t) (by omega)
  refine q_aload_n dX8_turning_0 rfl ?_
  refine q_iload_n dX8_turning_1 rfl ?_
  refine q_cVi lX8_163 vX8_isDiver (ci := 8) rfl dX8_turning_2 kX8_isDiver (by first | rfl | assumption) rfl rfl (Nat.le_of_ble_eq_true rfl) (by decide) ?_
  refine q_beq 15 dX8_turning_5 (by decide) (fun h5 => ?_) (fun h5 => ?_)
  · exact absurd hk (by rw [h5]; decide)
  · refine q_iload_n dX8_turning_8 rfl ?_
    refine q_cSi lX8_174 sX8_isThumb dX8_turning_9 kX8_isThumb rfl rfl (Nat.le_of_ble_eq_true rfl) (by decide) ?_
    refine q_bne 17 dX8_turning_12 (by decide) (fun h12 => ?_) (fun h12 => ?_)
    · refine q_bipush (x := (-4)) dX8_turning_17 (by decide) ?_
      refine q_istore_n dX8_turning_19 (by decide) rfl ?_
      refine q_aload_n dX8_turning_20 rfl ?_
      refine q_getr fX8_17 dX8_turning_21 (by first | rfl | assumption) (by rfl) ?_
      refine q_iconst (x := 0) dX8_turning_24 (by decide) ?_
      refine q_ild 0 (by first | rfl | assumption) rfl (by decide) dX8_turning_25 ?_
      refine q_istore dX8_turning_26 (by decide) rfl ?_
      rw [hH]
      have z := lpX8_turning (E := E) hA hA1 hA2 hj ht (H + 2) (H + 1) (-4) (by omega) (by omega)
      rw [nI_pred] at z
      exact z
    · exact absurd h12 (by rw [show q_win (nI t) 0 500 = true from decide_eq_true (by have e2 : (0 : Int32).toInt = 0 := rfl; have e6 : (500 : Int32).toInt = 500 := rfl; omega)]; decide)

def q_dn1 (p : Nat → Bool) : Nat → Int32 → Int32
  | 0, f => f
  | n + 1, f => q_dn1 p n (if p (n + 1) then nI (n + 1) else f)

set_option maxHeartbeats 1000000 in
set_option maxRecDepth 100000 in
theorem lpX8_holding {E : q_E} {σ : q_M} {ar : Nat} (hA : σ 75 1 = nI ar) (hA1 : 1 ≤ ar) (hA2 : ar ≤ 100000) {j t : Nat} (hj : j < 6) (ht : t ≤ 500) : ∀ (n : Nat) (m : Nat) (f : Int32), m + 1 ≤ n → m ≤ 200 → q_G YX8_holding E 0 0 28 [some (.ref 72), some (.int (nI j)), some (.int (nI t)), some (.int f), some (.int (nI m))] [] q_SH σ (q_is (some (q_dn1 (fun i => decide ((q_Wm σ j (nI i) (nI t)).toInt ≤ 0 ∧ 0 < (q_Wm σ j (nI (i - 1)) (nI t)).toInt)) m f)) q_SH σ) := by
  intro n
  induction n with
  | zero =>
    intro m f hm h0
    exact absurd hm (by omega)
  | succ n ih =>
    intro m f hm h0
    have hmt := nI_toInt (n := m) (by omega)
    refine q_iload dX8_holding_28 rfl ?_
    refine q_zle 70 dX8_holding_30 (by decide) (fun h30 => ?_) (fun h30 => ?_)
    · have e : m = 0 := by omega
      subst e
      refine q_iload_n dX8_holding_70 rfl ?_
      refine q_ret dX8_holding_71 ?_ rfl rfl
      exact ⟨rfl, rfl, rfl⟩
    · obtain ⟨i, rfl⟩ : ∃ i, m = i + 1 := ⟨m - 1, by omega⟩
      refine q_aload_n dX8_holding_33 rfl ?_
      refine q_iload_n dX8_holding_34 rfl ?_
      refine q_iload dX8_holding_35 rfl ?_
      refine q_iload_n dX8_holding_37 rfl ?_
      refine q_cVi lX8_170 vX8_weighsAt (ci := 8) rfl dX8_holding_38 (kX8_weighsAt hj (q_pr (t := t) (d := (i + 1)) hA hA1 hA2 (by omega) (by omega))) (by first | rfl | assumption) rfl rfl (Nat.le_of_ble_eq_true rfl) (by decide) ?_
      refine q_zgt 62 dX8_holding_41 (by decide) (fun h41 => ?_) (fun h41 => ?_)
      · have hp : ((fun i => decide ((q_Wm σ j (nI i) (nI t)).toInt ≤ 0 ∧ 0 < (q_Wm σ j (nI (i - 1)) (nI t)).toInt))) (i + 1) = false := decide_eq_false (by omega)
        refine q_iload_n dX8_holding_62 rfl ?_
        refine q_istore_n dX8_holding_63 (by decide) rfl ?_
        refine q_inc (-1) dX8_holding_64 (by decide) rfl (by decide) rfl ?_
        refine q_goto 28 dX8_holding_67 (by decide) ?_
        rw [show nI (i + 1) + (-1) = nI i from pk_m1 i]
        rw [q_dn1]
        first
          | (rw [if_pos hp]; exact ih i _ (by omega) (by omega))
          | (rw [if_neg (fun z => absurd (z.symm.trans hp) (by decide))]; exact ih i _ (by omega) (by omega))
      · refine q_aload_n dX8_holding_44 rfl ?_
        refine q_iload_n dX8_holding_45 rfl ?_
        refine q_iload dX8_holding_46 rfl ?_
        refine q_iconst (x := 1) dX8_holding_48 (by decide) ?_
        refine q_isub dX8_holding_49 ?_
        rw [nI_pred]
        refine q_iload_n dX8_holding_50 rfl ?_
        refine q_cVi lX8_170 vX8_weighsAt (ci := 8) rfl dX8_holding_51 (kX8_weighsAt hj (q_pr (t := t) (d := i) hA hA1 hA2 (by omega) (by omega))) (by first | rfl | assumption) rfl rfl (Nat.le_of_ble_eq_true rfl) (by decide) ?_
        refine q_zle 62 dX8_holding_54 (by decide) (fun h54 => ?_) (fun h54 => ?_)
        · have hp : ((fun i => decide ((q_Wm σ j (nI i) (nI t)).toInt ≤ 0 ∧ 0 < (q_Wm σ j (nI (i - 1)) (nI t)).toInt))) (i + 1) = false := decide_eq_false (by show ¬ (_ ∧ 0 < (q_Wm σ j (nI i) (nI t)).toInt); omega)
          refine q_iload_n dX8_holding_62 rfl ?_
          refine q_istore_n dX8_holding_63 (by decide) rfl ?_
          refine q_inc (-1) dX8_holding_64 (by decide) rfl (by decide) rfl ?_
          refine q_goto 28 dX8_holding_67 (by decide) ?_
          rw [show nI (i + 1) + (-1) = nI i from pk_m1 i]
          rw [q_dn1]
          first
            | (rw [if_pos hp]; exact ih i _ (by omega) (by omega))
            | (rw [if_neg (fun z => absurd (z.symm.trans hp) (by decide))]; exact ih i _ (by omega) (by omega))
        · have hp : ((fun i => decide ((q_Wm σ j (nI i) (nI t)).toInt ≤ 0 ∧ 0 < (q_Wm σ j (nI (i - 1)) (nI t)).toInt))) (i + 1) = true := decide_eq_true ⟨h41, h54⟩
          refine q_iload dX8_holding_57 rfl ?_
          refine q_goto 63 dX8_holding_59 (by decide) ?_
          refine q_istore_n dX8_holding_63 (by decide) rfl ?_
          refine q_inc (-1) dX8_holding_64 (by decide) rfl (by decide) rfl ?_
          refine q_goto 28 dX8_holding_67 (by decide) ?_
          rw [show nI (i + 1) + (-1) = nI i from pk_m1 i]
          rw [q_dn1]
          first
            | (rw [if_pos hp]; exact ih i _ (by omega) (by omega))
            | (rw [if_neg (fun z => absurd (z.symm.trans hp) (by decide))]; exact ih i _ (by omega) (by omega))

set_option maxHeartbeats 1000000 in
set_option maxRecDepth 100000 in
theorem kX8_holdingB {σ : q_M} {k th : Int32} (hbad : (q_win k 0 (σ 73 53 - 1) && q_win th 0 500) = false) : q_Ct YX8_holding [.ref 72, .int k, .int th] q_SH σ (q_is (some (-1)) q_SH σ) := by
  refine q_ct (n := 2) (by decide) (by decide) rfl (fun _ => Nat.le_of_ble_eq_true rfl) (fun E => ?_)
  refine q_aload_n dX8_holding_0 rfl ?_
  refine q_iload_n dX8_holding_1 rfl ?_
  refine q_cVi lX8_163 vX8_isDiver (ci := 8) rfl dX8_holding_2 kX8_isDiver (by first | rfl | assumption) rfl rfl (Nat.le_of_ble_eq_true rfl) (by decide) ?_
  refine q_beq 15 dX8_holding_5 (by decide) (fun h5 => ?_) (fun h5 => ?_)
  · refine q_iconst (x := (-1)) dX8_holding_15 (by decide) ?_
    refine q_ret dX8_holding_16 ?_ rfl rfl
    exact ⟨rfl, rfl, rfl⟩
  · refine q_iload_n dX8_holding_8 rfl ?_
    refine q_cSi lX8_174 sX8_isThumb dX8_holding_9 kX8_isThumb rfl rfl (Nat.le_of_ble_eq_true rfl) (by decide) ?_
    refine q_bne 17 dX8_holding_12 (by decide) (fun h12 => ?_) (fun h12 => ?_)
    · exact absurd hbad (by simp [*])
    · refine q_iconst (x := (-1)) dX8_holding_15 (by decide) ?_
      refine q_ret dX8_holding_16 ?_ rfl rfl
      exact ⟨rfl, rfl, rfl⟩

set_option maxHeartbeats 1000000 in
set_option maxRecDepth 100000 in
theorem kX8_holding {σ : q_M} {ar : Nat} (hA : σ 75 1 = nI ar) (hA1 : 1 ≤ ar) (hA2 : ar ≤ 100000) {H : Nat} (hH : σ 75 0 = nI H) (h200 : H ≤ 200) {j t : Nat} (hj : j < 6) (hk : q_win (nI j) 0 (σ 73 53 - 1) = true) (ht : t ≤ 500) : q_Ct YX8_holding [.ref 72, .int (nI j), .int (nI t)] q_SH σ (q_is (some (q_dn1 (fun i => decide ((q_Wm σ j (nI i) (nI t)).toInt ≤ 0 ∧ 0 < (q_Wm σ j (nI (i - 1)) (nI t)).toInt)) H (-4))) q_SH σ) := by
  refine q_ct (n := 2) (by decide) (by decide) rfl (fun _ => Nat.le_of_ble_eq_true rfl) (fun E => ?_)
  have htt := nI_toInt (n := t) (by omega)
  refine q_aload_n dX8_holding_0 rfl ?_
  refine q_iload_n dX8_holding_1 rfl ?_
  refine q_cVi lX8_163 vX8_isDiver (ci := 8) rfl dX8_holding_2 kX8_isDiver (by first | rfl | assumption) rfl rfl (Nat.le_of_ble_eq_true rfl) (by decide) ?_
  refine q_beq 15 dX8_holding_5 (by decide) (fun h5 => ?_) (fun h5 => ?_)
  · exact absurd hk (by rw [h5]; decide)
  · refine q_iload_n dX8_holding_8 rfl ?_
    refine q_cSi lX8_174 sX8_isThumb dX8_holding_9 kX8_isThumb rfl rfl (Nat.le_of_ble_eq_true rfl) (by decide) ?_
    refine q_bne 17 dX8_holding_12 (by decide) (fun h12 => ?_) (fun h12 => ?_)
    · refine q_bipush (x := (-4)) dX8_holding_17 (by decide) ?_
      refine q_istore_n dX8_holding_19 (by decide) rfl ?_
      refine q_aload_n dX8_holding_20 rfl ?_
      refine q_getr fX8_17 dX8_holding_21 (by first | rfl | assumption) (by rfl) ?_
      refine q_iconst (x := 0) dX8_holding_24 (by decide) ?_
      refine q_ild 0 (by first | rfl | assumption) rfl (by decide) dX8_holding_25 ?_
      refine q_istore dX8_holding_26 (by decide) rfl ?_
      rw [hH]
      exact lpX8_holding (E := E) hA hA1 hA2 hj ht (H + 1) H (-4) (by omega) (by omega)
    · exact absurd h12 (by rw [show q_win (nI t) 0 500 = true from decide_eq_true (by have e2 : (0 : Int32).toInt = 0 := rfl; have e6 : (500 : Int32).toInt = 500 := rfl; omega)]; decide)

set_option maxHeartbeats 1000000 in
set_option maxRecDepth 100000 in
theorem lpX8_back {E : q_E} {σ : q_M} {ar : Nat} (hA : σ 75 1 = nI ar) (hA1 : 1 ≤ ar) (hA2 : ar ≤ 100000) {H : Nat} (hH : σ 75 0 = nI H) (h200 : H ≤ 200) {j : Nat} (hj : j < 6) : ∀ (n : Nat) (i : Nat), H + 1 + 1 ≤ i + n → i ≤ H + 1 → q_G YX8_back E 0 0 12 [some (.ref 72), some (.int (nI j)), some (.int (nI i))] [] q_SH σ (q_is (some ((if q_fN (fun i => decide (0 ≤ (q_Wm σ j (nI i) 0).toInt)) (H + 1) (H + 1 - i) = 0 then -4 else nI (q_fN (fun i => decide (0 ≤ (q_Wm σ j (nI i) 0).toInt)) (H + 1) (H + 1 - i) - 1)))) q_SH σ) := by
  intro n
  induction n with
  | zero =>
    intro i hm h0
    exact absurd hm (by omega)
  | succ n ih =>
    intro i hm h0
    have hi := nI_toInt (n := i) (by omega)
    have hHt := nI_toInt (n := H) (by omega)
    refine q_iload_n dX8_back_12 rfl ?_
    refine q_aload_n dX8_back_13 rfl ?_
    refine q_getr fX8_17 dX8_back_14 (by first | rfl | assumption) (by rfl) ?_
    refine q_iconst (x := 0) dX8_back_17 (by decide) ?_
    refine q_ild 0 (by first | rfl | assumption) rfl (by decide) dX8_back_18 ?_
    rw [hH]
    refine q_cgt 38 dX8_back_19 (by decide) (fun h19 => ?_) (fun h19 => ?_)
    · have eF : q_fN (fun i => decide (0 ≤ (q_Wm σ j (nI i) 0).toInt)) (H + 1) (H + 1 - i) = i := by rw [show H + 1 - i = 0 by omega, q_fN]; omega
      refine q_iload_n dX8_back_38 rfl ?_
      refine q_if_ne 47 dX8_back_39 (by decide) (fun h39 => ?_) (fun h39 => ?_)
      · have e0 : ¬ i = 0 := fun e => h39 (by rw [e]; rfl)
        refine q_iload_n dX8_back_47 rfl ?_
        refine q_iconst (x := 1) dX8_back_48 (by decide) ?_
        refine q_isub dX8_back_49 ?_
        
        refine q_ret dX8_back_50 ?_ rfl rfl
        exact ⟨congrArg some (by rw [eF]; first | rw [if_pos e0] | (rw [if_neg e0]; exact (by obtain ⟨q, rfl⟩ : ∃ q, i = q + 1 := ⟨i - 1, by omega⟩; rw [nI_pred]; rfl))), rfl, rfl⟩
      · have e0 : i = 0 := by
          have z := congrArg Int32.toInt h39
          rw [hi] at z
          have e : (0 : Int32).toInt = 0 := rfl
          omega
        refine q_bipush (x := (-4)) dX8_back_42 (by decide) ?_
        refine q_goto 50 dX8_back_44 (by decide) ?_
        
        refine q_ret dX8_back_50 ?_ rfl rfl
        exact ⟨congrArg some (by rw [eF]; first | rw [if_pos e0] | (rw [if_neg e0]; exact (by obtain ⟨q, rfl⟩ : ∃ q, i = q + 1 := ⟨i - 1, by omega⟩; rw [nI_pred]; rfl))), rfl, rfl⟩
    · refine q_aload_n dX8_back_22 rfl ?_
      refine q_iload_n dX8_back_23 rfl ?_
      refine q_iload_n dX8_back_24 rfl ?_
      refine q_iconst (x := 0) dX8_back_25 (by decide) ?_
      refine q_cVi lX8_170 vX8_weighsAt (ci := 8) rfl dX8_back_26 (kX8_weighsAt (th := 0) hj (q_pr (t := 0) (d := i) hA hA1 hA2 (by omega) (by omega))) (by first | rfl | assumption) rfl rfl (Nat.le_of_ble_eq_true rfl) (by decide) ?_
      refine q_zge 38 dX8_back_29 (by decide) (fun h29 => ?_) (fun h29 => ?_)
      · have hp : decide (0 ≤ (q_Wm σ j (nI i) 0).toInt) = true := decide_eq_true h29
        have eF : q_fN (fun i => decide (0 ≤ (q_Wm σ j (nI i) 0).toInt)) (H + 1) (H + 1 - i) = i := by rw [show H + 1 - i = (H - i) + 1 by omega, q_fN, show H + 1 - (H - i + 1) = i by omega, if_pos hp]
        refine q_iload_n dX8_back_38 rfl ?_
        refine q_if_ne 47 dX8_back_39 (by decide) (fun h39 => ?_) (fun h39 => ?_)
        · have e0 : ¬ i = 0 := fun e => h39 (by rw [e]; rfl)
          refine q_iload_n dX8_back_47 rfl ?_
          refine q_iconst (x := 1) dX8_back_48 (by decide) ?_
          refine q_isub dX8_back_49 ?_
          
          refine q_ret dX8_back_50 ?_ rfl rfl
          exact ⟨congrArg some (by rw [eF]; first | rw [if_pos e0] | (rw [if_neg e0]; exact (by obtain ⟨q, rfl⟩ : ∃ q, i = q + 1 := ⟨i - 1, by omega⟩; rw [nI_pred]; rfl))), rfl, rfl⟩
        · have e0 : i = 0 := by
            have z := congrArg Int32.toInt h39
            rw [hi] at z
            have e : (0 : Int32).toInt = 0 := rfl
            omega
          refine q_bipush (x := (-4)) dX8_back_42 (by decide) ?_
          refine q_goto 50 dX8_back_44 (by decide) ?_
          
          refine q_ret dX8_back_50 ?_ rfl rfl
          exact ⟨congrArg some (by rw [eF]; first | rw [if_pos e0] | (rw [if_neg e0]; exact (by obtain ⟨q, rfl⟩ : ∃ q, i = q + 1 := ⟨i - 1, by omega⟩; rw [nI_pred]; rfl))), rfl, rfl⟩
      · have hp : decide (0 ≤ (q_Wm σ j (nI i) 0).toInt) = false := decide_eq_false (by omega)
        refine q_inc 1 dX8_back_32 (by decide) rfl (by decide) rfl ?_
        refine q_goto 12 dX8_back_35 (by decide) ?_
        rw [nI_1]
        have z := ih (i + 1) (by omega) (by omega)
        have eF : q_fN (fun i => decide (0 ≤ (q_Wm σ j (nI i) 0).toInt)) (H + 1) (H + 1 - i) = q_fN (fun i => decide (0 ≤ (q_Wm σ j (nI i) 0).toInt)) (H + 1) (H + 1 - (i + 1)) := by
          rw [show H + 1 - i = (H + 1 - (i + 1)) + 1 by omega, q_fN, show H + 1 - (H + 1 - (i + 1) + 1) = i by omega, if_neg (by simp [hp])]
        rw [eF]
        exact z

set_option maxHeartbeats 1000000 in
set_option maxRecDepth 100000 in
theorem kX8_backB {σ : q_M} {k : Int32} (hbad : q_win k 0 (σ 73 53 - 1) = false) : q_Ct YX8_back [.ref 72, .int k] q_SH σ (q_is (some (-1)) q_SH σ) := by
  refine q_ct (n := 1) (by decide) (by decide) rfl (fun _ => Nat.le_of_ble_eq_true rfl) (fun E => ?_)
  refine q_aload_n dX8_back_0 rfl ?_
  refine q_iload_n dX8_back_1 rfl ?_
  refine q_cVi lX8_163 vX8_isDiver (ci := 8) rfl dX8_back_2 kX8_isDiver (by first | rfl | assumption) rfl rfl (Nat.le_of_ble_eq_true rfl) (by decide) ?_
  refine q_bne 10 dX8_back_5 (by decide) (fun h5 => ?_) (fun h5 => ?_)
  · exact absurd hbad (by rw [h5]; decide)
  · refine q_iconst (x := (-1)) dX8_back_8 (by decide) ?_
    refine q_ret dX8_back_9 ?_ rfl rfl
    exact ⟨rfl, rfl, rfl⟩

set_option maxHeartbeats 1000000 in
set_option maxRecDepth 100000 in
theorem kX8_back {σ : q_M} {ar : Nat} (hA : σ 75 1 = nI ar) (hA1 : 1 ≤ ar) (hA2 : ar ≤ 100000) {H : Nat} (hH : σ 75 0 = nI H) (h200 : H ≤ 200) {j : Nat} (hj : j < 6) (hk : q_win (nI j) 0 (σ 73 53 - 1) = true) : q_Ct YX8_back [.ref 72, .int (nI j)] q_SH σ (q_is (some ((if q_fN (fun i => decide (0 ≤ (q_Wm σ j (nI i) 0).toInt)) (H + 1) (H + 1) = 0 then -4 else nI (q_fN (fun i => decide (0 ≤ (q_Wm σ j (nI i) 0).toInt)) (H + 1) (H + 1) - 1)))) q_SH σ) := by
  refine q_ct (n := 1) (by decide) (by decide) rfl (fun _ => Nat.le_of_ble_eq_true rfl) (fun E => ?_)
  refine q_aload_n dX8_back_0 rfl ?_
  refine q_iload_n dX8_back_1 rfl ?_
  refine q_cVi lX8_163 vX8_isDiver (ci := 8) rfl dX8_back_2 kX8_isDiver (by first | rfl | assumption) rfl rfl (Nat.le_of_ble_eq_true rfl) (by decide) ?_
  refine q_bne 10 dX8_back_5 (by decide) (fun h5 => ?_) (fun h5 => ?_)
  · refine q_iconst (x := 0) dX8_back_10 (by decide) ?_
    refine q_istore_n dX8_back_11 (by decide) rfl ?_
    exact lpX8_back hA hA1 hA2 hH h200 hj (H + 2) 0 (by omega) (by omega)
  · exact absurd hk (by rw [h5]; decide)

def q_gw (σ : q_M) (hv b : Int32) (t : Nat) : Bool := decide (0 < (q_wt (σ 75 1) (σ 75 4) (σ 75 5) hv b (σ 73 49) 0 (nI t)).toInt)

set_option maxHeartbeats 1000000 in
set_option maxRecDepth 100000 in
theorem lpX8_goes {E : q_E} {σ : q_M} {ar : Nat} (hA : σ 75 1 = nI ar) (hA1 : 1 ≤ ar) (hA2 : ar ≤ 100000) {hv b : Int32} : ∀ (n : Nat) (i : Nat), 501 + 1 ≤ i + n → i ≤ 501 → q_G YX8_goesWith E 0 0 2 [some (.ref 72), some (.int hv), some (.int b), some (.int (nI i))] [] q_SH σ (q_is (some (q_fst (q_gw σ hv b) 501 (501 - i))) q_SH σ) := by
  intro n
  induction n with
  | zero =>
    intro i hm h0
    exact absurd hm (by omega)
  | succ n ih =>
    intro i hm h0
    have hi := nI_toInt (n := i) (by omega)
    have hc : (500 : Int32).toInt = 500 := rfl
    refine q_iload_n dX8_goesWith_2 rfl ?_
    refine q_sipush (x := 500) dX8_goesWith_3 (by decide) ?_
    refine q_cgt 35 dX8_goesWith_6 (by decide) (fun h6 => ?_) (fun h6 => ?_)
    · refine q_bipush (x := (-4)) dX8_goesWith_35 (by decide) ?_
      refine q_ret dX8_goesWith_37 ?_ rfl rfl
      exact ⟨congrArg some (by rw [show 501 - i = 0 by omega]; rfl), rfl, rfl⟩
    · refine q_aload_n dX8_goesWith_9 rfl ?_
      refine q_iload_n dX8_goesWith_10 rfl ?_
      refine q_iload_n dX8_goesWith_11 rfl ?_
      refine q_aload_n dX8_goesWith_12 rfl ?_
      refine q_getr fX8_7 dX8_goesWith_13 (by first | rfl | assumption) (by rfl) ?_
      refine q_bipush (x := 49) dX8_goesWith_16 (by decide) ?_
      refine q_ild 49 (by first | rfl | assumption) rfl (by decide) dX8_goesWith_18 ?_
      refine q_iload_n dX8_goesWith_19 rfl ?_
      refine q_iconst (x := 0) dX8_goesWith_20 (by decide) ?_
      refine q_cVi lX8_159 vX8_weight (ci := 8) rfl dX8_goesWith_21 (kX8_weight (dep := 0) (q_pr (t := i) (d := 0) hA hA1 hA2 (by omega) (by omega))) (by first | rfl | assumption) rfl rfl (Nat.le_of_ble_eq_true rfl) (by decide) ?_
      refine q_zle 29 dX8_goesWith_24 (by decide) (fun h24 => ?_) (fun h24 => ?_)
      · have hp : q_gw σ hv b i = false := decide_eq_false (by omega)
        refine q_inc 1 dX8_goesWith_29 (by decide) rfl (by decide) rfl ?_
        refine q_goto 2 dX8_goesWith_32 (by decide) ?_
        rw [nI_1]
        have z := ih (i + 1) (by omega) (by omega)
        rw [show 501 - i = (501 - (i + 1)) + 1 by omega, q_fst, show 501 - (501 - (i + 1) + 1) = i by omega, if_neg (by simp [hp])]
        exact z
      · have hp : q_gw σ hv b i = true := decide_eq_true h24
        refine q_iload_n dX8_goesWith_27 rfl ?_
        refine q_ret dX8_goesWith_28 ?_ rfl rfl
        exact ⟨congrArg some (by rw [show 501 - i = (500 - i) + 1 by omega, q_fst, show 501 - (500 - i + 1) = i by omega, if_pos hp]), rfl, rfl⟩

set_option maxHeartbeats 1000000 in
set_option maxRecDepth 100000 in
theorem kX8_goesWith {σ : q_M} {ar : Nat} (hA : σ 75 1 = nI ar) (hA1 : 1 ≤ ar) (hA2 : ar ≤ 100000) {hv b : Int32} : q_Ct YX8_goesWith [.ref 72, .int hv, .int b] q_SH σ (q_is (some (q_fst (q_gw σ hv b) 501 501)) q_SH σ) := by
  refine q_ct (n := 1) (by decide) (by decide) rfl (fun _ => Nat.le_of_ble_eq_true rfl) (fun E => ?_)
  refine q_iconst (x := 0) dX8_goesWith_0 (by decide) ?_
  refine q_istore_n dX8_goesWith_1 (by decide) rfl ?_
  exact lpX8_goes hA hA1 hA2 502 0 (by omega) (by omega)

def q_gm (σ : q_M) (j : Nat) : Int32 := q_fst (q_gw σ (σ 73 (8 * j + 0) + σ 73 (8 * j + 5)) (σ 73 (8 * j + 1))) 501 501

set_option maxHeartbeats 1000000 in
set_option maxRecDepth 100000 in
theorem kX8_goesOf {σ : q_M} {ar : Nat} (hA : σ 75 1 = nI ar) (hA1 : 1 ≤ ar) (hA2 : ar ≤ 100000) {j : Nat} (hj : j < 6) : q_Ct YX8_goesOf [.ref 72, .int (nI j)] q_SH σ (q_is (some (q_gm σ j)) q_SH σ) := by
  refine q_ct (n := 0) (by decide) (by decide) rfl (fun _ => Nat.le_of_ble_eq_true rfl) (fun E => ?_)
  refine q_aload_n dX8_goesOf_0 rfl ?_
  refine q_aload_n dX8_goesOf_1 rfl ?_
  refine q_iload_n dX8_goesOf_2 rfl ?_
  refine q_cVi lX8_156 vX8_heavy (ci := 8) rfl dX8_goesOf_3 (kX8_heavy hj) (by first | rfl | assumption) rfl rfl (Nat.le_of_ble_eq_true rfl) (by decide) ?_
  refine q_aload_n dX8_goesOf_6 rfl ?_
  refine q_iload_n dX8_goesOf_7 rfl ?_
  refine q_iconst (x := 1) dX8_goesOf_8 (by decide) ?_
  refine q_cVi lX8_153 vX8_of (ci := 8) rfl dX8_goesOf_9 (kX8_of (w := 1) hj (by decide)) (by first | rfl | assumption) rfl rfl (Nat.le_of_ble_eq_true rfl) (by decide) ?_
  refine q_cVi lX8_205 vX8_goesWith (ci := 8) rfl dX8_goesOf_12 (kX8_goesWith hA hA1 hA2) (by first | rfl | assumption) rfl rfl (Nat.le_of_ble_eq_true rfl) (by decide) ?_
  refine q_ret dX8_goesOf_15 ?_ rfl rfl
  exact ⟨rfl, rfl, rfl⟩

set_option maxHeartbeats 1000000 in
set_option maxRecDepth 100000 in
theorem kX8_goesAtB {σ : q_M} {k : Int32} (hbad : q_win k 0 (σ 73 53 - 1) = false) : q_Ct YX8_goesAt [.ref 72, .int k] q_SH σ (q_is (some (-1)) q_SH σ) := by
  refine q_ct (n := 0) (by decide) (by decide) rfl (fun _ => Nat.le_of_ble_eq_true rfl) (fun E => ?_)
  refine q_aload_n dX8_goesAt_0 rfl ?_
  refine q_iload_n dX8_goesAt_1 rfl ?_
  refine q_cVi lX8_163 vX8_isDiver (ci := 8) rfl dX8_goesAt_2 kX8_isDiver (by first | rfl | assumption) rfl rfl (Nat.le_of_ble_eq_true rfl) (by decide) ?_
  refine q_beq 16 dX8_goesAt_5 (by decide) (fun h5 => ?_) (fun h5 => ?_)
  · refine q_iconst (x := (-1)) dX8_goesAt_16 (by decide) ?_
    refine q_ret dX8_goesAt_17 ?_ rfl rfl
    exact ⟨rfl, rfl, rfl⟩
  · exact absurd hbad (by rw [h5]; decide)

set_option maxHeartbeats 1000000 in
set_option maxRecDepth 100000 in
theorem kX8_goesAt {σ : q_M} {ar : Nat} (hA : σ 75 1 = nI ar) (hA1 : 1 ≤ ar) (hA2 : ar ≤ 100000) {j : Nat} (hj : j < 6) (hk : q_win (nI j) 0 (σ 73 53 - 1) = true) : q_Ct YX8_goesAt [.ref 72, .int (nI j)] q_SH σ (q_is (some (q_gm σ j)) q_SH σ) := by
  refine q_ct (n := 0) (by decide) (by decide) rfl (fun _ => Nat.le_of_ble_eq_true rfl) (fun E => ?_)
  refine q_aload_n dX8_goesAt_0 rfl ?_
  refine q_iload_n dX8_goesAt_1 rfl ?_
  refine q_cVi lX8_163 vX8_isDiver (ci := 8) rfl dX8_goesAt_2 kX8_isDiver (by first | rfl | assumption) rfl rfl (Nat.le_of_ble_eq_true rfl) (by decide) ?_
  refine q_beq 16 dX8_goesAt_5 (by decide) (fun h5 => ?_) (fun h5 => ?_)
  · exact absurd hk (by rw [h5]; decide)
  · refine q_aload_n dX8_goesAt_8 rfl ?_
    refine q_iload_n dX8_goesAt_9 rfl ?_
    refine q_cVi lX8_208 vX8_goesOf (ci := 8) rfl dX8_goesAt_10 (kX8_goesOf hA hA1 hA2 hj) (by first | rfl | assumption) rfl rfl (Nat.le_of_ble_eq_true rfl) (by decide) ?_
    refine q_goto 17 dX8_goesAt_13 (by decide) ?_
    refine q_ret dX8_goesAt_17 ?_ rfl rfl
    exact ⟨rfl, rfl, rfl⟩

def q_rk (σ : q_M) (j : Nat) : Int32 := 8 * (if q_gm σ j = -4 then 999 else q_gm σ j) + nI j

set_option maxHeartbeats 1000000 in
set_option maxRecDepth 100000 in
theorem kX8_rankOf {σ : q_M} {ar : Nat} (hA : σ 75 1 = nI ar) (hA1 : 1 ≤ ar) (hA2 : ar ≤ 100000) {j : Nat} (hj : j < 6) : q_Ct YX8_rankOf [.ref 72, .int (nI j)] q_SH σ (q_is (some (q_rk σ j)) q_SH σ) := by
  refine q_ct (n := 1) (by decide) (by decide) rfl (fun _ => Nat.le_of_ble_eq_true rfl) (fun E => ?_)
  refine q_aload_n dX8_rankOf_0 rfl ?_
  refine q_iload_n dX8_rankOf_1 rfl ?_
  refine q_cVi lX8_208 vX8_goesOf (ci := 8) rfl dX8_rankOf_2 (kX8_goesOf hA hA1 hA2 (by omega)) (by first | rfl | assumption) rfl rfl (Nat.le_of_ble_eq_true rfl) (by decide) ?_
  refine q_topi (fun t et => ?_)
  refine q_istore_n dX8_rankOf_5 (by decide) rfl ?_
  refine q_bipush (x := 8) dX8_rankOf_6 (by decide) ?_
  refine q_iload_n dX8_rankOf_8 rfl ?_
  refine q_bipush (x := (-4)) dX8_rankOf_9 (by decide) ?_
  refine q_icmp_ne 20 dX8_rankOf_11 (by decide) (fun h11 => ?_) (fun h11 => ?_)
  · refine q_iload_n dX8_rankOf_20 rfl ?_
    refine q_imul dX8_rankOf_21 ?_
    refine q_iload_n dX8_rankOf_22 rfl ?_
    refine q_iadd dX8_rankOf_23 ?_
    refine q_ret dX8_rankOf_24 ?_ rfl rfl
    exact ⟨congrArg some (by unfold q_rk; rw [← et]; first | rw [if_pos h11] | rw [if_neg h11]), rfl, rfl⟩
  · refine q_sipush (x := 999) dX8_rankOf_14 (by decide) ?_
    refine q_goto 21 dX8_rankOf_17 (by decide) ?_
    refine q_imul dX8_rankOf_21 ?_
    refine q_iload_n dX8_rankOf_22 rfl ?_
    refine q_iadd dX8_rankOf_23 ?_
    refine q_ret dX8_rankOf_24 ?_ rfl rfl
    exact ⟨congrArg some (by unfold q_rk; rw [← et]; first | rw [if_pos h11] | rw [if_neg h11]), rfl, rfl⟩
