/-! the reference: hours, trips, bladder, beats, saw, fits, who -/
def qm_jw (σ : q_M) (j : Nat) (b w dep : Int32) : Int32 := q_wt (σ 75 1) (σ 75 4) (σ 75 5) (σ 73 (8 * j + 0) + σ 73 (8 * j + 5)) b w dep 0
def qm_lv (σ : q_M) (j : Nat) (w : Int32) : Bool → Bool
  | true => decide ((qm_jw σ j (σ 73 (8 * j + 1)) w (σ 75 0)).toInt < 0)
  | false => decide (0 < (qm_jw σ j (σ 73 (8 * j + 1)) w 0).toInt)
def qm_hr (σ : q_M) (j : Nat) : Nat → Bool × Int32 × Int32
  | 0 => (false, 0, 0)
  | n + 1 => (xor (qm_lv σ j (σ 76 n) (qm_hr σ j n).1) (qm_hr σ j n).1, (qm_hr σ j n).2.1 ||| (q_b (q_t (q_b (xor (qm_lv σ j (σ 76 n) (qm_hr σ j n).1) (qm_hr σ j n).1))) <<< (nI n &&& 31)), cond (qm_lv σ j (σ 76 n) (qm_hr σ j n).1) ((qm_hr σ j n).2.2 + 1) (qm_hr σ j n).2.2)

set_option maxHeartbeats 1000000 in
set_option maxRecDepth 100000 in
theorem sgX8_ht {E : q_E} {σ : q_M} {Q : q_P} {ar : Nat} (hA : σ 75 1 = nI ar) (hA1 : 1 ≤ ar) (hA2 : ar ≤ 100000) {H : Nat} (hH : σ 75 0 = nI H) (h200 : H ≤ 200) {j : Nat} (hj : j < 6) {i : Nat} (h24 : i < 24) {w bi mv : Int32} (K : q_G YX8_hours E 0 0 31 [some (.ref 72), some (.int (nI j)), some (.int w), some (.int (q_b (xor (qm_lv σ j (σ 76 i) true) true))), some (.int (bi ||| (q_b (q_t (q_b (xor (qm_lv σ j (σ 76 i) true) true))) <<< (nI i &&& 31)))), some (.int (cond (qm_lv σ j (σ 76 i) true) (mv + 1) mv)), some (.int (nI (i + 1))), none] [] q_SH σ Q) : q_G YX8_hours E 0 0 38 [some (.ref 72), some (.int (nI j)), some (.int w), some (.int (q_b true)), some (.int bi), some (.int mv), some (.int (nI i)), none] [] q_SH σ Q := by
  have hi := nI_toInt (n := i) (by omega)
  refine q_aload_n dX8_hours_38 rfl ?_
  refine q_aload_n dX8_hours_39 rfl ?_
  refine q_iload_n dX8_hours_40 rfl ?_
  refine q_cVi lX8_156 vX8_heavy (ci := 8) rfl dX8_hours_41 (kX8_heavy hj) (by first | rfl | assumption) rfl rfl (Nat.le_of_ble_eq_true rfl) (by decide) ?_
  refine q_aload_n dX8_hours_44 rfl ?_
  refine q_iload_n dX8_hours_45 rfl ?_
  refine q_iconst (x := 1) dX8_hours_46 (by decide) ?_
  refine q_cVi lX8_153 vX8_of (ci := 8) rfl dX8_hours_47 (kX8_of (w := 1) hj (by decide)) (by first | rfl | assumption) rfl rfl (Nat.le_of_ble_eq_true rfl) (by decide) ?_
  refine q_aload_n dX8_hours_50 rfl ?_
  refine q_getr fX8_20 dX8_hours_51 (by first | rfl | assumption) (by rfl) ?_
  refine q_iload dX8_hours_54 rfl ?_
  refine q_ild i (by first | rfl | assumption) hi (by omega) dX8_hours_56 ?_
  refine q_iconst (x := 0) dX8_hours_57 (by decide) ?_
  refine q_iload_n dX8_hours_58 rfl ?_
  refine q_beq 71 dX8_hours_59 (by decide) (fun h59 => ?_) (fun h59 => ?_)
  · exact absurd h59 (by decide)
  · refine q_aload_n dX8_hours_62 rfl ?_
    refine q_getr fX8_17 dX8_hours_63 (by first | rfl | assumption) (by rfl) ?_
    refine q_iconst (x := 0) dX8_hours_66 (by decide) ?_
    refine q_ild 0 (by first | rfl | assumption) rfl (by decide) dX8_hours_67 ?_
    refine q_goto 72 dX8_hours_68 (by decide) ?_
    refine q_cVi lX8_159 vX8_weight (ci := 8) rfl dX8_hours_72 (kX8_weight (th := 0) (dep := σ 75 0) (by rw [hH]; exact (q_pr (t := 0) (d := H) hA hA1 hA2 (by omega) (by omega)))) (by first | rfl | assumption) rfl rfl (Nat.le_of_ble_eq_true rfl) (by decide) ?_
    refine q_tope (y := (qm_jw σ j (σ 73 (8 * j + 1)) (σ 76 i) (σ 75 0))) rfl ?_
    refine q_istore dX8_hours_75 (by decide) rfl ?_
    refine q_iload_n dX8_hours_77 rfl ?_
    refine q_beq 89 dX8_hours_78 (by decide) (fun h78 => ?_) (fun h78 => ?_)
    · exact absurd h78 (by decide)
    · refine q_iload dX8_hours_81 rfl ?_
      refine q_zge 107 dX8_hours_83 (by decide) (fun h83 => ?_) (fun h83 => ?_)
      · have hl : qm_lv σ j (σ 76 i) true = false := decide_eq_false (by omega)
        refine q_iload dX8_hours_107 rfl ?_
        refine q_iload_n dX8_hours_109 rfl ?_
        refine q_cSi lX8_63 sX8_flag dX8_hours_110 kX8_flag rfl rfl (Nat.le_of_ble_eq_true rfl) (by decide) ?_
        refine q_iload dX8_hours_113 rfl ?_
        refine q_ishl dX8_hours_115 ?_
        refine q_ior dX8_hours_116 ?_
        refine q_istore dX8_hours_117 (by decide) rfl ?_
        refine q_inc 1 dX8_hours_119 (by decide) rfl (by decide) rfl ?_
        refine q_goto 31 dX8_hours_122 (by decide) ?_
        rw [nI_1]
        rw [hl] at K
        have z := K
        refine q_lz z ?_
        exact ⟨rfl, rfl, rfl, rfl, rfl, rfl, rfl, trivial⟩
      · have hl : qm_lv σ j (σ 76 i) true = true := decide_eq_true h83
        refine q_goto 94 dX8_hours_86 (by decide) ?_
        refine q_iload_n dX8_hours_94 rfl ?_
        refine q_bne 102 dX8_hours_95 (by decide) (fun h95 => ?_) (fun h95 => ?_)
        · refine q_iconst (x := 0) dX8_hours_102 (by decide) ?_
          refine q_tope (y := (q_b false)) rfl ?_
          refine q_istore_n dX8_hours_103 (by decide) rfl ?_
          refine q_inc 1 dX8_hours_104 (by decide) rfl (by decide) rfl ?_
          refine q_iload dX8_hours_107 rfl ?_
          refine q_iload_n dX8_hours_109 rfl ?_
          refine q_cSi lX8_63 sX8_flag dX8_hours_110 kX8_flag rfl rfl (Nat.le_of_ble_eq_true rfl) (by decide) ?_
          refine q_iload dX8_hours_113 rfl ?_
          refine q_ishl dX8_hours_115 ?_
          refine q_ior dX8_hours_116 ?_
          refine q_istore dX8_hours_117 (by decide) rfl ?_
          refine q_inc 1 dX8_hours_119 (by decide) rfl (by decide) rfl ?_
          refine q_goto 31 dX8_hours_122 (by decide) ?_
          rw [nI_1]
          rw [hl] at K
          have z := K
          refine q_lz z ?_
          exact ⟨rfl, rfl, rfl, rfl, rfl, rfl, rfl, trivial⟩
        · exact absurd h95 (by decide)

set_option maxHeartbeats 1000000 in
set_option maxRecDepth 100000 in
theorem sgX8_hf {E : q_E} {σ : q_M} {Q : q_P} {ar : Nat} (hA : σ 75 1 = nI ar) (hA1 : 1 ≤ ar) (hA2 : ar ≤ 100000) {H : Nat} (hH : σ 75 0 = nI H) (h200 : H ≤ 200) {j : Nat} (hj : j < 6) {i : Nat} (h24 : i < 24) {w bi mv : Int32} (K : q_G YX8_hours E 0 0 31 [some (.ref 72), some (.int (nI j)), some (.int w), some (.int (q_b (xor (qm_lv σ j (σ 76 i) false) false))), some (.int (bi ||| (q_b (q_t (q_b (xor (qm_lv σ j (σ 76 i) false) false))) <<< (nI i &&& 31)))), some (.int (cond (qm_lv σ j (σ 76 i) false) (mv + 1) mv)), some (.int (nI (i + 1))), none] [] q_SH σ Q) : q_G YX8_hours E 0 0 38 [some (.ref 72), some (.int (nI j)), some (.int w), some (.int (q_b false)), some (.int bi), some (.int mv), some (.int (nI i)), none] [] q_SH σ Q := by
  have hi := nI_toInt (n := i) (by omega)
  refine q_aload_n dX8_hours_38 rfl ?_
  refine q_aload_n dX8_hours_39 rfl ?_
  refine q_iload_n dX8_hours_40 rfl ?_
  refine q_cVi lX8_156 vX8_heavy (ci := 8) rfl dX8_hours_41 (kX8_heavy hj) (by first | rfl | assumption) rfl rfl (Nat.le_of_ble_eq_true rfl) (by decide) ?_
  refine q_aload_n dX8_hours_44 rfl ?_
  refine q_iload_n dX8_hours_45 rfl ?_
  refine q_iconst (x := 1) dX8_hours_46 (by decide) ?_
  refine q_cVi lX8_153 vX8_of (ci := 8) rfl dX8_hours_47 (kX8_of (w := 1) hj (by decide)) (by first | rfl | assumption) rfl rfl (Nat.le_of_ble_eq_true rfl) (by decide) ?_
  refine q_aload_n dX8_hours_50 rfl ?_
  refine q_getr fX8_20 dX8_hours_51 (by first | rfl | assumption) (by rfl) ?_
  refine q_iload dX8_hours_54 rfl ?_
  refine q_ild i (by first | rfl | assumption) hi (by omega) dX8_hours_56 ?_
  refine q_iconst (x := 0) dX8_hours_57 (by decide) ?_
  refine q_iload_n dX8_hours_58 rfl ?_
  refine q_beq 71 dX8_hours_59 (by decide) (fun h59 => ?_) (fun h59 => ?_)
  · refine q_iconst (x := 0) dX8_hours_71 (by decide) ?_
    refine q_cVi lX8_159 vX8_weight (ci := 8) rfl dX8_hours_72 (kX8_weight (th := 0) (dep := 0) (q_pr (t := 0) (d := 0) hA hA1 hA2 (by omega) (by omega))) (by first | rfl | assumption) rfl rfl (Nat.le_of_ble_eq_true rfl) (by decide) ?_
    refine q_tope (y := (qm_jw σ j (σ 73 (8 * j + 1)) (σ 76 i) 0)) rfl ?_
    refine q_istore dX8_hours_75 (by decide) rfl ?_
    refine q_iload_n dX8_hours_77 rfl ?_
    refine q_beq 89 dX8_hours_78 (by decide) (fun h78 => ?_) (fun h78 => ?_)
    · refine q_iload dX8_hours_89 rfl ?_
      refine q_zle 107 dX8_hours_91 (by decide) (fun h91 => ?_) (fun h91 => ?_)
      · have hl : qm_lv σ j (σ 76 i) false = false := decide_eq_false (by omega)
        refine q_iload dX8_hours_107 rfl ?_
        refine q_iload_n dX8_hours_109 rfl ?_
        refine q_cSi lX8_63 sX8_flag dX8_hours_110 kX8_flag rfl rfl (Nat.le_of_ble_eq_true rfl) (by decide) ?_
        refine q_iload dX8_hours_113 rfl ?_
        refine q_ishl dX8_hours_115 ?_
        refine q_ior dX8_hours_116 ?_
        refine q_istore dX8_hours_117 (by decide) rfl ?_
        refine q_inc 1 dX8_hours_119 (by decide) rfl (by decide) rfl ?_
        refine q_goto 31 dX8_hours_122 (by decide) ?_
        rw [nI_1]
        rw [hl] at K
        have z := K
        refine q_lz z ?_
        exact ⟨rfl, rfl, rfl, rfl, rfl, rfl, rfl, trivial⟩
      · have hl : qm_lv σ j (σ 76 i) false = true := decide_eq_true h91
        refine q_iload_n dX8_hours_94 rfl ?_
        refine q_bne 102 dX8_hours_95 (by decide) (fun h95 => ?_) (fun h95 => ?_)
        · exact absurd h95 (by decide)
        · refine q_iconst (x := 1) dX8_hours_98 (by decide) ?_
          refine q_tope (y := (q_b true)) rfl ?_
          refine q_goto 103 dX8_hours_99 (by decide) ?_
          refine q_istore_n dX8_hours_103 (by decide) rfl ?_
          refine q_inc 1 dX8_hours_104 (by decide) rfl (by decide) rfl ?_
          refine q_iload dX8_hours_107 rfl ?_
          refine q_iload_n dX8_hours_109 rfl ?_
          refine q_cSi lX8_63 sX8_flag dX8_hours_110 kX8_flag rfl rfl (Nat.le_of_ble_eq_true rfl) (by decide) ?_
          refine q_iload dX8_hours_113 rfl ?_
          refine q_ishl dX8_hours_115 ?_
          refine q_ior dX8_hours_116 ?_
          refine q_istore dX8_hours_117 (by decide) rfl ?_
          refine q_inc 1 dX8_hours_119 (by decide) rfl (by decide) rfl ?_
          refine q_goto 31 dX8_hours_122 (by decide) ?_
          rw [nI_1]
          rw [hl] at K
          have z := K
          refine q_lz z ?_
          exact ⟨rfl, rfl, rfl, rfl, rfl, rfl, rfl, trivial⟩
    · exact absurd h78 (by decide)
  · exact absurd h59 (by decide)

set_option maxHeartbeats 1000000 in
set_option maxRecDepth 100000 in
theorem lpX8_hours {E : q_E} {σ : q_M} {ar : Nat} (hA : σ 75 1 = nI ar) (hA1 : 1 ≤ ar) (hA2 : ar ≤ 100000) {H : Nat} (hH : σ 75 0 = nI H) (h200 : H ≤ 200) {j : Nat} (hj : j < 6) {w : Int32} : ∀ (n : Nat) (i : Nat) (dn : Bool) (bi mv : Int32), 24 + 1 ≤ i + n → i ≤ 24 → (dn, bi, mv) = qm_hr σ j i → q_G YX8_hours E 0 0 31 [some (.ref 72), some (.int (nI j)), some (.int w), some (.int (q_b dn)), some (.int bi), some (.int mv), some (.int (nI i)), none] [] q_SH σ (q_is (some (if w = 0 then (qm_hr σ j 24).2.1 else (qm_hr σ j 24).2.2)) q_SH σ) := by
  intro n
  induction n with
  | zero =>
    intro i dn bi mv hm h0 hst
    exact absurd hm (by omega)
  | succ n ih =>
    intro i dn bi mv hm h0 hst
    have hi := nI_toInt (n := i) (by omega)
    have e24 : (24 : Int32).toInt = 24 := rfl
    refine q_iload dX8_hours_31 rfl ?_
    refine q_bipush (x := 24) dX8_hours_33 (by decide) ?_
    refine q_cge 125 dX8_hours_35 (by decide) (fun h35 => ?_) (fun h35 => ?_)
    · refine q_iload_n dX8_hours_125 rfl ?_
      refine q_if_ne 134 dX8_hours_126 (by decide) (fun h126 => ?_) (fun h126 => ?_)
      · refine q_iload dX8_hours_134 rfl ?_
        refine q_ret dX8_hours_136 ?_ rfl rfl
        have e : i = 24 := by omega
        subst e
        exact ⟨congrArg some (by rw [← hst]; first | rw [if_pos h126] | rw [if_neg h126]), rfl, rfl⟩
      · refine q_iload dX8_hours_129 rfl ?_
        refine q_goto 136 dX8_hours_131 (by decide) ?_
        refine q_ret dX8_hours_136 ?_ rfl rfl
        have e : i = 24 := by omega
        subst e
        exact ⟨congrArg some (by rw [← hst]; first | rw [if_pos h126] | rw [if_neg h126]), rfl, rfl⟩
    · have hx := ih (i + 1) (xor (qm_lv σ j (σ 76 i) dn) dn) (bi ||| (q_b (q_t (q_b (xor (qm_lv σ j (σ 76 i) dn) dn))) <<< (nI i &&& 31))) (cond (qm_lv σ j (σ 76 i) dn) (mv + 1) mv) (by omega) (by omega) (by rw [qm_hr, ← hst])
      cases dn
      · exact sgX8_hf hA hA1 hA2 hH h200 hj (by omega) hx
      · exact sgX8_ht hA hA1 hA2 hH h200 hj (by omega) hx

set_option maxHeartbeats 1000000 in
set_option maxRecDepth 100000 in
theorem kX8_hours {σ : q_M} {ar : Nat} (hA : σ 75 1 = nI ar) (hA1 : 1 ≤ ar) (hA2 : ar ≤ 100000) {H : Nat} (hH : σ 75 0 = nI H) (h200 : H ≤ 200) {j : Nat} (hj : j < 6) (hk : q_win (nI j) 0 (σ 73 53 - 1) = true) {w : Int32} (hw : q_win w 0 1 = true) : q_Ct YX8_hours [.ref 72, .int (nI j), .int w] q_SH σ (q_is (some (if w = 0 then (qm_hr σ j 24).2.1 else (qm_hr σ j 24).2.2)) q_SH σ) := by
  refine q_ct (n := 5) (by decide) (by decide) rfl (fun _ => Nat.le_of_ble_eq_true rfl) (fun E => ?_)
  refine q_aload_n dX8_hours_0 rfl ?_
  refine q_iload_n dX8_hours_1 rfl ?_
  refine q_cVi lX8_163 vX8_isDiver (ci := 8) rfl dX8_hours_2 kX8_isDiver (by first | rfl | assumption) rfl rfl (Nat.le_of_ble_eq_true rfl) (by decide) ?_
  refine q_beq 18 dX8_hours_5 (by decide) (fun h5 => ?_) (fun h5 => ?_)
  · exact absurd hk (by rw [h5]; decide)
  · refine q_iload_n dX8_hours_8 rfl ?_
    refine q_i2l dX8_hours_9 ?_
    refine q_lconst (x := 0) dX8_hours_10 (by decide) ?_
    refine q_lconst (x := 1) dX8_hours_11 (by decide) ?_
    refine q_cSi lX8_72 sX8_in dX8_hours_12 (kX8_in (x := w) (lo := 0) (hi := 1) (Int32.toInt_toInt64 _) rfl rfl) rfl rfl (Nat.le_of_ble_eq_true rfl) (by decide) ?_
    refine q_bne 20 dX8_hours_15 (by decide) (fun h15 => ?_) (fun h15 => ?_)
    · refine q_iconst (x := 0) dX8_hours_20 (by decide) ?_
      refine q_istore_n dX8_hours_21 (by decide) rfl ?_
      refine q_iconst (x := 0) dX8_hours_22 (by decide) ?_
      refine q_istore dX8_hours_23 (by decide) rfl ?_
      refine q_iconst (x := 0) dX8_hours_25 (by decide) ?_
      refine q_istore dX8_hours_26 (by decide) rfl ?_
      refine q_iconst (x := 0) dX8_hours_28 (by decide) ?_
      refine q_istore dX8_hours_29 (by decide) rfl ?_
      exact lpX8_hours hA hA1 hA2 hH h200 hj 25 0 false 0 0 (by omega) (by omega) rfl
    · exact absurd hw (by rw [h15]; decide)

set_option maxHeartbeats 1000000 in
set_option maxRecDepth 100000 in
theorem kX8_hoursB {σ : q_M} {k w : Int32} (hbad : (q_win k 0 (σ 73 53 - 1) && q_win w 0 1) = false) : q_Ct YX8_hours [.ref 72, .int k, .int w] q_SH σ (q_is (some (-1)) q_SH σ) := by
  refine q_ct (n := 5) (by decide) (by decide) rfl (fun _ => Nat.le_of_ble_eq_true rfl) (fun E => ?_)
  refine q_aload_n dX8_hours_0 rfl ?_
  refine q_iload_n dX8_hours_1 rfl ?_
  refine q_cVi lX8_163 vX8_isDiver (ci := 8) rfl dX8_hours_2 kX8_isDiver (by first | rfl | assumption) rfl rfl (Nat.le_of_ble_eq_true rfl) (by decide) ?_
  refine q_beq 18 dX8_hours_5 (by decide) (fun h5 => ?_) (fun h5 => ?_)
  · refine q_iconst (x := (-1)) dX8_hours_18 (by decide) ?_
    refine q_ret dX8_hours_19 ?_ rfl rfl
    exact ⟨rfl, rfl, rfl⟩
  · refine q_iload_n dX8_hours_8 rfl ?_
    refine q_i2l dX8_hours_9 ?_
    refine q_lconst (x := 0) dX8_hours_10 (by decide) ?_
    refine q_lconst (x := 1) dX8_hours_11 (by decide) ?_
    refine q_cSi lX8_72 sX8_in dX8_hours_12 (kX8_in (x := w) (lo := 0) (hi := 1) (Int32.toInt_toInt64 _) rfl rfl) rfl rfl (Nat.le_of_ble_eq_true rfl) (by decide) ?_
    refine q_bne 20 dX8_hours_15 (by decide) (fun h15 => ?_) (fun h15 => ?_)
    · exact absurd hbad (by simp [*])
    · refine q_iconst (x := (-1)) dX8_hours_18 (by decide) ?_
      refine q_ret dX8_hours_19 ?_ rfl rfl
      exact ⟨rfl, rfl, rfl⟩

def qm_lk (b l : Int32) : Int32 := if b.toInt < l.toInt then 0 else b - l
def qm_tr (σ : q_M) (j : Nat) : Nat → Nat → Int32 → Int32
  | 0, i, _ => nI i
  | m + 1, i, b => if (qm_jw σ j (qm_lk b (σ 73 (8 * j + 2))) (σ 73 49) (σ 75 0)).toInt < 0 then qm_tr σ j m (i + 1) (qm_lk b (σ 73 (8 * j + 2))) else nI i

set_option maxHeartbeats 1000000 in
set_option maxRecDepth 100000 in
theorem sgX8_tr0 {E : q_E} {σ : q_M} {j i : Nat} {b : Int32} (h9 : i ≤ 999) : q_G YX8_trips E 0 0 22 [some (.ref 72), some (.int (nI j)), some (.int b), some (.int (nI i)), some (.int 0)] [] q_SH σ (q_is (some (nI i)) q_SH σ) := by
  have hi := nI_toInt (n := i) (by omega)
  refine q_iload_n dX8_trips_22 rfl ?_
  refine q_sipush (x := 999) dX8_trips_23 (by decide) ?_
  refine q_cge 102 dX8_trips_26 (by decide) (fun h26 => ?_) (fun h26 => ?_)
  · refine q_iload_n dX8_trips_102 rfl ?_
    refine q_ret dX8_trips_103 ?_ rfl rfl
    exact ⟨rfl, rfl, rfl⟩
  · refine q_iload dX8_trips_29 rfl ?_
    refine q_if_eq 102 dX8_trips_31 (by decide) (fun h31 => ?_) (fun h31 => ?_)
    · refine q_iload_n dX8_trips_102 rfl ?_
      refine q_ret dX8_trips_103 ?_ rfl rfl
      exact ⟨rfl, rfl, rfl⟩
    · exact absurd rfl h31

set_option maxHeartbeats 1000000 in
set_option maxRecDepth 100000 in
theorem lpX8_trips {E : q_E} {σ : q_M} {ar : Nat} (hA : σ 75 1 = nI ar) (hA1 : 1 ≤ ar) (hA2 : ar ≤ 100000) {H : Nat} (hH : σ 75 0 = nI H) (h200 : H ≤ 200) {j : Nat} (hj : j < 6) : ∀ (n : Nat) (i : Nat) (b : Int32), 999 + 1 ≤ i + n → i ≤ 999 → q_G YX8_trips E 0 0 22 [some (.ref 72), some (.int (nI j)), some (.int b), some (.int (nI i)), some (.int 1)] [] q_SH σ (q_is (some (qm_tr σ j (999 - i) i b)) q_SH σ) := by
  intro n
  induction n with
  | zero =>
    intro i b hm h0
    exact absurd hm (by omega)
  | succ n ih =>
    intro i b hm h0
    have hi := nI_toInt (n := i) (by omega)
    have e9 : (999 : Int32).toInt = 999 := rfl
    refine q_iload_n dX8_trips_22 rfl ?_
    refine q_sipush (x := 999) dX8_trips_23 (by decide) ?_
    refine q_cge 102 dX8_trips_26 (by decide) (fun h26 => ?_) (fun h26 => ?_)
    · rw [show 999 - i = 0 by omega]
      refine q_iload_n dX8_trips_102 rfl ?_
      refine q_ret dX8_trips_103 ?_ rfl rfl
      exact ⟨rfl, rfl, rfl⟩
    · refine q_iload dX8_trips_29 rfl ?_
      refine q_if_eq 102 dX8_trips_31 (by decide) (fun h31 => ?_) (fun h31 => ?_)
      · exact absurd h31 (by decide)
      · refine q_iload_n dX8_trips_34 rfl ?_
        refine q_aload_n dX8_trips_35 rfl ?_
        refine q_iload_n dX8_trips_36 rfl ?_
        refine q_iconst (x := 2) dX8_trips_37 (by decide) ?_
        refine q_cVi lX8_153 vX8_of (ci := 8) rfl dX8_trips_38 (kX8_of (w := 2) hj (by decide)) (by first | rfl | assumption) rfl rfl (Nat.le_of_ble_eq_true rfl) (by decide) ?_
        refine q_cge 48 dX8_trips_41 (by decide) (fun h41 => ?_) (fun h41 => ?_)
        · have hb : qm_lk b (σ 73 (8 * j + 2)) = b - σ 73 (8 * j + 2) := if_neg (by omega)
          refine q_iload_n dX8_trips_48 rfl ?_
          refine q_aload_n dX8_trips_49 rfl ?_
          refine q_iload_n dX8_trips_50 rfl ?_
          refine q_iconst (x := 2) dX8_trips_51 (by decide) ?_
          refine q_cVi lX8_153 vX8_of (ci := 8) rfl dX8_trips_52 (kX8_of (w := 2) hj (by decide)) (by first | rfl | assumption) rfl rfl (Nat.le_of_ble_eq_true rfl) (by decide) ?_
          refine q_isub dX8_trips_55 ?_
          refine q_tope hb.symm ?_
          refine q_istore_n dX8_trips_56 (by decide) rfl ?_
          refine q_aload_n dX8_trips_57 rfl ?_
          refine q_aload_n dX8_trips_58 rfl ?_
          refine q_iload_n dX8_trips_59 rfl ?_
          refine q_cVi lX8_156 vX8_heavy (ci := 8) rfl dX8_trips_60 (kX8_heavy hj) (by first | rfl | assumption) rfl rfl (Nat.le_of_ble_eq_true rfl) (by decide) ?_
          refine q_iload_n dX8_trips_63 rfl ?_
          refine q_aload_n dX8_trips_64 rfl ?_
          refine q_getr fX8_7 dX8_trips_65 (by first | rfl | assumption) (by rfl) ?_
          refine q_bipush (x := 49) dX8_trips_68 (by decide) ?_
          refine q_ild 49 (by first | rfl | assumption) rfl (by decide) dX8_trips_70 ?_
          refine q_iconst (x := 0) dX8_trips_71 (by decide) ?_
          refine q_aload_n dX8_trips_72 rfl ?_
          refine q_getr fX8_17 dX8_trips_73 (by first | rfl | assumption) (by rfl) ?_
          refine q_iconst (x := 0) dX8_trips_76 (by decide) ?_
          refine q_ild 0 (by first | rfl | assumption) rfl (by decide) dX8_trips_77 ?_
          refine q_cVi lX8_159 vX8_weight (ci := 8) rfl dX8_trips_78 (kX8_weight (th := 0) (dep := σ 75 0) (by rw [hH]; exact (q_pr (t := 0) (d := H) hA hA1 hA2 (by omega) (by omega)))) (by first | rfl | assumption) rfl rfl (Nat.le_of_ble_eq_true rfl) (by decide) ?_
          refine q_tope (y := (qm_jw σ j (qm_lk b (σ 73 (8 * j + 2))) (σ 73 49) (σ 75 0))) rfl ?_
          refine q_zge 88 dX8_trips_81 (by decide) (fun h81 => ?_) (fun h81 => ?_)
          · rw [show 999 - i = (999 - (i + 1)) + 1 by omega, qm_tr, if_neg (by omega)]
            refine q_iconst (x := 0) dX8_trips_88 (by decide) ?_
            refine q_istore dX8_trips_89 (by decide) rfl ?_
            refine q_iload_n dX8_trips_91 rfl ?_
            refine q_iload dX8_trips_92 rfl ?_
            refine q_cSi lX8_63 sX8_flag dX8_trips_94 kX8_flag rfl rfl (Nat.le_of_ble_eq_true rfl) (by decide) ?_
            refine q_iadd dX8_trips_97 ?_
            refine q_istore_n dX8_trips_98 (by decide) rfl ?_
            refine q_goto 22 dX8_trips_99 (by decide) ?_
            first
              | (rw [show nI i + q_b (q_t 1) = nI (i + 1) from nI_1 i]; exact ih (i + 1) _ (by omega) (by omega))
              | (rw [show nI i + q_b (q_t 0) = nI i from Int32.add_zero _]; exact sgX8_tr0 h0)
          · rw [show 999 - i = (999 - (i + 1)) + 1 by omega, qm_tr, if_pos h81]
            refine q_iconst (x := 1) dX8_trips_84 (by decide) ?_
            refine q_goto 89 dX8_trips_85 (by decide) ?_
            refine q_istore dX8_trips_89 (by decide) rfl ?_
            refine q_iload_n dX8_trips_91 rfl ?_
            refine q_iload dX8_trips_92 rfl ?_
            refine q_cSi lX8_63 sX8_flag dX8_trips_94 kX8_flag rfl rfl (Nat.le_of_ble_eq_true rfl) (by decide) ?_
            refine q_iadd dX8_trips_97 ?_
            refine q_istore_n dX8_trips_98 (by decide) rfl ?_
            refine q_goto 22 dX8_trips_99 (by decide) ?_
            first
              | (rw [show nI i + q_b (q_t 1) = nI (i + 1) from nI_1 i]; exact ih (i + 1) _ (by omega) (by omega))
              | (rw [show nI i + q_b (q_t 0) = nI i from Int32.add_zero _]; exact sgX8_tr0 h0)
        · have hb : qm_lk b (σ 73 (8 * j + 2)) = 0 := if_pos h41
          refine q_iconst (x := 0) dX8_trips_44 (by decide) ?_
          refine q_goto 56 dX8_trips_45 (by decide) ?_
          refine q_tope hb.symm ?_
          refine q_istore_n dX8_trips_56 (by decide) rfl ?_
          refine q_aload_n dX8_trips_57 rfl ?_
          refine q_aload_n dX8_trips_58 rfl ?_
          refine q_iload_n dX8_trips_59 rfl ?_
          refine q_cVi lX8_156 vX8_heavy (ci := 8) rfl dX8_trips_60 (kX8_heavy hj) (by first | rfl | assumption) rfl rfl (Nat.le_of_ble_eq_true rfl) (by decide) ?_
          refine q_iload_n dX8_trips_63 rfl ?_
          refine q_aload_n dX8_trips_64 rfl ?_
          refine q_getr fX8_7 dX8_trips_65 (by first | rfl | assumption) (by rfl) ?_
          refine q_bipush (x := 49) dX8_trips_68 (by decide) ?_
          refine q_ild 49 (by first | rfl | assumption) rfl (by decide) dX8_trips_70 ?_
          refine q_iconst (x := 0) dX8_trips_71 (by decide) ?_
          refine q_aload_n dX8_trips_72 rfl ?_
          refine q_getr fX8_17 dX8_trips_73 (by first | rfl | assumption) (by rfl) ?_
          refine q_iconst (x := 0) dX8_trips_76 (by decide) ?_
          refine q_ild 0 (by first | rfl | assumption) rfl (by decide) dX8_trips_77 ?_
          refine q_cVi lX8_159 vX8_weight (ci := 8) rfl dX8_trips_78 (kX8_weight (th := 0) (dep := σ 75 0) (by rw [hH]; exact (q_pr (t := 0) (d := H) hA hA1 hA2 (by omega) (by omega)))) (by first | rfl | assumption) rfl rfl (Nat.le_of_ble_eq_true rfl) (by decide) ?_
          refine q_tope (y := (qm_jw σ j (qm_lk b (σ 73 (8 * j + 2))) (σ 73 49) (σ 75 0))) rfl ?_
          refine q_zge 88 dX8_trips_81 (by decide) (fun h81 => ?_) (fun h81 => ?_)
          · rw [show 999 - i = (999 - (i + 1)) + 1 by omega, qm_tr, if_neg (by omega)]
            refine q_iconst (x := 0) dX8_trips_88 (by decide) ?_
            refine q_istore dX8_trips_89 (by decide) rfl ?_
            refine q_iload_n dX8_trips_91 rfl ?_
            refine q_iload dX8_trips_92 rfl ?_
            refine q_cSi lX8_63 sX8_flag dX8_trips_94 kX8_flag rfl rfl (Nat.le_of_ble_eq_true rfl) (by decide) ?_
            refine q_iadd dX8_trips_97 ?_
            refine q_istore_n dX8_trips_98 (by decide) rfl ?_
            refine q_goto 22 dX8_trips_99 (by decide) ?_
            first
              | (rw [show nI i + q_b (q_t 1) = nI (i + 1) from nI_1 i]; exact ih (i + 1) _ (by omega) (by omega))
              | (rw [show nI i + q_b (q_t 0) = nI i from Int32.add_zero _]; exact sgX8_tr0 h0)
          · rw [show 999 - i = (999 - (i + 1)) + 1 by omega, qm_tr, if_pos h81]
            refine q_iconst (x := 1) dX8_trips_84 (by decide) ?_
            refine q_goto 89 dX8_trips_85 (by decide) ?_
            refine q_istore dX8_trips_89 (by decide) rfl ?_
            refine q_iload_n dX8_trips_91 rfl ?_
            refine q_iload dX8_trips_92 rfl ?_
            refine q_cSi lX8_63 sX8_flag dX8_trips_94 kX8_flag rfl rfl (Nat.le_of_ble_eq_true rfl) (by decide) ?_
            refine q_iadd dX8_trips_97 ?_
            refine q_istore_n dX8_trips_98 (by decide) rfl ?_
            refine q_goto 22 dX8_trips_99 (by decide) ?_
            first
              | (rw [show nI i + q_b (q_t 1) = nI (i + 1) from nI_1 i]; exact ih (i + 1) _ (by omega) (by omega))
              | (rw [show nI i + q_b (q_t 0) = nI i from Int32.add_zero _]; exact sgX8_tr0 h0)

set_option maxHeartbeats 1000000 in
set_option maxRecDepth 100000 in
theorem kX8_trips {σ : q_M} {ar : Nat} (hA : σ 75 1 = nI ar) (hA1 : 1 ≤ ar) (hA2 : ar ≤ 100000) {H : Nat} (hH : σ 75 0 = nI H) (h200 : H ≤ 200) {j : Nat} (hj : j < 6) (hk : q_win (nI j) 0 (σ 73 53 - 1) = true) : q_Ct YX8_trips [.ref 72, .int (nI j)] q_SH σ (q_is (some (qm_tr σ j 999 0 (σ 73 (8 * j + 1)))) q_SH σ) := by
  refine q_ct (n := 3) (by decide) (by decide) rfl (fun _ => Nat.le_of_ble_eq_true rfl) (fun E => ?_)
  refine q_aload_n dX8_trips_0 rfl ?_
  refine q_iload_n dX8_trips_1 rfl ?_
  refine q_cVi lX8_163 vX8_isDiver (ci := 8) rfl dX8_trips_2 kX8_isDiver (by first | rfl | assumption) rfl rfl (Nat.le_of_ble_eq_true rfl) (by decide) ?_
  refine q_bne 10 dX8_trips_5 (by decide) (fun h5 => ?_) (fun h5 => ?_)
  · refine q_aload_n dX8_trips_10 rfl ?_
    refine q_iload_n dX8_trips_11 rfl ?_
    refine q_iconst (x := 1) dX8_trips_12 (by decide) ?_
    refine q_cVi lX8_153 vX8_of (ci := 8) rfl dX8_trips_13 (kX8_of (w := 1) hj (by decide)) (by first | rfl | assumption) rfl rfl (Nat.le_of_ble_eq_true rfl) (by decide) ?_
    refine q_istore_n dX8_trips_16 (by decide) rfl ?_
    refine q_iconst (x := 0) dX8_trips_17 (by decide) ?_
    refine q_istore_n dX8_trips_18 (by decide) rfl ?_
    refine q_iconst (x := 1) dX8_trips_19 (by decide) ?_
    refine q_istore dX8_trips_20 (by decide) rfl ?_
    exact lpX8_trips hA hA1 hA2 hH h200 hj 1000 0 _ (by omega) (by omega)
  · exact absurd hk (by rw [h5]; decide)

set_option maxHeartbeats 1000000 in
set_option maxRecDepth 100000 in
theorem kX8_tripsB {σ : q_M} {k : Int32} (hbad : q_win k 0 (σ 73 53 - 1) = false) : q_Ct YX8_trips [.ref 72, .int k] q_SH σ (q_is (some (-1)) q_SH σ) := by
  refine q_ct (n := 3) (by decide) (by decide) rfl (fun _ => Nat.le_of_ble_eq_true rfl) (fun E => ?_)
  refine q_aload_n dX8_trips_0 rfl ?_
  refine q_iload_n dX8_trips_1 rfl ?_
  refine q_cVi lX8_163 vX8_isDiver (ci := 8) rfl dX8_trips_2 kX8_isDiver (by first | rfl | assumption) rfl rfl (Nat.le_of_ble_eq_true rfl) (by decide) ?_
  refine q_bne 10 dX8_trips_5 (by decide) (fun h5 => ?_) (fun h5 => ?_)
  · exact absurd hbad (by rw [h5]; decide)
  · refine q_iconst (x := (-1)) dX8_trips_8 (by decide) ?_
    refine q_ret dX8_trips_9 ?_ rfl rfl
    exact ⟨rfl, rfl, rfl⟩

set_option maxHeartbeats 1000000 in
set_option maxRecDepth 100000 in
theorem lpX8_bladderAt {E : q_E} {σ : q_M} {ar : Nat} (hA : σ 75 1 = nI ar) (hA1 : 1 ≤ ar) (hA2 : ar ≤ 100000) {j d : Nat} (hj : j < 6) (hd : d ≤ 200) : ∀ (n : Nat) (i : Nat), 10000 + 1 ≤ i + n → i ≤ 10000 → q_G YX8_bladderAt E 0 0 2 [some (.ref 72), some (.int (nI j)), some (.int (nI d)), some (.int (nI i))] [] q_SH σ (q_is (some (q_fst (fun b => decide ((qm_jw σ j (nI b) (σ 73 49) (nI d)).toInt ≤ 0)) 10000 (10000 - i))) q_SH σ) := by
  intro n
  induction n with
  | zero =>
    intro i hm h0
    exact absurd hm (by omega)
  | succ n ih =>
    intro i hm h0
    have hi := nI_toInt (n := i) (by omega)
    have e9 : (9999 : Int32).toInt = 9999 := rfl
    refine q_iload_n dX8_bladderAt_2 rfl ?_
    refine q_sipush (x := 9999) dX8_bladderAt_3 (by decide) ?_
    refine q_cgt 39 dX8_bladderAt_6 (by decide) (fun h6 => ?_) (fun h6 => ?_)
    · have e : 10000 - i = 0 := by omega
      rw [e]
      refine q_bipush (x := (-4)) dX8_bladderAt_39 (by decide) ?_
      refine q_ret dX8_bladderAt_41 ?_ rfl rfl
      exact ⟨rfl, rfl, rfl⟩
    · refine q_aload_n dX8_bladderAt_9 rfl ?_
      refine q_aload_n dX8_bladderAt_10 rfl ?_
      refine q_iload_n dX8_bladderAt_11 rfl ?_
      refine q_cVi lX8_156 vX8_heavy (ci := 8) rfl dX8_bladderAt_12 (kX8_heavy hj) (by first | rfl | assumption) rfl rfl (Nat.le_of_ble_eq_true rfl) (by decide) ?_
      refine q_iload_n dX8_bladderAt_15 rfl ?_
      refine q_aload_n dX8_bladderAt_16 rfl ?_
      refine q_getr fX8_7 dX8_bladderAt_17 (by first | rfl | assumption) (by rfl) ?_
      refine q_bipush (x := 49) dX8_bladderAt_20 (by decide) ?_
      refine q_ild 49 (by first | rfl | assumption) rfl (by decide) dX8_bladderAt_22 ?_
      refine q_iconst (x := 0) dX8_bladderAt_23 (by decide) ?_
      refine q_iload_n dX8_bladderAt_24 rfl ?_
      refine q_cVi lX8_159 vX8_weight (ci := 8) rfl dX8_bladderAt_25 (kX8_weight (th := 0) (dep := nI d) (q_pr (t := 0) (d := d) hA hA1 hA2 (by omega) (by omega))) (by first | rfl | assumption) rfl rfl (Nat.le_of_ble_eq_true rfl) (by decide) ?_
      refine q_tope (y := (qm_jw σ j (nI i) (σ 73 49) (nI d))) rfl ?_
      refine q_zgt 33 dX8_bladderAt_28 (by decide) (fun h28 => ?_) (fun h28 => ?_)
      · have hp : decide ((qm_jw σ j (nI i) (σ 73 49) (nI d)).toInt ≤ 0) = false := decide_eq_false (by omega)
        refine q_inc 1 dX8_bladderAt_33 (by decide) rfl (by decide) rfl ?_
        refine q_goto 2 dX8_bladderAt_36 (by decide) ?_
        rw [nI_1]
        rw [show 10000 - i = (10000 - (i + 1)) + 1 by omega, q_fst, show 10000 - (10000 - (i + 1) + 1) = i by omega, if_neg (by rw [hp]; decide)]
        exact ih (i + 1) (by omega) (by omega)
      · have hp : decide ((qm_jw σ j (nI i) (σ 73 49) (nI d)).toInt ≤ 0) = true := decide_eq_true h28
        rw [show 10000 - i = (10000 - (i + 1)) + 1 by omega, q_fst, show 10000 - (10000 - (i + 1) + 1) = i by omega, if_pos hp]
        refine q_iload_n dX8_bladderAt_31 rfl ?_
        refine q_ret dX8_bladderAt_32 ?_ rfl rfl
        exact ⟨rfl, rfl, rfl⟩

def qm_bd (σ : q_M) (j d : Nat) : Int32 := q_fst (fun b => decide ((qm_jw σ j (nI b) (σ 73 49) (nI d)).toInt ≤ 0)) 10000 10000

set_option maxHeartbeats 1000000 in
set_option maxRecDepth 100000 in
theorem kX8_bladderAt {σ : q_M} {ar : Nat} (hA : σ 75 1 = nI ar) (hA1 : 1 ≤ ar) (hA2 : ar ≤ 100000) {j d : Nat} (hj : j < 6) (hd : d ≤ 200) : q_Ct YX8_bladderAt [.ref 72, .int (nI j), .int (nI d)] q_SH σ (q_is (some (qm_bd σ j d)) q_SH σ) := by
  refine q_ct (n := 1) (by decide) (by decide) rfl (fun _ => Nat.le_of_ble_eq_true rfl) (fun E => ?_)
  refine q_iconst (x := 0) dX8_bladderAt_0 (by decide) ?_
  refine q_istore_n dX8_bladderAt_1 (by decide) rfl ?_
  exact lpX8_bladderAt hA hA1 hA2 hj hd 10001 0 (by omega) (by omega)

def qm_bl (a b w rate : Int32) : Int32 := if a = -4 ∨ b = -4 then -4 else if w = 1 then b else if a = b then 0 else if rate = 0 then -4 else (q_abs (a - b) + rate - 1) / rate

set_option maxHeartbeats 1000000 in
set_option maxRecDepth 100000 in
theorem kX8_bladder {σ : q_M} {ar : Nat} (hA : σ 75 1 = nI ar) (hA1 : 1 ≤ ar) (hA2 : ar ≤ 100000) {H : Nat} (hH : σ 75 0 = nI H) (h200 : H ≤ 200) {j d e : Nat} (hj : j < 6) (hk : q_win (nI j) 0 (σ 73 53 - 1) = true) (hd : q_win (nI d) 0 (σ 75 0) = true) (he : q_win (nI e) 0 (σ 75 0) = true) (hd2 : d ≤ 200) (he2 : e ≤ 200) {w : Int32} (hw : q_win w 0 1 = true) : q_Ct YX8_bladder [.ref 72, .int (nI j), .int (nI d), .int (nI e), .int w] q_SH σ (q_is (some (qm_bl (qm_bd σ j d) (qm_bd σ j e) w (σ 73 (8 * j + 3)))) q_SH σ) := by
  refine q_ct (n := 3) (by decide) (by decide) rfl (fun _ => Nat.le_of_ble_eq_true rfl) (fun E => ?_)
  refine q_aload_n dX8_bladder_0 rfl ?_
  refine q_iload_n dX8_bladder_1 rfl ?_
  refine q_cVi lX8_163 vX8_isDiver (ci := 8) rfl dX8_bladder_2 kX8_isDiver (by first | rfl | assumption) rfl rfl (Nat.le_of_ble_eq_true rfl) (by decide) ?_
  refine q_beq 35 dX8_bladder_5 (by decide) (fun h5 => ?_) (fun h5 => ?_)
  · exact absurd hk (by rw [h5]; decide)
  · refine q_aload_n dX8_bladder_8 rfl ?_
    refine q_iload_n dX8_bladder_9 rfl ?_
    refine q_cVi lX8_202 vX8_isDepth (ci := 8) rfl dX8_bladder_10 kX8_isDepth (by first | rfl | assumption) rfl rfl (Nat.le_of_ble_eq_true rfl) (by decide) ?_
    refine q_beq 35 dX8_bladder_13 (by decide) (fun h13 => ?_) (fun h13 => ?_)
    · exact absurd hd (by rw [h13]; decide)
    · refine q_aload_n dX8_bladder_16 rfl ?_
      refine q_iload_n dX8_bladder_17 rfl ?_
      refine q_cVi lX8_202 vX8_isDepth (ci := 8) rfl dX8_bladder_18 kX8_isDepth (by first | rfl | assumption) rfl rfl (Nat.le_of_ble_eq_true rfl) (by decide) ?_
      refine q_beq 35 dX8_bladder_21 (by decide) (fun h21 => ?_) (fun h21 => ?_)
      · exact absurd he (by rw [h21]; decide)
      · refine q_iload dX8_bladder_24 rfl ?_
        refine q_i2l dX8_bladder_26 ?_
        refine q_lconst (x := 0) dX8_bladder_27 (by decide) ?_
        refine q_lconst (x := 1) dX8_bladder_28 (by decide) ?_
        refine q_cSi lX8_72 sX8_in dX8_bladder_29 (kX8_in (x := w) (lo := 0) (hi := 1) (Int32.toInt_toInt64 _) rfl rfl) rfl rfl (Nat.le_of_ble_eq_true rfl) (by decide) ?_
        refine q_bne 37 dX8_bladder_32 (by decide) (fun h32 => ?_) (fun h32 => ?_)
        · refine q_aload_n dX8_bladder_37 rfl ?_
          refine q_iload_n dX8_bladder_38 rfl ?_
          refine q_iload_n dX8_bladder_39 rfl ?_
          refine q_cVi lX8_281 vX8_bladderAt (ci := 8) rfl dX8_bladder_40 (kX8_bladderAt hA hA1 hA2 hj hd2) (by first | rfl | assumption) rfl rfl (Nat.le_of_ble_eq_true rfl) (by decide) ?_
          refine q_topi (fun a ea => ?_)
          refine q_istore dX8_bladder_43 (by decide) rfl ?_
          refine q_aload_n dX8_bladder_45 rfl ?_
          refine q_iload_n dX8_bladder_46 rfl ?_
          refine q_iload_n dX8_bladder_47 rfl ?_
          refine q_cVi lX8_281 vX8_bladderAt (ci := 8) rfl dX8_bladder_48 (kX8_bladderAt hA hA1 hA2 hj he2) (by first | rfl | assumption) rfl rfl (Nat.le_of_ble_eq_true rfl) (by decide) ?_
          refine q_topi (fun b eb => ?_)
          refine q_istore dX8_bladder_51 (by decide) rfl ?_
          refine q_iload dX8_bladder_53 rfl ?_
          refine q_bipush (x := (-4)) dX8_bladder_55 (by decide) ?_
          refine q_icmp_eq 67 dX8_bladder_57 (by decide) (fun h57 => ?_) (fun h57 => ?_)
          · have hr : qm_bl (qm_bd σ j d) (qm_bd σ j e) w (σ 73 (8 * j + 3)) = -4 := by rw [← ea, qm_bl, if_pos (Or.inl h57)]
            refine q_bipush (x := (-4)) dX8_bladder_67 (by decide) ?_
            refine q_ret dX8_bladder_69 ?_ rfl rfl
            exact ⟨congrArg some hr.symm, rfl, rfl⟩
          · refine q_iload dX8_bladder_60 rfl ?_
            refine q_bipush (x := (-4)) dX8_bladder_62 (by decide) ?_
            refine q_icmp_ne 70 dX8_bladder_64 (by decide) (fun h64 => ?_) (fun h64 => ?_)
            · rw [← ea, ← eb, qm_bl, if_neg (fun z => z.elim h57 h64)]
              refine q_aload_n dX8_bladder_70 rfl ?_
              refine q_iload_n dX8_bladder_71 rfl ?_
              refine q_iconst (x := 3) dX8_bladder_72 (by decide) ?_
              refine q_cVi lX8_153 vX8_of (ci := 8) rfl dX8_bladder_73 (kX8_of (w := 3) hj (by decide)) (by first | rfl | assumption) rfl rfl (Nat.le_of_ble_eq_true rfl) (by decide) ?_
              refine q_istore dX8_bladder_76 (by decide) rfl ?_
              refine q_iload dX8_bladder_78 rfl ?_
              refine q_iconst (x := 1) dX8_bladder_80 (by decide) ?_
              refine q_icmp_ne 89 dX8_bladder_81 (by decide) (fun h81 => ?_) (fun h81 => ?_)
              · refine q_iload dX8_bladder_89 rfl ?_
                refine q_iload dX8_bladder_91 rfl ?_
                refine q_icmp_ne 100 dX8_bladder_93 (by decide) (fun h93 => ?_) (fun h93 => ?_)
                · refine q_iload dX8_bladder_100 rfl ?_
                  refine q_if_ne 110 dX8_bladder_102 (by decide) (fun h102 => ?_) (fun h102 => ?_)
                  · refine q_iload dX8_bladder_110 rfl ?_
                    refine q_iload dX8_bladder_112 rfl ?_
                    refine q_isub dX8_bladder_114 ?_
                    refine q_cSi lX8_214 sX8_size dX8_bladder_115 kX8_size rfl rfl (Nat.le_of_ble_eq_true rfl) (by decide) ?_
                    refine q_iload dX8_bladder_118 rfl ?_
                    refine q_iadd dX8_bladder_120 ?_
                    refine q_iconst (x := 1) dX8_bladder_121 (by decide) ?_
                    refine q_isub dX8_bladder_122 ?_
                    refine q_iload dX8_bladder_123 rfl ?_
                    refine q_idiv (h102) dX8_bladder_125 ?_
                    refine q_ret dX8_bladder_126 ?_ rfl rfl
                    exact ⟨congrArg some (by first | rw [if_pos h81] | (rw [if_neg h81]; first | rw [if_pos h93] | (rw [if_neg h93]; first | rw [if_pos h102] | rw [if_neg h102]))), rfl, rfl⟩
                  · refine q_bipush (x := (-4)) dX8_bladder_105 (by decide) ?_
                    refine q_goto 126 dX8_bladder_107 (by decide) ?_
                    refine q_ret dX8_bladder_126 ?_ rfl rfl
                    exact ⟨congrArg some (by first | rw [if_pos h81] | (rw [if_neg h81]; first | rw [if_pos h93] | (rw [if_neg h93]; first | rw [if_pos h102] | rw [if_neg h102]))), rfl, rfl⟩
                · refine q_iconst (x := 0) dX8_bladder_96 (by decide) ?_
                  refine q_goto 126 dX8_bladder_97 (by decide) ?_
                  refine q_ret dX8_bladder_126 ?_ rfl rfl
                  exact ⟨congrArg some (by first | rw [if_pos h81] | (rw [if_neg h81]; first | rw [if_pos h93] | (rw [if_neg h93]; first | rw [if_pos h102] | rw [if_neg h102]))), rfl, rfl⟩
              · refine q_iload dX8_bladder_84 rfl ?_
                refine q_goto 126 dX8_bladder_86 (by decide) ?_
                refine q_ret dX8_bladder_126 ?_ rfl rfl
                exact ⟨congrArg some (by first | rw [if_pos h81] | (rw [if_neg h81]; first | rw [if_pos h93] | (rw [if_neg h93]; first | rw [if_pos h102] | rw [if_neg h102]))), rfl, rfl⟩
            · have hr : qm_bl (qm_bd σ j d) (qm_bd σ j e) w (σ 73 (8 * j + 3)) = -4 := by rw [← eb, qm_bl, if_pos (Or.inr h64)]
              refine q_bipush (x := (-4)) dX8_bladder_67 (by decide) ?_
              refine q_ret dX8_bladder_69 ?_ rfl rfl
              exact ⟨congrArg some hr.symm, rfl, rfl⟩
        · exact absurd hw (by rw [h32]; decide)

set_option maxHeartbeats 1000000 in
set_option maxRecDepth 100000 in
theorem kX8_bladderB {σ : q_M} {k d e w : Int32} (hbad : (q_win k 0 (σ 73 53 - 1) && q_win d 0 (σ 75 0) && q_win e 0 (σ 75 0) && q_win w 0 1) = false) : q_Ct YX8_bladder [.ref 72, .int k, .int d, .int e, .int w] q_SH σ (q_is (some (-1)) q_SH σ) := by
  refine q_ct (n := 3) (by decide) (by decide) rfl (fun _ => Nat.le_of_ble_eq_true rfl) (fun E => ?_)
  refine q_aload_n dX8_bladder_0 rfl ?_
  refine q_iload_n dX8_bladder_1 rfl ?_
  refine q_cVi lX8_163 vX8_isDiver (ci := 8) rfl dX8_bladder_2 kX8_isDiver (by first | rfl | assumption) rfl rfl (Nat.le_of_ble_eq_true rfl) (by decide) ?_
  refine q_beq 35 dX8_bladder_5 (by decide) (fun h5 => ?_) (fun h5 => ?_)
  · refine q_iconst (x := (-1)) dX8_bladder_35 (by decide) ?_
    refine q_ret dX8_bladder_36 ?_ rfl rfl
    exact ⟨rfl, rfl, rfl⟩
  · refine q_aload_n dX8_bladder_8 rfl ?_
    refine q_iload_n dX8_bladder_9 rfl ?_
    refine q_cVi lX8_202 vX8_isDepth (ci := 8) rfl dX8_bladder_10 kX8_isDepth (by first | rfl | assumption) rfl rfl (Nat.le_of_ble_eq_true rfl) (by decide) ?_
    refine q_beq 35 dX8_bladder_13 (by decide) (fun h13 => ?_) (fun h13 => ?_)
    · refine q_iconst (x := (-1)) dX8_bladder_35 (by decide) ?_
      refine q_ret dX8_bladder_36 ?_ rfl rfl
      exact ⟨rfl, rfl, rfl⟩
    · refine q_aload_n dX8_bladder_16 rfl ?_
      refine q_iload_n dX8_bladder_17 rfl ?_
      refine q_cVi lX8_202 vX8_isDepth (ci := 8) rfl dX8_bladder_18 kX8_isDepth (by first | rfl | assumption) rfl rfl (Nat.le_of_ble_eq_true rfl) (by decide) ?_
      refine q_beq 35 dX8_bladder_21 (by decide) (fun h21 => ?_) (fun h21 => ?_)
      · refine q_iconst (x := (-1)) dX8_bladder_35 (by decide) ?_
        refine q_ret dX8_bladder_36 ?_ rfl rfl
        exact ⟨rfl, rfl, rfl⟩
      · refine q_iload dX8_bladder_24 rfl ?_
        refine q_i2l dX8_bladder_26 ?_
        refine q_lconst (x := 0) dX8_bladder_27 (by decide) ?_
        refine q_lconst (x := 1) dX8_bladder_28 (by decide) ?_
        refine q_cSi lX8_72 sX8_in dX8_bladder_29 (kX8_in (x := w) (lo := 0) (hi := 1) (Int32.toInt_toInt64 _) rfl rfl) rfl rfl (Nat.le_of_ble_eq_true rfl) (by decide) ?_
        refine q_bne 37 dX8_bladder_32 (by decide) (fun h32 => ?_) (fun h32 => ?_)
        · exact absurd hbad (by simp [*])
        · refine q_iconst (x := (-1)) dX8_bladder_35 (by decide) ?_
          refine q_ret dX8_bladder_36 ?_ rfl rfl
          exact ⟨rfl, rfl, rfl⟩

def qm_bw (σ : q_M) (j : Nat) (b dep : Int32) : Int32 := q_wt (σ 75 1) (σ 75 4) (σ 75 5) (σ 73 (8 * j + 0)) b (σ 73 49) dep 0
def qm_bt (p : Nat → Bool) (gn : Nat) : Nat → Nat → Nat → Nat × Nat
  | 0, v, t => (t, v)
  | m + 1, v, t => if p v then (t, v) else qm_bt p gn m (if 9999 < v + gn then 9999 else v + gn) (t + 1)
def qm_btr (x : Nat × Nat) (w : Int32) : Int32 := if w = 0 then nI x.1 else nI x.2

set_option maxHeartbeats 1000000 in
set_option maxRecDepth 100000 in
theorem lpX8_beats {E : q_E} {σ : q_M} {ar : Nat} (hA : σ 75 1 = nI ar) (hA1 : 1 ≤ ar) (hA2 : ar ≤ 100000) {H : Nat} (hH : σ 75 0 = nI H) (h200 : H ≤ 200) {j : Nat} (hj : j < 6) {gn : Nat} (hg : 1 ≤ gn) (hg9 : gn ≤ 99) {x0 w : Int32} (h99 : (qm_bw σ j 9999 (σ 75 0)).toInt < 0) : ∀ (n : Nat) (v t : Nat), 10000 ≤ v + n → v ≤ 9999 → q_G YX8_beats E 0 0 107 [some (.ref 72), some (.int (nI j)), some (.int x0), some (.int (nI gn)), some (.int w), some (.int (σ 73 (8 * j + 0))), some (.int (nI v)), some (.int (nI t))] [] q_SH σ (q_is (some (qm_btr (qm_bt (fun v => decide ((qm_bw σ j (nI v) (σ 75 0)).toInt < 0)) gn n v t) w)) q_SH σ) := by
  intro n
  induction n with
  | zero =>
    intro v t hm h0
    exact absurd hm (by omega)
  | succ n ih =>
    intro v t hm h0
    have hvt := nI_toInt (n := v + gn) (by omega)
    have e9 : (9999 : Int32).toInt = 9999 := rfl
    refine q_aload_n dX8_beats_107 rfl ?_
    refine q_iload dX8_beats_108 rfl ?_
    refine q_iload dX8_beats_110 rfl ?_
    refine q_aload_n dX8_beats_112 rfl ?_
    refine q_getr fX8_7 dX8_beats_113 (by first | rfl | assumption) (by rfl) ?_
    refine q_bipush (x := 49) dX8_beats_116 (by decide) ?_
    refine q_ild 49 (by first | rfl | assumption) rfl (by decide) dX8_beats_118 ?_
    refine q_iconst (x := 0) dX8_beats_119 (by decide) ?_
    refine q_aload_n dX8_beats_120 rfl ?_
    refine q_getr fX8_17 dX8_beats_121 (by first | rfl | assumption) (by rfl) ?_
    refine q_iconst (x := 0) dX8_beats_124 (by decide) ?_
    refine q_ild 0 (by first | rfl | assumption) rfl (by decide) dX8_beats_125 ?_
    refine q_cVi lX8_159 vX8_weight (ci := 8) rfl dX8_beats_126 (kX8_weight (th := 0) (dep := σ 75 0) (by rw [hH]; exact (q_pr (t := 0) (d := H) hA hA1 hA2 (by omega) (by omega)))) (by first | rfl | assumption) rfl rfl (Nat.le_of_ble_eq_true rfl) (by decide) ?_
    refine q_tope (y := (qm_bw σ j (nI v) (σ 75 0))) rfl ?_
    refine q_zlt 160 dX8_beats_129 (by decide) (fun h129 => ?_) (fun h129 => ?_)
    · rw [qm_bt, if_pos (decide_eq_true h129)]
      refine q_iload dX8_beats_160 rfl ?_
      refine q_if_ne 170 dX8_beats_162 (by decide) (fun h162 => ?_) (fun h162 => ?_)
      · refine q_iload dX8_beats_170 rfl ?_
        refine q_ret dX8_beats_172 ?_ rfl rfl
        exact ⟨congrArg some (by rw [qm_btr]; first | rw [if_pos h162] | rw [if_neg h162]), rfl, rfl⟩
      · refine q_iload dX8_beats_165 rfl ?_
        refine q_goto 172 dX8_beats_167 (by decide) ?_
        refine q_ret dX8_beats_172 ?_ rfl rfl
        exact ⟨congrArg some (by rw [qm_btr]; first | rw [if_pos h162] | rw [if_neg h162]), rfl, rfl⟩
    · have hv9 : v ≠ 9999 := fun z => by subst z; exact absurd h99 (Int.not_lt.mpr h129)
      rw [qm_bt, if_neg (by rw [decide_eq_true_eq]; omega)]
      refine q_iload dX8_beats_132 rfl ?_
      refine q_iload_n dX8_beats_134 rfl ?_
      refine q_iadd dX8_beats_135 ?_
      rw [nI_add]
      refine q_sipush (x := 9999) dX8_beats_136 (by decide) ?_
      refine q_cle 148 dX8_beats_139 (by decide) (fun h139 => ?_) (fun h139 => ?_)
      · rw [if_neg (by omega)]
        refine q_iload dX8_beats_148 rfl ?_
        refine q_iload_n dX8_beats_150 rfl ?_
        refine q_iadd dX8_beats_151 ?_
        try rw [nI_add]
        refine q_istore dX8_beats_152 (by decide) rfl ?_
        refine q_inc 1 dX8_beats_154 (by decide) rfl (by decide) rfl ?_
        refine q_goto 107 dX8_beats_157 (by decide) ?_
        rw [nI_1]
        first
          | exact ih (v + gn) (t + 1) (by omega) (by omega)
          | exact ih 9999 (t + 1) (by omega) (by omega)
      · rw [if_pos (by omega)]
        refine q_sipush (x := 9999) dX8_beats_142 (by decide) ?_
        refine q_goto 152 dX8_beats_145 (by decide) ?_
        try rw [nI_add]
        refine q_istore dX8_beats_152 (by decide) rfl ?_
        refine q_inc 1 dX8_beats_154 (by decide) rfl (by decide) rfl ?_
        refine q_goto 107 dX8_beats_157 (by decide) ?_
        rw [nI_1]
        first
          | exact ih (v + gn) (t + 1) (by omega) (by omega)
          | exact ih 9999 (t + 1) (by omega) (by omega)

set_option maxHeartbeats 1000000 in
set_option maxRecDepth 100000 in
theorem kX8_beats {σ : q_M} {ar : Nat} (hA : σ 75 1 = nI ar) (hA1 : 1 ≤ ar) (hA2 : ar ≤ 100000) {H : Nat} (hH : σ 75 0 = nI H) (h200 : H ≤ 200) {j : Nat} (hj : j < 6) (hk : q_win (nI j) 0 (σ 73 53 - 1) = true) {b gn : Nat} (hb : b ≤ 9999) (hg : 1 ≤ gn) (hg9 : gn ≤ 99) {w : Int32} (hw : q_win w 0 1 = true) : q_Ct YX8_beats [.ref 72, .int (nI j), .int (nI b), .int (nI gn), .int w] q_SH σ (q_is (some (if (qm_bw σ j (nI b) 0).toInt ≤ 0 ∨ 0 ≤ (qm_bw σ j 9999 (σ 75 0)).toInt then -4 else qm_btr (qm_bt (fun v => decide ((qm_bw σ j (nI v) (σ 75 0)).toInt < 0)) gn 10000 b 2) w)) q_SH σ) := by
  refine q_ct (n := 3) (by decide) (by decide) rfl (fun _ => Nat.le_of_ble_eq_true rfl) (fun E => ?_)
  have hbt := nI_toInt (n := b) (by omega)
  have hgt := nI_toInt (n := gn) (by omega)
  refine q_aload_n dX8_beats_0 rfl ?_
  refine q_iload_n dX8_beats_1 rfl ?_
  refine q_cVi lX8_163 vX8_isDiver (ci := 8) rfl dX8_beats_2 kX8_isDiver (by first | rfl | assumption) rfl rfl (Nat.le_of_ble_eq_true rfl) (by decide) ?_
  refine q_beq 43 dX8_beats_5 (by decide) (fun h5 => ?_) (fun h5 => ?_)
  · exact absurd hk (by rw [h5]; decide)
  · refine q_iload_n dX8_beats_8 rfl ?_
    refine q_i2l dX8_beats_9 ?_
    refine q_lconst (x := 0) dX8_beats_10 (by decide) ?_
    refine q_ldc2 kX8_284 dX8_beats_11 ?_
    refine q_cSi lX8_72 sX8_in dX8_beats_14 (kX8_in (x := (nI b)) (lo := 0) (hi := 9999) (Int32.toInt_toInt64 _) rfl rfl) rfl rfl (Nat.le_of_ble_eq_true rfl) (by decide) ?_
    refine q_beq 43 dX8_beats_17 (by decide) (fun h17 => ?_) (fun h17 => ?_)
    · exact absurd h17 (by rw [show q_win (nI b) 0 9999 = true from decide_eq_true (by have e2 : (0 : Int32).toInt = 0 := rfl; have e6 : (9999 : Int32).toInt = 9999 := rfl; omega)]; decide)
    · refine q_iload_n dX8_beats_20 rfl ?_
      refine q_i2l dX8_beats_21 ?_
      refine q_lconst (x := 1) dX8_beats_22 (by decide) ?_
      refine q_ldc2 kX8_286 dX8_beats_23 ?_
      refine q_cSi lX8_72 sX8_in dX8_beats_26 (kX8_in (x := (nI gn)) (lo := 1) (hi := 99) (Int32.toInt_toInt64 _) rfl rfl) rfl rfl (Nat.le_of_ble_eq_true rfl) (by decide) ?_
      refine q_beq 43 dX8_beats_29 (by decide) (fun h29 => ?_) (fun h29 => ?_)
      · exact absurd h29 (by rw [show q_win (nI gn) 1 99 = true from decide_eq_true (by have e2 : (1 : Int32).toInt = 1 := rfl; have e6 : (99 : Int32).toInt = 99 := rfl; omega)]; decide)
      · refine q_iload dX8_beats_32 rfl ?_
        refine q_i2l dX8_beats_34 ?_
        refine q_lconst (x := 0) dX8_beats_35 (by decide) ?_
        refine q_lconst (x := 1) dX8_beats_36 (by decide) ?_
        refine q_cSi lX8_72 sX8_in dX8_beats_37 (kX8_in (x := w) (lo := 0) (hi := 1) (Int32.toInt_toInt64 _) rfl rfl) rfl rfl (Nat.le_of_ble_eq_true rfl) (by decide) ?_
        refine q_bne 45 dX8_beats_40 (by decide) (fun h40 => ?_) (fun h40 => ?_)
        · refine q_aload_n dX8_beats_45 rfl ?_
          refine q_iload_n dX8_beats_46 rfl ?_
          refine q_iconst (x := 0) dX8_beats_47 (by decide) ?_
          refine q_cVi lX8_153 vX8_of (ci := 8) rfl dX8_beats_48 (kX8_of (w := 0) hj (by decide)) (by first | rfl | assumption) rfl rfl (Nat.le_of_ble_eq_true rfl) (by decide) ?_
          refine q_istore dX8_beats_51 (by decide) rfl ?_
          refine q_aload_n dX8_beats_53 rfl ?_
          refine q_iload dX8_beats_54 rfl ?_
          refine q_iload_n dX8_beats_56 rfl ?_
          refine q_aload_n dX8_beats_57 rfl ?_
          refine q_getr fX8_7 dX8_beats_58 (by first | rfl | assumption) (by rfl) ?_
          refine q_bipush (x := 49) dX8_beats_61 (by decide) ?_
          refine q_ild 49 (by first | rfl | assumption) rfl (by decide) dX8_beats_63 ?_
          refine q_iconst (x := 0) dX8_beats_64 (by decide) ?_
          refine q_iconst (x := 0) dX8_beats_65 (by decide) ?_
          refine q_cVi lX8_159 vX8_weight (ci := 8) rfl dX8_beats_66 (kX8_weight (th := 0) (dep := 0) (q_pr (t := 0) (d := 0) hA hA1 hA2 (by omega) (by omega))) (by first | rfl | assumption) rfl rfl (Nat.le_of_ble_eq_true rfl) (by decide) ?_
          refine q_tope (y := (qm_bw σ j (nI b) 0)) rfl ?_
          refine q_zle 98 dX8_beats_69 (by decide) (fun h69 => ?_) (fun h69 => ?_)
          · have hc : (qm_bw σ j (nI b) 0).toInt ≤ 0 ∨ 0 ≤ (qm_bw σ j 9999 (σ 75 0)).toInt := Or.inl h69
            refine q_bipush (x := (-4)) dX8_beats_98 (by decide) ?_
            refine q_ret dX8_beats_100 ?_ rfl rfl
            exact ⟨congrArg some (by rw [if_pos hc]), rfl, rfl⟩
          · refine q_aload_n dX8_beats_72 rfl ?_
            refine q_iload dX8_beats_73 rfl ?_
            refine q_sipush (x := 9999) dX8_beats_75 (by decide) ?_
            refine q_aload_n dX8_beats_78 rfl ?_
            refine q_getr fX8_7 dX8_beats_79 (by first | rfl | assumption) (by rfl) ?_
            refine q_bipush (x := 49) dX8_beats_82 (by decide) ?_
            refine q_ild 49 (by first | rfl | assumption) rfl (by decide) dX8_beats_84 ?_
            refine q_iconst (x := 0) dX8_beats_85 (by decide) ?_
            refine q_aload_n dX8_beats_86 rfl ?_
            refine q_getr fX8_17 dX8_beats_87 (by first | rfl | assumption) (by rfl) ?_
            refine q_iconst (x := 0) dX8_beats_90 (by decide) ?_
            refine q_ild 0 (by first | rfl | assumption) rfl (by decide) dX8_beats_91 ?_
            refine q_cVi lX8_159 vX8_weight (ci := 8) rfl dX8_beats_92 (kX8_weight (th := 0) (dep := σ 75 0) (by rw [hH]; exact (q_pr (t := 0) (d := H) hA hA1 hA2 (by omega) (by omega)))) (by first | rfl | assumption) rfl rfl (Nat.le_of_ble_eq_true rfl) (by decide) ?_
            refine q_tope (y := (qm_bw σ j 9999 (σ 75 0))) rfl ?_
            refine q_zlt 101 dX8_beats_95 (by decide) (fun h95 => ?_) (fun h95 => ?_)
            · rw [if_neg (by omega)]
              refine q_iload_n dX8_beats_101 rfl ?_
              refine q_istore dX8_beats_102 (by decide) rfl ?_
              refine q_iconst (x := 2) dX8_beats_104 (by decide) ?_
              refine q_istore dX8_beats_105 (by decide) rfl ?_
              have z := lpX8_beats (E := E) hA hA1 hA2 hH h200 hj hg hg9 (x0 := nI b) (w := w) h95 10000 b 2 (by omega) hb
              exact z
            · have hc : (qm_bw σ j (nI b) 0).toInt ≤ 0 ∨ 0 ≤ (qm_bw σ j 9999 (σ 75 0)).toInt := Or.inr h95
              refine q_bipush (x := (-4)) dX8_beats_98 (by decide) ?_
              refine q_ret dX8_beats_100 ?_ rfl rfl
              exact ⟨congrArg some (by rw [if_pos hc]), rfl, rfl⟩
        · exact absurd hw (by rw [h40]; decide)

set_option maxHeartbeats 1000000 in
set_option maxRecDepth 100000 in
theorem kX8_beatsB {σ : q_M} {k b gn w : Int32} (hbad : (q_win k 0 (σ 73 53 - 1) && q_win b 0 9999 && q_win gn 1 99 && q_win w 0 1) = false) : q_Ct YX8_beats [.ref 72, .int k, .int b, .int gn, .int w] q_SH σ (q_is (some (-1)) q_SH σ) := by
  refine q_ct (n := 3) (by decide) (by decide) rfl (fun _ => Nat.le_of_ble_eq_true rfl) (fun E => ?_)
  refine q_aload_n dX8_beats_0 rfl ?_
  refine q_iload_n dX8_beats_1 rfl ?_
  refine q_cVi lX8_163 vX8_isDiver (ci := 8) rfl dX8_beats_2 kX8_isDiver (by first | rfl | assumption) rfl rfl (Nat.le_of_ble_eq_true rfl) (by decide) ?_
  refine q_beq 43 dX8_beats_5 (by decide) (fun h5 => ?_) (fun h5 => ?_)
  · refine q_iconst (x := (-1)) dX8_beats_43 (by decide) ?_
    refine q_ret dX8_beats_44 ?_ rfl rfl
    exact ⟨rfl, rfl, rfl⟩
  · refine q_iload_n dX8_beats_8 rfl ?_
    refine q_i2l dX8_beats_9 ?_
    refine q_lconst (x := 0) dX8_beats_10 (by decide) ?_
    refine q_ldc2 kX8_284 dX8_beats_11 ?_
    refine q_cSi lX8_72 sX8_in dX8_beats_14 (kX8_in (x := b) (lo := 0) (hi := 9999) (Int32.toInt_toInt64 _) rfl rfl) rfl rfl (Nat.le_of_ble_eq_true rfl) (by decide) ?_
    refine q_beq 43 dX8_beats_17 (by decide) (fun h17 => ?_) (fun h17 => ?_)
    · refine q_iconst (x := (-1)) dX8_beats_43 (by decide) ?_
      refine q_ret dX8_beats_44 ?_ rfl rfl
      exact ⟨rfl, rfl, rfl⟩
    · refine q_iload_n dX8_beats_20 rfl ?_
      refine q_i2l dX8_beats_21 ?_
      refine q_lconst (x := 1) dX8_beats_22 (by decide) ?_
      refine q_ldc2 kX8_286 dX8_beats_23 ?_
      refine q_cSi lX8_72 sX8_in dX8_beats_26 (kX8_in (x := gn) (lo := 1) (hi := 99) (Int32.toInt_toInt64 _) rfl rfl) rfl rfl (Nat.le_of_ble_eq_true rfl) (by decide) ?_
      refine q_beq 43 dX8_beats_29 (by decide) (fun h29 => ?_) (fun h29 => ?_)
      · refine q_iconst (x := (-1)) dX8_beats_43 (by decide) ?_
        refine q_ret dX8_beats_44 ?_ rfl rfl
        exact ⟨rfl, rfl, rfl⟩
      · refine q_iload dX8_beats_32 rfl ?_
        refine q_i2l dX8_beats_34 ?_
        refine q_lconst (x := 0) dX8_beats_35 (by decide) ?_
        refine q_lconst (x := 1) dX8_beats_36 (by decide) ?_
        refine q_cSi lX8_72 sX8_in dX8_beats_37 (kX8_in (x := w) (lo := 0) (hi := 1) (Int32.toInt_toInt64 _) rfl rfl) rfl rfl (Nat.le_of_ble_eq_true rfl) (by decide) ?_
        refine q_bne 45 dX8_beats_40 (by decide) (fun h40 => ?_) (fun h40 => ?_)
        · exact absurd hbad (by simp [*])
        · refine q_iconst (x := (-1)) dX8_beats_43 (by decide) ?_
          refine q_ret dX8_beats_44 ?_ rfl rfl
          exact ⟨rfl, rfl, rfl⟩

def qm_sn (σ : q_M) (n : Nat) (t d b : Int32) : q_M := q_up (q_up (q_up (q_up σ 73 (55 + 3 * n) t) 73 (55 + 3 * n + 1) d) 73 (55 + 3 * n + 2) (q_b (q_t b))) 73 54 (nI (n + 1))
theorem q_ix3 (n : Nat) : (55 : Int32) + 3 * nI n = nI (55 + 3 * n) := by rw [show (55 : Int32) = nI 55 from rfl, show (3 : Int32) = nI 3 from rfl, pk_mul, nI_add]

set_option maxHeartbeats 1000000 in
set_option maxRecDepth 100000 in
theorem kX8_saw {σ : q_M} {n : Nat} (hn : σ 73 54 = nI n) (hl : n < 12) {t d b : Int32} (ht : q_win t 0 500 = true) (hd : q_win d 0 (σ 75 0) = true) : q_Ct YX8_saw [.ref 72, .int t, .int d, .int b] q_SH σ (q_is (some (nI (n + 1))) q_SH (qm_sn σ n t d b)) := by
  refine q_ct (n := 1) (by decide) (by decide) rfl (fun _ => Nat.le_of_ble_eq_true rfl) (fun E => ?_)
  refine q_iload_n dX8_saw_0 rfl ?_
  refine q_cSi lX8_174 sX8_isThumb dX8_saw_1 kX8_isThumb rfl rfl (Nat.le_of_ble_eq_true rfl) (by decide) ?_
  refine q_beq 15 dX8_saw_4 (by decide) (fun h4 => ?_) (fun h4 => ?_)
  · exact absurd ht (by rw [h4]; decide)
  · refine q_aload_n dX8_saw_7 rfl ?_
    refine q_iload_n dX8_saw_8 rfl ?_
    refine q_cVi lX8_202 vX8_isDepth (ci := 8) rfl dX8_saw_9 kX8_isDepth (by first | rfl | assumption) rfl rfl (Nat.le_of_ble_eq_true rfl) (by decide) ?_
    refine q_bne 17 dX8_saw_12 (by decide) (fun h12 => ?_) (fun h12 => ?_)
    · refine q_aload_n dX8_saw_17 rfl ?_
      refine q_getr fX8_7 dX8_saw_18 (by first | rfl | assumption) (by rfl) ?_
      refine q_bipush (x := 54) dX8_saw_21 (by decide) ?_
      refine q_ild 54 (by first | rfl | assumption) rfl (by decide) dX8_saw_23 ?_
      refine q_bipush (x := 12) dX8_saw_24 (by decide) ?_
      rw [hn]
      refine q_icmp_ne 32 dX8_saw_26 (by decide) (fun h26 => ?_) (fun h26 => ?_)
      · refine q_bipush (x := 55) dX8_saw_32 (by decide) ?_
        refine q_iconst (x := 3) dX8_saw_34 (by decide) ?_
        refine q_aload_n dX8_saw_35 rfl ?_
        refine q_getr fX8_7 dX8_saw_36 (by first | rfl | assumption) (by rfl) ?_
        refine q_bipush (x := 54) dX8_saw_39 (by decide) ?_
        refine q_ild 54 (by first | rfl | assumption) rfl (by decide) dX8_saw_41 ?_
        rw [hn]
        refine q_imul dX8_saw_42 ?_
        refine q_iadd dX8_saw_43 ?_
        rw [q_ix3]
        refine q_istore dX8_saw_44 (by decide) rfl ?_
        refine q_aload_n dX8_saw_46 rfl ?_
        refine q_getr fX8_7 dX8_saw_47 (by first | rfl | assumption) (by rfl) ?_
        refine q_iload dX8_saw_50 rfl ?_
        refine q_iload_n dX8_saw_52 rfl ?_
        refine q_isto (55 + 3 * n) (by first | rfl | assumption) (nI_toInt (by omega)) (by omega) dX8_saw_53 ?_
        refine q_aload_n dX8_saw_54 rfl ?_
        refine q_getr fX8_7 dX8_saw_55 (by first | rfl | assumption) (by rfl) ?_
        refine q_iload dX8_saw_58 rfl ?_
        refine q_iconst (x := 1) dX8_saw_60 (by decide) ?_
        refine q_iadd dX8_saw_61 ?_
        refine q_iload_n dX8_saw_62 rfl ?_
        refine q_isto (55 + 3 * n + 1) (by first | rfl | assumption) (by rw [show (nI (55 + 3 * n) + 1 : Int32) = nI (55 + 3 * n + 1) from nI_add _ 1]; exact nI_toInt (by omega)) (by omega) dX8_saw_63 ?_
        refine q_aload_n dX8_saw_64 rfl ?_
        refine q_getr fX8_7 dX8_saw_65 (by first | rfl | assumption) (by rfl) ?_
        refine q_iload dX8_saw_68 rfl ?_
        refine q_iconst (x := 2) dX8_saw_70 (by decide) ?_
        refine q_iadd dX8_saw_71 ?_
        refine q_iload_n dX8_saw_72 rfl ?_
        refine q_cSi lX8_63 sX8_flag dX8_saw_73 kX8_flag rfl rfl (Nat.le_of_ble_eq_true rfl) (by decide) ?_
        refine q_isto (55 + 3 * n + 2) (by first | rfl | assumption) (by rw [show (nI (55 + 3 * n) + 2 : Int32) = nI (55 + 3 * n + 2) from nI_add _ 2]; exact nI_toInt (by omega)) (by omega) dX8_saw_76 ?_
        refine q_aload_n dX8_saw_77 rfl ?_
        refine q_getr fX8_7 dX8_saw_78 (by first | rfl | assumption) (by rfl) ?_
        refine q_bipush (x := 54) dX8_saw_81 (by decide) ?_
        refine q_dup2 rfl rfl dX8_saw_83 ?_
        refine q_ild 54 (by first | rfl | assumption) rfl (by decide) dX8_saw_84 ?_
        refine q_tope (y := nI n) (by rw [q_up_f (by omega), q_up_f (by omega), q_up_f (by omega), hn]) ?_
        refine q_iconst (x := 1) dX8_saw_85 (by decide) ?_
        
        refine q_iadd dX8_saw_86 ?_
        rw [nI_1]
        refine q_isto 54 (by first | rfl | assumption) rfl (by decide) dX8_saw_87 ?_
        refine q_aload_n dX8_saw_88 rfl ?_
        refine q_getr fX8_7 dX8_saw_89 (by first | rfl | assumption) (by rfl) ?_
        refine q_bipush (x := 54) dX8_saw_92 (by decide) ?_
        refine q_ild 54 (by first | rfl | assumption) rfl (by decide) dX8_saw_94 ?_
        refine q_tope (y := nI (n + 1)) (q_up_at _ _ _ _) ?_
        refine q_ret dX8_saw_95 ?_ rfl rfl
        exact ⟨rfl, rfl, rfl⟩
      · exact absurd h26 (by rw [show (12 : Int32) = nI 12 from rfl, nI_eq (by omega) (by omega)]; omega)
    · exact absurd hd (by rw [h12]; decide)

set_option maxHeartbeats 1000000 in
set_option maxRecDepth 100000 in
theorem kX8_sawF {σ : q_M} (hn : σ 73 54 = nI 12) {t d b : Int32} (ht : q_win t 0 500 = true) (hd : q_win d 0 (σ 75 0) = true) : q_Ct YX8_saw [.ref 72, .int t, .int d, .int b] q_SH σ (q_is (some (-3)) q_SH σ) := by
  refine q_ct (n := 1) (by decide) (by decide) rfl (fun _ => Nat.le_of_ble_eq_true rfl) (fun E => ?_)
  refine q_iload_n dX8_saw_0 rfl ?_
  refine q_cSi lX8_174 sX8_isThumb dX8_saw_1 kX8_isThumb rfl rfl (Nat.le_of_ble_eq_true rfl) (by decide) ?_
  refine q_beq 15 dX8_saw_4 (by decide) (fun h4 => ?_) (fun h4 => ?_)
  · exact absurd ht (by rw [h4]; decide)
  · refine q_aload_n dX8_saw_7 rfl ?_
    refine q_iload_n dX8_saw_8 rfl ?_
    refine q_cVi lX8_202 vX8_isDepth (ci := 8) rfl dX8_saw_9 kX8_isDepth (by first | rfl | assumption) rfl rfl (Nat.le_of_ble_eq_true rfl) (by decide) ?_
    refine q_bne 17 dX8_saw_12 (by decide) (fun h12 => ?_) (fun h12 => ?_)
    · refine q_aload_n dX8_saw_17 rfl ?_
      refine q_getr fX8_7 dX8_saw_18 (by first | rfl | assumption) (by rfl) ?_
      refine q_bipush (x := 54) dX8_saw_21 (by decide) ?_
      refine q_ild 54 (by first | rfl | assumption) rfl (by decide) dX8_saw_23 ?_
      refine q_bipush (x := 12) dX8_saw_24 (by decide) ?_
      rw [hn]
      refine q_icmp_ne 32 dX8_saw_26 (by decide) (fun h26 => ?_) (fun h26 => ?_)
      · exact absurd rfl h26
      · refine q_bipush (x := (-3)) dX8_saw_29 (by decide) ?_
        refine q_ret dX8_saw_31 ?_ rfl rfl
        exact ⟨rfl, rfl, rfl⟩
    · exact absurd hd (by rw [h12]; decide)

set_option maxHeartbeats 1000000 in
set_option maxRecDepth 100000 in
theorem kX8_sawB {σ : q_M} {t d b : Int32} (hbad : (q_win t 0 500 && q_win d 0 (σ 75 0)) = false) : q_Ct YX8_saw [.ref 72, .int t, .int d, .int b] q_SH σ (q_is (some (-1)) q_SH σ) := by
  refine q_ct (n := 1) (by decide) (by decide) rfl (fun _ => Nat.le_of_ble_eq_true rfl) (fun E => ?_)
  refine q_iload_n dX8_saw_0 rfl ?_
  refine q_cSi lX8_174 sX8_isThumb dX8_saw_1 kX8_isThumb rfl rfl (Nat.le_of_ble_eq_true rfl) (by decide) ?_
  refine q_beq 15 dX8_saw_4 (by decide) (fun h4 => ?_) (fun h4 => ?_)
  · refine q_iconst (x := (-1)) dX8_saw_15 (by decide) ?_
    refine q_ret dX8_saw_16 ?_ rfl rfl
    exact ⟨rfl, rfl, rfl⟩
  · refine q_aload_n dX8_saw_7 rfl ?_
    refine q_iload_n dX8_saw_8 rfl ?_
    refine q_cVi lX8_202 vX8_isDepth (ci := 8) rfl dX8_saw_9 kX8_isDepth (by first | rfl | assumption) rfl rfl (Nat.le_of_ble_eq_true rfl) (by decide) ?_
    refine q_bne 17 dX8_saw_12 (by decide) (fun h12 => ?_) (fun h12 => ?_)
    · exact absurd hbad (by simp [*])
    · refine q_iconst (x := (-1)) dX8_saw_15 (by decide) ?_
      refine q_ret dX8_saw_16 ?_ rfl rfl
      exact ⟨rfl, rfl, rfl⟩

set_option maxHeartbeats 1000000 in
set_option maxRecDepth 100000 in
theorem kX8_forget {σ : q_M}  : q_Ct YX8_forget [.ref 72] q_SH σ (q_is (some (σ 73 54)) q_SH (q_up σ 73 54 0)) := by
  refine q_ct (n := 1) (by decide) (by decide) rfl (fun _ => Nat.le_of_ble_eq_true rfl) (fun E => ?_)
  refine q_aload_n dX8_forget_0 rfl ?_
  refine q_getr fX8_7 dX8_forget_1 (by first | rfl | assumption) (by rfl) ?_
  refine q_bipush (x := 54) dX8_forget_4 (by decide) ?_
  refine q_ild 54 (by first | rfl | assumption) rfl (by decide) dX8_forget_6 ?_
  refine q_istore_n dX8_forget_7 (by decide) rfl ?_
  refine q_aload_n dX8_forget_8 rfl ?_
  refine q_getr fX8_7 dX8_forget_9 (by first | rfl | assumption) (by rfl) ?_
  refine q_bipush (x := 54) dX8_forget_12 (by decide) ?_
  refine q_iconst (x := 0) dX8_forget_14 (by decide) ?_
  refine q_isto 54 (by first | rfl | assumption) rfl (by decide) dX8_forget_15 ?_
  refine q_iload_n dX8_forget_16 rfl ?_
  refine q_ret dX8_forget_17 ?_ rfl rfl
  exact ⟨rfl, rfl, rfl⟩

def qm_c1 (σ : q_M) (hv b : Int32) (s : Nat) : Bool := decide (q_b (decide (0 < (q_wt (σ 75 1) (σ 75 4) (σ 75 5) hv b (σ 73 49) (σ 73 (55 + 3 * s + 1)) (σ 73 (55 + 3 * s))).toInt)) = σ 73 (55 + 3 * s + 2))
def qm_ca (σ : q_M) (hv b : Int32) (M : Nat) : Bool := q_allb (qm_c1 σ hv b) M

set_option maxHeartbeats 1000000 in
set_option maxRecDepth 100000 in
theorem lpX8_canBe {E : q_E} {σ : q_M} {M : Nat} (hM : σ 73 54 = nI M) (hm12 : M ≤ 12) (hS : ∀ s, s < M → 0 < (σ 75 1 + σ 73 (55 + 3 * s) + σ 73 (55 + 3 * s + 1)).toInt) {hv b : Int32} : ∀ (n : Nat) (s : Nat), M + 1 ≤ s + n → s ≤ M → q_allb (qm_c1 σ hv b) s = true → q_G YX8_canBe E 0 0 3 [some (.ref 72), some (.int hv), some (.int b), some (.int (nI (55 + 3 * s)))] [] q_SH σ (q_is (some (q_b (qm_ca σ hv b M))) q_SH σ) := by
  intro n
  induction n with
  | zero =>
    intro s hm h0 ha
    exact absurd hm (by omega)
  | succ n ih =>
    intro s hm h0 ha
    have hst := nI_toInt (n := 55 + 3 * s) (by omega)
    have hMt := nI_toInt (n := 55 + 3 * M) (by omega)
    refine q_iload_n dX8_canBe_3 rfl ?_
    refine q_bipush (x := 55) dX8_canBe_4 (by decide) ?_
    refine q_iconst (x := 3) dX8_canBe_6 (by decide) ?_
    refine q_aload_n dX8_canBe_7 rfl ?_
    refine q_getr fX8_7 dX8_canBe_8 (by first | rfl | assumption) (by rfl) ?_
    refine q_bipush (x := 54) dX8_canBe_11 (by decide) ?_
    refine q_ild 54 (by first | rfl | assumption) rfl (by decide) dX8_canBe_13 ?_
    rw [hM]
    refine q_imul dX8_canBe_14 ?_
    refine q_iadd dX8_canBe_15 ?_
    rw [q_ix3]
    refine q_cge 76 dX8_canBe_16 (by decide) (fun h16 => ?_) (fun h16 => ?_)
    · have e : s = M := by omega
      subst e
      refine q_iconst (x := 1) dX8_canBe_76 (by decide) ?_
      refine q_ret1 dX8_canBe_77 ?_ rfl rfl
      exact ⟨congrArg some (by rw [qm_ca, ha]), rfl, rfl⟩
    · have hs : s < M := by omega
      refine q_aload_n dX8_canBe_19 rfl ?_
      refine q_iload_n dX8_canBe_20 rfl ?_
      refine q_iload_n dX8_canBe_21 rfl ?_
      refine q_aload_n dX8_canBe_22 rfl ?_
      refine q_getr fX8_7 dX8_canBe_23 (by first | rfl | assumption) (by rfl) ?_
      refine q_bipush (x := 49) dX8_canBe_26 (by decide) ?_
      refine q_ild 49 (by first | rfl | assumption) rfl (by decide) dX8_canBe_28 ?_
      refine q_aload_n dX8_canBe_29 rfl ?_
      refine q_getr fX8_7 dX8_canBe_30 (by first | rfl | assumption) (by rfl) ?_
      refine q_iload_n dX8_canBe_33 rfl ?_
      refine q_ild (55 + 3 * s) (by first | rfl | assumption) hst (by omega) dX8_canBe_34 ?_
      refine q_aload_n dX8_canBe_35 rfl ?_
      refine q_getr fX8_7 dX8_canBe_36 (by first | rfl | assumption) (by rfl) ?_
      refine q_iload_n dX8_canBe_39 rfl ?_
      refine q_iconst (x := 1) dX8_canBe_40 (by decide) ?_
      refine q_iadd dX8_canBe_41 ?_
      refine q_ild (55 + 3 * s + 1) (by first | rfl | assumption) (by rw [show (nI (55 + 3 * s) + 1 : Int32) = nI (55 + 3 * s + 1) from nI_add _ 1]; exact nI_toInt (by omega)) (by omega) dX8_canBe_42 ?_
      refine q_cVi lX8_159 vX8_weight (ci := 8) rfl dX8_canBe_43 (kX8_weight (hS s hs)) (by first | rfl | assumption) rfl rfl (Nat.le_of_ble_eq_true rfl) (by decide) ?_
      refine q_zle 53 dX8_canBe_46 (by decide) (fun h46 => ?_) (fun h46 => ?_)
      · have hw : decide (0 < (q_wt (σ 75 1) (σ 75 4) (σ 75 5) hv b (σ 73 49) (σ 73 (55 + 3 * s + 1)) (σ 73 (55 + 3 * s))).toInt) = false := decide_eq_false (by omega)
        refine q_iconst (x := 0) dX8_canBe_53 (by decide) ?_
        refine q_cSi lX8_63 sX8_flag dX8_canBe_54 kX8_flag rfl rfl (Nat.le_of_ble_eq_true rfl) (by decide) ?_
        refine q_aload_n dX8_canBe_57 rfl ?_
        refine q_getr fX8_7 dX8_canBe_58 (by first | rfl | assumption) (by rfl) ?_
        refine q_iload_n dX8_canBe_61 rfl ?_
        refine q_iconst (x := 2) dX8_canBe_62 (by decide) ?_
        refine q_iadd dX8_canBe_63 ?_
        refine q_ild (55 + 3 * s + 2) (by first | rfl | assumption) (by rw [show (nI (55 + 3 * s) + 2 : Int32) = nI (55 + 3 * s + 2) from nI_add _ 2]; exact nI_toInt (by omega)) (by omega) dX8_canBe_64 ?_
        refine q_icmp_eq 70 dX8_canBe_65 (by decide) (fun h65 => ?_) (fun h65 => ?_)
        · have hc : qm_c1 σ hv b s = true := by rw [qm_c1, hw]; exact decide_eq_true h65
          refine q_inc 3 dX8_canBe_70 (by decide) rfl (by decide) rfl ?_
          refine q_goto 3 dX8_canBe_73 (by decide) ?_
          rw [show (nI (55 + 3 * s) + 3 : Int32) = nI (55 + 3 * (s + 1)) from nI_add _ 3]
          exact ih (s + 1) (by omega) (by omega) (by rw [q_allb, ha, hc]; rfl)
        · have hc : qm_c1 σ hv b s = false := by rw [qm_c1, hw]; exact decide_eq_false h65
          refine q_iconst (x := 0) dX8_canBe_68 (by decide) ?_
          refine q_ret0 dX8_canBe_69 ?_ rfl rfl
          exact ⟨congrArg some (by rw [qm_ca, q_allb_f hc M hs]), rfl, rfl⟩
      · have hw : decide (0 < (q_wt (σ 75 1) (σ 75 4) (σ 75 5) hv b (σ 73 49) (σ 73 (55 + 3 * s + 1)) (σ 73 (55 + 3 * s))).toInt) = true := decide_eq_true h46
        refine q_iconst (x := 1) dX8_canBe_49 (by decide) ?_
        refine q_goto 54 dX8_canBe_50 (by decide) ?_
        refine q_cSi lX8_63 sX8_flag dX8_canBe_54 kX8_flag rfl rfl (Nat.le_of_ble_eq_true rfl) (by decide) ?_
        refine q_aload_n dX8_canBe_57 rfl ?_
        refine q_getr fX8_7 dX8_canBe_58 (by first | rfl | assumption) (by rfl) ?_
        refine q_iload_n dX8_canBe_61 rfl ?_
        refine q_iconst (x := 2) dX8_canBe_62 (by decide) ?_
        refine q_iadd dX8_canBe_63 ?_
        refine q_ild (55 + 3 * s + 2) (by first | rfl | assumption) (by rw [show (nI (55 + 3 * s) + 2 : Int32) = nI (55 + 3 * s + 2) from nI_add _ 2]; exact nI_toInt (by omega)) (by omega) dX8_canBe_64 ?_
        refine q_icmp_eq 70 dX8_canBe_65 (by decide) (fun h65 => ?_) (fun h65 => ?_)
        · have hc : qm_c1 σ hv b s = true := by rw [qm_c1, hw]; exact decide_eq_true h65
          refine q_inc 3 dX8_canBe_70 (by decide) rfl (by decide) rfl ?_
          refine q_goto 3 dX8_canBe_73 (by decide) ?_
          rw [show (nI (55 + 3 * s) + 3 : Int32) = nI (55 + 3 * (s + 1)) from nI_add _ 3]
          exact ih (s + 1) (by omega) (by omega) (by rw [q_allb, ha, hc]; rfl)
        · have hc : qm_c1 σ hv b s = false := by rw [qm_c1, hw]; exact decide_eq_false h65
          refine q_iconst (x := 0) dX8_canBe_68 (by decide) ?_
          refine q_ret0 dX8_canBe_69 ?_ rfl rfl
          exact ⟨congrArg some (by rw [qm_ca, q_allb_f hc M hs]), rfl, rfl⟩

set_option maxHeartbeats 1000000 in
set_option maxRecDepth 100000 in
theorem kX8_canBe {σ : q_M} {M : Nat} (hM : σ 73 54 = nI M) (hm12 : M ≤ 12) (hS : ∀ s, s < M → 0 < (σ 75 1 + σ 73 (55 + 3 * s) + σ 73 (55 + 3 * s + 1)).toInt) {hv b : Int32} : q_Ct YX8_canBe [.ref 72, .int hv, .int b] q_SH σ (q_is (some (q_b (qm_ca σ hv b M))) q_SH σ) := by
  refine q_ct (n := 1) (by decide) (by decide) rfl (fun _ => Nat.le_of_ble_eq_true rfl) (fun E => ?_)
  refine q_bipush (x := 55) dX8_canBe_0 (by decide) ?_
  refine q_istore_n dX8_canBe_2 (by decide) rfl ?_
  exact lpX8_canBe hM hm12 hS (M + 1) 0 (by omega) (by omega) rfl

set_option maxHeartbeats 1000000 in
set_option maxRecDepth 100000 in
theorem lpX8_fits {E : q_E} {σ : q_M} {M : Nat} (hM : σ 73 54 = nI M) (hm12 : M ≤ 12) (hS : ∀ s, s < M → 0 < (σ 75 1 + σ 73 (55 + 3 * s) + σ 73 (55 + 3 * s + 1)).toInt) {hv w : Int32} : ∀ (n : Nat) (i : Nat), 10000 + 1 ≤ i + n → i ≤ 10000 → q_G YX8_fits E 0 0 27 [some (.ref 72), some (.int hv), some (.int w), some (.int (nI i))] [] q_SH (qm_bm σ (qm_bb (fun b => qm_ca σ hv (nI b) M) i)) (q_is (some (qm_tl (qm_bb (fun b => qm_ca σ hv (nI b) M) 10000) w)) q_SH (qm_bm σ (qm_bb (fun b => qm_ca σ hv (nI b) M) 10000))) := by
  intro n
  induction n with
  | zero =>
    intro i hm h0
    exact absurd hm (by omega)
  | succ n ih =>
    intro i hm h0
    have hi := nI_toInt (n := i) (by omega)
    have e9 : (9999 : Int32).toInt = 9999 := rfl
    refine q_iload_n dX8_fits_27 rfl ?_
    refine q_sipush (x := 9999) dX8_fits_28 (by decide) ?_
    refine q_cgt 54 dX8_fits_31 (by decide) (fun h31 => ?_) (fun h31 => ?_)
    · refine q_aload_n dX8_fits_54 rfl ?_
      refine q_iload_n dX8_fits_55 rfl ?_
      refine q_cVi lX8_245 vX8_told (ci := 8) rfl dX8_fits_56 kX8_told (by first | rfl | assumption) rfl rfl (Nat.le_of_ble_eq_true rfl) (by decide) ?_
      refine q_ret dX8_fits_59 ?_ rfl rfl
      have e : i = 10000 := by omega
      subst e
      exact ⟨rfl, rfl, rfl⟩
    · refine q_aload_n dX8_fits_34 rfl ?_
      refine q_iload_n dX8_fits_35 rfl ?_
      refine q_iload_n dX8_fits_36 rfl ?_
      refine q_cVi lX8_288 vX8_canBe (ci := 8) rfl dX8_fits_37 (kX8_canBe (σ := qm_bm σ (qm_bb (fun b => qm_ca σ hv (nI b) M) i)) hM hm12 hS) (by first | rfl | assumption) rfl rfl (Nat.le_of_ble_eq_true rfl) (by decide) ?_
      refine q_beq 48 dX8_fits_40 (by decide) (fun h40 => ?_) (fun h40 => ?_)
      · have hp : (fun b => qm_ca σ hv (nI b) M) i = false := h40
        refine q_inc 1 dX8_fits_48 (by decide) rfl (by decide) rfl ?_
        refine q_goto 27 dX8_fits_51 (by decide) ?_
        rw [nI_1]
        have z := ih (i + 1) (by omega) (by omega)
        first
          | (rw [← qm_bm_f (p := (fun b => qm_ca σ hv (nI b) M)) hp] at z; exact z)
          | (rw [← qm_bm_t (p := (fun b => qm_ca σ hv (nI b) M)) hp] at z; exact z)
      · have hp : (fun b => qm_ca σ hv (nI b) M) i = true := h40
        refine q_aload_n dX8_fits_43 rfl ?_
        refine q_iload_n dX8_fits_44 rfl ?_
        refine q_cVv lX8_242 vX8_aBubble (ci := 8) rfl dX8_fits_45 kX8_aBubble (by first | rfl | assumption) rfl rfl (Nat.le_of_ble_eq_true rfl) (by decide) ?_
        refine q_inc 1 dX8_fits_48 (by decide) rfl (by decide) rfl ?_
        refine q_goto 27 dX8_fits_51 (by decide) ?_
        rw [nI_1]
        have z := ih (i + 1) (by omega) (by omega)
        first
          | (rw [← qm_bm_f (p := (fun b => qm_ca σ hv (nI b) M)) hp] at z; exact z)
          | (rw [← qm_bm_t (p := (fun b => qm_ca σ hv (nI b) M)) hp] at z; exact z)

set_option maxHeartbeats 1000000 in
set_option maxRecDepth 100000 in
theorem kX8_fits {σ : q_M} {M : Nat} (hM : σ 73 54 = nI M) (hm12 : M ≤ 12) (hS : ∀ s, s < M → 0 < (σ 75 1 + σ 73 (55 + 3 * s) + σ 73 (55 + 3 * s + 1)).toInt) {hv w : Int32} (hh : q_win hv 1 999 = true) (hw : q_win w 0 2 = true) : q_Ct YX8_fits [.ref 72, .int hv, .int w] q_SH σ (q_is (some (qm_tl (qm_bb (fun b => qm_ca σ hv (nI b) M) 10000) w)) q_SH (qm_bm σ (qm_bb (fun b => qm_ca σ hv (nI b) M) 10000))) := by
  refine q_ct (n := 1) (by decide) (by decide) rfl (fun _ => Nat.le_of_ble_eq_true rfl) (fun E => ?_)
  refine q_iload_n dX8_fits_0 rfl ?_
  refine q_cSi lX8_226 sX8_isHeavy dX8_fits_1 kX8_isHeavy rfl rfl (Nat.le_of_ble_eq_true rfl) (by decide) ?_
  refine q_beq 19 dX8_fits_4 (by decide) (fun h4 => ?_) (fun h4 => ?_)
  · exact absurd hh (by rw [h4]; decide)
  · refine q_iload_n dX8_fits_7 rfl ?_
    refine q_i2l dX8_fits_8 ?_
    refine q_lconst (x := 0) dX8_fits_9 (by decide) ?_
    refine q_ldc2 kX8_229 dX8_fits_10 ?_
    refine q_cSi lX8_72 sX8_in dX8_fits_13 (kX8_in (x := w) (lo := 0) (hi := 2) (Int32.toInt_toInt64 _) rfl rfl) rfl rfl (Nat.le_of_ble_eq_true rfl) (by decide) ?_
    refine q_bne 21 dX8_fits_16 (by decide) (fun h16 => ?_) (fun h16 => ?_)
    · refine q_aload_n dX8_fits_21 rfl ?_
      refine q_cVv lX8_231 vX8_noBubbles (ci := 8) rfl dX8_fits_22 kX8_noBubbles (by first | rfl | assumption) rfl rfl (Nat.le_of_ble_eq_true rfl) (by decide) ?_
      refine q_iconst (x := 0) dX8_fits_25 (by decide) ?_
      refine q_istore_n dX8_fits_26 (by decide) rfl ?_
      have z := lpX8_fits (E := E) hM hm12 hS (hv := hv) (w := w) 10001 0 (by omega) (by omega)
      exact z
    · exact absurd hw (by rw [h16]; decide)

set_option maxHeartbeats 1000000 in
set_option maxRecDepth 100000 in
theorem kX8_fitsB {σ : q_M} {hv w : Int32} (hbad : (q_win hv 1 999 && q_win w 0 2) = false) : q_Ct YX8_fits [.ref 72, .int hv, .int w] q_SH σ (q_is (some (-1)) q_SH σ) := by
  refine q_ct (n := 1) (by decide) (by decide) rfl (fun _ => Nat.le_of_ble_eq_true rfl) (fun E => ?_)
  refine q_iload_n dX8_fits_0 rfl ?_
  refine q_cSi lX8_226 sX8_isHeavy dX8_fits_1 kX8_isHeavy rfl rfl (Nat.le_of_ble_eq_true rfl) (by decide) ?_
  refine q_beq 19 dX8_fits_4 (by decide) (fun h4 => ?_) (fun h4 => ?_)
  · refine q_iconst (x := (-1)) dX8_fits_19 (by decide) ?_
    refine q_ret dX8_fits_20 ?_ rfl rfl
    exact ⟨rfl, rfl, rfl⟩
  · refine q_iload_n dX8_fits_7 rfl ?_
    refine q_i2l dX8_fits_8 ?_
    refine q_lconst (x := 0) dX8_fits_9 (by decide) ?_
    refine q_ldc2 kX8_229 dX8_fits_10 ?_
    refine q_cSi lX8_72 sX8_in dX8_fits_13 (kX8_in (x := w) (lo := 0) (hi := 2) (Int32.toInt_toInt64 _) rfl rfl) rfl rfl (Nat.le_of_ble_eq_true rfl) (by decide) ?_
    refine q_bne 21 dX8_fits_16 (by decide) (fun h16 => ?_) (fun h16 => ?_)
    · exact absurd hbad (by simp [*])
    · refine q_iconst (x := (-1)) dX8_fits_19 (by decide) ?_
      refine q_ret dX8_fits_20 ?_ rfl rfl
      exact ⟨rfl, rfl, rfl⟩

set_option maxHeartbeats 1000000 in
set_option maxRecDepth 100000 in
theorem lpX8_who {E : q_E} {σ : q_M} {N : Nat} (hN : σ 73 53 = nI N) (h6 : N ≤ 6) {M : Nat} (hM : σ 73 54 = nI M) (hm12 : M ≤ 12) (hS : ∀ s, s < M → 0 < (σ 75 1 + σ 73 (55 + 3 * s) + σ 73 (55 + 3 * s + 1)).toInt) : ∀ (n : Nat) (i : Nat) (b : Int32), N + 1 ≤ i + n → i ≤ N → b = q_bits (fun k => qm_ca σ (σ 73 (8 * k + 0) + σ 73 (8 * k + 5)) (σ 73 (8 * k + 1)) M) i → q_G YX8_who E 0 0 4 [some (.ref 72), some (.int b), some (.int (nI i))] [] q_SH σ (q_is (some (q_bits (fun k => qm_ca σ (σ 73 (8 * k + 0) + σ 73 (8 * k + 5)) (σ 73 (8 * k + 1)) M) N)) q_SH σ) := by
  intro n
  induction n with
  | zero =>
    intro i b hm h0 hb
    exact absurd hm (by omega)
  | succ n ih =>
    intro i b hm h0 hb
    have hi := nI_toInt (n := i) (by omega)
    have hNt := nI_toInt (n := N) (by omega)
    refine q_iload_n dX8_who_4 rfl ?_
    refine q_aload_n dX8_who_5 rfl ?_
    refine q_getr fX8_7 dX8_who_6 (by first | rfl | assumption) (by rfl) ?_
    refine q_bipush (x := 53) dX8_who_9 (by decide) ?_
    refine q_ild 53 (by first | rfl | assumption) rfl (by decide) dX8_who_11 ?_
    rw [hN]
    refine q_cge 49 dX8_who_12 (by decide) (fun h12 => ?_) (fun h12 => ?_)
    · refine q_iload_n dX8_who_49 rfl ?_
      refine q_ret dX8_who_50 ?_ rfl rfl
      have e : i = N := by omega
      exact ⟨congrArg some (by rw [hb, e]), rfl, rfl⟩
    · refine q_iload_n dX8_who_15 rfl ?_
      refine q_aload_n dX8_who_16 rfl ?_
      refine q_aload_n dX8_who_17 rfl ?_
      refine q_iload_n dX8_who_18 rfl ?_
      refine q_cVi lX8_156 vX8_heavy (ci := 8) rfl dX8_who_19 (kX8_heavy (by omega)) (by first | rfl | assumption) rfl rfl (Nat.le_of_ble_eq_true rfl) (by decide) ?_
      refine q_aload_n dX8_who_22 rfl ?_
      refine q_iload_n dX8_who_23 rfl ?_
      refine q_iconst (x := 1) dX8_who_24 (by decide) ?_
      refine q_cVi lX8_153 vX8_of (ci := 8) rfl dX8_who_25 (kX8_of (w := 1) (by omega) (by decide)) (by first | rfl | assumption) rfl rfl (Nat.le_of_ble_eq_true rfl) (by decide) ?_
      refine q_cVi lX8_288 vX8_canBe (ci := 8) rfl dX8_who_28 (kX8_canBe hM hm12 hS) (by first | rfl | assumption) rfl rfl (Nat.le_of_ble_eq_true rfl) (by decide) ?_
      refine q_beq 40 dX8_who_31 (by decide) (fun h31 => ?_) (fun h31 => ?_)
      · have hp : (fun k => qm_ca σ (σ 73 (8 * k + 0) + σ 73 (8 * k + 5)) (σ 73 (8 * k + 1)) M) i = false := h31
        refine q_iconst (x := 0) dX8_who_40 (by decide) ?_
        refine q_ior dX8_who_41 ?_
        try rw [q_or0]
        refine q_istore_n dX8_who_42 (by decide) rfl ?_
        refine q_inc 1 dX8_who_43 (by decide) rfl (by decide) rfl ?_
        refine q_goto 4 dX8_who_46 (by decide) ?_
        rw [nI_1]
        clear hN hM
        exact ih (i + 1) _ (by omega) (by omega) (by rw [q_bits, ← hb]; first | rw [if_pos hp] | rw [if_neg (fun z => absurd (z.symm.trans hp) (by decide))])
      · have hp : (fun k => qm_ca σ (σ 73 (8 * k + 0) + σ 73 (8 * k + 5)) (σ 73 (8 * k + 1)) M) i = true := h31
        refine q_iconst (x := 1) dX8_who_34 (by decide) ?_
        refine q_iload_n dX8_who_35 rfl ?_
        refine q_ishl dX8_who_36 ?_
        refine q_goto 41 dX8_who_37 (by decide) ?_
        refine q_ior dX8_who_41 ?_
        try rw [q_or0]
        refine q_istore_n dX8_who_42 (by decide) rfl ?_
        refine q_inc 1 dX8_who_43 (by decide) rfl (by decide) rfl ?_
        refine q_goto 4 dX8_who_46 (by decide) ?_
        rw [nI_1]
        clear hN hM
        exact ih (i + 1) _ (by omega) (by omega) (by rw [q_bits, ← hb]; first | rw [if_pos hp] | rw [if_neg (fun z => absurd (z.symm.trans hp) (by decide))])

set_option maxHeartbeats 1000000 in
set_option maxRecDepth 100000 in
theorem kX8_who {σ : q_M} {N : Nat} (hN : σ 73 53 = nI N) (h6 : N ≤ 6) {M : Nat} (hM : σ 73 54 = nI M) (hm12 : M ≤ 12) (hS : ∀ s, s < M → 0 < (σ 75 1 + σ 73 (55 + 3 * s) + σ 73 (55 + 3 * s + 1)).toInt) : q_Ct YX8_who [.ref 72] q_SH σ (q_is (some (q_bits (fun k => qm_ca σ (σ 73 (8 * k + 0) + σ 73 (8 * k + 5)) (σ 73 (8 * k + 1)) M) N)) q_SH σ) := by
  refine q_ct (n := 2) (by decide) (by decide) rfl (fun _ => Nat.le_of_ble_eq_true rfl) (fun E => ?_)
  refine q_iconst (x := 0) dX8_who_0 (by decide) ?_
  refine q_istore_n dX8_who_1 (by decide) rfl ?_
  refine q_iconst (x := 0) dX8_who_2 (by decide) ?_
  refine q_istore_n dX8_who_3 (by decide) rfl ?_
  exact lpX8_who hN h6 hM hm12 hS (N + 1) 0 0 (by omega) (by omega) rfl
