/-! the reference: bubbles, atThumb, spread -/
theorem q_p1 {t : Nat} (h : ¬ t = 0) : nI t - 1 = nI (t - 1) := by
  obtain ⟨s, rfl⟩ : ∃ s, t = s + 1 := ⟨t - 1, by omega⟩
  exact nI_pred s
def qm_b3 (σ : q_M) (m l h : Int32) : q_M := q_up (q_up (q_up σ 72 19 m) 72 20 l) 72 21 h
theorem qm_b3_b3 (σ : q_M) (m l h a b c : Int32) : qm_b3 (qm_b3 σ m l h) a b c = qm_b3 σ a b c := by
  funext x j
  by_cases h : x = 72
  · subst h
    by_cases h1 : j = 19
    · subst h1; rfl
    · by_cases h2 : j = 20
      · subst h2; rfl
      · by_cases h3 : j = 21
        · subst h3; rfl
        · simp [qm_b3, q_up, upd, h1, h2, h3]
  · simp [qm_b3, q_up, h]
def qm_w (σ : q_M) (hv b dep th : Int32) : Int32 := q_wt (σ 75 1) (σ 75 4) (σ 75 5) hv b (σ 73 49) dep th
def qm_cb (σ : q_M) (hv b : Int32) : Bool := decide ((qm_w σ hv b 0 0).toInt < 0 ∧ (qm_w σ hv b (σ 75 0) 0).toInt < 0)
def qm_gb (σ : q_M) (hv b th : Int32) : Bool := decide (0 < (qm_w σ hv b 0 th).toInt)
theorem qm_cb_b3 (σ : q_M) (m l h : Int32) : qm_cb (qm_b3 σ m l h) = qm_cb σ := rfl
theorem qm_gb_b3 (σ : q_M) (m l h : Int32) : qm_gb (qm_b3 σ m l h) = qm_gb σ := rfl
/-- how many, the first, the last -/
def qm_bb (p : Nat → Bool) : Nat → Int32 × Int32 × Int32
  | 0 => (0, -4, -4)
  | n + 1 => if p n then ((qm_bb p n).1 + 1, (if (qm_bb p n).2.1 = -4 then nI n else (qm_bb p n).2.1), nI n) else qm_bb p n
def qm_tl (t : Int32 × Int32 × Int32) (w : Int32) : Int32 := if w = 0 then t.1 else if w = 1 then t.2.1 else t.2.2
def qm_bm (σ : q_M) (t : Int32 × Int32 × Int32) : q_M := qm_b3 σ t.1 t.2.1 t.2.2
theorem qm_bm_t {σ : q_M} {p : Nat → Bool} {n : Nat} (h : p n = true) : qm_b3 (qm_bm σ (qm_bb p n)) ((qm_bm σ (qm_bb p n)) 72 19 + 1) (if (qm_bm σ (qm_bb p n)) 72 20 = -4 then nI n else (qm_bm σ (qm_bb p n)) 72 20) (nI n) = qm_bm σ (qm_bb p (n + 1)) := by
  rw [qm_bb, if_pos h]
  unfold qm_bm
  rw [qm_b3_b3]
  rfl
theorem qm_bm_f {σ : q_M} {p : Nat → Bool} {n : Nat} (h : p n = false) : qm_bm σ (qm_bb p n) = qm_bm σ (qm_bb p (n + 1)) := by
  rw [qm_bb, if_neg (by rw [h]; decide)]

set_option maxHeartbeats 1000000 in
set_option maxRecDepth 100000 in
theorem kX8_noBubbles {σ : q_M}  : q_Ct YX8_noBubbles [.ref 72] q_SH σ (q_is none q_SH (qm_b3 σ 0 (-4) (-4))) := by
  refine q_ct (n := 0) (by decide) (by decide) rfl (fun _ => Nat.le_of_ble_eq_true rfl) (fun E => ?_)
  refine q_aload_n dX8_noBubbles_0 rfl ?_
  refine q_iconst (x := 0) dX8_noBubbles_1 (by decide) ?_
  refine q_put_i pX8_217 dX8_noBubbles_2 (by first | rfl | assumption) (by rfl) rfl rfl ?_
  refine q_aload_n dX8_noBubbles_5 rfl ?_
  refine q_bipush (x := (-4)) dX8_noBubbles_6 (by decide) ?_
  refine q_put_i pX8_220 dX8_noBubbles_8 (by first | rfl | assumption) (by rfl) rfl rfl ?_
  refine q_aload_n dX8_noBubbles_11 rfl ?_
  refine q_bipush (x := (-4)) dX8_noBubbles_12 (by decide) ?_
  refine q_put_i pX8_223 dX8_noBubbles_14 (by first | rfl | assumption) (by rfl) rfl rfl ?_
  refine q_vret dX8_noBubbles_17 ?_ rfl rfl
  exact ⟨rfl, rfl, rfl⟩

set_option maxHeartbeats 1000000 in
set_option maxRecDepth 100000 in
theorem kX8_aBubble {σ : q_M} {b : Int32} : q_Ct YX8_aBubble [.ref 72, .int b] q_SH σ (q_is none q_SH (qm_b3 σ (σ 72 19 + 1) (if σ 72 20 = -4 then b else σ 72 20) b)) := by
  refine q_ct (n := 0) (by decide) (by decide) rfl (fun _ => Nat.le_of_ble_eq_true rfl) (fun E => ?_)
  refine q_aload_n dX8_aBubble_0 rfl ?_
  refine q_dup rfl dX8_aBubble_1 ?_
  refine q_get fX8_217 dX8_aBubble_2 (by first | rfl | assumption) (by rfl) ?_
  refine q_iconst (x := 1) dX8_aBubble_5 (by decide) ?_
  refine q_iadd dX8_aBubble_6 ?_
  refine q_put_i pX8_217 dX8_aBubble_7 (by first | rfl | assumption) (by rfl) rfl rfl ?_
  refine q_aload_n dX8_aBubble_10 rfl ?_
  refine q_aload_n dX8_aBubble_11 rfl ?_
  refine q_get fX8_220 dX8_aBubble_12 (by first | rfl | assumption) (by rfl) ?_
  refine q_bipush (x := (-4)) dX8_aBubble_15 (by decide) ?_
  refine q_icmp_ne 24 dX8_aBubble_17 (by decide) (fun h17 => ?_) (fun h17 => ?_)
  · have h17 : ¬ σ 72 20 = -4 := h17
    refine q_aload_n dX8_aBubble_24 rfl ?_
    refine q_get fX8_220 dX8_aBubble_25 (by first | rfl | assumption) (by rfl) ?_
    refine q_put_i pX8_220 dX8_aBubble_28 (by first | rfl | assumption) (by rfl) rfl rfl ?_
    refine q_aload_n dX8_aBubble_31 rfl ?_
    refine q_iload_n dX8_aBubble_32 rfl ?_
    refine q_put_i pX8_223 dX8_aBubble_33 (by first | rfl | assumption) (by rfl) rfl rfl ?_
    refine q_vret dX8_aBubble_36 ?_ rfl rfl
    first
      | (rw [if_pos h17]; exact ⟨rfl, rfl, rfl⟩)
      | (rw [if_neg h17]; exact ⟨rfl, rfl, rfl⟩)
  · have h17 : σ 72 20 = -4 := h17
    refine q_iload_n dX8_aBubble_20 rfl ?_
    refine q_goto 28 dX8_aBubble_21 (by decide) ?_
    refine q_put_i pX8_220 dX8_aBubble_28 (by first | rfl | assumption) (by rfl) rfl rfl ?_
    refine q_aload_n dX8_aBubble_31 rfl ?_
    refine q_iload_n dX8_aBubble_32 rfl ?_
    refine q_put_i pX8_223 dX8_aBubble_33 (by first | rfl | assumption) (by rfl) rfl rfl ?_
    refine q_vret dX8_aBubble_36 ?_ rfl rfl
    first
      | (rw [if_pos h17]; exact ⟨rfl, rfl, rfl⟩)
      | (rw [if_neg h17]; exact ⟨rfl, rfl, rfl⟩)

set_option maxHeartbeats 1000000 in
set_option maxRecDepth 100000 in
theorem kX8_told {σ : q_M} {w : Int32} : q_Ct YX8_told [.ref 72, .int w] q_SH σ (q_is (some (qm_tl (σ 72 19, σ 72 20, σ 72 21) w)) q_SH σ) := by
  refine q_ct (n := 0) (by decide) (by decide) rfl (fun _ => Nat.le_of_ble_eq_true rfl) (fun E => ?_)
  refine q_iload_n dX8_told_0 rfl ?_
  refine q_if_ne 11 dX8_told_1 (by decide) (fun h1 => ?_) (fun h1 => ?_)
  · refine q_iload_n dX8_told_11 rfl ?_
    refine q_iconst (x := 1) dX8_told_12 (by decide) ?_
    refine q_icmp_ne 23 dX8_told_13 (by decide) (fun h13 => ?_) (fun h13 => ?_)
    · refine q_aload_n dX8_told_23 rfl ?_
      refine q_get fX8_223 dX8_told_24 (by first | rfl | assumption) (by rfl) ?_
      refine q_ret dX8_told_27 ?_ rfl rfl
      exact ⟨congrArg some (by simp [qm_tl, *]), rfl, rfl⟩
    · refine q_aload_n dX8_told_16 rfl ?_
      refine q_get fX8_220 dX8_told_17 (by first | rfl | assumption) (by rfl) ?_
      refine q_goto 27 dX8_told_20 (by decide) ?_
      refine q_ret dX8_told_27 ?_ rfl rfl
      exact ⟨congrArg some (by simp [qm_tl, *]), rfl, rfl⟩
  · refine q_aload_n dX8_told_4 rfl ?_
    refine q_get fX8_217 dX8_told_5 (by first | rfl | assumption) (by rfl) ?_
    refine q_goto 27 dX8_told_8 (by decide) ?_
    refine q_ret dX8_told_27 ?_ rfl rfl
    exact ⟨congrArg some (by simp [qm_tl, *]), rfl, rfl⟩

set_option maxHeartbeats 1000000 in
set_option maxRecDepth 100000 in
theorem kX8_comesBack {σ : q_M} {ar : Nat} (hA : σ 75 1 = nI ar) (hA1 : 1 ≤ ar) (hA2 : ar ≤ 100000) {H : Nat} (hH : σ 75 0 = nI H) (h200 : H ≤ 200) {hv b : Int32} : q_Ct YX8_comesBack [.ref 72, .int hv, .int b] q_SH σ (q_is (some (q_b (qm_cb σ hv b))) q_SH σ) := by
  refine q_ct (n := 0) (by decide) (by decide) rfl (fun _ => Nat.le_of_ble_eq_true rfl) (fun E => ?_)
  refine q_aload_n dX8_comesBack_0 rfl ?_
  refine q_iload_n dX8_comesBack_1 rfl ?_
  refine q_iload_n dX8_comesBack_2 rfl ?_
  refine q_aload_n dX8_comesBack_3 rfl ?_
  refine q_getr fX8_7 dX8_comesBack_4 (by first | rfl | assumption) (by rfl) ?_
  refine q_bipush (x := 49) dX8_comesBack_7 (by decide) ?_
  refine q_ild 49 (by first | rfl | assumption) rfl (by decide) dX8_comesBack_9 ?_
  refine q_iconst (x := 0) dX8_comesBack_10 (by decide) ?_
  refine q_iconst (x := 0) dX8_comesBack_11 (by decide) ?_
  refine q_cVi lX8_159 vX8_weight (ci := 8) rfl dX8_comesBack_12 (kX8_weight (th := 0) (dep := 0) (q_pr (t := 0) (d := 0) hA hA1 hA2 (by omega) (by omega))) (by first | rfl | assumption) rfl rfl (Nat.le_of_ble_eq_true rfl) (by decide) ?_
  refine q_zge 45 dX8_comesBack_15 (by decide) (fun h15 => ?_) (fun h15 => ?_)
  · have hc : qm_cb σ hv b = false := decide_eq_false (fun z => absurd h15 (Int.not_le.mpr z.1))
    refine q_iconst (x := 0) dX8_comesBack_45 (by decide) ?_
    refine q_ret0 dX8_comesBack_46 ?_ rfl rfl
    exact ⟨congrArg some (by rw [hc]), rfl, rfl⟩
  · refine q_aload_n dX8_comesBack_18 rfl ?_
    refine q_iload_n dX8_comesBack_19 rfl ?_
    refine q_iload_n dX8_comesBack_20 rfl ?_
    refine q_aload_n dX8_comesBack_21 rfl ?_
    refine q_getr fX8_7 dX8_comesBack_22 (by first | rfl | assumption) (by rfl) ?_
    refine q_bipush (x := 49) dX8_comesBack_25 (by decide) ?_
    refine q_ild 49 (by first | rfl | assumption) rfl (by decide) dX8_comesBack_27 ?_
    refine q_iconst (x := 0) dX8_comesBack_28 (by decide) ?_
    refine q_aload_n dX8_comesBack_29 rfl ?_
    refine q_getr fX8_17 dX8_comesBack_30 (by first | rfl | assumption) (by rfl) ?_
    refine q_iconst (x := 0) dX8_comesBack_33 (by decide) ?_
    refine q_ild 0 (by first | rfl | assumption) rfl (by decide) dX8_comesBack_34 ?_
    refine q_cVi lX8_159 vX8_weight (ci := 8) rfl dX8_comesBack_35 (kX8_weight (th := 0) (dep := σ 75 0) (by rw [hH]; exact (q_pr (t := 0) (d := H) hA hA1 hA2 (by omega) (by omega)))) (by first | rfl | assumption) rfl rfl (Nat.le_of_ble_eq_true rfl) (by decide) ?_
    refine q_zge 45 dX8_comesBack_38 (by decide) (fun h38 => ?_) (fun h38 => ?_)
    · have hc : qm_cb σ hv b = false := decide_eq_false (fun z => absurd h38 (Int.not_le.mpr z.2))
      refine q_iconst (x := 0) dX8_comesBack_45 (by decide) ?_
      refine q_ret0 dX8_comesBack_46 ?_ rfl rfl
      exact ⟨congrArg some (by rw [hc]), rfl, rfl⟩
    · have hc : qm_cb σ hv b = true := decide_eq_true ⟨h15, h38⟩
      refine q_iconst (x := 1) dX8_comesBack_41 (by decide) ?_
      refine q_goto 46 dX8_comesBack_42 (by decide) ?_
      refine q_ret1 dX8_comesBack_46 ?_ rfl rfl
      exact ⟨congrArg some (by rw [hc]), rfl, rfl⟩

set_option maxHeartbeats 1000000 in
set_option maxRecDepth 100000 in
theorem kX8_goesBy {σ : q_M} {ar : Nat} (hA : σ 75 1 = nI ar) (hA1 : 1 ≤ ar) (hA2 : ar ≤ 100000) {hv b : Int32} {t : Nat} (ht : t ≤ 500) : q_Ct YX8_goesBy [.ref 72, .int hv, .int b, .int (nI t)] q_SH σ (q_is (some (q_b (qm_gb σ hv b (nI t)))) q_SH σ) := by
  refine q_ct (n := 0) (by decide) (by decide) rfl (fun _ => Nat.le_of_ble_eq_true rfl) (fun E => ?_)
  refine q_aload_n dX8_goesBy_0 rfl ?_
  refine q_iload_n dX8_goesBy_1 rfl ?_
  refine q_iload_n dX8_goesBy_2 rfl ?_
  refine q_aload_n dX8_goesBy_3 rfl ?_
  refine q_getr fX8_7 dX8_goesBy_4 (by first | rfl | assumption) (by rfl) ?_
  refine q_bipush (x := 49) dX8_goesBy_7 (by decide) ?_
  refine q_ild 49 (by first | rfl | assumption) rfl (by decide) dX8_goesBy_9 ?_
  refine q_iload_n dX8_goesBy_10 rfl ?_
  refine q_iconst (x := 0) dX8_goesBy_11 (by decide) ?_
  refine q_cVi lX8_159 vX8_weight (ci := 8) rfl dX8_goesBy_12 (kX8_weight (th := nI t) (dep := 0) (q_pr (t := t) (d := 0) hA hA1 hA2 (by omega) (by omega))) (by first | rfl | assumption) rfl rfl (Nat.le_of_ble_eq_true rfl) (by decide) ?_
  refine q_zle 22 dX8_goesBy_15 (by decide) (fun h15 => ?_) (fun h15 => ?_)
  · have hc : qm_gb σ hv b (nI t) = false := decide_eq_false (Int.not_lt.mpr h15)
    refine q_iconst (x := 0) dX8_goesBy_22 (by decide) ?_
    refine q_ret0 dX8_goesBy_23 ?_ rfl rfl
    exact ⟨congrArg some (by rw [hc]), rfl, rfl⟩
  · have hc : qm_gb σ hv b (nI t) = true := decide_eq_true h15
    refine q_iconst (x := 1) dX8_goesBy_18 (by decide) ?_
    refine q_goto 23 dX8_goesBy_19 (by decide) ?_
    refine q_ret1 dX8_goesBy_23 ?_ rfl rfl
    exact ⟨congrArg some (by rw [hc]), rfl, rfl⟩

set_option maxHeartbeats 1000000 in
set_option maxRecDepth 100000 in
theorem lpX8_bubbles {E : q_E} {σ : q_M} {ar : Nat} (hA : σ 75 1 = nI ar) (hA1 : 1 ≤ ar) (hA2 : ar ≤ 100000) {H : Nat} (hH : σ 75 0 = nI H) (h200 : H ≤ 200) {hv w : Int32} {t : Nat} (ht : t ≤ 500) : ∀ (n : Nat) (i : Nat), 10000 + 1 ≤ i + n → i ≤ 10000 → q_G YX8_bubbles E 0 0 35 [some (.ref 72), some (.int hv), some (.int (nI t)), some (.int w), some (.int (nI i))] [] q_SH (qm_bm σ (qm_bb (fun b => qm_cb σ hv (nI b) && qm_gb σ hv (nI b) (nI t)) i)) (q_is (some (qm_tl (qm_bb (fun b => qm_cb σ hv (nI b) && qm_gb σ hv (nI b) (nI t)) 10000) w)) q_SH (qm_bm σ (qm_bb (fun b => qm_cb σ hv (nI b) && qm_gb σ hv (nI b) (nI t)) 10000))) := by
  intro n
  induction n with
  | zero =>
    intro i hm h0
    exact absurd hm (by omega)
  | succ n ih =>
    intro i hm h0
    have hi := nI_toInt (n := i) (by omega)
    have e9 : (9999 : Int32).toInt = 9999 := rfl
    refine q_iload dX8_bubbles_35 rfl ?_
    refine q_sipush (x := 9999) dX8_bubbles_37 (by decide) ?_
    refine q_cgt 76 dX8_bubbles_40 (by decide) (fun h40 => ?_) (fun h40 => ?_)
    · refine q_aload_n dX8_bubbles_76 rfl ?_
      refine q_iload_n dX8_bubbles_77 rfl ?_
      refine q_cVi lX8_245 vX8_told (ci := 8) rfl dX8_bubbles_78 kX8_told (by first | rfl | assumption) rfl rfl (Nat.le_of_ble_eq_true rfl) (by decide) ?_
      refine q_ret dX8_bubbles_81 ?_ rfl rfl
      have e : i = 10000 := by omega
      subst e
      exact ⟨rfl, rfl, rfl⟩
    · refine q_aload_n dX8_bubbles_43 rfl ?_
      refine q_iload_n dX8_bubbles_44 rfl ?_
      refine q_iload dX8_bubbles_45 rfl ?_
      refine q_cVi lX8_234 vX8_comesBack (ci := 8) rfl dX8_bubbles_47 (kX8_comesBack (σ := qm_bm σ (qm_bb (fun b => qm_cb σ hv (nI b) && qm_gb σ hv (nI b) (nI t)) i)) hA hA1 hA2 hH h200) (by first | rfl | assumption) rfl rfl (Nat.le_of_ble_eq_true rfl) (by decide) ?_
      refine q_beq 70 dX8_bubbles_50 (by decide) (fun h50 => ?_) (fun h50 => ?_)
      · have h50 : qm_cb σ hv (nI i) = false := h50
        have hp : (fun b => qm_cb σ hv (nI b) && qm_gb σ hv (nI b) (nI t)) i = false := by show (qm_cb σ hv (nI i) && qm_gb σ hv (nI i) (nI t)) = false; rw [h50]; rfl
        refine q_inc 1 dX8_bubbles_70 (by decide) rfl (by decide) rfl ?_
        refine q_goto 35 dX8_bubbles_73 (by decide) ?_
        rw [nI_1]
        have z := ih (i + 1) (by omega) (by omega)
        first
          | (rw [← qm_bm_f hp] at z; exact z)
          | (rw [← qm_bm_t hp] at z; exact z)
      · refine q_aload_n dX8_bubbles_53 rfl ?_
        refine q_iload_n dX8_bubbles_54 rfl ?_
        refine q_iload dX8_bubbles_55 rfl ?_
        refine q_iload_n dX8_bubbles_57 rfl ?_
        refine q_cVi lX8_238 vX8_goesBy (ci := 8) rfl dX8_bubbles_58 (kX8_goesBy (σ := qm_bm σ (qm_bb (fun b => qm_cb σ hv (nI b) && qm_gb σ hv (nI b) (nI t)) i)) hA hA1 hA2 (t := t) ht) (by first | rfl | assumption) rfl rfl (Nat.le_of_ble_eq_true rfl) (by decide) ?_
        refine q_beq 70 dX8_bubbles_61 (by decide) (fun h61 => ?_) (fun h61 => ?_)
        · have h50 : qm_cb σ hv (nI i) = true := h50
          have h61 : qm_gb σ hv (nI i) (nI t) = false := h61
          have hp : (fun b => qm_cb σ hv (nI b) && qm_gb σ hv (nI b) (nI t)) i = false := by show (qm_cb σ hv (nI i) && qm_gb σ hv (nI i) (nI t)) = false; rw [h50, h61]; rfl
          refine q_inc 1 dX8_bubbles_70 (by decide) rfl (by decide) rfl ?_
          refine q_goto 35 dX8_bubbles_73 (by decide) ?_
          rw [nI_1]
          have z := ih (i + 1) (by omega) (by omega)
          first
            | (rw [← qm_bm_f hp] at z; exact z)
            | (rw [← qm_bm_t hp] at z; exact z)
        · have h50 : qm_cb σ hv (nI i) = true := h50
          have h61 : qm_gb σ hv (nI i) (nI t) = true := h61
          have hp : (fun b => qm_cb σ hv (nI b) && qm_gb σ hv (nI b) (nI t)) i = true := by show (qm_cb σ hv (nI i) && qm_gb σ hv (nI i) (nI t)) = true; rw [h50, h61]; rfl
          refine q_aload_n dX8_bubbles_64 rfl ?_
          refine q_iload dX8_bubbles_65 rfl ?_
          refine q_cVv lX8_242 vX8_aBubble (ci := 8) rfl dX8_bubbles_67 kX8_aBubble (by first | rfl | assumption) rfl rfl (Nat.le_of_ble_eq_true rfl) (by decide) ?_
          refine q_inc 1 dX8_bubbles_70 (by decide) rfl (by decide) rfl ?_
          refine q_goto 35 dX8_bubbles_73 (by decide) ?_
          rw [nI_1]
          have z := ih (i + 1) (by omega) (by omega)
          first
            | (rw [← qm_bm_f hp] at z; exact z)
            | (rw [← qm_bm_t hp] at z; exact z)

set_option maxHeartbeats 1000000 in
set_option maxRecDepth 100000 in
theorem lpX8_atThumb {E : q_E} {σ : q_M} {ar : Nat} (hA : σ 75 1 = nI ar) (hA1 : 1 ≤ ar) (hA2 : ar ≤ 100000) {H : Nat} (hH : σ 75 0 = nI H) (h200 : H ≤ 200) {hv w : Int32} {t : Nat} (ht : t ≤ 500) : ∀ (n : Nat) (i : Nat), 10000 + 1 ≤ i + n → i ≤ 10000 → q_G YX8_atThumb E 0 0 35 [some (.ref 72), some (.int hv), some (.int (nI t)), some (.int w), some (.int (nI i))] [] q_SH (qm_bm σ (qm_bb (fun b => qm_gb σ hv (nI b) (nI t) && (decide (t = 0) || !qm_gb σ hv (nI b) (nI (t - 1)))) i)) (q_is (some (qm_tl (qm_bb (fun b => qm_gb σ hv (nI b) (nI t) && (decide (t = 0) || !qm_gb σ hv (nI b) (nI (t - 1)))) 10000) w)) q_SH (qm_bm σ (qm_bb (fun b => qm_gb σ hv (nI b) (nI t) && (decide (t = 0) || !qm_gb σ hv (nI b) (nI (t - 1)))) 10000))) := by
  intro n
  induction n with
  | zero =>
    intro i hm h0
    exact absurd hm (by omega)
  | succ n ih =>
    intro i hm h0
    have hi := nI_toInt (n := i) (by omega)
    have e9 : (9999 : Int32).toInt = 9999 := rfl
    refine q_iload dX8_atThumb_35 rfl ?_
    refine q_sipush (x := 9999) dX8_atThumb_37 (by decide) ?_
    refine q_cgt 83 dX8_atThumb_40 (by decide) (fun h40 => ?_) (fun h40 => ?_)
    · refine q_aload_n dX8_atThumb_83 rfl ?_
      refine q_iload_n dX8_atThumb_84 rfl ?_
      refine q_cVi lX8_245 vX8_told (ci := 8) rfl dX8_atThumb_85 kX8_told (by first | rfl | assumption) rfl rfl (Nat.le_of_ble_eq_true rfl) (by decide) ?_
      refine q_ret dX8_atThumb_88 ?_ rfl rfl
      have e : i = 10000 := by omega
      subst e
      exact ⟨rfl, rfl, rfl⟩
    · refine q_aload_n dX8_atThumb_43 rfl ?_
      refine q_iload_n dX8_atThumb_44 rfl ?_
      refine q_iload dX8_atThumb_45 rfl ?_
      refine q_iload_n dX8_atThumb_47 rfl ?_
      refine q_cVi lX8_238 vX8_goesBy (ci := 8) rfl dX8_atThumb_48 (kX8_goesBy (σ := qm_bm σ (qm_bb (fun b => qm_gb σ hv (nI b) (nI t) && (decide (t = 0) || !qm_gb σ hv (nI b) (nI (t - 1)))) i)) hA hA1 hA2 (t := t) ht) (by first | rfl | assumption) rfl rfl (Nat.le_of_ble_eq_true rfl) (by decide) ?_
      refine q_beq 77 dX8_atThumb_51 (by decide) (fun h51 => ?_) (fun h51 => ?_)
      · have h51 : qm_gb σ hv (nI i) (nI t) = false := h51
        have hp : (fun b => qm_gb σ hv (nI b) (nI t) && (decide (t = 0) || !qm_gb σ hv (nI b) (nI (t - 1)))) i = false := by show (qm_gb σ hv (nI i) (nI t) && (decide (t = 0) || !qm_gb σ hv (nI i) (nI (t - 1)))) = false; rw [h51]; rfl
        refine q_inc 1 dX8_atThumb_77 (by decide) rfl (by decide) rfl ?_
        refine q_goto 35 dX8_atThumb_80 (by decide) ?_
        rw [nI_1]
        have z := ih (i + 1) (by omega) (by omega)
        first
          | (rw [← qm_bm_f hp] at z; exact z)
          | (rw [← qm_bm_t hp] at z; exact z)
      · have h51 : qm_gb σ hv (nI i) (nI t) = true := h51
        refine q_iload_n dX8_atThumb_54 rfl ?_
        refine q_if_eq 71 dX8_atThumb_55 (by decide) (fun h55 => ?_) (fun h55 => ?_)
        · have h55 := (nI_eq (b := 0) (by omega) (by omega)).mp h55
          have hp : (fun b => qm_gb σ hv (nI b) (nI t) && (decide (t = 0) || !qm_gb σ hv (nI b) (nI (t - 1)))) i = true := by show (qm_gb σ hv (nI i) (nI t) && (decide (t = 0) || !qm_gb σ hv (nI i) (nI (t - 1)))) = true; rw [h51, h55]; rfl
          refine q_aload_n dX8_atThumb_71 rfl ?_
          refine q_iload dX8_atThumb_72 rfl ?_
          refine q_cVv lX8_242 vX8_aBubble (ci := 8) rfl dX8_atThumb_74 kX8_aBubble (by first | rfl | assumption) rfl rfl (Nat.le_of_ble_eq_true rfl) (by decide) ?_
          refine q_inc 1 dX8_atThumb_77 (by decide) rfl (by decide) rfl ?_
          refine q_goto 35 dX8_atThumb_80 (by decide) ?_
          rw [nI_1]
          have z := ih (i + 1) (by omega) (by omega)
          first
            | (rw [← qm_bm_f hp] at z; exact z)
            | (rw [← qm_bm_t hp] at z; exact z)
        · have h55 : ¬ t = 0 := fun z => h55 (by rw [z]; rfl)
          refine q_aload_n dX8_atThumb_58 rfl ?_
          refine q_iload_n dX8_atThumb_59 rfl ?_
          refine q_iload dX8_atThumb_60 rfl ?_
          refine q_iload_n dX8_atThumb_62 rfl ?_
          refine q_iconst (x := 1) dX8_atThumb_63 (by decide) ?_
          
          refine q_isub dX8_atThumb_64 ?_
          rw [q_p1 h55]
          refine q_cVi lX8_238 vX8_goesBy (ci := 8) rfl dX8_atThumb_65 (kX8_goesBy (σ := qm_bm σ (qm_bb (fun b => qm_gb σ hv (nI b) (nI t) && (decide (t = 0) || !qm_gb σ hv (nI b) (nI (t - 1)))) i)) hA hA1 hA2 (t := t - 1) (by omega)) (by first | rfl | assumption) rfl rfl (Nat.le_of_ble_eq_true rfl) (by decide) ?_
          refine q_bne 77 dX8_atThumb_68 (by decide) (fun h68 => ?_) (fun h68 => ?_)
          · have h68 : qm_gb σ hv (nI i) (nI (t - 1)) = true := h68
            have hp : (fun b => qm_gb σ hv (nI b) (nI t) && (decide (t = 0) || !qm_gb σ hv (nI b) (nI (t - 1)))) i = false := by show (qm_gb σ hv (nI i) (nI t) && (decide (t = 0) || !qm_gb σ hv (nI i) (nI (t - 1)))) = false; rw [h51, h68]; simp [h55]
            refine q_inc 1 dX8_atThumb_77 (by decide) rfl (by decide) rfl ?_
            refine q_goto 35 dX8_atThumb_80 (by decide) ?_
            rw [nI_1]
            have z := ih (i + 1) (by omega) (by omega)
            first
              | (rw [← qm_bm_f hp] at z; exact z)
              | (rw [← qm_bm_t hp] at z; exact z)
          · have h68 : qm_gb σ hv (nI i) (nI (t - 1)) = false := h68
            have hp : (fun b => qm_gb σ hv (nI b) (nI t) && (decide (t = 0) || !qm_gb σ hv (nI b) (nI (t - 1)))) i = true := by show (qm_gb σ hv (nI i) (nI t) && (decide (t = 0) || !qm_gb σ hv (nI i) (nI (t - 1)))) = true; rw [h51, h68]; simp
            refine q_aload_n dX8_atThumb_71 rfl ?_
            refine q_iload dX8_atThumb_72 rfl ?_
            refine q_cVv lX8_242 vX8_aBubble (ci := 8) rfl dX8_atThumb_74 kX8_aBubble (by first | rfl | assumption) rfl rfl (Nat.le_of_ble_eq_true rfl) (by decide) ?_
            refine q_inc 1 dX8_atThumb_77 (by decide) rfl (by decide) rfl ?_
            refine q_goto 35 dX8_atThumb_80 (by decide) ?_
            rw [nI_1]
            have z := ih (i + 1) (by omega) (by omega)
            first
              | (rw [← qm_bm_f hp] at z; exact z)
              | (rw [← qm_bm_t hp] at z; exact z)

set_option maxHeartbeats 1000000 in
set_option maxRecDepth 100000 in
theorem kX8_bubbles {σ : q_M} {ar : Nat} (hA : σ 75 1 = nI ar) (hA1 : 1 ≤ ar) (hA2 : ar ≤ 100000) {H : Nat} (hH : σ 75 0 = nI H) (h200 : H ≤ 200) {hv w : Int32} {t : Nat} (ht : t ≤ 500) (hh : q_win hv 1 999 = true) (hw : q_win w 0 2 = true) : q_Ct YX8_bubbles [.ref 72, .int hv, .int (nI t), .int w] q_SH σ (q_is (some (qm_tl (qm_bb (fun b => qm_cb σ hv (nI b) && qm_gb σ hv (nI b) (nI t)) 10000) w)) q_SH (qm_bm σ (qm_bb (fun b => qm_cb σ hv (nI b) && qm_gb σ hv (nI b) (nI t)) 10000))) := by
  refine q_ct (n := 1) (by decide) (by decide) rfl (fun _ => Nat.le_of_ble_eq_true rfl) (fun E => ?_)
  refine q_iload_n dX8_bubbles_0 rfl ?_
  refine q_cSi lX8_226 sX8_isHeavy dX8_bubbles_1 kX8_isHeavy rfl rfl (Nat.le_of_ble_eq_true rfl) (by decide) ?_
  refine q_beq 26 dX8_bubbles_4 (by decide) (fun h4 => ?_) (fun h4 => ?_)
  · exact absurd hh (by rw [h4]; decide)
  · refine q_iload_n dX8_bubbles_7 rfl ?_
    refine q_cSi lX8_174 sX8_isThumb dX8_bubbles_8 kX8_isThumb rfl rfl (Nat.le_of_ble_eq_true rfl) (by decide) ?_
    refine q_beq 26 dX8_bubbles_11 (by decide) (fun h11 => ?_) (fun h11 => ?_)
    · exact absurd (show q_win (nI t) 0 500 = true from decide_eq_true (by have := nI_toInt (n := t) (by omega); have e0 : (0 : Int32).toInt = 0 := rfl; have e5 : (500 : Int32).toInt = 500 := rfl; omega)) (by rw [h11]; decide)
    · refine q_iload_n dX8_bubbles_14 rfl ?_
      refine q_i2l dX8_bubbles_15 ?_
      refine q_lconst (x := 0) dX8_bubbles_16 (by decide) ?_
      refine q_ldc2 kX8_229 dX8_bubbles_17 ?_
      refine q_cSi lX8_72 sX8_in dX8_bubbles_20 (kX8_in (x := w) (lo := 0) (hi := 2) (Int32.toInt_toInt64 _) rfl rfl) rfl rfl (Nat.le_of_ble_eq_true rfl) (by decide) ?_
      refine q_bne 28 dX8_bubbles_23 (by decide) (fun h23 => ?_) (fun h23 => ?_)
      · refine q_aload_n dX8_bubbles_28 rfl ?_
        refine q_cVv lX8_231 vX8_noBubbles (ci := 8) rfl dX8_bubbles_29 kX8_noBubbles (by first | rfl | assumption) rfl rfl (Nat.le_of_ble_eq_true rfl) (by decide) ?_
        refine q_iconst (x := 0) dX8_bubbles_32 (by decide) ?_
        refine q_istore dX8_bubbles_33 (by decide) rfl ?_
        have z := lpX8_bubbles (E := E) hA hA1 hA2 hH h200 (hv := hv) (w := w) ht 10001 0 (by omega) (by omega)
        exact z
      · exact absurd hw (by rw [h23]; decide)

set_option maxHeartbeats 1000000 in
set_option maxRecDepth 100000 in
theorem kX8_bubblesB {σ : q_M} {hv th w : Int32} (hbad : (q_win hv 1 999 && q_win th 0 500 && q_win w 0 2) = false) : q_Ct YX8_bubbles [.ref 72, .int hv, .int th, .int w] q_SH σ (q_is (some (-1)) q_SH σ) := by
  refine q_ct (n := 1) (by decide) (by decide) rfl (fun _ => Nat.le_of_ble_eq_true rfl) (fun E => ?_)
  refine q_iload_n dX8_bubbles_0 rfl ?_
  refine q_cSi lX8_226 sX8_isHeavy dX8_bubbles_1 kX8_isHeavy rfl rfl (Nat.le_of_ble_eq_true rfl) (by decide) ?_
  refine q_beq 26 dX8_bubbles_4 (by decide) (fun h4 => ?_) (fun h4 => ?_)
  · refine q_iconst (x := (-1)) dX8_bubbles_26 (by decide) ?_
    refine q_ret dX8_bubbles_27 ?_ rfl rfl
    exact ⟨rfl, rfl, rfl⟩
  · refine q_iload_n dX8_bubbles_7 rfl ?_
    refine q_cSi lX8_174 sX8_isThumb dX8_bubbles_8 kX8_isThumb rfl rfl (Nat.le_of_ble_eq_true rfl) (by decide) ?_
    refine q_beq 26 dX8_bubbles_11 (by decide) (fun h11 => ?_) (fun h11 => ?_)
    · refine q_iconst (x := (-1)) dX8_bubbles_26 (by decide) ?_
      refine q_ret dX8_bubbles_27 ?_ rfl rfl
      exact ⟨rfl, rfl, rfl⟩
    · refine q_iload_n dX8_bubbles_14 rfl ?_
      refine q_i2l dX8_bubbles_15 ?_
      refine q_lconst (x := 0) dX8_bubbles_16 (by decide) ?_
      refine q_ldc2 kX8_229 dX8_bubbles_17 ?_
      refine q_cSi lX8_72 sX8_in dX8_bubbles_20 (kX8_in (x := w) (lo := 0) (hi := 2) (Int32.toInt_toInt64 _) rfl rfl) rfl rfl (Nat.le_of_ble_eq_true rfl) (by decide) ?_
      refine q_bne 28 dX8_bubbles_23 (by decide) (fun h23 => ?_) (fun h23 => ?_)
      · exact absurd hbad (by simp [*])
      · refine q_iconst (x := (-1)) dX8_bubbles_26 (by decide) ?_
        refine q_ret dX8_bubbles_27 ?_ rfl rfl
        exact ⟨rfl, rfl, rfl⟩

set_option maxHeartbeats 1000000 in
set_option maxRecDepth 100000 in
theorem kX8_atThumb {σ : q_M} {ar : Nat} (hA : σ 75 1 = nI ar) (hA1 : 1 ≤ ar) (hA2 : ar ≤ 100000) {H : Nat} (hH : σ 75 0 = nI H) (h200 : H ≤ 200) {hv w : Int32} {t : Nat} (ht : t ≤ 500) (hh : q_win hv 1 999 = true) (hw : q_win w 0 2 = true) : q_Ct YX8_atThumb [.ref 72, .int hv, .int (nI t), .int w] q_SH σ (q_is (some (qm_tl (qm_bb (fun b => qm_gb σ hv (nI b) (nI t) && (decide (t = 0) || !qm_gb σ hv (nI b) (nI (t - 1)))) 10000) w)) q_SH (qm_bm σ (qm_bb (fun b => qm_gb σ hv (nI b) (nI t) && (decide (t = 0) || !qm_gb σ hv (nI b) (nI (t - 1)))) 10000))) := by
  refine q_ct (n := 1) (by decide) (by decide) rfl (fun _ => Nat.le_of_ble_eq_true rfl) (fun E => ?_)
  refine q_iload_n dX8_atThumb_0 rfl ?_
  refine q_cSi lX8_226 sX8_isHeavy dX8_atThumb_1 kX8_isHeavy rfl rfl (Nat.le_of_ble_eq_true rfl) (by decide) ?_
  refine q_beq 26 dX8_atThumb_4 (by decide) (fun h4 => ?_) (fun h4 => ?_)
  · exact absurd hh (by rw [h4]; decide)
  · refine q_iload_n dX8_atThumb_7 rfl ?_
    refine q_cSi lX8_174 sX8_isThumb dX8_atThumb_8 kX8_isThumb rfl rfl (Nat.le_of_ble_eq_true rfl) (by decide) ?_
    refine q_beq 26 dX8_atThumb_11 (by decide) (fun h11 => ?_) (fun h11 => ?_)
    · exact absurd (show q_win (nI t) 0 500 = true from decide_eq_true (by have := nI_toInt (n := t) (by omega); have e0 : (0 : Int32).toInt = 0 := rfl; have e5 : (500 : Int32).toInt = 500 := rfl; omega)) (by rw [h11]; decide)
    · refine q_iload_n dX8_atThumb_14 rfl ?_
      refine q_i2l dX8_atThumb_15 ?_
      refine q_lconst (x := 0) dX8_atThumb_16 (by decide) ?_
      refine q_ldc2 kX8_229 dX8_atThumb_17 ?_
      refine q_cSi lX8_72 sX8_in dX8_atThumb_20 (kX8_in (x := w) (lo := 0) (hi := 2) (Int32.toInt_toInt64 _) rfl rfl) rfl rfl (Nat.le_of_ble_eq_true rfl) (by decide) ?_
      refine q_bne 28 dX8_atThumb_23 (by decide) (fun h23 => ?_) (fun h23 => ?_)
      · refine q_aload_n dX8_atThumb_28 rfl ?_
        refine q_cVv lX8_231 vX8_noBubbles (ci := 8) rfl dX8_atThumb_29 kX8_noBubbles (by first | rfl | assumption) rfl rfl (Nat.le_of_ble_eq_true rfl) (by decide) ?_
        refine q_iconst (x := 0) dX8_atThumb_32 (by decide) ?_
        refine q_istore dX8_atThumb_33 (by decide) rfl ?_
        have z := lpX8_atThumb (E := E) hA hA1 hA2 hH h200 (hv := hv) (w := w) ht 10001 0 (by omega) (by omega)
        exact z
      · exact absurd hw (by rw [h23]; decide)

set_option maxHeartbeats 1000000 in
set_option maxRecDepth 100000 in
theorem kX8_atThumbB {σ : q_M} {hv th w : Int32} (hbad : (q_win hv 1 999 && q_win th 0 500 && q_win w 0 2) = false) : q_Ct YX8_atThumb [.ref 72, .int hv, .int th, .int w] q_SH σ (q_is (some (-1)) q_SH σ) := by
  refine q_ct (n := 1) (by decide) (by decide) rfl (fun _ => Nat.le_of_ble_eq_true rfl) (fun E => ?_)
  refine q_iload_n dX8_atThumb_0 rfl ?_
  refine q_cSi lX8_226 sX8_isHeavy dX8_atThumb_1 kX8_isHeavy rfl rfl (Nat.le_of_ble_eq_true rfl) (by decide) ?_
  refine q_beq 26 dX8_atThumb_4 (by decide) (fun h4 => ?_) (fun h4 => ?_)
  · refine q_iconst (x := (-1)) dX8_atThumb_26 (by decide) ?_
    refine q_ret dX8_atThumb_27 ?_ rfl rfl
    exact ⟨rfl, rfl, rfl⟩
  · refine q_iload_n dX8_atThumb_7 rfl ?_
    refine q_cSi lX8_174 sX8_isThumb dX8_atThumb_8 kX8_isThumb rfl rfl (Nat.le_of_ble_eq_true rfl) (by decide) ?_
    refine q_beq 26 dX8_atThumb_11 (by decide) (fun h11 => ?_) (fun h11 => ?_)
    · refine q_iconst (x := (-1)) dX8_atThumb_26 (by decide) ?_
      refine q_ret dX8_atThumb_27 ?_ rfl rfl
      exact ⟨rfl, rfl, rfl⟩
    · refine q_iload_n dX8_atThumb_14 rfl ?_
      refine q_i2l dX8_atThumb_15 ?_
      refine q_lconst (x := 0) dX8_atThumb_16 (by decide) ?_
      refine q_ldc2 kX8_229 dX8_atThumb_17 ?_
      refine q_cSi lX8_72 sX8_in dX8_atThumb_20 (kX8_in (x := w) (lo := 0) (hi := 2) (Int32.toInt_toInt64 _) rfl rfl) rfl rfl (Nat.le_of_ble_eq_true rfl) (by decide) ?_
      refine q_bne 28 dX8_atThumb_23 (by decide) (fun h23 => ?_) (fun h23 => ?_)
      · exact absurd hbad (by simp [*])
      · refine q_iconst (x := (-1)) dX8_atThumb_26 (by decide) ?_
        refine q_ret dX8_atThumb_27 ?_ rfl rfl
        exact ⟨rfl, rfl, rfl⟩
