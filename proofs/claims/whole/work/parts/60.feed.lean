/-! whole numbers of Int32; feed -/
theorem i_add {a b : Int32} (h1 : -2147483648 ≤ a.toInt + b.toInt) (h2 : a.toInt + b.toInt < 2147483648) : (a + b).toInt = a.toInt + b.toInt := by
  rw [Int32.toInt_add]
  exact Int.bmod_eq_of_le (by omega) (by omega)
theorem i_sub {a b : Int32} (h1 : -2147483648 ≤ a.toInt - b.toInt) (h2 : a.toInt - b.toInt < 2147483648) : (a - b).toInt = a.toInt - b.toInt := by
  rw [Int32.toInt_sub]
  exact Int.bmod_eq_of_le (by omega) (by omega)
theorem i_mul {a b : Int32} (h1 : -2147483648 ≤ a.toInt * b.toInt) (h2 : a.toInt * b.toInt < 2147483648) : (a * b).toInt = a.toInt * b.toInt := by
  rw [Int32.toInt_mul]
  exact Int.bmod_eq_of_le (by omega) (by omega)
theorem i_neg {a : Int32} (h1 : -2147483648 < a.toInt) : (-a).toInt = -a.toInt := by
  have h2 := a.toInt_lt
  rw [Int32.toInt_neg]
  exact Int.bmod_eq_of_le (by omega) (by omega)
theorem i_div {a b : Int32} (h0 : 0 ≤ a.toInt) (hb : 0 < b.toInt) : (a / b).toInt = a.toInt / b.toInt := by
  have h1 := a.toInt_lt
  have h2 : a.toInt / b.toInt ≤ a.toInt := Int.ediv_le_self _ h0
  have h3 : 0 ≤ a.toInt / b.toInt := Int.ediv_nonneg h0 (by omega)
  rw [Int32.toInt_div, Int.tdiv_eq_ediv_of_nonneg h0]
  exact Int.bmod_eq_of_le (by omega) (by omega)
theorem i_ext {a b : Int32} (h : a.toInt = b.toInt) : a = b := Int32.toInt_inj.mp h
theorem i_nI {x : Int32} (h : 0 ≤ x.toInt) : x = nI x.toInt.toNat := by
  apply i_ext
  have := x.toInt_lt
  rw [nI_toInt (by omega)]
  omega

def rs_by (v : Int64) (n : Nat) : Int32 := (v >>> ((nI (8 * (7 - n))).toInt64 &&& 63)).toInt32.toInt8.toInt32
def rs_fd (σ : q_M) (v : Int64) (L : Nat) : Nat → q_M
  | 0 => σ
  | n + 1 => q_up (q_up (rs_fd σ v L n) 2 (L + n) (rs_by v n)) 1 4 (nI (L + n + 1))
theorem rs_fd_4 {σ : q_M} {v : Int64} {L : Nat} (hL : σ 1 4 = nI L) : ∀ n, rs_fd σ v L n 1 4 = nI (L + n)
  | 0 => hL
  | n + 1 => q_up_at _ _ _ _
theorem rs_nb (x : Int32) : vp_nar .byte x.toInt8.toInt32 = x.toInt8.toInt32 := by
  have h := pk_nb x
  unfold vp_nar
  rw [h]
theorem q_m8 (n : Nat) : nI (n + 8) + (-8) = nI n := by
  rw [show (nI (n + 8)) = nI n + 8 from (nI_add n 8).symm, Int32.add_assoc, show (8 : Int32) + (-8) = 0 by decide, Int32.add_zero]

set_option maxHeartbeats 1000000 in
set_option maxRecDepth 100000 in
theorem lpX2_append {E : q_E} {σ : q_M} {v : Int64} {L : Nat} (hL : σ 1 4 = nI L) (h312 : L ≤ 312) : ∀ (n : Nat) (i : Nat), 9 ≤ i + n → i ≤ 7 → q_G YX2_append E 0 0 18 [some (.ref 1), some (.long v), none, some (.int (nI (8 * (7 - i))))] [] q_SH (rs_fd σ v L i) (q_is (some (q_b true)) q_SH (rs_fd σ v L 8)) := by
  intro n
  induction n with
  | zero =>
    intro i hm h0
    exact absurd hm (by omega)
  | succ n ih =>
    intro i hm h0
    have hit := nI_toInt (n := 8 * (7 - i)) (by omega)
    have hlt := nI_toInt (n := L + i) (by omega)
    refine q_iload_n dX2_append_18 rfl ?_
    refine q_zlt 52 dX2_append_19 (by decide) (fun h19 => ?_) (fun h19 => ?_)
    · exact absurd h19 (by omega)
    · refine q_aload_n dX2_append_22 rfl ?_
      refine q_getr fX2_9 dX2_append_23 (by first | rfl | assumption) (by rfl) ?_
      refine q_aload_n dX2_append_26 rfl ?_
      refine q_get fX2_33 dX2_append_27 (by first | rfl | assumption) (by rfl) ?_
      refine q_tope (y := nI (L + i)) (rs_fd_4 hL i) ?_
      refine q_lload_n dX2_append_30 rfl ?_
      refine q_iload_n dX2_append_31 rfl ?_
      refine q_lshr dX2_append_32 ?_
      refine q_l2i dX2_append_33 ?_
      refine q_i2b dX2_append_34 ?_
      refine q_bsto (L + i) (by first | rfl | assumption) hlt (by omega) dX2_append_35 ?_
      refine q_mem (τ := q_up (rs_fd σ v L i) 2 (L + i) (rs_by v i)) (congrArg (q_up (rs_fd σ v L i) 2 (L + i)) (rs_nb _)) ?_
      refine q_aload_n dX2_append_36 rfl ?_
      refine q_dup rfl dX2_append_37 ?_
      refine q_get fX2_33 dX2_append_38 (by first | rfl | assumption) (by rfl) ?_
      refine q_tope (y := nI (L + i)) (rs_fd_4 hL i) ?_
      refine q_iconst (x := 1) dX2_append_41 (by decide) ?_
      refine q_iadd dX2_append_42 ?_
      refine q_tope (y := nI (L + i + 1)) (nI_1 _) ?_
      refine q_put_i pX2_33 dX2_append_43 (by first | rfl | assumption) (by rfl) rfl rfl ?_
      refine q_inc (-8) dX2_append_46 (by decide) rfl (by decide) rfl ?_
      refine q_goto 18 dX2_append_49 (by decide) ?_
      refine q_mem (τ := rs_fd σ v L (i + 1)) rfl ?_
      by_cases h7 : i = 7
      · subst h7
        refine q_iload_n dX2_append_18 rfl ?_
        refine q_zlt 52 dX2_append_19 (by decide) (fun h19 => ?_) (fun h19 => ?_)
        · refine q_iconst (x := 1) dX2_append_52 (by decide) ?_
          refine q_ret1 dX2_append_53 ?_ rfl rfl
          exact ⟨rfl, rfl, rfl⟩
        · exact absurd h19 (by decide)
      · rw [show 8 * (7 - i) = 8 * (7 - (i + 1)) + 8 by omega, q_m8]
        exact ih (i + 1) (by omega) (by omega)

set_option maxHeartbeats 1000000 in
set_option maxRecDepth 100000 in
theorem kX2_append {σ : q_M} {v : Int64} {L : Nat} (hL : σ 1 4 = nI L) (h312 : L ≤ 312) : q_Ct YX2_append [.ref 1, .long v] q_SH σ (q_is (some (q_b true)) q_SH (rs_fd σ v L 8)) := by
  refine q_ct (n := 1) (by decide) (by decide) rfl (fun _ => Nat.le_of_ble_eq_true rfl) (fun E => ?_)
  have hlt := nI_toInt (n := L + 8) (by omega)
  have e3 : (320 : Int32).toInt = 320 := rfl
  refine q_aload_n dX2_append_0 rfl ?_
  refine q_get fX2_33 dX2_append_1 (by first | rfl | assumption) (by rfl) ?_
  refine q_tope (y := nI L) hL ?_
  refine q_bipush (x := 8) dX2_append_4 (by decide) ?_
  refine q_iadd dX2_append_6 ?_
  refine q_tope (y := nI (L + 8)) (nI_add L 8) ?_
  refine q_sipush (x := 320) dX2_append_7 (by decide) ?_
  refine q_cle 15 dX2_append_10 (by decide) (fun h10 => ?_) (fun h10 => ?_)
  · refine q_bipush (x := 56) dX2_append_15 (by decide) ?_
    refine q_istore_n dX2_append_17 (by decide) rfl ?_
    exact lpX2_append hL h312 9 0 (by omega) (by omega)
  · exact absurd h10 (by omega)

set_option maxHeartbeats 1000000 in
set_option maxRecDepth 100000 in
theorem kX2_appendF {σ : q_M} {v : Int64} {L : Nat} (hL : σ 1 4 = nI L) (h320 : L ≤ 320) (h312 : 312 < L) : q_Ct YX2_append [.ref 1, .long v] q_SH σ (q_is (some (q_b false)) q_SH (σ)) := by
  refine q_ct (n := 1) (by decide) (by decide) rfl (fun _ => Nat.le_of_ble_eq_true rfl) (fun E => ?_)
  have hlt := nI_toInt (n := L + 8) (by omega)
  have e3 : (320 : Int32).toInt = 320 := rfl
  refine q_aload_n dX2_append_0 rfl ?_
  refine q_get fX2_33 dX2_append_1 (by first | rfl | assumption) (by rfl) ?_
  refine q_tope (y := nI L) hL ?_
  refine q_bipush (x := 8) dX2_append_4 (by decide) ?_
  refine q_iadd dX2_append_6 ?_
  refine q_tope (y := nI (L + 8)) (nI_add L 8) ?_
  refine q_sipush (x := 320) dX2_append_7 (by decide) ?_
  refine q_cle 15 dX2_append_10 (by decide) (fun h10 => ?_) (fun h10 => ?_)
  · exact absurd h10 (by omega)
  · refine q_iconst (x := 0) dX2_append_13 (by decide) ?_
    refine q_ret0 dX2_append_14 ?_ rfl rfl
    exact ⟨rfl, rfl, rfl⟩

set_option maxHeartbeats 1000000 in
set_option maxRecDepth 100000 in
theorem kX7_feed {σ : q_M} {v : Int64} {L : Nat} (hL : σ 1 4 = nI L) (h312 : L ≤ 312) : q_Ct YX7_feed [.ref 0, .long v] q_SH σ (q_is (some (nI (L + 8))) q_SH (rs_fd σ v L 8)) := by
  refine q_ct (n := 0) (by decide) (by decide) rfl (fun _ => Nat.le_of_ble_eq_true rfl) (fun E => ?_)
  refine q_aload_n dX7_feed_0 rfl ?_
  refine q_getr fX7_10 dX7_feed_1 (by first | rfl | assumption) (by rfl) ?_
  refine q_lload_n dX7_feed_4 rfl ?_
  refine q_cVi lX7_70 vX2_append (ci := 2) rfl dX7_feed_5 (kX2_append hL h312) (by first | rfl | assumption) rfl rfl (Nat.le_of_ble_eq_true rfl) (by decide) ?_
  refine q_beq 21 dX7_feed_8 (by decide) (fun h8 => ?_) (fun h8 => ?_)
  · exact absurd h8 (by decide)
  · refine q_aload_n dX7_feed_11 rfl ?_
    refine q_getr fX7_10 dX7_feed_12 (by first | rfl | assumption) (by rfl) ?_
    refine q_get fX7_74 dX7_feed_15 (by first | rfl | assumption) (by rfl) ?_
    refine q_tope (y := nI (L + 8)) (rs_fd_4 hL 8) ?_
    refine q_goto 23 dX7_feed_18 (by decide) ?_
    refine q_ret dX7_feed_23 ?_ rfl rfl
    exact ⟨rfl, rfl, rfl⟩

set_option maxHeartbeats 1000000 in
set_option maxRecDepth 100000 in
theorem kX7_feedF {σ : q_M} {v : Int64} {L : Nat} (hL : σ 1 4 = nI L) (h320 : L ≤ 320) (h312 : 312 < L) : q_Ct YX7_feed [.ref 0, .long v] q_SH σ (q_is (some (-3)) q_SH (σ)) := by
  refine q_ct (n := 0) (by decide) (by decide) rfl (fun _ => Nat.le_of_ble_eq_true rfl) (fun E => ?_)
  refine q_aload_n dX7_feed_0 rfl ?_
  refine q_getr fX7_10 dX7_feed_1 (by first | rfl | assumption) (by rfl) ?_
  refine q_lload_n dX7_feed_4 rfl ?_
  refine q_cVi lX7_70 vX2_append (ci := 2) rfl dX7_feed_5 (kX2_appendF hL h320 h312) (by first | rfl | assumption) rfl rfl (Nat.le_of_ble_eq_true rfl) (by decide) ?_
  refine q_beq 21 dX7_feed_8 (by decide) (fun h8 => ?_) (fun h8 => ?_)
  · refine q_bipush (x := (-3)) dX7_feed_21 (by decide) ?_
    refine q_ret dX7_feed_23 ?_ rfl rfl
    exact ⟨rfl, rfl, rfl⟩
  · exact absurd h8 (by decide)
