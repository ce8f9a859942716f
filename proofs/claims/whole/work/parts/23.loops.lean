/-! loops of DiverBottle over its divers and its thumbs -/
def q_bits (p : Nat → Bool) : Nat → Int32
  | 0 => 0
  | n + 1 => if p n then q_bits p n ||| (1 <<< (nI n &&& 31)) else q_bits p n
def q_cnt (p : Nat → Bool) : Nat → Int32
  | 0 => 0
  | n + 1 => if p n then q_cnt p n + 1 else q_cnt p n
def q_sum (f : Nat → Int32) : Nat → Int32
  | 0 => 0
  | n + 1 => q_sum f n + f n

set_option maxHeartbeats 4000000 in
set_option maxRecDepth 100000 in
theorem lpX7_diversAt {E : q_E} {σ : q_M} {N : Nat} (hN : σ 17 2 = nI N) (h6 : N ≤ 6) {f : Int32} : ∀ (n : Nat) (i : Nat) (b : Int32), N + 1 ≤ i + n → i ≤ N → b = q_bits (fun k => decide (σ (23 + k) 5 = f)) i → q_G YX7_diversAt E 0 0 4 [some (.ref 0), some (.int f), some (.int b), some (.int (nI i))] [] q_SH σ (q_is (some (q_bits (fun k => decide (σ (23 + k) 5 = f)) N)) q_SH σ) := by
  intro n
  induction n with
  | zero =>
    intro i b hm hi0 hb
    exact absurd hm (by omega)
  | succ n ih =>
    intro i b hm hi0 hb
    have hi := nI_toInt (n := i) (by omega)
    have hNt : (σ 17 2).toInt = (N : Int) := by rw [hN]; exact nI_toInt (by omega)
    refine q_iload_n dX7_diversAt_4 rfl ?_
    refine q_aload_n dX7_diversAt_5 rfl ?_
    refine q_getr fX7_26 dX7_diversAt_6 (by first | assumption | rfl) (by rfl) ?_
    refine q_get fX7_173 dX7_diversAt_9 (by first | assumption | rfl) (by rfl) ?_
    refine q_cge 43 dX7_diversAt_12 (by decide) (fun h12 => ?_) (fun h12 => ?_)
    · refine q_iload_n dX7_diversAt_43 rfl ?_
      refine q_ret dX7_diversAt_44 ?_ rfl rfl
      have e : i = N := by omega
      exact ⟨congrArg some (by rw [hb, e]), rfl, rfl⟩
    · refine q_aload_n dX7_diversAt_15 rfl ?_
      refine q_getr fX7_26 dX7_diversAt_16 (by first | assumption | rfl) (by rfl) ?_
      refine q_getr fX7_121 dX7_diversAt_19 (by first | assumption | rfl) (by rfl) ?_
      refine q_iload_n dX7_diversAt_22 rfl ?_
      refine q_ald i (by first | assumption | rfl) hi (by omega) (q_ra_at (by omega)) ⟨by decide, by decide⟩ dX7_diversAt_23 ?_
      refine q_get fX7_151 dX7_diversAt_24 (q_SH_dv (by omega)) (by rfl) ?_
      refine q_iload_n dX7_diversAt_27 rfl ?_
      refine q_icmp_ne 37 dX7_diversAt_28 (by decide) (fun h28 => ?_) (fun h28 => ?_)
      · refine q_inc 1 dX7_diversAt_37 (by decide) rfl (by decide) rfl ?_
        refine q_goto 4 dX7_diversAt_40 (by decide) ?_
        rw [nI_1]
        exact ih (i + 1) _ (by omega) (by omega) (by simp_all [q_bits])
      · refine q_iload_n dX7_diversAt_31 rfl ?_
        refine q_iconst (x := 1) dX7_diversAt_32 (by decide) ?_
        refine q_iload_n dX7_diversAt_33 rfl ?_
        refine q_ishl dX7_diversAt_34 ?_
        refine q_ior dX7_diversAt_35 ?_
        refine q_istore_n dX7_diversAt_36 (by decide) rfl ?_
        refine q_inc 1 dX7_diversAt_37 (by decide) rfl (by decide) rfl ?_
        refine q_goto 4 dX7_diversAt_40 (by decide) ?_
        rw [nI_1]
        exact ih (i + 1) _ (by omega) (by omega) (by simp_all [q_bits])

set_option maxHeartbeats 4000000 in
set_option maxRecDepth 100000 in
theorem kX7_diversAt {σ : q_M} {N : Nat} (hN : σ 17 2 = nI N) (h6 : N ≤ 6) {f : Int32} : q_Ct YX7_diversAt [.ref 0, .int f] q_SH σ (q_is (some (q_bits (fun k => decide (σ (23 + k) 5 = f)) N)) q_SH σ) := by
  refine q_ct (n := 2) (by decide) (by decide) rfl (fun _ => Nat.le_of_ble_eq_true rfl) (fun E => ?_)
  refine q_iconst (x := 0) dX7_diversAt_0 (by decide) ?_
  refine q_istore_n dX7_diversAt_1 (by decide) rfl ?_
  refine q_iconst (x := 0) dX7_diversAt_2 (by decide) ?_
  refine q_istore_n dX7_diversAt_3 (by decide) rfl ?_
  exact lpX7_diversAt hN h6 (N + 1) 0 0 (by omega) (by omega) rfl

set_option maxHeartbeats 4000000 in
set_option maxRecDepth 100000 in
theorem lpX7_hooks {E : q_E} {σ : q_M} {N : Nat} (hN : σ 17 2 = nI N) (h6 : N ≤ 6) : ∀ (n : Nat) (i : Nat) (b : Int32), N + 1 ≤ i + n → i ≤ N → b = q_sum (fun k => q_b (q_t (σ (23 + k) 7))) i → q_G YX7_hooks E 0 0 4 [some (.ref 0), some (.int b), some (.int (nI i))] [] q_SH σ (q_is (some (q_sum (fun k => q_b (q_t (σ (23 + k) 7))) N)) q_SH σ) := by
  intro n
  induction n with
  | zero =>
    intro i b hm hi0 hb
    exact absurd hm (by omega)
  | succ n ih =>
    intro i b hm hi0 hb
    have hi := nI_toInt (n := i) (by omega)
    have hNt : (σ 17 2).toInt = (N : Int) := by rw [hN]; exact nI_toInt (by omega)
    refine q_iload_n dX7_hooks_4 rfl ?_
    refine q_aload_n dX7_hooks_5 rfl ?_
    refine q_getr fX7_26 dX7_hooks_6 (by first | assumption | rfl) (by rfl) ?_
    refine q_get fX7_173 dX7_hooks_9 (by first | assumption | rfl) (by rfl) ?_
    refine q_cge 39 dX7_hooks_12 (by decide) (fun h12 => ?_) (fun h12 => ?_)
    · refine q_iload_n dX7_hooks_39 rfl ?_
      refine q_ret dX7_hooks_40 ?_ rfl rfl
      have e : i = N := by omega
      exact ⟨congrArg some (by rw [hb, e]), rfl, rfl⟩
    · refine q_iload_n dX7_hooks_15 rfl ?_
      refine q_aload_n dX7_hooks_16 rfl ?_
      refine q_getr fX7_26 dX7_hooks_17 (by first | assumption | rfl) (by rfl) ?_
      refine q_getr fX7_121 dX7_hooks_20 (by first | assumption | rfl) (by rfl) ?_
      refine q_iload_n dX7_hooks_23 rfl ?_
      refine q_ald i (by first | assumption | rfl) hi (by omega) (q_ra_at (by omega)) ⟨by decide, by decide⟩ dX7_hooks_24 ?_
      refine q_get fX7_136 dX7_hooks_25 (q_SH_dv (by omega)) (by rfl) ?_
      refine q_cSi lX7_140 sX7_bit dX7_hooks_28 kX7_bit rfl rfl (Nat.le_of_ble_eq_true rfl) (by decide) ?_
      refine q_iadd dX7_hooks_31 ?_
      refine q_istore_n dX7_hooks_32 (by decide) rfl ?_
      refine q_inc 1 dX7_hooks_33 (by decide) rfl (by decide) rfl ?_
      refine q_goto 4 dX7_hooks_36 (by decide) ?_
      rw [nI_1]
      exact ih (i + 1) _ (by omega) (by omega) (by simp_all [q_sum])

set_option maxHeartbeats 4000000 in
set_option maxRecDepth 100000 in
theorem kX7_hooks {σ : q_M} {N : Nat} (hN : σ 17 2 = nI N) (h6 : N ≤ 6) : q_Ct YX7_hooks [.ref 0] q_SH σ (q_is (some (q_sum (fun k => q_b (q_t (σ (23 + k) 7))) N)) q_SH σ) := by
  refine q_ct (n := 2) (by decide) (by decide) rfl (fun _ => Nat.le_of_ble_eq_true rfl) (fun E => ?_)
  refine q_iconst (x := 0) dX7_hooks_0 (by decide) ?_
  refine q_istore_n dX7_hooks_1 (by decide) rfl ?_
  refine q_iconst (x := 0) dX7_hooks_2 (by decide) ?_
  refine q_istore_n dX7_hooks_3 (by decide) rfl ?_
  exact lpX7_hooks hN h6 (N + 1) 0 0 (by omega) (by omega) rfl
