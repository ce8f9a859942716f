/-! the reference: go, order, apart, lifts -/

def q_Sub : List (Option Value) → List (Option Value) → Prop
  | [], _ => True
  | none :: a, b => q_Sub a b.tail
  | some x :: a, b => b.head? = some (some x) ∧ q_Sub a b.tail
theorem q_Sub_at : ∀ {a b : List (Option Value)}, q_Sub a b → ∀ (j : Nat) (w : Value), a[j]? = some (some w) → b[j]? = some (some w) := by
  intro a
  induction a with
  | nil => intro b _ j w h; simp at h
  | cons x a ih =>
    intro b h j w hj
    cases x with
    | none =>
      cases j with
      | zero => simp at hj
      | succ j =>
        cases b with
        | nil => have := ih h j w (by simpa using hj); simp at this
        | cons y b => simpa using ih h j w (by simpa using hj)
    | some x =>
      cases b with
      | nil => exact absurd h.1 (by simp)
      | cons y b =>
        cases j with
        | zero => simp at hj; subst hj; simpa using h.1
        | succ j => simpa using ih h.2 j w (by simpa using hj)
theorem q_lz {Y : q_Y} {E : q_E} {u v pc : Nat} {ls ls' : List (Option Value)} {st : List Value} {sh : List q_S} {σ : q_M} {Q : q_P} (k : q_G Y E u v pc ls' st sh σ Q) (h : q_Sub ls' ls) : q_G Y E u v pc ls st sh σ Q :=
  q_lsub (fun j w hj => q_Sub_at h j w hj) k
theorem q_m2_53 {σ : q_M} {j k : Nat} (h : 48 ≤ k) (hj : j < 6) : q_m2 σ j 73 k = σ 73 k := q_m2_73 (by omega) (by omega)
theorem q_tm_53 {σ : q_M} {j : Nat} (hj : j < 6) : q_tm σ j 73 53 = σ 73 53 := by
  have e1 : q_fl3 σ j 73 53 = σ 73 53 := by
    unfold q_fl3
    split
    · rw [q_up_f (by decide), q_up_f (by omega), q_up_f (by omega), q_m2_53 (by omega) hj]
    · rw [q_up_f (by omega), q_m2_53 (by omega) hj]
  have e2 : q_ma σ j 73 53 = σ 73 53 := by
    unfold q_ma
    split
    · exact e1
    · exact q_m2_53 (by omega) hj
  unfold q_tm
  split
  · rw [q_tp, q_up_f (by decide), q_up_f (by omega), e2]
  · exact e2
def q_tml (N : Nat) : Nat → q_M → q_M
  | 0, σ => σ
  | m + 1, σ => q_tml N m (q_tm σ (N - (m + 1)))
def q_tk2 (N : Nat) (σ : q_M) : q_M := q_up (q_tml N N σ) 73 50 (q_tml N N σ 73 50 + 1)
def q_gom (N : Nat) : Nat → q_M → q_M
  | 0, σ => σ
  | n + 1, σ => q_gom N n (q_tk2 N σ)
/-- what a tick needs of the memory -/
def q_tok (N : Nat) (σ : q_M) : Prop := σ 73 53 = nI N ∧ 0 < (σ 75 3).toInt ∧ ∀ j, j < N → 0 < (σ 75 1 + σ 73 48 + σ 73 (8 * j + 6) / 64).toInt

set_option maxHeartbeats 1000000 in
set_option maxRecDepth 100000 in
theorem lpX8_go1 {E : q_E} {x : Int32} {t N : Nat} {Q : q_P} (h6 : N ≤ 6) {I : q_M → Prop} (hI : ∀ τ, I τ → q_tok N τ) (hinv : ∀ τ j, j < N → I τ → I (q_tm τ j)) : ∀ (n : Nat) (i : Nat) (σ : q_M), N + 1 ≤ i + n → i ≤ N → I σ → q_G YX8_go E 0 0 16 [some (.ref 72), some (.int x), some (.int (nI (t + 1))), none] [] q_SH (q_up (q_tml N (N - i) σ) 73 50 (q_tml N (N - i) σ 73 50 + 1)) Q → q_G YX8_go E 0 0 23 [some (.ref 72), some (.int x), some (.int (nI t)), some (.int (nI i))] [] q_SH σ Q := by
  intro n
  induction n with
  | zero =>
    intro i σ hm h0 hN K
    exact absurd hm (by omega)
  | succ n ih =>
    intro i σ hm h0 hN K
    have hi := nI_toInt (n := i) (by omega)
    have hNt := nI_toInt (n := N) (by omega)
    refine q_iload_n dX8_go_23 rfl ?_
    refine q_aload_n dX8_go_24 rfl ?_
    refine q_getr fX8_7 dX8_go_25 (by first | rfl | assumption) (by rfl) ?_
    refine q_bipush (x := 53) dX8_go_28 (by decide) ?_
    refine q_ild 53 (by first | rfl | assumption) rfl (by decide) dX8_go_30 ?_
    rw [(hI σ hN).1]
    refine q_cge 45 dX8_go_31 (by decide) (fun h31 => ?_) (fun h31 => ?_)
    · have e : N - i = 0 := by omega
      rw [e] at K
      refine q_aload_n dX8_go_45 rfl ?_
      refine q_getr fX8_7 dX8_go_46 (by first | rfl | assumption) (by rfl) ?_
      refine q_bipush (x := 50) dX8_go_49 (by decide) ?_
      refine q_dup2 rfl rfl dX8_go_51 ?_
      refine q_ild 50 (by first | rfl | assumption) rfl (by decide) dX8_go_52 ?_
      refine q_iconst (x := 1) dX8_go_53 (by decide) ?_
      refine q_iadd dX8_go_54 ?_
      refine q_isto 50 (by first | rfl | assumption) rfl (by decide) dX8_go_55 ?_
      refine q_inc 1 dX8_go_56 (by decide) rfl (by decide) rfl ?_
      refine q_goto 16 dX8_go_59 (by decide) ?_
      rw [nI_1]
      refine q_lset 3 ?_
      exact K
    · refine q_aload_n dX8_go_34 rfl ?_
      refine q_iload_n dX8_go_35 rfl ?_
      refine q_cVv lX8_196 vX8_tickOf (ci := 8) rfl dX8_go_36 (kX8_tickOf (by omega) (hI σ hN).2.1 ((hI σ hN).2.2 i (by omega))) (by first | rfl | assumption) rfl rfl (Nat.le_of_ble_eq_true rfl) (by decide) ?_
      refine q_inc 1 dX8_go_39 (by decide) rfl (by decide) rfl ?_
      refine q_goto 23 dX8_go_42 (by decide) ?_
      rw [nI_1]
      refine ih (i + 1) (q_tm σ i) (by omega) (by omega) (hinv σ i (by omega) hN) ?_
      rw [show N - i = (N - (i + 1)) + 1 by omega, q_tml, show N - (N - (i + 1) + 1) = i by omega] at K
      exact K

set_option maxHeartbeats 1000000 in
set_option maxRecDepth 100000 in
theorem lpX8_go2 {E : q_E} {N n0 : Nat} (h6 : N ≤ 6) (hn0 : n0 < 1000) {I : q_M → Prop} (hI : ∀ τ, I τ → q_tok N τ) (hinv : ∀ τ j, j < N → I τ → I (q_tm τ j)) (hinv2 : ∀ τ, I τ → I (q_tk2 N τ)) : ∀ (n : Nat) (t : Nat) (σ : q_M), n0 + 1 ≤ t + n → t ≤ n0 → I σ → q_G YX8_go E 0 0 16 [some (.ref 72), some (.int (nI n0)), some (.int (nI t)), none] [] q_SH σ (q_is (some (q_bits (fun k => decide (q_gom N (n0 - t) σ 73 (8 * k + 6) = 64 * q_gom N (n0 - t) σ 75 0)) N)) q_SH (q_gom N (n0 - t) σ)) := by
  intro n
  induction n with
  | zero =>
    intro t σ hm h0 hN
    exact absurd hm (by omega)
  | succ n ih =>
    intro t σ hm h0 hN
    have hi := nI_toInt (n := t) (by omega)
    have hnt := nI_toInt (n := n0) (by omega)
    refine q_iload_n dX8_go_16 rfl ?_
    refine q_iload_n dX8_go_17 rfl ?_
    refine q_cge 62 dX8_go_18 (by decide) (fun h18 => ?_) (fun h18 => ?_)
    · have e : n0 - t = 0 := by omega
      rw [e]
      show q_G _ _ _ _ _ _ _ _ _ (q_is (some (q_bits (fun k => decide (σ 73 (8 * k + 6) = 64 * σ 75 0)) N)) q_SH σ)
      refine q_aload_n dX8_go_62 rfl ?_
      refine q_aload_n dX8_go_63 rfl ?_
      refine q_cVi lX8_187 vX8_floor (ci := 8) rfl dX8_go_64 kX8_floor (by first | rfl | assumption) rfl rfl (Nat.le_of_ble_eq_true rfl) (by decide) ?_
      refine q_cVi lX8_199 vX8_those (ci := 8) rfl dX8_go_67 (kX8_those (hI σ hN).1 h6) (by first | rfl | assumption) rfl rfl (Nat.le_of_ble_eq_true rfl) (by decide) ?_
      refine q_ret dX8_go_70 ?_ rfl rfl
      exact ⟨rfl, rfl, rfl⟩
    · refine q_iconst (x := 0) dX8_go_21 (by decide) ?_
      refine q_istore_n dX8_go_22 (by decide) rfl ?_
      have z := lpX8_go1 (E := E) (x := nI n0) (t := t) (N := N) (Q := (q_is (some (q_bits (fun k => decide (q_gom N (n0 - t) σ 73 (8 * k + 6) = 64 * q_gom N (n0 - t) σ 75 0)) N)) q_SH (q_gom N (n0 - t) σ))) h6 hI hinv (N + 1) 0 σ (by omega) (by omega) hN ?_
      · exact z
      · have z := ih (t + 1) (q_tk2 N σ) (by omega) (by omega) (hinv2 σ hN)
        rw [show n0 - t = (n0 - (t + 1)) + 1 by omega]
        exact z

set_option maxHeartbeats 1000000 in
set_option maxRecDepth 100000 in
theorem kX8_go {σ : q_M} {N : Nat} {I : q_M → Prop} (hN : I σ) (h6 : N ≤ 6) (hI : ∀ τ, I τ → q_tok N τ) (hinv : ∀ τ j, j < N → I τ → I (q_tm τ j)) (hinv2 : ∀ τ, I τ → I (q_tk2 N τ)) {n0 : Nat} (h1 : 1 ≤ n0) (h9 : n0 ≤ 999) : q_Ct YX8_go [.ref 72, .int (nI n0)] q_SH σ (q_is (some (q_bits (fun k => decide (q_gom N n0 σ 73 (8 * k + 6) = 64 * q_gom N n0 σ 75 0)) N)) q_SH (q_gom N n0 σ)) := by
  refine q_ct (n := 2) (by decide) (by decide) rfl (fun _ => Nat.le_of_ble_eq_true rfl) (fun E => ?_)
  have hnt := nI_toInt (n := n0) (by omega)
  refine q_iload_n dX8_go_0 rfl ?_
  refine q_i2l dX8_go_1 ?_
  refine q_lconst (x := 1) dX8_go_2 (by decide) ?_
  refine q_ldc2 kX8_194 dX8_go_3 ?_
  refine q_cSi lX8_72 sX8_in dX8_go_6 (kX8_in (x := (nI n0)) (lo := 1) (hi := 999) (Int32.toInt_toInt64 _) rfl rfl) rfl rfl (Nat.le_of_ble_eq_true rfl) (by decide) ?_
  refine q_bne 14 dX8_go_9 (by decide) (fun h9x => ?_) (fun h9x => ?_)
  · refine q_iconst (x := 0) dX8_go_14 (by decide) ?_
    refine q_istore_n dX8_go_15 (by decide) rfl ?_
    exact lpX8_go2 h6 (by omega) hI hinv hinv2 (n0 + 1) 0 σ (by omega) (by omega) hN
  · exact absurd h9x (by rw [show q_win (nI n0) 1 999 = true from decide_eq_true (by have e2 : (1 : Int32).toInt = 1 := rfl; have e6 : (999 : Int32).toInt = 999 := rfl; omega)]; decide)

set_option maxHeartbeats 1000000 in
set_option maxRecDepth 100000 in
theorem kX8_goF {σ : q_M} {x : Int32} (hx : q_win x 1 999 = false) : q_Ct YX8_go [.ref 72, .int x] q_SH σ (q_is (some (-1)) q_SH σ) := by
  refine q_ct (n := 2) (by decide) (by decide) rfl (fun _ => Nat.le_of_ble_eq_true rfl) (fun E => ?_)
  refine q_iload_n dX8_go_0 rfl ?_
  refine q_i2l dX8_go_1 ?_
  refine q_lconst (x := 1) dX8_go_2 (by decide) ?_
  refine q_ldc2 kX8_194 dX8_go_3 ?_
  refine q_cSi lX8_72 sX8_in dX8_go_6 (kX8_in (x := x) (lo := 1) (hi := 999) (Int32.toInt_toInt64 _) rfl rfl) rfl rfl (Nat.le_of_ble_eq_true rfl) (by decide) ?_
  refine q_bne 14 dX8_go_9 (by decide) (fun h9 => ?_) (fun h9 => ?_)
  · exact absurd h9 (by rw [hx]; decide)
  · refine q_iconst (x := (-1)) dX8_go_12 (by decide) ?_
    refine q_ret dX8_go_13 ?_ rfl rfl
    exact ⟨rfl, rfl, rfl⟩

def q_lfm (σ : q_M) (j : Nat) : Nat → Int32
  | 0 => 999
  | n + 1 => if (-1 - q_wt (σ 75 1) (σ 75 4) (σ 75 5) (σ 73 (8 * j + 0)) (σ 73 (8 * j + 1)) (σ 73 49) (nI n) 0).toInt < (q_lfm σ j n).toInt then -1 - q_wt (σ 75 1) (σ 75 4) (σ 75 5) (σ 73 (8 * j + 0)) (σ 73 (8 * j + 1)) (σ 73 49) (nI n) 0 else q_lfm σ j n

set_option maxHeartbeats 1000000 in
set_option maxRecDepth 100000 in
theorem lpX8_lifts {E : q_E} {σ : q_M} {ar : Nat} (hA : σ 75 1 = nI ar) (hA1 : 1 ≤ ar) (hA2 : ar ≤ 100000) {H : Nat} (hH : σ 75 0 = nI H) (h200 : H ≤ 200) {j : Nat} (hj : j < 6) : ∀ (n : Nat) (i : Nat) (b : Int32), H + 1 + 1 ≤ i + n → i ≤ H + 1 → b = q_lfm σ j i → q_G YX8_lifts E 0 0 16 [some (.ref 72), some (.int (nI j)), some (.int b), some (.int (nI i)), none] [] q_SH σ (q_is (some (if (q_lfm σ j (H + 1)).toInt < 0 then -4 else q_lfm σ j (H + 1))) q_SH σ) := by
  intro n
  induction n with
  | zero =>
    intro i b hm h0 hb
    exact absurd hm (by omega)
  | succ n ih =>
    intro i b hm h0 hb
    have hi := nI_toInt (n := i) (by omega)
    have hHt := nI_toInt (n := H) (by omega)
    refine q_iload_n dX8_lifts_16 rfl ?_
    refine q_aload_n dX8_lifts_17 rfl ?_
    refine q_getr fX8_17 dX8_lifts_18 (by first | rfl | assumption) (by rfl) ?_
    refine q_iconst (x := 0) dX8_lifts_21 (by decide) ?_
    refine q_ild 0 (by first | rfl | assumption) rfl (by decide) dX8_lifts_22 ?_
    rw [hH]
    refine q_cgt 74 dX8_lifts_23 (by decide) (fun h23 => ?_) (fun h23 => ?_)
    · refine q_iload_n dX8_lifts_74 rfl ?_
      refine q_zge 83 dX8_lifts_75 (by decide) (fun h75 => ?_) (fun h75 => ?_)
      · have hq : ¬ b.toInt < 0 := by omega
        refine q_iload_n dX8_lifts_83 rfl ?_
        refine q_ret dX8_lifts_84 ?_ rfl rfl
        have e : i = H + 1 := by omega
        exact ⟨congrArg some (by rw [← e, ← hb]; first | rw [if_neg hq] | rw [if_pos h75]), rfl, rfl⟩
      · refine q_bipush (x := (-4)) dX8_lifts_78 (by decide) ?_
        refine q_goto 84 dX8_lifts_80 (by decide) ?_
        refine q_ret dX8_lifts_84 ?_ rfl rfl
        have e : i = H + 1 := by omega
        exact ⟨congrArg some (by rw [← e, ← hb]; first | rw [if_neg hq] | rw [if_pos h75]), rfl, rfl⟩
    · refine q_iconst (x := (-1)) dX8_lifts_26 (by decide) ?_
      refine q_aload_n dX8_lifts_27 rfl ?_
      refine q_aload_n dX8_lifts_28 rfl ?_
      refine q_iload_n dX8_lifts_29 rfl ?_
      refine q_iconst (x := 0) dX8_lifts_30 (by decide) ?_
      refine q_cVi lX8_153 vX8_of (ci := 8) rfl dX8_lifts_31 (kX8_of (w := 0) hj (by decide)) (by first | rfl | assumption) rfl rfl (Nat.le_of_ble_eq_true rfl) (by decide) ?_
      refine q_aload_n dX8_lifts_34 rfl ?_
      refine q_iload_n dX8_lifts_35 rfl ?_
      refine q_iconst (x := 1) dX8_lifts_36 (by decide) ?_
      refine q_cVi lX8_153 vX8_of (ci := 8) rfl dX8_lifts_37 (kX8_of (w := 1) hj (by decide)) (by first | rfl | assumption) rfl rfl (Nat.le_of_ble_eq_true rfl) (by decide) ?_
      refine q_aload_n dX8_lifts_40 rfl ?_
      refine q_getr fX8_7 dX8_lifts_41 (by first | rfl | assumption) (by rfl) ?_
      refine q_bipush (x := 49) dX8_lifts_44 (by decide) ?_
      refine q_ild 49 (by first | rfl | assumption) rfl (by decide) dX8_lifts_46 ?_
      refine q_iconst (x := 0) dX8_lifts_47 (by decide) ?_
      refine q_iload_n dX8_lifts_48 rfl ?_
      refine q_cVi lX8_159 vX8_weight (ci := 8) rfl dX8_lifts_49 (kX8_weight (th := 0) (q_pr (t := 0) (d := i) hA hA1 hA2 (by omega) (by omega))) (by first | rfl | assumption) rfl rfl (Nat.le_of_ble_eq_true rfl) (by decide) ?_
      refine q_isub dX8_lifts_52 ?_
      refine q_topi (fun rm erm => ?_)
      refine q_istore dX8_lifts_53 (by decide) rfl ?_
      refine q_iload dX8_lifts_55 rfl ?_
      refine q_iload_n dX8_lifts_57 rfl ?_
      refine q_cge 66 dX8_lifts_58 (by decide) (fun h58 => ?_) (fun h58 => ?_)
      · have hs : q_lfm σ j (i + 1) = b := by rw [q_lfm, ← erm, ← hb, if_neg (by omega)]
        refine q_iload_n dX8_lifts_66 rfl ?_
        refine q_istore_n dX8_lifts_67 (by decide) rfl ?_
        refine q_inc 1 dX8_lifts_68 (by decide) rfl (by decide) rfl ?_
        refine q_goto 16 dX8_lifts_71 (by decide) ?_
        rw [nI_1]
        refine q_lset 4 ?_
        exact ih (i + 1) _ (by omega) (by omega) hs.symm
      · have hs : q_lfm σ j (i + 1) = rm := by rw [q_lfm, ← erm, ← hb, if_pos h58]
        refine q_iload dX8_lifts_61 rfl ?_
        refine q_goto 67 dX8_lifts_63 (by decide) ?_
        refine q_istore_n dX8_lifts_67 (by decide) rfl ?_
        refine q_inc 1 dX8_lifts_68 (by decide) rfl (by decide) rfl ?_
        refine q_goto 16 dX8_lifts_71 (by decide) ?_
        rw [nI_1]
        refine q_lset 4 ?_
        exact ih (i + 1) _ (by omega) (by omega) hs.symm

set_option maxHeartbeats 1000000 in
set_option maxRecDepth 100000 in
theorem kX8_liftsB {σ : q_M} {k : Int32} (hbad : q_win k 0 (σ 73 53 - 1) = false) : q_Ct YX8_lifts [.ref 72, .int k] q_SH σ (q_is (some (-1)) q_SH σ) := by
  refine q_ct (n := 3) (by decide) (by decide) rfl (fun _ => Nat.le_of_ble_eq_true rfl) (fun E => ?_)
  refine q_aload_n dX8_lifts_0 rfl ?_
  refine q_iload_n dX8_lifts_1 rfl ?_
  refine q_cVi lX8_163 vX8_isDiver (ci := 8) rfl dX8_lifts_2 kX8_isDiver (by first | rfl | assumption) rfl rfl (Nat.le_of_ble_eq_true rfl) (by decide) ?_
  refine q_bne 10 dX8_lifts_5 (by decide) (fun h5 => ?_) (fun h5 => ?_)
  · exact absurd hbad (by rw [h5]; decide)
  · refine q_iconst (x := (-1)) dX8_lifts_8 (by decide) ?_
    refine q_ret dX8_lifts_9 ?_ rfl rfl
    exact ⟨rfl, rfl, rfl⟩

set_option maxHeartbeats 1000000 in
set_option maxRecDepth 100000 in
theorem kX8_lifts {σ : q_M} {ar : Nat} (hA : σ 75 1 = nI ar) (hA1 : 1 ≤ ar) (hA2 : ar ≤ 100000) {H : Nat} (hH : σ 75 0 = nI H) (h200 : H ≤ 200) {j : Nat} (hj : j < 6) (hk : q_win (nI j) 0 (σ 73 53 - 1) = true) : q_Ct YX8_lifts [.ref 72, .int (nI j)] q_SH σ (q_is (some (if (q_lfm σ j (H + 1)).toInt < 0 then -4 else q_lfm σ j (H + 1))) q_SH σ) := by
  refine q_ct (n := 3) (by decide) (by decide) rfl (fun _ => Nat.le_of_ble_eq_true rfl) (fun E => ?_)
  refine q_aload_n dX8_lifts_0 rfl ?_
  refine q_iload_n dX8_lifts_1 rfl ?_
  refine q_cVi lX8_163 vX8_isDiver (ci := 8) rfl dX8_lifts_2 kX8_isDiver (by first | rfl | assumption) rfl rfl (Nat.le_of_ble_eq_true rfl) (by decide) ?_
  refine q_bne 10 dX8_lifts_5 (by decide) (fun h5 => ?_) (fun h5 => ?_)
  · refine q_sipush (x := 999) dX8_lifts_10 (by decide) ?_
    refine q_istore_n dX8_lifts_13 (by decide) rfl ?_
    refine q_iconst (x := 0) dX8_lifts_14 (by decide) ?_
    refine q_istore_n dX8_lifts_15 (by decide) rfl ?_
    exact lpX8_lifts hA hA1 hA2 hH h200 hj (H + 2) 0 999 (by omega) (by omega) rfl
  · exact absurd hk (by rw [h5]; decide)

def q_ra2 (σ : q_M) (k o : Nat) : Bool := decide ((q_rk σ o).toInt < (q_rk σ k).toInt)
def q_sb (p : Nat → Bool) : Nat → Int32
  | 0 => 0
  | n + 1 => q_sb p n + q_b (p n)
def q_oo (p : Nat → Bool) : Nat → Int32
  | 0 => -1
  | n + 1 => if p n then nI n else q_oo p n

set_option maxHeartbeats 1000000 in
set_option maxRecDepth 100000 in
theorem lpX8_ord1 {E : q_E} {σ : q_M} {ar : Nat} (hA : σ 75 1 = nI ar) (hA1 : 1 ≤ ar) (hA2 : ar ≤ 100000) {N : Nat} (hN : σ 73 53 = nI N) (h6 : N ≤ 6) {x f : Int32} {Q : q_P} {k : Nat} (hk : k < N) (K : q_G YX8_order E 0 0 4 [some (.ref 72), some (.int x), some (.int (if q_sb (q_ra2 σ k) N = x then nI k else f)), some (.int (nI (k + 1))), none, none] [] q_SH σ Q) : ∀ (n : Nat) (i : Nat) (a : Int32), N + 1 ≤ i + n → i ≤ N → a = q_sb (q_ra2 σ k) i → q_G YX8_order E 0 0 21 [some (.ref 72), some (.int x), some (.int f), some (.int (nI k)), some (.int a), some (.int (nI i))] [] q_SH σ Q := by
  intro n
  induction n with
  | zero =>
    intro i a hm h0 ha
    exact absurd hm (by omega)
  | succ n ih =>
    intro i a hm h0 ha
    have hi := nI_toInt (n := i) (by omega)
    have hNt := nI_toInt (n := N) (by omega)
    refine q_iload dX8_order_21 rfl ?_
    refine q_aload_n dX8_order_23 rfl ?_
    refine q_getr fX8_7 dX8_order_24 (by first | rfl | assumption) (by rfl) ?_
    refine q_bipush (x := 53) dX8_order_27 (by decide) ?_
    refine q_ild 53 (by first | rfl | assumption) rfl (by decide) dX8_order_29 ?_
    rw [hN]
    refine q_cge 66 dX8_order_30 (by decide) (fun h30 => ?_) (fun h30 => ?_)
    · refine q_iload dX8_order_66 rfl ?_
      refine q_iload_n dX8_order_68 rfl ?_
      have e : i = N := by omega
      subst e
      refine q_icmp_ne 76 dX8_order_69 (by decide) (fun h69 => ?_) (fun h69 => ?_)
      · rw [if_neg (by rw [← ha]; exact h69)] at K
        refine q_iload_n dX8_order_76 rfl ?_
        refine q_istore_n dX8_order_77 (by decide) rfl ?_
        refine q_inc 1 dX8_order_78 (by decide) rfl (by decide) rfl ?_
        refine q_goto 4 dX8_order_81 (by decide) ?_
        rw [nI_1]
        have z := K
        refine q_lz z ?_
        exact ⟨rfl, rfl, rfl, rfl, trivial⟩
      · rw [if_pos (by rw [← ha]; exact h69)] at K
        refine q_iload_n dX8_order_72 rfl ?_
        refine q_goto 77 dX8_order_73 (by decide) ?_
        refine q_istore_n dX8_order_77 (by decide) rfl ?_
        refine q_inc 1 dX8_order_78 (by decide) rfl (by decide) rfl ?_
        refine q_goto 4 dX8_order_81 (by decide) ?_
        rw [nI_1]
        have z := K
        refine q_lz z ?_
        exact ⟨rfl, rfl, rfl, rfl, trivial⟩
    · refine q_iload dX8_order_33 rfl ?_
      refine q_aload_n dX8_order_35 rfl ?_
      refine q_iload dX8_order_36 rfl ?_
      refine q_cVi lX8_211 vX8_rankOf (ci := 8) rfl dX8_order_38 (kX8_rankOf hA hA1 hA2 (by omega)) (by first | rfl | assumption) rfl rfl (Nat.le_of_ble_eq_true rfl) (by decide) ?_
      refine q_aload_n dX8_order_41 rfl ?_
      refine q_iload_n dX8_order_42 rfl ?_
      refine q_cVi lX8_211 vX8_rankOf (ci := 8) rfl dX8_order_43 (kX8_rankOf hA hA1 hA2 (by omega)) (by first | rfl | assumption) rfl rfl (Nat.le_of_ble_eq_true rfl) (by decide) ?_
      refine q_cge 53 dX8_order_46 (by decide) (fun h46 => ?_) (fun h46 => ?_)
      · have hp : q_ra2 σ k i = false := decide_eq_false (by omega)
        refine q_iconst (x := 0) dX8_order_53 (by decide) ?_
        refine q_cSi lX8_63 sX8_flag dX8_order_54 kX8_flag rfl rfl (Nat.le_of_ble_eq_true rfl) (by decide) ?_
        first
          | rw [show q_b (q_t 1) = q_b (q_ra2 σ k i) by rw [hp]; rfl]
          | rw [show q_b (q_t 0) = q_b (q_ra2 σ k i) by rw [hp]; rfl]
        refine q_iadd dX8_order_57 ?_
        refine q_istore dX8_order_58 (by decide) rfl ?_
        refine q_inc 1 dX8_order_60 (by decide) rfl (by decide) rfl ?_
        refine q_goto 21 dX8_order_63 (by decide) ?_
        rw [nI_1]
        exact ih (i + 1) _ (by omega) (by omega) (by rw [q_sb, ha])
      · have hp : q_ra2 σ k i = true := decide_eq_true h46
        refine q_iconst (x := 1) dX8_order_49 (by decide) ?_
        refine q_goto 54 dX8_order_50 (by decide) ?_
        refine q_cSi lX8_63 sX8_flag dX8_order_54 kX8_flag rfl rfl (Nat.le_of_ble_eq_true rfl) (by decide) ?_
        first
          | rw [show q_b (q_t 1) = q_b (q_ra2 σ k i) by rw [hp]; rfl]
          | rw [show q_b (q_t 0) = q_b (q_ra2 σ k i) by rw [hp]; rfl]
        refine q_iadd dX8_order_57 ?_
        refine q_istore dX8_order_58 (by decide) rfl ?_
        refine q_inc 1 dX8_order_60 (by decide) rfl (by decide) rfl ?_
        refine q_goto 21 dX8_order_63 (by decide) ?_
        rw [nI_1]
        exact ih (i + 1) _ (by omega) (by omega) (by rw [q_sb, ha])

set_option maxHeartbeats 1000000 in
set_option maxRecDepth 100000 in
theorem lpX8_ord2 {E : q_E} {σ : q_M} {ar : Nat} (hA : σ 75 1 = nI ar) (hA1 : 1 ≤ ar) (hA2 : ar ≤ 100000) {N : Nat} (hN : σ 73 53 = nI N) (h6 : N ≤ 6) {x : Int32} : ∀ (n : Nat) (i : Nat) (f : Int32), N + 1 ≤ i + n → i ≤ N → f = q_oo (fun k => decide (q_sb (q_ra2 σ k) N = x)) i → q_G YX8_order E 0 0 4 [some (.ref 72), some (.int x), some (.int f), some (.int (nI i)), none, none] [] q_SH σ (q_is (some (q_oo (fun k => decide (q_sb (q_ra2 σ k) N = x)) N)) q_SH σ) := by
  intro n
  induction n with
  | zero =>
    intro i f hm h0 hf
    exact absurd hm (by omega)
  | succ n ih =>
    intro i f hm h0 hf
    have hi := nI_toInt (n := i) (by omega)
    have hNt := nI_toInt (n := N) (by omega)
    refine q_iload_n dX8_order_4 rfl ?_
    refine q_aload_n dX8_order_5 rfl ?_
    refine q_getr fX8_7 dX8_order_6 (by first | rfl | assumption) (by rfl) ?_
    refine q_bipush (x := 53) dX8_order_9 (by decide) ?_
    refine q_ild 53 (by first | rfl | assumption) rfl (by decide) dX8_order_11 ?_
    rw [hN]
    refine q_cge 84 dX8_order_12 (by decide) (fun h12 => ?_) (fun h12 => ?_)
    · refine q_iload_n dX8_order_84 rfl ?_
      refine q_ret dX8_order_85 ?_ rfl rfl
      have e : i = N := by omega
      exact ⟨congrArg some (by rw [hf, e]), rfl, rfl⟩
    · refine q_iconst (x := 0) dX8_order_15 (by decide) ?_
      refine q_istore dX8_order_16 (by decide) rfl ?_
      refine q_iconst (x := 0) dX8_order_18 (by decide) ?_
      refine q_istore dX8_order_19 (by decide) rfl ?_
      refine lpX8_ord1 hA hA1 hA2 hN h6 (by omega) ?_ (N + 1) 0 0 (by omega) (by omega) rfl
      exact ih (i + 1) _ (by omega) (by omega) (by rw [q_oo, hf]; simp only [decide_eq_true_eq])

set_option maxHeartbeats 1000000 in
set_option maxRecDepth 100000 in
theorem kX8_order {σ : q_M} {ar : Nat} (hA : σ 75 1 = nI ar) (hA1 : 1 ≤ ar) (hA2 : ar ≤ 100000) {N : Nat} (hN : σ 73 53 = nI N) (h6 : N ≤ 6) {x : Int32} : q_Ct YX8_order [.ref 72, .int x] q_SH σ (q_is (some (q_oo (fun k => decide (q_sb (q_ra2 σ k) N = x)) N)) q_SH σ) := by
  refine q_ct (n := 4) (by decide) (by decide) rfl (fun _ => Nat.le_of_ble_eq_true rfl) (fun E => ?_)
  refine q_iconst (x := (-1)) dX8_order_0 (by decide) ?_
  refine q_istore_n dX8_order_1 (by decide) rfl ?_
  refine q_iconst (x := 0) dX8_order_2 (by decide) ?_
  refine q_istore_n dX8_order_3 (by decide) rfl ?_
  exact lpX8_ord2 hA hA1 hA2 hN h6 (N + 1) 0 (-1) (by omega) (by omega) rfl

def q_as2 (σ : q_M) (k o : Nat) (l : Int32) : Int32 := if q_gm σ k = -4 ∨ q_gm σ o = -4 then l else if l = -4 ∨ (q_abs (q_gm σ k - q_gm σ o)).toInt < l.toInt then q_abs (q_gm σ k - q_gm σ o) else l
def q_ai2 (σ : q_M) (k : Nat) : Nat → Int32 → Int32
  | 0, l => l
  | m + 1, l => q_ai2 σ k m (q_as2 σ k (k - (m + 1)) l)
def q_ao2 (σ : q_M) (N : Nat) : Nat → Int32 → Int32
  | 0, l => l
  | m + 1, l => q_ao2 σ N m (q_ai2 σ (N - (m + 1)) (N - (m + 1)) l)

set_option maxHeartbeats 1000000 in
set_option maxRecDepth 100000 in
theorem lpX8_apart1 {E : q_E} {σ : q_M} {ar : Nat} (hA : σ 75 1 = nI ar) (hA1 : 1 ≤ ar) (hA2 : ar ≤ 100000) {N : Nat} (hN : σ 73 53 = nI N) (h6 : N ≤ 6) {Q : q_P} {k : Nat} (hk : k < N) : ∀ (n : Nat) (i : Nat) (l : Int32), k + 1 ≤ i + n → i ≤ k → q_G YX8_apart E 0 0 5 [some (.ref 72), some (.int (q_ai2 σ k (k - i) l)), some (.int (nI (k + 1))), none, none, none, none] [] q_SH σ Q → q_G YX8_apart E 0 0 18 [some (.ref 72), some (.int l), some (.int (nI k)), some (.int (nI i)), none, none, none] [] q_SH σ Q := by
  intro n
  induction n with
  | zero =>
    intro i l hm h0 K
    exact absurd hm (by omega)
  | succ n ih =>
    intro i l hm h0 K
    have hi := nI_toInt (n := i) (by omega)
    have hkt := nI_toInt (n := k) (by omega)
    refine q_iload_n dX8_apart_18 rfl ?_
    refine q_iload_n dX8_apart_19 rfl ?_
    refine q_cge 86 dX8_apart_20 (by decide) (fun h20 => ?_) (fun h20 => ?_)
    · have e : k - i = 0 := by omega
      rw [e] at K
      refine q_inc 1 dX8_apart_86 (by decide) rfl (by decide) rfl ?_
      refine q_goto 5 dX8_apart_89 (by decide) ?_
      rw [nI_1]
      have z := K
      refine q_lz z ?_
      exact ⟨rfl, rfl, rfl, trivial⟩
    · refine q_aload_n dX8_apart_23 rfl ?_
      refine q_iload_n dX8_apart_24 rfl ?_
      refine q_cVi lX8_208 vX8_goesOf (ci := 8) rfl dX8_apart_25 (kX8_goesOf hA hA1 hA2 (by omega)) (by first | rfl | assumption) rfl rfl (Nat.le_of_ble_eq_true rfl) (by decide) ?_
      refine q_topi (fun ga ega => ?_)
      refine q_istore dX8_apart_28 (by decide) rfl ?_
      refine q_aload_n dX8_apart_30 rfl ?_
      refine q_iload_n dX8_apart_31 rfl ?_
      refine q_cVi lX8_208 vX8_goesOf (ci := 8) rfl dX8_apart_32 (kX8_goesOf hA hA1 hA2 (by omega)) (by first | rfl | assumption) rfl rfl (Nat.le_of_ble_eq_true rfl) (by decide) ?_
      refine q_topi (fun gb egb => ?_)
      refine q_istore dX8_apart_35 (by decide) rfl ?_
      refine q_iload dX8_apart_37 rfl ?_
      refine q_iload dX8_apart_39 rfl ?_
      refine q_isub dX8_apart_41 ?_
      refine q_cSi lX8_214 sX8_size dX8_apart_42 kX8_size rfl rfl (Nat.le_of_ble_eq_true rfl) (by decide) ?_
      refine q_topi (fun dd edd => ?_)
      refine q_istore dX8_apart_45 (by decide) rfl ?_
      refine q_iload dX8_apart_47 rfl ?_
      refine q_bipush (x := (-4)) dX8_apart_49 (by decide) ?_
      refine q_icmp_eq 78 dX8_apart_51 (by decide) (fun h51 => ?_) (fun h51 => ?_)
      · have hs : q_as2 σ k i l = l := by rw [q_as2, if_pos (Or.inl (by rw [← ega]; exact h51))]
        refine q_iload_n dX8_apart_78 rfl ?_
        refine q_istore_n dX8_apart_79 (by decide) rfl ?_
        refine q_inc 1 dX8_apart_80 (by decide) rfl (by decide) rfl ?_
        refine q_goto 18 dX8_apart_83 (by decide) ?_
        rw [nI_1]
        rw [show k - i = (k - (i + 1)) + 1 by omega, q_ai2, show k - (k - (i + 1) + 1) = i by omega] at K
        rw [← hs]
        have z := ih (i + 1) (q_as2 σ k i l) (by omega) (by omega) K
        refine q_lz z ?_
        exact ⟨rfl, rfl, rfl, rfl, trivial⟩
      · refine q_iload dX8_apart_54 rfl ?_
        refine q_bipush (x := (-4)) dX8_apart_56 (by decide) ?_
        refine q_icmp_eq 78 dX8_apart_58 (by decide) (fun h58 => ?_) (fun h58 => ?_)
        · have hs : q_as2 σ k i l = l := by rw [q_as2, if_pos (Or.inr (by rw [← egb]; exact h58))]
          refine q_iload_n dX8_apart_78 rfl ?_
          refine q_istore_n dX8_apart_79 (by decide) rfl ?_
          refine q_inc 1 dX8_apart_80 (by decide) rfl (by decide) rfl ?_
          refine q_goto 18 dX8_apart_83 (by decide) ?_
          rw [nI_1]
          rw [show k - i = (k - (i + 1)) + 1 by omega, q_ai2, show k - (k - (i + 1) + 1) = i by omega] at K
          rw [← hs]
          have z := ih (i + 1) (q_as2 σ k i l) (by omega) (by omega) K
          refine q_lz z ?_
          exact ⟨rfl, rfl, rfl, rfl, trivial⟩
        · refine q_iload_n dX8_apart_61 rfl ?_
          refine q_bipush (x := (-4)) dX8_apart_62 (by decide) ?_
          refine q_icmp_eq 73 dX8_apart_64 (by decide) (fun h64 => ?_) (fun h64 => ?_)
          · have hs : q_as2 σ k i l = dd := by rw [q_as2, ← ega, ← egb, if_neg (by simp [h51, h58]), ← edd, if_pos (Or.inl h64)]
            refine q_iload dX8_apart_73 rfl ?_
            refine q_goto 79 dX8_apart_75 (by decide) ?_
            refine q_istore_n dX8_apart_79 (by decide) rfl ?_
            refine q_inc 1 dX8_apart_80 (by decide) rfl (by decide) rfl ?_
            refine q_goto 18 dX8_apart_83 (by decide) ?_
            rw [nI_1]
            rw [show k - i = (k - (i + 1)) + 1 by omega, q_ai2, show k - (k - (i + 1) + 1) = i by omega] at K
            rw [← hs]
            have z := ih (i + 1) (q_as2 σ k i l) (by omega) (by omega) K
            refine q_lz z ?_
            exact ⟨rfl, rfl, rfl, rfl, trivial⟩
          · refine q_iload dX8_apart_67 rfl ?_
            refine q_iload_n dX8_apart_69 rfl ?_
            refine q_cge 78 dX8_apart_70 (by decide) (fun h70 => ?_) (fun h70 => ?_)
            · have hs : q_as2 σ k i l = l := by rw [q_as2, ← ega, ← egb, if_neg (by simp [h51, h58]), ← edd, if_neg (by simp [h64]; omega)]
              refine q_iload_n dX8_apart_78 rfl ?_
              refine q_istore_n dX8_apart_79 (by decide) rfl ?_
              refine q_inc 1 dX8_apart_80 (by decide) rfl (by decide) rfl ?_
              refine q_goto 18 dX8_apart_83 (by decide) ?_
              rw [nI_1]
              rw [show k - i = (k - (i + 1)) + 1 by omega, q_ai2, show k - (k - (i + 1) + 1) = i by omega] at K
              rw [← hs]
              have z := ih (i + 1) (q_as2 σ k i l) (by omega) (by omega) K
              refine q_lz z ?_
              exact ⟨rfl, rfl, rfl, rfl, trivial⟩
            · have hs : q_as2 σ k i l = dd := by rw [q_as2, ← ega, ← egb, if_neg (by simp [h51, h58]), ← edd, if_pos (Or.inr h70)]
              refine q_iload dX8_apart_73 rfl ?_
              refine q_goto 79 dX8_apart_75 (by decide) ?_
              refine q_istore_n dX8_apart_79 (by decide) rfl ?_
              refine q_inc 1 dX8_apart_80 (by decide) rfl (by decide) rfl ?_
              refine q_goto 18 dX8_apart_83 (by decide) ?_
              rw [nI_1]
              rw [show k - i = (k - (i + 1)) + 1 by omega, q_ai2, show k - (k - (i + 1) + 1) = i by omega] at K
              rw [← hs]
              have z := ih (i + 1) (q_as2 σ k i l) (by omega) (by omega) K
              refine q_lz z ?_
              exact ⟨rfl, rfl, rfl, rfl, trivial⟩

set_option maxHeartbeats 1000000 in
set_option maxRecDepth 100000 in
theorem lpX8_apart2 {E : q_E} {σ : q_M} {ar : Nat} (hA : σ 75 1 = nI ar) (hA1 : 1 ≤ ar) (hA2 : ar ≤ 100000) {N : Nat} (hN : σ 73 53 = nI N) (h6 : N ≤ 6) : ∀ (n : Nat) (i : Nat) (l : Int32), N + 1 ≤ i + n → i ≤ N → q_G YX8_apart E 0 0 5 [some (.ref 72), some (.int l), some (.int (nI i)), none, none, none, none] [] q_SH σ (q_is (some (q_ao2 σ N (N - i) l)) q_SH σ) := by
  intro n
  induction n with
  | zero =>
    intro i l hm h0
    exact absurd hm (by omega)
  | succ n ih =>
    intro i l hm h0
    have hi := nI_toInt (n := i) (by omega)
    have hNt := nI_toInt (n := N) (by omega)
    refine q_iload_n dX8_apart_5 rfl ?_
    refine q_aload_n dX8_apart_6 rfl ?_
    refine q_getr fX8_7 dX8_apart_7 (by first | rfl | assumption) (by rfl) ?_
    refine q_bipush (x := 53) dX8_apart_10 (by decide) ?_
    refine q_ild 53 (by first | rfl | assumption) rfl (by decide) dX8_apart_12 ?_
    rw [hN]
    refine q_cge 92 dX8_apart_13 (by decide) (fun h13 => ?_) (fun h13 => ?_)
    · have e : N - i = 0 := by omega
      rw [e]
      refine q_iload_n dX8_apart_92 rfl ?_
      refine q_ret dX8_apart_93 ?_ rfl rfl
      exact ⟨rfl, rfl, rfl⟩
    · refine q_iconst (x := 0) dX8_apart_16 (by decide) ?_
      refine q_istore_n dX8_apart_17 (by decide) rfl ?_
      refine lpX8_apart1 hA hA1 hA2 hN h6 (by omega) (i + 1) 0 l (by omega) (by omega) ?_
      have z := ih (i + 1) (q_ai2 σ i (i - 0) l) (by omega) (by omega)
      rw [show N - i = (N - (i + 1)) + 1 by omega, q_ao2, show N - (N - (i + 1) + 1) = i by omega]
      exact z

set_option maxHeartbeats 1000000 in
set_option maxRecDepth 100000 in
theorem kX8_apart {σ : q_M} {ar : Nat} (hA : σ 75 1 = nI ar) (hA1 : 1 ≤ ar) (hA2 : ar ≤ 100000) {N : Nat} (hN : σ 73 53 = nI N) (h6 : N ≤ 6) : q_Ct YX8_apart [.ref 72] q_SH σ (q_is (some (q_ao2 σ N N (-4))) q_SH σ) := by
  refine q_ct (n := 6) (by decide) (by decide) rfl (fun _ => Nat.le_of_ble_eq_true rfl) (fun E => ?_)
  refine q_bipush (x := (-4)) dX8_apart_0 (by decide) ?_
  refine q_istore_n dX8_apart_2 (by decide) rfl ?_
  refine q_iconst (x := 0) dX8_apart_3 (by decide) ?_
  refine q_istore_n dX8_apart_4 (by decide) rfl ?_
  exact lpX8_apart2 hA hA1 hA2 hN h6 (N + 1) 0 (-4) (by omega) (by omega)
