/-! what DiverBottle answers: order, spread, holds -/

def q_ah (σ : q_M) (j i : Nat) : Bool := if q_th σ (23 + j) = q_th σ (23 + i) then decide (j < i) else (decide (q_th σ (23 + i) = -4) || (decide (¬ q_th σ (23 + j) = -4) && decide ((q_th σ (23 + j)).toInt < (q_th σ (23 + i)).toInt)))
def q_aw (σ : q_M) (k o : Nat) : Bool := decide (¬ o = k) && q_ah σ o k
def q_fsd (p : Nat → Bool) (n : Nat) : Nat → Int32
  | 0 => -1
  | k + 1 => if p (n - (k + 1)) then nI (n - (k + 1)) else q_fsd p n k

set_option maxHeartbeats 1000000 in
set_option maxRecDepth 100000 in
theorem lpX7_ahead {E : q_E} {σ : q_M} {N : Nat} (hN : σ 17 2 = nI N) (h6 : N ≤ 6) {k : Nat} (hk : k < 6) : ∀ (n : Nat) (i : Nat) (b : Int32), N + 1 ≤ i + n → i ≤ N → b = q_cnt (q_aw σ k) i → q_G YX7_diversAhead E 0 0 4 [some (.ref 0), some (.int (nI k)), some (.int b), some (.int (nI i))] [] q_SH σ (q_is (some (q_cnt (q_aw σ k) N)) q_SH σ) := by
  intro n
  induction n with
  | zero =>
    intro i b hm h0 hb
    exact absurd hm (by omega)
  | succ n ih =>
    intro i b hm h0 hb
    have hi := nI_toInt (n := i) (by omega)
    have hNt := nI_toInt (n := N) (by omega)
    have hkt := nI_toInt (n := k) (by omega)
    refine q_iload_n dX7_diversAhead_4 rfl ?_
    refine q_aload_n dX7_diversAhead_5 rfl ?_
    refine q_getr fX7_26 dX7_diversAhead_6 (by first | rfl | assumption) (by rfl) ?_
    refine q_get fX7_173 dX7_diversAhead_9 (by first | rfl | assumption) (by rfl) ?_
    rw [hN]
    refine q_cge 38 dX7_diversAhead_12 (by decide) (fun h12 => ?_) (fun h12 => ?_)
    · refine q_iload_n dX7_diversAhead_38 rfl ?_
      refine q_ret dX7_diversAhead_39 ?_ rfl rfl
      have e : i = N := by omega
      exact ⟨congrArg some (by rw [hb, e]), rfl, rfl⟩
    · refine q_iload_n dX7_diversAhead_15 rfl ?_
      refine q_iload_n dX7_diversAhead_16 rfl ?_
      refine q_icmp_eq 32 dX7_diversAhead_17 (by decide) (fun h17 => ?_) (fun h17 => ?_)
      · have hp : q_aw σ k i = false := by simp [q_aw, (nI_eq (by omega) (by omega)).mp h17]
        refine q_inc 1 dX7_diversAhead_32 (by decide) rfl (by decide) rfl ?_
        refine q_goto 4 dX7_diversAhead_35 (by decide) ?_
        first | rw [nI_1] | skip
        exact ih (i + 1) _ (by omega) (by omega) (by rw [q_cnt, hp, hb]; rfl)
      · have hne : ¬ i = k := fun e => h17 (by rw [e])
        refine q_aload_n dX7_diversAhead_20 rfl ?_
        refine q_iload_n dX7_diversAhead_21 rfl ?_
        refine q_iload_n dX7_diversAhead_22 rfl ?_
        refine q_cVi lX7_363 vX7_isAhead (ci := 7) rfl dX7_diversAhead_23 (kX7_isAhead hi (by omega) hkt hk) (by first | rfl | assumption) rfl rfl (Nat.le_of_ble_eq_true rfl) (by decide) ?_
        change q_G _ _ _ _ _ _ (.int (q_b (q_ah σ i k)) :: _) _ _ _
        refine q_beq 32 dX7_diversAhead_26 (by decide) (fun h26 => ?_) (fun h26 => ?_)
        · have hp : q_aw σ k i = false := by simp [q_aw, h26]
          refine q_inc 1 dX7_diversAhead_32 (by decide) rfl (by decide) rfl ?_
          refine q_goto 4 dX7_diversAhead_35 (by decide) ?_
          first | rw [nI_1] | skip
          exact ih (i + 1) _ (by omega) (by omega) (by rw [q_cnt, hp, hb]; rfl)
        · have hp : q_aw σ k i = true := by simp [q_aw, h26, hne]
          refine q_inc 1 dX7_diversAhead_29 (by decide) rfl (by decide) rfl ?_
          refine q_inc 1 dX7_diversAhead_32 (by decide) rfl (by decide) rfl ?_
          refine q_goto 4 dX7_diversAhead_35 (by decide) ?_
          first | rw [nI_1] | skip
          exact ih (i + 1) _ (by omega) (by omega) (by rw [q_cnt, hp, hb]; rfl)

set_option maxHeartbeats 1000000 in
set_option maxRecDepth 100000 in
theorem kX7_diversAhead {σ : q_M} {N : Nat} (hN : σ 17 2 = nI N) (h6 : N ≤ 6) {k : Nat} (hk : k < 6) : q_Ct YX7_diversAhead [.ref 0, .int (nI k)] q_SH σ (q_is (some (q_cnt (q_aw σ k) N)) q_SH σ) := by
  refine q_ct (n := 2) (by decide) (by decide) rfl (fun _ => Nat.le_of_ble_eq_true rfl) (fun E => ?_)
  refine q_iconst (x := 0) dX7_diversAhead_0 (by decide) ?_
  refine q_istore_n dX7_diversAhead_1 (by decide) rfl ?_
  refine q_iconst (x := 0) dX7_diversAhead_2 (by decide) ?_
  refine q_istore_n dX7_diversAhead_3 (by decide) rfl ?_
  exact lpX7_ahead hN h6 hk (N + 1) 0 0 (by omega) (by omega) rfl

set_option maxHeartbeats 1000000 in
set_option maxRecDepth 100000 in
theorem lpX7_order {E : q_E} {σ : q_M} {N : Nat} (hN : σ 17 2 = nI N) (h6 : N ≤ 6) {x : Int32} : ∀ (n : Nat) (i : Nat), N + 1 ≤ i + n → i ≤ N → q_G YX7_order E 0 0 2 [some (.ref 0), some (.int x), some (.int (nI i))] [] q_SH σ (q_is (some (q_fsd (fun k => decide (q_cnt (q_aw σ k) N = x)) N (N - i))) q_SH σ) := by
  intro n
  induction n with
  | zero =>
    intro i hm h0
    exact absurd hm (by omega)
  | succ n ih =>
    intro i hm h0
    have hi := nI_toInt (n := i) (by omega)
    have hNt := nI_toInt (n := N) (by omega)
    refine q_iload_n dX7_order_2 rfl ?_
    refine q_aload_n dX7_order_3 rfl ?_
    refine q_getr fX7_26 dX7_order_4 (by first | rfl | assumption) (by rfl) ?_
    refine q_get fX7_173 dX7_order_7 (by first | rfl | assumption) (by rfl) ?_
    rw [hN]
    refine q_cge 30 dX7_order_10 (by decide) (fun h10 => ?_) (fun h10 => ?_)
    · refine q_iconst (x := (-1)) dX7_order_30 (by decide) ?_
      refine q_ret dX7_order_31 ?_ rfl rfl
      exact ⟨congrArg some (by rw [show N - i = 0 by omega]; rfl), rfl, rfl⟩
    · refine q_aload_n dX7_order_13 rfl ?_
      refine q_iload_n dX7_order_14 rfl ?_
      refine q_cVi lX7_204 vX7_diversAhead (ci := 7) rfl dX7_order_15 (kX7_diversAhead hN h6 (by omega)) (by first | rfl | assumption) rfl rfl (Nat.le_of_ble_eq_true rfl) (by decide) ?_
      refine q_iload_n dX7_order_18 rfl ?_
      refine q_icmp_ne 24 dX7_order_19 (by decide) (fun h19 => ?_) (fun h19 => ?_)
      · have hp : decide (q_cnt (q_aw σ i) N = x) = false := decide_eq_false h19
        refine q_inc 1 dX7_order_24 (by decide) rfl (by decide) rfl ?_
        refine q_goto 2 dX7_order_27 (by decide) ?_
        rw [nI_1]
        have z := ih (i + 1) (by omega) (by omega)
        rw [show N - i = (N - (i + 1)) + 1 by omega, q_fsd, show N - (N - (i + 1) + 1) = i by omega, if_neg (by simp [hp])]
        exact z
      · have hp : decide (q_cnt (q_aw σ i) N = x) = true := decide_eq_true h19
        refine q_iload_n dX7_order_22 rfl ?_
        refine q_ret dX7_order_23 ?_ rfl rfl
        exact ⟨congrArg some (by rw [show N - i = (N - (i + 1)) + 1 by omega, q_fsd, show N - (N - (i + 1) + 1) = i by omega, if_pos hp]), rfl, rfl⟩

set_option maxHeartbeats 1000000 in
set_option maxRecDepth 100000 in
theorem kX7_order {σ : q_M} {N : Nat} (hN : σ 17 2 = nI N) (h6 : N ≤ 6) {x : Int32} : q_Ct YX7_order [.ref 0, .int x] q_SH σ (q_is (some (q_fsd (fun k => decide (q_cnt (q_aw σ k) N = x)) N N)) q_SH σ) := by
  refine q_ct (n := 1) (by decide) (by decide) rfl (fun _ => Nat.le_of_ble_eq_true rfl) (fun E => ?_)
  refine q_iconst (x := 0) dX7_order_0 (by decide) ?_
  refine q_istore_n dX7_order_1 (by decide) rfl ?_
  exact lpX7_order hN h6 (N + 1) 0 (by omega) (by omega)

def q_as (σ : q_M) (k o : Nat) (l : Int32) : Int32 := if q_th σ (23 + k) = -4 ∨ q_th σ (23 + o) = -4 then l else if l = -4 ∨ (q_abs (q_th σ (23 + k) - q_th σ (23 + o))).toInt < l.toInt then q_abs (q_th σ (23 + k) - q_th σ (23 + o)) else l
def q_ai (σ : q_M) (k : Nat) : Nat → Int32 → Int32
  | 0, l => l
  | m + 1, l => q_ai σ k m (q_as σ k (k - (m + 1)) l)
def q_ao (σ : q_M) (N : Nat) : Nat → Int32 → Int32
  | 0, l => l
  | m + 1, l => q_ao σ N m (q_ai σ (N - (m + 1)) (N - (m + 1)) l)

set_option maxHeartbeats 1000000 in
set_option maxRecDepth 100000 in
theorem lpX7_apart1 {E : q_E} {σ : q_M} {N : Nat} (hN : σ 17 2 = nI N) (h6 : N ≤ 6) {Q : q_P} {k : Nat} (hk : k < N) : ∀ (n : Nat) (i : Nat) (l : Int32), k + 1 ≤ i + n → i ≤ k → q_G YX7_apart E 0 0 5 [some (.ref 0), some (.int (q_ai σ k (k - i) l)), some (.int (nI (k + 1))), none, none] [] q_SH σ Q → q_G YX7_apart E 0 0 18 [some (.ref 0), some (.int l), some (.int (nI k)), some (.int (nI i)), none] [] q_SH σ Q := by
  intro n
  induction n with
  | zero =>
    intro i l hm h0 K
    exact absurd hm (by omega)
  | succ n ih =>
    intro i l hm h0 K
    have hi := nI_toInt (n := i) (by omega)
    have hkt := nI_toInt (n := k) (by omega)
    refine q_iload_n dX7_apart_18 rfl ?_
    refine q_iload_n dX7_apart_19 rfl ?_
    refine q_cge 83 dX7_apart_20 (by decide) (fun h20 => ?_) (fun h20 => ?_)
    · have e : k - i = 0 := by omega
      rw [e] at K
      refine q_inc 1 dX7_apart_83 (by decide) rfl (by decide) rfl ?_
      refine q_goto 5 dX7_apart_86 (by decide) ?_
      rw [nI_1]
      refine q_lset 3 ?_
      exact K
    · refine q_aload_n dX7_apart_23 rfl ?_
      refine q_iload_n dX7_apart_24 rfl ?_
      refine q_cVi lX7_201 vX7_thumbOf (ci := 7) rfl dX7_apart_25 (kX7_thumbOf hkt (by omega)) (by first | rfl | assumption) rfl rfl (Nat.le_of_ble_eq_true rfl) (by decide) ?_
      refine q_bipush (x := (-4)) dX7_apart_28 (by decide) ?_
      refine q_icmp_eq 77 dX7_apart_30 (by decide) (fun h30 => ?_) (fun h30 => ?_)
      · have hs : q_as σ k i l = l := by rw [q_as, if_pos (Or.inl h30)]
        refine q_inc 1 dX7_apart_77 (by decide) rfl (by decide) rfl ?_
        refine q_goto 18 dX7_apart_80 (by decide) ?_
        rw [nI_1]
        refine q_lset 4 ?_
        refine ih (i + 1) _ (by omega) (by omega) ?_
        rw [show k - i = (k - (i + 1)) + 1 by omega, q_ai, show k - (k - (i + 1) + 1) = i by omega, hs] at K
        exact K
      · refine q_aload_n dX7_apart_33 rfl ?_
        refine q_iload_n dX7_apart_34 rfl ?_
        refine q_cVi lX7_201 vX7_thumbOf (ci := 7) rfl dX7_apart_35 (kX7_thumbOf hi (by omega)) (by first | rfl | assumption) rfl rfl (Nat.le_of_ble_eq_true rfl) (by decide) ?_
        refine q_bipush (x := (-4)) dX7_apart_38 (by decide) ?_
        refine q_icmp_ne 46 dX7_apart_40 (by decide) (fun h40 => ?_) (fun h40 => ?_)
        · refine q_aload_n dX7_apart_46 rfl ?_
          refine q_iload_n dX7_apart_47 rfl ?_
          refine q_cVi lX7_201 vX7_thumbOf (ci := 7) rfl dX7_apart_48 (kX7_thumbOf hkt (by omega)) (by first | rfl | assumption) rfl rfl (Nat.le_of_ble_eq_true rfl) (by decide) ?_
          refine q_aload_n dX7_apart_51 rfl ?_
          refine q_iload_n dX7_apart_52 rfl ?_
          refine q_cVi lX7_201 vX7_thumbOf (ci := 7) rfl dX7_apart_53 (kX7_thumbOf hi (by omega)) (by first | rfl | assumption) rfl rfl (Nat.le_of_ble_eq_true rfl) (by decide) ?_
          refine q_isub dX7_apart_56 ?_
          refine q_cSi lX7_207 sJ9_abs_0f7a4 dX7_apart_57 kabs rfl rfl (Nat.le_of_ble_eq_true rfl) (by decide) ?_
          refine q_topi (fun dd edd => ?_)
          refine q_istore dX7_apart_60 (by decide) rfl ?_
          refine q_iload_n dX7_apart_62 rfl ?_
          refine q_bipush (x := (-4)) dX7_apart_63 (by decide) ?_
          refine q_icmp_eq 74 dX7_apart_65 (by decide) (fun h65 => ?_) (fun h65 => ?_)
          · have hs : q_as σ k i l = dd := by rw [q_as, if_neg (by simp [h30, h40]), ← edd, if_pos (Or.inl h65)]
            refine q_iload dX7_apart_74 rfl ?_
            refine q_istore_n dX7_apart_76 (by decide) rfl ?_
            refine q_inc 1 dX7_apart_77 (by decide) rfl (by decide) rfl ?_
            refine q_goto 18 dX7_apart_80 (by decide) ?_
            rw [nI_1]
            refine q_lset 4 ?_
            refine ih (i + 1) _ (by omega) (by omega) ?_
            rw [show k - i = (k - (i + 1)) + 1 by omega, q_ai, show k - (k - (i + 1) + 1) = i by omega, hs] at K
            exact K
          · refine q_iload dX7_apart_68 rfl ?_
            refine q_iload_n dX7_apart_70 rfl ?_
            refine q_cge 77 dX7_apart_71 (by decide) (fun h71 => ?_) (fun h71 => ?_)
            · have hs : q_as σ k i l = l := by rw [q_as, if_neg (by simp [h30, h40]), ← edd, if_neg (by simp [h65]; omega)]
              refine q_inc 1 dX7_apart_77 (by decide) rfl (by decide) rfl ?_
              refine q_goto 18 dX7_apart_80 (by decide) ?_
              rw [nI_1]
              refine q_lset 4 ?_
              refine ih (i + 1) _ (by omega) (by omega) ?_
              rw [show k - i = (k - (i + 1)) + 1 by omega, q_ai, show k - (k - (i + 1) + 1) = i by omega, hs] at K
              exact K
            · have hs : q_as σ k i l = dd := by rw [q_as, if_neg (by simp [h30, h40]), ← edd, if_pos (Or.inr h71)]
              refine q_iload dX7_apart_74 rfl ?_
              refine q_istore_n dX7_apart_76 (by decide) rfl ?_
              refine q_inc 1 dX7_apart_77 (by decide) rfl (by decide) rfl ?_
              refine q_goto 18 dX7_apart_80 (by decide) ?_
              rw [nI_1]
              refine q_lset 4 ?_
              refine ih (i + 1) _ (by omega) (by omega) ?_
              rw [show k - i = (k - (i + 1)) + 1 by omega, q_ai, show k - (k - (i + 1) + 1) = i by omega, hs] at K
              exact K
        · have hs : q_as σ k i l = l := by rw [q_as, if_pos (Or.inr h40)]
          refine q_goto 77 dX7_apart_43 (by decide) ?_
          refine q_inc 1 dX7_apart_77 (by decide) rfl (by decide) rfl ?_
          refine q_goto 18 dX7_apart_80 (by decide) ?_
          rw [nI_1]
          refine q_lset 4 ?_
          refine ih (i + 1) _ (by omega) (by omega) ?_
          rw [show k - i = (k - (i + 1)) + 1 by omega, q_ai, show k - (k - (i + 1) + 1) = i by omega, hs] at K
          exact K

set_option maxHeartbeats 1000000 in
set_option maxRecDepth 100000 in
theorem lpX7_apart2 {E : q_E} {σ : q_M} {N : Nat} (hN : σ 17 2 = nI N) (h6 : N ≤ 6) : ∀ (n : Nat) (i : Nat) (l : Int32), N + 2 ≤ i + n → i ≤ N + 1 → 1 ≤ i → q_G YX7_apart E 0 0 5 [some (.ref 0), some (.int l), some (.int (nI i)), none, none] [] q_SH σ (q_is (some (q_ao σ N (N - i) l)) q_SH σ) := by
  intro n
  induction n with
  | zero =>
    intro i l hm h0 h1
    exact absurd hm (by omega)
  | succ n ih =>
    intro i l hm h0 h1
    have hi := nI_toInt (n := i) (by omega)
    have hNt := nI_toInt (n := N) (by omega)
    refine q_iload_n dX7_apart_5 rfl ?_
    refine q_aload_n dX7_apart_6 rfl ?_
    refine q_getr fX7_26 dX7_apart_7 (by first | rfl | assumption) (by rfl) ?_
    refine q_get fX7_173 dX7_apart_10 (by first | rfl | assumption) (by rfl) ?_
    rw [hN]
    refine q_cge 89 dX7_apart_13 (by decide) (fun h13 => ?_) (fun h13 => ?_)
    · have e : N - i = 0 := by omega
      rw [e]
      refine q_iload_n dX7_apart_89 rfl ?_
      refine q_ret dX7_apart_90 ?_ rfl rfl
      exact ⟨rfl, rfl, rfl⟩
    · refine q_iconst (x := 0) dX7_apart_16 (by decide) ?_
      refine q_istore_n dX7_apart_17 (by decide) rfl ?_
      refine lpX7_apart1 hN h6 (by omega) (i + 1) 0 l (by omega) (by omega) ?_
      have z := ih (i + 1) (q_ai σ i (i - 0) l) (by omega) (by omega) (by omega)
      rw [show N - i = (N - (i + 1)) + 1 by omega, q_ao, show N - (N - (i + 1) + 1) = i by omega]
      exact z

set_option maxHeartbeats 1000000 in
set_option maxRecDepth 100000 in
theorem kX7_apart {σ : q_M} {N : Nat} (hN : σ 17 2 = nI N) (h6 : N ≤ 6) : q_Ct YX7_apart [.ref 0] q_SH σ (q_is (some (q_ao σ N (N - 1) (-4))) q_SH σ) := by
  refine q_ct (n := 4) (by decide) (by decide) rfl (fun _ => Nat.le_of_ble_eq_true rfl) (fun E => ?_)
  refine q_bipush (x := (-4)) dX7_apart_0 (by decide) ?_
  refine q_istore_n dX7_apart_2 (by decide) rfl ?_
  refine q_iconst (x := 1) dX7_apart_3 (by decide) ?_
  refine q_istore_n dX7_apart_4 (by decide) rfl ?_
  exact lpX7_apart2 hN h6 (N + 2) 1 (-4) (by omega) (by omega) (by omega)

def q_ga (p : Nat → Bool) (gp : Nat) : Nat → Nat × Nat
  | 0 => (0, 0)
  | n + 1 => if p n = true ∧ (q_ga p gp n).2 ≤ n then ((q_ga p gp n).1 + 1, n + gp) else q_ga p gp n
theorem q_ga_le {p : Nat → Bool} {gp : Nat} : ∀ n, (q_ga p gp n).1 ≤ n ∧ (q_ga p gp n).2 ≤ n + gp
  | 0 => ⟨Nat.le_refl 0, Nat.zero_le _⟩
  | n + 1 => by
    have h := q_ga_le (p := p) (gp := gp) n
    unfold q_ga
    split
    · exact ⟨by show (q_ga p gp n).1 + 1 ≤ n + 1; omega, by show n + gp ≤ n + 1 + gp; omega⟩
    · exact ⟨by omega, by omega⟩
def q_gr (σ : q_M) : Nat → Bool := fun t => q_t (σ 71 t)

set_option maxHeartbeats 1000000 in
set_option maxRecDepth 100000 in
theorem lpX7_ga {E : q_E} {σ : q_M} {gp : Nat} (hg : gp ≤ 501) : ∀ (n : Nat) (i m x : Nat), 501 + 1 ≤ i + n → i ≤ 501 → (m, x) = q_ga (q_gr σ) gp i → q_G YX7_goersApart E 0 0 7 [some (.ref 0), some (.int (nI gp)), some (.int (nI m)), some (.int (nI x)), some (.int (nI i))] [] q_SH σ (q_is (some (nI (q_ga (q_gr σ) gp 501).1)) q_SH σ) := by
  intro n
  induction n with
  | zero =>
    intro i m x hm h0 hmx
    exact absurd hm (by omega)
  | succ n ih =>
    intro i m x hm h0 hmx
    have hi := nI_toInt (n := i) (by omega)
    have hc : (500 : Int32).toInt = 500 := rfl
    have hb := q_ga_le (p := q_gr σ) (gp := gp) i
    rw [← hmx] at hb
    have hxt := nI_toInt (n := x) (by simp at hb; omega)
    refine q_iload dX7_goersApart_7 rfl ?_
    refine q_sipush (x := 500) dX7_goersApart_9 (by decide) ?_
    refine q_cgt 48 dX7_goersApart_12 (by decide) (fun h12 => ?_) (fun h12 => ?_)
    · refine q_iload_n dX7_goersApart_48 rfl ?_
      refine q_ret dX7_goersApart_49 ?_ rfl rfl
      have e : i = 501 := by omega
      subst e
      exact ⟨congrArg some (by rw [← hmx]), rfl, rfl⟩
    · refine q_aload_n dX7_goersApart_15 rfl ?_
      refine q_getr fX7_59 dX7_goersApart_16 (by first | rfl | assumption) (by rfl) ?_
      refine q_iload dX7_goersApart_19 rfl ?_
      refine q_zld i (by first | rfl | assumption) hi (by omega) dX7_goersApart_21 ?_
      refine q_if_eq 42 dX7_goersApart_22 (by decide) (fun h22 => ?_) (fun h22 => ?_)
      · have hs : q_ga (q_gr σ) gp (i + 1) = (m, x) := by rw [q_ga, if_neg (by simp [q_gr, q_t, h22]), hmx]
        refine q_inc 1 dX7_goersApart_42 (by decide) rfl (by decide) rfl ?_
        refine q_goto 7 dX7_goersApart_45 (by decide) ?_
        rw [nI_1]
        first | rw [nI_1] | skip
        exact ih (i + 1) _ _ (by omega) (by omega) hs.symm
      · have hp : q_gr σ i = true := decide_eq_true h22
        refine q_iload dX7_goersApart_25 rfl ?_
        refine q_iload_n dX7_goersApart_27 rfl ?_
        refine q_cge 34 dX7_goersApart_28 (by decide) (fun h28 => ?_) (fun h28 => ?_)
        · have hs : q_ga (q_gr σ) gp (i + 1) = (m + 1, i + gp) := by rw [q_ga, if_pos (by rw [hp, ← hmx]; exact ⟨rfl, by show x ≤ i; omega⟩), ← hmx]
          refine q_inc 1 dX7_goersApart_34 (by decide) rfl (by decide) rfl ?_
          refine q_iload dX7_goersApart_37 rfl ?_
          refine q_iload_n dX7_goersApart_39 rfl ?_
          refine q_iadd dX7_goersApart_40 ?_
          rw [nI_add]
          refine q_istore_n dX7_goersApart_41 (by decide) rfl ?_
          refine q_inc 1 dX7_goersApart_42 (by decide) rfl (by decide) rfl ?_
          refine q_goto 7 dX7_goersApart_45 (by decide) ?_
          rw [nI_1]
          first | rw [nI_1] | skip
          exact ih (i + 1) _ _ (by omega) (by omega) hs.symm
        · have hs : q_ga (q_gr σ) gp (i + 1) = (m, x) := by rw [q_ga, if_neg (by rw [← hmx]; show ¬ (_ ∧ x ≤ i); omega), hmx]
          refine q_goto 42 dX7_goersApart_31 (by decide) ?_
          refine q_inc 1 dX7_goersApart_42 (by decide) rfl (by decide) rfl ?_
          refine q_goto 7 dX7_goersApart_45 (by decide) ?_
          rw [nI_1]
          first | rw [nI_1] | skip
          exact ih (i + 1) _ _ (by omega) (by omega) hs.symm

set_option maxHeartbeats 1000000 in
set_option maxRecDepth 100000 in
theorem kX7_goersApart {σ : q_M} {gp : Nat} (hg : gp ≤ 501) : q_Ct YX7_goersApart [.ref 0, .int (nI gp)] q_SH σ (q_is (some (nI (q_ga (q_gr σ) gp 501).1)) q_SH σ) := by
  refine q_ct (n := 3) (by decide) (by decide) rfl (fun _ => Nat.le_of_ble_eq_true rfl) (fun E => ?_)
  refine q_iconst (x := 0) dX7_goersApart_0 (by decide) ?_
  refine q_istore_n dX7_goersApart_1 (by decide) rfl ?_
  refine q_iconst (x := 0) dX7_goersApart_2 (by decide) ?_
  refine q_istore_n dX7_goersApart_3 (by decide) rfl ?_
  refine q_iconst (x := 0) dX7_goersApart_4 (by decide) ?_
  refine q_istore dX7_goersApart_5 (by decide) rfl ?_
  exact lpX7_ga hg 502 0 0 0 (by omega) (by omega) rfl

def q_gg (ok : Nat → Bool) : Nat → Nat → Nat → Nat
  | 0, lo, _ => lo
  | f + 1, lo, hi => if hi - lo ≤ 1 then lo else if ok ((lo + hi) / 2) then q_gg ok f ((lo + hi) / 2) hi else q_gg ok f lo ((lo + hi) / 2)
def q_ok (σ : q_M) (n m : Nat) : Bool := decide (n ≤ (q_ga (q_gr σ) m 501).1)

set_option maxHeartbeats 1000000 in
set_option maxRecDepth 100000 in
theorem lpX7_gg {E : q_E} {σ : q_M} {n0 : Nat} (hn0 : n0 ≤ 6) : ∀ (n : Nat) (i lo hi : Nat), 501 + 1 ≤ i + n → i ≤ 501 → lo < hi → hi ≤ 501 → q_G YX7_greatestGap E 0 0 9 [some (.ref 0), some (.int (nI n0)), some (.int (nI lo)), some (.int (nI hi)), some (.int (nI i)), none] [] q_SH σ (q_is (some (nI (q_gg (q_ok σ n0) (501 - i) lo hi))) q_SH σ) := by
  intro n
  induction n with
  | zero =>
    intro i lo hi hm h0 hlh hh
    exact absurd hm (by omega)
  | succ n ih =>
    intro i lo hi hm h0 hlh hh
    have hi0 := nI_toInt (n := i) (by omega)
    have hc : (500 : Int32).toInt = 500 := rfl
    have hc1 : (1 : Int32).toInt = 1 := rfl
    have hd := nI_toInt (n := hi - lo) (by omega)
    have hn0t := nI_toInt (n := n0) (by omega)
    have hgt := nI_toInt (n := (q_ga (q_gr σ) ((lo + hi) / 2) 501).1) (by have := (q_ga_le (p := q_gr σ) (gp := (lo + hi) / 2) 501).1; omega)
    refine q_iload dX7_greatestGap_9 rfl ?_
    refine q_sipush (x := 500) dX7_greatestGap_11 (by decide) ?_
    refine q_cgt 56 dX7_greatestGap_14 (by decide) (fun h14 => ?_) (fun h14 => ?_)
    · have e : 501 - i = 0 := by omega
      refine q_iload_n dX7_greatestGap_56 rfl ?_
      refine q_ret dX7_greatestGap_57 ?_ rfl rfl
      exact ⟨congrArg some (by rw [e]; first | rfl | rw [q_gg, if_pos h2]), rfl, rfl⟩
    · refine q_iload_n dX7_greatestGap_17 rfl ?_
      refine q_iload_n dX7_greatestGap_18 rfl ?_
      refine q_isub dX7_greatestGap_19 ?_
      refine q_iconst (x := 1) dX7_greatestGap_20 (by decide) ?_
      rw [pk_sub (by omega)]
      refine q_cle 56 dX7_greatestGap_21 (by decide) (fun h21 => ?_) (fun h21 => ?_)
      · have e : 501 - i = (500 - i) + 1 := by omega
        have h2 : hi - lo ≤ 1 := by omega
        refine q_iload_n dX7_greatestGap_56 rfl ?_
        refine q_ret dX7_greatestGap_57 ?_ rfl rfl
        exact ⟨congrArg some (by rw [e]; first | rfl | rw [q_gg, if_pos h2]), rfl, rfl⟩
      · refine q_iload_n dX7_greatestGap_24 rfl ?_
        refine q_iload_n dX7_greatestGap_25 rfl ?_
        refine q_iadd dX7_greatestGap_26 ?_
        rw [nI_add]
        refine q_iconst (x := 1) dX7_greatestGap_27 (by decide) ?_
        refine q_ishr dX7_greatestGap_28 ?_
        rw [show nI (lo + hi) >>> ((1 : Int32) &&& 31) = nI ((lo + hi) / 2) from pk_shrN (by omega) _ 1 (by decide)]
        refine q_istore dX7_greatestGap_29 (by decide) rfl ?_
        refine q_aload_n dX7_greatestGap_31 rfl ?_
        refine q_iload dX7_greatestGap_32 rfl ?_
        refine q_cVi lX7_242 vX7_goersApart (ci := 7) rfl dX7_greatestGap_34 (kX7_goersApart (by omega)) (by first | rfl | assumption) rfl rfl (Nat.le_of_ble_eq_true rfl) (by decide) ?_
        refine q_iload_n dX7_greatestGap_37 rfl ?_
        refine q_clt 47 dX7_greatestGap_38 (by decide) (fun h38 => ?_) (fun h38 => ?_)
        · have hp : q_ok σ n0 ((lo + hi) / 2) = false := decide_eq_false (by omega)
          refine q_iload dX7_greatestGap_47 rfl ?_
          refine q_istore_n dX7_greatestGap_49 (by decide) rfl ?_
          refine q_inc 1 dX7_greatestGap_50 (by decide) rfl (by decide) rfl ?_
          refine q_goto 9 dX7_greatestGap_53 (by decide) ?_
          rw [nI_1]
          refine q_lset 5 ?_
          have e : 501 - i = (501 - (i + 1)) + 1 := by omega
          rw [e, q_gg, if_neg (by omega)]
          first
            | (rw [if_pos hp]; exact ih (i + 1) _ _ (by omega) (by omega) (by omega) (by omega))
            | (rw [if_neg (by rw [hp]; decide)]; exact ih (i + 1) _ _ (by omega) (by omega) (by omega) (by omega))
        · have hp : q_ok σ n0 ((lo + hi) / 2) = true := decide_eq_true (by omega)
          refine q_iload dX7_greatestGap_41 rfl ?_
          refine q_istore_n dX7_greatestGap_43 (by decide) rfl ?_
          refine q_goto 50 dX7_greatestGap_44 (by decide) ?_
          refine q_inc 1 dX7_greatestGap_50 (by decide) rfl (by decide) rfl ?_
          refine q_goto 9 dX7_greatestGap_53 (by decide) ?_
          rw [nI_1]
          refine q_lset 5 ?_
          have e : 501 - i = (501 - (i + 1)) + 1 := by omega
          rw [e, q_gg, if_neg (by omega)]
          first
            | (rw [if_pos hp]; exact ih (i + 1) _ _ (by omega) (by omega) (by omega) (by omega))
            | (rw [if_neg (by rw [hp]; decide)]; exact ih (i + 1) _ _ (by omega) (by omega) (by omega) (by omega))

set_option maxHeartbeats 1000000 in
set_option maxRecDepth 100000 in
theorem kX7_greatestGap {σ : q_M} {n0 : Nat} (hn0 : n0 ≤ 6) : q_Ct YX7_greatestGap [.ref 0, .int (nI n0)] q_SH σ (q_is (some (nI (q_gg (q_ok σ n0) 501 1 501))) q_SH σ) := by
  refine q_ct (n := 4) (by decide) (by decide) rfl (fun _ => Nat.le_of_ble_eq_true rfl) (fun E => ?_)
  refine q_iconst (x := 1) dX7_greatestGap_0 (by decide) ?_
  refine q_istore_n dX7_greatestGap_1 (by decide) rfl ?_
  refine q_sipush (x := 501) dX7_greatestGap_2 (by decide) ?_
  refine q_istore_n dX7_greatestGap_5 (by decide) rfl ?_
  refine q_iconst (x := 0) dX7_greatestGap_6 (by decide) ?_
  refine q_istore dX7_greatestGap_7 (by decide) rfl ?_
  exact lpX7_gg hn0 502 0 1 501 (by omega) (by omega) (by omega) (by omega)

def q_sv (σ : q_M) (hv : Int32) : q_M := q_fill σ 71 (q_gf σ hv) 501

set_option maxHeartbeats 1000000 in
set_option maxRecDepth 100000 in
theorem kX7_spreadF {σ : q_M} {hv x w : Int32} (hbad : (q_win hv 1 999 && q_win x 2 6 && q_win w 0 1) = false) : q_Ct YX7_spread [.ref 0, .int hv, .int x, .int w] q_SH σ (q_is (some (-1)) q_SH σ) := by
  refine q_ct (n := 0) (by decide) (by decide) rfl (fun _ => Nat.le_of_ble_eq_true rfl) (fun E => ?_)
  refine q_iload_n dX7_spread_0 rfl ?_
  refine q_cSi lX7_219 sX7_isHeavy dX7_spread_1 kX7_isHeavy rfl rfl (Nat.le_of_ble_eq_true rfl) (by decide) ?_
  refine q_beq 26 dX7_spread_4 (by decide) (fun h4 => ?_) (fun h4 => ?_)
  · refine q_iconst (x := (-1)) dX7_spread_26 (by decide) ?_
    refine q_ret dX7_spread_27 ?_ rfl rfl
    exact ⟨rfl, rfl, rfl⟩
  · refine q_iload_n dX7_spread_7 rfl ?_
    refine q_iconst (x := 2) dX7_spread_8 (by decide) ?_
    refine q_bipush (x := 6) dX7_spread_9 (by decide) ?_
    refine q_cSi lX7_77 sX7_within dX7_spread_11 kX7_within rfl rfl (Nat.le_of_ble_eq_true rfl) (by decide) ?_
    refine q_beq 26 dX7_spread_14 (by decide) (fun h14 => ?_) (fun h14 => ?_)
    · refine q_iconst (x := (-1)) dX7_spread_26 (by decide) ?_
      refine q_ret dX7_spread_27 ?_ rfl rfl
      exact ⟨rfl, rfl, rfl⟩
    · refine q_iload_n dX7_spread_17 rfl ?_
      refine q_iconst (x := 0) dX7_spread_18 (by decide) ?_
      refine q_iconst (x := 1) dX7_spread_19 (by decide) ?_
      refine q_cSi lX7_77 sX7_within dX7_spread_20 kX7_within rfl rfl (Nat.le_of_ble_eq_true rfl) (by decide) ?_
      refine q_bne 28 dX7_spread_23 (by decide) (fun h23 => ?_) (fun h23 => ?_)
      · exact absurd hbad (by simp [*])
      · refine q_iconst (x := (-1)) dX7_spread_26 (by decide) ?_
        refine q_ret dX7_spread_27 ?_ rfl rfl
        exact ⟨rfl, rfl, rfl⟩

set_option maxHeartbeats 1000000 in
set_option maxRecDepth 100000 in
theorem kX7_spread {σ : q_M} {hv w : Int32} {n0 : Nat} (h2 : 2 ≤ n0) (h6 : n0 ≤ 6) (hh : q_win hv 1 999 = true) (hw : q_win w 0 1 = true) : q_Ct YX7_spread [.ref 0, .int hv, .int (nI n0), .int w] q_SH σ (q_is (some (if (q_ga (q_gr (q_sv σ hv)) 1 501).1 < n0 then -4 else if w = 1 then q_fst (fun t => q_t (q_sv σ hv 71 t)) 501 501 else nI (q_gg (q_ok (q_sv σ hv) n0) 501 1 501))) q_SH (q_sv σ hv)) := by
  refine q_ct (n := 0) (by decide) (by decide) rfl (fun _ => Nat.le_of_ble_eq_true rfl) (fun E => ?_)
  have hnt := nI_toInt (n := n0) (by omega)
  refine q_iload_n dX7_spread_0 rfl ?_
  refine q_cSi lX7_219 sX7_isHeavy dX7_spread_1 kX7_isHeavy rfl rfl (Nat.le_of_ble_eq_true rfl) (by decide) ?_
  refine q_beq 26 dX7_spread_4 (by decide) (fun h4 => ?_) (fun h4 => ?_)
  · exact absurd hh (by rw [h4]; decide)
  · refine q_iload_n dX7_spread_7 rfl ?_
    refine q_iconst (x := 2) dX7_spread_8 (by decide) ?_
    refine q_bipush (x := 6) dX7_spread_9 (by decide) ?_
    refine q_cSi lX7_77 sX7_within dX7_spread_11 kX7_within rfl rfl (Nat.le_of_ble_eq_true rfl) (by decide) ?_
    refine q_beq 26 dX7_spread_14 (by decide) (fun h14 => ?_) (fun h14 => ?_)
    · exact absurd h14 (by rw [show q_win (nI n0) 2 6 = true from decide_eq_true (by have e2 : (2 : Int32).toInt = 2 := rfl; have e6 : (6 : Int32).toInt = 6 := rfl; omega)]; decide)
    · refine q_iload_n dX7_spread_17 rfl ?_
      refine q_iconst (x := 0) dX7_spread_18 (by decide) ?_
      refine q_iconst (x := 1) dX7_spread_19 (by decide) ?_
      refine q_cSi lX7_77 sX7_within dX7_spread_20 kX7_within rfl rfl (Nat.le_of_ble_eq_true rfl) (by decide) ?_
      refine q_bne 28 dX7_spread_23 (by decide) (fun h23 => ?_) (fun h23 => ?_)
      · refine q_aload_n dX7_spread_28 rfl ?_
        refine q_iload_n dX7_spread_29 rfl ?_
        refine q_cVv lX7_238 vX7_findGoers (ci := 7) rfl dX7_spread_30 kX7_findGoers (by first | rfl | assumption) rfl rfl (Nat.le_of_ble_eq_true rfl) (by decide) ?_
        change q_G _ _ _ _ _ _ _ _ (q_sv σ hv) _
        refine q_aload_n dX7_spread_33 rfl ?_
        refine q_iconst (x := 1) dX7_spread_34 (by decide) ?_
        refine q_cVi lX7_242 vX7_goersApart (ci := 7) rfl dX7_spread_35 (kX7_goersApart (gp := 1) (by omega)) (by first | rfl | assumption) rfl rfl (Nat.le_of_ble_eq_true rfl) (by decide) ?_
        refine q_iload_n dX7_spread_38 rfl ?_
        have hgt := nI_toInt (n := (q_ga (q_gr (q_sv σ hv)) 1 501).1) (by have := (q_ga_le (p := q_gr (q_sv σ hv)) (gp := 1) 501).1; omega)
        refine q_cge 45 dX7_spread_39 (by decide) (fun h39 => ?_) (fun h39 => ?_)
        · have c1 : ¬ (q_ga (q_gr (q_sv σ hv)) 1 501).1 < n0 := by omega
          refine q_iload_n dX7_spread_45 rfl ?_
          refine q_iconst (x := 1) dX7_spread_46 (by decide) ?_
          refine q_icmp_ne 57 dX7_spread_47 (by decide) (fun h47 => ?_) (fun h47 => ?_)
          · refine q_aload_n dX7_spread_57 rfl ?_
            refine q_iload_n dX7_spread_58 rfl ?_
            refine q_cVi lX7_248 vX7_greatestGap (ci := 7) rfl dX7_spread_59 (kX7_greatestGap h6) (by first | rfl | assumption) rfl rfl (Nat.le_of_ble_eq_true rfl) (by decide) ?_
            refine q_ret dX7_spread_62 ?_ rfl rfl
            exact ⟨congrArg some (by rw [if_neg c1]; first | rw [if_pos h47] | rw [if_neg h47]), rfl, rfl⟩
          · refine q_aload_n dX7_spread_50 rfl ?_
            refine q_cVi lX7_245 vX7_firstGoer (ci := 7) rfl dX7_spread_51 kX7_firstGoer (by first | rfl | assumption) rfl rfl (Nat.le_of_ble_eq_true rfl) (by decide) ?_
            refine q_goto 62 dX7_spread_54 (by decide) ?_
            refine q_ret dX7_spread_62 ?_ rfl rfl
            exact ⟨congrArg some (by rw [if_neg c1]; first | rw [if_pos h47] | rw [if_neg h47]), rfl, rfl⟩
        · have c1 : (q_ga (q_gr (q_sv σ hv)) 1 501).1 < n0 := by omega
          refine q_bipush (x := (-4)) dX7_spread_42 (by decide) ?_
          refine q_ret dX7_spread_44 ?_ rfl rfl
          exact ⟨congrArg some (by rw [if_pos c1]), rfl, rfl⟩
      · exact absurd hw (by rw [h23]; decide)

theorem q_tk_ne {σ : q_M} {d x : Nat} {dep t : Int32} (h1 : x ≠ 68) (h2 : x ≠ 69) : q_tk σ d dep t x = σ x := by
  unfold q_tk
  repeat rw [q_up_ne (by assumption)]
theorem q_tn_ne {σ : q_M} {a b x : Nat} {st : Int32} (h1 : x ≠ 68) (h2 : x ≠ 70) : q_tn σ a b st x = σ x := by
  unfold q_tn
  rw [q_up_ne h1, q_up_ne h2]
theorem q_hm_ne {σ : q_M} {x : Nat} (h : x ≠ 69) : q_hm σ x = σ x := by
  unfold q_hm
  rw [q_up_ne h, q_up_ne h]
theorem q_mk_ne {σ : q_M} {x : Nat} {a b : Int32} (h : x ≠ 68) : q_mk σ a b x = σ x := by
  unfold q_mk
  split
  · rw [q_up_ne h, q_up_ne h]
  · rw [q_up_ne h]
theorem q_hs_ne {σ : q_M} {a b x : Nat} {st : Int32} (h1 : x ≠ 68) (h2 : x ≠ 69) (h3 : x ≠ 70) : q_hs σ a b st x = σ x := by
  rw [q_hs, q_mk_ne h1, q_hm_ne h2, q_tn_ne h1 h3]
theorem q_hl_ne {b x : Nat} {st : Int32} (h1 : x ≠ 68) (h2 : x ≠ 69) (h3 : x ≠ 70) : ∀ (n a : Nat) (σ : q_M), q_hl b st n a σ x = σ x
  | 0, _, _ => rfl
  | n + 1, a, σ => by
    unfold q_hl
    split
    · rw [q_hl_ne h1 h2 h3 n (a + 1), q_hs_ne h1 h2 h3]
    · rfl
def q_hh (σ : q_M) (d : Nat) (dep t : Int32) (b : Nat) (st : Int32) (n : Nat) : q_M := q_hl b st n 0 (q_tk σ d dep t)
theorem q_hh_ne {σ : q_M} {d b n x : Nat} {dep t st : Int32} (h1 : x ≠ 68) (h2 : x ≠ 69) (h3 : x ≠ 70) : q_hh σ d dep t b st n x = σ x := by rw [q_hh, q_hl_ne h1 h2 h3, q_tk_ne h1 h2]
def q_hof (σ : q_M) : Nat → Int32
  | 0 => σ 68 4
  | 1 => σ 69 5
  | 2 => σ 68 5
  | _ => σ 68 3
def q_can (σ : q_M) (k d t n : Int32) : Bool := q_win k 0 (σ 17 2 - 1) && q_win d 1 (σ 15 0 - 1) && q_win t 0 500 && q_win n 1 999

set_option maxHeartbeats 1000000 in
set_option maxRecDepth 100000 in
theorem kX7_holdF {σ : q_M} {k d t l st n w : Int32} (hbad : (q_can σ k d t n && q_win l 0 50 && q_win st 1 50 && q_win w 0 3) = false) : q_Ct YX7_hold [.ref 0, .int k, .int d, .int t, .int l, .int st, .int n, .int w] q_SH σ (q_is (some (-1)) q_SH σ) := by
  refine q_ct (n := 0) (by decide) (by decide) rfl (fun _ => Nat.le_of_ble_eq_true rfl) (fun E => ?_)
  refine q_aload_n dX7_hold_0 rfl ?_
  refine q_iload_n dX7_hold_1 rfl ?_
  refine q_iload_n dX7_hold_2 rfl ?_
  refine q_iload_n dX7_hold_3 rfl ?_
  refine q_iload dX7_hold_4 rfl ?_
  refine q_cVi lX7_251 vX7_canHold (ci := 7) rfl dX7_hold_6 kX7_canHold (by first | rfl | assumption) rfl rfl (Nat.le_of_ble_eq_true rfl) (by decide) ?_
  change q_G _ _ _ _ _ _ (.int (q_b (q_can σ k d t n)) :: _) _ _ _
  refine q_beq 38 dX7_hold_9 (by decide) (fun h9 => ?_) (fun h9 => ?_)
  · refine q_iconst (x := (-1)) dX7_hold_38 (by decide) ?_
    refine q_ret dX7_hold_39 ?_ rfl rfl
    exact ⟨rfl, rfl, rfl⟩
  · refine q_iload dX7_hold_12 rfl ?_
    refine q_cSi lX7_255 sX7_isLate dX7_hold_14 kX7_isLate rfl rfl (Nat.le_of_ble_eq_true rfl) (by decide) ?_
    refine q_beq 38 dX7_hold_17 (by decide) (fun h17 => ?_) (fun h17 => ?_)
    · refine q_iconst (x := (-1)) dX7_hold_38 (by decide) ?_
      refine q_ret dX7_hold_39 ?_ rfl rfl
      exact ⟨rfl, rfl, rfl⟩
    · refine q_iload dX7_hold_20 rfl ?_
      refine q_cSi lX7_258 sX7_isStep dX7_hold_22 kX7_isStep rfl rfl (Nat.le_of_ble_eq_true rfl) (by decide) ?_
      refine q_beq 38 dX7_hold_25 (by decide) (fun h25 => ?_) (fun h25 => ?_)
      · refine q_iconst (x := (-1)) dX7_hold_38 (by decide) ?_
        refine q_ret dX7_hold_39 ?_ rfl rfl
        exact ⟨rfl, rfl, rfl⟩
      · refine q_iload dX7_hold_28 rfl ?_
        refine q_iconst (x := 0) dX7_hold_30 (by decide) ?_
        refine q_iconst (x := 3) dX7_hold_31 (by decide) ?_
        refine q_cSi lX7_77 sX7_within dX7_hold_32 kX7_within rfl rfl (Nat.le_of_ble_eq_true rfl) (by decide) ?_
        refine q_bne 40 dX7_hold_35 (by decide) (fun h35 => ?_) (fun h35 => ?_)
        · exact absurd hbad (by simp [*])
        · refine q_iconst (x := (-1)) dX7_hold_38 (by decide) ?_
          refine q_ret dX7_hold_39 ?_ rfl rfl
          exact ⟨rfl, rfl, rfl⟩

set_option maxHeartbeats 1000000 in
set_option maxRecDepth 100000 in
theorem kX7_hold {σ : q_M} {j b N0 : Nat} {d t st : Int32} (hj : j < 6) (hb : b ≤ 50) (hN0 : N0 < 1000) (hz : σ (23 + j) 7 = 0 ∨ σ (23 + j) 7 = 1) {w : Int32} (hcan : q_can σ (nI j) d t (nI N0) = true) (hst : q_win st 1 50 = true) (hw : q_win w 0 3 = true) : q_Ct YX7_hold [.ref 0, .int (nI j), .int d, .int t, .int (nI b), .int st, .int (nI N0), .int w] q_SH σ (q_is (some (q_hof (q_hh σ (23 + j) d t b st N0) w.toNatClampNeg)) q_SH (q_hh σ (23 + j) d t b st N0)) := by
  refine q_ct (n := 0) (by decide) (by decide) rfl (fun _ => Nat.le_of_ble_eq_true rfl) (fun E => ?_)
  have hkt := nI_toInt (n := j) (by omega)
  have hbt := nI_toInt (n := b) (by omega)
  refine q_aload_n dX7_hold_0 rfl ?_
  refine q_iload_n dX7_hold_1 rfl ?_
  refine q_iload_n dX7_hold_2 rfl ?_
  refine q_iload_n dX7_hold_3 rfl ?_
  refine q_iload dX7_hold_4 rfl ?_
  refine q_cVi lX7_251 vX7_canHold (ci := 7) rfl dX7_hold_6 kX7_canHold (by first | rfl | assumption) rfl rfl (Nat.le_of_ble_eq_true rfl) (by decide) ?_
  change q_G _ _ _ _ _ _ (.int (q_b (q_can σ (nI j) d t (nI N0))) :: _) _ _ _
  refine q_beq 38 dX7_hold_9 (by decide) (fun h9 => ?_) (fun h9 => ?_)
  · exact absurd hcan (by rw [h9]; decide)
  · refine q_iload dX7_hold_12 rfl ?_
    refine q_cSi lX7_255 sX7_isLate dX7_hold_14 kX7_isLate rfl rfl (Nat.le_of_ble_eq_true rfl) (by decide) ?_
    refine q_beq 38 dX7_hold_17 (by decide) (fun h17 => ?_) (fun h17 => ?_)
    · exact absurd h17 (by rw [show q_win (nI b) 0 50 = true from decide_eq_true (by have e2 : (0 : Int32).toInt = 0 := rfl; have e6 : (50 : Int32).toInt = 50 := rfl; omega)]; decide)
    · refine q_iload dX7_hold_20 rfl ?_
      refine q_cSi lX7_258 sX7_isStep dX7_hold_22 kX7_isStep rfl rfl (Nat.le_of_ble_eq_true rfl) (by decide) ?_
      refine q_beq 38 dX7_hold_25 (by decide) (fun h25 => ?_) (fun h25 => ?_)
      · exact absurd hst (by rw [h25]; decide)
      · refine q_iload dX7_hold_28 rfl ?_
        refine q_iconst (x := 0) dX7_hold_30 (by decide) ?_
        refine q_iconst (x := 3) dX7_hold_31 (by decide) ?_
        refine q_cSi lX7_77 sX7_within dX7_hold_32 kX7_within rfl rfl (Nat.le_of_ble_eq_true rfl) (by decide) ?_
        refine q_bne 40 dX7_hold_35 (by decide) (fun h35 => ?_) (fun h35 => ?_)
        · refine q_aload_n dX7_hold_40 rfl ?_
          refine q_iload_n dX7_hold_41 rfl ?_
          refine q_iload_n dX7_hold_42 rfl ?_
          refine q_iload_n dX7_hold_43 rfl ?_
          refine q_iload dX7_hold_44 rfl ?_
          refine q_iload dX7_hold_46 rfl ?_
          refine q_iload dX7_hold_48 rfl ?_
          refine q_cVv lX7_261 vX7_tryHold (ci := 7) rfl dX7_hold_50 (kX7_tryHold (by omega) (by omega) hkt hj hz) (by first | rfl | assumption) rfl rfl (Nat.le_of_ble_eq_true rfl) (by decide) ?_
          change q_G _ _ _ _ _ _ _ _ (q_hh σ (23 + j) d t b st N0) _
          refine q_iload dX7_hold_53 rfl ?_
          rcases q_sw 3 w with hsw | ⟨jsw, hsw, hjsw⟩
          · refine q_tabOut 107 dX7_hold_55 (by omega) (by decide) ?_
            refine q_aload_n dX7_hold_107 rfl ?_
            refine q_getr fX7_55 dX7_hold_108 (by first | rfl | assumption) (by rfl) ?_
            refine q_get fX7_275 dX7_hold_111 (by first | rfl | assumption) (by rfl) ?_
            refine q_ret dX7_hold_114 ?_ rfl rfl
            have hq := q_win_t hw
            have e3 : (3 : Int32).toInt = 3 := rfl
            have e0 : (0 : Int32).toInt = 0 := rfl
            have e : w.toNatClampNeg = 3 := by show w.toInt.toNat = 3; omega
            exact ⟨congrArg some (by rw [e]; rfl), rfl, rfl⟩
          · rcases (show jsw = 0 ∨ jsw = 1 ∨ jsw = 2 by omega) with rfl | rfl | rfl
            · subst hjsw
              refine q_tabIn 80 dX7_hold_55 (by decide) (by decide) rfl (by decide) ?_
              refine q_aload_n dX7_hold_80 rfl ?_
              refine q_getr fX7_55 dX7_hold_81 (by first | rfl | assumption) (by rfl) ?_
              refine q_get fX7_265 dX7_hold_84 (by first | rfl | assumption) (by rfl) ?_
              refine q_ret dX7_hold_87 ?_ rfl rfl
              exact ⟨rfl, rfl, rfl⟩
            · subst hjsw
              refine q_tabIn 88 dX7_hold_55 (by decide) (by decide) rfl (by decide) ?_
              refine q_aload_n dX7_hold_88 rfl ?_
              refine q_getr fX7_55 dX7_hold_89 (by first | rfl | assumption) (by rfl) ?_
              refine q_getr fX7_268 dX7_hold_92 (by first | rfl | assumption) (by rfl) ?_
              refine q_get fX7_151 dX7_hold_95 (by first | rfl | assumption) (by rfl) ?_
              refine q_ret dX7_hold_98 ?_ rfl rfl
              exact ⟨rfl, rfl, rfl⟩
            · subst hjsw
              refine q_tabIn 99 dX7_hold_55 (by decide) (by decide) rfl (by decide) ?_
              refine q_aload_n dX7_hold_99 rfl ?_
              refine q_getr fX7_55 dX7_hold_100 (by first | rfl | assumption) (by rfl) ?_
              refine q_get fX7_272 dX7_hold_103 (by first | rfl | assumption) (by rfl) ?_
              refine q_ret dX7_hold_106 ?_ rfl rfl
              exact ⟨rfl, rfl, rfl⟩
        · exact absurd hw (by rw [h35]; decide)

def q_ltl (d : Nat) (dep t st : Int32) (n : Nat) : Nat → Nat → Int32 → q_M → Int32 × q_M
  | 0, _, g, σ => (g, σ)
  | m + 1, l, g, σ => if q_hh σ d dep t l st n 68 4 = -4 then q_ltl d dep t st n m (l + 1) (nI l) (q_hh σ d dep t l st n) else (g, q_hh σ d dep t l st n)

set_option maxHeartbeats 1000000 in
set_option maxRecDepth 100000 in
theorem kX7_lateF {σ : q_M} {k d t st n : Int32} (hbad : (q_can σ k d t n && q_win st 1 50) = false) : q_Ct YX7_late [.ref 0, .int k, .int d, .int t, .int st, .int n] q_SH σ (q_is (some (-1)) q_SH σ) := by
  refine q_ct (n := 2) (by decide) (by decide) rfl (fun _ => Nat.le_of_ble_eq_true rfl) (fun E => ?_)
  refine q_aload_n dX7_late_0 rfl ?_
  refine q_iload_n dX7_late_1 rfl ?_
  refine q_iload_n dX7_late_2 rfl ?_
  refine q_iload_n dX7_late_3 rfl ?_
  refine q_iload dX7_late_4 rfl ?_
  refine q_cVi lX7_251 vX7_canHold (ci := 7) rfl dX7_late_6 kX7_canHold (by first | rfl | assumption) rfl rfl (Nat.le_of_ble_eq_true rfl) (by decide) ?_
  change q_G _ _ _ _ _ _ (.int (q_b (q_can σ k d t n)) :: _) _ _ _
  refine q_beq 20 dX7_late_9 (by decide) (fun h9 => ?_) (fun h9 => ?_)
  · refine q_iconst (x := (-1)) dX7_late_20 (by decide) ?_
    refine q_ret dX7_late_21 ?_ rfl rfl
    exact ⟨rfl, rfl, rfl⟩
  · refine q_iload dX7_late_12 rfl ?_
    refine q_cSi lX7_258 sX7_isStep dX7_late_14 kX7_isStep rfl rfl (Nat.le_of_ble_eq_true rfl) (by decide) ?_
    refine q_bne 22 dX7_late_17 (by decide) (fun h17 => ?_) (fun h17 => ?_)
    · exact absurd hbad (by simp [*])
    · refine q_iconst (x := (-1)) dX7_late_20 (by decide) ?_
      refine q_ret dX7_late_21 ?_ rfl rfl
      exact ⟨rfl, rfl, rfl⟩

set_option maxHeartbeats 1000000 in
set_option maxRecDepth 100000 in
theorem lpX7_late {E : q_E} {j N0 : Nat} {d t st : Int32} (hj : j < 6) (hN0 : N0 < 1000) : ∀ (n : Nat) (l : Nat) (g : Int32) (σ : q_M), 51 + 1 ≤ l + n → l ≤ 51 → (σ (23 + j) 7 = 0 ∨ σ (23 + j) 7 = 1) → q_G YX7_late E 0 0 29 [some (.ref 0), some (.int (nI j)), some (.int d), some (.int t), some (.int st), some (.int (nI N0)), some (.int g), some (.int (nI l))] [] q_SH σ (q_is (some (q_ltl (23 + j) d t st N0 (51 - l) l g σ).1) q_SH (q_ltl (23 + j) d t st N0 (51 - l) l g σ).2) := by
  intro n
  induction n with
  | zero =>
    intro l g σ hm h0 hz
    exact absurd hm (by omega)
  | succ n ih =>
    intro l g σ hm h0 hz
    have hkt := nI_toInt (n := j) (by omega)
    have hlt := nI_toInt (n := l) (by omega)
    have hc : (50 : Int32).toInt = 50 := rfl
    refine q_iload dX7_late_29 rfl ?_
    refine q_bipush (x := 50) dX7_late_31 (by decide) ?_
    refine q_cgt 74 dX7_late_33 (by decide) (fun h33 => ?_) (fun h33 => ?_)
    · have e : 51 - l = 0 := by omega
      rw [e]
      refine q_iload dX7_late_74 rfl ?_
      refine q_ret dX7_late_76 ?_ rfl rfl
      exact ⟨rfl, rfl, rfl⟩
    · refine q_aload_n dX7_late_36 rfl ?_
      refine q_iload_n dX7_late_37 rfl ?_
      refine q_iload_n dX7_late_38 rfl ?_
      refine q_iload_n dX7_late_39 rfl ?_
      refine q_iload dX7_late_40 rfl ?_
      refine q_iload dX7_late_42 rfl ?_
      refine q_iload dX7_late_44 rfl ?_
      have e : 51 - l = (51 - (l + 1)) + 1 := by omega
      refine q_cVv lX7_261 vX7_tryHold (ci := 7) rfl dX7_late_46 (kX7_tryHold (by omega) (by omega) hkt hj hz) (by first | rfl | assumption) rfl rfl (Nat.le_of_ble_eq_true rfl) (by decide) ?_
      change q_G _ _ _ _ _ _ _ _ (q_hh σ (23 + j) d t l st N0) _
      refine q_aload_n dX7_late_49 rfl ?_
      refine q_getr fX7_55 dX7_late_50 (by first | rfl | assumption) (by rfl) ?_
      refine q_get fX7_265 dX7_late_53 (by first | rfl | assumption) (by rfl) ?_
      refine q_bipush (x := (-4)) dX7_late_56 (by decide) ?_
      refine q_icmp_eq 64 dX7_late_58 (by decide) (fun h58 => ?_) (fun h58 => ?_)
      · rw [e, q_ltl, if_pos h58]
        refine q_iload dX7_late_64 rfl ?_
        refine q_istore dX7_late_66 (by decide) rfl ?_
        refine q_inc 1 dX7_late_68 (by decide) rfl (by decide) rfl ?_
        refine q_goto 29 dX7_late_71 (by decide) ?_
        rw [nI_1]
        exact ih (l + 1) (nI l) (q_hh σ (23 + j) d t l st N0) (by omega) (by omega) (by rw [q_hh_ne (by omega) (by omega) (by omega)]; exact hz)
      · rw [e, q_ltl, if_neg h58]
        refine q_iload dX7_late_61 rfl ?_
        refine q_ret dX7_late_63 ?_ rfl rfl
        exact ⟨rfl, rfl, rfl⟩

set_option maxHeartbeats 1000000 in
set_option maxRecDepth 100000 in
theorem kX7_late {σ : q_M} {j N0 : Nat} {d t st : Int32} (hj : j < 6) (hN0 : N0 < 1000) (hz : σ (23 + j) 7 = 0 ∨ σ (23 + j) 7 = 1) (hcan : q_can σ (nI j) d t (nI N0) = true) (hst : q_win st 1 50 = true) : q_Ct YX7_late [.ref 0, .int (nI j), .int d, .int t, .int st, .int (nI N0)] q_SH σ (q_is (some (q_ltl (23 + j) d t st N0 51 0 (-4) σ).1) q_SH (q_ltl (23 + j) d t st N0 51 0 (-4) σ).2) := by
  refine q_ct (n := 2) (by decide) (by decide) rfl (fun _ => Nat.le_of_ble_eq_true rfl) (fun E => ?_)
  refine q_aload_n dX7_late_0 rfl ?_
  refine q_iload_n dX7_late_1 rfl ?_
  refine q_iload_n dX7_late_2 rfl ?_
  refine q_iload_n dX7_late_3 rfl ?_
  refine q_iload dX7_late_4 rfl ?_
  refine q_cVi lX7_251 vX7_canHold (ci := 7) rfl dX7_late_6 kX7_canHold (by first | rfl | assumption) rfl rfl (Nat.le_of_ble_eq_true rfl) (by decide) ?_
  change q_G _ _ _ _ _ _ (.int (q_b (q_can σ (nI j) d t (nI N0))) :: _) _ _ _
  refine q_beq 20 dX7_late_9 (by decide) (fun h9 => ?_) (fun h9 => ?_)
  · exact absurd hcan (by rw [h9]; decide)
  · refine q_iload dX7_late_12 rfl ?_
    refine q_cSi lX7_258 sX7_isStep dX7_late_14 kX7_isStep rfl rfl (Nat.le_of_ble_eq_true rfl) (by decide) ?_
    refine q_bne 22 dX7_late_17 (by decide) (fun h17 => ?_) (fun h17 => ?_)
    · refine q_bipush (x := (-4)) dX7_late_22 (by decide) ?_
      refine q_istore dX7_late_24 (by decide) rfl ?_
      refine q_iconst (x := 0) dX7_late_26 (by decide) ?_
      refine q_istore dX7_late_27 (by decide) rfl ?_
      exact lpX7_late hj hN0 52 0 (-4) σ (by omega) (by omega) hz
    · exact absurd hst (by rw [h17]; decide)

def q_stl (d : Nat) (dep t : Int32) (b n : Nat) : Nat → Nat → Int32 → Int32 → q_M → (Int32 × Int32) × q_M
  | 0, _, g, w, σ => ((g, w), σ)
  | m + 1, s, g, w, σ => if w = -4 then ((g, w), σ) else if q_hh σ d dep t b (nI s) n 68 4 = -4 ∨ w.toInt < (q_hh σ d dep t b (nI s) n 68 4).toInt then q_stl d dep t b n m (s + 1) (nI s) (q_hh σ d dep t b (nI s) n 68 4) (q_hh σ d dep t b (nI s) n) else q_stl d dep t b n m (s + 1) g w (q_hh σ d dep t b (nI s) n)

set_option maxHeartbeats 1000000 in
set_option maxRecDepth 100000 in
theorem kX7_stepF {σ : q_M} {k d t l n w : Int32} (hbad : (q_can σ k d t n && q_win l 0 50 && q_win w 0 1) = false) : q_Ct YX7_step [.ref 0, .int k, .int d, .int t, .int l, .int n, .int w] q_SH σ (q_is (some (-1)) q_SH σ) := by
  refine q_ct (n := 3) (by decide) (by decide) rfl (fun _ => Nat.le_of_ble_eq_true rfl) (fun E => ?_)
  refine q_aload_n dX7_step_0 rfl ?_
  refine q_iload_n dX7_step_1 rfl ?_
  refine q_iload_n dX7_step_2 rfl ?_
  refine q_iload_n dX7_step_3 rfl ?_
  refine q_iload dX7_step_4 rfl ?_
  refine q_cVi lX7_251 vX7_canHold (ci := 7) rfl dX7_step_6 kX7_canHold (by first | rfl | assumption) rfl rfl (Nat.le_of_ble_eq_true rfl) (by decide) ?_
  change q_G _ _ _ _ _ _ (.int (q_b (q_can σ k d t n)) :: _) _ _ _
  refine q_beq 30 dX7_step_9 (by decide) (fun h9 => ?_) (fun h9 => ?_)
  · refine q_iconst (x := (-1)) dX7_step_30 (by decide) ?_
    refine q_ret dX7_step_31 ?_ rfl rfl
    exact ⟨rfl, rfl, rfl⟩
  · refine q_iload dX7_step_12 rfl ?_
    refine q_cSi lX7_255 sX7_isLate dX7_step_14 kX7_isLate rfl rfl (Nat.le_of_ble_eq_true rfl) (by decide) ?_
    refine q_beq 30 dX7_step_17 (by decide) (fun h17 => ?_) (fun h17 => ?_)
    · refine q_iconst (x := (-1)) dX7_step_30 (by decide) ?_
      refine q_ret dX7_step_31 ?_ rfl rfl
      exact ⟨rfl, rfl, rfl⟩
    · refine q_iload dX7_step_20 rfl ?_
      refine q_iconst (x := 0) dX7_step_22 (by decide) ?_
      refine q_iconst (x := 1) dX7_step_23 (by decide) ?_
      refine q_cSi lX7_77 sX7_within dX7_step_24 kX7_within rfl rfl (Nat.le_of_ble_eq_true rfl) (by decide) ?_
      refine q_bne 32 dX7_step_27 (by decide) (fun h27 => ?_) (fun h27 => ?_)
      · exact absurd hbad (by simp [*])
      · refine q_iconst (x := (-1)) dX7_step_30 (by decide) ?_
        refine q_ret dX7_step_31 ?_ rfl rfl
        exact ⟨rfl, rfl, rfl⟩

set_option maxHeartbeats 1000000 in
set_option maxRecDepth 100000 in
theorem lpX7_step {E : q_E} {j b N0 : Nat} {d t w : Int32} (hj : j < 6) (hb : b ≤ 50) (hN0 : N0 < 1000) : ∀ (n : Nat) (s : Nat) (g bl : Int32) (σ : q_M), 51 + 1 ≤ s + n → s ≤ 51 → 1 ≤ s → (σ (23 + j) 7 = 0 ∨ σ (23 + j) 7 = 1) → q_G YX7_step E 0 0 41 [some (.ref 0), some (.int (nI j)), some (.int d), some (.int t), some (.int (nI b)), some (.int (nI N0)), some (.int w), some (.int g), some (.int bl), some (.int (nI s))] [] q_SH σ (q_is (some (if w = 0 then (q_stl (23 + j) d t b N0 (51 - s) s g bl σ).1.1 else (q_stl (23 + j) d t b N0 (51 - s) s g bl σ).1.2)) q_SH (q_stl (23 + j) d t b N0 (51 - s) s g bl σ).2) := by
  intro n
  induction n with
  | zero =>
    intro s g bl σ hm h0 h1 hz
    exact absurd hm (by omega)
  | succ n ih =>
    intro s g bl σ hm h0 h1 hz
    have hkt := nI_toInt (n := j) (by omega)
    have hst := nI_toInt (n := s) (by omega)
    have hc : (50 : Int32).toInt = 50 := rfl
    refine q_iload dX7_step_41 rfl ?_
    refine q_bipush (x := 50) dX7_step_43 (by decide) ?_
    refine q_cgt 111 dX7_step_45 (by decide) (fun h45 => ?_) (fun h45 => ?_)
    · have e : 51 - s = 0 := by omega
      rw [e]
      refine q_iload dX7_step_111 rfl ?_
      refine q_if_ne 121 dX7_step_113 (by decide) (fun h113 => ?_) (fun h113 => ?_)
      · refine q_iload dX7_step_121 rfl ?_
        refine q_ret dX7_step_123 ?_ rfl rfl
        exact ⟨congrArg some (by simp [*, q_stl]), rfl, rfl⟩
      · refine q_iload dX7_step_116 rfl ?_
        refine q_goto 123 dX7_step_118 (by decide) ?_
        refine q_ret dX7_step_123 ?_ rfl rfl
        exact ⟨congrArg some (by simp [*, q_stl]), rfl, rfl⟩
    · refine q_iload dX7_step_48 rfl ?_
      refine q_bipush (x := (-4)) dX7_step_50 (by decide) ?_
      have e : 51 - s = (51 - (s + 1)) + 1 := by omega
      refine q_icmp_eq 111 dX7_step_52 (by decide) (fun h52 => ?_) (fun h52 => ?_)
      · rw [e, q_stl, if_pos h52]
        refine q_iload dX7_step_111 rfl ?_
        refine q_if_ne 121 dX7_step_113 (by decide) (fun h113 => ?_) (fun h113 => ?_)
        · refine q_iload dX7_step_121 rfl ?_
          refine q_ret dX7_step_123 ?_ rfl rfl
          exact ⟨congrArg some (by simp [*, q_stl]), rfl, rfl⟩
        · refine q_iload dX7_step_116 rfl ?_
          refine q_goto 123 dX7_step_118 (by decide) ?_
          refine q_ret dX7_step_123 ?_ rfl rfl
          exact ⟨congrArg some (by simp [*, q_stl]), rfl, rfl⟩
      · refine q_aload_n dX7_step_55 rfl ?_
        refine q_iload_n dX7_step_56 rfl ?_
        refine q_iload_n dX7_step_57 rfl ?_
        refine q_iload_n dX7_step_58 rfl ?_
        refine q_iload dX7_step_59 rfl ?_
        refine q_iload dX7_step_61 rfl ?_
        refine q_iload dX7_step_63 rfl ?_
        refine q_cVv lX7_261 vX7_tryHold (ci := 7) rfl dX7_step_65 (kX7_tryHold (by omega) (by omega) hkt hj hz) (by first | rfl | assumption) rfl rfl (Nat.le_of_ble_eq_true rfl) (by decide) ?_
        change q_G _ _ _ _ _ _ _ _ (q_hh σ (23 + j) d t b (nI s) N0) _
        refine q_aload_n dX7_step_68 rfl ?_
        refine q_getr fX7_55 dX7_step_69 (by first | rfl | assumption) (by rfl) ?_
        refine q_get fX7_265 dX7_step_72 (by first | rfl | assumption) (by rfl) ?_
        refine q_bipush (x := (-4)) dX7_step_75 (by decide) ?_
        refine q_icmp_eq 92 dX7_step_77 (by decide) (fun h77 => ?_) (fun h77 => ?_)
        · rw [e, q_stl, if_neg h52, if_pos (Or.inl h77)]
          refine q_iload dX7_step_92 rfl ?_
          refine q_istore dX7_step_94 (by decide) rfl ?_
          refine q_aload_n dX7_step_96 rfl ?_
          refine q_getr fX7_55 dX7_step_97 (by first | rfl | assumption) (by rfl) ?_
          refine q_get fX7_265 dX7_step_100 (by first | rfl | assumption) (by rfl) ?_
          refine q_istore dX7_step_103 (by decide) rfl ?_
          refine q_inc 1 dX7_step_105 (by decide) rfl (by decide) rfl ?_
          refine q_goto 41 dX7_step_108 (by decide) ?_
          rw [nI_1]
          exact ih (s + 1) _ _ (q_hh σ (23 + j) d t b (nI s) N0) (by omega) (by omega) (by omega) (by rw [q_hh_ne (by omega) (by omega) (by omega)]; exact hz)
        · refine q_aload_n dX7_step_80 rfl ?_
          refine q_getr fX7_55 dX7_step_81 (by first | rfl | assumption) (by rfl) ?_
          refine q_get fX7_265 dX7_step_84 (by first | rfl | assumption) (by rfl) ?_
          refine q_iload dX7_step_87 rfl ?_
          refine q_cle 105 dX7_step_89 (by decide) (fun h89 => ?_) (fun h89 => ?_)
          · rw [e, q_stl, if_neg h52, if_neg (show ¬ (q_hh σ (23 + j) d t b (nI s) N0 68 4 = -4 ∨ bl.toInt < (q_hh σ (23 + j) d t b (nI s) N0 68 4).toInt) from fun z => z.elim h77 (fun q => absurd q (by omega)))]
            refine q_inc 1 dX7_step_105 (by decide) rfl (by decide) rfl ?_
            refine q_goto 41 dX7_step_108 (by decide) ?_
            rw [nI_1]
            exact ih (s + 1) _ _ (q_hh σ (23 + j) d t b (nI s) N0) (by omega) (by omega) (by omega) (by rw [q_hh_ne (by omega) (by omega) (by omega)]; exact hz)
          · rw [e, q_stl, if_neg h52, if_pos (Or.inr h89)]
            refine q_iload dX7_step_92 rfl ?_
            refine q_istore dX7_step_94 (by decide) rfl ?_
            refine q_aload_n dX7_step_96 rfl ?_
            refine q_getr fX7_55 dX7_step_97 (by first | rfl | assumption) (by rfl) ?_
            refine q_get fX7_265 dX7_step_100 (by first | rfl | assumption) (by rfl) ?_
            refine q_istore dX7_step_103 (by decide) rfl ?_
            refine q_inc 1 dX7_step_105 (by decide) rfl (by decide) rfl ?_
            refine q_goto 41 dX7_step_108 (by decide) ?_
            rw [nI_1]
            exact ih (s + 1) _ _ (q_hh σ (23 + j) d t b (nI s) N0) (by omega) (by omega) (by omega) (by rw [q_hh_ne (by omega) (by omega) (by omega)]; exact hz)

set_option maxHeartbeats 1000000 in
set_option maxRecDepth 100000 in
theorem kX7_step {σ : q_M} {j b N0 : Nat} {d t w : Int32} (hj : j < 6) (hb : b ≤ 50) (hN0 : N0 < 1000) (hz : σ (23 + j) 7 = 0 ∨ σ (23 + j) 7 = 1) (hcan : q_can σ (nI j) d t (nI N0) = true) (hw : q_win w 0 1 = true) : q_Ct YX7_step [.ref 0, .int (nI j), .int d, .int t, .int (nI b), .int (nI N0), .int w] q_SH σ (q_is (some (if w = 0 then (q_stl (23 + j) d t b N0 50 1 1 0 σ).1.1 else (q_stl (23 + j) d t b N0 50 1 1 0 σ).1.2)) q_SH (q_stl (23 + j) d t b N0 50 1 1 0 σ).2) := by
  refine q_ct (n := 3) (by decide) (by decide) rfl (fun _ => Nat.le_of_ble_eq_true rfl) (fun E => ?_)
  have hbt := nI_toInt (n := b) (by omega)
  refine q_aload_n dX7_step_0 rfl ?_
  refine q_iload_n dX7_step_1 rfl ?_
  refine q_iload_n dX7_step_2 rfl ?_
  refine q_iload_n dX7_step_3 rfl ?_
  refine q_iload dX7_step_4 rfl ?_
  refine q_cVi lX7_251 vX7_canHold (ci := 7) rfl dX7_step_6 kX7_canHold (by first | rfl | assumption) rfl rfl (Nat.le_of_ble_eq_true rfl) (by decide) ?_
  change q_G _ _ _ _ _ _ (.int (q_b (q_can σ (nI j) d t (nI N0))) :: _) _ _ _
  refine q_beq 30 dX7_step_9 (by decide) (fun h9 => ?_) (fun h9 => ?_)
  · exact absurd hcan (by rw [h9]; decide)
  · refine q_iload dX7_step_12 rfl ?_
    refine q_cSi lX7_255 sX7_isLate dX7_step_14 kX7_isLate rfl rfl (Nat.le_of_ble_eq_true rfl) (by decide) ?_
    refine q_beq 30 dX7_step_17 (by decide) (fun h17 => ?_) (fun h17 => ?_)
    · exact absurd h17 (by rw [show q_win (nI b) 0 50 = true from decide_eq_true (by have e2 : (0 : Int32).toInt = 0 := rfl; have e6 : (50 : Int32).toInt = 50 := rfl; omega)]; decide)
    · refine q_iload dX7_step_20 rfl ?_
      refine q_iconst (x := 0) dX7_step_22 (by decide) ?_
      refine q_iconst (x := 1) dX7_step_23 (by decide) ?_
      refine q_cSi lX7_77 sX7_within dX7_step_24 kX7_within rfl rfl (Nat.le_of_ble_eq_true rfl) (by decide) ?_
      refine q_bne 32 dX7_step_27 (by decide) (fun h27 => ?_) (fun h27 => ?_)
      · refine q_iconst (x := 1) dX7_step_32 (by decide) ?_
        refine q_istore dX7_step_33 (by decide) rfl ?_
        refine q_iconst (x := 0) dX7_step_35 (by decide) ?_
        refine q_istore dX7_step_36 (by decide) rfl ?_
        refine q_iconst (x := 1) dX7_step_38 (by decide) ?_
        refine q_istore dX7_step_39 (by decide) rfl ?_
        exact lpX7_step hj hb hN0 51 1 1 0 σ (by omega) (by omega) (by omega) hz
      · exact absurd hw (by rw [h27]; decide)
