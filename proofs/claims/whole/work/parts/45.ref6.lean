/-! the reference: spread -/
def qm_ad (τ : q_M) (hv : Int32) (b m : Nat) : Nat := q_fN (fun t => qm_gb τ hv (nI b) (nI t)) 501 m
theorem q_fN_le (p : Nat → Bool) (n : Nat) : ∀ m, q_fN p n m ≤ n
  | 0 => Nat.le_refl n
  | m + 1 => by
    unfold q_fN
    split
    · omega
    · exact q_fN_le p n m
def qm_mk (τ : q_M) (hv : Int32) (b t : Nat) : q_M := if t ≤ 500 ∧ qm_cb τ hv (nI b) = true then q_up τ 81 t 1 else τ
/-- the thumbs laid, from the bubble 9999 - n on -/
def qm_ly (hv : Int32) : Nat → Nat → q_M → q_M
  | 0, _, τ => τ
  | n + 1, t, τ => if 500 < t then τ else qm_ly hv n (qm_ad τ hv (9999 - n) (501 - t)) (qm_mk τ hv (9999 - n) (qm_ad τ hv (9999 - n) (501 - t)))
/-- what the weights of the reference stand on -/
def qm_sw (H ar : Nat) (τ : q_M) : Prop := τ 75 0 = nI H ∧ τ 75 1 = nI ar
theorem qm_sw_mk {H ar b t : Nat} {hv : Int32} {τ : q_M} (h : qm_sw H ar τ) : qm_sw H ar (qm_mk τ hv b t) := by
  unfold qm_mk
  split
  · exact h
  · exact h

set_option maxHeartbeats 1000000 in
set_option maxRecDepth 100000 in
theorem lpX8_lay1 {E : q_E} {σ : q_M} {ar H : Nat} (hA1 : 1 ≤ ar) (hA2 : ar ≤ 100000) (h200 : H ≤ 200) (hs : qm_sw H ar σ) {hv : Int32} {b : Nat} {Q : q_P} : ∀ (n : Nat) (i : Nat), 501 + 1 ≤ i + n → i ≤ 501 → q_G YX8_layThumbs E 0 0 63 [some (.ref 72), some (.int hv), some (.int (nI (qm_ad σ hv b (501 - i)))), some (.int (nI b))] [] q_SH σ Q → q_G YX8_layThumbs E 0 0 40 [some (.ref 72), some (.int hv), some (.int (nI i)), some (.int (nI b))] [] q_SH σ Q := by
  intro n
  induction n with
  | zero =>
    intro i hm h0 K
    exact absurd hm (by omega)
  | succ n ih =>
    intro i hm h0 K
    have hi := nI_toInt (n := i) (by omega)
    have e5 : (500 : Int32).toInt = 500 := rfl
    refine q_iload_n dX8_layThumbs_40 rfl ?_
    refine q_sipush (x := 500) dX8_layThumbs_41 (by decide) ?_
    refine q_cgt 63 dX8_layThumbs_44 (by decide) (fun h44 => ?_) (fun h44 => ?_)
    · have e : 501 - i = 0 := by omega
      rw [e] at K
      have e2 : i = 501 := by omega
      subst e2
      exact K
    · refine q_aload_n dX8_layThumbs_47 rfl ?_
      refine q_iload_n dX8_layThumbs_48 rfl ?_
      refine q_iload_n dX8_layThumbs_49 rfl ?_
      refine q_iload_n dX8_layThumbs_50 rfl ?_
      refine q_cVi lX8_238 vX8_goesBy (ci := 8) rfl dX8_layThumbs_51 (kX8_goesBy hs.2 hA1 hA2 (t := i) (by omega)) (by first | rfl | assumption) rfl rfl (Nat.le_of_ble_eq_true rfl) (by decide) ?_
      refine q_bne 63 dX8_layThumbs_54 (by decide) (fun h54 => ?_) (fun h54 => ?_)
      · rw [qm_ad, show 501 - i = (501 - (i + 1)) + 1 by omega, q_fN, show 501 - (501 - (i + 1) + 1) = i by omega, if_pos h54] at K
        exact K
      · refine q_inc 1 dX8_layThumbs_57 (by decide) rfl (by decide) rfl ?_
        refine q_goto 40 dX8_layThumbs_60 (by decide) ?_
        rw [nI_1]
        rw [qm_ad, show 501 - i = (501 - (i + 1)) + 1 by omega, q_fN, show 501 - (501 - (i + 1) + 1) = i by omega, if_neg (by rw [h54]; decide)] at K
        exact ih (i + 1) (by omega) (by omega) K

set_option maxHeartbeats 1000000 in
set_option maxRecDepth 100000 in
theorem lpX8_lay2 {E : q_E} {ar H : Nat} (hA1 : 1 ≤ ar) (hA2 : ar ≤ 100000) (h200 : H ≤ 200) {hv : Int32} : ∀ (n : Nat) (b t : Nat) (σ : q_M), 10000 + 1 ≤ b + n → b ≤ 10000 → t ≤ 501 → qm_sw H ar σ → q_G YX8_layThumbs E 0 0 26 [some (.ref 72), some (.int hv), some (.int (nI t)), some (.int (nI b))] [] q_SH σ (q_is none q_SH (qm_ly hv (10000 - b) t σ)) := by
  intro n
  induction n with
  | zero =>
    intro b t σ hm h0 ht hs
    exact absurd hm (by omega)
  | succ n ih =>
    intro b t σ hm h0 ht hs
    have hi := nI_toInt (n := b) (by omega)
    have htt := nI_toInt (n := t) (by omega)
    have e5 : (500 : Int32).toInt = 500 := rfl
    have e9 : (9999 : Int32).toInt = 9999 := rfl
    refine q_iload_n dX8_layThumbs_26 rfl ?_
    refine q_sipush (x := 9999) dX8_layThumbs_27 (by decide) ?_
    refine q_cgt 92 dX8_layThumbs_30 (by decide) (fun h30 => ?_) (fun h30 => ?_)
    · have e : 10000 - b = 0 := by omega
      rw [e]
      refine q_vret dX8_layThumbs_92 ?_ rfl rfl
      exact ⟨rfl, rfl, rfl⟩
    · refine q_iload_n dX8_layThumbs_33 rfl ?_
      refine q_sipush (x := 500) dX8_layThumbs_34 (by decide) ?_
      refine q_cgt 92 dX8_layThumbs_37 (by decide) (fun h37 => ?_) (fun h37 => ?_)
      · rw [show 10000 - b = (9999 - b) + 1 by omega, qm_ly, if_pos (by omega)]
        refine q_vret dX8_layThumbs_92 ?_ rfl rfl
        exact ⟨rfl, rfl, rfl⟩
      · rw [show 10000 - b = (9999 - b) + 1 by omega, qm_ly, if_neg (by omega), show 9999 - (9999 - b) = b by omega]
        refine lpX8_lay1 hA1 hA2 h200 hs 502 t (by omega) ht ?_
        have hle := q_fN_le (fun t => qm_gb σ hv (nI b) (nI t)) 501 (501 - t)
        change qm_ad σ hv b (501 - t) ≤ 501 at hle
        generalize qm_ad σ hv b (501 - t) = t1 at hle ⊢
        have htt := nI_toInt (n := t1) (by omega)
        refine q_iload_n dX8_layThumbs_63 rfl ?_
        refine q_sipush (x := 500) dX8_layThumbs_64 (by decide) ?_
        refine q_cgt 86 dX8_layThumbs_67 (by decide) (fun h67 => ?_) (fun h67 => ?_)
        · have hk : qm_mk σ hv b t1 = σ := if_neg (fun z => absurd z.1 (by omega))
          refine q_inc 1 dX8_layThumbs_86 (by decide) rfl (by decide) rfl ?_
          refine q_goto 26 dX8_layThumbs_89 (by decide) ?_
          rw [nI_1]
          have z := ih (b + 1) t1 (qm_mk σ hv b t1) (by omega) (by omega) hle (qm_sw_mk hs)
          rw [hk] at z ⊢
          rw [show 9999 - b = 10000 - (b + 1) by omega]
          exact z
        · refine q_aload_n dX8_layThumbs_70 rfl ?_
          refine q_iload_n dX8_layThumbs_71 rfl ?_
          refine q_iload_n dX8_layThumbs_72 rfl ?_
          refine q_cVi lX8_234 vX8_comesBack (ci := 8) rfl dX8_layThumbs_73 (kX8_comesBack hs.2 hA1 hA2 hs.1 h200) (by first | rfl | assumption) rfl rfl (Nat.le_of_ble_eq_true rfl) (by decide) ?_
          refine q_beq 86 dX8_layThumbs_76 (by decide) (fun h76 => ?_) (fun h76 => ?_)
          · have hk : qm_mk σ hv b t1 = σ := if_neg (fun z => absurd (z.2.symm.trans h76) (by decide))
            refine q_inc 1 dX8_layThumbs_86 (by decide) rfl (by decide) rfl ?_
            refine q_goto 26 dX8_layThumbs_89 (by decide) ?_
            rw [nI_1]
            have z := ih (b + 1) t1 (qm_mk σ hv b t1) (by omega) (by omega) hle (qm_sw_mk hs)
            rw [hk] at z ⊢
            rw [show 9999 - b = 10000 - (b + 1) by omega]
            exact z
          · have hk : qm_mk σ hv b t1 = q_up σ 81 t1 1 := if_pos ⟨by omega, h76⟩
            refine q_aload_n dX8_layThumbs_79 rfl ?_
            refine q_getr fX8_35 dX8_layThumbs_80 (by first | rfl | assumption) (by rfl) ?_
            refine q_iload_n dX8_layThumbs_83 rfl ?_
            refine q_iconst (x := 1) dX8_layThumbs_84 (by decide) ?_
            refine q_zsto t1 (by first | rfl | assumption) htt (by omega) dX8_layThumbs_85 ?_
            refine q_inc 1 dX8_layThumbs_86 (by decide) rfl (by decide) rfl ?_
            refine q_goto 26 dX8_layThumbs_89 (by decide) ?_
            rw [nI_1]
            have z := ih (b + 1) t1 (qm_mk σ hv b t1) (by omega) (by omega) hle (qm_sw_mk hs)
            rw [hk] at z ⊢
            rw [show 9999 - b = 10000 - (b + 1) by omega]
            exact z

set_option maxHeartbeats 1000000 in
set_option maxRecDepth 100000 in
theorem lpX8_lay0 {E : q_E} {σ : q_M} {ar H : Nat} (hA1 : 1 ≤ ar) (hA2 : ar ≤ 100000) (h200 : H ≤ 200) (hs : qm_sw H ar σ) {hv : Int32} : ∀ (n : Nat) (i : Nat), 501 + 1 ≤ i + n → i ≤ 501 → q_G YX8_layThumbs E 0 0 2 [some (.ref 72), some (.int hv), some (.int (nI i)), none] [] q_SH (q_fill σ 81 (fun _ => 0) i) (q_is none q_SH (qm_ly hv 10000 0 (q_fill σ 81 (fun _ => 0) 501))) := by
  intro n
  induction n with
  | zero =>
    intro i hm h0
    exact absurd hm (by omega)
  | succ n ih =>
    intro i hm h0
    have hi := nI_toInt (n := i) (by omega)
    have e5 : (500 : Int32).toInt = 500 := rfl
    refine q_iload_n dX8_layThumbs_2 rfl ?_
    refine q_sipush (x := 500) dX8_layThumbs_3 (by decide) ?_
    refine q_cgt 22 dX8_layThumbs_6 (by decide) (fun h6 => ?_) (fun h6 => ?_)
    · refine q_iconst (x := 0) dX8_layThumbs_22 (by decide) ?_
      refine q_istore_n dX8_layThumbs_23 (by decide) rfl ?_
      refine q_iconst (x := 0) dX8_layThumbs_24 (by decide) ?_
      refine q_istore_n dX8_layThumbs_25 (by decide) rfl ?_
      have e : i = 501 := by omega
      subst e
      exact lpX8_lay2 hA1 hA2 h200 10001 0 0 _ (by omega) (by omega) (by omega) hs
    · refine q_aload_n dX8_layThumbs_9 rfl ?_
      refine q_getr fX8_35 dX8_layThumbs_10 (by first | rfl | assumption) (by rfl) ?_
      refine q_iload_n dX8_layThumbs_13 rfl ?_
      refine q_iconst (x := 0) dX8_layThumbs_14 (by decide) ?_
      refine q_zsto i (by first | rfl | assumption) hi (by omega) dX8_layThumbs_15 ?_
      refine q_inc 1 dX8_layThumbs_16 (by decide) rfl (by decide) rfl ?_
      refine q_goto 2 dX8_layThumbs_19 (by decide) ?_
      rw [nI_1, show vp_nar .boolean 0 = 0 from rfl, q_fill_s σ 81 (fun _ => 0)]
      exact ih (i + 1) (by omega) (by omega)

set_option maxHeartbeats 1000000 in
set_option maxRecDepth 100000 in
theorem kX8_layThumbs {σ : q_M} {ar H : Nat} (hA1 : 1 ≤ ar) (hA2 : ar ≤ 100000) (h200 : H ≤ 200) (hs : qm_sw H ar σ) {hv : Int32} : q_Ct YX8_layThumbs [.ref 72, .int hv] q_SH σ (q_is none q_SH (qm_ly hv 10000 0 (q_fill σ 81 (fun _ => 0) 501))) := by
  refine q_ct (n := 2) (by decide) (by decide) rfl (fun _ => Nat.le_of_ble_eq_true rfl) (fun E => ?_)
  refine q_iconst (x := 0) dX8_layThumbs_0 (by decide) ?_
  refine q_istore_n dX8_layThumbs_1 (by decide) rfl ?_
  have z := lpX8_lay0 (E := E) hA1 hA2 h200 hs (hv := hv) 502 0 (by omega) (by omega)
  rw [q_fill_0] at z
  exact z

def qm_tk (σ : q_M) (far : Int32) : Nat → Int32 × Int32
  | 0 => (0, -500)
  | n + 1 => if ¬ σ 81 n = 0 ∧ far.toInt ≤ (nI n - (qm_tk σ far n).2).toInt then ((qm_tk σ far n).1 + 1, nI n) else qm_tk σ far n

set_option maxHeartbeats 1000000 in
set_option maxRecDepth 100000 in
theorem lpX8_taken {E : q_E} {σ : q_M} {far : Int32} : ∀ (n : Nat) (i : Nat) (c l : Int32), 501 + 1 ≤ i + n → i ≤ 501 → (c, l) = qm_tk σ far i → q_G YX8_takenBy E 0 0 9 [some (.ref 72), some (.int far), some (.int c), some (.int l), some (.int (nI i))] [] q_SH σ (q_is (some ((qm_tk σ far 501).1)) q_SH σ) := by
  intro n
  induction n with
  | zero =>
    intro i c l hm h0 hc
    exact absurd hm (by omega)
  | succ n ih =>
    intro i c l hm h0 hc
    have hi := nI_toInt (n := i) (by omega)
    have e5 : (500 : Int32).toInt = 500 := rfl
    refine q_iload dX8_takenBy_9 rfl ?_
    refine q_sipush (x := 500) dX8_takenBy_11 (by decide) ?_
    refine q_cgt 47 dX8_takenBy_14 (by decide) (fun h14 => ?_) (fun h14 => ?_)
    · refine q_iload_n dX8_takenBy_47 rfl ?_
      refine q_ret dX8_takenBy_48 ?_ rfl rfl
      have e : i = 501 := by omega
      subst e
      exact ⟨congrArg some (by rw [← hc]), rfl, rfl⟩
    · refine q_aload_n dX8_takenBy_17 rfl ?_
      refine q_getr fX8_35 dX8_takenBy_18 (by first | rfl | assumption) (by rfl) ?_
      refine q_iload dX8_takenBy_21 rfl ?_
      refine q_zld i (by first | rfl | assumption) hi (by omega) dX8_takenBy_23 ?_
      refine q_if_eq 41 dX8_takenBy_24 (by decide) (fun h24 => ?_) (fun h24 => ?_)
      · have hk : qm_tk σ far (i + 1) = (c, l) := by rw [qm_tk, if_neg (fun z => z.1 h24), hc]
        refine q_inc 1 dX8_takenBy_41 (by decide) rfl (by decide) rfl ?_
        refine q_goto 9 dX8_takenBy_44 (by decide) ?_
        rw [nI_1]
        exact ih (i + 1) _ _ (by omega) (by omega) hk.symm
      · refine q_iload dX8_takenBy_27 rfl ?_
        refine q_iload_n dX8_takenBy_29 rfl ?_
        refine q_isub dX8_takenBy_30 ?_
        refine q_iload_n dX8_takenBy_31 rfl ?_
        refine q_clt 41 dX8_takenBy_32 (by decide) (fun h32 => ?_) (fun h32 => ?_)
        · have hk : qm_tk σ far (i + 1) = (c, l) := by rw [qm_tk, ← hc, if_neg (fun z => absurd z.2 (by show ¬ far.toInt ≤ (nI i - l).toInt; omega))]
          refine q_inc 1 dX8_takenBy_41 (by decide) rfl (by decide) rfl ?_
          refine q_goto 9 dX8_takenBy_44 (by decide) ?_
          rw [nI_1]
          exact ih (i + 1) _ _ (by omega) (by omega) hk.symm
        · have hk : qm_tk σ far (i + 1) = (c + 1, nI i) := by rw [qm_tk, ← hc, if_pos ⟨h24, h32⟩]
          refine q_inc 1 dX8_takenBy_35 (by decide) rfl (by decide) rfl ?_
          refine q_iload dX8_takenBy_38 rfl ?_
          refine q_istore_n dX8_takenBy_40 (by decide) rfl ?_
          refine q_inc 1 dX8_takenBy_41 (by decide) rfl (by decide) rfl ?_
          refine q_goto 9 dX8_takenBy_44 (by decide) ?_
          rw [nI_1]
          exact ih (i + 1) _ _ (by omega) (by omega) hk.symm

set_option maxHeartbeats 1000000 in
set_option maxRecDepth 100000 in
theorem kX8_takenBy {σ : q_M} {far : Int32} : q_Ct YX8_takenBy [.ref 72, .int far] q_SH σ (q_is (some ((qm_tk σ far 501).1)) q_SH σ) := by
  refine q_ct (n := 3) (by decide) (by decide) rfl (fun _ => Nat.le_of_ble_eq_true rfl) (fun E => ?_)
  refine q_iconst (x := 0) dX8_takenBy_0 (by decide) ?_
  refine q_istore_n dX8_takenBy_1 (by decide) rfl ?_
  refine q_sipush (x := (-500)) dX8_takenBy_2 (by decide) ?_
  refine q_istore_n dX8_takenBy_5 (by decide) rfl ?_
  refine q_iconst (x := 0) dX8_takenBy_6 (by decide) ?_
  refine q_istore dX8_takenBy_7 (by decide) rfl ?_
  exact lpX8_taken 502 0 0 (-500) (by omega) (by omega) rfl

set_option maxHeartbeats 1000000 in
set_option maxRecDepth 100000 in
theorem lpX8_spr2 {E : q_E} {σ : q_M} {hv x w : Int32} {f : Nat} (hf : f ≤ 500) : ∀ (n : Nat) (i : Nat), 500 + 1 ≤ i + n → i ≤ 500 → q_G YX8_spread E 0 0 70 [some (.ref 72), some (.int hv), some (.int x), some (.int w), some (.int (nI f)), some (.int (nI i))] [] q_SH σ (q_is (some (if f = 0 then -4 else if w = 0 then nI f else nI (q_fN (fun t => decide (¬ σ 81 t = 0)) 500 (500 - i)))) q_SH σ) := by
  intro n
  induction n with
  | zero =>
    intro i hm h0
    exact absurd hm (by omega)
  | succ n ih =>
    intro i hm h0
    have hi := nI_toInt (n := i) (by omega)
    have e5 : (500 : Int32).toInt = 500 := rfl
    refine q_iload dX8_spread_70 rfl ?_
    refine q_sipush (x := 500) dX8_spread_72 (by decide) ?_
    refine q_cge 94 dX8_spread_75 (by decide) (fun h75 => ?_) (fun h75 => ?_)
    · have ei : q_fN (fun t => decide (¬ σ 81 t = 0)) 500 (500 - i) = i := by rw [show 500 - i = 0 by omega]; show 500 = i; omega
      refine q_iload dX8_spread_94 rfl ?_
      refine q_if_ne 104 dX8_spread_96 (by decide) (fun h96 => ?_) (fun h96 => ?_)
      · have h96 : ¬ f = 0 := fun z => h96 (by rw [z]; rfl)
        refine q_iload_n dX8_spread_104 rfl ?_
        refine q_if_ne 113 dX8_spread_105 (by decide) (fun h105 => ?_) (fun h105 => ?_)
        · refine q_iload dX8_spread_113 rfl ?_
          refine q_ret dX8_spread_115 ?_ rfl rfl
          exact ⟨congrArg some (by rw [ei]; simp [*]), rfl, rfl⟩
        · refine q_iload dX8_spread_108 rfl ?_
          refine q_goto 115 dX8_spread_110 (by decide) ?_
          refine q_ret dX8_spread_115 ?_ rfl rfl
          exact ⟨congrArg some (by rw [ei]; simp [*]), rfl, rfl⟩
      · have h96 : f = 0 := (nI_eq (b := 0) (by omega) (by omega)).mp h96
        refine q_bipush (x := (-4)) dX8_spread_99 (by decide) ?_
        refine q_goto 115 dX8_spread_101 (by decide) ?_
        refine q_ret dX8_spread_115 ?_ rfl rfl
        exact ⟨congrArg some (by rw [ei]; simp [*]), rfl, rfl⟩
    · refine q_aload_n dX8_spread_78 rfl ?_
      refine q_getr fX8_35 dX8_spread_79 (by first | rfl | assumption) (by rfl) ?_
      refine q_iload dX8_spread_82 rfl ?_
      refine q_zld i (by first | rfl | assumption) hi (by omega) dX8_spread_84 ?_
      refine q_if_ne 94 dX8_spread_85 (by decide) (fun h85 => ?_) (fun h85 => ?_)
      · have ei : q_fN (fun t => decide (¬ σ 81 t = 0)) 500 (500 - i) = i := by rw [show 500 - i = (500 - (i + 1)) + 1 by omega, q_fN, show 500 - (500 - (i + 1) + 1) = i by omega, if_pos (decide_eq_true h85)]
        refine q_iload dX8_spread_94 rfl ?_
        refine q_if_ne 104 dX8_spread_96 (by decide) (fun h96 => ?_) (fun h96 => ?_)
        · have h96 : ¬ f = 0 := fun z => h96 (by rw [z]; rfl)
          refine q_iload_n dX8_spread_104 rfl ?_
          refine q_if_ne 113 dX8_spread_105 (by decide) (fun h105 => ?_) (fun h105 => ?_)
          · refine q_iload dX8_spread_113 rfl ?_
            refine q_ret dX8_spread_115 ?_ rfl rfl
            exact ⟨congrArg some (by rw [ei]; simp [*]), rfl, rfl⟩
          · refine q_iload dX8_spread_108 rfl ?_
            refine q_goto 115 dX8_spread_110 (by decide) ?_
            refine q_ret dX8_spread_115 ?_ rfl rfl
            exact ⟨congrArg some (by rw [ei]; simp [*]), rfl, rfl⟩
        · have h96 : f = 0 := (nI_eq (b := 0) (by omega) (by omega)).mp h96
          refine q_bipush (x := (-4)) dX8_spread_99 (by decide) ?_
          refine q_goto 115 dX8_spread_101 (by decide) ?_
          refine q_ret dX8_spread_115 ?_ rfl rfl
          exact ⟨congrArg some (by rw [ei]; simp [*]), rfl, rfl⟩
      · have ei : q_fN (fun t => decide (¬ σ 81 t = 0)) 500 (500 - i) = q_fN (fun t => decide (¬ σ 81 t = 0)) 500 (500 - (i + 1)) := by rw [show 500 - i = (500 - (i + 1)) + 1 by omega, q_fN, show 500 - (500 - (i + 1) + 1) = i by omega, if_neg (by simp [h85])]
        refine q_inc 1 dX8_spread_88 (by decide) rfl (by decide) rfl ?_
        refine q_goto 70 dX8_spread_91 (by decide) ?_
        rw [nI_1, ei]
        exact ih (i + 1) (by omega) (by omega)

set_option maxHeartbeats 1000000 in
set_option maxRecDepth 100000 in
theorem lpX8_spr1 {E : q_E} {σ : q_M} {hv x w : Int32} : ∀ (n : Nat) (i : Nat), 500 + 1 ≤ i + n → i ≤ 500 → q_G YX8_spread E 0 0 41 [some (.ref 72), some (.int hv), some (.int x), some (.int w), some (.int (nI i)), none] [] q_SH σ (q_is (some (if q_fN (fun f => decide ((qm_tk σ (nI (f + 1)) 501).1.toInt < x.toInt)) 500 (500 - i) = 0 then -4 else if w = 0 then nI (q_fN (fun f => decide ((qm_tk σ (nI (f + 1)) 501).1.toInt < x.toInt)) 500 (500 - i)) else nI (q_fN (fun t => decide (¬ σ 81 t = 0)) 500 500))) q_SH σ) := by
  intro n
  induction n with
  | zero =>
    intro i hm h0
    exact absurd hm (by omega)
  | succ n ih =>
    intro i hm h0
    have hi := nI_toInt (n := i) (by omega)
    have e5 : (500 : Int32).toInt = 500 := rfl
    refine q_iload dX8_spread_41 rfl ?_
    refine q_sipush (x := 500) dX8_spread_43 (by decide) ?_
    refine q_cge 67 dX8_spread_46 (by decide) (fun h46 => ?_) (fun h46 => ?_)
    · have ei : q_fN (fun f => decide ((qm_tk σ (nI (f + 1)) 501).1.toInt < x.toInt)) 500 (500 - i) = i := by rw [show 500 - i = 0 by omega]; show 500 = i; omega
      refine q_iconst (x := 0) dX8_spread_67 (by decide) ?_
      refine q_istore dX8_spread_68 (by decide) rfl ?_
      rw [ei]
      exact lpX8_spr2 (by omega) 501 0 (by omega) (by omega)
    · refine q_aload_n dX8_spread_49 rfl ?_
      refine q_iload dX8_spread_50 rfl ?_
      refine q_iconst (x := 1) dX8_spread_52 (by decide) ?_
      refine q_iadd dX8_spread_53 ?_
      rw [nI_1]
      refine q_cVi lX8_251 vX8_takenBy (ci := 8) rfl dX8_spread_54 kX8_takenBy (by first | rfl | assumption) rfl rfl (Nat.le_of_ble_eq_true rfl) (by decide) ?_
      refine q_iload_n dX8_spread_57 rfl ?_
      refine q_clt 67 dX8_spread_58 (by decide) (fun h58 => ?_) (fun h58 => ?_)
      · have ei : q_fN (fun f => decide ((qm_tk σ (nI (f + 1)) 501).1.toInt < x.toInt)) 500 (500 - i) = i := by rw [show 500 - i = (500 - (i + 1)) + 1 by omega, q_fN, show 500 - (500 - (i + 1) + 1) = i by omega, if_pos (decide_eq_true h58)]
        refine q_iconst (x := 0) dX8_spread_67 (by decide) ?_
        refine q_istore dX8_spread_68 (by decide) rfl ?_
        rw [ei]
        exact lpX8_spr2 (by omega) 501 0 (by omega) (by omega)
      · have ei : q_fN (fun f => decide ((qm_tk σ (nI (f + 1)) 501).1.toInt < x.toInt)) 500 (500 - i) = q_fN (fun f => decide ((qm_tk σ (nI (f + 1)) 501).1.toInt < x.toInt)) 500 (500 - (i + 1)) := by rw [show 500 - i = (500 - (i + 1)) + 1 by omega, q_fN, show 500 - (500 - (i + 1) + 1) = i by omega, if_neg (by rw [decide_eq_true_eq]; omega)]
        refine q_inc 1 dX8_spread_61 (by decide) rfl (by decide) rfl ?_
        refine q_goto 41 dX8_spread_64 (by decide) ?_
        rw [nI_1, ei]
        exact ih (i + 1) (by omega) (by omega)

def qm_sr (σ : q_M) (x w : Int32) : Int32 := (if q_fN (fun f => decide ((qm_tk σ (nI (f + 1)) 501).1.toInt < x.toInt)) 500 500 = 0 then -4 else if w = 0 then nI (q_fN (fun f => decide ((qm_tk σ (nI (f + 1)) 501).1.toInt < x.toInt)) 500 500) else nI (q_fN (fun t => decide (¬ σ 81 t = 0)) 500 500))

set_option maxHeartbeats 1000000 in
set_option maxRecDepth 100000 in
theorem kX8_spread {σ : q_M} {ar H : Nat} (hA1 : 1 ≤ ar) (hA2 : ar ≤ 100000) (h200 : H ≤ 200) (hs : qm_sw H ar σ) {hv x w : Int32} (hh : q_win hv 1 999 = true) (hx : q_win x 2 6 = true) (hw : q_win w 0 1 = true) : q_Ct YX8_spread [.ref 72, .int hv, .int x, .int w] q_SH σ (q_is (some (qm_sr (qm_ly hv 10000 0 (q_fill σ 81 (fun _ => 0) 501)) x w)) q_SH ((qm_ly hv 10000 0 (q_fill σ 81 (fun _ => 0) 501)))) := by
  refine q_ct (n := 2) (by decide) (by decide) rfl (fun _ => Nat.le_of_ble_eq_true rfl) (fun E => ?_)
  refine q_iload_n dX8_spread_0 rfl ?_
  refine q_cSi lX8_226 sX8_isHeavy dX8_spread_1 kX8_isHeavy rfl rfl (Nat.le_of_ble_eq_true rfl) (by decide) ?_
  refine q_beq 31 dX8_spread_4 (by decide) (fun h4 => ?_) (fun h4 => ?_)
  · exact absurd hh (by rw [h4]; decide)
  · refine q_iload_n dX8_spread_7 rfl ?_
    refine q_i2l dX8_spread_8 ?_
    refine q_ldc2 kX8_229 dX8_spread_9 ?_
    refine q_ldc2 kX8_145 dX8_spread_12 ?_
    refine q_cSi lX8_72 sX8_in dX8_spread_15 (kX8_in (x := x) (lo := 2) (hi := 6) (Int32.toInt_toInt64 _) rfl rfl) rfl rfl (Nat.le_of_ble_eq_true rfl) (by decide) ?_
    refine q_beq 31 dX8_spread_18 (by decide) (fun h18 => ?_) (fun h18 => ?_)
    · exact absurd hx (by rw [h18]; decide)
    · refine q_iload_n dX8_spread_21 rfl ?_
      refine q_i2l dX8_spread_22 ?_
      refine q_lconst (x := 0) dX8_spread_23 (by decide) ?_
      refine q_lconst (x := 1) dX8_spread_24 (by decide) ?_
      refine q_cSi lX8_72 sX8_in dX8_spread_25 (kX8_in (x := w) (lo := 0) (hi := 1) (Int32.toInt_toInt64 _) rfl rfl) rfl rfl (Nat.le_of_ble_eq_true rfl) (by decide) ?_
      refine q_bne 33 dX8_spread_28 (by decide) (fun h28 => ?_) (fun h28 => ?_)
      · refine q_aload_n dX8_spread_33 rfl ?_
        refine q_iload_n dX8_spread_34 rfl ?_
        refine q_cVv lX8_248 vX8_layThumbs (ci := 8) rfl dX8_spread_35 (kX8_layThumbs hA1 hA2 h200 hs) (by first | rfl | assumption) rfl rfl (Nat.le_of_ble_eq_true rfl) (by decide) ?_
        refine q_iconst (x := 0) dX8_spread_38 (by decide) ?_
        refine q_istore dX8_spread_39 (by decide) rfl ?_
        exact lpX8_spr1 501 0 (by omega) (by omega)
      · exact absurd hw (by rw [h28]; decide)

set_option maxHeartbeats 1000000 in
set_option maxRecDepth 100000 in
theorem kX8_spreadB {σ : q_M} {hv x w : Int32} (hbad : (q_win hv 1 999 && q_win x 2 6 && q_win w 0 1) = false) : q_Ct YX8_spread [.ref 72, .int hv, .int x, .int w] q_SH σ (q_is (some (-1)) q_SH σ) := by
  refine q_ct (n := 2) (by decide) (by decide) rfl (fun _ => Nat.le_of_ble_eq_true rfl) (fun E => ?_)
  refine q_iload_n dX8_spread_0 rfl ?_
  refine q_cSi lX8_226 sX8_isHeavy dX8_spread_1 kX8_isHeavy rfl rfl (Nat.le_of_ble_eq_true rfl) (by decide) ?_
  refine q_beq 31 dX8_spread_4 (by decide) (fun h4 => ?_) (fun h4 => ?_)
  · refine q_iconst (x := (-1)) dX8_spread_31 (by decide) ?_
    refine q_ret dX8_spread_32 ?_ rfl rfl
    exact ⟨rfl, rfl, rfl⟩
  · refine q_iload_n dX8_spread_7 rfl ?_
    refine q_i2l dX8_spread_8 ?_
    refine q_ldc2 kX8_229 dX8_spread_9 ?_
    refine q_ldc2 kX8_145 dX8_spread_12 ?_
    refine q_cSi lX8_72 sX8_in dX8_spread_15 (kX8_in (x := x) (lo := 2) (hi := 6) (Int32.toInt_toInt64 _) rfl rfl) rfl rfl (Nat.le_of_ble_eq_true rfl) (by decide) ?_
    refine q_beq 31 dX8_spread_18 (by decide) (fun h18 => ?_) (fun h18 => ?_)
    · refine q_iconst (x := (-1)) dX8_spread_31 (by decide) ?_
      refine q_ret dX8_spread_32 ?_ rfl rfl
      exact ⟨rfl, rfl, rfl⟩
    · refine q_iload_n dX8_spread_21 rfl ?_
      refine q_i2l dX8_spread_22 ?_
      refine q_lconst (x := 0) dX8_spread_23 (by decide) ?_
      refine q_lconst (x := 1) dX8_spread_24 (by decide) ?_
      refine q_cSi lX8_72 sX8_in dX8_spread_25 (kX8_in (x := w) (lo := 0) (hi := 1) (Int32.toInt_toInt64 _) rfl rfl) rfl rfl (Nat.le_of_ble_eq_true rfl) (by decide) ?_
      refine q_bne 33 dX8_spread_28 (by decide) (fun h28 => ?_) (fun h28 => ?_)
      · exact absurd hbad (by simp [*])
      · refine q_iconst (x := (-1)) dX8_spread_31 (by decide) ?_
        refine q_ret dX8_spread_32 ?_ rfl rfl
        exact ⟨rfl, rfl, rfl⟩
