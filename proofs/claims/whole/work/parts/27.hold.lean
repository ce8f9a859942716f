/-! a tick of a diver; a hold; which bubbles, which thumbs -/
theorem q_lset {Y : q_Y} {E : q_E} {u v pc : Nat} {ls : List (Option Value)} {st : List Value} {sh : List q_S} {σ : q_M} {Q : q_P} (i : Nat) (k : q_G Y E u v pc (ls.set i none) st sh σ Q) : q_G Y E u v pc ls st sh σ Q := by
  refine q_lsub (fun j w h => ?_) k
  rw [List.getElem?_set] at h
  split at h
  · split at h <;> simp at h
  · exact h
theorem q_topi {Y : q_Y} {E : q_E} {u v pc : Nat} {ls : List (Option Value)} {st : List Value} {sh : List q_S} {σ : q_M} {Q : q_P} {x : Int32} (k : ∀ y : Int32, y = x → q_G Y E u v pc ls (.int y :: st) sh σ Q) : q_G Y E u v pc ls (.int x :: st) sh σ Q := k x rfl
def q_cf (σ : q_M) (d : Nat) : q_M := if σ d 7 = 0 ∨ σ 17 7 = 0 then q_up σ d 1 (q_max 0 (σ d 1 - σ d 2)) else q_up (q_up (q_up σ d 1 (q_max 0 (σ d 1 - σ d 2))) d 4 (σ 15 6)) 17 7 0
def q_ctp (σ : q_M) (d : Nat) : q_M := if σ d 4 = 0 then σ else q_up (q_up σ d 4 0) 17 6 (σ 17 6 + 1)
def q_mvd (σ : q_M) (d : Nat) : Int32 × Int32 := q_mv (σ d 5) (σ d 6) (q_Wc σ d (q_dc (σ d 5) 64) (σ 17 3)) (σ 15 3) (σ 15 0 * 64)
def q_mm (σ : q_M) (d : Nat) : q_M := q_up (q_up σ d 5 (q_mvd σ d).1) d 6 (q_mvd σ d).2
theorem q_mm_5 (σ : q_M) (d : Nat) : q_mm σ d d 5 = (q_mvd σ d).1 := by rw [q_mm, q_up_65, q_up_at]
theorem q_mm_ne {σ : q_M} {d x k : Nat} (h : x ≠ d) : q_mm σ d x k = σ x k := by rw [q_mm, q_up_g h, q_up_g h]
theorem q_cf_5 {σ : q_M} {d : Nat} (h : (17 : Nat) ≠ d) : q_cf σ d d 5 = σ d 5 := by
  unfold q_cf
  split
  · rw [q_up_f (by decide)]
  · rw [q_up_g (Ne.symm h), q_up_f (by decide), q_up_f (by decide)]
def q_md (σ : q_M) (d : Nat) : q_M := if (q_mvd σ d).1 = σ d 5 then q_mm σ d else if (q_mvd σ d).1 = σ 15 0 * 64 then (if (q_mvd σ d).1 = 0 then q_ctp (q_cf (q_mm σ d) d) d else q_cf (q_mm σ d) d) else (if (q_mvd σ d).1 = 0 then q_ctp (q_mm σ d) d else q_mm σ d)

set_option maxHeartbeats 1000000 in
set_option maxRecDepth 100000 in
theorem kX7_comeToFloor {σ : q_M} {d : Nat} (hd : q_SH[d]? = some q_sD) (h17 : (17 : Nat) ≠ d) (h15 : (15 : Nat) ≠ d) : q_Ct YX7_comeToFloor [.ref 0, .ref d] q_SH σ (q_is none q_SH (q_cf σ d)) := by
  refine q_ct (n := 0) (by decide) (by decide) rfl (fun _ => Nat.le_of_ble_eq_true rfl) (fun E => ?_)
  refine q_aload_n dX7_comeToFloor_0 rfl ?_
  refine q_iconst (x := 0) dX7_comeToFloor_1 (by decide) ?_
  refine q_aload_n dX7_comeToFloor_2 rfl ?_
  refine q_get fX7_127 dX7_comeToFloor_3 (by first | rfl | assumption) (by rfl) ?_
  refine q_aload_n dX7_comeToFloor_6 rfl ?_
  refine q_get fX7_130 dX7_comeToFloor_7 (by first | rfl | assumption) (by rfl) ?_
  refine q_isub dX7_comeToFloor_10 ?_
  refine q_cSi lX7_280 sJ9_max_7cf53 dX7_comeToFloor_11 kmax rfl rfl (Nat.le_of_ble_eq_true rfl) (by decide) ?_
  refine q_put_i pX7_127 dX7_comeToFloor_14 (by first | rfl | assumption) (by rfl) rfl rfl ?_
  refine q_aload_n dX7_comeToFloor_17 rfl ?_
  refine q_get fX7_136 dX7_comeToFloor_18 (by first | rfl | assumption) (by rfl) ?_
  rw [q_up_f (by decide)]
  refine q_if_eq 34 dX7_comeToFloor_21 (by decide) (fun h21 => ?_) (fun h21 => ?_)
  · refine q_vret dX7_comeToFloor_34 ?_ rfl rfl
    exact ⟨rfl, rfl, by simp [q_cf, *]⟩
  · refine q_aload_n dX7_comeToFloor_24 rfl ?_
    refine q_getr fX7_26 dX7_comeToFloor_25 (by first | rfl | assumption) (by rfl) ?_
    refine q_get fX7_191 dX7_comeToFloor_28 (by first | rfl | assumption) (by rfl) ?_
    rw [q_up_g h17]
    refine q_if_ne 35 dX7_comeToFloor_31 (by decide) (fun h31 => ?_) (fun h31 => ?_)
    · refine q_aload_n dX7_comeToFloor_35 rfl ?_
      refine q_aload_n dX7_comeToFloor_36 rfl ?_
      refine q_getr fX7_19 dX7_comeToFloor_37 (by first | rfl | assumption) (by rfl) ?_
      refine q_getr fX7_62 dX7_comeToFloor_40 (by first | rfl | assumption) (by rfl) ?_
      refine q_bipush (x := 6) dX7_comeToFloor_43 (by decide) ?_
      refine q_ild 6 (by first | rfl | assumption) rfl (by decide) dX7_comeToFloor_45 ?_
      rw [q_up_g h15]
      refine q_put_i pX7_144 dX7_comeToFloor_46 (by first | rfl | assumption) (by rfl) rfl rfl ?_
      refine q_aload_n dX7_comeToFloor_49 rfl ?_
      refine q_getr fX7_26 dX7_comeToFloor_50 (by first | rfl | assumption) (by rfl) ?_
      refine q_iconst (x := 0) dX7_comeToFloor_53 (by decide) ?_
      refine q_put_i pX7_191 dX7_comeToFloor_54 (by first | rfl | assumption) (by rfl) rfl rfl ?_
      refine q_vret dX7_comeToFloor_57 ?_ rfl rfl
      exact ⟨rfl, rfl, by simp [q_cf, *]⟩
    · refine q_vret dX7_comeToFloor_34 ?_ rfl rfl
      exact ⟨rfl, rfl, by simp [q_cf, *]⟩

set_option maxHeartbeats 1000000 in
set_option maxRecDepth 100000 in
theorem kX7_comeToTop {σ : q_M} {d : Nat} (hd : q_SH[d]? = some q_sD) (h17 : (17 : Nat) ≠ d) (h15 : (15 : Nat) ≠ d) : q_Ct YX7_comeToTop [.ref 0, .ref d] q_SH σ (q_is none q_SH (q_ctp σ d)) := by
  refine q_ct (n := 0) (by decide) (by decide) rfl (fun _ => Nat.le_of_ble_eq_true rfl) (fun E => ?_)
  refine q_aload_n dX7_comeToTop_0 rfl ?_
  refine q_get fX7_144 dX7_comeToTop_1 (by first | rfl | assumption) (by rfl) ?_
  refine q_if_ne 8 dX7_comeToTop_4 (by decide) (fun h4 => ?_) (fun h4 => ?_)
  · refine q_aload_n dX7_comeToTop_8 rfl ?_
    refine q_iconst (x := 0) dX7_comeToTop_9 (by decide) ?_
    refine q_put_i pX7_144 dX7_comeToTop_10 (by first | rfl | assumption) (by rfl) rfl rfl ?_
    refine q_aload_n dX7_comeToTop_13 rfl ?_
    refine q_getr fX7_26 dX7_comeToTop_14 (by first | rfl | assumption) (by rfl) ?_
    refine q_dup rfl dX7_comeToTop_17 ?_
    refine q_get fX7_194 dX7_comeToTop_18 (by first | rfl | assumption) (by rfl) ?_
    rw [q_up_g h17]
    refine q_iconst (x := 1) dX7_comeToTop_21 (by decide) ?_
    refine q_iadd dX7_comeToTop_22 ?_
    refine q_put_i pX7_194 dX7_comeToTop_23 (by first | rfl | assumption) (by rfl) rfl rfl ?_
    refine q_vret dX7_comeToTop_26 ?_ rfl rfl
    exact ⟨rfl, rfl, by simp [q_ctp, *]⟩
  · refine q_vret dX7_comeToTop_7 ?_ rfl rfl
    exact ⟨rfl, rfl, by simp [q_ctp, *]⟩

set_option maxHeartbeats 1000000 in
set_option maxRecDepth 100000 in
theorem kX7_moveDiver {σ : q_M} {d : Nat} (hd : q_SH[d]? = some q_sD) (h17 : (17 : Nat) ≠ d) (h15 : (15 : Nat) ≠ d) : q_Ct YX7_moveDiver [.ref 0, .ref d] q_SH σ (q_is none q_SH (q_md σ d)) := by
  refine q_ct (n := 1) (by decide) (by decide) rfl (fun _ => Nat.le_of_ble_eq_true rfl) (fun E => ?_)
  refine q_aload_n dX7_moveDiver_0 rfl ?_
  refine q_get fX7_151 dX7_moveDiver_1 (by first | rfl | assumption) (by rfl) ?_
  refine q_istore_n dX7_moveDiver_4 (by decide) rfl ?_
  refine q_aload_n dX7_moveDiver_5 rfl ?_
  refine q_aload_n dX7_moveDiver_6 rfl ?_
  refine q_aload_n dX7_moveDiver_7 rfl ?_
  refine q_aload_n dX7_moveDiver_8 rfl ?_
  refine q_cVi lX7_147 vX0_depth (ci := 0) rfl dX7_moveDiver_9 (kX0_depth (by first | rfl | assumption)) (by first | rfl | assumption) rfl rfl (Nat.le_of_ble_eq_true rfl) (by decide) ?_
  refine q_aload_n dX7_moveDiver_12 rfl ?_
  refine q_getr fX7_26 dX7_moveDiver_13 (by first | rfl | assumption) (by rfl) ?_
  refine q_get fX7_157 dX7_moveDiver_16 (by first | rfl | assumption) (by rfl) ?_
  refine q_cVi lX7_160 vX7_weightOf (ci := 7) rfl dX7_moveDiver_19 (kX7_weightOf (by first | rfl | assumption)) (by first | rfl | assumption) rfl rfl (Nat.le_of_ble_eq_true rfl) (by decide) ?_
  refine q_aload_n dX7_moveDiver_22 rfl ?_
  refine q_getr fX7_19 dX7_moveDiver_23 (by first | rfl | assumption) (by rfl) ?_
  refine q_getr fX7_62 dX7_moveDiver_26 (by first | rfl | assumption) (by rfl) ?_
  refine q_iconst (x := 3) dX7_moveDiver_29 (by decide) ?_
  refine q_ild 3 (by first | rfl | assumption) rfl (by decide) dX7_moveDiver_30 ?_
  refine q_aload_n dX7_moveDiver_31 rfl ?_
  refine q_getr fX7_19 dX7_moveDiver_32 (by first | rfl | assumption) (by rfl) ?_
  refine q_cVi lX7_181 vX6_floor (ci := 6) rfl dX7_moveDiver_35 (kX6_floor (by first | rfl | assumption) (by first | rfl | assumption)) (by first | rfl | assumption) rfl rfl (Nat.le_of_ble_eq_true rfl) (by decide) ?_
  refine q_cVv lX7_347 vX0_move (ci := 0) rfl dX7_moveDiver_38 (kX0_move (by first | rfl | assumption)) (by first | rfl | assumption) rfl rfl (Nat.le_of_ble_eq_true rfl) (by decide) ?_
  change q_G _ _ _ _ _ _ _ _ (q_mm σ d) _
  refine q_aload_n dX7_moveDiver_41 rfl ?_
  refine q_get fX7_151 dX7_moveDiver_42 (by first | rfl | assumption) (by rfl) ?_
  rw [q_mm_5]
  refine q_iload_n dX7_moveDiver_45 rfl ?_
  refine q_icmp_ne 50 dX7_moveDiver_46 (by decide) (fun h46 => ?_) (fun h46 => ?_)
  · refine q_aload_n dX7_moveDiver_50 rfl ?_
    refine q_get fX7_151 dX7_moveDiver_51 (by first | rfl | assumption) (by rfl) ?_
    rw [q_mm_5]
    refine q_aload_n dX7_moveDiver_54 rfl ?_
    refine q_getr fX7_19 dX7_moveDiver_55 (by first | rfl | assumption) (by rfl) ?_
    refine q_cVi lX7_181 vX6_floor (ci := 6) rfl dX7_moveDiver_58 (kX6_floor (by first | rfl | assumption) (by first | rfl | assumption)) (by first | rfl | assumption) rfl rfl (Nat.le_of_ble_eq_true rfl) (by decide) ?_
    rw [q_mm_ne h15]
    refine q_icmp_ne 69 dX7_moveDiver_61 (by decide) (fun h61 => ?_) (fun h61 => ?_)
    · refine q_aload_n dX7_moveDiver_69 rfl ?_
      refine q_get fX7_151 dX7_moveDiver_70 (by first | rfl | assumption) (by rfl) ?_
      try rw [q_cf_5 h17]
      rw [q_mm_5]
      refine q_if_ne 81 dX7_moveDiver_73 (by decide) (fun h73 => ?_) (fun h73 => ?_)
      · refine q_vret dX7_moveDiver_81 ?_ rfl rfl
        exact ⟨rfl, rfl, by unfold q_md; repeat (first | rw [if_pos (by assumption)] | rw [if_neg (by assumption)])⟩
      · refine q_aload_n dX7_moveDiver_76 rfl ?_
        refine q_aload_n dX7_moveDiver_77 rfl ?_
        refine q_cVv lX7_354 vX7_comeToTop (ci := 7) rfl dX7_moveDiver_78 (kX7_comeToTop (by first | rfl | assumption) h17 h15) (by first | rfl | assumption) rfl rfl (Nat.le_of_ble_eq_true rfl) (by decide) ?_
        refine q_vret dX7_moveDiver_81 ?_ rfl rfl
        exact ⟨rfl, rfl, by unfold q_md; repeat (first | rw [if_pos (by assumption)] | rw [if_neg (by assumption)])⟩
    · refine q_aload_n dX7_moveDiver_64 rfl ?_
      refine q_aload_n dX7_moveDiver_65 rfl ?_
      refine q_cVv lX7_351 vX7_comeToFloor (ci := 7) rfl dX7_moveDiver_66 (kX7_comeToFloor (by first | rfl | assumption) h17 h15) (by first | rfl | assumption) rfl rfl (Nat.le_of_ble_eq_true rfl) (by decide) ?_
      refine q_aload_n dX7_moveDiver_69 rfl ?_
      refine q_get fX7_151 dX7_moveDiver_70 (by first | rfl | assumption) (by rfl) ?_
      try rw [q_cf_5 h17]
      rw [q_mm_5]
      refine q_if_ne 81 dX7_moveDiver_73 (by decide) (fun h73 => ?_) (fun h73 => ?_)
      · refine q_vret dX7_moveDiver_81 ?_ rfl rfl
        exact ⟨rfl, rfl, by unfold q_md; repeat (first | rw [if_pos (by assumption)] | rw [if_neg (by assumption)])⟩
      · refine q_aload_n dX7_moveDiver_76 rfl ?_
        refine q_aload_n dX7_moveDiver_77 rfl ?_
        refine q_cVv lX7_354 vX7_comeToTop (ci := 7) rfl dX7_moveDiver_78 (kX7_comeToTop (by first | rfl | assumption) h17 h15) (by first | rfl | assumption) rfl rfl (Nat.le_of_ble_eq_true rfl) (by decide) ?_
        refine q_vret dX7_moveDiver_81 ?_ rfl rfl
        exact ⟨rfl, rfl, by unfold q_md; repeat (first | rw [if_pos (by assumption)] | rw [if_neg (by assumption)])⟩
  · refine q_vret dX7_moveDiver_49 ?_ rfl rfl
    exact ⟨rfl, rfl, by unfold q_md; repeat (first | rw [if_pos (by assumption)] | rw [if_neg (by assumption)])⟩

def q_hm (σ : q_M) : q_M := q_up (q_up σ 69 5 (q_mv (σ 69 5) (σ 69 6) (q_Wc σ 69 (q_dc (σ 69 5) 64) (σ 68 3)) (σ 15 3) (σ 15 0 * 64)).1) 69 6 (q_mv (σ 69 5) (σ 69 6) (q_Wc σ 69 (q_dc (σ 69 5) 64) (σ 68 3)) (σ 15 3) (σ 15 0 * 64)).2
def q_hs (σ : q_M) (a b : Nat) (st : Int32) : q_M := q_mk (q_hm (q_tn σ a b st)) (nI (a + 1)) (σ 15 0 * 64)
def q_hl (b : Nat) (st : Int32) : Nat → Nat → q_M → q_M
  | 0, _, σ => σ
  | n + 1, a, σ => if σ 68 4 = -4 then q_hl b st n (a + 1) (q_hs σ a b st) else σ
theorem q_hm_15 (σ : q_M) (k : Nat) : q_hm σ 15 k = σ 15 k := by rw [q_hm, q_up_g (by decide), q_up_g (by decide)]
theorem q_tn_15 (σ : q_M) (a b : Nat) (st : Int32) (k : Nat) : q_tn σ a b st 15 k = σ 15 k := by rw [q_tn, q_up_g (by decide), q_up_g (by decide)]

set_option maxHeartbeats 1000000 in
set_option maxRecDepth 100000 in
theorem lpX7_tryHold {E : q_E} {k dep t st : Int32} {b N : Nat} (hb : b < 1000) (hN : N < 1000) : ∀ (n : Nat) (a : Nat) (σ : q_M), N + 1 ≤ a + n → a ≤ N → q_G YX7_tryHold E 0 0 21 [some (.ref 0), some (.int k), some (.int dep), some (.int t), some (.int (nI b)), some (.int st), some (.int (nI N)), some (.int (nI (a + 1))), none] [] q_SH σ (q_is none q_SH (q_hl b st (N - a) a σ)) := by
  intro n
  induction n with
  | zero =>
    intro a σ hm h0
    exact absurd hm (by omega)
  | succ n ih =>
    intro a σ hm h0
    have hat := nI_toInt (n := a + 1) (by omega)
    have hNt := nI_toInt (n := N) (by omega)
    refine q_iload dX7_tryHold_21 rfl ?_
    refine q_iload dX7_tryHold_23 rfl ?_
    refine q_cgt 135 dX7_tryHold_25 (by decide) (fun h25 => ?_) (fun h25 => ?_)
    · have e : N - a = 0 := by omega
      refine q_vret dX7_tryHold_135 ?_ rfl rfl
      exact ⟨rfl, rfl, by rw [e]; first | rfl | rw [q_hl, if_neg h37]⟩
    · refine q_aload_n dX7_tryHold_28 rfl ?_
      refine q_getr fX7_55 dX7_tryHold_29 (by first | rfl | assumption) (by rfl) ?_
      refine q_get fX7_265 dX7_tryHold_32 (by first | rfl | assumption) (by rfl) ?_
      refine q_bipush (x := (-4)) dX7_tryHold_35 (by decide) ?_
      refine q_icmp_ne 135 dX7_tryHold_37 (by decide) (fun h37 => ?_) (fun h37 => ?_)
      · have e : N - a = N - (a + 1) + 1 := by omega
        refine q_vret dX7_tryHold_135 ?_ rfl rfl
        exact ⟨rfl, rfl, by rw [e]; first | rfl | rw [q_hl, if_neg h37]⟩
      · refine q_aload_n dX7_tryHold_40 rfl ?_
        refine q_getr fX7_55 dX7_tryHold_41 (by first | rfl | assumption) (by rfl) ?_
        refine q_iload dX7_tryHold_44 rfl ?_
        refine q_iconst (x := 1) dX7_tryHold_46 (by decide) ?_
        refine q_isub dX7_tryHold_47 ?_
        refine q_iload dX7_tryHold_48 rfl ?_
        refine q_iload dX7_tryHold_50 rfl ?_
        rw [show nI (a + 1) - 1 = nI a from nI_pred a]
        refine q_cVv lX7_374 vX1_turnThumb (ci := 1) rfl dX7_tryHold_52 (kX1_turnThumb (by omega) hb) (by first | rfl | assumption) rfl rfl (Nat.le_of_ble_eq_true rfl) (by decide) ?_
        refine q_aload_n dX7_tryHold_55 rfl ?_
        refine q_aload_n dX7_tryHold_56 rfl ?_
        refine q_getr fX7_55 dX7_tryHold_57 (by first | rfl | assumption) (by rfl) ?_
        refine q_getr fX7_268 dX7_tryHold_60 (by first | rfl | assumption) (by rfl) ?_
        refine q_aload_n dX7_tryHold_63 rfl ?_
        refine q_getr fX7_55 dX7_tryHold_64 (by first | rfl | assumption) (by rfl) ?_
        refine q_getr fX7_268 dX7_tryHold_67 (by first | rfl | assumption) (by rfl) ?_
        refine q_cVi lX7_147 vX0_depth (ci := 0) rfl dX7_tryHold_70 (kX0_depth (by first | rfl | assumption)) (by first | rfl | assumption) rfl rfl (Nat.le_of_ble_eq_true rfl) (by decide) ?_
        refine q_aload_n dX7_tryHold_73 rfl ?_
        refine q_getr fX7_55 dX7_tryHold_74 (by first | rfl | assumption) (by rfl) ?_
        refine q_get fX7_275 dX7_tryHold_77 (by first | rfl | assumption) (by rfl) ?_
        refine q_cVi lX7_160 vX7_weightOf (ci := 7) rfl dX7_tryHold_80 (kX7_weightOf rfl) (by first | rfl | assumption) rfl rfl (Nat.le_of_ble_eq_true rfl) (by decide) ?_
        refine q_istore dX7_tryHold_83 (by decide) rfl ?_
        refine q_aload_n dX7_tryHold_85 rfl ?_
        refine q_getr fX7_55 dX7_tryHold_86 (by first | rfl | assumption) (by rfl) ?_
        refine q_getr fX7_268 dX7_tryHold_89 (by first | rfl | assumption) (by rfl) ?_
        refine q_iload dX7_tryHold_92 rfl ?_
        refine q_aload_n dX7_tryHold_94 rfl ?_
        refine q_getr fX7_19 dX7_tryHold_95 (by first | rfl | assumption) (by rfl) ?_
        refine q_getr fX7_62 dX7_tryHold_98 (by first | rfl | assumption) (by rfl) ?_
        refine q_iconst (x := 3) dX7_tryHold_101 (by decide) ?_
        refine q_ild 3 (by first | rfl | assumption) rfl (by decide) dX7_tryHold_102 ?_
        refine q_aload_n dX7_tryHold_103 rfl ?_
        refine q_getr fX7_19 dX7_tryHold_104 (by first | rfl | assumption) (by rfl) ?_
        refine q_cVi lX7_181 vX6_floor (ci := 6) rfl dX7_tryHold_107 (kX6_floor (by first | rfl | assumption) (by first | rfl | assumption)) (by first | rfl | assumption) rfl rfl (Nat.le_of_ble_eq_true rfl) (by decide) ?_
        refine q_cVv lX7_347 vX0_move (ci := 0) rfl dX7_tryHold_110 (kX0_move (by first | rfl | assumption)) (by first | rfl | assumption) rfl rfl (Nat.le_of_ble_eq_true rfl) (by decide) ?_
        change q_G _ _ _ _ _ _ _ _ (q_hm (q_tn σ a b st)) _
        refine q_aload_n dX7_tryHold_113 rfl ?_
        refine q_getr fX7_55 dX7_tryHold_114 (by first | rfl | assumption) (by rfl) ?_
        refine q_iload dX7_tryHold_117 rfl ?_
        refine q_aload_n dX7_tryHold_119 rfl ?_
        refine q_getr fX7_19 dX7_tryHold_120 (by first | rfl | assumption) (by rfl) ?_
        refine q_cVi lX7_181 vX6_floor (ci := 6) rfl dX7_tryHold_123 (kX6_floor (by first | rfl | assumption) (by first | rfl | assumption)) (by first | rfl | assumption) rfl rfl (Nat.le_of_ble_eq_true rfl) (by decide) ?_
        rw [q_hm_15, q_tn_15]
        refine q_cVv lX7_377 vX1_mark (ci := 1) rfl dX7_tryHold_126 kX1_mark (by first | rfl | assumption) rfl rfl (Nat.le_of_ble_eq_true rfl) (by decide) ?_
        change q_G _ _ _ _ _ _ _ _ (q_hs σ a b st) _
        refine q_inc 1 dX7_tryHold_129 (by decide) rfl (by decide) rfl ?_
        refine q_goto 21 dX7_tryHold_132 (by decide) ?_
        rw [nI_1]
        refine q_lset 8 ?_
        have z := ih (a + 1) (q_hs σ a b st) (by omega) (by omega)
        rw [show N - a = N - (a + 1) + 1 by omega, q_hl, if_pos h37]
        exact z

set_option maxHeartbeats 1000000 in
set_option maxRecDepth 100000 in
theorem kX7_tryHold {σ : q_M} {k dep t st : Int32} {b N : Nat} (hb : b < 1000) (hN : N < 1000) {j : Nat} (hk : k.toInt = (j : Int)) (hj : j < 6) (hz : σ (23 + j) 7 = 0 ∨ σ (23 + j) 7 = 1) : q_Ct YX7_tryHold [.ref 0, .int k, .int dep, .int t, .int (nI b), .int st, .int (nI N)] q_SH σ (q_is none q_SH (q_hl b st N 0 (q_tk σ (23 + j) dep t))) := by
  refine q_ct (n := 2) (by decide) (by decide) rfl (fun _ => Nat.le_of_ble_eq_true rfl) (fun E => ?_)
  refine q_aload_n dX7_tryHold_0 rfl ?_
  refine q_getr fX7_55 dX7_tryHold_1 (by first | rfl | assumption) (by rfl) ?_
  refine q_aload_n dX7_tryHold_4 rfl ?_
  refine q_getr fX7_26 dX7_tryHold_5 (by first | rfl | assumption) (by rfl) ?_
  refine q_getr fX7_121 dX7_tryHold_8 (by first | rfl | assumption) (by rfl) ?_
  refine q_iload_n dX7_tryHold_11 rfl ?_
  refine q_ald j (by first | rfl | assumption) hk hj (q_ra_at hj) ⟨by decide, by decide⟩ dX7_tryHold_12 ?_
  refine q_iload_n dX7_tryHold_13 rfl ?_
  refine q_iload_n dX7_tryHold_14 rfl ?_
  refine q_cVv lX7_370 vX1_takeUp (ci := 1) rfl dX7_tryHold_15 (kX1_takeUp (q_SH_dv hj) (by omega) hz) (by first | rfl | assumption) rfl rfl (Nat.le_of_ble_eq_true rfl) (by decide) ?_
  refine q_iconst (x := 1) dX7_tryHold_18 (by decide) ?_
  refine q_istore dX7_tryHold_19 (by decide) rfl ?_
  have z := lpX7_tryHold (E := E) (k := k) (dep := dep) (t := t) (st := st) hb hN (N + 1) 0 (q_tk σ (23 + j) dep t) (by omega) (by omega)
  exact z

def q_allb (p : Nat → Bool) : Nat → Bool
  | 0 => true
  | n + 1 => q_allb p n && p n
theorem q_allb_f {p : Nat → Bool} {i : Nat} (h : p i = false) : ∀ n, i < n → q_allb p n = false
  | 0, hn => absurd hn (by omega)
  | n + 1, hn => by
    unfold q_allb
    by_cases e : i = n
    · subst e
      rw [h, Bool.and_false]
    · rw [q_allb_f h n (by omega), Bool.false_and]
def q_cb (σ : q_M) (d : Nat) (i : Nat) : Bool := decide (q_b (decide (0 < (q_Wc σ d (σ 21 i) (σ 20 i)).toInt)) = σ 22 i)

set_option maxHeartbeats 1000000 in
set_option maxRecDepth 100000 in
theorem lpX7_canBe {E : q_E} {σ : q_M} {d N : Nat} (hd : q_SH[d]? = some q_sD) (hN : σ 19 3 = nI N) (h12 : N ≤ 12) : ∀ (n : Nat) (i : Nat), N + 1 ≤ i + n → i ≤ N → q_allb (q_cb σ d) i = true → q_G YX7_canBe E 0 0 10 [some (.ref 0), some (.ref d), some (.ref 19), some (.int (nI i)), none] [] q_SH σ (q_is (some (q_b (q_allb (q_cb σ d) N))) q_SH σ) := by
  intro n
  induction n with
  | zero =>
    intro i hm h0 ht
    exact absurd hm (by omega)
  | succ n ih =>
    intro i hm h0 ht
    have hi := nI_toInt (n := i) (by omega)
    have hNt := nI_toInt (n := N) (by omega)
    refine q_iload_n dX7_canBe_10 rfl ?_
    refine q_aload_n dX7_canBe_11 rfl ?_
    refine q_get fX7_296 dX7_canBe_12 (by first | rfl | assumption) (by rfl) ?_
    rw [hN]
    refine q_cge 64 dX7_canBe_15 (by decide) (fun h15 => ?_) (fun h15 => ?_)
    · refine q_iconst (x := 1) dX7_canBe_64 (by decide) ?_
      refine q_ret1 dX7_canBe_65 ?_ rfl rfl
      have e : i = N := by omega
      exact ⟨congrArg some (by rw [← e, ht]), rfl, rfl⟩
    · refine q_aload_n dX7_canBe_18 rfl ?_
      refine q_aload_n dX7_canBe_19 rfl ?_
      refine q_aload_n dX7_canBe_20 rfl ?_
      refine q_getr fX7_299 dX7_canBe_21 (by first | rfl | assumption) (by rfl) ?_
      refine q_iload_n dX7_canBe_24 rfl ?_
      refine q_ild i (by first | rfl | assumption) hi (by omega) dX7_canBe_25 ?_
      refine q_aload_n dX7_canBe_26 rfl ?_
      refine q_getr fX7_302 dX7_canBe_27 (by first | rfl | assumption) (by rfl) ?_
      refine q_iload_n dX7_canBe_30 rfl ?_
      refine q_ild i (by first | rfl | assumption) hi (by omega) dX7_canBe_31 ?_
      refine q_cVi lX7_160 vX7_weightOf (ci := 7) rfl dX7_canBe_32 (kX7_weightOf (by first | rfl | assumption)) (by first | rfl | assumption) rfl rfl (Nat.le_of_ble_eq_true rfl) (by decide) ?_
      refine q_zle 42 dX7_canBe_35 (by decide) (fun h35 => ?_) (fun h35 => ?_)
      · have hw : q_b (decide (0 < (q_Wc σ d (σ 21 i) (σ 20 i)).toInt)) = 0 := by rw [decide_eq_false (by omega)]; rfl
        refine q_iconst (x := 0) dX7_canBe_42 (by decide) ?_
        refine q_istore dX7_canBe_43 (by decide) rfl ?_
        refine q_iload dX7_canBe_45 rfl ?_
        refine q_aload_n dX7_canBe_47 rfl ?_
        refine q_getr fX7_305 dX7_canBe_48 (by first | rfl | assumption) (by rfl) ?_
        refine q_iload_n dX7_canBe_51 rfl ?_
        refine q_zld i (by first | rfl | assumption) hi (by omega) dX7_canBe_52 ?_
        refine q_icmp_eq 58 dX7_canBe_53 (by decide) (fun h53 => ?_) (fun h53 => ?_)
        · have hp : q_cb σ d i = true := decide_eq_true (by rw [hw]; exact h53)
          refine q_inc 1 dX7_canBe_58 (by decide) rfl (by decide) rfl ?_
          refine q_goto 10 dX7_canBe_61 (by decide) ?_
          rw [nI_1]
          refine q_lset 4 ?_
          exact ih (i + 1) (by omega) (by omega) (by rw [q_allb, ht, hp]; rfl)
        · have hp : q_cb σ d i = false := decide_eq_false (by rw [hw]; exact h53)
          refine q_iconst (x := 0) dX7_canBe_56 (by decide) ?_
          refine q_ret0 dX7_canBe_57 ?_ rfl rfl
          exact ⟨congrArg some (by rw [q_allb_f hp N (by omega)]), rfl, rfl⟩
      · have hw : q_b (decide (0 < (q_Wc σ d (σ 21 i) (σ 20 i)).toInt)) = 1 := by rw [decide_eq_true (by omega)]; rfl
        refine q_iconst (x := 1) dX7_canBe_38 (by decide) ?_
        refine q_goto 43 dX7_canBe_39 (by decide) ?_
        refine q_istore dX7_canBe_43 (by decide) rfl ?_
        refine q_iload dX7_canBe_45 rfl ?_
        refine q_aload_n dX7_canBe_47 rfl ?_
        refine q_getr fX7_305 dX7_canBe_48 (by first | rfl | assumption) (by rfl) ?_
        refine q_iload_n dX7_canBe_51 rfl ?_
        refine q_zld i (by first | rfl | assumption) hi (by omega) dX7_canBe_52 ?_
        refine q_icmp_eq 58 dX7_canBe_53 (by decide) (fun h53 => ?_) (fun h53 => ?_)
        · have hp : q_cb σ d i = true := decide_eq_true (by rw [hw]; exact h53)
          refine q_inc 1 dX7_canBe_58 (by decide) rfl (by decide) rfl ?_
          refine q_goto 10 dX7_canBe_61 (by decide) ?_
          rw [nI_1]
          refine q_lset 4 ?_
          exact ih (i + 1) (by omega) (by omega) (by rw [q_allb, ht, hp]; rfl)
        · have hp : q_cb σ d i = false := decide_eq_false (by rw [hw]; exact h53)
          refine q_iconst (x := 0) dX7_canBe_56 (by decide) ?_
          refine q_ret0 dX7_canBe_57 ?_ rfl rfl
          exact ⟨congrArg some (by rw [q_allb_f hp N (by omega)]), rfl, rfl⟩

set_option maxHeartbeats 1000000 in
set_option maxRecDepth 100000 in
theorem kX7_canBe {σ : q_M} {d N : Nat} (hd : q_SH[d]? = some q_sD) (hN : σ 19 3 = nI N) (h12 : N ≤ 12) : q_Ct YX7_canBe [.ref 0, .ref d] q_SH σ (q_is (some (q_b (q_allb (q_cb σ d) N))) q_SH σ) := by
  refine q_ct (n := 3) (by decide) (by decide) rfl (fun _ => Nat.le_of_ble_eq_true rfl) (fun E => ?_)
  refine q_aload_n dX7_canBe_0 rfl ?_
  refine q_getr fX7_26 dX7_canBe_1 (by first | rfl | assumption) (by rfl) ?_
  refine q_getr fX7_289 dX7_canBe_4 (by first | rfl | assumption) (by rfl) ?_
  refine q_astore_n dX7_canBe_7 (by decide) rfl ?_
  refine q_iconst (x := 0) dX7_canBe_8 (by decide) ?_
  refine q_istore_n dX7_canBe_9 (by decide) rfl ?_
  exact lpX7_canBe hd hN h12 (N + 1) 0 (by omega) (by omega) rfl

def q_gf (σ : q_M) (m : Int32) (t : Nat) : Int32 := q_b (decide (0 < (q_tell (q_max (q_max (q_ff σ (m + 1) 0 0) (q_ff σ (m + 1) (σ 15 0) 0)) (if nI t = 0 then 0 else q_ff σ m 0 (nI t - 1))) (q_ff σ m 0 (nI t) - 1) 0).toInt))
theorem q_ff_fill {σ : q_M} {f : Nat → Int32} {i : Nat} {m d t : Int32} : q_ff (q_fill σ 71 f i) m d t = q_ff σ m d t := by simp [q_ff, q_fill]

set_option maxHeartbeats 1000000 in
set_option maxRecDepth 100000 in
theorem lpX7_findGoers {E : q_E} {σ : q_M} {m bk : Int32} (hbk : bk = (q_max (q_ff σ (m + 1) 0 0) (q_ff σ (m + 1) (σ 15 0) 0))) : ∀ (n : Nat) (i : Nat), 501 + 1 ≤ i + n → i ≤ 501 → q_G YX7_findGoers E 0 0 8 [some (.ref 0), some (.int m), some (.int bk), some (.int (nI i)), none] [] q_SH (q_fill σ 71 (q_gf σ m) i) (q_is none q_SH (q_fill σ 71 (q_gf σ m) 501)) := by
  intro n
  induction n with
  | zero =>
    intro i hm h0
    exact absurd hm (by omega)
  | succ n ih =>
    intro i hm h0
    have hi := nI_toInt (n := i) (by omega)
    have hc : (500 : Int32).toInt = 500 := rfl
    refine q_iload_n dX7_findGoers_8 rfl ?_
    refine q_sipush (x := 500) dX7_findGoers_9 (by decide) ?_
    refine q_cgt 59 dX7_findGoers_12 (by decide) (fun h12 => ?_) (fun h12 => ?_)
    · refine q_vret dX7_findGoers_59 ?_ rfl rfl
      have e : i = 501 := by omega
      subst e
      exact ⟨rfl, rfl, rfl⟩
    · refine q_iload_n dX7_findGoers_15 rfl ?_
      refine q_aload_n dX7_findGoers_16 rfl ?_
      refine q_iload_n dX7_findGoers_17 rfl ?_
      refine q_iload_n dX7_findGoers_18 rfl ?_
      refine q_cVi lX7_232 vX7_leastAtThumb (ci := 7) rfl dX7_findGoers_19 kX7_leastAtThumb (by first | rfl | assumption) rfl rfl (Nat.le_of_ble_eq_true rfl) (by decide) ?_
      simp only [q_ff_fill]
      refine q_cSi lX7_280 sJ9_max_7cf53 dX7_findGoers_22 kmax rfl rfl (Nat.le_of_ble_eq_true rfl) (by decide) ?_
      refine q_topi (fun z ez => ?_)
      refine q_istore dX7_findGoers_25 (by decide) rfl ?_
      refine q_aload_n dX7_findGoers_27 rfl ?_
      refine q_getr fX7_59 dX7_findGoers_28 (by first | rfl | assumption) (by rfl) ?_
      refine q_iload_n dX7_findGoers_31 rfl ?_
      refine q_iload dX7_findGoers_32 rfl ?_
      refine q_aload_n dX7_findGoers_34 rfl ?_
      refine q_iload_n dX7_findGoers_35 rfl ?_
      refine q_iload_n dX7_findGoers_36 rfl ?_
      refine q_cVi lX7_235 vX7_greatestAtThumb (ci := 7) rfl dX7_findGoers_37 kX7_greatestAtThumb (by first | rfl | assumption) rfl rfl (Nat.le_of_ble_eq_true rfl) (by decide) ?_
      simp only [q_ff_fill]
      refine q_iconst (x := 0) dX7_findGoers_40 (by decide) ?_
      refine q_cSi lX7_229 sX7_tellRange dX7_findGoers_41 kX7_tellRange rfl rfl (Nat.le_of_ble_eq_true rfl) (by decide) ?_
      refine q_topi (fun tl etl => ?_)
      refine q_zle 51 dX7_findGoers_44 (by decide) (fun h44 => ?_) (fun h44 => ?_)
      · have hw : q_gf σ m i = 0 := by rw [q_gf, ← hbk, ← ez, ← etl, decide_eq_false (by omega)]; rfl
        refine q_iconst (x := 0) dX7_findGoers_51 (by decide) ?_
        refine q_zsto i (by first | rfl | assumption) hi (by omega) dX7_findGoers_52 ?_
        refine q_inc 1 dX7_findGoers_53 (by decide) rfl (by decide) rfl ?_
        refine q_goto 8 dX7_findGoers_56 (by decide) ?_
        rw [nI_1]
        first | rw [show vp_nar .boolean 0 = 0 from rfl, ← hw] | rw [show vp_nar .boolean 1 = 1 from rfl, ← hw]
        rw [q_fill_s]
        refine q_lset 4 ?_
        exact ih (i + 1) (by omega) (by omega)
      · have hw : q_gf σ m i = 1 := by rw [q_gf, ← hbk, ← ez, ← etl, decide_eq_true (by omega)]; rfl
        refine q_iconst (x := 1) dX7_findGoers_47 (by decide) ?_
        refine q_goto 52 dX7_findGoers_48 (by decide) ?_
        refine q_zsto i (by first | rfl | assumption) hi (by omega) dX7_findGoers_52 ?_
        refine q_inc 1 dX7_findGoers_53 (by decide) rfl (by decide) rfl ?_
        refine q_goto 8 dX7_findGoers_56 (by decide) ?_
        rw [nI_1]
        first | rw [show vp_nar .boolean 0 = 0 from rfl, ← hw] | rw [show vp_nar .boolean 1 = 1 from rfl, ← hw]
        rw [q_fill_s]
        refine q_lset 4 ?_
        exact ih (i + 1) (by omega) (by omega)

set_option maxHeartbeats 1000000 in
set_option maxRecDepth 100000 in
theorem kX7_findGoers {σ : q_M} {m : Int32} : q_Ct YX7_findGoers [.ref 0, .int m] q_SH σ (q_is none q_SH (q_fill σ 71 (q_gf σ m) 501)) := by
  refine q_ct (n := 3) (by decide) (by decide) rfl (fun _ => Nat.le_of_ble_eq_true rfl) (fun E => ?_)
  refine q_aload_n dX7_findGoers_0 rfl ?_
  refine q_iload_n dX7_findGoers_1 rfl ?_
  refine q_cVi lX7_222 vX7_comesBackFrom (ci := 7) rfl dX7_findGoers_2 kX7_comesBackFrom (by first | rfl | assumption) rfl rfl (Nat.le_of_ble_eq_true rfl) (by decide) ?_
  refine q_istore_n dX7_findGoers_5 (by decide) rfl ?_
  refine q_iconst (x := 0) dX7_findGoers_6 (by decide) ?_
  refine q_istore_n dX7_findGoers_7 (by decide) rfl ?_
  have z := lpX7_findGoers (E := E) (σ := σ) (m := m) rfl 502 0 (by omega) (by omega)
  rw [q_fill_0] at z
  exact z

def q_fst (p : Nat → Bool) (n : Nat) : Nat → Int32
  | 0 => -4
  | k + 1 => if p (n - (k + 1)) then nI (n - (k + 1)) else q_fst p n k

set_option maxHeartbeats 1000000 in
set_option maxRecDepth 100000 in
theorem lpX7_firstGoer {E : q_E} {σ : q_M}  : ∀ (n : Nat) (i : Nat), 501 + 1 ≤ i + n → i ≤ 501 → q_G YX7_firstGoer E 0 0 2 [some (.ref 0), some (.int (nI i))] [] q_SH σ (q_is (some (q_fst (fun t => q_t (σ 71 t)) 501 (501 - i))) q_SH σ) := by
  intro n
  induction n with
  | zero =>
    intro i hm h0
    exact absurd hm (by omega)
  | succ n ih =>
    intro i hm h0
    have hi := nI_toInt (n := i) (by omega)
    have hc : (500 : Int32).toInt = 500 := rfl
    refine q_iload_n dX7_firstGoer_2 rfl ?_
    refine q_sipush (x := 500) dX7_firstGoer_3 (by decide) ?_
    refine q_cgt 26 dX7_firstGoer_6 (by decide) (fun h6 => ?_) (fun h6 => ?_)
    · refine q_bipush (x := (-4)) dX7_firstGoer_26 (by decide) ?_
      refine q_ret dX7_firstGoer_28 ?_ rfl rfl
      exact ⟨congrArg some (by rw [show 501 - i = 0 by omega]; rfl), rfl, rfl⟩
    · refine q_aload_n dX7_firstGoer_9 rfl ?_
      refine q_getr fX7_59 dX7_firstGoer_10 (by first | rfl | assumption) (by rfl) ?_
      refine q_iload_n dX7_firstGoer_13 rfl ?_
      refine q_zld i (by first | rfl | assumption) hi (by omega) dX7_firstGoer_14 ?_
      refine q_if_eq 20 dX7_firstGoer_15 (by decide) (fun h15 => ?_) (fun h15 => ?_)
      · have hp : q_t (σ 71 i) = false := decide_eq_false (fun z => z h15)
        refine q_inc 1 dX7_firstGoer_20 (by decide) rfl (by decide) rfl ?_
        refine q_goto 2 dX7_firstGoer_23 (by decide) ?_
        rw [nI_1]
        have z := ih (i + 1) (by omega) (by omega)
        rw [show 501 - i = (501 - (i + 1)) + 1 by omega, q_fst, show 501 - (501 - (i + 1) + 1) = i by omega, if_neg (by simp [hp])]
        exact z
      · have hp : q_t (σ 71 i) = true := decide_eq_true h15
        refine q_iload_n dX7_firstGoer_18 rfl ?_
        refine q_ret dX7_firstGoer_19 ?_ rfl rfl
        exact ⟨congrArg some (by rw [show 501 - i = (500 - i) + 1 by omega, q_fst, show 501 - (500 - i + 1) = i by omega, if_pos hp]), rfl, rfl⟩

set_option maxHeartbeats 1000000 in
set_option maxRecDepth 100000 in
theorem kX7_firstGoer {σ : q_M}  : q_Ct YX7_firstGoer [.ref 0] q_SH σ (q_is (some (q_fst (fun t => q_t (σ 71 t)) 501 501)) q_SH σ) := by
  refine q_ct (n := 1) (by decide) (by decide) rfl (fun _ => Nat.le_of_ble_eq_true rfl) (fun E => ?_)
  refine q_iconst (x := 0) dX7_firstGoer_0 (by decide) ?_
  refine q_istore_n dX7_firstGoer_1 (by decide) rfl ?_
  exact lpX7_firstGoer 502 0 (by omega) (by omega)
