/-! the reader of the class: names, numbers, rules -/
theorem sp_ch : ∀ j, j < 11 → ∀ k, k < q_strl.getD j 0 → (((q_sby.getD j []).getD k 0 &&& 255).toUInt32 % 65536).toInt32 = (q_sby.getD j []).getD k 0 := by decide +kernel
theorem sp_len : ∀ j, j < 11 → 0 < q_strl.getD j 0 ∧ q_strl.getD j 0 < 7 := by decide +kernel
theorem sp_nb {b : Bool} (h : b = false) : ¬ b = true := fun z => absurd (h.symm.trans z) (by decide)
def sp_P2 (σ : q_M) (c : Nat → Int32) (L : Nat) (lo hi : Int32) (p : Nat) (τ : q_M) : Prop := match sp_num c L lo hi p with
  | .inl w => rd_F σ τ w
  | .inr y => τ = q_up (rd_t σ (sp_s c L p) 2 y.2) 1 12 y.1
def sp_P3 (σ : q_M) (c : Nat → Int32) (L p : Nat) (τ : q_M) : Prop := match sp_st c L p with
  | .inl w => rd_F σ τ w
  | .inr y => τ = rd_t σ (sp_s c L p) 3 y
def sp_P4 (σ : q_M) (c : Nat → Int32) (L r p : Nat) (τ : q_M) : Prop := match sp_num c L (q_tab 1 r) (q_tab 2 r) p with
  | .inl w => rd_F σ τ w
  | .inr y => τ = q_up (q_up (rd_t σ (sp_s c L p) 2 y.2) 1 12 y.1) 4 r y.1
theorem sp_gr {β : Type} {x : sp_F ⊕ β} (h : sp_g x = true) : ∃ y, x = .inr y := by
  cases x with
  | inl a => cases h
  | inr y => exact ⟨y, rfl⟩
theorem sp_gl {β : Type} {x : sp_F ⊕ β} (h : sp_g x = false) : ∃ y, x = .inl y := by
  cases x with
  | inl a => exact ⟨a, rfl⟩
  | inr y => cases h
theorem sp_num_r {c : Nat → Int32} {L : Nat} {lo hi : Int32} {p : Nat} {y : Int32 × Nat} (h : sp_num c L lo hi p = .inr y) : y.2 = sp_e c L p ∧ y.1 = sp_v c (sp_s c L p) (sp_e c L p - sp_s c L p) ∧ q_win y.1 lo hi = true ∧ sp_d c L p = 2 ∧ sp_ok c L p = true := by
  unfold sp_num at h
  split at h
  · cases h
  · rename_i h0
    split at h
    · cases h
    · rename_i h1
      split at h
      · rename_i h2
        cases h
        exact ⟨rfl, rfl, h2, by omega, by simpa using h0⟩
      · cases h
theorem sp_num_p {c : Nat → Int32} {L : Nat} {lo hi : Int32} {p : Nat} {y : Int32 × Nat} (hp : p ≤ L) (h : sp_num c L lo hi p = .inr y) : p < y.2 ∧ y.2 ≤ L := by
  obtain ⟨h1, -, -, h4, -⟩ := sp_num_r h
  have h5 := sp_e_lt (c := c) hp (by omega)
  have h6 := sp_e_le (c := c) hp
  have h7 := sp_s_ge (c := c) hp
  omega
theorem sp_st_r {c : Nat → Int32} {L p y : Nat} (h : sp_st c L p = .inr y) : y = sp_e c L p ∧ sp_d c L p = 3 ∧ sp_ok c L p = true := by
  unfold sp_st at h
  split at h
  · cases h
  · rename_i h0
    split at h
    · rename_i h1
      cases h
      exact ⟨rfl, h1, by simpa using h0⟩
    · cases h
theorem sp_st_p {c : Nat → Int32} {L p y : Nat} (hp : p ≤ L) (h : sp_st c L p = .inr y) : p < y ∧ y ≤ L := by
  obtain ⟨h1, h4, -⟩ := sp_st_r h
  have h5 := sp_e_lt (c := c) hp (by omega)
  have h6 := sp_e_le (c := c) hp
  have h7 := sp_s_ge (c := c) hp
  omega

set_option maxHeartbeats 1000000 in
set_option maxRecDepth 100000 in
theorem lpX2_isName {E : q_E} {σ : q_M} {k s e : Nat} (hk : σ 1 10 = nI k) (hk5 : k ≤ 5) (hs : σ 1 11 = nI s) (he : σ 1 9 = nI e) (hse : s ≤ e) (h320 : e ≤ 320) {j : Nat} (hj : j < 11) (hk1 : k = 1) (hel : e = s + q_strl.getD j 0) : ∀ (n : Nat) (i : Nat), q_strl.getD j 0 + 1 ≤ i + n → i ≤ q_strl.getD j 0 → q_allb (fun i => decide (σ 2 (s + i) = (q_sby.getD j []).getD i 0)) i = true → q_G YX2_isName E 0 0 38 [some (.ref 1), some (.ref (1000000 + (100 + j))), some (.int (nI i))] [] q_SH σ (q_is (some (q_b (decide (k = 1) && sp_nm (σ 2) s e j))) q_SH σ) := by
  intro n
  induction n with
  | zero =>
    intro i hm h0 ha
    exact absurd hm (by omega)
  | succ n ih =>
    intro i hm h0 ha
    have hit := nI_toInt (n := i) (by have := sp_len j hj; omega)
    have hlt := nI_toInt (n := q_strl.getD j 0) (by have := sp_len j hj; omega)
    have hl7 := sp_len j hj
    refine q_iload_n dX2_isName_38 rfl ?_
    refine q_aload_n dX2_isName_39 rfl ?_
    refine q_callT j hj lX2_94 vJ0_length_8abf5 rfl dX2_isName_40 (kS_len j hj) rfl rfl (Nat.le_of_ble_eq_true rfl) (by decide) ?_
    refine q_tope (y := nI (q_strl.getD j 0)) rfl ?_
    refine q_cge 73 dX2_isName_43 (by decide) (fun h43 => ?_) (fun h43 => ?_)
    · refine q_iconst (x := 1) dX2_isName_73 (by decide) ?_
      refine q_ret1 dX2_isName_74 ?_ rfl rfl
      have e1 : i = q_strl.getD j 0 := by omega
      subst e1
      exact ⟨congrArg some (by rw [sp_nm, ha, decide_eq_true hk1, decide_eq_true hel]; rfl), rfl, rfl⟩
    · refine q_aload_n dX2_isName_46 rfl ?_
      refine q_getr fX2_9 dX2_isName_47 (by first | rfl | assumption) (by rfl) ?_
      refine q_aload_n dX2_isName_50 rfl ?_
      refine q_get fX2_87 dX2_isName_51 (by first | rfl | assumption) (by rfl) ?_
      refine q_tope (y := nI s) hs ?_
      refine q_iload_n dX2_isName_54 rfl ?_
      refine q_iadd dX2_isName_55 ?_
      refine q_tope (y := nI (s + i)) (nI_add _ _) ?_
      refine q_bld (s + i) (by first | rfl | assumption) (nI_toInt (by omega)) (by omega) dX2_isName_56 ?_
      refine q_aload_n dX2_isName_57 rfl ?_
      refine q_iload_n dX2_isName_58 rfl ?_
      refine q_callT j hj lX2_99 vJ0_charAt_5068e rfl dX2_isName_59 (kS_char j hj hit (by omega) (by omega)) rfl rfl (Nat.le_of_ble_eq_true rfl) (by decide) ?_
      refine q_tope (y := (q_sby.getD j []).getD i 0) (sp_ch j hj i (by omega)) ?_
      refine q_icmp_eq 67 dX2_isName_62 (by decide) (fun h62 => ?_) (fun h62 => ?_)
      · refine q_inc 1 dX2_isName_67 (by decide) rfl (by decide) rfl ?_
        refine q_goto 38 dX2_isName_70 (by decide) ?_
        rw [nI_1]
        exact ih (i + 1) (by omega) (by omega) (by rw [q_allb, ha]; exact decide_eq_true h62)
      · refine q_iconst (x := 0) dX2_isName_65 (by decide) ?_
        refine q_ret0 dX2_isName_66 ?_ rfl rfl
        exact ⟨congrArg some (by rw [sp_nm, q_allb_f (i := i) (decide_eq_false h62) (q_strl.getD j 0) (by omega), Bool.and_false, Bool.and_false]), rfl, rfl⟩

set_option maxHeartbeats 1000000 in
set_option maxRecDepth 100000 in
theorem kX2_isName {σ : q_M} {k s e : Nat} (hk : σ 1 10 = nI k) (hk5 : k ≤ 5) (hs : σ 1 11 = nI s) (he : σ 1 9 = nI e) (hse : s ≤ e) (h320 : e ≤ 320) {j : Nat} (hj : j < 11) : q_Ct YX2_isName [.ref 1, .ref (1000000 + (100 + j))] q_SH σ (q_is (some (q_b (decide (k = 1) && sp_nm (σ 2) s e j))) q_SH σ) := by
  refine q_ct (n := 1) (by decide) (by decide) rfl (fun _ => Nat.le_of_ble_eq_true rfl) (fun E => ?_)
  have het := nI_toInt (n := e) (by omega)
  have e3 : (320 : Int32).toInt = 320 := rfl
  have hl7 := sp_len j hj
  refine q_aload_n dX2_isName_0 rfl ?_
  refine q_get fX2_44 dX2_isName_1 (by first | rfl | assumption) (by rfl) ?_
  refine q_tope (y := nI k) hk ?_
  refine q_iconst (x := 1) dX2_isName_4 (by decide) ?_
  refine q_icmp_ne 34 dX2_isName_5 (by decide) (fun h5 => ?_) (fun h5 => ?_)
  · have hk1 : ¬ k = 1 := sp_ne (b := 1) h5
    refine q_iconst (x := 0) dX2_isName_34 (by decide) ?_
    refine q_ret0 dX2_isName_35 ?_ rfl rfl
    first
      | exact ⟨congrArg some (by rw [decide_eq_false hk1]; rfl), rfl, rfl⟩
      | exact ⟨congrArg some (by rw [sp_nm, decide_eq_false hel, Bool.false_and, Bool.and_false]), rfl, rfl⟩
  · have hk1 := sp_eq (b := 1) (by omega) (by decide) h5
    refine q_aload_n dX2_isName_8 rfl ?_
    refine q_get fX2_78 dX2_isName_9 (by first | rfl | assumption) (by rfl) ?_
    refine q_tope (y := nI e) he ?_
    refine q_aload_n dX2_isName_12 rfl ?_
    refine q_get fX2_87 dX2_isName_13 (by first | rfl | assumption) (by rfl) ?_
    refine q_tope (y := nI s) hs ?_
    refine q_isub dX2_isName_16 ?_
    refine q_tope (y := nI (e - s)) (pk_sub hse) ?_
    refine q_aload_n dX2_isName_17 rfl ?_
    refine q_callT j hj lX2_94 vJ0_length_8abf5 rfl dX2_isName_18 (kS_len j hj) rfl rfl (Nat.le_of_ble_eq_true rfl) (by decide) ?_
    refine q_tope (y := nI (q_strl.getD j 0)) rfl ?_
    refine q_icmp_ne 34 dX2_isName_21 (by decide) (fun h21 => ?_) (fun h21 => ?_)
    · have hel : ¬ e = s + q_strl.getD j 0 := fun z => h21 (congrArg nI (by omega))
      refine q_iconst (x := 0) dX2_isName_34 (by decide) ?_
      refine q_ret0 dX2_isName_35 ?_ rfl rfl
      first
        | exact ⟨congrArg some (by rw [decide_eq_false hk1]; rfl), rfl, rfl⟩
        | exact ⟨congrArg some (by rw [sp_nm, decide_eq_false hel, Bool.false_and, Bool.and_false]), rfl, rfl⟩
    · have hel : e = s + q_strl.getD j 0 := by
        have := sp_eq (by omega) (by omega) h21
        omega
      refine q_aload_n dX2_isName_24 rfl ?_
      refine q_get fX2_78 dX2_isName_25 (by first | rfl | assumption) (by rfl) ?_
      refine q_tope (y := nI e) he ?_
      refine q_sipush (x := 320) dX2_isName_28 (by decide) ?_
      refine q_cle 36 dX2_isName_31 (by decide) (fun h31 => ?_) (fun h31 => ?_)
      · refine q_iconst (x := 0) dX2_isName_36 (by decide) ?_
        refine q_istore_n dX2_isName_37 (by decide) rfl ?_
        exact lpX2_isName hk hk5 hs he hse h320 hj hk1 hel 10 0 (by omega) (by omega) rfl
      · exact absurd h31 (by omega)

set_option maxHeartbeats 1000000 in
set_option maxRecDepth 100000 in
theorem lpX2_num {E : q_E} {σ : q_M} {lo hi : Int32} {s e : Nat} (hse : s ≤ e) (he : e ≤ 320) {Q : q_P} (K : q_G YX2_takeNumber E 0 0 75 [some (.ref 1), some (.int lo), some (.int hi), some (.int (nI e))] [] q_SH (q_up (rd_t σ s 2 e) 1 12 (sp_v (σ 2) s (e - s))) Q) : ∀ (n : Nat) (i : Nat), e + 1 ≤ s + i + n → s + i ≤ e → q_G YX2_takeNumber E 0 0 33 [some (.ref 1), some (.int lo), some (.int hi), some (.int (nI (s + i)))] [] q_SH (q_up (rd_t σ s 2 e) 1 12 (sp_v (σ 2) s i)) Q := by
  intro n
  induction n with
  | zero =>
    intro i hm h0
    exact absurd hm (by omega)
  | succ n ih =>
    intro i hm h0
    have hit := nI_toInt (n := s + i) (by omega)
    have het := nI_toInt (n := e) (by omega)
    have e3 : (320 : Int32).toInt = 320 := rfl
    refine q_iload_n dX2_takeNumber_33 rfl ?_
    refine q_aload_n dX2_takeNumber_34 rfl ?_
    refine q_get fX2_78 dX2_takeNumber_35 (by first | rfl | assumption) (by rfl) ?_
    refine q_tope (y := nI e) rfl ?_
    refine q_cge 75 dX2_takeNumber_38 (by decide) (fun h38 => ?_) (fun h38 => ?_)
    · have e1 : s + i = e := by omega
      have e2 : i = e - s := by omega
      rw [e1, e2]
      exact K
    · refine q_iload_n dX2_takeNumber_41 rfl ?_
      refine q_sipush (x := 320) dX2_takeNumber_42 (by decide) ?_
      refine q_cge 75 dX2_takeNumber_45 (by decide) (fun h45 => ?_) (fun h45 => ?_)
      · exact absurd h45 (by omega)
      · refine q_aload_n dX2_takeNumber_48 rfl ?_
        refine q_aload_n dX2_takeNumber_49 rfl ?_
        refine q_get fX2_103 dX2_takeNumber_50 (by first | rfl | assumption) (by rfl) ?_
        refine q_tope (y := sp_v (σ 2) s i) rfl ?_
        refine q_bipush (x := 10) dX2_takeNumber_53 (by decide) ?_
        refine q_imul dX2_takeNumber_55 ?_
        refine q_aload_n dX2_takeNumber_56 rfl ?_
        refine q_getr fX2_9 dX2_takeNumber_57 (by first | rfl | assumption) (by rfl) ?_
        refine q_iload_n dX2_takeNumber_60 rfl ?_
        refine q_bld (s + i) (by first | rfl | assumption) hit (by omega) dX2_takeNumber_61 ?_
        refine q_tope (y := σ 2 (s + i)) rfl ?_
        refine q_iadd dX2_takeNumber_62 ?_
        refine q_bipush (x := 48) dX2_takeNumber_63 (by decide) ?_
        refine q_isub dX2_takeNumber_65 ?_
        refine q_tope (y := sp_v (σ 2) s (i + 1)) rfl ?_
        refine q_put_i pX2_103 dX2_takeNumber_66 (by first | rfl | assumption) (by rfl) rfl rfl ?_
        refine q_inc 1 dX2_takeNumber_69 (by decide) rfl (by decide) rfl ?_
        refine q_goto 33 dX2_takeNumber_72 (by decide) ?_
        rw [q_uu, nI_1, show s + i + 1 = s + (i + 1) from rfl]
        exact ih (i + 1) (by omega) (by omega)

set_option maxHeartbeats 1000000 in
set_option maxRecDepth 100000 in
theorem sgX2_num {E : q_E} {σ : q_M} {L : Nat} (hL : σ 1 4 = nI L) (h320 : L ≤ 320) {p : Nat} (hpL : p ≤ L) {lo hi : Int32} (hok : sp_ok (σ 2) L p = true) (hd2 : sp_d (σ 2) L p = 2) {x : Int32} : q_G YX2_takeNumber E 0 0 75 [some (.ref 1), some (.int lo), some (.int hi), some (.int x)] [] q_SH (q_up (rd_t σ (sp_s (σ 2) L p) 2 (sp_e (σ 2) L p)) 1 12 (sp_v (σ 2) (sp_s (σ 2) L p) (sp_e (σ 2) L p - sp_s (σ 2) L p))) (q_re (q_b (sp_g (sp_num (σ 2) L lo hi p))) q_SH (sp_P2 σ (σ 2) L lo hi p)) := by
  refine q_aload_n dX2_takeNumber_75 rfl ?_
  refine q_get fX2_103 dX2_takeNumber_76 (by first | rfl | assumption) (by rfl) ?_
  refine q_tope (y := sp_v (σ 2) (sp_s (σ 2) L p) (sp_e (σ 2) L p - sp_s (σ 2) L p)) rfl ?_
  refine q_iload_n dX2_takeNumber_79 rfl ?_
  refine q_iload_n dX2_takeNumber_80 rfl ?_
  refine q_cSi lX2_106 sX7_within dX2_takeNumber_81 kX7_within rfl rfl (Nat.le_of_ble_eq_true rfl) (by decide) ?_
  refine q_bne 95 dX2_takeNumber_84 (by decide) (fun h84 => ?_) (fun h84 => ?_)
  · refine q_iconst (x := 1) dX2_takeNumber_95 (by decide) ?_
    refine q_goto 100 dX2_takeNumber_96 (by decide) ?_
    refine q_ret1 dX2_takeNumber_100 ?_ rfl rfl
    first
      | (have hn : sp_num (σ 2) L lo hi p = .inr (sp_v (σ 2) (sp_s (σ 2) L p) (sp_e (σ 2) L p - sp_s (σ 2) L p), sp_e (σ 2) L p) := by rw [sp_num, if_neg (by rw [hok]; decide), if_neg (by omega), if_pos h84]
         exact ⟨by rw [hn]; rfl, rfl, by unfold sp_P2; rw [hn]⟩)
      | (have hn : sp_num (σ 2) L lo hi p = .inl (3, sp_s (σ 2) L p) := by rw [sp_num, if_neg (by rw [hok]; decide), if_neg (by omega), if_neg (sp_nb h84)]
         exact ⟨by rw [hn]; rfl, rfl, by unfold sp_P2; rw [hn]; exact rd_F.of (f := 3) ((rd_t_fr σ _ _ _).up rd_c1) rfl⟩)
  · refine q_aload_n dX2_takeNumber_87 rfl ?_
    refine q_iconst (x := 3) dX2_takeNumber_88 (by decide) ?_
    refine q_cVi lX2_70 vX2_fail (ci := 2) rfl dX2_takeNumber_89 kX2_fail (by first | rfl | assumption) rfl rfl (Nat.le_of_ble_eq_true rfl) (by decide) ?_
    refine q_beq 99 dX2_takeNumber_92 (by decide) (fun h92 => ?_) (fun h92 => ?_)
    · refine q_iconst (x := 0) dX2_takeNumber_99 (by decide) ?_
      refine q_ret0 dX2_takeNumber_100 ?_ rfl rfl
      first
        | (have hn : sp_num (σ 2) L lo hi p = .inr (sp_v (σ 2) (sp_s (σ 2) L p) (sp_e (σ 2) L p - sp_s (σ 2) L p), sp_e (σ 2) L p) := by rw [sp_num, if_neg (by rw [hok]; decide), if_neg (by omega), if_pos h84]
           exact ⟨by rw [hn]; rfl, rfl, by unfold sp_P2; rw [hn]⟩)
        | (have hn : sp_num (σ 2) L lo hi p = .inl (3, sp_s (σ 2) L p) := by rw [sp_num, if_neg (by rw [hok]; decide), if_neg (by omega), if_neg (sp_nb h84)]
           exact ⟨by rw [hn]; rfl, rfl, by unfold sp_P2; rw [hn]; exact rd_F.of (f := 3) ((rd_t_fr σ _ _ _).up rd_c1) rfl⟩)
    · exact absurd h92 (by decide)

set_option maxHeartbeats 1000000 in
set_option maxRecDepth 100000 in
theorem kX2_takeNumber {σ : q_M} {L : Nat} (hL : σ 1 4 = nI L) (h320 : L ≤ 320) {p : Nat} (hp : σ 1 9 = nI p) (hpL : p ≤ L) {lo hi : Int32} : q_Ct YX2_takeNumber [.ref 1, .int lo, .int hi] q_SH σ (q_re (q_b (sp_g (sp_num (σ 2) L lo hi p))) q_SH (sp_P2 σ (σ 2) L lo hi p)) := by
  refine q_ct (n := 1) (by decide) (by decide) rfl (fun _ => Nat.le_of_ble_eq_true rfl) (fun E => ?_)
  have hsg := sp_s_ge (c := σ 2) hpL
  have hel := sp_e_le (c := σ 2) hpL
  have hdl := sp_d_le (σ 2) L p
  refine q_aload_n dX2_takeNumber_0 rfl ?_
  refine q_rVi lX2_40 vX2_nextToken (ci := 2) rfl dX2_takeNumber_1 (kX2_nextToken hL h320 hp hpL) (by first | rfl | assumption) rfl rfl (Nat.le_of_ble_eq_true rfl) (by decide) (fun τ hq => ?_)
  refine q_bne 9 dX2_takeNumber_4 (by decide) (fun h4 => ?_) (fun h4 => ?_)
  · have hτ := hq.1 h4
    subst hτ
    refine q_aload_n dX2_takeNumber_9 rfl ?_
    refine q_get fX2_44 dX2_takeNumber_10 (by first | rfl | assumption) (by rfl) ?_
    refine q_tope (y := nI (sp_d (σ 2) L p)) rfl ?_
    refine q_iconst (x := 2) dX2_takeNumber_13 (by decide) ?_
    refine q_icmp_eq 23 dX2_takeNumber_14 (by decide) (fun h14 => ?_) (fun h14 => ?_)
    · have hd2 := sp_eq (b := 2) (by omega) (by decide) h14
      rw [hd2]
      refine q_aload_n dX2_takeNumber_23 rfl ?_
      refine q_iconst (x := 0) dX2_takeNumber_24 (by decide) ?_
      refine q_put_i pX2_103 dX2_takeNumber_25 (by first | rfl | assumption) (by rfl) rfl rfl ?_
      refine q_aload_n dX2_takeNumber_28 rfl ?_
      refine q_get fX2_87 dX2_takeNumber_29 (by first | rfl | assumption) (by rfl) ?_
      refine q_tope (y := nI (sp_s (σ 2) L p)) rfl ?_
      refine q_istore_n dX2_takeNumber_32 (by decide) rfl ?_
      have z := lpX2_num (E := E) (σ := σ) (lo := lo) (hi := hi) hel.1 (by omega) (sgX2_num hL h320 hpL h4 hd2) (L + 1) 0 (by omega) (by omega)
      exact z
    · have hd2 : ¬ sp_d (σ 2) L p = 2 := sp_ne (b := 2) h14
      refine q_aload_n dX2_takeNumber_17 rfl ?_
      refine q_iconst (x := 2) dX2_takeNumber_18 (by decide) ?_
      refine q_cVi lX2_70 vX2_fail (ci := 2) rfl dX2_takeNumber_19 kX2_fail (by first | rfl | assumption) rfl rfl (Nat.le_of_ble_eq_true rfl) (by decide) ?_
      refine q_bret dX2_takeNumber_22 ?_ rfl rfl
      have hn : sp_num (σ 2) L lo hi p = .inl (2, sp_s (σ 2) L p) := by rw [sp_num, if_neg (by rw [h4]; decide), if_pos hd2]
      exact ⟨by rw [hn]; rfl, rfl, by unfold sp_P2; rw [hn]; exact rd_F.of (f := 2) (rd_t_fr σ _ _ _) rfl⟩
  · refine q_iconst (x := 0) dX2_takeNumber_7 (by decide) ?_
    refine q_ret0 dX2_takeNumber_8 ?_ rfl rfl
    have hn : sp_num (σ 2) L lo hi p = .inl (1, sp_s (σ 2) L p) := by rw [sp_num, if_pos h4]
    exact ⟨by rw [hn]; rfl, rfl, by unfold sp_P2; rw [hn]; exact hq.2 h4⟩

set_option maxHeartbeats 1000000 in
set_option maxRecDepth 100000 in
theorem kX2_takeStop {σ : q_M} {L : Nat} (hL : σ 1 4 = nI L) (h320 : L ≤ 320) {p : Nat} (hp : σ 1 9 = nI p) (hpL : p ≤ L) : q_Ct YX2_takeStop [.ref 1] q_SH σ (q_re (q_b (sp_g (sp_st (σ 2) L p))) q_SH (sp_P3 σ (σ 2) L p)) := by
  refine q_ct (n := 0) (by decide) (by decide) rfl (fun _ => Nat.le_of_ble_eq_true rfl) (fun E => ?_)
  have hsg := sp_s_ge (c := σ 2) hpL
  have hel := sp_e_le (c := σ 2) hpL
  have hdl := sp_d_le (σ 2) L p
  refine q_aload_n dX2_takeStop_0 rfl ?_
  refine q_rVi lX2_40 vX2_nextToken (ci := 2) rfl dX2_takeStop_1 (kX2_nextToken hL h320 hp hpL) (by first | rfl | assumption) rfl rfl (Nat.le_of_ble_eq_true rfl) (by decide) (fun τ hq => ?_)
  refine q_bne 9 dX2_takeStop_4 (by decide) (fun h4 => ?_) (fun h4 => ?_)
  · have hτ := hq.1 h4
    subst hτ
    refine q_aload_n dX2_takeStop_9 rfl ?_
    refine q_get fX2_44 dX2_takeStop_10 (by first | rfl | assumption) (by rfl) ?_
    refine q_tope (y := nI (sp_d (σ 2) L p)) rfl ?_
    refine q_iconst (x := 3) dX2_takeStop_13 (by decide) ?_
    refine q_icmp_eq 25 dX2_takeStop_14 (by decide) (fun h14 => ?_) (fun h14 => ?_)
    · have hd2 := sp_eq (b := 3) (by omega) (by decide) h14
      refine q_iconst (x := 1) dX2_takeStop_25 (by decide) ?_
      refine q_goto 30 dX2_takeStop_26 (by decide) ?_
      refine q_ret1 dX2_takeStop_30 ?_ rfl rfl
      first
        | (have hn : sp_st (σ 2) L p = .inr (sp_e (σ 2) L p) := by rw [sp_st, if_neg (by rw [h4]; decide), if_pos hd2]
           exact ⟨by rw [hn]; rfl, rfl, by unfold sp_P3; rw [hn, hd2]⟩)
        | (have hn : sp_st (σ 2) L p = .inl (2, sp_s (σ 2) L p) := by rw [sp_st, if_neg (by rw [h4]; decide), if_neg hd2]
           exact ⟨by rw [hn]; rfl, rfl, by unfold sp_P3; rw [hn]; exact rd_F.of (f := 2) (rd_t_fr σ _ _ _) rfl⟩)
    · have hd2 : ¬ sp_d (σ 2) L p = 3 := sp_ne (b := 3) h14
      refine q_aload_n dX2_takeStop_17 rfl ?_
      refine q_iconst (x := 2) dX2_takeStop_18 (by decide) ?_
      refine q_cVi lX2_70 vX2_fail (ci := 2) rfl dX2_takeStop_19 kX2_fail (by first | rfl | assumption) rfl rfl (Nat.le_of_ble_eq_true rfl) (by decide) ?_
      refine q_beq 29 dX2_takeStop_22 (by decide) (fun h22 => ?_) (fun h22 => ?_)
      · refine q_iconst (x := 0) dX2_takeStop_29 (by decide) ?_
        refine q_ret0 dX2_takeStop_30 ?_ rfl rfl
        first
          | (have hn : sp_st (σ 2) L p = .inr (sp_e (σ 2) L p) := by rw [sp_st, if_neg (by rw [h4]; decide), if_pos hd2]
             exact ⟨by rw [hn]; rfl, rfl, by unfold sp_P3; rw [hn, hd2]⟩)
          | (have hn : sp_st (σ 2) L p = .inl (2, sp_s (σ 2) L p) := by rw [sp_st, if_neg (by rw [h4]; decide), if_neg hd2]
             exact ⟨by rw [hn]; rfl, rfl, by unfold sp_P3; rw [hn]; exact rd_F.of (f := 2) (rd_t_fr σ _ _ _) rfl⟩)
      · exact absurd h22 (by decide)
  · refine q_iconst (x := 0) dX2_takeStop_7 (by decide) ?_
    refine q_ret0 dX2_takeStop_8 ?_ rfl rfl
    have hn : sp_st (σ 2) L p = .inl (1, sp_s (σ 2) L p) := by rw [sp_st, if_pos h4]
    exact ⟨by rw [hn]; rfl, rfl, by unfold sp_P3; rw [hn]; exact hq.2 h4⟩

set_option maxHeartbeats 1000000 in
set_option maxRecDepth 100000 in
theorem kX2_takeRule {σ : q_M} {L : Nat} (hL : σ 1 4 = nI L) (h320 : L ≤ 320) {p : Nat} (hp : σ 1 9 = nI p) (hpL : p ≤ L) {r : Nat} (hr : r < 7) : q_Ct YX2_takeRule [.ref 1, .int (nI r)] q_SH σ (q_re (q_b (sp_g (sp_num (σ 2) L (q_tab 1 r) (q_tab 2 r) p))) q_SH (sp_P4 σ (σ 2) L r p)) := by
  refine q_ct (n := 0) (by decide) (by decide) rfl (fun _ => Nat.le_of_ble_eq_true rfl) (fun E => ?_)
  have hrt := nI_toInt (n := r) (by omega)
  refine q_aload_n dX2_takeRule_0 rfl ?_
  refine q_gets 1 ⟨by decide, by decide⟩ gX2_131 dX2_takeRule_1 ?_
  refine q_iload_n dX2_takeRule_4 rfl ?_
  refine q_tld 1 r ⟨by decide, by decide⟩ hrt hr dX2_takeRule_5 ?_
  refine q_gets 2 ⟨by decide, by decide⟩ gX2_135 dX2_takeRule_6 ?_
  refine q_iload_n dX2_takeRule_9 rfl ?_
  refine q_tld 2 r ⟨by decide, by decide⟩ hrt hr dX2_takeRule_10 ?_
  refine q_rVi lX2_138 vX2_takeNumber (ci := 2) rfl dX2_takeRule_11 (kX2_takeNumber hL h320 hp hpL) (by first | rfl | assumption) rfl rfl (Nat.le_of_ble_eq_true rfl) (by decide) (fun τ hq => ?_)
  refine q_bne 19 dX2_takeRule_14 (by decide) (fun h14 => ?_) (fun h14 => ?_)
  · obtain ⟨y, hy⟩ := sp_gr h14
    unfold sp_P2 at hq
    rw [hy] at hq
    subst hq
    refine q_aload_n dX2_takeRule_19 rfl ?_
    refine q_getr fX2_18 dX2_takeRule_20 (by first | rfl | assumption) (by rfl) ?_
    refine q_getr fX2_142 dX2_takeRule_23 (by first | rfl | assumption) (by rfl) ?_
    refine q_iload_n dX2_takeRule_26 rfl ?_
    refine q_aload_n dX2_takeRule_27 rfl ?_
    refine q_get fX2_103 dX2_takeRule_28 (by first | rfl | assumption) (by rfl) ?_
    refine q_tope (y := y.1) rfl ?_
    refine q_isto r (by first | rfl | assumption) hrt hr dX2_takeRule_31 ?_
    refine q_iconst (x := 1) dX2_takeRule_32 (by decide) ?_
    refine q_ret1 dX2_takeRule_33 ?_ rfl rfl
    exact ⟨by rw [hy]; rfl, rfl, by unfold sp_P4; rw [hy]⟩
  · refine q_iconst (x := 0) dX2_takeRule_17 (by decide) ?_
    refine q_ret0 dX2_takeRule_18 ?_ rfl rfl
    obtain ⟨y, hy⟩ := sp_gl h14
    unfold sp_P2 at hq
    rw [hy] at hq
    exact ⟨by rw [hy]; rfl, rfl, by unfold sp_P4; rw [hy]; exact hq⟩

def sp_ri (k : Nat) (c : Nat → Int32) (s e : Nat) : Int32 := if (decide (k = 1) && sp_nm c s e 5) = true then 0 else if (decide (k = 1) && sp_nm c s e 6) = true then 1 else if (decide (k = 1) && sp_nm c s e 7) = true then 2 else if (decide (k = 1) && sp_nm c s e 8) = true then 3 else if (decide (k = 1) && sp_nm c s e 9) = true then 4 else if (decide (k = 1) && sp_nm c s e 10) = true then 6 else -4
theorem sp_ri_1 (c : Nat → Int32) (s e : Nat) : sp_ri 1 c s e = if sp_rn c s e = 7 then -4 else nI (sp_rn c s e) := by
  unfold sp_ri sp_rn
  simp only [decide_true, Bool.true_and]
  repeat' split
  all_goals first | rfl | (exfalso; omega) | simp_all
theorem sp_ri_n {k : Nat} (h : ¬ k = 1) (c : Nat → Int32) (s e : Nat) : sp_ri k c s e = -4 := by
  unfold sp_ri
  rw [decide_eq_false h]
  rfl
theorem sp_rn_le (c : Nat → Int32) (s e : Nat) : sp_rn c s e ≤ 7 ∧ ¬ sp_rn c s e = 5 := by
  unfold sp_rn
  repeat' split
  all_goals omega

set_option maxHeartbeats 1000000 in
set_option maxRecDepth 100000 in
theorem kX2_ruleNamed {σ : q_M} {k s e : Nat} (hk : σ 1 10 = nI k) (hk5 : k ≤ 5) (hs : σ 1 11 = nI s) (he : σ 1 9 = nI e) (hse : s ≤ e) (h320 : e ≤ 320) : q_Ct YX2_ruleNamed [.ref 1] q_SH σ (q_is (some (sp_ri k (σ 2) s e)) q_SH σ) := by
  refine q_ct (n := 0) (by decide) (by decide) rfl (fun _ => Nat.le_of_ble_eq_true rfl) (fun E => ?_)
  refine q_aload_n dX2_ruleNamed_0 rfl ?_
  refine q_ldcS 5 (by decide) rfl dX2_ruleNamed_1 ?_
  refine q_cVi lX2_52 vX2_isName (ci := 2) rfl dX2_ruleNamed_3 (kX2_isName hk hk5 hs he hse h320 (j := 5) (by decide)) (by first | rfl | assumption) rfl rfl (Nat.le_of_ble_eq_true rfl) (by decide) ?_
  refine q_beq 11 dX2_ruleNamed_6 (by decide) (fun h6 => ?_) (fun h6 => ?_)
  · refine q_aload_n dX2_ruleNamed_11 rfl ?_
    refine q_ldcS 6 (by decide) rfl dX2_ruleNamed_12 ?_
    refine q_cVi lX2_52 vX2_isName (ci := 2) rfl dX2_ruleNamed_14 (kX2_isName hk hk5 hs he hse h320 (j := 6) (by decide)) (by first | rfl | assumption) rfl rfl (Nat.le_of_ble_eq_true rfl) (by decide) ?_
    refine q_beq 22 dX2_ruleNamed_17 (by decide) (fun h17 => ?_) (fun h17 => ?_)
    · refine q_aload_n dX2_ruleNamed_22 rfl ?_
      refine q_ldcS 7 (by decide) rfl dX2_ruleNamed_23 ?_
      refine q_cVi lX2_52 vX2_isName (ci := 2) rfl dX2_ruleNamed_25 (kX2_isName hk hk5 hs he hse h320 (j := 7) (by decide)) (by first | rfl | assumption) rfl rfl (Nat.le_of_ble_eq_true rfl) (by decide) ?_
      refine q_beq 33 dX2_ruleNamed_28 (by decide) (fun h28 => ?_) (fun h28 => ?_)
      · refine q_aload_n dX2_ruleNamed_33 rfl ?_
        refine q_ldcS 8 (by decide) rfl dX2_ruleNamed_34 ?_
        refine q_cVi lX2_52 vX2_isName (ci := 2) rfl dX2_ruleNamed_36 (kX2_isName hk hk5 hs he hse h320 (j := 8) (by decide)) (by first | rfl | assumption) rfl rfl (Nat.le_of_ble_eq_true rfl) (by decide) ?_
        refine q_beq 44 dX2_ruleNamed_39 (by decide) (fun h39 => ?_) (fun h39 => ?_)
        · refine q_aload_n dX2_ruleNamed_44 rfl ?_
          refine q_ldcS 9 (by decide) rfl dX2_ruleNamed_45 ?_
          refine q_cVi lX2_52 vX2_isName (ci := 2) rfl dX2_ruleNamed_47 (kX2_isName hk hk5 hs he hse h320 (j := 9) (by decide)) (by first | rfl | assumption) rfl rfl (Nat.le_of_ble_eq_true rfl) (by decide) ?_
          refine q_beq 55 dX2_ruleNamed_50 (by decide) (fun h50 => ?_) (fun h50 => ?_)
          · refine q_aload_n dX2_ruleNamed_55 rfl ?_
            refine q_ldcS 10 (by decide) rfl dX2_ruleNamed_56 ?_
            refine q_cVi lX2_52 vX2_isName (ci := 2) rfl dX2_ruleNamed_58 (kX2_isName hk hk5 hs he hse h320 (j := 10) (by decide)) (by first | rfl | assumption) rfl rfl (Nat.le_of_ble_eq_true rfl) (by decide) ?_
            refine q_beq 69 dX2_ruleNamed_61 (by decide) (fun h61 => ?_) (fun h61 => ?_)
            · refine q_bipush (x := (-4)) dX2_ruleNamed_69 (by decide) ?_
              refine q_ret dX2_ruleNamed_71 ?_ rfl rfl
              first
                | exact ⟨congrArg some (by rw [sp_ri, if_neg (sp_nb h6), if_neg (sp_nb h17), if_neg (sp_nb h28), if_neg (sp_nb h39), if_neg (sp_nb h50), if_pos h61]), rfl, rfl⟩
                | exact ⟨congrArg some (by rw [sp_ri, if_neg (sp_nb h6), if_neg (sp_nb h17), if_neg (sp_nb h28), if_neg (sp_nb h39), if_neg (sp_nb h50), if_neg (sp_nb h61)]), rfl, rfl⟩
            · refine q_bipush (x := 6) dX2_ruleNamed_64 (by decide) ?_
              refine q_goto 71 dX2_ruleNamed_66 (by decide) ?_
              refine q_ret dX2_ruleNamed_71 ?_ rfl rfl
              first
                | exact ⟨congrArg some (by rw [sp_ri, if_neg (sp_nb h6), if_neg (sp_nb h17), if_neg (sp_nb h28), if_neg (sp_nb h39), if_neg (sp_nb h50), if_pos h61]), rfl, rfl⟩
                | exact ⟨congrArg some (by rw [sp_ri, if_neg (sp_nb h6), if_neg (sp_nb h17), if_neg (sp_nb h28), if_neg (sp_nb h39), if_neg (sp_nb h50), if_neg (sp_nb h61)]), rfl, rfl⟩
          · refine q_iconst (x := 4) dX2_ruleNamed_53 (by decide) ?_
            refine q_ret dX2_ruleNamed_54 ?_ rfl rfl
            exact ⟨congrArg some (by rw [sp_ri, if_neg (sp_nb h6), if_neg (sp_nb h17), if_neg (sp_nb h28), if_neg (sp_nb h39), if_pos h50]), rfl, rfl⟩
        · refine q_iconst (x := 3) dX2_ruleNamed_42 (by decide) ?_
          refine q_ret dX2_ruleNamed_43 ?_ rfl rfl
          exact ⟨congrArg some (by rw [sp_ri, if_neg (sp_nb h6), if_neg (sp_nb h17), if_neg (sp_nb h28), if_pos h39]), rfl, rfl⟩
      · refine q_iconst (x := 2) dX2_ruleNamed_31 (by decide) ?_
        refine q_ret dX2_ruleNamed_32 ?_ rfl rfl
        exact ⟨congrArg some (by rw [sp_ri, if_neg (sp_nb h6), if_neg (sp_nb h17), if_pos h28]), rfl, rfl⟩
    · refine q_iconst (x := 1) dX2_ruleNamed_20 (by decide) ?_
      refine q_ret dX2_ruleNamed_21 ?_ rfl rfl
      exact ⟨congrArg some (by rw [sp_ri, if_neg (sp_nb h6), if_pos h17]), rfl, rfl⟩
  · refine q_iconst (x := 0) dX2_ruleNamed_9 (by decide) ?_
    refine q_ret dX2_ruleNamed_10 ?_ rfl rfl
    exact ⟨congrArg some (by rw [sp_ri, if_pos h6]), rfl, rfl⟩
