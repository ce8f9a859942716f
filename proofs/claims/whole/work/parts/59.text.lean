/-! the whole text, on both sides -/
/-- behind a text: the reference -/
def rm_f0 (σ τ : q_M) : Prop := (∀ x, ¬ (x = 72 ∨ x = 77 ∨ x = 78 ∨ x = 79) → τ x = σ x) ∧ ∀ k, ¬ (k = 7 ∨ k = 8 ∨ (10 ≤ k ∧ k ≤ 16)) → τ 72 k = σ 72 k
def rm_PT (σ : q_M) (res : sp_F ⊕ (sp_D × Nat)) : q_P := fun r a τ => a = q_SH ∧ match res with
  | .inl w => r = some (-10 - nI w.2) ∧ rm_f0 σ τ ∧ τ 72 15 = nI w.1 ∧ τ 72 10 = 0
  | .inr y => r = some (nI y.2) ∧ ∃ ρ, τ = qm_kd ρ ∧ rm_f0 σ ρ ∧ rm_D y.1 ρ ∧ ρ 72 15 = 0 ∧ ρ 72 10 = 0
theorem rm_fr.f0 {σ τ : q_M} (h : rm_fr σ τ) {v : Int32} : rm_f0 σ (q_up τ 72 10 v) := ⟨fun x hx => by rw [q_up_ne (by omega)]; exact h.1 x hx, fun k hk => by rw [q_up_f (by omega)]; exact h.2 k (by omega)⟩
theorem rm_D0 (σ : q_M) : rm_D sp_D0 (qm_fr σ) := by
  refine ⟨fun j hj => ?_, fun j hj => ?_, rfl, rfl, by decide, fun k hk => absurd hk (by show ¬ k < 0; omega), fun k _ hk w hw => ?_⟩
  · show q_fill (q_fill (q_fill σ 77 qm_r7 7) 78 (fun _ => 0) 24) 79 (fun _ => 0) 48 77 j = q_tab 3 j
    rw [q_fill_ne (by decide), q_fill_ne (by decide), q_fill_lo hj]
    rcases (show j = 0 ∨ j = 1 ∨ j = 2 ∨ j = 3 ∨ j = 4 ∨ j = 5 ∨ j = 6 by omega) with rfl | rfl | rfl | rfl | rfl | rfl | rfl <;> rfl
  · show q_fill (q_fill (q_fill σ 77 qm_r7 7) 78 (fun _ => 0) 24) 79 (fun _ => 0) 48 78 j = 0
    rw [q_fill_ne (by decide), q_fill_lo hj]
  · show q_fill (q_fill (q_fill σ 77 qm_r7 7) 78 (fun _ => 0) 24) 79 (fun _ => 0) 48 79 (8 * k + w) = 0
    rw [q_fill_lo (by omega)]
theorem rm_fr_fr (σ : q_M) : rm_fr σ (qm_fr σ) := by
  refine ⟨fun x hx => ?_, fun k hk => ?_⟩
  · unfold qm_fr
    rw [q_up_ne (by omega), q_up_ne (by omega), q_fill_ne (by omega), q_fill_ne (by omega), q_fill_ne (by omega)]
  · unfold qm_fr
    rw [q_up_f (by omega), q_up_f (by omega), q_fill_ne (by decide), q_fill_ne (by decide), q_fill_ne (by decide)]

set_option maxHeartbeats 1000000 in
set_option maxRecDepth 100000 in
theorem lpX8_text {E : q_E} {σ0 : q_M} {c : Nat → Int32} {L : Nat} (ht0 : rm_t σ0 c L) {res : sp_F ⊕ (sp_D × Nat)} : ∀ (n : Nat) (m t : Nat) (X : sp_F ⊕ (sp_D × Nat)) (σ : q_M), m + 1 ≤ n → rm_Z σ0 c L X σ → (∀ y, X = .inr y → L + 1 ≤ y.2 + m) → sp_b X (fun y => sp_tx c L m y.1 t y.2) = res → q_G YX8_text E 0 0 20 [some (.ref 72), some (.int (nI t))] [] q_SH σ (rm_PT σ0 res) := by
  intro n
  induction n with
  | zero =>
    intro m t X σ hm hZ hmp hres
    exact absurd hm (by omega)
  | succ n ih =>
    intro m t X σ hm hZ hmp hres
    refine q_aload_n dX8_text_20 rfl ?_
    refine q_get fX8_76 dX8_text_21 (by first | rfl | assumption) (by rfl) ?_
    refine q_if_ne 44 dX8_text_24 (by decide) (fun h24 => ?_) (fun h24 => ?_)
    · obtain ⟨w, hw, hX⟩ := hZ.q.f1 h24
      have e : res = .inl w := by
        cases X with
        | inl v =>
          rcases hX with hX | ⟨q, hX, -, -⟩
          · cases hX; exact hres.symm
          · cases hX
        | inr y =>
          rcases hX with hX | ⟨q, hX, hqk, hw2⟩
          · cases hX
          · cases hX
            subst hw2
            have h1 := hmp y rfl
            have h2 : y.2 ≤ L := hZ.2.2.2
            obtain ⟨m, rfl⟩ : ∃ m0, m = m0 + 1 := ⟨m - 1, by omega⟩
            have hres2 : sp_tx c L (m + 1) y.1 t y.2 = res := hres
            rw [sp_tx, if_pos hqk] at hres2
            exact hres2.symm
      refine q_aload_n dX8_text_44 rfl ?_
      refine q_iconst (x := 0) dX8_text_45 (by decide) ?_
      refine q_put_i pX8_67 dX8_text_46 (by first | rfl | assumption) (by rfl) rfl rfl ?_
      refine q_aload_n dX8_text_49 rfl ?_
      refine q_get fX8_76 dX8_text_50 (by first | rfl | assumption) (by rfl) ?_
      refine q_zle 64 dX8_text_53 (by decide) (fun h53 => ?_) (fun h53 => ?_)
      · exact absurd h53 (by have := (hw.1.pos hw.2.1 hw.2.2).1; exact Int.not_le.mpr this)
      · refine q_bipush (x := (-10)) dX8_text_56 (by decide) ?_
        refine q_aload_n dX8_text_58 rfl ?_
        refine q_get fX8_82 dX8_text_59 (by first | rfl | assumption) (by rfl) ?_
        refine q_tope (y := nI w.2) hw.1.2 ?_
        refine q_isub dX8_text_62 ?_
        refine q_ret dX8_text_63 ?_ rfl rfl
        exact ⟨rfl, by rw [e]; exact ⟨rfl, hZ.1.f0, hw.1.1, q_up_at _ _ _ _⟩⟩
    · obtain ⟨p, hX, hok, hT, hpL⟩ := hZ.q.f0 h24
      obtain ⟨D, rfl⟩ : ∃ D, X = .inr (D, p) := by
        cases X with
        | inl v => cases hX
        | inr y =>
          cases hX
          exact ⟨y.1, rfl⟩
      have h1 : L + 1 ≤ p + m := hmp _ rfl
      obtain ⟨m, rfl⟩ : ∃ m0, m = m0 + 1 := ⟨m - 1, by omega⟩
      have hres2 : sp_tx c L (m + 1) D t p = res := hres
      rw [sp_tx, if_neg (sp_nt hok)] at hres2
      have hdl := sp_d_le c L p
      refine q_aload_n dX8_text_27 rfl ?_
      refine q_get fX8_96 dX8_text_28 (by first | rfl | assumption) (by rfl) ?_
      refine q_tope (y := nI (sp_d c L p)) hT.2.2.1 ?_
      refine q_if_eq 44 dX8_text_31 (by decide) (fun h31 => ?_) (fun h31 => ?_)
      · have hd0 : sp_d c L p = 0 := sp_eq (b := 0) (by omega) (by decide) h31
        rw [if_pos hd0] at hres2
        refine q_aload_n dX8_text_44 rfl ?_
        refine q_iconst (x := 0) dX8_text_45 (by decide) ?_
        refine q_put_i pX8_67 dX8_text_46 (by first | rfl | assumption) (by rfl) rfl rfl ?_
        refine q_aload_n dX8_text_49 rfl ?_
        refine q_get fX8_76 dX8_text_50 (by first | rfl | assumption) (by rfl) ?_
        refine q_tope (y := 0) hT.2.2.2.2 ?_
        refine q_zle 64 dX8_text_53 (by decide) (fun h53 => ?_) (fun h53 => ?_)
        · refine q_aload_n dX8_text_64 rfl ?_
          refine q_cVv lX8_53 vX8_keepDraft (ci := 8) rfl dX8_text_65 kX8_keepDraft (by first | rfl | assumption) rfl rfl (Nat.le_of_ble_eq_true rfl) (by decide) ?_
          refine q_iload_n dX8_text_68 rfl ?_
          refine q_ret dX8_text_69 ?_ rfl rfl
          subst hres2
          exact ⟨rfl, rfl, _, rfl, hZ.1.f0, hZ.2.1 hok, hT.2.2.2.2, q_up_at _ _ _ _⟩
        · exact absurd h53 (by decide)
      · have hd0 : ¬ sp_d c L p = 0 := sp_ne (b := 0) h31
        rw [if_neg hd0] at hres2
        refine q_aload_n dX8_text_34 rfl ?_
        refine q_rVv lX8_142 vX8_readLine (ci := 8) rfl dX8_text_35 (kX8_readLine ht0 hZ hT.2.2.2.2) (by first | rfl | assumption) rfl rfl (Nat.le_of_ble_eq_true rfl) (by decide) (fun τ hq => ?_)
        refine q_inc 1 dX8_text_38 (by decide) rfl (by decide) rfl ?_
        refine q_goto 20 dX8_text_41 (by decide) ?_
        rw [nI_1]
        refine ih m (t + 1) (sp_ln c L D p) τ (by omega) hq (fun y hy => ?_) hres2
        have := sp_ln_p hpL hy
        omega

set_option maxHeartbeats 1000000 in
set_option maxRecDepth 100000 in
theorem kX8_text {σ : q_M} {c : Nat → Int32} {L : Nat} (ht : rm_t σ c L) : q_Ct YX8_text [.ref 72] q_SH σ (rm_PT σ (sp_tx c L 321 sp_D0 0 0)) := by
  refine q_ct (n := 1) (by decide) (by decide) rfl (fun _ => Nat.le_of_ble_eq_true rfl) (fun E => ?_)
  refine q_iconst (x := 0) dX8_text_0 (by decide) ?_
  refine q_istore_n dX8_text_1 (by decide) rfl ?_
  refine q_aload_n dX8_text_2 rfl ?_
  refine q_iconst (x := 0) dX8_text_3 (by decide) ?_
  refine q_put_i pX8_76 dX8_text_4 (by first | rfl | assumption) (by rfl) rfl rfl ?_
  refine q_aload_n dX8_text_7 rfl ?_
  refine q_iconst (x := 0) dX8_text_8 (by decide) ?_
  refine q_put_i pX8_85 dX8_text_9 (by first | rfl | assumption) (by rfl) rfl rfl ?_
  refine q_aload_n dX8_text_12 rfl ?_
  refine q_cVv lX8_50 vX8_firstDraft (ci := 8) rfl dX8_text_13 kX8_firstDraft (by first | rfl | assumption) rfl rfl (Nat.le_of_ble_eq_true rfl) (by decide) ?_
  have hfr0 : rm_fr σ (qm_fr (q_up (q_up σ 72 15 0) 72 11 0)) := (((rm_f1.rf σ).up (by decide)).up (by decide)).fr.tr (rm_fr_fr _)
  refine q_aload_n dX8_text_16 rfl ?_
  refine q_rVv lX8_118 vX8_next (ci := 8) rfl dX8_text_17 (kX8_next (hfr0.t ht) rfl (p := 0) rfl (by omega)) (by first | rfl | assumption) rfl rfl (Nat.le_of_ble_eq_true rfl) (by decide) (fun τ hq => ?_)
  have hZ0 : rm_Z σ c L (.inr (sp_D0, 0)) τ := ⟨hfr0.tr hq.1.fr, fun _ => rm_Dn.f1 (rm_D0 _) hq.1, hq.2, by show 0 ≤ L; omega⟩
  have hL3 := ht.2.1
  exact lpX8_text ht 322 321 0 (.inr (sp_D0, 0)) τ (by omega) hZ0 (fun y hy => by cases hy; show L + 1 ≤ 0 + 321; omega) rfl

/-- behind a text: the class -/
def rd_f0 (σ τ : q_M) : Prop := (∀ x, ¬ (rd_c x ∨ x = 0) → τ x = σ x) ∧ ∀ k, ¬ k = 9 → τ 0 k = σ 0 k
def rd_kd (ρ : q_M) (N : Nat) : q_M := q_fill (q_up (q_up (q_up (q_up (q_up (q_up (q_cd (q_up (q_fill (q_fill ρ 15 (ρ 4) 7) 16 (ρ 5) 24) 17 2 (nI N)) 23 8 N) 19 3 0) 17 3 0) 17 4 (ρ 4 2)) 17 5 0) 17 6 0) 17 7 (q_b (decide (0 < (ρ 4 6).toInt)))) 30 (fun _ => 0) 2
def rd_PT (σ : q_M) (res : sp_F ⊕ (sp_D × Nat)) : q_P := fun r a τ => a = q_SH ∧ match res with
  | .inl w => r = some (-10 - nI w.2) ∧ rd_f0 σ τ ∧ τ 0 9 = nI w.1 ∧ τ 1 4 = 0
  | .inr y => r = some (nI y.2) ∧ ∃ ρ, τ = rd_kd ρ y.1.2.2.2.1 ∧ rd_f0 σ ρ ∧ (∀ j, j < 7 → ρ 4 j = y.1.1 j) ∧ (∀ j, j < 24 → ρ 5 j = if y.1.2.1 j = 0 then y.1.1 2 else y.1.2.1 j) ∧ (∀ k, k < y.1.2.2.2.1 → ∀ w, w < 8 → ρ (8 + k) w = y.1.2.2.2.2 k w) ∧ y.1.2.2.2.1 ≤ 6 ∧ ρ 0 9 = 0 ∧ ρ 1 4 = 0
theorem rd_fr.f0 {σ τ : q_M} (h : rd_fr σ τ) {v w : Int32} : rd_f0 σ (q_up (q_up τ 1 4 v) 0 9 w) := ⟨fun x hx => by
    rw [q_up_ne (fun e => hx (Or.inr e)), q_up_ne (fun e => hx (Or.inl (by rw [e]; exact rd_c1)))]
    exact h x (fun z => hx (Or.inl z)), fun k hk => by
    rw [q_up_f hk, q_up_g (by decide)]
    exact congrFun (h 0 (by unfold rd_c; omega)) k⟩
/-- what a draft keeps: bounds -/
def sp_wf (D : sp_D) : Prop := (∀ r, r < 7 → q_win (D.1 r) (q_tab 1 r) (q_tab 2 r) = true) ∧ (∀ h, h < 24 → D.2.1 h = 0 ∨ q_win (D.2.1 h) 250 350 = true) ∧ D.2.2.2.1 ≤ 6 ∧ ∀ k, k < D.2.2.2.1 → q_win (D.2.2.2.2 k 0) 1 999 = true ∧ q_win (D.2.2.2.2 k 1) 0 9999 = true ∧ q_win (D.2.2.2.2 k 2) 0 99 = true ∧ q_win (D.2.2.2.2 k 3) 0 99 = true ∧ D.2.2.2.2 k 4 = 0 ∧ D.2.2.2.2 k 5 = 0 ∧ D.2.2.2.2 k 6 = 0 ∧ (D.2.2.2.2 k 7 = 0 ∨ D.2.2.2.2 k 7 = 1)
def sp_wd (f : Nat → Int32) : Prop := q_win (f 0) 1 999 = true ∧ q_win (f 1) 0 9999 = true ∧ q_win (f 2) 0 99 = true ∧ q_win (f 3) 0 99 = true ∧ f 4 = 0 ∧ f 5 = 0 ∧ f 6 = 0 ∧ (f 7 = 0 ∨ f 7 = 1)
theorem sp_w_wd {c : Nat → Int32} {L : Nat} : ∀ (n : Nat) (lk rt : Bool) (f : Nat → Int32) (p : Nat) (y : (Nat → Int32) × Nat), sp_wd f → sp_w c L n lk rt f p = .inr y → sp_wd y.1
  | 0, _, _, _, _, _, _, h => by cases h
  | n + 1, lk, rt, f, p, y, hf, h => by
    have hf' := hf
    obtain ⟨f0, f1, f2, f3, f4, f5, f6, f7⟩ := hf'
    rw [sp_w] at h
    split at h
    · cases h
    split at h
    · cases h; exact hf
    split at h
    · split at h
      · cases h
      · obtain ⟨z, hz, h⟩ := sp_bi h
        have hw := (sp_num_r hz).2.2.1
        exact sp_w_wd n _ _ (sp_u f 2 z.1) _ _ ⟨f0, f1, hw, f3, f4, f5, f6, f7⟩ h
    split at h
    · split at h
      · cases h
      · obtain ⟨z, hz, h⟩ := sp_bi h
        have hw := (sp_num_r hz).2.2.1
        exact sp_w_wd n _ _ (sp_u f 3 z.1) _ _ ⟨f0, f1, f2, hw, f4, f5, f6, f7⟩ h
    split at h
    · split at h
      · exact sp_w_wd n _ _ (sp_u f 7 1) _ _ ⟨f0, f1, f2, f3, f4, f5, f6, Or.inr rfl⟩ h
      · cases h
    · cases h
theorem sp_wf_rule {D : sp_D} (h : sp_wf D) {r : Nat} {v : Int32} (hv : q_win v (q_tab 1 r) (q_tab 2 r) = true) {t : Nat → Bool} : sp_wf (sp_u D.1 r v, D.2.1, t, D.2.2.2.1, D.2.2.2.2) := by
  refine ⟨fun k hk => ?_, h.2⟩
  show q_win (if k = r then v else D.1 k) _ _ = true
  by_cases hkr : k = r
  · rw [if_pos hkr, hkr]; exact hv
  · rw [if_neg hkr]; exact h.1 k hk
theorem sp_ln_wf {c : Nat → Int32} {L : Nat} {D : sp_D} {p : Nat} {y : sp_D × Nat} (hD : sp_wf D) (h : sp_ln c L D p = .inr y) : sp_wf y.1 := by
  rw [sp_ln] at h
  split at h
  · rw [sp_dv] at h
    split at h
    · cases h
    · rename_i h6
      obtain ⟨z, hz, h⟩ := sp_bi h
      obtain ⟨w, hw, h⟩ := sp_bi h
      obtain ⟨x, hx, h⟩ := sp_bi h
      have hz1 := (sp_num_r hz).2.2.1
      have hw1 := (sp_num_r hw).2.2.1
      have hx1 := sp_w_wd 4 _ _ (sp_d0 z.1 w.1) _ _ ⟨hz1, hw1, (show q_win 0 0 99 = true by decide), (show q_win 0 0 99 = true by decide), rfl, rfl, rfl, Or.inl rfl⟩ hx
      cases h
      refine ⟨hD.1, hD.2.1, by show D.2.2.2.1 + 1 ≤ 6; omega, fun k hk => ?_⟩
      have hk' : k < D.2.2.2.1 + 1 := hk
      show sp_wd ((if k = D.2.2.2.1 then x.1 else D.2.2.2.2 k))
      by_cases hk2 : k = D.2.2.2.1
      · rw [if_pos hk2]; exact hx1
      · rw [if_neg hk2]; exact hD.2.2.2 k (by omega)
  split at h
  · rw [sp_hr] at h
    obtain ⟨z, hz, h⟩ := sp_bi h
    split at h
    · cases h
    · obtain ⟨w, hw, h⟩ := sp_bi h
      obtain ⟨x, hx, h⟩ := sp_bi h
      have hw1 := (sp_num_r hw).2.2.1
      cases h
      refine ⟨hD.1, fun k hk => ?_, hD.2.2⟩
      show (if k = z.1.toNatClampNeg then w.1 else D.2.1 k) = 0 ∨ q_win (if k = z.1.toNatClampNeg then w.1 else D.2.1 k) 250 350 = true
      by_cases hk2 : k = z.1.toNatClampNeg
      · rw [if_pos hk2]; exact Or.inr hw1
      · rw [if_neg hk2]; exact hD.2.1 k hk
  split at h
  · rw [sp_rl] at h
    split at h
    · cases h
    · obtain ⟨z, hz, h⟩ := sp_bi h
      have hz1 := (sp_num_r hz).2.2.1
      split at h
      · rename_i h4
        obtain ⟨w, hw, h⟩ := sp_bi h
        obtain ⟨x, hx, h⟩ := sp_bi h
        have hw1 := (sp_num_r hw).2.2.1
        rw [h4] at hz1
        cases h
        exact sp_wf_rule (D := (sp_u D.1 4 z.1, D.2.1, D.2.2.1, D.2.2.2.1, D.2.2.2.2)) (sp_wf_rule hD hz1) (r := 5) hw1
      · obtain ⟨x, hx, h⟩ := sp_bi h
        cases h
        exact sp_wf_rule hD hz1
  · cases h
theorem sp_tx_wf {c : Nat → Int32} {L : Nat} : ∀ (m : Nat) (D : sp_D) (n p : Nat) (y : sp_D × Nat), sp_wf D → sp_tx c L m D n p = .inr y → sp_wf y.1
  | 0, _, _, _, _, _, h => by cases h
  | m + 1, D, n, p, y, hD, h => by
    rw [sp_tx] at h
    split at h
    · cases h
    split at h
    · cases h; exact hD
    · obtain ⟨z, hz, h⟩ := sp_bi h
      exact sp_tx_wf m _ _ _ _ (sp_ln_wf hD hz) h
theorem sp_wf_0 : sp_wf sp_D0 := by
  refine ⟨?_, fun _ _ => Or.inl rfl, by decide, fun k hk => absurd hk (by show ¬ k < 0; omega)⟩
  show ∀ r, r < 7 → q_win (q_tab 3 r) (q_tab 1 r) (q_tab 2 r) = true
  decide +kernel
theorem sp_tx_0 {c : Nat → Int32} {L : Nat} {y : sp_D × Nat} (h : sp_tx c L 321 sp_D0 0 0 = .inr y) : sp_wf y.1 := sp_tx_wf _ _ _ _ _ sp_wf_0 h

set_option maxHeartbeats 1000000 in
set_option maxRecDepth 100000 in
theorem sgX7_textL {E : q_E} {σ : q_M} {σ0 : q_M} {w : sp_F} (hq : rd_F σ0 σ w) : q_G YX7_text E 0 0 7 [some (.ref 0), none, none] [.int (q_b false)] q_SH σ (rd_PT σ0 (.inl w)) := by
  refine q_istore_n dX7_text_7 (by decide) rfl ?_
  refine q_aload_n dX7_text_8 rfl ?_
  refine q_getr fX7_10 dX7_text_9 (by first | rfl | assumption) (by rfl) ?_
  refine q_iconst (x := 0) dX7_text_12 (by decide) ?_
  refine q_put_i pX7_74 dX7_text_13 (by first | rfl | assumption) (by rfl) rfl rfl ?_
  refine q_aload_n dX7_text_16 rfl ?_
  refine q_aload_n dX7_text_17 rfl ?_
  refine q_getr fX7_10 dX7_text_18 (by first | rfl | assumption) (by rfl) ?_
  refine q_get fX7_85 dX7_text_21 (by first | rfl | assumption) (by rfl) ?_
  refine q_tope (y := nI w.1) hq.2.1 ?_
  refine q_put_i pX7_88 dX7_text_24 (by first | rfl | assumption) (by rfl) rfl rfl ?_
  refine q_iload_n dX7_text_27 rfl ?_
  refine q_bne 42 dX7_text_28 (by decide) (fun h28 => ?_) (fun h28 => ?_)
  · exact absurd h28 (by decide)
  · refine q_bipush (x := (-10)) dX7_text_31 (by decide) ?_
    refine q_aload_n dX7_text_33 rfl ?_
    refine q_getr fX7_10 dX7_text_34 (by first | rfl | assumption) (by rfl) ?_
    refine q_get fX7_91 dX7_text_37 (by first | rfl | assumption) (by rfl) ?_
    refine q_tope (y := nI w.2) hq.2.2 ?_
    refine q_isub dX7_text_40 ?_
    refine q_ret dX7_text_41 ?_ rfl rfl
    exact ⟨rfl, rfl, hq.1.f0, q_up_at _ _ _ _, rfl⟩

set_option maxHeartbeats 1000000 in
set_option maxRecDepth 100000 in
theorem lpX7_text {E : q_E} {ρ : q_M} {N : Nat} {b : Int32} {Q : q_P} (K : q_G YX7_text E 0 0 101 [some (.ref 0), some (.int b), some (.int (nI 2))] [] q_SH (rd_kd ρ N) Q) : ∀ (n : Nat) (i : Nat), 3 ≤ i + n → i ≤ 2 → q_G YX7_text E 0 0 83 [some (.ref 0), some (.int b), some (.int (nI i))] [] q_SH (q_fill (q_up (q_up (q_up (q_up (q_up (q_up (q_cd (q_up (q_fill (q_fill ρ 15 (ρ 4) 7) 16 (ρ 5) 24) 17 2 (nI N)) 23 8 N) 19 3 0) 17 3 0) 17 4 (ρ 4 2)) 17 5 0) 17 6 0) 17 7 (q_b (decide (0 < (ρ 4 6).toInt)))) 30 (fun _ => 0) i) Q := by
  intro n
  induction n with
  | zero =>
    intro i hm h0
    exact absurd hm (by omega)
  | succ n ih =>
    intro i hm h0
    have hit := nI_toInt (n := i) (by omega)
    have e2 : (2 : Int32).toInt = 2 := rfl
    refine q_iload_n dX7_text_83 rfl ?_
    refine q_iconst (x := 2) dX7_text_84 (by decide) ?_
    refine q_cge 101 dX7_text_85 (by decide) (fun h85 => ?_) (fun h85 => ?_)
    · have e : i = 2 := by omega
      subst e
      exact K
    · refine q_aload_n dX7_text_88 rfl ?_
      refine q_getr fX7_34 dX7_text_89 (by first | rfl | assumption) (by rfl) ?_
      refine q_iload_n dX7_text_92 rfl ?_
      refine q_iconst (x := 0) dX7_text_93 (by decide) ?_
      refine q_zsto i (by first | rfl | assumption) hit (by omega) dX7_text_94 ?_
      rw [show vp_nar .boolean 0 = 0 from rfl]
      refine q_mem (q_fill_s (q_up (q_up (q_up (q_up (q_up (q_up (q_cd (q_up (q_fill (q_fill ρ 15 (ρ 4) 7) 16 (ρ 5) 24) 17 2 (nI N)) 23 8 N) 19 3 0) 17 3 0) 17 4 (ρ 4 2)) 17 5 0) 17 6 0) 17 7 (q_b (decide (0 < (ρ 4 6).toInt)))) 30 (fun _ => 0) i) ?_
      refine q_inc 1 dX7_text_95 (by decide) rfl (by decide) rfl ?_
      refine q_goto 83 dX7_text_98 (by decide) ?_
      rw [nI_1]
      exact ih (i + 1) (by omega) (by omega)

theorem q_SH_17 : q_isSc q_SH 17 := ⟨rfl, rfl, ⟨rfl, rfl, rfl, rfl⟩, fun k hk => q_SH_dv hk⟩

set_option maxHeartbeats 1000000 in
set_option maxRecDepth 100000 in
theorem sgX7_textR {E : q_E} {σ : q_M} {σ0 ρ : q_M} {c : Nat → Int32} {L : Nat} {D : sp_D} {n p : Nat} {σ1 : q_M} (hq : sp_R σ0 c L D n p σ1) (hσ : σ = q_fill σ1 5 (fun j => if σ1 5 j = 0 then σ1 4 2 else σ1 5 j) 24) (hwf : sp_wf D) (hρ : ρ = q_up (q_up σ 1 4 0) 0 9 0) : q_G YX7_text E 0 0 7 [some (.ref 0), none, none] [.int (q_b true)] q_SH σ (rd_PT σ0 (.inr (D, n))) := by
  have h6 : D.2.2.2.1 ≤ 6 := hwf.2.2.1
  have n5 : ∀ x, ¬ x = 5 → σ x = σ1 x := fun x hx => by rw [hσ, q_fill_ne hx]
  have h17' : σ 1 7 = 0 := by rw [n5 1 (by decide)]; exact hq.1.2.2.2.2.2
  have hx : ∀ x, ¬ x = 0 → ¬ x = 1 → ρ x = σ x := fun x a b => by rw [hρ, q_up_ne a, q_up_ne b]
  have r4 : ∀ j, j < 7 → ρ 4 j = D.1 j := fun j hj => by rw [hx 4 (by decide) (by decide), n5 4 (by decide)]; exact hq.2.1 j hj
  have r5 : ∀ j, j < 24 → ρ 5 j = if D.2.1 j = 0 then D.1 2 else D.2.1 j := fun j hj => by
    rw [hx 5 (by decide) (by decide), hσ, q_fill_lo hj, hq.2.2.1 j hj, hq.2.1 2 (by decide)]
  have r8 : ∀ k, k < D.2.2.2.1 → ∀ w, w < 8 → ρ (8 + k) w = D.2.2.2.2 k w := fun k hk w hw => by rw [hx (8 + k) (by omega) (by omega), n5 (8 + k) (by omega)]; exact hq.2.2.2.2.1 k hk w hw
  have r09 : ρ 0 9 = 0 := by rw [hρ, q_up_at]
  have r14 : ρ 1 4 = 0 := by rw [hρ, q_up_g (by decide), q_up_at]
  have h15 : ρ 1 5 = nI D.2.2.2.1 := by rw [hρ, q_up_g (by decide), q_up_f (by decide), n5 1 (by decide)]; exact hq.1.2.2.2.1
  have h16 : ρ 1 6 = nI n := by rw [hρ, q_up_g (by decide), q_up_f (by decide), n5 1 (by decide)]; exact hq.1.2.2.2.2.1
  have hf0 : rd_f0 σ0 ρ := by
    rw [hρ]
    refine rd_fr.f0 (fun x hx => ?_)
    rw [n5 x (fun e => hx (by rw [e]; exact rd_c5))]
    exact hq.2.2.2.2.2.2 x hx
  have hz : ∀ k, k < D.2.2.2.1 → q_fill (q_fill ρ 15 (ρ 4) 7) 16 (ρ 5) 24 (8 + k) 7 = 0 ∨ q_fill (q_fill ρ 15 (ρ 4) 7) 16 (ρ 5) 24 (8 + k) 7 = 1 := fun k hk => by
    rw [q_fill_ne (by omega), q_fill_ne (by omega), r8 k hk 7 (by decide)]
    exact (hwf.2.2.2 k hk).2.2.2.2.2.2.2
  have f4 : q_fill (q_fill ρ 15 (ρ 4) 7) 16 (ρ 5) 24 15 2 = ρ 4 2 := by rw [q_fill_ne (by decide), q_fill_lo (by decide)]
  have f6 : q_fill (q_fill ρ 15 (ρ 4) 7) 16 (ρ 5) 24 15 6 = ρ 4 6 := by rw [q_fill_ne (by decide), q_fill_lo (by decide)]
  refine q_istore_n dX7_text_7 (by decide) rfl ?_
  refine q_aload_n dX7_text_8 rfl ?_
  refine q_getr fX7_10 dX7_text_9 (by first | rfl | assumption) (by rfl) ?_
  refine q_iconst (x := 0) dX7_text_12 (by decide) ?_
  refine q_put_i pX7_74 dX7_text_13 (by first | rfl | assumption) (by rfl) rfl rfl ?_
  refine q_aload_n dX7_text_16 rfl ?_
  refine q_aload_n dX7_text_17 rfl ?_
  refine q_getr fX7_10 dX7_text_18 (by first | rfl | assumption) (by rfl) ?_
  refine q_get fX7_85 dX7_text_21 (by first | rfl | assumption) (by rfl) ?_
  refine q_tope (y := 0) h17' ?_
  refine q_put_i pX7_88 dX7_text_24 (by first | rfl | assumption) (by rfl) rfl rfl ?_
  refine q_iload_n dX7_text_27 rfl ?_
  refine q_bne 42 dX7_text_28 (by decide) (fun h28 => ?_) (fun h28 => ?_)
  · refine q_mem (τ := ρ) hρ.symm ?_
    refine q_aload_n dX7_text_42 rfl ?_
    refine q_getr fX7_19 dX7_text_43 (by first | rfl | assumption) (by rfl) ?_
    refine q_aload_n dX7_text_46 rfl ?_
    refine q_getr fX7_10 dX7_text_47 (by first | rfl | assumption) (by rfl) ?_
    refine q_getr fX7_94 dX7_text_50 (by first | rfl | assumption) (by rfl) ?_
    refine q_cVv lX7_95 vX6_copyFrom (ci := 6) rfl dX7_text_53 (kX6_copyFrom (w := 14) (r := 15) (q := 16) (w2 := 3) (r2 := 4) (q2 := 5) rfl rfl rfl rfl rfl rfl (by decide) (by decide) (by decide)) (by first | rfl | assumption) rfl rfl (Nat.le_of_ble_eq_true rfl) (by decide) ?_
    refine q_aload_n dX7_text_56 rfl ?_
    refine q_getr fX7_26 dX7_text_57 (by first | rfl | assumption) (by rfl) ?_
    refine q_aload_n dX7_text_60 rfl ?_
    refine q_getr fX7_19 dX7_text_61 (by first | rfl | assumption) (by rfl) ?_
    refine q_aload_n dX7_text_64 rfl ?_
    refine q_getr fX7_10 dX7_text_65 (by first | rfl | assumption) (by rfl) ?_
    refine q_getr fX7_99 dX7_text_68 (by first | rfl | assumption) (by rfl) ?_
    refine q_aload_n dX7_text_71 rfl ?_
    refine q_getr fX7_10 dX7_text_72 (by first | rfl | assumption) (by rfl) ?_
    refine q_get fX7_103 dX7_text_75 (by first | rfl | assumption) (by rfl) ?_
    refine q_tope (y := nI D.2.2.2.1) h15 ?_
    refine q_cVv lX7_106 vX3_begin (ci := 3) rfl dX7_text_78 (kX3_begin (x := 17) (w := 14) (r := 15) (q := 16) (fr := 6) (c := 8) (N := D.2.2.2.1) q_SH_17 rfl rfl rfl (fun k hk => q_SH_rd hk) (by decide) (by decide) h6 hz) (by first | rfl | assumption) rfl rfl (Nat.le_of_ble_eq_true rfl) (by decide) ?_
    refine q_iconst (x := 0) dX7_text_81 (by decide) ?_
    refine q_istore_n dX7_text_82 (by decide) rfl ?_
    have hK : q_G YX7_text E 0 0 101 [some (.ref 0), some (.int (q_b true)), some (.int (nI 2))] [] q_SH (rd_kd ρ D.2.2.2.1) (rd_PT σ0 (.inr (D, n))) := by
      refine q_aload_n dX7_text_101 rfl ?_
      refine q_getr fX7_10 dX7_text_102 (by first | rfl | assumption) (by rfl) ?_
      refine q_get fX7_110 dX7_text_105 (by first | rfl | assumption) (by rfl) ?_
      refine q_tope (y := nI n) h16 ?_
      refine q_ret dX7_text_108 ?_ rfl rfl
      exact ⟨rfl, rfl, ρ, rfl, hf0, r4, r5, r8, h6, r09, r14⟩
    have z := lpX7_text hK 3 0 (by omega) (by omega)
    rw [q_fill_0] at z
    refine q_mem ?_ z
    rw [f4, f6]
  · exact absurd h28 (by decide)

set_option maxHeartbeats 1000000 in
set_option maxRecDepth 100000 in
theorem kX7_text {σ : q_M} {L : Nat} (hL : σ 1 4 = nI L) (h320 : L ≤ 320) : q_Ct YX7_text [.ref 0] q_SH σ (rd_PT σ (sp_tx (σ 2) L 321 sp_D0 0 0)) := by
  refine q_ct (n := 2) (by decide) (by decide) rfl (fun _ => Nat.le_of_ble_eq_true rfl) (fun E => ?_)
  refine q_aload_n dX7_text_0 rfl ?_
  refine q_getr fX7_10 dX7_text_1 (by first | rfl | assumption) (by rfl) ?_
  refine q_rVi lX7_81 vX2_takeText (ci := 2) rfl dX7_text_4 (kX2_takeText hL h320) (by first | rfl | assumption) rfl rfl (Nat.le_of_ble_eq_true rfl) (by decide) (fun τ hq => ?_)
  cases hr : sp_tx (σ 2) L 321 sp_D0 0 0 with
  | inl w =>
    rw [hr] at hq
    exact sgX7_textL hq
  | inr y =>
    rw [hr] at hq
    obtain ⟨σ1, p, h1, h2⟩ := hq
    exact sgX7_textR h1 h2 (sp_tx_0 hr) rfl
