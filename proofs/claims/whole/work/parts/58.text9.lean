/-! the reference: a line, the whole text -/
def rm_sp (c : Nat → Int32) (L : Nat) (X : sp_F ⊕ (sp_D × Nat)) : sp_F ⊕ (sp_D × Nat) := sp_b X fun y => sp_b (sp_st c L y.2) fun q => .inr (y.1, q)
theorem sp_nm_l {c : Nat → Int32} {s e j : Nat} (h : sp_nm c s e j = true) : e = s + q_strl.getD j 0 ∧ q_allb (fun i => decide (c (s + i) = (q_sby.getD j []).getD i 0)) (q_strl.getD j 0) = true := by
  unfold sp_nm at h
  simp only [Bool.and_eq_true, decide_eq_true_eq] at h
  exact h
theorem q_allb_t {p : Nat → Bool} : ∀ n, q_allb p n = true → ∀ i, i < n → p i = true
  | 0, _, i, hi => by omega
  | n + 1, h, i, hi => by
    rw [q_allb, Bool.and_eq_true] at h
    by_cases hn : i = n
    · subst hn; exact h.2
    · exact q_allb_t n h.1 i (by omega)
theorem sp_nm_x : ∀ i, i < 11 → ∀ j, j < 11 → i ≠ j → q_strl.getD i 0 ≠ q_strl.getD j 0 ∨ ∃ t, t < 7 ∧ t < q_strl.getD i 0 ∧ (q_sby.getD i []).getD t 0 ≠ (q_sby.getD j []).getD t 0 := by
  have z : ∀ i, i < 11 → ∀ j, j < 11 → i ≠ j → q_strl.getD i 0 ≠ q_strl.getD j 0 ∨ ((List.range 7).any fun t => decide (t < q_strl.getD i 0) && decide ((q_sby.getD i []).getD t 0 ≠ (q_sby.getD j []).getD t 0)) = true := by decide +kernel
  intro i hi j hj hij
  rcases z i hi j hj hij with h | h
  · exact Or.inl h
  · right
    rw [List.any_eq_true] at h
    obtain ⟨t, ht, h⟩ := h
    simp only [Bool.and_eq_true, decide_eq_true_eq] at h
    exact ⟨t, by simpa using ht, h.1, h.2⟩
/-- no two names at once -/
theorem sp_nm_1 {c : Nat → Int32} {s e i j : Nat} (hi : i < 11) (hj : j < 11) (hij : i ≠ j) (h : sp_nm c s e i = true) : sp_nm c s e j = false := by
  cases hb : sp_nm c s e j with
  | false => rfl
  | true =>
    exfalso
    obtain ⟨a1, a2⟩ := sp_nm_l h
    obtain ⟨b1, b2⟩ := sp_nm_l hb
    rcases sp_nm_x i hi j hj hij with h2 | ⟨t, -, h3, h4⟩
    · omega
    · have p1 := of_decide_eq_true (q_allb_t _ a2 t h3)
      have p2 := of_decide_eq_true (q_allb_t _ b2 t (by omega))
      exact h4 (p1.symm.trans p2)
theorem rm_nn_c (c : Nat → Int32) (s e : Nat) : (rm_nn c s e = -4 ∧ sp_nm c s e 0 = false ∧ sp_nm c s e 4 = false ∧ sp_rn c s e = 7) ∨ (rm_nn c s e = 7 ∧ sp_nm c s e 0 = true) ∨ (rm_nn c s e = 6 ∧ sp_nm c s e 4 = true ∧ sp_nm c s e 0 = false) ∨ ∃ k, k < 6 ∧ rm_nn c s e = nI k ∧ sp_rn c s e = rm_cr k ∧ sp_nm c s e 0 = false ∧ sp_nm c s e 4 = false := by
  have hx : ∀ i, i < 11 → ∀ j, j < 11 → i ≠ j → sp_nm c s e i = true → sp_nm c s e j = false := fun i hi j hj hij h => sp_nm_1 hi hj hij h
  by_cases h5 : sp_nm c s e 5 = true
  · exact Or.inr (Or.inr (Or.inr ⟨0, by decide, by rw [rm_nn, if_pos h5]; rfl, by rw [sp_rn, if_pos h5]; rfl, hx 5 (by decide) 0 (by decide) (by decide) h5, hx 5 (by decide) 4 (by decide) (by decide) h5⟩))
  by_cases h6 : sp_nm c s e 6 = true
  · exact Or.inr (Or.inr (Or.inr ⟨1, by decide, by rw [rm_nn, if_neg h5, if_pos h6]; rfl, by rw [sp_rn, if_neg h5, if_pos h6]; rfl, hx 6 (by decide) 0 (by decide) (by decide) h6, hx 6 (by decide) 4 (by decide) (by decide) h6⟩))
  by_cases h7 : sp_nm c s e 7 = true
  · exact Or.inr (Or.inr (Or.inr ⟨2, by decide, by rw [rm_nn, if_neg h5, if_neg h6, if_pos h7]; rfl, by rw [sp_rn, if_neg h5, if_neg h6, if_pos h7]; rfl, hx 7 (by decide) 0 (by decide) (by decide) h7, hx 7 (by decide) 4 (by decide) (by decide) h7⟩))
  by_cases h8 : sp_nm c s e 8 = true
  · exact Or.inr (Or.inr (Or.inr ⟨3, by decide, by rw [rm_nn, if_neg h5, if_neg h6, if_neg h7, if_pos h8]; rfl, by rw [sp_rn, if_neg h5, if_neg h6, if_neg h7, if_pos h8]; rfl, hx 8 (by decide) 0 (by decide) (by decide) h8, hx 8 (by decide) 4 (by decide) (by decide) h8⟩))
  by_cases h9 : sp_nm c s e 9 = true
  · exact Or.inr (Or.inr (Or.inr ⟨4, by decide, by rw [rm_nn, if_neg h5, if_neg h6, if_neg h7, if_neg h8, if_pos h9]; rfl, by rw [sp_rn, if_neg h5, if_neg h6, if_neg h7, if_neg h8, if_pos h9]; rfl, hx 9 (by decide) 0 (by decide) (by decide) h9, hx 9 (by decide) 4 (by decide) (by decide) h9⟩))
  by_cases h10 : sp_nm c s e 10 = true
  · exact Or.inr (Or.inr (Or.inr ⟨5, by decide, by rw [rm_nn, if_neg h5, if_neg h6, if_neg h7, if_neg h8, if_neg h9, if_pos h10]; rfl, by rw [sp_rn, if_neg h5, if_neg h6, if_neg h7, if_neg h8, if_neg h9, if_pos h10]; rfl, hx 10 (by decide) 0 (by decide) (by decide) h10, hx 10 (by decide) 4 (by decide) (by decide) h10⟩))
  by_cases h4 : sp_nm c s e 4 = true
  · exact Or.inr (Or.inr (Or.inl ⟨by rw [rm_nn, if_neg h5, if_neg h6, if_neg h7, if_neg h8, if_neg h9, if_neg h10, if_pos h4], h4, hx 4 (by decide) 0 (by decide) (by decide) h4⟩))
  by_cases h0 : sp_nm c s e 0 = true
  · exact Or.inr (Or.inl ⟨by rw [rm_nn, if_neg h5, if_neg h6, if_neg h7, if_neg h8, if_neg h9, if_neg h10, if_neg h4, if_pos h0], h0⟩)
  · exact Or.inl ⟨by rw [rm_nn, if_neg h5, if_neg h6, if_neg h7, if_neg h8, if_neg h9, if_neg h10, if_neg h4, if_neg h0], by simpa using h0, by simpa using h4, by rw [sp_rn, if_neg h5, if_neg h6, if_neg h7, if_neg h8, if_neg h9, if_neg h10]⟩
theorem rm_sp_hr {c : Nat → Int32} {L : Nat} {D : sp_D} {p : Nat} : sp_hr c L D p = rm_sp c L (rm_hr0 c L D p) := by
  unfold sp_hr rm_hr0 rm_sp
  rw [sp_b_b]
  congr 1
  funext y
  by_cases h : D.2.1 y.1.toNatClampNeg = 0
  · rw [if_neg (fun z => z h), if_neg (fun z => z h), sp_b_b]
    rfl
  · rw [if_pos h, if_pos h]
    rfl
theorem rm_sp_rl {c : Nat → Int32} {L : Nat} {D : sp_D} {r s p : Nat} (h : D.2.2.1 r = false) : sp_rl c L D r s p = rm_sp c L (rm_rl0 c L (D.1, D.2.1, sp_u D.2.2.1 r true, D.2.2.2) r p) := by
  unfold sp_rl rm_rl0 rm_sp
  rw [if_neg (sp_nb h), sp_b_b]
  congr 1
  funext y
  by_cases h4 : r = 4
  · subst h4
    simp only [if_true]
    rw [sp_b_b]
    rfl
  · rw [if_neg h4, if_neg h4]
    rfl
theorem rm_sp_dv {c : Nat → Int32} {L : Nat} {D : sp_D} {s p : Nat} (h : D.2.2.2.1 < 6) : sp_dv c L D s p = rm_sp c L (rm_dv0 c L D p) := by
  unfold sp_dv rm_dv0 rm_sp
  rw [if_neg (by omega), sp_b_b]
  congr 1
  funext y
  rw [sp_b_b]
  congr 1
  funext z
  rw [sp_b_b, sp_w_eq, sp_b_b]
  congr 1
  funext w
  rw [sp_b_r, sp_b_b]
  rfl

set_option maxHeartbeats 1000000 in
set_option maxRecDepth 100000 in
theorem sgX8_rlT {E : q_E} {σ : q_M} {σ0 : q_M} {c : Nat → Int32} {L : Nat} (ht0 : rm_t σ0 c L) {X : sp_F ⊕ (sp_D × Nat)} (hZ : rm_Z σ0 c L X σ) {ol : Option Value} : q_G YX8_readLine E 0 0 148 [some (.ref 72), ol] [] q_SH σ (q_rv q_SH (rm_Z σ0 c L (rm_sp c L X))) := by
  refine q_aload_n dX8_readLine_148 rfl ?_
  refine q_get fX8_76 dX8_readLine_149 (by first | rfl | assumption) (by rfl) ?_
  refine q_if_ne 173 dX8_readLine_152 (by decide) (fun h152 => ?_) (fun h152 => ?_)
  · obtain ⟨w, hw, hX⟩ := hZ.q.f1 h152
    refine q_aload_n dX8_readLine_173 rfl ?_
    refine q_cVv lX8_118 vX8_next (ci := 8) rfl dX8_readLine_174 (kX8_nextF (hw.1.pos hw.2.1 hw.2.2).1) (by first | rfl | assumption) rfl rfl (Nat.le_of_ble_eq_true rfl) (by decide) ?_
    refine q_vret dX8_readLine_177 ?_ rfl rfl
    have e : rm_sp c L X = .inl w := by
      cases X with
      | inl v =>
        rcases hX with hX | ⟨q, hX, -, -⟩
        · cases hX; rfl
        · cases hX
      | inr y =>
        rcases hX with hX | ⟨q, hX, hqk, hw2⟩
        · cases hX
        · cases hX
          subst hw2
          show sp_b (sp_st c L y.2) _ = _
          rw [sp_st_no hqk]
          rfl
    exact ⟨rfl, rfl, by show rm_Z σ0 c L _ _; rw [e]; exact ⟨hZ.1, hw⟩⟩
  · obtain ⟨p, hX, hok, hT, hpL⟩ := hZ.q.f0 h152
    obtain ⟨D, rfl⟩ : ∃ D, X = .inr (D, p) := by
      cases X with
      | inl v => cases hX
      | inr y =>
        cases hX
        exact ⟨y.1, rfl⟩
    have hfr := hZ.1
    have hel := sp_e_le (c := c) hpL
    have hdl := sp_d_le c L p
    refine q_aload_n dX8_readLine_155 rfl ?_
    refine q_aload_n dX8_readLine_156 rfl ?_
    refine q_get fX8_96 dX8_readLine_157 (by first | rfl | assumption) (by rfl) ?_
    refine q_tope (y := nI (sp_d c L p)) hT.2.2.1 ?_
    refine q_iconst (x := 3) dX8_readLine_160 (by decide) ?_
    refine q_icmp_ne 168 dX8_readLine_161 (by decide) (fun h161 => ?_) (fun h161 => ?_)
    · have hd3 : ¬ sp_d c L p = 3 := sp_ne (b := 3) h161
      refine q_iconst (x := 0) dX8_readLine_168 (by decide) ?_
      refine q_iconst (x := 2) dX8_readLine_169 (by decide) ?_
      refine q_cVv lX8_110 vX8_needs (ci := 8) rfl dX8_readLine_170 kX8_needs (by first | rfl | assumption) rfl rfl (Nat.le_of_ble_eq_true rfl) (by decide) ?_
      refine q_mem (rm_nd_f rfl hT.2.2.2.2) ?_
      have hfr1 : rm_fr σ0 (q_up (q_up σ 72 15 2) 72 16 (σ 72 12)) := hfr.tr (((rm_f1.rf σ).up (by decide)).up (by decide)).fr
      have hFw : rm_Fw (2, sp_s c L p) (q_up (q_up σ 72 15 2) 72 16 (σ 72 12)) := ⟨rfl, hT.2.1⟩
      refine q_aload_n dX8_readLine_173 rfl ?_
      refine q_cVv lX8_118 vX8_next (ci := 8) rfl dX8_readLine_174 (kX8_nextF (hFw.pos (Nat.le_of_ble_eq_true rfl) (Nat.le_of_ble_eq_true rfl)).1) (by first | rfl | assumption) rfl rfl (Nat.le_of_ble_eq_true rfl) (by decide) ?_
      refine q_vret dX8_readLine_177 ?_ rfl rfl
      have e : rm_sp c L (.inr (D, p)) = .inl (2, sp_s c L p) := by
        show sp_b (sp_st c L p) _ = _
        rw [sp_st, if_neg (sp_nt hok), if_neg hd3]
        rfl
      exact ⟨rfl, rfl, by show rm_Z σ0 c L _ _; rw [e]; exact ⟨hfr1, hFw, (Nat.le_of_ble_eq_true rfl), (Nat.le_of_ble_eq_true rfl)⟩⟩
    · have hd3 : sp_d c L p = 3 := sp_eq (b := 3) (by omega) (by decide) h161
      refine q_iconst (x := 1) dX8_readLine_164 (by decide) ?_
      refine q_goto 169 dX8_readLine_165 (by decide) ?_
      refine q_iconst (x := 2) dX8_readLine_169 (by decide) ?_
      refine q_cVv lX8_110 vX8_needs (ci := 8) rfl dX8_readLine_170 kX8_needs (by first | rfl | assumption) rfl rfl (Nat.le_of_ble_eq_true rfl) (by decide) ?_
      refine q_mem rm_nd_1 ?_
      refine q_aload_n dX8_readLine_173 rfl ?_
      refine q_rVv lX8_118 vX8_next (ci := 8) rfl dX8_readLine_174 (kX8_next (hZ.1.t ht0) hT.2.2.2.2 hT.1 hel.2) (by first | rfl | assumption) rfl rfl (Nat.le_of_ble_eq_true rfl) (by decide) (fun τ hq => ?_)
      refine q_vret dX8_readLine_177 ?_ rfl rfl
      have e : rm_sp c L (.inr (D, p)) = .inr (D, sp_e c L p) := by
        show sp_b (sp_st c L p) _ = _
        rw [sp_st, if_neg (sp_nt hok), if_pos hd3]
        rfl
      exact ⟨rfl, rfl, by show rm_Z σ0 c L _ _; rw [e]; exact ⟨hZ.1.tr hq.1.fr, fun _ => (rm_Dn.f1 (hZ.2.1 hok) hq.1), hq.2, hel.2⟩⟩

set_option maxHeartbeats 1000000 in
set_option maxRecDepth 100000 in
theorem kX8_readLineA {σ : q_M} {σ0 : q_M} {c : Nat → Int32} {L : Nat} (ht0 : rm_t σ0 c L) {D : sp_D} {p : Nat} (hZ : rm_Z σ0 c L (.inr (D, p)) σ) (hT : rm_T c L p σ) (hok : sp_ok c L p = true) (hA : sp_d c L p = 1 → rm_nn c (sp_s c L p) (sp_e c L p) = -4) : q_Ct YX8_readLine [.ref 72] q_SH σ (q_rv q_SH (rm_Z σ0 c L (.inl (2, sp_s c L p)))) := by
  refine q_ct (n := 1) (by decide) (by decide) rfl (fun _ => Nat.le_of_ble_eq_true rfl) (fun E => ?_)
  have hfr := hZ.1
  have hpL : p ≤ L := hZ.2.2.2
  have hel := sp_e_le (c := c) hpL
  have hdl := sp_d_le c L p
  have hD : rm_D D σ := hZ.2.1 hok
  refine q_aload_n dX8_readLine_0 rfl ?_
  refine q_get fX8_96 dX8_readLine_1 (by first | rfl | assumption) (by rfl) ?_
  refine q_tope (y := nI (sp_d c L p)) hT.2.2.1 ?_
  refine q_iconst (x := 1) dX8_readLine_4 (by decide) ?_
  refine q_icmp_ne 15 dX8_readLine_5 (by decide) (fun h5 => ?_) (fun h5 => ?_)
  · refine q_bipush (x := (-4)) dX8_readLine_15 (by decide) ?_
    refine q_istore_n dX8_readLine_17 (by decide) rfl ?_
    refine q_aload_n dX8_readLine_18 rfl ?_
    refine q_iload_n dX8_readLine_19 rfl ?_
    refine q_bipush (x := (-4)) dX8_readLine_20 (by decide) ?_
    refine q_icmp_eq 29 dX8_readLine_22 (by decide) (fun h22 => ?_) (fun h22 => ?_)
    · refine q_iconst (x := 0) dX8_readLine_29 (by decide) ?_
      refine q_iconst (x := 2) dX8_readLine_30 (by decide) ?_
      refine q_cVv lX8_110 vX8_needs (ci := 8) rfl dX8_readLine_31 kX8_needs (by first | rfl | assumption) rfl rfl (Nat.le_of_ble_eq_true rfl) (by decide) ?_
      refine q_mem (rm_nd_f rfl hT.2.2.2.2) ?_
      have hfr1 : rm_fr σ0 (q_up (q_up σ 72 15 2) 72 16 (σ 72 12)) := hfr.tr (((rm_f1.rf σ).up (by decide)).up (by decide)).fr
      have hFw : rm_Fw (2, sp_s c L p) (q_up (q_up σ 72 15 2) 72 16 (σ 72 12)) := ⟨rfl, hT.2.1⟩
      refine q_aload_n dX8_readLine_34 rfl ?_
      refine q_iload_n dX8_readLine_35 rfl ?_
      refine q_bipush (x := 7) dX8_readLine_36 (by decide) ?_
      refine q_icmp_ne 50 dX8_readLine_38 (by decide) (fun h38 => ?_) (fun h38 => ?_)
      · refine q_iconst (x := 1) dX8_readLine_50 (by decide) ?_
        refine q_goto 55 dX8_readLine_51 (by decide) ?_
        refine q_iconst (x := 5) dX8_readLine_55 (by decide) ?_
        refine q_cVv lX8_110 vX8_needs (ci := 8) rfl dX8_readLine_56 kX8_needs (by first | rfl | assumption) rfl rfl (Nat.le_of_ble_eq_true rfl) (by decide) ?_
        refine q_mem rm_nd_1 ?_
        refine q_aload_n dX8_readLine_59 rfl ?_
        refine q_get fX8_76 dX8_readLine_60 (by first | rfl | assumption) (by rfl) ?_
        refine q_if_ne 105 dX8_readLine_63 (by decide) (fun h63 => ?_) (fun h63 => ?_)
        · refine q_aload_n dX8_readLine_105 rfl ?_
          refine q_cVv lX8_118 vX8_next (ci := 8) rfl dX8_readLine_106 (kX8_nextF (hFw.pos (Nat.le_of_ble_eq_true rfl) (Nat.le_of_ble_eq_true rfl)).1) (by first | rfl | assumption) rfl rfl (Nat.le_of_ble_eq_true rfl) (by decide) ?_
          refine q_aload_n dX8_readLine_109 rfl ?_
          refine q_get fX8_76 dX8_readLine_110 (by first | rfl | assumption) (by rfl) ?_
          refine q_zle 117 dX8_readLine_113 (by decide) (fun h113 => ?_) (fun h113 => ?_)
          · exact absurd h113 (by have := (hFw.pos (Nat.le_of_ble_eq_true rfl) (Nat.le_of_ble_eq_true rfl)).1; omega)
          · refine q_vret dX8_readLine_116 ?_ rfl rfl
            exact ⟨rfl, rfl, hfr1, hFw, (Nat.le_of_ble_eq_true rfl), (Nat.le_of_ble_eq_true rfl)⟩
        · exact absurd h63 (hFw.pos (Nat.le_of_ble_eq_true rfl) (Nat.le_of_ble_eq_true rfl)).2
      · exact absurd h38 (by decide)
    · exact absurd rfl h22
  · have hd1 : sp_d c L p = 1 := sp_eq (b := 1) (by omega) (by decide) h5
    refine q_aload_n dX8_readLine_8 rfl ?_
    refine q_cVi lX8_129 vX8_nameNow (ci := 8) rfl dX8_readLine_9 (kX8_nameNow (hZ.1.t ht0) hT.2.1 hT.1 hel.1 hel.2) (by first | rfl | assumption) rfl rfl (Nat.le_of_ble_eq_true rfl) (by decide) ?_
    refine q_tope (y := -4) (hA hd1) ?_
    refine q_goto 17 dX8_readLine_12 (by decide) ?_
    refine q_istore_n dX8_readLine_17 (by decide) rfl ?_
    refine q_aload_n dX8_readLine_18 rfl ?_
    refine q_iload_n dX8_readLine_19 rfl ?_
    refine q_bipush (x := (-4)) dX8_readLine_20 (by decide) ?_
    refine q_icmp_eq 29 dX8_readLine_22 (by decide) (fun h22 => ?_) (fun h22 => ?_)
    · refine q_iconst (x := 0) dX8_readLine_29 (by decide) ?_
      refine q_iconst (x := 2) dX8_readLine_30 (by decide) ?_
      refine q_cVv lX8_110 vX8_needs (ci := 8) rfl dX8_readLine_31 kX8_needs (by first | rfl | assumption) rfl rfl (Nat.le_of_ble_eq_true rfl) (by decide) ?_
      refine q_mem (rm_nd_f rfl hT.2.2.2.2) ?_
      have hfr1 : rm_fr σ0 (q_up (q_up σ 72 15 2) 72 16 (σ 72 12)) := hfr.tr (((rm_f1.rf σ).up (by decide)).up (by decide)).fr
      have hFw : rm_Fw (2, sp_s c L p) (q_up (q_up σ 72 15 2) 72 16 (σ 72 12)) := ⟨rfl, hT.2.1⟩
      refine q_aload_n dX8_readLine_34 rfl ?_
      refine q_iload_n dX8_readLine_35 rfl ?_
      refine q_bipush (x := 7) dX8_readLine_36 (by decide) ?_
      refine q_icmp_ne 50 dX8_readLine_38 (by decide) (fun h38 => ?_) (fun h38 => ?_)
      · refine q_iconst (x := 1) dX8_readLine_50 (by decide) ?_
        refine q_goto 55 dX8_readLine_51 (by decide) ?_
        refine q_iconst (x := 5) dX8_readLine_55 (by decide) ?_
        refine q_cVv lX8_110 vX8_needs (ci := 8) rfl dX8_readLine_56 kX8_needs (by first | rfl | assumption) rfl rfl (Nat.le_of_ble_eq_true rfl) (by decide) ?_
        refine q_mem rm_nd_1 ?_
        refine q_aload_n dX8_readLine_59 rfl ?_
        refine q_get fX8_76 dX8_readLine_60 (by first | rfl | assumption) (by rfl) ?_
        refine q_if_ne 105 dX8_readLine_63 (by decide) (fun h63 => ?_) (fun h63 => ?_)
        · refine q_aload_n dX8_readLine_105 rfl ?_
          refine q_cVv lX8_118 vX8_next (ci := 8) rfl dX8_readLine_106 (kX8_nextF (hFw.pos (Nat.le_of_ble_eq_true rfl) (Nat.le_of_ble_eq_true rfl)).1) (by first | rfl | assumption) rfl rfl (Nat.le_of_ble_eq_true rfl) (by decide) ?_
          refine q_aload_n dX8_readLine_109 rfl ?_
          refine q_get fX8_76 dX8_readLine_110 (by first | rfl | assumption) (by rfl) ?_
          refine q_zle 117 dX8_readLine_113 (by decide) (fun h113 => ?_) (fun h113 => ?_)
          · exact absurd h113 (by have := (hFw.pos (Nat.le_of_ble_eq_true rfl) (Nat.le_of_ble_eq_true rfl)).1; omega)
          · refine q_vret dX8_readLine_116 ?_ rfl rfl
            exact ⟨rfl, rfl, hfr1, hFw, (Nat.le_of_ble_eq_true rfl), (Nat.le_of_ble_eq_true rfl)⟩
        · exact absurd h63 (hFw.pos (Nat.le_of_ble_eq_true rfl) (Nat.le_of_ble_eq_true rfl)).2
      · exact absurd h38 (by decide)
    · exact absurd rfl h22

set_option maxHeartbeats 1000000 in
set_option maxRecDepth 100000 in
theorem kX8_readLineB {σ : q_M} {σ0 : q_M} {c : Nat → Int32} {L : Nat} (ht0 : rm_t σ0 c L) {D : sp_D} {p : Nat} (hZ : rm_Z σ0 c L (.inr (D, p)) σ) (hT : rm_T c L p σ) (hok : sp_ok c L p = true) (hd1 : sp_d c L p = 1) (hnn : rm_nn c (sp_s c L p) (sp_e c L p) = 7) (h6 : 6 ≤ D.2.2.2.1) : q_Ct YX8_readLine [.ref 72] q_SH σ (q_rv q_SH (rm_Z σ0 c L (.inl (5, sp_s c L p)))) := by
  refine q_ct (n := 1) (by decide) (by decide) rfl (fun _ => Nat.le_of_ble_eq_true rfl) (fun E => ?_)
  have hfr := hZ.1
  have hpL : p ≤ L := hZ.2.2.2
  have hel := sp_e_le (c := c) hpL
  have hdl := sp_d_le c L p
  have hD : rm_D D σ := hZ.2.1 hok
  have hm6 : D.2.2.2.1 ≤ 6 := hD.2.2.2.2.1
  have hmt := nI_toInt (n := D.2.2.2.1) (by omega)
  have e6 : (6 : Int32).toInt = 6 := rfl
  refine q_aload_n dX8_readLine_0 rfl ?_
  refine q_get fX8_96 dX8_readLine_1 (by first | rfl | assumption) (by rfl) ?_
  refine q_tope (y := nI (sp_d c L p)) hT.2.2.1 ?_
  refine q_iconst (x := 1) dX8_readLine_4 (by decide) ?_
  refine q_icmp_ne 15 dX8_readLine_5 (by decide) (fun h5 => ?_) (fun h5 => ?_)
  · exact absurd (show nI (sp_d c L p) = 1 by rw [hd1]; rfl) h5
  · refine q_aload_n dX8_readLine_8 rfl ?_
    refine q_cVi lX8_129 vX8_nameNow (ci := 8) rfl dX8_readLine_9 (kX8_nameNow (hZ.1.t ht0) hT.2.1 hT.1 hel.1 hel.2) (by first | rfl | assumption) rfl rfl (Nat.le_of_ble_eq_true rfl) (by decide) ?_
    refine q_tope (y := 7) hnn ?_
    refine q_goto 17 dX8_readLine_12 (by decide) ?_
    refine q_istore_n dX8_readLine_17 (by decide) rfl ?_
    refine q_aload_n dX8_readLine_18 rfl ?_
    refine q_iload_n dX8_readLine_19 rfl ?_
    refine q_bipush (x := (-4)) dX8_readLine_20 (by decide) ?_
    refine q_icmp_eq 29 dX8_readLine_22 (by decide) (fun h22 => ?_) (fun h22 => ?_)
    · exact absurd h22 (by decide)
    · refine q_iconst (x := 1) dX8_readLine_25 (by decide) ?_
      refine q_goto 30 dX8_readLine_26 (by decide) ?_
      refine q_iconst (x := 2) dX8_readLine_30 (by decide) ?_
      refine q_cVv lX8_110 vX8_needs (ci := 8) rfl dX8_readLine_31 kX8_needs (by first | rfl | assumption) rfl rfl (Nat.le_of_ble_eq_true rfl) (by decide) ?_
      refine q_mem rm_nd_1 ?_
      refine q_aload_n dX8_readLine_34 rfl ?_
      refine q_iload_n dX8_readLine_35 rfl ?_
      refine q_bipush (x := 7) dX8_readLine_36 (by decide) ?_
      refine q_icmp_ne 50 dX8_readLine_38 (by decide) (fun h38 => ?_) (fun h38 => ?_)
      · exact absurd rfl h38
      · refine q_aload_n dX8_readLine_41 rfl ?_
        refine q_get fX8_56 dX8_readLine_42 (by first | rfl | assumption) (by rfl) ?_
        refine q_tope (y := nI D.2.2.2.1) hD.2.2.2.1 ?_
        refine q_bipush (x := 6) dX8_readLine_45 (by decide) ?_
        refine q_cge 54 dX8_readLine_47 (by decide) (fun h47 => ?_) (fun h47 => ?_)
        · refine q_iconst (x := 0) dX8_readLine_54 (by decide) ?_
          refine q_iconst (x := 5) dX8_readLine_55 (by decide) ?_
          refine q_cVv lX8_110 vX8_needs (ci := 8) rfl dX8_readLine_56 kX8_needs (by first | rfl | assumption) rfl rfl (Nat.le_of_ble_eq_true rfl) (by decide) ?_
          refine q_mem (rm_nd_f rfl hT.2.2.2.2) ?_
          have hfr1 : rm_fr σ0 (q_up (q_up σ 72 15 5) 72 16 (σ 72 12)) := hfr.tr (((rm_f1.rf σ).up (by decide)).up (by decide)).fr
          have hFw : rm_Fw (5, sp_s c L p) (q_up (q_up σ 72 15 5) 72 16 (σ 72 12)) := ⟨rfl, hT.2.1⟩
          refine q_aload_n dX8_readLine_59 rfl ?_
          refine q_get fX8_76 dX8_readLine_60 (by first | rfl | assumption) (by rfl) ?_
          refine q_if_ne 105 dX8_readLine_63 (by decide) (fun h63 => ?_) (fun h63 => ?_)
          · refine q_aload_n dX8_readLine_105 rfl ?_
            refine q_cVv lX8_118 vX8_next (ci := 8) rfl dX8_readLine_106 (kX8_nextF (hFw.pos (Nat.le_of_ble_eq_true rfl) (Nat.le_of_ble_eq_true rfl)).1) (by first | rfl | assumption) rfl rfl (Nat.le_of_ble_eq_true rfl) (by decide) ?_
            refine q_aload_n dX8_readLine_109 rfl ?_
            refine q_get fX8_76 dX8_readLine_110 (by first | rfl | assumption) (by rfl) ?_
            refine q_zle 117 dX8_readLine_113 (by decide) (fun h113 => ?_) (fun h113 => ?_)
            · exact absurd h113 (by have := (hFw.pos (Nat.le_of_ble_eq_true rfl) (Nat.le_of_ble_eq_true rfl)).1; omega)
            · refine q_vret dX8_readLine_116 ?_ rfl rfl
              exact ⟨rfl, rfl, hfr1, hFw, (Nat.le_of_ble_eq_true rfl), (Nat.le_of_ble_eq_true rfl)⟩
          · exact absurd h63 (hFw.pos (Nat.le_of_ble_eq_true rfl) (Nat.le_of_ble_eq_true rfl)).2
        · exact absurd h47 (by omega)

set_option maxHeartbeats 1000000 in
set_option maxRecDepth 100000 in
theorem kX8_readLineC {σ : q_M} {σ0 : q_M} {c : Nat → Int32} {L : Nat} (ht0 : rm_t σ0 c L) {D : sp_D} {p : Nat} (hZ : rm_Z σ0 c L (.inr (D, p)) σ) (hT : rm_T c L p σ) (hok : sp_ok c L p = true) (hd1 : sp_d c L p = 1) (hnn : rm_nn c (sp_s c L p) (sp_e c L p) = 7) (h6 : D.2.2.2.1 < 6) : q_Ct YX8_readLine [.ref 72] q_SH σ (q_rv q_SH (rm_Z σ0 c L (rm_sp c L (rm_dv0 c L D (sp_e c L p))))) := by
  refine q_ct (n := 1) (by decide) (by decide) rfl (fun _ => Nat.le_of_ble_eq_true rfl) (fun E => ?_)
  have hfr := hZ.1
  have hpL : p ≤ L := hZ.2.2.2
  have hel := sp_e_le (c := c) hpL
  have hdl := sp_d_le c L p
  have hD : rm_D D σ := hZ.2.1 hok
  have hm6 : D.2.2.2.1 ≤ 6 := hD.2.2.2.2.1
  have hmt := nI_toInt (n := D.2.2.2.1) (by omega)
  have e6 : (6 : Int32).toInt = 6 := rfl
  refine q_aload_n dX8_readLine_0 rfl ?_
  refine q_get fX8_96 dX8_readLine_1 (by first | rfl | assumption) (by rfl) ?_
  refine q_tope (y := nI (sp_d c L p)) hT.2.2.1 ?_
  refine q_iconst (x := 1) dX8_readLine_4 (by decide) ?_
  refine q_icmp_ne 15 dX8_readLine_5 (by decide) (fun h5 => ?_) (fun h5 => ?_)
  · exact absurd (show nI (sp_d c L p) = 1 by rw [hd1]; rfl) h5
  · refine q_aload_n dX8_readLine_8 rfl ?_
    refine q_cVi lX8_129 vX8_nameNow (ci := 8) rfl dX8_readLine_9 (kX8_nameNow (hZ.1.t ht0) hT.2.1 hT.1 hel.1 hel.2) (by first | rfl | assumption) rfl rfl (Nat.le_of_ble_eq_true rfl) (by decide) ?_
    refine q_tope (y := 7) hnn ?_
    refine q_goto 17 dX8_readLine_12 (by decide) ?_
    refine q_istore_n dX8_readLine_17 (by decide) rfl ?_
    refine q_aload_n dX8_readLine_18 rfl ?_
    refine q_iload_n dX8_readLine_19 rfl ?_
    refine q_bipush (x := (-4)) dX8_readLine_20 (by decide) ?_
    refine q_icmp_eq 29 dX8_readLine_22 (by decide) (fun h22 => ?_) (fun h22 => ?_)
    · exact absurd h22 (by decide)
    · refine q_iconst (x := 1) dX8_readLine_25 (by decide) ?_
      refine q_goto 30 dX8_readLine_26 (by decide) ?_
      refine q_iconst (x := 2) dX8_readLine_30 (by decide) ?_
      refine q_cVv lX8_110 vX8_needs (ci := 8) rfl dX8_readLine_31 kX8_needs (by first | rfl | assumption) rfl rfl (Nat.le_of_ble_eq_true rfl) (by decide) ?_
      refine q_mem rm_nd_1 ?_
      refine q_aload_n dX8_readLine_34 rfl ?_
      refine q_iload_n dX8_readLine_35 rfl ?_
      refine q_bipush (x := 7) dX8_readLine_36 (by decide) ?_
      refine q_icmp_ne 50 dX8_readLine_38 (by decide) (fun h38 => ?_) (fun h38 => ?_)
      · exact absurd rfl h38
      · refine q_aload_n dX8_readLine_41 rfl ?_
        refine q_get fX8_56 dX8_readLine_42 (by first | rfl | assumption) (by rfl) ?_
        refine q_tope (y := nI D.2.2.2.1) hD.2.2.2.1 ?_
        refine q_bipush (x := 6) dX8_readLine_45 (by decide) ?_
        refine q_cge 54 dX8_readLine_47 (by decide) (fun h47 => ?_) (fun h47 => ?_)
        · exact absurd h47 (by omega)
        · refine q_iconst (x := 1) dX8_readLine_50 (by decide) ?_
          refine q_goto 55 dX8_readLine_51 (by decide) ?_
          refine q_iconst (x := 5) dX8_readLine_55 (by decide) ?_
          refine q_cVv lX8_110 vX8_needs (ci := 8) rfl dX8_readLine_56 kX8_needs (by first | rfl | assumption) rfl rfl (Nat.le_of_ble_eq_true rfl) (by decide) ?_
          refine q_mem rm_nd_1 ?_
          refine q_aload_n dX8_readLine_59 rfl ?_
          refine q_get fX8_76 dX8_readLine_60 (by first | rfl | assumption) (by rfl) ?_
          refine q_tope (y := 0) hT.2.2.2.2 ?_
          refine q_if_ne 105 dX8_readLine_63 (by decide) (fun h63 => ?_) (fun h63 => ?_)
          · exact absurd rfl h63
          · refine q_iload_n dX8_readLine_66 rfl ?_
            refine q_bipush (x := 6) dX8_readLine_67 (by decide) ?_
            refine q_cge 105 dX8_readLine_69 (by decide) (fun h69 => ?_) (fun h69 => ?_)
            · refine q_aload_n dX8_readLine_105 rfl ?_
              refine q_rVv lX8_118 vX8_next (ci := 8) rfl dX8_readLine_106 (kX8_next (hZ.1.t ht0) hT.2.2.2.2 hT.1 hel.2) (by first | rfl | assumption) rfl rfl (Nat.le_of_ble_eq_true rfl) (by decide) (fun τ hq => ?_)
              have hZ1 : rm_Z σ0 c L (.inr (D, sp_e c L p)) τ := ⟨hZ.1.tr hq.1.fr, fun _ => rm_Dn.f1 hD hq.1, hq.2, hel.2⟩
              refine q_aload_n dX8_readLine_109 rfl ?_
              refine q_get fX8_76 dX8_readLine_110 (by first | rfl | assumption) (by rfl) ?_
              refine q_zle 117 dX8_readLine_113 (by decide) (fun h113 => ?_) (fun h113 => ?_)
              · have h0 : τ 72 15 = 0 := by
                  cases hk2 : sp_ok c L (sp_e c L p) with
                  | true => exact (hq.2.1 hk2).2.2.2.2
                  | false =>
                    have := ((hq.2.2 hk2).pos (Nat.le_of_ble_eq_true rfl) (Nat.le_of_ble_eq_true rfl)).1
                    omega
                refine q_iload_n dX8_readLine_117 rfl ?_
                refine q_bipush (x := 7) dX8_readLine_118 (by decide) ?_
                refine q_icmp_ne 130 dX8_readLine_120 (by decide) (fun h120 => ?_) (fun h120 => ?_)
                · exact absurd rfl h120
                · refine q_aload_n dX8_readLine_123 rfl ?_
                  refine q_rVv lX8_132 vX8_readDiver (ci := 8) rfl dX8_readLine_124 (kX8_readDiver ht0 hZ1 h0 h6) (by first | rfl | assumption) rfl rfl (Nat.le_of_ble_eq_true rfl) (by decide) (fun τ2 hq2 => ?_)
                  refine q_goto 148 dX8_readLine_127 (by decide) ?_
                  exact sgX8_rlT ht0 hq2
              · have hbad : sp_ok c L (sp_e c L p) = false := by
                  cases hk2 : sp_ok c L (sp_e c L p) with
                  | false => rfl
                  | true =>
                    rw [(hq.2.1 hk2).2.2.2.2] at h113
                    exact absurd h113 (by decide)
                refine q_vret dX8_readLine_116 ?_ rfl rfl
                have e2 : rm_sp c L (rm_dv0 c L D (sp_e c L p)) = .inl (1, sp_s c L (sp_e c L p)) := by
                  unfold rm_dv0 rm_sp
                  rw [sp_num_no hbad]
                  rfl
                exact ⟨rfl, rfl, by show rm_Z σ0 c L _ _; rw [e2]; exact ⟨hZ1.1, hq.2.2 hbad, (Nat.le_of_ble_eq_true rfl), (Nat.le_of_ble_eq_true rfl)⟩⟩
            · exact absurd h69 (by decide)

set_option maxHeartbeats 1000000 in
set_option maxRecDepth 100000 in
theorem kX8_readLineD {σ : q_M} {σ0 : q_M} {c : Nat → Int32} {L : Nat} (ht0 : rm_t σ0 c L) {D : sp_D} {p : Nat} (hZ : rm_Z σ0 c L (.inr (D, p)) σ) (hT : rm_T c L p σ) (hok : sp_ok c L p = true) (hd1 : sp_d c L p = 1) (hnn : rm_nn c (sp_s c L p) (sp_e c L p) = 6) : q_Ct YX8_readLine [.ref 72] q_SH σ (q_rv q_SH (rm_Z σ0 c L (rm_sp c L (rm_hr0 c L D (sp_e c L p))))) := by
  refine q_ct (n := 1) (by decide) (by decide) rfl (fun _ => Nat.le_of_ble_eq_true rfl) (fun E => ?_)
  have hfr := hZ.1
  have hpL : p ≤ L := hZ.2.2.2
  have hel := sp_e_le (c := c) hpL
  have hdl := sp_d_le c L p
  have hD : rm_D D σ := hZ.2.1 hok
  refine q_aload_n dX8_readLine_0 rfl ?_
  refine q_get fX8_96 dX8_readLine_1 (by first | rfl | assumption) (by rfl) ?_
  refine q_tope (y := nI (sp_d c L p)) hT.2.2.1 ?_
  refine q_iconst (x := 1) dX8_readLine_4 (by decide) ?_
  refine q_icmp_ne 15 dX8_readLine_5 (by decide) (fun h5 => ?_) (fun h5 => ?_)
  · exact absurd (show nI (sp_d c L p) = 1 by rw [hd1]; rfl) h5
  · refine q_aload_n dX8_readLine_8 rfl ?_
    refine q_cVi lX8_129 vX8_nameNow (ci := 8) rfl dX8_readLine_9 (kX8_nameNow (hZ.1.t ht0) hT.2.1 hT.1 hel.1 hel.2) (by first | rfl | assumption) rfl rfl (Nat.le_of_ble_eq_true rfl) (by decide) ?_
    refine q_tope (y := 6) hnn ?_
    refine q_goto 17 dX8_readLine_12 (by decide) ?_
    refine q_istore_n dX8_readLine_17 (by decide) rfl ?_
    refine q_aload_n dX8_readLine_18 rfl ?_
    refine q_iload_n dX8_readLine_19 rfl ?_
    refine q_bipush (x := (-4)) dX8_readLine_20 (by decide) ?_
    refine q_icmp_eq 29 dX8_readLine_22 (by decide) (fun h22 => ?_) (fun h22 => ?_)
    · exact absurd h22 (by decide)
    · refine q_iconst (x := 1) dX8_readLine_25 (by decide) ?_
      refine q_goto 30 dX8_readLine_26 (by decide) ?_
      refine q_iconst (x := 2) dX8_readLine_30 (by decide) ?_
      refine q_cVv lX8_110 vX8_needs (ci := 8) rfl dX8_readLine_31 kX8_needs (by first | rfl | assumption) rfl rfl (Nat.le_of_ble_eq_true rfl) (by decide) ?_
      refine q_mem rm_nd_1 ?_
      refine q_aload_n dX8_readLine_34 rfl ?_
      refine q_iload_n dX8_readLine_35 rfl ?_
      refine q_bipush (x := 7) dX8_readLine_36 (by decide) ?_
      refine q_icmp_ne 50 dX8_readLine_38 (by decide) (fun h38 => ?_) (fun h38 => ?_)
      · refine q_iconst (x := 1) dX8_readLine_50 (by decide) ?_
        refine q_goto 55 dX8_readLine_51 (by decide) ?_
        refine q_iconst (x := 5) dX8_readLine_55 (by decide) ?_
        refine q_cVv lX8_110 vX8_needs (ci := 8) rfl dX8_readLine_56 kX8_needs (by first | rfl | assumption) rfl rfl (Nat.le_of_ble_eq_true rfl) (by decide) ?_
        refine q_mem rm_nd_1 ?_
        refine q_aload_n dX8_readLine_59 rfl ?_
        refine q_get fX8_76 dX8_readLine_60 (by first | rfl | assumption) (by rfl) ?_
        refine q_tope (y := 0) hT.2.2.2.2 ?_
        refine q_if_ne 105 dX8_readLine_63 (by decide) (fun h63 => ?_) (fun h63 => ?_)
        · exact absurd rfl h63
        · refine q_iload_n dX8_readLine_66 rfl ?_
          refine q_bipush (x := 6) dX8_readLine_67 (by decide) ?_
          refine q_cge 105 dX8_readLine_69 (by decide) (fun h69 => ?_) (fun h69 => ?_)
          · refine q_aload_n dX8_readLine_105 rfl ?_
            refine q_rVv lX8_118 vX8_next (ci := 8) rfl dX8_readLine_106 (kX8_next (hZ.1.t ht0) hT.2.2.2.2 hT.1 hel.2) (by first | rfl | assumption) rfl rfl (Nat.le_of_ble_eq_true rfl) (by decide) (fun τ hq => ?_)
            have hZ1 : rm_Z σ0 c L (.inr (D, sp_e c L p)) τ := ⟨hZ.1.tr hq.1.fr, fun _ => rm_Dn.f1 hD hq.1, hq.2, hel.2⟩
            refine q_aload_n dX8_readLine_109 rfl ?_
            refine q_get fX8_76 dX8_readLine_110 (by first | rfl | assumption) (by rfl) ?_
            refine q_zle 117 dX8_readLine_113 (by decide) (fun h113 => ?_) (fun h113 => ?_)
            · have h0 : τ 72 15 = 0 := by
                cases hk2 : sp_ok c L (sp_e c L p) with
                | true => exact (hq.2.1 hk2).2.2.2.2
                | false =>
                  have := ((hq.2.2 hk2).pos (Nat.le_of_ble_eq_true rfl) (Nat.le_of_ble_eq_true rfl)).1
                  omega
              refine q_iload_n dX8_readLine_117 rfl ?_
              refine q_bipush (x := 7) dX8_readLine_118 (by decide) ?_
              refine q_icmp_ne 130 dX8_readLine_120 (by decide) (fun h120 => ?_) (fun h120 => ?_)
              · refine q_iload_n dX8_readLine_130 rfl ?_
                refine q_bipush (x := 6) dX8_readLine_131 (by decide) ?_
                refine q_icmp_ne 143 dX8_readLine_133 (by decide) (fun h133 => ?_) (fun h133 => ?_)
                · exact absurd rfl h133
                · refine q_aload_n dX8_readLine_136 rfl ?_
                  refine q_rVv lX8_135 vX8_readHour (ci := 8) rfl dX8_readLine_137 (kX8_readHour ht0 hZ1 h0) (by first | rfl | assumption) rfl rfl (Nat.le_of_ble_eq_true rfl) (by decide) (fun τ2 hq2 => ?_)
                  refine q_goto 148 dX8_readLine_140 (by decide) ?_
                  exact sgX8_rlT ht0 hq2
              · exact absurd h120 (by decide)
            · have hbad : sp_ok c L (sp_e c L p) = false := by
                cases hk2 : sp_ok c L (sp_e c L p) with
                | false => rfl
                | true =>
                  rw [(hq.2.1 hk2).2.2.2.2] at h113
                  exact absurd h113 (by decide)
              refine q_vret dX8_readLine_116 ?_ rfl rfl
              have e2 : rm_sp c L (rm_hr0 c L D (sp_e c L p)) = .inl (1, sp_s c L (sp_e c L p)) := by
                unfold rm_hr0 rm_sp
                rw [sp_num_no hbad]
                rfl
              exact ⟨rfl, rfl, by show rm_Z σ0 c L _ _; rw [e2]; exact ⟨hZ1.1, hq.2.2 hbad, (Nat.le_of_ble_eq_true rfl), (Nat.le_of_ble_eq_true rfl)⟩⟩
          · exact absurd h69 (by decide)
      · exact absurd h38 (by decide)

set_option maxHeartbeats 1000000 in
set_option maxRecDepth 100000 in
theorem kX8_readLineE {σ : q_M} {σ0 : q_M} {c : Nat → Int32} {L : Nat} (ht0 : rm_t σ0 c L) {D : sp_D} {p : Nat} (hZ : rm_Z σ0 c L (.inr (D, p)) σ) (hT : rm_T c L p σ) (hok : sp_ok c L p = true) (hd1 : sp_d c L p = 1) {kk : Nat} (hk6 : kk < 6) (hnn : rm_nn c (sp_s c L p) (sp_e c L p) = nI kk) (htold : D.2.2.1 (rm_cr kk) = true) : q_Ct YX8_readLine [.ref 72] q_SH σ (q_rv q_SH (rm_Z σ0 c L (.inl (4, sp_s c L p)))) := by
  refine q_ct (n := 1) (by decide) (by decide) rfl (fun _ => Nat.le_of_ble_eq_true rfl) (fun E => ?_)
  have hfr := hZ.1
  have hpL : p ≤ L := hZ.2.2.2
  have hel := sp_e_le (c := c) hpL
  have hdl := sp_d_le c L p
  have hD : rm_D D σ := hZ.2.1 hok
  have hkt := nI_toInt (n := kk) (by omega)
  have e6 : (6 : Int32).toInt = 6 := rfl
  have e4 : (-4 : Int32).toInt = -4 := rfl
  have e7 : (7 : Int32).toInt = 7 := rfl
  refine q_aload_n dX8_readLine_0 rfl ?_
  refine q_get fX8_96 dX8_readLine_1 (by first | rfl | assumption) (by rfl) ?_
  refine q_tope (y := nI (sp_d c L p)) hT.2.2.1 ?_
  refine q_iconst (x := 1) dX8_readLine_4 (by decide) ?_
  refine q_icmp_ne 15 dX8_readLine_5 (by decide) (fun h5 => ?_) (fun h5 => ?_)
  · exact absurd (show nI (sp_d c L p) = 1 by rw [hd1]; rfl) h5
  · refine q_aload_n dX8_readLine_8 rfl ?_
    refine q_cVi lX8_129 vX8_nameNow (ci := 8) rfl dX8_readLine_9 (kX8_nameNow (hZ.1.t ht0) hT.2.1 hT.1 hel.1 hel.2) (by first | rfl | assumption) rfl rfl (Nat.le_of_ble_eq_true rfl) (by decide) ?_
    refine q_tope (y := nI kk) hnn ?_
    refine q_goto 17 dX8_readLine_12 (by decide) ?_
    refine q_istore_n dX8_readLine_17 (by decide) rfl ?_
    refine q_aload_n dX8_readLine_18 rfl ?_
    refine q_iload_n dX8_readLine_19 rfl ?_
    refine q_bipush (x := (-4)) dX8_readLine_20 (by decide) ?_
    refine q_icmp_eq 29 dX8_readLine_22 (by decide) (fun h22 => ?_) (fun h22 => ?_)
    · exact absurd (congrArg Int32.toInt h22) (by omega)
    · refine q_iconst (x := 1) dX8_readLine_25 (by decide) ?_
      refine q_goto 30 dX8_readLine_26 (by decide) ?_
      refine q_iconst (x := 2) dX8_readLine_30 (by decide) ?_
      refine q_cVv lX8_110 vX8_needs (ci := 8) rfl dX8_readLine_31 kX8_needs (by first | rfl | assumption) rfl rfl (Nat.le_of_ble_eq_true rfl) (by decide) ?_
      refine q_mem rm_nd_1 ?_
      refine q_aload_n dX8_readLine_34 rfl ?_
      refine q_iload_n dX8_readLine_35 rfl ?_
      refine q_bipush (x := 7) dX8_readLine_36 (by decide) ?_
      refine q_icmp_ne 50 dX8_readLine_38 (by decide) (fun h38 => ?_) (fun h38 => ?_)
      · refine q_iconst (x := 1) dX8_readLine_50 (by decide) ?_
        refine q_goto 55 dX8_readLine_51 (by decide) ?_
        refine q_iconst (x := 5) dX8_readLine_55 (by decide) ?_
        refine q_cVv lX8_110 vX8_needs (ci := 8) rfl dX8_readLine_56 kX8_needs (by first | rfl | assumption) rfl rfl (Nat.le_of_ble_eq_true rfl) (by decide) ?_
        refine q_mem rm_nd_1 ?_
        refine q_aload_n dX8_readLine_59 rfl ?_
        refine q_get fX8_76 dX8_readLine_60 (by first | rfl | assumption) (by rfl) ?_
        refine q_tope (y := 0) hT.2.2.2.2 ?_
        refine q_if_ne 105 dX8_readLine_63 (by decide) (fun h63 => ?_) (fun h63 => ?_)
        · exact absurd rfl h63
        · refine q_iload_n dX8_readLine_66 rfl ?_
          refine q_bipush (x := 6) dX8_readLine_67 (by decide) ?_
          refine q_cge 105 dX8_readLine_69 (by decide) (fun h69 => ?_) (fun h69 => ?_)
          · exact absurd h69 (by omega)
          · refine q_aload_n dX8_readLine_72 rfl ?_
            refine q_aload_n dX8_readLine_73 rfl ?_
            refine q_get fX8_60 dX8_readLine_74 (by first | rfl | assumption) (by rfl) ?_
            refine q_tope (y := rm_tl D.2.2.1) hD.2.2.1 ?_
            refine q_iload_n dX8_readLine_77 rfl ?_
            refine q_ishr dX8_readLine_78 ?_
            refine q_iconst (x := 1) dX8_readLine_79 (by decide) ?_
            refine q_iand dX8_readLine_80 ?_
            refine q_tope (y := q_b (D.2.2.1 (rm_cr kk))) (rm_tl_g _ hk6) ?_
            refine q_if_ne 88 dX8_readLine_81 (by decide) (fun h81 => ?_) (fun h81 => ?_)
            · refine q_iconst (x := 0) dX8_readLine_88 (by decide) ?_
              refine q_iconst (x := 4) dX8_readLine_89 (by decide) ?_
              refine q_cVv lX8_110 vX8_needs (ci := 8) rfl dX8_readLine_90 kX8_needs (by first | rfl | assumption) rfl rfl (Nat.le_of_ble_eq_true rfl) (by decide) ?_
              refine q_mem (rm_nd_f rfl hT.2.2.2.2) ?_
              have hfr1 : rm_fr σ0 (q_up (q_up σ 72 15 4) 72 16 (σ 72 12)) := hfr.tr (((rm_f1.rf σ).up (by decide)).up (by decide)).fr
              have hFw : rm_Fw (4, sp_s c L p) (q_up (q_up σ 72 15 4) 72 16 (σ 72 12)) := ⟨rfl, hT.2.1⟩
              refine q_aload_n dX8_readLine_93 rfl ?_
              refine q_dup rfl dX8_readLine_94 ?_
              refine q_get fX8_60 dX8_readLine_95 (by first | rfl | assumption) (by rfl) ?_
              refine q_iconst (x := 1) dX8_readLine_98 (by decide) ?_
              refine q_iload_n dX8_readLine_99 rfl ?_
              refine q_ishl dX8_readLine_100 ?_
              refine q_ior dX8_readLine_101 ?_
              refine q_put_i pX8_60 dX8_readLine_102 (by first | rfl | assumption) (by rfl) rfl rfl ?_
              have hfr2 : rm_fr σ0 _ := hfr1.uf (k := 8) (v := ((q_up (q_up σ 72 15 4) 72 16 (σ 72 12)) 72 8 ||| (1 <<< (nI kk &&& 31)))) (Or.inr rfl)
              refine q_aload_n dX8_readLine_105 rfl ?_
              refine q_cVv lX8_118 vX8_next (ci := 8) rfl dX8_readLine_106 (kX8_nextF (hFw.pos (Nat.le_of_ble_eq_true rfl) (Nat.le_of_ble_eq_true rfl)).1) (by first | rfl | assumption) rfl rfl (Nat.le_of_ble_eq_true rfl) (by decide) ?_
              refine q_aload_n dX8_readLine_109 rfl ?_
              refine q_get fX8_76 dX8_readLine_110 (by first | rfl | assumption) (by rfl) ?_
              refine q_zle 117 dX8_readLine_113 (by decide) (fun h113 => ?_) (fun h113 => ?_)
              · exact absurd h113 (by have := (hFw.pos (Nat.le_of_ble_eq_true rfl) (Nat.le_of_ble_eq_true rfl)).1; exact Int.not_le.mpr this)
              · refine q_vret dX8_readLine_116 ?_ rfl rfl
                exact ⟨rfl, rfl, hfr2, ⟨hFw.1, hFw.2⟩, (Nat.le_of_ble_eq_true rfl), (Nat.le_of_ble_eq_true rfl)⟩
            · exact absurd (q_b_eq0.mp h81) (by rw [htold]; decide)
      · exact absurd (congrArg Int32.toInt h38) (by omega)

set_option maxHeartbeats 1000000 in
set_option maxRecDepth 100000 in
theorem kX8_readLineF {σ : q_M} {σ0 : q_M} {c : Nat → Int32} {L : Nat} (ht0 : rm_t σ0 c L) {D : sp_D} {p : Nat} (hZ : rm_Z σ0 c L (.inr (D, p)) σ) (hT : rm_T c L p σ) (hok : sp_ok c L p = true) (hd1 : sp_d c L p = 1) {kk : Nat} (hk6 : kk < 6) (hnn : rm_nn c (sp_s c L p) (sp_e c L p) = nI kk) (htold : D.2.2.1 (rm_cr kk) = false) : q_Ct YX8_readLine [.ref 72] q_SH σ (q_rv q_SH (rm_Z σ0 c L (rm_sp c L (rm_rl0 c L (D.1, D.2.1, sp_u D.2.2.1 (rm_cr kk) true, D.2.2.2) (rm_cr kk) (sp_e c L p))))) := by
  refine q_ct (n := 1) (by decide) (by decide) rfl (fun _ => Nat.le_of_ble_eq_true rfl) (fun E => ?_)
  have hfr := hZ.1
  have hpL : p ≤ L := hZ.2.2.2
  have hel := sp_e_le (c := c) hpL
  have hdl := sp_d_le c L p
  have hD : rm_D D σ := hZ.2.1 hok
  have hkt := nI_toInt (n := kk) (by omega)
  have e6 : (6 : Int32).toInt = 6 := rfl
  have e4 : (-4 : Int32).toInt = -4 := rfl
  have e7 : (7 : Int32).toInt = 7 := rfl
  refine q_aload_n dX8_readLine_0 rfl ?_
  refine q_get fX8_96 dX8_readLine_1 (by first | rfl | assumption) (by rfl) ?_
  refine q_tope (y := nI (sp_d c L p)) hT.2.2.1 ?_
  refine q_iconst (x := 1) dX8_readLine_4 (by decide) ?_
  refine q_icmp_ne 15 dX8_readLine_5 (by decide) (fun h5 => ?_) (fun h5 => ?_)
  · exact absurd (show nI (sp_d c L p) = 1 by rw [hd1]; rfl) h5
  · refine q_aload_n dX8_readLine_8 rfl ?_
    refine q_cVi lX8_129 vX8_nameNow (ci := 8) rfl dX8_readLine_9 (kX8_nameNow (hZ.1.t ht0) hT.2.1 hT.1 hel.1 hel.2) (by first | rfl | assumption) rfl rfl (Nat.le_of_ble_eq_true rfl) (by decide) ?_
    refine q_tope (y := nI kk) hnn ?_
    refine q_goto 17 dX8_readLine_12 (by decide) ?_
    refine q_istore_n dX8_readLine_17 (by decide) rfl ?_
    refine q_aload_n dX8_readLine_18 rfl ?_
    refine q_iload_n dX8_readLine_19 rfl ?_
    refine q_bipush (x := (-4)) dX8_readLine_20 (by decide) ?_
    refine q_icmp_eq 29 dX8_readLine_22 (by decide) (fun h22 => ?_) (fun h22 => ?_)
    · exact absurd (congrArg Int32.toInt h22) (by omega)
    · refine q_iconst (x := 1) dX8_readLine_25 (by decide) ?_
      refine q_goto 30 dX8_readLine_26 (by decide) ?_
      refine q_iconst (x := 2) dX8_readLine_30 (by decide) ?_
      refine q_cVv lX8_110 vX8_needs (ci := 8) rfl dX8_readLine_31 kX8_needs (by first | rfl | assumption) rfl rfl (Nat.le_of_ble_eq_true rfl) (by decide) ?_
      refine q_mem rm_nd_1 ?_
      refine q_aload_n dX8_readLine_34 rfl ?_
      refine q_iload_n dX8_readLine_35 rfl ?_
      refine q_bipush (x := 7) dX8_readLine_36 (by decide) ?_
      refine q_icmp_ne 50 dX8_readLine_38 (by decide) (fun h38 => ?_) (fun h38 => ?_)
      · refine q_iconst (x := 1) dX8_readLine_50 (by decide) ?_
        refine q_goto 55 dX8_readLine_51 (by decide) ?_
        refine q_iconst (x := 5) dX8_readLine_55 (by decide) ?_
        refine q_cVv lX8_110 vX8_needs (ci := 8) rfl dX8_readLine_56 kX8_needs (by first | rfl | assumption) rfl rfl (Nat.le_of_ble_eq_true rfl) (by decide) ?_
        refine q_mem rm_nd_1 ?_
        refine q_aload_n dX8_readLine_59 rfl ?_
        refine q_get fX8_76 dX8_readLine_60 (by first | rfl | assumption) (by rfl) ?_
        refine q_tope (y := 0) hT.2.2.2.2 ?_
        refine q_if_ne 105 dX8_readLine_63 (by decide) (fun h63 => ?_) (fun h63 => ?_)
        · exact absurd rfl h63
        · refine q_iload_n dX8_readLine_66 rfl ?_
          refine q_bipush (x := 6) dX8_readLine_67 (by decide) ?_
          refine q_cge 105 dX8_readLine_69 (by decide) (fun h69 => ?_) (fun h69 => ?_)
          · exact absurd h69 (by omega)
          · refine q_aload_n dX8_readLine_72 rfl ?_
            refine q_aload_n dX8_readLine_73 rfl ?_
            refine q_get fX8_60 dX8_readLine_74 (by first | rfl | assumption) (by rfl) ?_
            refine q_tope (y := rm_tl D.2.2.1) hD.2.2.1 ?_
            refine q_iload_n dX8_readLine_77 rfl ?_
            refine q_ishr dX8_readLine_78 ?_
            refine q_iconst (x := 1) dX8_readLine_79 (by decide) ?_
            refine q_iand dX8_readLine_80 ?_
            refine q_tope (y := q_b (D.2.2.1 (rm_cr kk))) (rm_tl_g _ hk6) ?_
            refine q_if_ne 88 dX8_readLine_81 (by decide) (fun h81 => ?_) (fun h81 => ?_)
            · exact absurd (q_b_ne0.mp h81) (by rw [htold]; decide)
            · refine q_iconst (x := 1) dX8_readLine_84 (by decide) ?_
              refine q_goto 89 dX8_readLine_85 (by decide) ?_
              refine q_iconst (x := 4) dX8_readLine_89 (by decide) ?_
              refine q_cVv lX8_110 vX8_needs (ci := 8) rfl dX8_readLine_90 kX8_needs (by first | rfl | assumption) rfl rfl (Nat.le_of_ble_eq_true rfl) (by decide) ?_
              refine q_mem rm_nd_1 ?_
              refine q_aload_n dX8_readLine_93 rfl ?_
              refine q_dup rfl dX8_readLine_94 ?_
              refine q_get fX8_60 dX8_readLine_95 (by first | rfl | assumption) (by rfl) ?_
              refine q_tope (y := rm_tl D.2.2.1) hD.2.2.1 ?_
              refine q_iconst (x := 1) dX8_readLine_98 (by decide) ?_
              refine q_iload_n dX8_readLine_99 rfl ?_
              refine q_ishl dX8_readLine_100 ?_
              refine q_ior dX8_readLine_101 ?_
              refine q_put_i pX8_60 dX8_readLine_102 (by first | rfl | assumption) (by rfl) rfl rfl ?_
              have hfr2 : rm_fr σ0 (q_up σ 72 8 (rm_tl D.2.2.1 ||| (1 <<< (nI kk &&& 31)))) := hfr.uf (Or.inr rfl)
              have hD2 := rm_Dn.told hD hk6
              refine q_aload_n dX8_readLine_105 rfl ?_
              refine q_rVv lX8_118 vX8_next (ci := 8) rfl dX8_readLine_106 (kX8_next (hfr2.t ht0) hT.2.2.2.2 hT.1 hel.2) (by first | rfl | assumption) rfl rfl (Nat.le_of_ble_eq_true rfl) (by decide) (fun τ hq => ?_)
              have hZ1 : rm_Z σ0 c L (.inr ((D.1, D.2.1, sp_u D.2.2.1 (rm_cr kk) true, D.2.2.2), sp_e c L p)) τ := ⟨hfr2.tr hq.1.fr, fun _ => rm_Dn.f1 hD2 hq.1, hq.2, hel.2⟩
              refine q_aload_n dX8_readLine_109 rfl ?_
              refine q_get fX8_76 dX8_readLine_110 (by first | rfl | assumption) (by rfl) ?_
              refine q_zle 117 dX8_readLine_113 (by decide) (fun h113 => ?_) (fun h113 => ?_)
              · have h0 : τ 72 15 = 0 := by
                  cases hk2 : sp_ok c L (sp_e c L p) with
                  | true => exact (hq.2.1 hk2).2.2.2.2
                  | false =>
                    have := ((hq.2.2 hk2).pos (Nat.le_of_ble_eq_true rfl) (Nat.le_of_ble_eq_true rfl)).1
                    omega
                refine q_iload_n dX8_readLine_117 rfl ?_
                refine q_bipush (x := 7) dX8_readLine_118 (by decide) ?_
                refine q_icmp_ne 130 dX8_readLine_120 (by decide) (fun h120 => ?_) (fun h120 => ?_)
                · refine q_iload_n dX8_readLine_130 rfl ?_
                  refine q_bipush (x := 6) dX8_readLine_131 (by decide) ?_
                  refine q_icmp_ne 143 dX8_readLine_133 (by decide) (fun h133 => ?_) (fun h133 => ?_)
                  · refine q_aload_n dX8_readLine_143 rfl ?_
                    refine q_iload_n dX8_readLine_144 rfl ?_
                    refine q_rVv lX8_138 vX8_readRule (ci := 8) rfl dX8_readLine_145 (kX8_readRule ht0 hZ1 hk6 rfl) (by first | rfl | assumption) rfl rfl (Nat.le_of_ble_eq_true rfl) (by decide) (fun τ2 hq2 => ?_)
                    exact sgX8_rlT ht0 hq2
                  · exact absurd (congrArg Int32.toInt h133) (by omega)
                · exact absurd (congrArg Int32.toInt h120) (by omega)
              · have hbad : sp_ok c L (sp_e c L p) = false := by
                  cases hk2 : sp_ok c L (sp_e c L p) with
                  | false => rfl
                  | true =>
                    rw [(hq.2.1 hk2).2.2.2.2] at h113
                    exact absurd h113 (by decide)
                refine q_vret dX8_readLine_116 ?_ rfl rfl
                have e2 : rm_sp c L (rm_rl0 c L (D.1, D.2.1, sp_u D.2.2.1 (rm_cr kk) true, D.2.2.2) (rm_cr kk) (sp_e c L p)) = .inl (1, sp_s c L (sp_e c L p)) := by
                  unfold rm_rl0 rm_sp
                  rw [sp_num_no hbad]
                  rfl
                exact ⟨rfl, rfl, by show rm_Z σ0 c L _ _; rw [e2]; exact ⟨hZ1.1, hq.2.2 hbad, (Nat.le_of_ble_eq_true rfl), (Nat.le_of_ble_eq_true rfl)⟩⟩
      · exact absurd (congrArg Int32.toInt h38) (by omega)

theorem kX8_readLine {σ σ0 : q_M} {c : Nat → Int32} {L : Nat} (ht0 : rm_t σ0 c L) {D : sp_D} {p : Nat} (hZ : rm_Z σ0 c L (.inr (D, p)) σ) (h0 : σ 72 15 = 0) : q_Ct YX8_readLine [.ref 72] q_SH σ (q_rv q_SH (rm_Z σ0 c L (sp_ln c L D p))) := by
  obtain ⟨q, hX, hok, hT, hpL⟩ := hZ.q.f0 h0
  cases hX
  have eL : ∀ X, sp_ln c L D p = X → q_Ct YX8_readLine [.ref 72] q_SH σ (q_rv q_SH (rm_Z σ0 c L X)) → q_Ct YX8_readLine [.ref 72] q_SH σ (q_rv q_SH (rm_Z σ0 c L (sp_ln c L D p))) := fun X e h => by rw [e]; exact h
  by_cases hd1 : sp_d c L p = 1
  · rcases rm_nn_c c (sp_s c L p) (sp_e c L p) with ⟨h1, h2, h3, h4⟩ | ⟨h1, h2⟩ | ⟨h1, h2, h3⟩ | ⟨k, h1, h2, h3, h4, h5⟩
    · refine eL _ ?_ (kX8_readLineA ht0 hZ hT hok (fun _ => h1))
      rw [sp_ln, h2, h3, Bool.and_false, if_neg (by decide), if_neg (by decide), if_neg (fun z => z.2 h4)]
    · have e : sp_ln c L D p = sp_dv c L D (sp_s c L p) (sp_e c L p) := by rw [sp_ln, h2, decide_eq_true hd1]; exact if_pos rfl
      by_cases h6 : 6 ≤ D.2.2.2.1
      · refine eL _ ?_ (kX8_readLineB ht0 hZ hT hok hd1 h1 h6)
        rw [e, sp_dv, if_pos h6]
      · refine eL _ ?_ (kX8_readLineC ht0 hZ hT hok hd1 h1 (by omega))
        rw [e, rm_sp_dv (by omega)]
    · refine eL _ ?_ (kX8_readLineD ht0 hZ hT hok hd1 h1)
      rw [sp_ln, h2, h3, decide_eq_true hd1, Bool.and_false, if_neg (by decide), if_pos (by decide), rm_sp_hr]
    · have e : sp_ln c L D p = sp_rl c L D (rm_cr k) (sp_s c L p) (sp_e c L p) := by
        have h7 : ∀ k, k < 6 → ¬ rm_cr k = 7 := by decide
        rw [sp_ln, h4, h5, Bool.and_false, if_neg (by decide), if_neg (by decide), h3, if_pos ⟨hd1, h7 k h1⟩]
      cases ht : D.2.2.1 (rm_cr k) with
      | true =>
        refine eL _ ?_ (kX8_readLineE ht0 hZ hT hok hd1 h1 h2 ht)
        rw [e, sp_rl, if_pos ht]
      | false =>
        refine eL _ ?_ (kX8_readLineF ht0 hZ hT hok hd1 h1 h2 ht)
        rw [e, rm_sp_rl ht]
  · refine eL _ ?_ (kX8_readLineA ht0 hZ hT hok (fun z => absurd z hd1))
    rw [sp_ln, decide_eq_false hd1, Bool.false_and, Bool.false_and, if_neg (by decide), if_neg (by decide), if_neg (fun z => hd1 z.1)]
