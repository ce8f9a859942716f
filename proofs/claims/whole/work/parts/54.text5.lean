/-! the reader of the class: a diver's line, the whole text -/
section SPY
variable {σ0 σ τ : q_M} {c : Nat → Int32} {L n p q d : Nat} {D : sp_D} {f g : Nat → Int32}
theorem sp_X.rf (h : sp_X σ0 c L d f p σ) : sp_X σ c L d f p σ := ⟨⟨h.1.1, h.1.2.1, h.1.2.2.1, rfl, rfl, rfl⟩, h.2.1, fun _ _ _ => rfl⟩
theorem sp_X.cg (h : sp_X σ0 c L d f p σ) (e : ∀ j, j < 8 → f j = g j) : sp_X σ0 c L d g p σ := ⟨h.1, fun j hj => (h.2.1 j hj).trans (e j hj), h.2.2⟩
theorem sp_X.bg (h1 : σ 2 = c) (h2 : σ 1 4 = nI L) (h3 : σ 1 9 = nI p) (hd : 8 ≤ d) (x y : Int32) : sp_X σ c L d (sp_d0 x y) p (q_up (q_up (q_up (q_up (q_up (q_up (q_up (q_up σ d 0 x) d 1 y) d 2 0) d 3 0) d 7 0) d 4 0) d 5 0) d 6 0) := by
  have h0 : sp_X σ c L d (σ d) p σ := ⟨⟨h1, h2, h3, rfl, rfl, rfl⟩, fun _ _ => rfl, fun _ _ _ => rfl⟩
  refine ((((((((h0.put hd).put hd).put hd).put hd).put hd).put hd).put hd).put hd).cg ?_
  intro j hj
  rcases (show j = 0 ∨ j = 1 ∨ j = 2 ∨ j = 3 ∨ j = 4 ∨ j = 5 ∨ j = 6 ∨ j = 7 by omega) with rfl | rfl | rfl | rfl | rfl | rfl | rfl | rfl <;> rfl
/-- a diver's line begins: one more diver, his fields as they lie -/
theorem sp_R.one (h : sp_R σ0 c L D n p σ) (h6 : D.2.2.2.1 < 6) : sp_R σ0 c L (D.1, D.2.1, D.2.2.1, D.2.2.2.1 + 1, sp_u D.2.2.2.2 D.2.2.2.1 (σ (8 + D.2.2.2.1))) n p (q_up σ 1 5 (nI (D.2.2.2.1 + 1))) := by
  obtain ⟨⟨a1, a2, a3, a4, a5, a6⟩, b, d, e, f, g, i⟩ := h
  refine ⟨⟨a1, ?_, ?_, q_up_at _ _ _ _, ?_, ?_⟩, b, d, e, fun x hx w hw => ?_, h6, i.up rd_c1⟩
  · rw [q_up_f (by decide)]; exact a2
  · rw [q_up_f (by decide)]; exact a3
  · rw [q_up_f (by decide)]; exact a5
  · rw [q_up_f (by decide)]; exact a6
  · rw [q_up_g (by omega)]
    show _ = (if x = D.2.2.2.1 then σ (8 + D.2.2.2.1) else D.2.2.2.2 x) w
    have hx' : x < D.2.2.2.1 + 1 := hx
    by_cases hx2 : x = D.2.2.2.1
    · rw [if_pos hx2, hx2]
    · rw [if_neg hx2]
      exact f x (by omega) w hw
theorem sp_R.mv {m : Nat} {dv : Nat → Nat → Int32} (h : sp_R σ0 c L (D.1, D.2.1, D.2.2.1, m + 1, sp_u dv m g) n p σ) (hX : sp_X σ c L (8 + m) f q τ) : sp_R σ0 c L (D.1, D.2.1, D.2.2.1, m + 1, sp_u dv m f) n q τ := by
  obtain ⟨⟨a1, a2, a3, a4, a5, a6⟩, b, d, e, k, j, i⟩ := h
  obtain ⟨⟨x1, x2, x3, x4, x5, x6⟩, y, z⟩ := hX
  have j' : m + 1 ≤ 6 := j
  refine ⟨⟨x1, x2, x3, x4.trans a4, x5.trans a5, x6.trans a6⟩, ?_, ?_, ?_, fun x hx w hw => ?_, j, fun x hx => ?_⟩
  · rw [z 4 (by decide) (by omega)]; exact b
  · rw [z 5 (by decide) (by omega)]; exact d
  · rw [z 7 (by decide) (by omega)]; exact e
  · show _ = (if x = m then f else dv x) w
    by_cases hx2 : x = m
    · rw [if_pos hx2, hx2]
      exact y w hw
    · rw [if_neg hx2, z (8 + x) (by omega) (by omega)]
      have := k x hx w hw
      have e2 : (if x = m then g else dv x) w = dv x w := by rw [if_neg hx2]
      exact this.trans e2
  · rw [z x (fun e => hx (by rw [e]; exact rd_c1)) (fun e => hx (by rw [e]; exact rd_c8 (by omega)))]
    exact i x hx
end SPY

set_option maxHeartbeats 1000000 in
set_option maxRecDepth 100000 in
theorem kX2_takeDiver {σ : q_M} {σ0 : q_M} {c : Nat → Int32} {L n : Nat} {D : sp_D} (h320 : L ≤ 320) {s e : Nat} (hs : σ 1 11 = nI s) (heL : e ≤ L) (hR : sp_R σ0 c L D n e σ) : q_Ct YX2_takeDiver [.ref 1] q_SH σ (q_re (q_b (sp_g (sp_dv c L D s e))) q_SH (sp_PL σ0 c L n (sp_dv c L D s e))) := by
  refine q_ct (n := 2) (by decide) (by decide) rfl (fun _ => Nat.le_of_ble_eq_true rfl) (fun E => ?_)
  have hm6 := hR.2.2.2.2.2.1
  have hmt := nI_toInt (n := D.2.2.2.1) (by omega)
  have e6 : (6 : Int32).toInt = 6 := rfl
  refine q_aload_n dX2_takeDiver_0 rfl ?_
  refine q_get fX2_75 dX2_takeDiver_1 (by first | rfl | assumption) (by rfl) ?_
  refine q_tope (y := nI D.2.2.2.1) hR.1.2.2.2.1 ?_
  refine q_bipush (x := 6) dX2_takeDiver_4 (by decide) ?_
  refine q_clt 15 dX2_takeDiver_6 (by decide) (fun h6 => ?_) (fun h6 => ?_)
  · have h6 : D.2.2.2.1 < 6 := by omega
    have hdc : rd_c (8 + D.2.2.2.1) := rd_c8 h6
    have hd := q_SH_rd h6
    refine q_aload_n dX2_takeDiver_15 rfl ?_
    refine q_getr fX2_24 dX2_takeDiver_16 (by first | rfl | assumption) (by rfl) ?_
    refine q_aload_n dX2_takeDiver_19 rfl ?_
    refine q_get fX2_75 dX2_takeDiver_20 (by first | rfl | assumption) (by rfl) ?_
    refine q_tope (y := nI D.2.2.2.1) hR.1.2.2.2.1 ?_
    refine q_ald D.2.2.2.1 (by first | rfl | assumption) hmt h6 (q_ra_at h6) ⟨by decide, by decide⟩ dX2_takeDiver_23 ?_
    refine q_astore_n dX2_takeDiver_24 (by decide) rfl ?_
    refine q_aload_n dX2_takeDiver_25 rfl ?_
    refine q_dup rfl dX2_takeDiver_26 ?_
    refine q_get fX2_75 dX2_takeDiver_27 (by first | rfl | assumption) (by rfl) ?_
    refine q_tope (y := nI D.2.2.2.1) hR.1.2.2.2.1 ?_
    refine q_iconst (x := 1) dX2_takeDiver_30 (by decide) ?_
    refine q_iadd dX2_takeDiver_31 ?_
    refine q_tope (y := nI (D.2.2.2.1 + 1)) (nI_1 _) ?_
    refine q_put_i pX2_75 dX2_takeDiver_32 (by first | rfl | assumption) (by rfl) rfl rfl ?_
    have hR1 := hR.one h6
    refine q_aload_n dX2_takeDiver_35 rfl ?_
    refine q_iconst (x := 1) dX2_takeDiver_36 (by decide) ?_
    refine q_sipush (x := 999) dX2_takeDiver_37 (by decide) ?_
    refine q_rVi lX2_138 vX2_takeNumber (ci := 2) rfl dX2_takeDiver_40 (kc_num hR1.1.1 hR1.1.2.1 h320 hR1.1.2.2.1 heL) (by first | rfl | assumption) rfl rfl (Nat.le_of_ble_eq_true rfl) (by decide) (fun τ hq => ?_)
    refine q_bne 48 dX2_takeDiver_43 (by decide) (fun h43 => ?_) (fun h43 => ?_)
    · obtain ⟨y, hy⟩ := sp_gr h43
      unfold sp_P2 at hq
      rw [hy] at hq
      have hR2 : sp_R σ0 c L (D.1, D.2.1, D.2.2.1, D.2.2.2.1 + 1, sp_u D.2.2.2.2 D.2.2.2.1 (σ (8 + D.2.2.2.1))) n y.2 τ := by
        rw [hq]
        exact hR1.nm
      have h12 : τ 1 12 = y.1 := by rw [hq, q_up_at]
      have hyp := sp_num_p heL hy
      clear hq
      refine q_aload_n dX2_takeDiver_48 rfl ?_
      refine q_get fX2_103 dX2_takeDiver_49 (by first | rfl | assumption) (by rfl) ?_
      refine q_tope (y := y.1) h12 ?_
      refine q_istore_n dX2_takeDiver_52 (by decide) rfl ?_
      refine q_aload_n dX2_takeDiver_53 rfl ?_
      refine q_iconst (x := 0) dX2_takeDiver_54 (by decide) ?_
      refine q_sipush (x := 9999) dX2_takeDiver_55 (by decide) ?_
      refine q_rVi lX2_138 vX2_takeNumber (ci := 2) rfl dX2_takeDiver_58 (kc_num hR2.1.1 hR2.1.2.1 h320 hR2.1.2.2.1 hyp.2) (by first | rfl | assumption) rfl rfl (Nat.le_of_ble_eq_true rfl) (by decide) (fun τ2 hq2 => ?_)
      refine q_bne 66 dX2_takeDiver_61 (by decide) (fun h61 => ?_) (fun h61 => ?_)
      · obtain ⟨z, hz⟩ := sp_gr h61
        unfold sp_P2 at hq2
        rw [hz] at hq2
        have hR3 : sp_R σ0 c L (D.1, D.2.1, D.2.2.1, D.2.2.2.1 + 1, sp_u D.2.2.2.2 D.2.2.2.1 (σ (8 + D.2.2.2.1))) n z.2 τ2 := by
          rw [hq2]
          exact hR2.nm
        have h122 : τ2 1 12 = z.1 := by rw [hq2, q_up_at]
        have hzp := sp_num_p hyp.2 hz
        clear hq2
        have hX3 := sp_X.bg hR3.1.1 hR3.1.2.1 hR3.1.2.2.1 (d := 8 + D.2.2.2.1) (by omega) y.1 z.1
        have hR4 := hR3.mv hX3
        refine q_aload_n dX2_takeDiver_66 rfl ?_
        refine q_iload_n dX2_takeDiver_67 rfl ?_
        refine q_aload_n dX2_takeDiver_68 rfl ?_
        refine q_get fX2_103 dX2_takeDiver_69 (by first | rfl | assumption) (by rfl) ?_
        refine q_tope (y := z.1) h122 ?_
        refine q_cVv lX2_148 vX0_begin (ci := 0) rfl dX2_takeDiver_72 (kX0_begin hd) hd rfl rfl (Nat.le_of_ble_eq_true rfl) (by decide) ?_
        refine q_aload_n dX2_takeDiver_75 rfl ?_
        refine q_aload_n dX2_takeDiver_76 rfl ?_
        refine q_rVi lX2_151 vX2_takeWiths (ci := 2) rfl dX2_takeDiver_77 (kX2_takeWiths h320 (by omega) hdc hd hX3.rf hzp.2 rfl) (by first | rfl | assumption) rfl rfl (Nat.le_of_ble_eq_true rfl) (by decide) (fun τ4 hq4 => ?_)
        refine q_bret dX2_takeDiver_80 ?_ rfl rfl
        have hres : sp_dv c L D s e = sp_b (sp_w c L 4 false false (sp_d0 y.1 z.1) z.2) (fun w => .inr ((D.1, D.2.1, D.2.2.1, D.2.2.2.1 + 1, sp_u D.2.2.2.2 D.2.2.2.1 w.1), w.2)) := by
          rw [sp_dv, if_neg (by omega), hy]
          show sp_b (sp_num c L 0 9999 y.2) _ = _
          rw [hz]
          rfl
        rw [hres]
        unfold sp_PW at hq4
        cases hw : sp_w c L 4 false false (sp_d0 y.1 z.1) z.2 with
        | inl w =>
          rw [hw] at hq4
          exact ⟨rfl, rfl, hq4.tr hR4.fr⟩
        | inr w =>
          rw [hw] at hq4
          exact ⟨rfl, rfl, hR4.mv hq4⟩
      · refine q_iconst (x := 0) dX2_takeDiver_64 (by decide) ?_
        refine q_ret0 dX2_takeDiver_65 ?_ rfl rfl
        obtain ⟨w, hz⟩ := sp_gl h61
        unfold sp_P2 at hq2
        rw [hz] at hq2
        have hres : sp_dv c L D s e = .inl w := by
          rw [sp_dv, if_neg (by omega), hy]
          show sp_b (sp_num c L 0 9999 y.2) _ = _
          rw [hz]
          rfl
        exact ⟨by rw [hres]; rfl, rfl, by rw [hres]; exact hq2.tr hR2.fr⟩
    · refine q_iconst (x := 0) dX2_takeDiver_46 (by decide) ?_
      refine q_ret0 dX2_takeDiver_47 ?_ rfl rfl
      obtain ⟨w, hy⟩ := sp_gl h43
      unfold sp_P2 at hq
      rw [hy] at hq
      have hres : sp_dv c L D s e = .inl w := by rw [sp_dv, if_neg (by omega), hy]; rfl
      exact ⟨by rw [hres]; rfl, rfl, by rw [hres]; exact hq.tr hR1.fr⟩
  · refine q_aload_n dX2_takeDiver_9 rfl ?_
    refine q_iconst (x := 5) dX2_takeDiver_10 (by decide) ?_
    refine q_cVi lX2_70 vX2_fail (ci := 2) rfl dX2_takeDiver_11 kX2_fail (by first | rfl | assumption) rfl rfl (Nat.le_of_ble_eq_true rfl) (by decide) ?_
    refine q_bret dX2_takeDiver_14 ?_ rfl rfl
    have hres : sp_dv c L D s e = .inl (5, s) := if_pos (by omega)
    exact ⟨by rw [hres]; rfl, rfl, by rw [hres]; exact rd_F.of (f := 5) hR.fr hs⟩

def rd_b0 (σ : q_M) : q_M := q_up (q_up (q_up (q_up (q_up (q_fill (q_fill (q_fill σ 4 (q_tab 3) 7) 5 (fun _ => 0) 24) 7 (fun _ => 0) 7) 1 5 0) 1 6 0) 1 9 0) 1 7 0) 1 8 0

set_option maxHeartbeats 1000000 in
set_option maxRecDepth 100000 in
theorem lpX2_begin {E : q_E} {σ : q_M}  : ∀ (n : Nat) (i : Nat), 8 ≤ i + n → i ≤ 7 → q_G YX2_begin E 0 0 9 [some (.ref 1), some (.int (nI i))] [] q_SH (q_fill (q_fill (q_fill σ 4 (q_tab 3) 7) 5 (fun _ => 0) 24) 7 (fun _ => 0) i) (q_is none q_SH (rd_b0 σ)) := by
  intro n
  induction n with
  | zero =>
    intro i hm h0
    exact absurd hm (by omega)
  | succ n ih =>
    intro i hm h0
    have hit := nI_toInt (n := i) (by omega)
    have e7 : (7 : Int32).toInt = 7 := rfl
    refine q_iload_n dX2_begin_9 rfl ?_
    refine q_bipush (x := 7) dX2_begin_10 (by decide) ?_
    refine q_cge 28 dX2_begin_12 (by decide) (fun h12 => ?_) (fun h12 => ?_)
    · have e : i = 7 := by omega
      subst e
      refine q_aload_n dX2_begin_28 rfl ?_
      refine q_iconst (x := 0) dX2_begin_29 (by decide) ?_
      refine q_put_i pX2_75 dX2_begin_30 (by first | rfl | assumption) (by rfl) rfl rfl ?_
      refine q_aload_n dX2_begin_33 rfl ?_
      refine q_iconst (x := 0) dX2_begin_34 (by decide) ?_
      refine q_put_i pX2_67 dX2_begin_35 (by first | rfl | assumption) (by rfl) rfl rfl ?_
      refine q_aload_n dX2_begin_38 rfl ?_
      refine q_iconst (x := 0) dX2_begin_39 (by decide) ?_
      refine q_put_i pX2_78 dX2_begin_40 (by first | rfl | assumption) (by rfl) rfl rfl ?_
      refine q_aload_n dX2_begin_43 rfl ?_
      refine q_iconst (x := 0) dX2_begin_44 (by decide) ?_
      refine q_put_i pX2_81 dX2_begin_45 (by first | rfl | assumption) (by rfl) rfl rfl ?_
      refine q_aload_n dX2_begin_48 rfl ?_
      refine q_iconst (x := 0) dX2_begin_49 (by decide) ?_
      refine q_put_i pX2_84 dX2_begin_50 (by first | rfl | assumption) (by rfl) rfl rfl ?_
      refine q_vret dX2_begin_53 ?_ rfl rfl
      exact ⟨rfl, rfl, rfl⟩
    · refine q_aload_n dX2_begin_15 rfl ?_
      refine q_getr fX2_28 dX2_begin_16 (by first | rfl | assumption) (by rfl) ?_
      refine q_iload_n dX2_begin_19 rfl ?_
      refine q_iconst (x := 0) dX2_begin_20 (by decide) ?_
      refine q_zsto i (by first | rfl | assumption) hit (by omega) dX2_begin_21 ?_
      rw [show vp_nar .boolean 0 = 0 from rfl]
      refine q_mem (q_fill_s (q_fill (q_fill σ 4 (q_tab 3) 7) 5 (fun _ => 0) 24) 7 (fun _ => 0) i) ?_
      refine q_inc 1 dX2_begin_22 (by decide) rfl (by decide) rfl ?_
      refine q_goto 9 dX2_begin_25 (by decide) ?_
      rw [nI_1]
      exact ih (i + 1) (by omega) (by omega)

set_option maxHeartbeats 1000000 in
set_option maxRecDepth 100000 in
theorem kX2_begin {σ : q_M}  : q_Ct YX2_begin [.ref 1] q_SH σ (q_is none q_SH (rd_b0 σ)) := by
  refine q_ct (n := 1) (by decide) (by decide) rfl (fun _ => Nat.le_of_ble_eq_true rfl) (fun E => ?_)
  refine q_aload_n dX2_begin_0 rfl ?_
  refine q_getr fX2_18 dX2_begin_1 (by first | rfl | assumption) (by rfl) ?_
  refine q_cVv lX2_74 vX6_begin (ci := 6) rfl dX2_begin_4 (kX6_begin (w := 3) (r := 4) (q := 5) rfl rfl rfl) (by first | rfl | assumption) rfl rfl (Nat.le_of_ble_eq_true rfl) (by decide) ?_
  refine q_iconst (x := 0) dX2_begin_7 (by decide) ?_
  refine q_istore_n dX2_begin_8 (by decide) rfl ?_
  have z := lpX2_begin (E := E) (σ := σ) 8 0 (by omega) (by omega)
  rw [q_fill_0] at z
  exact z

def sp_D0 : sp_D := (q_tab 3, fun _ => 0, fun _ => false, 0, fun _ _ => 0)
theorem sp_R.b0 {σ : q_M} {L : Nat} (hL : σ 1 4 = nI L) : sp_R σ (σ 2) L sp_D0 0 0 (rd_b0 σ) := by
  refine ⟨⟨rfl, hL, rfl, rfl, rfl, rfl⟩, fun j hj => ?_, fun j hj => ?_, fun j hj => ?_, fun k hk => absurd hk (by show ¬ k < 0; omega), by decide, fun x hx => ?_⟩
  · show q_fill (q_fill (q_fill σ 4 (q_tab 3) 7) 5 (fun _ => 0) 24) 7 (fun _ => 0) 7 4 j = _
    rw [q_fill_ne (by decide), q_fill_ne (by decide), q_fill_lo hj]
    rfl
  · show q_fill (q_fill (q_fill σ 4 (q_tab 3) 7) 5 (fun _ => 0) 24) 7 (fun _ => 0) 7 5 j = _
    rw [q_fill_ne (by decide), q_fill_lo hj]
    rfl
  · show q_fill (q_fill (q_fill σ 4 (q_tab 3) 7) 5 (fun _ => 0) 24) 7 (fun _ => 0) 7 7 j = _
    rw [q_fill_lo hj]
    rfl
  · unfold rd_b0
    have n1 : x ≠ 1 := fun e => hx (e ▸ rd_c1)
    have n4 : x ≠ 4 := fun e => hx (e ▸ rd_c4)
    have n5 : x ≠ 5 := fun e => hx (e ▸ rd_c5)
    have n7 : x ≠ 7 := fun e => hx (e ▸ rd_c7)
    rw [q_up_ne n1, q_up_ne n1, q_up_ne n1, q_up_ne n1, q_up_ne n1, q_fill_ne n7, q_fill_ne n5, q_fill_ne n4]
theorem sp_R.ln {σ0 σ : q_M} {c : Nat → Int32} {L n p : Nat} {D : sp_D} (h : sp_R σ0 c L D n p σ) {m : Nat} : sp_R σ0 c L D m p (q_up σ 1 6 (nI m)) := by
  obtain ⟨⟨a1, a2, a3, a4, a5, a6⟩, b, d, e, f, g, i⟩ := h
  exact ⟨⟨a1, a2, a3, a4, q_up_at _ _ _ _, a6⟩, b, d, e, fun x hx w hw => by rw [q_up_g (by omega)]; exact f x hx w hw, g, i.up rd_c1⟩
/-! each line takes bytes -/
section SPP
variable {c : Nat → Int32} {L : Nat}
theorem sp_bi {β γ : Type} {x : sp_F ⊕ β} {f : β → sp_F ⊕ γ} {y : γ} (h : sp_b x f = .inr y) : ∃ z, x = .inr z ∧ f z = .inr y := by
  cases x with
  | inl a => cases h
  | inr z => exact ⟨z, rfl, h⟩
theorem sp_w_p : ∀ (n : Nat) (lk rt : Bool) (f : Nat → Int32) (p : Nat) (y : (Nat → Int32) × Nat), p ≤ L → sp_w c L n lk rt f p = .inr y → p < y.2 ∧ y.2 ≤ L
  | 0, _, _, _, _, _, _, h => by cases h
  | n + 1, lk, rt, f, p, y, hp, h => by
    have h1 := sp_s_ge (c := c) hp
    have h2 := sp_e_le (c := c) hp
    rw [sp_w] at h
    split at h
    · cases h
    split at h
    · rename_i h3
      cases h
      have h4 := sp_e_lt (c := c) hp (by omega)
      exact ⟨by show p < sp_e c L p; omega, h2.2⟩
    split at h
    · split at h
      · cases h
      · obtain ⟨z, hz, h⟩ := sp_bi h
        have h5 := sp_num_p h2.2 hz
        have h6 := sp_w_p n _ _ _ _ _ h5.2 h
        omega
    split at h
    · split at h
      · cases h
      · obtain ⟨z, hz, h⟩ := sp_bi h
        have h5 := sp_num_p h2.2 hz
        have h6 := sp_w_p n _ _ _ _ _ h5.2 h
        omega
    split at h
    · split at h
      · have h6 := sp_w_p n _ _ _ _ _ h2.2 h
        omega
      · cases h
    · cases h
theorem sp_rl_p {D : sp_D} {r s p : Nat} {y : sp_D × Nat} (hp : p ≤ L) (h : sp_rl c L D r s p = .inr y) : p < y.2 ∧ y.2 ≤ L := by
  rw [sp_rl] at h
  split at h
  · cases h
  · obtain ⟨z, hz, h⟩ := sp_bi h
    have h1 := sp_num_p hp hz
    split at h
    · obtain ⟨w, hw, h⟩ := sp_bi h
      have h2 := sp_num_p h1.2 hw
      obtain ⟨x, hx, h⟩ := sp_bi h
      have h3 := sp_st_p h2.2 hx
      cases h
      exact ⟨by show p < x; omega, h3.2⟩
    · obtain ⟨x, hx, h⟩ := sp_bi h
      have h3 := sp_st_p h1.2 hx
      cases h
      exact ⟨by show p < x; omega, h3.2⟩
theorem sp_hr_p {D : sp_D} {p : Nat} {y : sp_D × Nat} (hp : p ≤ L) (h : sp_hr c L D p = .inr y) : p < y.2 ∧ y.2 ≤ L := by
  rw [sp_hr] at h
  obtain ⟨z, hz, h⟩ := sp_bi h
  have h1 := sp_num_p hp hz
  split at h
  · cases h
  · obtain ⟨w, hw, h⟩ := sp_bi h
    have h2 := sp_num_p h1.2 hw
    obtain ⟨x, hx, h⟩ := sp_bi h
    have h3 := sp_st_p h2.2 hx
    cases h
    exact ⟨by show p < x; omega, h3.2⟩
theorem sp_dv_p {D : sp_D} {s p : Nat} {y : sp_D × Nat} (hp : p ≤ L) (h : sp_dv c L D s p = .inr y) : p < y.2 ∧ y.2 ≤ L := by
  rw [sp_dv] at h
  split at h
  · cases h
  · obtain ⟨z, hz, h⟩ := sp_bi h
    have h1 := sp_num_p hp hz
    obtain ⟨w, hw, h⟩ := sp_bi h
    have h2 := sp_num_p h1.2 hw
    obtain ⟨x, hx, h⟩ := sp_bi h
    have h3 := sp_w_p _ _ _ _ _ _ h2.2 hx
    cases h
    exact ⟨by show p < x.2; omega, h3.2⟩
theorem sp_ln_p {D : sp_D} {p : Nat} {y : sp_D × Nat} (hp : p ≤ L) (h : sp_ln c L D p = .inr y) : p < y.2 ∧ y.2 ≤ L := by
  have h1 := sp_s_ge (c := c) hp
  have h2 := sp_e_le (c := c) hp
  rw [sp_ln] at h
  split at h
  · have := sp_dv_p h2.2 h
    omega
  split at h
  · have := sp_hr_p h2.2 h
    omega
  split at h
  · have := sp_rl_p h2.2 h
    omega
  · cases h
end SPP
/-- what the reader holds behind a text that is taken -/
def sp_PT (σ0 : q_M) (c : Nat → Int32) (L : Nat) (res : sp_F ⊕ (sp_D × Nat)) (τ : q_M) : Prop := match res with
  | .inl w => rd_F σ0 τ w
  | .inr y => ∃ σ p, sp_R σ0 c L y.1 y.2 p σ ∧ τ = q_fill σ 5 (fun j => if σ 5 j = 0 then σ 4 2 else σ 5 j) 24

set_option maxHeartbeats 1000000 in
set_option maxRecDepth 100000 in
theorem sgX2_line {E : q_E} {σ : q_M} {σ0 : q_M} {c : Nat → Int32} {L t : Nat} {res : sp_F ⊕ (sp_D × Nat)} {ln : sp_F ⊕ (sp_D × Nat)} (hP : sp_PL σ0 c L t ln σ) {ol : Option Value} (hres : ∀ w, ln = .inl w → res = .inl w) (K : ∀ y τ, ln = .inr y → sp_R σ0 c L y.1 (t + 1) y.2 τ → q_G YX2_takeText E 0 0 91 [some (.ref 1), some (.int (nI t)), some (.int (q_b true))] [] q_SH τ (q_re (q_b (sp_g res)) q_SH (sp_PT σ0 c L res))) : q_G YX2_takeText E 0 0 74 [some (.ref 1), some (.int (nI t)), ol] [.int (q_b (sp_g ln))] q_SH σ (q_re (q_b (sp_g res)) q_SH (sp_PT σ0 c L res)) := by
  refine q_istore_n dX2_takeText_74 (by decide) rfl ?_
  refine q_iload_n dX2_takeText_75 rfl ?_
  refine q_bne 81 dX2_takeText_76 (by decide) (fun h76 => ?_) (fun h76 => ?_)
  · obtain ⟨y, hy⟩ := sp_gr h76
    rw [hy] at hP
    have hR : sp_R σ0 c L y.1 t y.2 σ := hP
    rw [h76]
    refine q_aload_n dX2_takeText_81 rfl ?_
    refine q_dup rfl dX2_takeText_82 ?_
    refine q_get fX2_67 dX2_takeText_83 (by first | rfl | assumption) (by rfl) ?_
    refine q_tope (y := nI t) hR.1.2.2.2.2.1 ?_
    refine q_iconst (x := 1) dX2_takeText_86 (by decide) ?_
    refine q_iadd dX2_takeText_87 ?_
    refine q_tope (y := nI (t + 1)) (nI_1 _) ?_
    refine q_put_i pX2_67 dX2_takeText_88 (by first | rfl | assumption) (by rfl) rfl rfl ?_
    exact K y _ hy hR.ln
  · obtain ⟨w, hy⟩ := sp_gl h76
    rw [hy] at hP
    have hr := hres w hy
    refine q_iconst (x := 0) dX2_takeText_79 (by decide) ?_
    refine q_ret0 dX2_takeText_80 ?_ rfl rfl
    exact ⟨by rw [hr]; rfl, rfl, by rw [hr]; exact hP⟩

set_option maxHeartbeats 1000000 in
set_option maxRecDepth 100000 in
theorem lpX2_text {E : q_E} {σ0 : q_M} {c : Nat → Int32} {L : Nat} (h320 : L ≤ 320) {res : sp_F ⊕ (sp_D × Nat)} : ∀ (n : Nat) (m t : Nat) (D : sp_D) (p : Nat) (σ : q_M) (ol : Option Value), m + 1 ≤ n → sp_R σ0 c L D t p σ → p ≤ L → t ≤ p → L + 1 ≤ p + m → sp_tx c L m D t p = res → q_G YX2_takeText E 0 0 6 [some (.ref 1), some (.int (nI t)), ol] [] q_SH σ (q_re (q_b (sp_g res)) q_SH (sp_PT σ0 c L res)) := by
  intro n
  induction n with
  | zero =>
    intro m t D p σ ol hm hR hpL htp hmp hres
    exact absurd hm (by omega)
  | succ n ih =>
    intro m t D p σ ol hm hR hpL htp hmp hres
    obtain ⟨m, rfl⟩ : ∃ m0, m = m0 + 1 := ⟨m - 1, by omega⟩
    have htt := nI_toInt (n := t) (by omega)
    have e3 : (320 : Int32).toInt = 320 := rfl
    have hsg := sp_s_ge (c := c) hpL
    have hel := sp_e_le (c := c) hpL
    have hdl := sp_d_le c L p
    refine q_iload_n dX2_takeText_6 rfl ?_
    refine q_sipush (x := 320) dX2_takeText_7 (by decide) ?_
    refine q_cgt 97 dX2_takeText_10 (by decide) (fun h10 => ?_) (fun h10 => ?_)
    · exact absurd h10 (by omega)
    · refine q_aload_n dX2_takeText_13 rfl ?_
      refine q_rVi lX2_40 vX2_nextToken (ci := 2) rfl dX2_takeText_14 (kc_nt hR.1.1 hR.1.2.1 h320 hR.1.2.2.1 hpL) (by first | rfl | assumption) rfl rfl (Nat.le_of_ble_eq_true rfl) (by decide) (fun τ hq => ?_)
      refine q_bne 22 dX2_takeText_17 (by decide) (fun h17 => ?_) (fun h17 => ?_)
      · have hτ := hq.1 h17
        subst hτ
        have hR1 := hR.tk (s := sp_s c L p) (k := sp_d c L p) (e := sp_e c L p)
        refine q_aload_n dX2_takeText_22 rfl ?_
        refine q_get fX2_44 dX2_takeText_23 (by first | rfl | assumption) (by rfl) ?_
        refine q_tope (y := nI (sp_d c L p)) rfl ?_
        refine q_if_ne 38 dX2_takeText_26 (by decide) (fun h26 => ?_) (fun h26 => ?_)
        · have h0d : ¬ sp_d c L p = 0 := sp_ne (b := 0) h26
          refine q_aload_n dX2_takeText_38 rfl ?_
          refine q_ldcS 0 (by decide) rfl dX2_takeText_39 ?_
          refine q_cVi lX2_52 vX2_isName (ci := 2) rfl dX2_takeText_41 (kc_name hR1.1.1 (k := sp_d c L p) rfl (sp_d_le c L p) (s := sp_s c L p) rfl (e := sp_e c L p) rfl hel.1 (by omega) (j := 0) (by decide)) (by first | rfl | assumption) rfl rfl (Nat.le_of_ble_eq_true rfl) (by decide) ?_
          refine q_beq 54 dX2_takeText_44 (by decide) (fun h44 => ?_) (fun h44 => ?_)
          · refine q_aload_n dX2_takeText_54 rfl ?_
            refine q_ldcS 4 (by decide) rfl dX2_takeText_55 ?_
            refine q_cVi lX2_52 vX2_isName (ci := 2) rfl dX2_takeText_57 (kc_name hR1.1.1 (k := sp_d c L p) rfl (sp_d_le c L p) (s := sp_s c L p) rfl (e := sp_e c L p) rfl hel.1 (by omega) (j := 4) (by decide)) (by first | rfl | assumption) rfl rfl (Nat.le_of_ble_eq_true rfl) (by decide) ?_
            refine q_beq 70 dX2_takeText_60 (by decide) (fun h60 => ?_) (fun h60 => ?_)
            · by_cases hrl : sp_d c L p = 1 ∧ ¬ sp_rn c (sp_s c L p) (sp_e c L p) = 7
              · have hln : sp_ln c L D p = sp_rl c L D (sp_rn c (sp_s c L p) (sp_e c L p)) (sp_s c L p) (sp_e c L p) := by rw [sp_ln, if_neg (sp_nb h44), if_neg (sp_nb h60), if_pos hrl]
                have hrn := sp_rn_le c (sp_s c L p) (sp_e c L p)
                refine q_aload_n dX2_takeText_70 rfl ?_
                refine q_rVi lX2_64 vX2_takeRuleLine (ci := 2) rfl dX2_takeText_71 (kX2_takeRuleLine h320 (k := sp_d c L p) rfl (sp_d_le c L p) (s := sp_s c L p) rfl hel.1 hel.2 hR1 hrl.1 rfl (by omega) hrn.2) (by first | rfl | assumption) rfl rfl (Nat.le_of_ble_eq_true rfl) (by decide) (fun τ2 hq2 => ?_)
                rw [sp_tx, if_neg (sp_nt h17), if_neg h0d, hln] at hres
                exact sgX2_line hq2 (fun w hw => by rw [hw] at hres; exact hres.symm) (fun y τ3 hy hR3 => by
                  rw [hy] at hres
                  have hyp := sp_ln_p hpL (hln.trans hy)
                  refine q_inc 1 dX2_takeText_91 (by decide) rfl (by decide) rfl ?_
                  refine q_goto 6 dX2_takeText_94 (by decide) ?_
                  rw [nI_1]
                  exact ih m (t + 1) y.1 y.2 τ3 _ (by omega) hR3 hyp.2 (by omega) (by omega) hres)
              · have hln : sp_ln c L D p = .inl (2, sp_s c L p) := by rw [sp_ln, if_neg (sp_nb h44), if_neg (sp_nb h60), if_neg hrl]
                refine q_aload_n dX2_takeText_70 rfl ?_
                refine q_rVi lX2_64 vX2_takeRuleLine (ci := 2) rfl dX2_takeText_71 (kX2_takeRuleLineB h320 (k := sp_d c L p) rfl (sp_d_le c L p) (s := sp_s c L p) rfl hel.1 hel.2 hR1 (by omega)) (by first | rfl | assumption) rfl rfl (Nat.le_of_ble_eq_true rfl) (by decide) (fun τ2 hq2 => ?_)
                rw [sp_tx, if_neg (sp_nt h17), if_neg h0d, hln] at hres
                exact sgX2_line (ln := .inl (2, sp_s c L p)) hq2 (fun w hw => by rw [hw] at hres; exact hres.symm) (fun y τ3 hy hR3 => by
                  rw [hy] at hres
                  have hyp := sp_ln_p hpL (hln.trans hy)
                  refine q_inc 1 dX2_takeText_91 (by decide) rfl (by decide) rfl ?_
                  refine q_goto 6 dX2_takeText_94 (by decide) ?_
                  rw [nI_1]
                  exact ih m (t + 1) y.1 y.2 τ3 _ (by omega) hR3 hyp.2 (by omega) (by omega) hres)
            · have hln : sp_ln c L D p = sp_hr c L D (sp_e c L p) := by rw [sp_ln, if_neg (sp_nb h44), if_pos h60]
              refine q_aload_n dX2_takeText_63 rfl ?_
              refine q_rVi lX2_61 vX2_takeHour (ci := 2) rfl dX2_takeText_64 (kX2_takeHour h320 hel.2 hR1) (by first | rfl | assumption) rfl rfl (Nat.le_of_ble_eq_true rfl) (by decide) (fun τ2 hq2 => ?_)
              refine q_goto 74 dX2_takeText_67 (by decide) ?_
              rw [sp_tx, if_neg (sp_nt h17), if_neg h0d, hln] at hres
              exact sgX2_line hq2 (fun w hw => by rw [hw] at hres; exact hres.symm) (fun y τ3 hy hR3 => by
                rw [hy] at hres
                have hyp := sp_ln_p hpL (hln.trans hy)
                refine q_inc 1 dX2_takeText_91 (by decide) rfl (by decide) rfl ?_
                refine q_goto 6 dX2_takeText_94 (by decide) ?_
                rw [nI_1]
                exact ih m (t + 1) y.1 y.2 τ3 _ (by omega) hR3 hyp.2 (by omega) (by omega) hres)
          · have hln : sp_ln c L D p = sp_dv c L D (sp_s c L p) (sp_e c L p) := if_pos h44
            refine q_aload_n dX2_takeText_47 rfl ?_
            refine q_rVi lX2_56 vX2_takeDiver (ci := 2) rfl dX2_takeText_48 (kX2_takeDiver h320 (s := sp_s c L p) rfl hel.2 hR1) (by first | rfl | assumption) rfl rfl (Nat.le_of_ble_eq_true rfl) (by decide) (fun τ2 hq2 => ?_)
            refine q_goto 74 dX2_takeText_51 (by decide) ?_
            rw [sp_tx, if_neg (sp_nt h17), if_neg h0d, hln] at hres
            exact sgX2_line hq2 (fun w hw => by rw [hw] at hres; exact hres.symm) (fun y τ3 hy hR3 => by
              rw [hy] at hres
              have hyp := sp_ln_p hpL (hln.trans hy)
              refine q_inc 1 dX2_takeText_91 (by decide) rfl (by decide) rfl ?_
              refine q_goto 6 dX2_takeText_94 (by decide) ?_
              rw [nI_1]
              exact ih m (t + 1) y.1 y.2 τ3 _ (by omega) hR3 hyp.2 (by omega) (by omega) hres)
        · have h0d : sp_d c L p = 0 := sp_eq (b := 0) (by omega) (by decide) h26
          refine q_aload_n dX2_takeText_29 rfl ?_
          refine q_getr fX2_18 dX2_takeText_30 (by first | rfl | assumption) (by rfl) ?_
          refine q_cVv lX2_47 vX6_fillWarmths (ci := 6) rfl dX2_takeText_33 (kX6_fillWarmths (w := 3) (r := 4) (q := 5) rfl rfl rfl (by decide)) (by first | rfl | assumption) rfl rfl (Nat.le_of_ble_eq_true rfl) (by decide) ?_
          refine q_iconst (x := 1) dX2_takeText_36 (by decide) ?_
          refine q_ret1 dX2_takeText_37 ?_ rfl rfl
          rw [sp_tx, if_neg (sp_nt h17), if_pos h0d] at hres
          subst hres
          exact ⟨rfl, rfl, _, _, hR1, rfl⟩
      · refine q_iconst (x := 0) dX2_takeText_20 (by decide) ?_
        refine q_ret0 dX2_takeText_21 ?_ rfl rfl
        rw [sp_tx, if_pos h17] at hres
        subst hres
        exact ⟨rfl, rfl, (hq.2 h17).tr hR.fr⟩

set_option maxHeartbeats 1000000 in
set_option maxRecDepth 100000 in
theorem kX2_takeText {σ : q_M} {L : Nat} (hL : σ 1 4 = nI L) (h320 : L ≤ 320) : q_Ct YX2_takeText [.ref 1] q_SH σ (q_re (q_b (sp_g (sp_tx (σ 2) L 321 sp_D0 0 0))) q_SH (sp_PT σ (σ 2) L (sp_tx (σ 2) L 321 sp_D0 0 0))) := by
  refine q_ct (n := 2) (by decide) (by decide) rfl (fun _ => Nat.le_of_ble_eq_true rfl) (fun E => ?_)
  refine q_aload_n dX2_takeText_0 rfl ?_
  refine q_cVv lX2_37 vX2_begin (ci := 2) rfl dX2_takeText_1 kX2_begin (by first | rfl | assumption) rfl rfl (Nat.le_of_ble_eq_true rfl) (by decide) ?_
  refine q_iconst (x := 0) dX2_takeText_4 (by decide) ?_
  refine q_istore_n dX2_takeText_5 (by decide) rfl ?_
  exact lpX2_text h320 322 321 0 sp_D0 0 _ _ (by omega) (sp_R.b0 hL) (by omega) (by omega) (by omega) rfl
