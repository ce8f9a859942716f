/-! the reader of the class: lines -/
theorem kc_nt {σ : q_M} {c : Nat → Int32} (hc : σ 2 = c) {L : Nat} (hL : σ 1 4 = nI L) (h320 : L ≤ 320) {p : Nat} (hp : σ 1 9 = nI p) (hpL : p ≤ L) : q_Ct YX2_nextToken [.ref 1] q_SH σ (q_re (q_b (sp_ok c L p)) q_SH (sp_P1 σ c L p)) := by
  subst hc
  exact kX2_nextToken hL h320 hp hpL
theorem kc_num {σ : q_M} {c : Nat → Int32} (hc : σ 2 = c) {L : Nat} (hL : σ 1 4 = nI L) (h320 : L ≤ 320) {p : Nat} (hp : σ 1 9 = nI p) (hpL : p ≤ L) {lo hi : Int32} : q_Ct YX2_takeNumber [.ref 1, .int lo, .int hi] q_SH σ (q_re (q_b (sp_g (sp_num c L lo hi p))) q_SH (sp_P2 σ c L lo hi p)) := by
  subst hc
  exact kX2_takeNumber hL h320 hp hpL
theorem kc_st {σ : q_M} {c : Nat → Int32} (hc : σ 2 = c) {L : Nat} (hL : σ 1 4 = nI L) (h320 : L ≤ 320) {p : Nat} (hp : σ 1 9 = nI p) (hpL : p ≤ L) : q_Ct YX2_takeStop [.ref 1] q_SH σ (q_re (q_b (sp_g (sp_st c L p))) q_SH (sp_P3 σ c L p)) := by
  subst hc
  exact kX2_takeStop hL h320 hp hpL
theorem kc_rule {σ : q_M} {c : Nat → Int32} (hc : σ 2 = c) {L : Nat} (hL : σ 1 4 = nI L) (h320 : L ≤ 320) {p : Nat} (hp : σ 1 9 = nI p) (hpL : p ≤ L) {r : Nat} (hr : r < 7) : q_Ct YX2_takeRule [.ref 1, .int (nI r)] q_SH σ (q_re (q_b (sp_g (sp_num c L (q_tab 1 r) (q_tab 2 r) p))) q_SH (sp_P4 σ c L r p)) := by
  subst hc
  exact kX2_takeRule hL h320 hp hpL hr
theorem kc_name {σ : q_M} {c : Nat → Int32} (hc : σ 2 = c) {k s e : Nat} (hk : σ 1 10 = nI k) (hk5 : k ≤ 5) (hs : σ 1 11 = nI s) (he : σ 1 9 = nI e) (hse : s ≤ e) (h320 : e ≤ 320) {j : Nat} (hj : j < 11) : q_Ct YX2_isName [.ref 1, .ref (1000000 + (100 + j))] q_SH σ (q_is (some (q_b (decide (k = 1) && sp_nm c s e j))) q_SH σ) := by
  subst hc
  exact kX2_isName hk hk5 hs he hse h320 hj
theorem kc_ri {σ : q_M} {c : Nat → Int32} (hc : σ 2 = c) {k s e : Nat} (hk : σ 1 10 = nI k) (hk5 : k ≤ 5) (hs : σ 1 11 = nI s) (he : σ 1 9 = nI e) (hse : s ≤ e) (h320 : e ≤ 320) : q_Ct YX2_ruleNamed [.ref 1] q_SH σ (q_is (some (sp_ri k c s e)) q_SH σ) := by
  subst hc
  exact kX2_ruleNamed hk hk5 hs he hse h320
/-- the reader's cells hold a draft, read up to p -/
def sp_R (σ0 : q_M) (c : Nat → Int32) (L : Nat) (D : sp_D) (n p : Nat) (σ : q_M) : Prop :=
  (σ 2 = c ∧ σ 1 4 = nI L ∧ σ 1 9 = nI p ∧ σ 1 5 = nI D.2.2.2.1 ∧ σ 1 6 = nI n ∧ σ 1 7 = 0) ∧ (∀ j, j < 7 → σ 4 j = D.1 j) ∧ (∀ j, j < 24 → σ 5 j = D.2.1 j) ∧ (∀ j, j < 7 → σ 7 j = q_b (D.2.2.1 j)) ∧ (∀ k, k < D.2.2.2.1 → ∀ w, w < 8 → σ (8 + k) w = D.2.2.2.2 k w) ∧ D.2.2.2.1 ≤ 6 ∧ rd_fr σ0 σ
def sp_PL (σ0 : q_M) (c : Nat → Int32) (L n : Nat) (res : sp_F ⊕ (sp_D × Nat)) (τ : q_M) : Prop := match res with
  | .inl w => rd_F σ0 τ w
  | .inr y => sp_R σ0 c L y.1 n y.2 τ
section SPR
variable {σ0 σ τ : q_M} {c : Nat → Int32} {L n p : Nat} {D : sp_D}
theorem sp_R.up (h : sp_R σ0 c L D n p σ) {k : Nat} {v : Int32} (hk : 10 ≤ k) : sp_R σ0 c L D n p (q_up σ 1 k v) := by
  obtain ⟨⟨a1, a2, a3, a4, a5, a6⟩, b, d, e, f, g, i⟩ := h
  refine ⟨⟨a1, ?_, ?_, ?_, ?_, ?_⟩, b, d, e, fun x hx w hw => ?_, g, i.up rd_c1⟩
  · rw [q_up_f (by omega)]; exact a2
  · rw [q_up_f (by omega)]; exact a3
  · rw [q_up_f (by omega)]; exact a4
  · rw [q_up_f (by omega)]; exact a5
  · rw [q_up_f (by omega)]; exact a6
  · rw [q_up_g (by omega)]; exact f x hx w hw
theorem sp_R.at (h : sp_R σ0 c L D n p σ) {q : Nat} : sp_R σ0 c L D n q (q_up σ 1 9 (nI q)) := by
  obtain ⟨⟨a1, a2, a3, a4, a5, a6⟩, b, d, e, f, g, i⟩ := h
  exact ⟨⟨a1, a2, q_up_at _ _ _ _, a4, a5, a6⟩, b, d, e, fun x hx w hw => by rw [q_up_g (by omega)]; exact f x hx w hw, g, i.up rd_c1⟩
theorem sp_R.tk (h : sp_R σ0 c L D n p σ) {s k e : Nat} : sp_R σ0 c L D n e (rd_t σ s k e) := ((h.at.up (by decide)).up (by decide)).at
theorem sp_R.nm (h : sp_R σ0 c L D n p σ) {s k e : Nat} {v : Int32} : sp_R σ0 c L D n e (q_up (rd_t σ s k e) 1 12 v) := h.tk.up (by decide)
theorem sp_R.told (h : sp_R σ0 c L D n p σ) {r : Nat} : sp_R σ0 c L (D.1, D.2.1, sp_u D.2.2.1 r true, D.2.2.2.1, D.2.2.2.2) n p (q_up σ 7 r 1) := by
  obtain ⟨a, b, d, e, f, g, i⟩ := h
  refine ⟨a, b, d, fun j hj => ?_, fun x hx w hw => ?_, g, i.up rd_c7⟩
  · show _ = q_b (if j = r then true else D.2.2.1 j)
    by_cases hjr : j = r
    · rw [hjr, q_up_at, if_pos rfl]; rfl
    · rw [q_up_f hjr, if_neg hjr]; exact e j hj
  · rw [q_up_g (by omega)]; exact f x hx w hw
theorem sp_R.rule (h : sp_R σ0 c L D n p σ) {r : Nat} {v : Int32} : sp_R σ0 c L (sp_u D.1 r v, D.2.1, D.2.2.1, D.2.2.2.1, D.2.2.2.2) n p (q_up σ 4 r v) := by
  obtain ⟨a, b, d, e, f, g, i⟩ := h
  refine ⟨a, fun j hj => ?_, d, e, fun x hx w hw => ?_, g, i.up rd_c4⟩
  · show _ = if j = r then v else D.1 j
    by_cases hjr : j = r
    · rw [hjr, q_up_at, if_pos rfl]
    · rw [q_up_f hjr, if_neg hjr]; exact b j hj
  · rw [q_up_g (by omega)]; exact f x hx w hw
theorem sp_R.hour (h : sp_R σ0 c L D n p σ) {r : Nat} {v : Int32} : sp_R σ0 c L (D.1, sp_u D.2.1 r v, D.2.2.1, D.2.2.2.1, D.2.2.2.2) n p (q_up σ 5 r v) := by
  obtain ⟨a, b, d, e, f, g, i⟩ := h
  refine ⟨a, b, fun j hj => ?_, e, fun x hx w hw => ?_, g, i.up rd_c5⟩
  · show _ = if j = r then v else D.2.1 j
    by_cases hjr : j = r
    · rw [hjr, q_up_at, if_pos rfl]
    · rw [q_up_f hjr, if_neg hjr]; exact d j hj
  · rw [q_up_g (by omega)]; exact f x hx w hw
theorem sp_R.fr (h : sp_R σ0 c L D n p σ) : rd_fr σ0 σ := h.2.2.2.2.2.2
theorem rd_F.tr {w : sp_F} (g : rd_F σ τ w) (h : rd_fr σ0 σ) : rd_F σ0 τ w := ⟨h.tr g.1, g.2⟩
theorem sp_fin {D' : sp_D} (hR : sp_R σ0 c L D' n p σ) (hq : sp_P3 σ c L p τ) : sp_g (sp_st c L p) = sp_g (sp_b (sp_st c L p) fun q => .inr (D', q)) ∧ sp_PL σ0 c L n (sp_b (sp_st c L p) fun q => .inr (D', q)) τ := by
  unfold sp_P3 at hq
  cases hs : sp_st c L p with
  | inl w =>
    rw [hs] at hq
    exact ⟨rfl, hq.tr hR.fr⟩
  | inr y =>
    rw [hs] at hq
    subst hq
    exact ⟨rfl, hR.tk⟩
end SPR

set_option maxHeartbeats 1000000 in
set_option maxRecDepth 100000 in
theorem kX2_takeRuleLineB {σ : q_M} {σ0 : q_M} {c : Nat → Int32} {L n : Nat} {D : sp_D} (h320 : L ≤ 320) {k s e : Nat} (hk : σ 1 10 = nI k) (hk5 : k ≤ 5) (hs : σ 1 11 = nI s) (hse : s ≤ e) (heL : e ≤ L) (hR : sp_R σ0 c L D n e σ) (hbad : ¬ k = 1 ∨ sp_rn c s e = 7) : q_Ct YX2_takeRuleLine [.ref 1] q_SH σ (q_re (q_b false) q_SH (fun τ => rd_F σ0 τ (2, s))) := by
  refine q_ct (n := 1) (by decide) (by decide) rfl (fun _ => Nat.le_of_ble_eq_true rfl) (fun E => ?_)
  have hri : sp_ri k c s e = -4 := by
    by_cases h1 : k = 1
    · subst h1
      rw [sp_ri_1]
      rcases hbad with hb | hb
      · exact absurd rfl hb
      · rw [if_pos hb]
    · exact sp_ri_n h1 c s e
  refine q_aload_n dX2_takeRuleLine_0 rfl ?_
  refine q_cVi lX2_110 vX2_ruleNamed (ci := 2) rfl dX2_takeRuleLine_1 (kc_ri hR.1.1 hk hk5 hs hR.1.2.2.1 hse (by omega)) (by first | rfl | assumption) rfl rfl (Nat.le_of_ble_eq_true rfl) (by decide) ?_
  refine q_tope (y := -4) hri ?_
  refine q_istore_n dX2_takeRuleLine_4 (by decide) rfl ?_
  refine q_iload_n dX2_takeRuleLine_5 rfl ?_
  refine q_bipush (x := (-4)) dX2_takeRuleLine_6 (by decide) ?_
  refine q_icmp_ne 17 dX2_takeRuleLine_8 (by decide) (fun h8 => ?_) (fun h8 => ?_)
  · exact absurd rfl h8
  · refine q_aload_n dX2_takeRuleLine_11 rfl ?_
    refine q_iconst (x := 2) dX2_takeRuleLine_12 (by decide) ?_
    refine q_cVi lX2_70 vX2_fail (ci := 2) rfl dX2_takeRuleLine_13 kX2_fail (by first | rfl | assumption) rfl rfl (Nat.le_of_ble_eq_true rfl) (by decide) ?_
    refine q_bret dX2_takeRuleLine_16 ?_ rfl rfl
    exact ⟨rfl, rfl, rd_F.of (f := 2) hR.fr hs⟩

set_option maxHeartbeats 1000000 in
set_option maxRecDepth 100000 in
theorem kX2_takeRuleLine {σ : q_M} {σ0 : q_M} {c : Nat → Int32} {L n : Nat} {D : sp_D} (h320 : L ≤ 320) {k s e : Nat} (hk : σ 1 10 = nI k) (hk5 : k ≤ 5) (hs : σ 1 11 = nI s) (hse : s ≤ e) (heL : e ≤ L) (hR : sp_R σ0 c L D n e σ) (hk1 : k = 1) {r : Nat} (hrn : sp_rn c s e = r) (hr7 : r < 7) (hr5 : ¬ r = 5) : q_Ct YX2_takeRuleLine [.ref 1] q_SH σ (q_re (q_b (sp_g (sp_rl c L D r s e))) q_SH (sp_PL σ0 c L n (sp_rl c L D r s e))) := by
  refine q_ct (n := 1) (by decide) (by decide) rfl (fun _ => Nat.le_of_ble_eq_true rfl) (fun E => ?_)
  have hrt := nI_toInt (n := r) (by omega)
  refine q_aload_n dX2_takeRuleLine_0 rfl ?_
  refine q_cVi lX2_110 vX2_ruleNamed (ci := 2) rfl dX2_takeRuleLine_1 (kc_ri hR.1.1 hk hk5 hs hR.1.2.2.1 hse (by omega)) (by first | rfl | assumption) rfl rfl (Nat.le_of_ble_eq_true rfl) (by decide) ?_
  refine q_tope (y := nI r) (by rw [hk1, sp_ri_1, hrn, if_neg (by omega)]) ?_
  refine q_istore_n dX2_takeRuleLine_4 (by decide) rfl ?_
  refine q_iload_n dX2_takeRuleLine_5 rfl ?_
  refine q_bipush (x := (-4)) dX2_takeRuleLine_6 (by decide) ?_
  refine q_icmp_ne 17 dX2_takeRuleLine_8 (by decide) (fun h8 => ?_) (fun h8 => ?_)
  · refine q_aload_n dX2_takeRuleLine_17 rfl ?_
    refine q_getr fX2_28 dX2_takeRuleLine_18 (by first | rfl | assumption) (by rfl) ?_
    refine q_iload_n dX2_takeRuleLine_21 rfl ?_
    refine q_zld r (by first | rfl | assumption) hrt hr7 dX2_takeRuleLine_22 ?_
    refine q_tope (y := q_b (D.2.2.1 r)) (hR.2.2.2.1 r hr7) ?_
    refine q_beq 32 dX2_takeRuleLine_23 (by decide) (fun h23 => ?_) (fun h23 => ?_)
    · refine q_aload_n dX2_takeRuleLine_32 rfl ?_
      refine q_getr fX2_28 dX2_takeRuleLine_33 (by first | rfl | assumption) (by rfl) ?_
      refine q_iload_n dX2_takeRuleLine_36 rfl ?_
      refine q_iconst (x := 1) dX2_takeRuleLine_37 (by decide) ?_
      
      refine q_zsto r (by first | rfl | assumption) hrt hr7 dX2_takeRuleLine_38 ?_
      refine q_mem (τ := q_up σ 7 r 1) rfl ?_
      have hR1 := hR.told (r := r)
      refine q_aload_n dX2_takeRuleLine_39 rfl ?_
      refine q_iload_n dX2_takeRuleLine_40 rfl ?_
      refine q_rVi lX2_113 vX2_takeRule (ci := 2) rfl dX2_takeRuleLine_41 (kc_rule hR1.1.1 hR1.1.2.1 h320 hR1.1.2.2.1 heL hr7) (by first | rfl | assumption) rfl rfl (Nat.le_of_ble_eq_true rfl) (by decide) (fun τ hq => ?_)
      refine q_bne 49 dX2_takeRuleLine_44 (by decide) (fun h44 => ?_) (fun h44 => ?_)
      · obtain ⟨y, hy⟩ := sp_gr h44
        unfold sp_P4 at hq
        rw [hy] at hq
        have hR2 : sp_R σ0 c L (sp_u D.1 r y.1, D.2.1, sp_u D.2.2.1 r true, D.2.2.2.1, D.2.2.2.2) n y.2 τ := by
          rw [hq]
          exact hR1.nm.rule
        have hyp := sp_num_p heL hy
        clear hq
        refine q_iload_n dX2_takeRuleLine_49 rfl ?_
        refine q_iconst (x := 4) dX2_takeRuleLine_50 (by decide) ?_
        refine q_icmp_ne 64 dX2_takeRuleLine_51 (by decide) (fun h51 => ?_) (fun h51 => ?_)
        · have hr4 : ¬ r = 4 := sp_ne (b := 4) h51
          refine q_aload_n dX2_takeRuleLine_64 rfl ?_
          refine q_rVi lX2_116 vX2_takeStop (ci := 2) rfl dX2_takeRuleLine_65 (by first | exact kc_st hR3.1.1 hR3.1.2.1 h320 hR3.1.2.2.1 hzp.2 | exact kc_st hR2.1.1 hR2.1.2.1 h320 hR2.1.2.2.1 hyp.2) (by first | rfl | assumption) rfl rfl (Nat.le_of_ble_eq_true rfl) (by decide) (fun τ3 hq3 => ?_)
          refine q_bret dX2_takeRuleLine_68 ?_ rfl rfl
          first
            | (have hres : sp_rl c L D 4 s e = sp_b (sp_st c L z.2) (fun q => .inr ((sp_u (sp_u D.1 4 y.1) 5 z.1, D.2.1, sp_u D.2.2.1 4 true, D.2.2.2.1, D.2.2.2.2), q)) := by
                 rw [sp_rl, if_neg (sp_nb h23), hy]
                 show (if 4 = 4 then sp_b (sp_num c L 0 99 y.2) _ else _) = _
                 rw [if_pos rfl, show sp_num c L 0 99 y.2 = .inr z from hz]
                 rfl
               rw [hres]
               have hf := sp_fin hR3 hq3
               exact ⟨congrArg some (congrArg q_b hf.1), rfl, hf.2⟩)
            | (have hres : sp_rl c L D r s e = sp_b (sp_st c L y.2) (fun q => .inr ((sp_u D.1 r y.1, D.2.1, sp_u D.2.2.1 r true, D.2.2.2.1, D.2.2.2.2), q)) := by
                 rw [sp_rl, if_neg (sp_nb h23), hy]
                 show (if r = 4 then _ else sp_b (sp_st c L y.2) _) = _
                 rw [if_neg hr4]
               rw [hres]
               have hf := sp_fin hR2 hq3
               exact ⟨congrArg some (congrArg q_b hf.1), rfl, hf.2⟩)
        · have hr4 : r = 4 := sp_eq (b := 4) (by omega) (by decide) h51
          subst hr4
          refine q_aload_n dX2_takeRuleLine_54 rfl ?_
          refine q_iconst (x := 5) dX2_takeRuleLine_55 (by decide) ?_
          refine q_rVi lX2_113 vX2_takeRule (ci := 2) rfl dX2_takeRuleLine_56 (kc_rule (r := 5) hR2.1.1 hR2.1.2.1 h320 hR2.1.2.2.1 hyp.2 (by decide)) (by first | rfl | assumption) rfl rfl (Nat.le_of_ble_eq_true rfl) (by decide) (fun τ2 hq2 => ?_)
          refine q_bne 64 dX2_takeRuleLine_59 (by decide) (fun h59 => ?_) (fun h59 => ?_)
          · obtain ⟨z, hz⟩ := sp_gr h59
            unfold sp_P4 at hq2
            rw [hz] at hq2
            have hR3 : sp_R σ0 c L (sp_u (sp_u D.1 4 y.1) 5 z.1, D.2.1, sp_u D.2.2.1 4 true, D.2.2.2.1, D.2.2.2.2) n z.2 τ2 := by
              rw [hq2]
              exact hR2.nm.rule
            have hzp := sp_num_p hyp.2 hz
            clear hq2
            refine q_aload_n dX2_takeRuleLine_64 rfl ?_
            refine q_rVi lX2_116 vX2_takeStop (ci := 2) rfl dX2_takeRuleLine_65 (by first | exact kc_st hR3.1.1 hR3.1.2.1 h320 hR3.1.2.2.1 hzp.2 | exact kc_st hR2.1.1 hR2.1.2.1 h320 hR2.1.2.2.1 hyp.2) (by first | rfl | assumption) rfl rfl (Nat.le_of_ble_eq_true rfl) (by decide) (fun τ3 hq3 => ?_)
            refine q_bret dX2_takeRuleLine_68 ?_ rfl rfl
            first
              | (have hres : sp_rl c L D 4 s e = sp_b (sp_st c L z.2) (fun q => .inr ((sp_u (sp_u D.1 4 y.1) 5 z.1, D.2.1, sp_u D.2.2.1 4 true, D.2.2.2.1, D.2.2.2.2), q)) := by
                   rw [sp_rl, if_neg (sp_nb h23), hy]
                   show (if 4 = 4 then sp_b (sp_num c L 0 99 y.2) _ else _) = _
                   rw [if_pos rfl, show sp_num c L 0 99 y.2 = .inr z from hz]
                   rfl
                 rw [hres]
                 have hf := sp_fin hR3 hq3
                 exact ⟨congrArg some (congrArg q_b hf.1), rfl, hf.2⟩)
              | (have hres : sp_rl c L D r s e = sp_b (sp_st c L y.2) (fun q => .inr ((sp_u D.1 r y.1, D.2.1, sp_u D.2.2.1 r true, D.2.2.2.1, D.2.2.2.2), q)) := by
                   rw [sp_rl, if_neg (sp_nb h23), hy]
                   show (if r = 4 then _ else sp_b (sp_st c L y.2) _) = _
                   rw [if_neg hr4]
                 rw [hres]
                 have hf := sp_fin hR2 hq3
                 exact ⟨congrArg some (congrArg q_b hf.1), rfl, hf.2⟩)
          · refine q_iconst (x := 0) dX2_takeRuleLine_62 (by decide) ?_
            refine q_ret0 dX2_takeRuleLine_63 ?_ rfl rfl
            obtain ⟨w, hz⟩ := sp_gl h59
            unfold sp_P4 at hq2
            rw [hz] at hq2
            have hres : sp_rl c L D 4 s e = .inl w := by
              rw [sp_rl, if_neg (sp_nb h23), hy]
              show (if 4 = 4 then sp_b (sp_num c L 0 99 y.2) _ else _) = _
              rw [if_pos rfl, show sp_num c L 0 99 y.2 = .inl w from hz]
              rfl
            exact ⟨by rw [hres]; rfl, rfl, by rw [hres]; exact hq2.tr hR2.fr⟩
      · refine q_iconst (x := 0) dX2_takeRuleLine_47 (by decide) ?_
        refine q_ret0 dX2_takeRuleLine_48 ?_ rfl rfl
        obtain ⟨w, hy⟩ := sp_gl h44
        unfold sp_P4 at hq
        rw [hy] at hq
        have hres : sp_rl c L D r s e = .inl w := by rw [sp_rl, if_neg (sp_nb h23), hy]; rfl
        exact ⟨by rw [hres]; rfl, rfl, by rw [hres]; exact hq.tr hR1.fr⟩
    · refine q_aload_n dX2_takeRuleLine_26 rfl ?_
      refine q_iconst (x := 4) dX2_takeRuleLine_27 (by decide) ?_
      refine q_cVi lX2_70 vX2_fail (ci := 2) rfl dX2_takeRuleLine_28 kX2_fail (by first | rfl | assumption) rfl rfl (Nat.le_of_ble_eq_true rfl) (by decide) ?_
      refine q_bret dX2_takeRuleLine_31 ?_ rfl rfl
      have hres : sp_rl c L D r s e = .inl (4, s) := if_pos h23
      exact ⟨by rw [hres]; rfl, rfl, by rw [hres]; exact rd_F.of (f := 4) hR.fr hs⟩
  · exact absurd (congrArg Int32.toInt h8) (by have e4 : (-4 : Int32).toInt = -4 := rfl; omega)

set_option maxHeartbeats 1000000 in
set_option maxRecDepth 100000 in
theorem kX2_takeHour {σ : q_M} {σ0 : q_M} {c : Nat → Int32} {L n : Nat} {D : sp_D} (h320 : L ≤ 320) {e : Nat} (heL : e ≤ L) (hR : sp_R σ0 c L D n e σ) : q_Ct YX2_takeHour [.ref 1] q_SH σ (q_re (q_b (sp_g (sp_hr c L D e))) q_SH (sp_PL σ0 c L n (sp_hr c L D e))) := by
  refine q_ct (n := 1) (by decide) (by decide) rfl (fun _ => Nat.le_of_ble_eq_true rfl) (fun E => ?_)
  refine q_aload_n dX2_takeHour_0 rfl ?_
  refine q_iconst (x := 0) dX2_takeHour_1 (by decide) ?_
  refine q_bipush (x := 23) dX2_takeHour_2 (by decide) ?_
  refine q_rVi lX2_138 vX2_takeNumber (ci := 2) rfl dX2_takeHour_4 (kc_num hR.1.1 hR.1.2.1 h320 hR.1.2.2.1 heL) (by first | rfl | assumption) rfl rfl (Nat.le_of_ble_eq_true rfl) (by decide) (fun τ hq => ?_)
  refine q_bne 12 dX2_takeHour_7 (by decide) (fun h7 => ?_) (fun h7 => ?_)
  · obtain ⟨y, hy⟩ := sp_gr h7
    unfold sp_P2 at hq
    rw [hy] at hq
    have hR2 : sp_R σ0 c L D n y.2 τ := by
      rw [hq]
      exact hR.nm
    have h12 : τ 1 12 = y.1 := by rw [hq, q_up_at]
    have h11 : τ 1 11 = nI (sp_s c L e) := by rw [hq]; rfl
    have hyp := sp_num_p heL hy
    have hyw := q_win_t (sp_num_r hy).2.2.1
    have e0 : (0 : Int32).toInt = 0 := rfl
    have e23 : (23 : Int32).toInt = 23 := rfl
    have hyc := q_clamp (x := y.1) (by omega)
    clear hq
    refine q_aload_n dX2_takeHour_12 rfl ?_
    refine q_get fX2_103 dX2_takeHour_13 (by first | rfl | assumption) (by rfl) ?_
    refine q_tope (y := y.1) h12 ?_
    refine q_istore_n dX2_takeHour_16 (by decide) rfl ?_
    refine q_aload_n dX2_takeHour_17 rfl ?_
    refine q_getr fX2_18 dX2_takeHour_18 (by first | rfl | assumption) (by rfl) ?_
    refine q_getr fX2_145 dX2_takeHour_21 (by first | rfl | assumption) (by rfl) ?_
    refine q_iload_n dX2_takeHour_24 rfl ?_
    refine q_ild y.1.toNatClampNeg (by first | rfl | assumption) hyc (by omega) dX2_takeHour_25 ?_
    refine q_tope (y := D.2.1 y.1.toNatClampNeg) (hR2.2.2.1 _ (by omega)) ?_
    refine q_if_eq 35 dX2_takeHour_26 (by decide) (fun h26 => ?_) (fun h26 => ?_)
    · refine q_aload_n dX2_takeHour_35 rfl ?_
      refine q_gets 1 ⟨by decide, by decide⟩ gX2_131 dX2_takeHour_36 ?_
      refine q_iconst (x := 2) dX2_takeHour_39 (by decide) ?_
      refine q_tld 1 2 ⟨by decide, by decide⟩ rfl (by decide) dX2_takeHour_40 ?_
      refine q_tope (y := 250) rfl ?_
      refine q_gets 2 ⟨by decide, by decide⟩ gX2_135 dX2_takeHour_41 ?_
      refine q_iconst (x := 2) dX2_takeHour_44 (by decide) ?_
      refine q_tld 2 2 ⟨by decide, by decide⟩ rfl (by decide) dX2_takeHour_45 ?_
      refine q_tope (y := 350) rfl ?_
      refine q_rVi lX2_138 vX2_takeNumber (ci := 2) rfl dX2_takeHour_46 (kc_num hR2.1.1 hR2.1.2.1 h320 hR2.1.2.2.1 hyp.2) (by first | rfl | assumption) rfl rfl (Nat.le_of_ble_eq_true rfl) (by decide) (fun τ2 hq2 => ?_)
      refine q_bne 54 dX2_takeHour_49 (by decide) (fun h49 => ?_) (fun h49 => ?_)
      · obtain ⟨z, hz⟩ := sp_gr h49
        unfold sp_P2 at hq2
        rw [hz] at hq2
        have hR3 : sp_R σ0 c L D n z.2 τ2 := by
          rw [hq2]
          exact hR2.nm
        have h122 : τ2 1 12 = z.1 := by rw [hq2, q_up_at]
        have hzp := sp_num_p hyp.2 hz
        clear hq2
        refine q_aload_n dX2_takeHour_54 rfl ?_
        refine q_getr fX2_18 dX2_takeHour_55 (by first | rfl | assumption) (by rfl) ?_
        refine q_getr fX2_145 dX2_takeHour_58 (by first | rfl | assumption) (by rfl) ?_
        refine q_iload_n dX2_takeHour_61 rfl ?_
        refine q_aload_n dX2_takeHour_62 rfl ?_
        refine q_get fX2_103 dX2_takeHour_63 (by first | rfl | assumption) (by rfl) ?_
        refine q_tope (y := z.1) h122 ?_
        refine q_isto y.1.toNatClampNeg (by first | rfl | assumption) hyc (by omega) dX2_takeHour_66 ?_
        have hR4 := hR3.hour (r := y.1.toNatClampNeg) (v := z.1)
        refine q_aload_n dX2_takeHour_67 rfl ?_
        refine q_rVi lX2_116 vX2_takeStop (ci := 2) rfl dX2_takeHour_68 (kc_st hR4.1.1 hR4.1.2.1 h320 hR4.1.2.2.1 hzp.2) (by first | rfl | assumption) rfl rfl (Nat.le_of_ble_eq_true rfl) (by decide) (fun τ3 hq3 => ?_)
        refine q_bret dX2_takeHour_71 ?_ rfl rfl
        have hres : sp_hr c L D e = sp_b (sp_st c L z.2) (fun q => .inr ((D.1, sp_u D.2.1 y.1.toNatClampNeg z.1, D.2.2.1, D.2.2.2.1, D.2.2.2.2), q)) := by
          rw [sp_hr, hy]
          show (if ¬ D.2.1 y.1.toNatClampNeg = 0 then _ else sp_b (sp_num c L 250 350 y.2) _) = _
          rw [if_neg (fun q => q h26), hz]
          rfl
        rw [hres]
        have hf := sp_fin hR4 hq3
        exact ⟨congrArg some (congrArg q_b hf.1), rfl, hf.2⟩
      · refine q_iconst (x := 0) dX2_takeHour_52 (by decide) ?_
        refine q_ret0 dX2_takeHour_53 ?_ rfl rfl
        obtain ⟨w, hz⟩ := sp_gl h49
        unfold sp_P2 at hq2
        rw [hz] at hq2
        have hres : sp_hr c L D e = .inl w := by
          rw [sp_hr, hy]
          show (if ¬ D.2.1 y.1.toNatClampNeg = 0 then _ else sp_b (sp_num c L 250 350 y.2) _) = _
          rw [if_neg (fun q => q h26), hz]
          rfl
        exact ⟨by rw [hres]; rfl, rfl, by rw [hres]; exact hq2.tr hR2.fr⟩
    · refine q_aload_n dX2_takeHour_29 rfl ?_
      refine q_iconst (x := 4) dX2_takeHour_30 (by decide) ?_
      refine q_cVi lX2_70 vX2_fail (ci := 2) rfl dX2_takeHour_31 kX2_fail (by first | rfl | assumption) rfl rfl (Nat.le_of_ble_eq_true rfl) (by decide) ?_
      refine q_bret dX2_takeHour_34 ?_ rfl rfl
      have hres : sp_hr c L D e = .inl (4, sp_s c L e) := by
        rw [sp_hr, hy]
        exact if_pos h26
      exact ⟨by rw [hres]; rfl, rfl, by rw [hres]; exact rd_F.of (f := 4) hR2.fr h11⟩
  · refine q_iconst (x := 0) dX2_takeHour_10 (by decide) ?_
    refine q_ret0 dX2_takeHour_11 ?_ rfl rfl
    obtain ⟨w, hy⟩ := sp_gl h7
    unfold sp_P2 at hq
    rw [hy] at hq
    have hres : sp_hr c L D e = .inl w := by rw [sp_hr, hy]; rfl
    exact ⟨by rw [hres]; rfl, rfl, by rw [hres]; exact hq.tr hR.fr⟩

/-- the diver's cell d holds f, read up to p, nothing else changed since σ0 -/
def sp_X (σ0 : q_M) (c : Nat → Int32) (L d : Nat) (f : Nat → Int32) (p : Nat) (σ : q_M) : Prop :=
  (σ 2 = c ∧ σ 1 4 = nI L ∧ σ 1 9 = nI p ∧ σ 1 5 = σ0 1 5 ∧ σ 1 6 = σ0 1 6 ∧ σ 1 7 = σ0 1 7) ∧ (∀ j, j < 8 → σ d j = f j) ∧ ∀ x, ¬ x = 1 → ¬ x = d → σ x = σ0 x
def sp_PW (σ0 : q_M) (c : Nat → Int32) (L d : Nat) (res : sp_F ⊕ ((Nat → Int32) × Nat)) (τ : q_M) : Prop := match res with
  | .inl w => rd_F σ0 τ w
  | .inr y => sp_X σ0 c L d y.1 y.2 τ
section SPX
variable {σ0 σ : q_M} {c : Nat → Int32} {L d p : Nat} {f : Nat → Int32}
theorem sp_X.up (h : sp_X σ0 c L d f p σ) (hd : 8 ≤ d) {k : Nat} {v : Int32} (hk : 10 ≤ k) : sp_X σ0 c L d f p (q_up σ 1 k v) := by
  obtain ⟨⟨a1, a2, a3, a4, a5, a6⟩, b, e⟩ := h
  refine ⟨⟨a1, ?_, ?_, ?_, ?_, ?_⟩, fun j hj => ?_, fun x h1 h2 => ?_⟩
  · rw [q_up_f (by omega)]; exact a2
  · rw [q_up_f (by omega)]; exact a3
  · rw [q_up_f (by omega)]; exact a4
  · rw [q_up_f (by omega)]; exact a5
  · rw [q_up_f (by omega)]; exact a6
  · rw [q_up_g (by omega)]; exact b j hj
  · rw [q_up_ne (by omega)]; exact e x h1 h2
theorem sp_X.at (h : sp_X σ0 c L d f p σ) (hd : 8 ≤ d) {q : Nat} : sp_X σ0 c L d f q (q_up σ 1 9 (nI q)) := by
  obtain ⟨⟨a1, a2, a3, a4, a5, a6⟩, b, e⟩ := h
  exact ⟨⟨a1, a2, q_up_at _ _ _ _, a4, a5, a6⟩, fun j hj => by rw [q_up_g (by omega)]; exact b j hj, fun x h1 h2 => by rw [q_up_ne (by omega)]; exact e x h1 h2⟩
theorem sp_X.tk (h : sp_X σ0 c L d f p σ) (hd : 8 ≤ d) {s k e : Nat} : sp_X σ0 c L d f e (rd_t σ s k e) := (((h.at hd).up hd (by decide)).up hd (by decide)).at hd
theorem sp_X.nm (h : sp_X σ0 c L d f p σ) (hd : 8 ≤ d) {s k e : Nat} {v : Int32} : sp_X σ0 c L d f e (q_up (rd_t σ s k e) 1 12 v) := (h.tk hd).up hd (by decide)
theorem sp_X.put (h : sp_X σ0 c L d f p σ) (hd : 8 ≤ d) {w : Nat} {v : Int32} : sp_X σ0 c L d (sp_u f w v) p (q_up σ d w v) := by
  obtain ⟨⟨a1, a2, a3, a4, a5, a6⟩, b, e⟩ := h
  refine ⟨⟨?_, ?_, ?_, ?_, ?_, ?_⟩, fun j hj => ?_, fun x h1 h2 => ?_⟩
  · rw [q_up_ne (by omega)]; exact a1
  · rw [q_up_ne (by omega)]; exact a2
  · rw [q_up_ne (by omega)]; exact a3
  · rw [q_up_ne (by omega)]; exact a4
  · rw [q_up_ne (by omega)]; exact a5
  · rw [q_up_ne (by omega)]; exact a6
  · show _ = if j = w then v else f j
    by_cases hj2 : j = w
    · rw [hj2, q_up_at, if_pos rfl]
    · rw [q_up_f hj2, if_neg hj2]; exact b j hj
  · rw [q_up_ne h2]; exact e x h1 h2
theorem sp_X.fr (h : sp_X σ0 c L d f p σ) (hd : rd_c d) : rd_fr σ0 σ := fun x hx => h.2.2 x (fun z => hx (by rw [z]; exact rd_c1)) (fun z => hx (by rw [z]; exact hd))
end SPX
theorem q_SH_rd {j : Nat} (h : j < 6) : q_SH[8 + j]? = some q_sD := by
  rcases (show j = 0 ∨ j = 1 ∨ j = 2 ∨ j = 3 ∨ j = 4 ∨ j = 5 by omega) with rfl | rfl | rfl | rfl | rfl | rfl <;> rfl

theorem sp_nt {b : Bool} (h : b = true) : ¬ b = false := fun z => absurd (h.symm.trans z) (by decide)

set_option maxHeartbeats 1000000 in
set_option maxRecDepth 100000 in
theorem lpX2_withs {E : q_E} {σ0 : q_M} {c : Nat → Int32} {L d : Nat} (h320 : L ≤ 320) (hd8 : 8 ≤ d) (hdc : rd_c d) (hd : q_SH[d]? = some q_sD) {res : sp_F ⊕ ((Nat → Int32) × Nat)} : ∀ (n : Nat) (m t : Nat) (lk rt : Bool) (f : Nat → Int32) (p : Nat) (σ : q_M), m + 1 ≤ n → t + m = 4 → sp_X σ0 c L d f p σ → p ≤ L → (if lk = true then 0 else 1) + (if rt = true then 0 else 1) + (if f 7 = 0 then 1 else 0) + 1 ≤ m → sp_w c L m lk rt f p = res → q_G YX2_takeWiths E 0 0 7 [some (.ref 1), some (.ref d), some (.int (q_b lk)), some (.int (q_b rt)), some (.int (nI t))] [] q_SH σ (q_re (q_b (sp_g res)) q_SH (sp_PW σ0 c L d res)) := by
  intro n
  induction n with
  | zero =>
    intro m t lk rt f p σ hm h4 hX hpL hfl hres
    exact absurd hm (by omega)
  | succ n ih =>
    intro m t lk rt f p σ hm h4 hX hpL hfl hres
    obtain ⟨m, rfl⟩ : ∃ m0, m = m0 + 1 := ⟨m - 1, by omega⟩
    have htt := nI_toInt (n := t) (by omega)
    have e3 : (3 : Int32).toInt = 3 := rfl
    have hsg := sp_s_ge (c := c) hpL
    have hel := sp_e_le (c := c) hpL
    have hdl := sp_d_le c L p
    refine q_iload dX2_takeWiths_7 rfl ?_
    refine q_iconst (x := 3) dX2_takeWiths_9 (by decide) ?_
    refine q_cgt 162 dX2_takeWiths_10 (by decide) (fun h10 => ?_) (fun h10 => ?_)
    · exact absurd h10 (by omega)
    · refine q_aload_n dX2_takeWiths_13 rfl ?_
      refine q_rVi lX2_40 vX2_nextToken (ci := 2) rfl dX2_takeWiths_14 (kc_nt hX.1.1 hX.1.2.1 h320 hX.1.2.2.1 hpL) (by first | rfl | assumption) rfl rfl (Nat.le_of_ble_eq_true rfl) (by decide) (fun τ hq => ?_)
      refine q_bne 22 dX2_takeWiths_17 (by decide) (fun h17 => ?_) (fun h17 => ?_)
      · have hτ := hq.1 h17
        subst hτ
        have hX1 := hX.tk hd8 (s := sp_s c L p) (k := sp_d c L p) (e := sp_e c L p)
        refine q_aload_n dX2_takeWiths_22 rfl ?_
        refine q_get fX2_44 dX2_takeWiths_23 (by first | rfl | assumption) (by rfl) ?_
        refine q_tope (y := nI (sp_d c L p)) rfl ?_
        refine q_iconst (x := 3) dX2_takeWiths_26 (by decide) ?_
        refine q_icmp_ne 32 dX2_takeWiths_27 (by decide) (fun h27 => ?_) (fun h27 => ?_)
        · have h3 : ¬ sp_d c L p = 3 := sp_ne (b := 3) h27
          refine q_aload_n dX2_takeWiths_32 rfl ?_
          refine q_ldcS 1 (by decide) rfl dX2_takeWiths_33 ?_
          refine q_cVi lX2_52 vX2_isName (ci := 2) rfl dX2_takeWiths_35 (kc_name hX1.1.1 (k := sp_d c L p) rfl (sp_d_le c L p) (s := sp_s c L p) rfl (e := sp_e c L p) rfl hel.1 (by omega) (j := 1) (by decide)) (by first | rfl | assumption) rfl rfl (Nat.le_of_ble_eq_true rfl) (by decide) ?_
          refine q_beq 76 dX2_takeWiths_38 (by decide) (fun h38 => ?_) (fun h38 => ?_)
          · refine q_aload_n dX2_takeWiths_76 rfl ?_
            refine q_ldcS 2 (by decide) rfl dX2_takeWiths_77 ?_
            refine q_cVi lX2_52 vX2_isName (ci := 2) rfl dX2_takeWiths_79 (kc_name hX1.1.1 (k := sp_d c L p) rfl (sp_d_le c L p) (s := sp_s c L p) rfl (e := sp_e c L p) rfl hel.1 (by omega) (j := 2) (by decide)) (by first | rfl | assumption) rfl rfl (Nat.le_of_ble_eq_true rfl) (by decide) ?_
            refine q_beq 120 dX2_takeWiths_82 (by decide) (fun h82 => ?_) (fun h82 => ?_)
            · refine q_aload_n dX2_takeWiths_120 rfl ?_
              refine q_ldcS 3 (by decide) rfl dX2_takeWiths_121 ?_
              refine q_cVi lX2_52 vX2_isName (ci := 2) rfl dX2_takeWiths_123 (kc_name hX1.1.1 (k := sp_d c L p) rfl (sp_d_le c L p) (s := sp_s c L p) rfl (e := sp_e c L p) rfl hel.1 (by omega) (j := 3) (by decide)) (by first | rfl | assumption) rfl rfl (Nat.le_of_ble_eq_true rfl) (by decide) ?_
              refine q_beq 150 dX2_takeWiths_126 (by decide) (fun h126 => ?_) (fun h126 => ?_)
              · refine q_aload_n dX2_takeWiths_150 rfl ?_
                refine q_iconst (x := 2) dX2_takeWiths_151 (by decide) ?_
                refine q_cVi lX2_70 vX2_fail (ci := 2) rfl dX2_takeWiths_152 kX2_fail (by first | rfl | assumption) rfl rfl (Nat.le_of_ble_eq_true rfl) (by decide) ?_
                refine q_bret dX2_takeWiths_155 ?_ rfl rfl
                rw [sp_w, if_neg (sp_nt h17), if_neg h3, if_neg (sp_nb h38), if_neg (sp_nb h82), if_neg (sp_nb h126)] at hres
                subst hres
                exact ⟨rfl, rfl, rd_F.of (f := 2) (hX1.fr hdc) rfl⟩
              · refine q_aload_n dX2_takeWiths_129 rfl ?_
                refine q_get fX2_165 dX2_takeWiths_130 hd (by rfl) ?_
                refine q_tope (y := f 7) (hX1.2.1 7 (by decide)) ?_
                refine q_if_eq 142 dX2_takeWiths_133 (by decide) (fun h133 => ?_) (fun h133 => ?_)
                · refine q_aload_n dX2_takeWiths_142 rfl ?_
                  refine q_iconst (x := 1) dX2_takeWiths_143 (by decide) ?_
                  refine q_put_i pX2_165 dX2_takeWiths_144 hd (by rfl) rfl rfl ?_
                  refine q_goto 156 dX2_takeWiths_147 (by decide) ?_
                  refine q_inc 1 dX2_takeWiths_156 (by decide) rfl (by decide) rfl ?_
                  refine q_goto 7 dX2_takeWiths_159 (by decide) ?_
                  rw [nI_1]
                  first
                    | (rw [sp_w, if_neg (sp_nt h17), if_neg h3, if_pos h38, if_neg (sp_nb h42), hy] at hres
                       exact ih m (t + 1) true rt _ y.2 _ (by omega) (by omega) (hX2.put hd8) hyp.2 (by subst h42; simp [sp_u] at hfl ⊢; omega) hres)
                    | (rw [sp_w, if_neg (sp_nt h17), if_neg h3, if_neg (sp_nb h38), if_pos h82, if_neg (sp_nb h86), hy] at hres
                       exact ih m (t + 1) lk true _ y.2 _ (by omega) (by omega) (hX2.put hd8) hyp.2 (by subst h86; simp [sp_u] at hfl ⊢; omega) hres)
                    | (rw [sp_w, if_neg (sp_nt h17), if_neg h3, if_neg (sp_nb h38), if_neg (sp_nb h82), if_pos h126, if_pos h133] at hres
                       exact ih m (t + 1) lk rt _ (sp_e c L p) _ (by omega) (by omega) (hX1.put hd8) hel.2 (by rw [if_pos h133] at hfl; rw [show (if sp_u f 7 1 7 = 0 then 1 else 0) = 0 from rfl]; omega) hres)
                · refine q_aload_n dX2_takeWiths_136 rfl ?_
                  refine q_iconst (x := 4) dX2_takeWiths_137 (by decide) ?_
                  refine q_cVi lX2_70 vX2_fail (ci := 2) rfl dX2_takeWiths_138 kX2_fail (by first | rfl | assumption) rfl rfl (Nat.le_of_ble_eq_true rfl) (by decide) ?_
                  refine q_bret dX2_takeWiths_141 ?_ rfl rfl
                  rw [sp_w, if_neg (sp_nt h17), if_neg h3, if_neg (sp_nb h38), if_neg (sp_nb h82), if_pos h126, if_neg h133] at hres
                  subst hres
                  exact ⟨rfl, rfl, rd_F.of (f := 4) (hX1.fr hdc) rfl⟩
            · refine q_iload_n dX2_takeWiths_85 rfl ?_
              refine q_beq 95 dX2_takeWiths_86 (by decide) (fun h86 => ?_) (fun h86 => ?_)
              · refine q_iconst (x := 1) dX2_takeWiths_95 (by decide) ?_
                refine q_istore_n dX2_takeWiths_96 (by decide) rfl ?_
                refine q_aload_n dX2_takeWiths_97 rfl ?_
                refine q_iconst (x := 0) dX2_takeWiths_98 (by decide) ?_
                refine q_bipush (x := 99) dX2_takeWiths_99 (by decide) ?_
                refine q_rVi lX2_138 vX2_takeNumber (ci := 2) rfl dX2_takeWiths_101 (kc_num hX1.1.1 hX1.1.2.1 h320 hX1.1.2.2.1 hel.2) (by first | rfl | assumption) rfl rfl (Nat.le_of_ble_eq_true rfl) (by decide) (fun τ2 hq2 => ?_)
                refine q_bne 109 dX2_takeWiths_104 (by decide) (fun h104 => ?_) (fun h104 => ?_)
                · obtain ⟨y, hy⟩ := sp_gr h104
                  unfold sp_P2 at hq2
                  rw [hy] at hq2
                  have hX2 : sp_X σ0 c L d f y.2 τ2 := by
                    rw [hq2]
                    exact hX1.nm hd8
                  have h12 : τ2 1 12 = y.1 := by rw [hq2, q_up_at]
                  have hyp := sp_num_p hel.2 hy
                  clear hq2
                  refine q_aload_n dX2_takeWiths_109 rfl ?_
                  refine q_aload_n dX2_takeWiths_110 rfl ?_
                  refine q_get fX2_103 dX2_takeWiths_111 (by first | rfl | assumption) (by rfl) ?_
                  refine q_tope (y := y.1) h12 ?_
                  refine q_put_i pX2_161 dX2_takeWiths_114 hd (by rfl) rfl rfl ?_
                  refine q_goto 156 dX2_takeWiths_117 (by decide) ?_
                  refine q_inc 1 dX2_takeWiths_156 (by decide) rfl (by decide) rfl ?_
                  refine q_goto 7 dX2_takeWiths_159 (by decide) ?_
                  rw [nI_1]
                  first
                    | (rw [sp_w, if_neg (sp_nt h17), if_neg h3, if_pos h38, if_neg (sp_nb h42), hy] at hres
                       exact ih m (t + 1) true rt _ y.2 _ (by omega) (by omega) (hX2.put hd8) hyp.2 (by subst h42; simp [sp_u] at hfl ⊢; omega) hres)
                    | (rw [sp_w, if_neg (sp_nt h17), if_neg h3, if_neg (sp_nb h38), if_pos h82, if_neg (sp_nb h86), hy] at hres
                       exact ih m (t + 1) lk true _ y.2 _ (by omega) (by omega) (hX2.put hd8) hyp.2 (by subst h86; simp [sp_u] at hfl ⊢; omega) hres)
                    | (rw [sp_w, if_neg (sp_nt h17), if_neg h3, if_neg (sp_nb h38), if_neg (sp_nb h82), if_pos h126, if_pos h133] at hres
                       exact ih m (t + 1) lk rt _ (sp_e c L p) _ (by omega) (by omega) (hX1.put hd8) hel.2 (by rw [if_pos h133] at hfl; rw [show (if sp_u f 7 1 7 = 0 then 1 else 0) = 0 from rfl]; omega) hres)
                · refine q_iconst (x := 0) dX2_takeWiths_107 (by decide) ?_
                  refine q_ret0 dX2_takeWiths_108 ?_ rfl rfl
                  obtain ⟨w, hy⟩ := sp_gl h104
                  unfold sp_P2 at hq2
                  rw [hy] at hq2
                  rw [sp_w, if_neg (sp_nt h17), if_neg h3, if_neg (sp_nb h38), if_pos h82, if_neg (sp_nb h86), hy] at hres
                  subst hres
                  exact ⟨rfl, rfl, hq2.tr (hX1.fr hdc)⟩
              · refine q_aload_n dX2_takeWiths_89 rfl ?_
                refine q_iconst (x := 4) dX2_takeWiths_90 (by decide) ?_
                refine q_cVi lX2_70 vX2_fail (ci := 2) rfl dX2_takeWiths_91 kX2_fail (by first | rfl | assumption) rfl rfl (Nat.le_of_ble_eq_true rfl) (by decide) ?_
                refine q_bret dX2_takeWiths_94 ?_ rfl rfl
                rw [sp_w, if_neg (sp_nt h17), if_neg h3, if_neg (sp_nb h38), if_pos h82, if_pos h86] at hres
                subst hres
                exact ⟨rfl, rfl, rd_F.of (f := 4) (hX1.fr hdc) rfl⟩
          · refine q_iload_n dX2_takeWiths_41 rfl ?_
            refine q_beq 51 dX2_takeWiths_42 (by decide) (fun h42 => ?_) (fun h42 => ?_)
            · refine q_iconst (x := 1) dX2_takeWiths_51 (by decide) ?_
              refine q_istore_n dX2_takeWiths_52 (by decide) rfl ?_
              refine q_aload_n dX2_takeWiths_53 rfl ?_
              refine q_iconst (x := 0) dX2_takeWiths_54 (by decide) ?_
              refine q_bipush (x := 99) dX2_takeWiths_55 (by decide) ?_
              refine q_rVi lX2_138 vX2_takeNumber (ci := 2) rfl dX2_takeWiths_57 (kc_num hX1.1.1 hX1.1.2.1 h320 hX1.1.2.2.1 hel.2) (by first | rfl | assumption) rfl rfl (Nat.le_of_ble_eq_true rfl) (by decide) (fun τ2 hq2 => ?_)
              refine q_bne 65 dX2_takeWiths_60 (by decide) (fun h60 => ?_) (fun h60 => ?_)
              · obtain ⟨y, hy⟩ := sp_gr h60
                unfold sp_P2 at hq2
                rw [hy] at hq2
                have hX2 : sp_X σ0 c L d f y.2 τ2 := by
                  rw [hq2]
                  exact hX1.nm hd8
                have h12 : τ2 1 12 = y.1 := by rw [hq2, q_up_at]
                have hyp := sp_num_p hel.2 hy
                clear hq2
                refine q_aload_n dX2_takeWiths_65 rfl ?_
                refine q_aload_n dX2_takeWiths_66 rfl ?_
                refine q_get fX2_103 dX2_takeWiths_67 (by first | rfl | assumption) (by rfl) ?_
                refine q_tope (y := y.1) h12 ?_
                refine q_put_i pX2_157 dX2_takeWiths_70 hd (by rfl) rfl rfl ?_
                refine q_goto 156 dX2_takeWiths_73 (by decide) ?_
                refine q_inc 1 dX2_takeWiths_156 (by decide) rfl (by decide) rfl ?_
                refine q_goto 7 dX2_takeWiths_159 (by decide) ?_
                rw [nI_1]
                first
                  | (rw [sp_w, if_neg (sp_nt h17), if_neg h3, if_pos h38, if_neg (sp_nb h42), hy] at hres
                     exact ih m (t + 1) true rt _ y.2 _ (by omega) (by omega) (hX2.put hd8) hyp.2 (by subst h42; simp [sp_u] at hfl ⊢; omega) hres)
                  | (rw [sp_w, if_neg (sp_nt h17), if_neg h3, if_neg (sp_nb h38), if_pos h82, if_neg (sp_nb h86), hy] at hres
                     exact ih m (t + 1) lk true _ y.2 _ (by omega) (by omega) (hX2.put hd8) hyp.2 (by subst h86; simp [sp_u] at hfl ⊢; omega) hres)
                  | (rw [sp_w, if_neg (sp_nt h17), if_neg h3, if_neg (sp_nb h38), if_neg (sp_nb h82), if_pos h126, if_pos h133] at hres
                     exact ih m (t + 1) lk rt _ (sp_e c L p) _ (by omega) (by omega) (hX1.put hd8) hel.2 (by rw [if_pos h133] at hfl; rw [show (if sp_u f 7 1 7 = 0 then 1 else 0) = 0 from rfl]; omega) hres)
              · refine q_iconst (x := 0) dX2_takeWiths_63 (by decide) ?_
                refine q_ret0 dX2_takeWiths_64 ?_ rfl rfl
                obtain ⟨w, hy⟩ := sp_gl h60
                unfold sp_P2 at hq2
                rw [hy] at hq2
                rw [sp_w, if_neg (sp_nt h17), if_neg h3, if_pos h38, if_neg (sp_nb h42), hy] at hres
                subst hres
                exact ⟨rfl, rfl, hq2.tr (hX1.fr hdc)⟩
            · refine q_aload_n dX2_takeWiths_45 rfl ?_
              refine q_iconst (x := 4) dX2_takeWiths_46 (by decide) ?_
              refine q_cVi lX2_70 vX2_fail (ci := 2) rfl dX2_takeWiths_47 kX2_fail (by first | rfl | assumption) rfl rfl (Nat.le_of_ble_eq_true rfl) (by decide) ?_
              refine q_bret dX2_takeWiths_50 ?_ rfl rfl
              rw [sp_w, if_neg (sp_nt h17), if_neg h3, if_pos h38, if_pos h42] at hres
              subst hres
              exact ⟨rfl, rfl, rd_F.of (f := 4) (hX1.fr hdc) rfl⟩
        · have h3 : sp_d c L p = 3 := sp_eq (b := 3) (by omega) (by decide) h27
          refine q_iconst (x := 1) dX2_takeWiths_30 (by decide) ?_
          refine q_ret1 dX2_takeWiths_31 ?_ rfl rfl
          rw [sp_w, if_neg (sp_nt h17), if_pos h3] at hres
          subst hres
          exact ⟨rfl, rfl, hX1⟩
      · refine q_iconst (x := 0) dX2_takeWiths_20 (by decide) ?_
        refine q_ret0 dX2_takeWiths_21 ?_ rfl rfl
        rw [sp_w, if_pos h17] at hres
        subst hres
        exact ⟨rfl, rfl, (hq.2 h17).tr (hX.fr hdc)⟩

set_option maxHeartbeats 1000000 in
set_option maxRecDepth 100000 in
theorem kX2_takeWiths {σ : q_M} {c : Nat → Int32} {L d : Nat} (h320 : L ≤ 320) (hd8 : 8 ≤ d) (hdc : rd_c d) (hd : q_SH[d]? = some q_sD) {f : Nat → Int32} {p : Nat} (hX : sp_X σ c L d f p σ) (hpL : p ≤ L) (hf : f 7 = 0) : q_Ct YX2_takeWiths [.ref 1, .ref d] q_SH σ (q_re (q_b (sp_g (sp_w c L 4 false false f p))) q_SH (sp_PW σ c L d (sp_w c L 4 false false f p))) := by
  refine q_ct (n := 3) (by decide) (by decide) rfl (fun _ => Nat.le_of_ble_eq_true rfl) (fun E => ?_)
  refine q_iconst (x := 0) dX2_takeWiths_0 (by decide) ?_
  refine q_istore_n dX2_takeWiths_1 (by decide) rfl ?_
  refine q_iconst (x := 0) dX2_takeWiths_2 (by decide) ?_
  refine q_istore_n dX2_takeWiths_3 (by decide) rfl ?_
  refine q_iconst (x := 0) dX2_takeWiths_4 (by decide) ?_
  refine q_istore dX2_takeWiths_5 (by decide) rfl ?_
  exact lpX2_withs h320 hd8 hdc hd 5 4 0 false false f p σ (by omega) (by omega) hX hpL (by rw [if_pos hf]; decide) rfl
