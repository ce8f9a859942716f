set_option maxHeartbeats 1000000 in
set_option maxRecDepth 100000 in
theorem kX2_takeRuleLine {σ : q_M} {σ0 : q_M} {c : Nat → Int32} {L n : Nat} {D : sp_D} (h320 : L ≤ 320) {k s e : Nat} (hk : σ 1 10 = nI k) (hk5 : k ≤ 5) (hs : σ 1 11 = nI s) (hse : s ≤ e) (heL : e ≤ L) (hR : sp_R σ0 c L D n e σ) (hk1 : k = 1) {r : Nat} (hrn : sp_rn c s e = r) (hr7 : r < 7) (hr5 : ¬ r = 5) : q_Ct YX2_takeRuleLine [.ref 1] q_SH σ (q_re (q_b (sp_g (sp_rl c L D r s e))) q_SH (sp_PL σ0 c L n (sp_rl c L D r s e))) := by
  refine q_ct (n := 1) (by decide) (by decide) rfl (fun _ => Nat.le_of_ble_eq_true rfl) (fun E => ?_)
  have hrt := nI_toInt (n := r) (by omega)
  refine q_aload_n dX2_takeRuleLine_0 rfl ?_
  refine q_cVi lX2_110 vX2_ruleNamed (ci := 2) rfl dX2_takeRuleLine_1 (kc_ri hR.1.1 hk hk5 hs hR.1.2.2.1 hse (by omega)) (by first | rfl | assumption) rfl rfl (Nat.le_of_ble_eq_true rfl) (by decide) ?_
  refine q_tope (y := nI r) (by rw [hk1, sp_ri_1, hrn, if_neg (by omega)]) ?_
  refine q_istore_n dX2_takeRuleLine_4 (by decide) rfl ?_
  refine q_iload_n dX2_takeRuleLine_5 rfl ?_
  refine q_bipush (x := (-4)) dX2_takeRuleLine_6 (by decide) ?_
  refine q_icmp_ne 17 dX2_takeRuleLine_8 (by decide) (fun h8 => ?_) (fun h8 => ?_)
  · refine q_aload_n dX2_takeRuleLine_17 rfl ?_
    refine q_getr fX2_28 dX2_takeRuleLine_18 (by first | rfl | assumption) (by rfl) ?_
    refine q_iload_n dX2_takeRuleLine_21 rfl ?_
    refine q_zld r (by first | rfl | assumption) hrt hr7 dX2_takeRuleLine_22 ?_
    refine q_tope (y := q_b (D.2.2.1 r)) (hR.2.2.2.1 r hr7) ?_
    refine q_beq 32 dX2_takeRuleLine_23 (by decide) (fun h23 => ?_) (fun h23 => ?_)
    · refine q_aload_n dX2_takeRuleLine_32 rfl ?_
      refine q_getr fX2_28 dX2_takeRuleLine_33 (by first | rfl | assumption) (by rfl) ?_
      refine q_iload_n dX2_takeRuleLine_36 rfl ?_
      refine q_iconst (x := 1) dX2_takeRuleLine_37 (by decide) ?_
      
      refine q_zsto r (by first | rfl | assumption) hrt hr7 dX2_takeRuleLine_38 ?_
      refine q_mem (τ := q_up σ 7 r 1) rfl ?_
      have hR1 := hR.told (r := r)
      refine q_aload_n dX2_takeRuleLine_39 rfl ?_
      refine q_iload_n dX2_takeRuleLine_40 rfl ?_
      refine q_rVi lX2_113 vX2_takeRule (ci := 2) rfl dX2_takeRuleLine_41 (kc_rule hR1.1.1 hR1.1.2.1 h320 hR1.1.2.2.1 heL hr7) (by first | rfl | assumption) rfl rfl (Nat.le_of_ble_eq_true rfl) (by decide) (fun τ hq => ?_)
      refine q_bne 49 dX2_takeRuleLine_44 (by decide) (fun h44 => ?_) (fun h44 => ?_)
      · obtain ⟨y, hy⟩ := sp_gr h44
        unfold sp_P4 at hq
        rw [hy] at hq
        have hR2 : sp_R σ0 c L (sp_u D.1 r y.1, D.2.1, sp_u D.2.2.1 r true, D.2.2.2.1, D.2.2.2.2) n y.2 τ := by
          rw [hq]
          exact hR1.nm.rule
        have hyp := sp_num_p heL hy
        clear hq
        refine q_iload_n dX2_takeRuleLine_49 rfl ?_
        refine q_iconst (x := 4) dX2_takeRuleLine_50 (by decide) ?_
        refine q_icmp_ne 64 dX2_takeRuleLine_51 (by decide) (fun h51 => ?_) (fun h51 => ?_)
        · have hr4 : ¬ r = 4 := sp_ne (b := 4) h51
          have hR3 := hR2
          have hzp := hyp
          refine q_aload_n dX2_takeRuleLine_64 rfl ?_
          refine q_rVi lX2_116 vX2_takeStop (ci := 2) rfl dX2_takeRuleLine_65 (kc_st hR3.1.1 hR3.1.2.1 h320 hR3.1.2.2.1 hzp.2) (by first | rfl | assumption) rfl rfl (Nat.le_of_ble_eq_true rfl) (by decide) (fun τ3 hq3 => ?_)
          refine q_bret dX2_takeRuleLine_68 ?_ rfl rfl
          first
            | (rw [sp_rl_n (sp_nb h23) hy hr4]
               have hf := sp_fin hR2 hq3
               exact ⟨congrArg some (congrArg q_b hf.1), rfl, hf.2⟩)
            | (rw [sp_rl_4 (sp_nb h23) hy hz]
               have hf := sp_fin hR3 hq3
               exact ⟨congrArg some (congrArg q_b hf.1), rfl, hf.2⟩)
        · have hr4 : r = 4 := sp_eq (b := 4) (by omega) (by decide) h51
          subst hr4
          refine q_aload_n dX2_takeRuleLine_54 rfl ?_
          refine q_iconst (x := 5) dX2_takeRuleLine_55 (by decide) ?_
          refine q_rVi lX2_113 vX2_takeRule (ci := 2) rfl dX2_takeRuleLine_56 (kc_rule (r := 5) hR2.1.1 hR2.1.2.1 h320 hR2.1.2.2.1 hyp.2 (by decide)) (by first | rfl | assumption) rfl rfl (Nat.le_of_ble_eq_true rfl) (by decide) (fun τ2 hq2 => ?_)
          refine q_bne 64 dX2_takeRuleLine_59 (by decide) (fun h59 => ?_) (fun h59 => ?_)
          · obtain ⟨z, hz⟩ := sp_gr h59
            unfold sp_P4 at hq2
            rw [hz] at hq2
            have hR3 : sp_R σ0 c L (sp_u (sp_u D.1 4 y.1) 5 z.1, D.2.1, sp_u D.2.2.1 4 true, D.2.2.2.1, D.2.2.2.2) n z.2 τ2 := by
              rw [hq2]
              exact hR2.nm.rule
            have hzp := sp_num_p hyp.2 hz
            clear hq2
            refine q_aload_n dX2_takeRuleLine_64 rfl ?_
            refine q_rVi lX2_116 vX2_takeStop (ci := 2) rfl dX2_takeRuleLine_65 (kc_st hR3.1.1 hR3.1.2.1 h320 hR3.1.2.2.1 hzp.2) (by first | rfl | assumption) rfl rfl (Nat.le_of_ble_eq_true rfl) (by decide) (fun τ3 hq3 => ?_)
            refine q_bret dX2_takeRuleLine_68 ?_ rfl rfl
            first
              | (rw [sp_rl_n (sp_nb h23) hy hr4]
                 have hf := sp_fin hR2 hq3
                 exact ⟨congrArg some (congrArg q_b hf.1), rfl, hf.2⟩)
              | (rw [sp_rl_4 (sp_nb h23) hy hz]
                 have hf := sp_fin hR3 hq3
                 exact ⟨congrArg some (congrArg q_b hf.1), rfl, hf.2⟩)
          · refine q_iconst (x := 0) dX2_takeRuleLine_62 (by decide) ?_
            refine q_ret0 dX2_takeRuleLine_63 ?_ rfl rfl
            obtain ⟨w, hz⟩ := sp_gl h59
            unfold sp_P4 at hq2
            rw [hz] at hq2
            have hres : sp_rl c L D 4 s e = .inl w := sp_rl_4l (sp_nb h23) hy hz
            exact ⟨by rw [hres]; rfl, rfl, by rw [hres]; exact hq2.tr hR2.fr⟩
      · refine q_iconst (x := 0) dX2_takeRuleLine_47 (by decide) ?_
        refine q_ret0 dX2_takeRuleLine_48 ?_ rfl rfl
        obtain ⟨w, hy⟩ := sp_gl h44
        unfold sp_P4 at hq
        rw [hy] at hq
        have hres : sp_rl c L D r s e = .inl w := by rw [sp_rl, if_neg (sp_nb h23), hy]; rfl
        exact ⟨by rw [hres]; rfl, rfl, by rw [hres]; exact hq.tr hR1.fr⟩
    · refine q_aload_n dX2_takeRuleLine_26 rfl ?_
      refine q_iconst (x := 4) dX2_takeRuleLine_27 (by decide) ?_
      refine q_cVi lX2_70 vX2_fail (ci := 2) rfl dX2_takeRuleLine_28 kX2_fail (by first | rfl | assumption) rfl rfl (Nat.le_of_ble_eq_true rfl) (by decide) ?_
      refine q_bret dX2_takeRuleLine_31 ?_ rfl rfl
      have hres : sp_rl c L D r s e = .inl (4, s) := if_pos h23
      exact ⟨by rw [hres]; rfl, rfl, by rw [hres]; exact rd_F.of (f := 4) hR.fr hs⟩
  · exact absurd (congrArg Int32.toInt h8) (by have e4 : (-4 : Int32).toInt = -4 := rfl; omega)
