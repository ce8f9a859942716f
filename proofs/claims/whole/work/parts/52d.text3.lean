set_option maxHeartbeats 1000000 in
set_option maxRecDepth 100000 in
theorem kX2_takeHour {σ : q_M} {σ0 : q_M} {c : Nat → Int32} {L n : Nat} {D : sp_D} (h320 : L ≤ 320) {e : Nat} (heL : e ≤ L) (hR : sp_R σ0 c L D n e σ) : q_Ct YX2_takeHour [.ref 1] q_SH σ (q_re (q_b (sp_g (sp_hr c L D e))) q_SH (sp_PL σ0 c L n (sp_hr c L D e))) := by
  refine q_ct (n := 1) (by decide) (by decide) rfl (fun _ => Nat.le_of_ble_eq_true rfl) (fun E => ?_)
  refine q_aload_n dX2_takeHour_0 rfl ?_
  refine q_iconst (x := 0) dX2_takeHour_1 (by decide) ?_
  refine q_bipush (x := 23) dX2_takeHour_2 (by decide) ?_
  refine q_rVi lX2_138 vX2_takeNumber (ci := 2) rfl dX2_takeHour_4 (kc_num hR.1.1 hR.1.2.1 h320 hR.1.2.2.1 heL) (by first | rfl | assumption) rfl rfl (Nat.le_of_ble_eq_true rfl) (by decide) (fun τ hq => ?_)
  refine q_bne 12 dX2_takeHour_7 (by decide) (fun h7 => ?_) (fun h7 => ?_)
  · obtain ⟨y, hy⟩ := sp_gr h7
    unfold sp_P2 at hq
    rw [hy] at hq
    have hR2 : sp_R σ0 c L D n y.2 τ := by
      rw [hq]
      exact hR.nm
    have h12 : τ 1 12 = y.1 := by rw [hq, q_up_at]
    have h11 : τ 1 11 = nI (sp_s c L e) := by rw [hq]; rfl
    have hyp := sp_num_p heL hy
    have hyw := q_win_t (sp_num_r hy).2.2.1
    have e0 : (0 : Int32).toInt = 0 := rfl
    have e23 : (23 : Int32).toInt = 23 := rfl
    have hyc := q_clamp (x := y.1) (by omega)
    clear hq
    refine q_aload_n dX2_takeHour_12 rfl ?_
    refine q_get fX2_103 dX2_takeHour_13 (by first | rfl | assumption) (by rfl) ?_
    refine q_tope (y := y.1) h12 ?_
    refine q_istore_n dX2_takeHour_16 (by decide) rfl ?_
    refine q_aload_n dX2_takeHour_17 rfl ?_
    refine q_getr fX2_18 dX2_takeHour_18 (by first | rfl | assumption) (by rfl) ?_
    refine q_getr fX2_145 dX2_takeHour_21 (by first | rfl | assumption) (by rfl) ?_
    refine q_iload_n dX2_takeHour_24 rfl ?_
    refine q_ild y.1.toNatClampNeg (by first | rfl | assumption) hyc (by omega) dX2_takeHour_25 ?_
    refine q_tope (y := D.2.1 y.1.toNatClampNeg) (hR2.2.2.1 _ (by omega)) ?_
    refine q_if_eq 35 dX2_takeHour_26 (by decide) (fun h26 => ?_) (fun h26 => ?_)
    · refine q_aload_n dX2_takeHour_35 rfl ?_
      refine q_gets 1 ⟨by decide, by decide⟩ gX2_131 dX2_takeHour_36 ?_
      refine q_iconst (x := 2) dX2_takeHour_39 (by decide) ?_
      refine q_tld 1 2 ⟨by decide, by decide⟩ rfl (by decide) dX2_takeHour_40 ?_
      refine q_tope (y := 250) rfl ?_
      refine q_gets 2 ⟨by decide, by decide⟩ gX2_135 dX2_takeHour_41 ?_
      refine q_iconst (x := 2) dX2_takeHour_44 (by decide) ?_
      refine q_tld 2 2 ⟨by decide, by decide⟩ rfl (by decide) dX2_takeHour_45 ?_
      refine q_tope (y := 350) rfl ?_
      refine q_rVi lX2_138 vX2_takeNumber (ci := 2) rfl dX2_takeHour_46 (kc_num hR2.1.1 hR2.1.2.1 h320 hR2.1.2.2.1 hyp.2) (by first | rfl | assumption) rfl rfl (Nat.le_of_ble_eq_true rfl) (by decide) (fun τ2 hq2 => ?_)
      refine q_bne 54 dX2_takeHour_49 (by decide) (fun h49 => ?_) (fun h49 => ?_)
      · obtain ⟨z, hz⟩ := sp_gr h49
        unfold sp_P2 at hq2
        rw [hz] at hq2
        have hR3 : sp_R σ0 c L D n z.2 τ2 := by
          rw [hq2]
          exact hR2.nm
        have h122 : τ2 1 12 = z.1 := by rw [hq2, q_up_at]
        have hzp := sp_num_p hyp.2 hz
        clear hq2
        refine q_aload_n dX2_takeHour_54 rfl ?_
        refine q_getr fX2_18 dX2_takeHour_55 (by first | rfl | assumption) (by rfl) ?_
        refine q_getr fX2_145 dX2_takeHour_58 (by first | rfl | assumption) (by rfl) ?_
        refine q_iload_n dX2_takeHour_61 rfl ?_
        refine q_aload_n dX2_takeHour_62 rfl ?_
        refine q_get fX2_103 dX2_takeHour_63 (by first | rfl | assumption) (by rfl) ?_
        refine q_tope (y := z.1) h122 ?_
        refine q_isto y.1.toNatClampNeg (by first | rfl | assumption) hyc (by omega) dX2_takeHour_66 ?_
        have hR4 := hR3.hour (r := y.1.toNatClampNeg) (v := z.1)
        refine q_aload_n dX2_takeHour_67 rfl ?_
        refine q_rVi lX2_116 vX2_takeStop (ci := 2) rfl dX2_takeHour_68 (kc_st hR4.1.1 hR4.1.2.1 h320 hR4.1.2.2.1 hzp.2) (by first | rfl | assumption) rfl rfl (Nat.le_of_ble_eq_true rfl) (by decide) (fun τ3 hq3 => ?_)
        refine q_bret dX2_takeHour_71 ?_ rfl rfl
        have hres : sp_hr c L D e = sp_b (sp_st c L z.2) (fun q => .inr ((D.1, sp_u D.2.1 y.1.toNatClampNeg z.1, D.2.2.1, D.2.2.2.1, D.2.2.2.2), q)) := by
          rw [sp_hr, hy]
          show (if ¬ D.2.1 y.1.toNatClampNeg = 0 then _ else sp_b (sp_num c L 250 350 y.2) _) = _
          rw [if_neg (fun q => q h26), hz]
          rfl
        rw [hres]
        have hf := sp_fin hR4 hq3
        exact ⟨congrArg some (congrArg q_b hf.1), rfl, hf.2⟩
      · refine q_iconst (x := 0) dX2_takeHour_52 (by decide) ?_
        refine q_ret0 dX2_takeHour_53 ?_ rfl rfl
        obtain ⟨w, hz⟩ := sp_gl h49
        unfold sp_P2 at hq2
        rw [hz] at hq2
        have hres : sp_hr c L D e = .inl w := by
          rw [sp_hr, hy]
          show (if ¬ D.2.1 y.1.toNatClampNeg = 0 then _ else sp_b (sp_num c L 250 350 y.2) _) = _
          rw [if_neg (fun q => q h26), hz]
          rfl
        exact ⟨by rw [hres]; rfl, rfl, by rw [hres]; exact hq2.tr hR2.fr⟩
    · refine q_aload_n dX2_takeHour_29 rfl ?_
      refine q_iconst (x := 4) dX2_takeHour_30 (by decide) ?_
      refine q_cVi lX2_70 vX2_fail (ci := 2) rfl dX2_takeHour_31 kX2_fail (by first | rfl | assumption) rfl rfl (Nat.le_of_ble_eq_true rfl) (by decide) ?_
      refine q_bret dX2_takeHour_34 ?_ rfl rfl
      have hres : sp_hr c L D e = .inl (4, sp_s c L e) := by
        rw [sp_hr, hy]
        exact if_pos h26
      exact ⟨by rw [hres]; rfl, rfl, by rw [hres]; exact rd_F.of (f := 4) hR2.fr h11⟩
  · refine q_iconst (x := 0) dX2_takeHour_10 (by decide) ?_
    refine q_ret0 dX2_takeHour_11 ?_ rfl rfl
    obtain ⟨w, hy⟩ := sp_gl h7
    unfold sp_P2 at hq
    rw [hy] at hq
    have hres : sp_hr c L D e = .inl w := by rw [sp_hr, hy]; rfl
    exact ⟨by rw [hres]; rfl, rfl, by rw [hres]; exact hq.tr hR.fr⟩
