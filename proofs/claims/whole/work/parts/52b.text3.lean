set_option maxHeartbeats 1000000 in
set_option maxRecDepth 100000 in
theorem kX2_takeRuleLineB {σ : q_M} {σ0 : q_M} {c : Nat → Int32} {L n : Nat} {D : sp_D} (h320 : L ≤ 320) {k s e : Nat} (hk : σ 1 10 = nI k) (hk5 : k ≤ 5) (hs : σ 1 11 = nI s) (hse : s ≤ e) (heL : e ≤ L) (hR : sp_R σ0 c L D n e σ) (hbad : ¬ k = 1 ∨ sp_rn c s e = 7) : q_Ct YX2_takeRuleLine [.ref 1] q_SH σ (q_re (q_b false) q_SH (fun τ => rd_F σ0 τ (2, s))) := by
  refine q_ct (n := 1) (by decide) (by decide) rfl (fun _ => Nat.le_of_ble_eq_true rfl) (fun E => ?_)
  have hri : sp_ri k c s e = -4 := by
    by_cases h1 : k = 1
    · subst h1
      rw [sp_ri_1]
      rcases hbad with hb | hb
      · exact absurd rfl hb
      · rw [if_pos hb]
    · exact sp_ri_n h1 c s e
  refine q_aload_n dX2_takeRuleLine_0 rfl ?_
  refine q_cVi lX2_110 vX2_ruleNamed (ci := 2) rfl dX2_takeRuleLine_1 (kc_ri hR.1.1 hk hk5 hs hR.1.2.2.1 hse (by omega)) (by first | rfl | assumption) rfl rfl (Nat.le_of_ble_eq_true rfl) (by decide) ?_
  refine q_tope (y := -4) hri ?_
  refine q_istore_n dX2_takeRuleLine_4 (by decide) rfl ?_
  refine q_iload_n dX2_takeRuleLine_5 rfl ?_
  refine q_bipush (x := (-4)) dX2_takeRuleLine_6 (by decide) ?_
  refine q_icmp_ne 17 dX2_takeRuleLine_8 (by decide) (fun h8 => ?_) (fun h8 => ?_)
  · exact absurd rfl h8
  · refine q_aload_n dX2_takeRuleLine_11 rfl ?_
    refine q_iconst (x := 2) dX2_takeRuleLine_12 (by decide) ?_
    refine q_cVi lX2_70 vX2_fail (ci := 2) rfl dX2_takeRuleLine_13 kX2_fail (by first | rfl | assumption) rfl rfl (Nat.le_of_ble_eq_true rfl) (by decide) ?_
    refine q_bret dX2_takeRuleLine_16 ?_ rfl rfl
    exact ⟨rfl, rfl, rd_F.of (f := 2) hR.fr hs⟩
