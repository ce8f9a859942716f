/-! the constructor of the reference -/

def iv_z (σ : q_M) : q_M := (q_put (q_put (q_put (q_put (q_put (q_put (q_put (q_put (q_put (q_put (q_put (q_put (q_put σ 73 iv_0) 74 iv_0) 75 iv_0) 76 iv_0) 77 iv_0) 78 iv_0) 79 iv_0) 80 iv_0) 81 iv_0) 82 iv_0) 83 iv_0) 84 iv_0) 85 iv_0)
theorem iv_z_lo {σ : q_M} {b : Nat} (h : b < 73) : iv_z σ b = σ b := by
  unfold iv_z
  rw [q_put_ne (by omega), q_put_ne (by omega), q_put_ne (by omega), q_put_ne (by omega), q_put_ne (by omega), q_put_ne (by omega), q_put_ne (by omega), q_put_ne (by omega), q_put_ne (by omega), q_put_ne (by omega), q_put_ne (by omega), q_put_ne (by omega), q_put_ne (by omega)]
theorem iv_z_0 {σ : q_M} {b : Nat} (h1 : 73 ≤ b) (h2 : b < 86) : iv_z σ b = iv_0 := by
  rcases (show b = 73 ∨ b = 74 ∨ b = 75 ∨ b = 76 ∨ b = 77 ∨ b = 78 ∨ b = 79 ∨ b = 80 ∨ b = 81 ∨ b = 82 ∨ b = 83 ∨ b = 84 ∨ b = 85 by omega) with rfl | rfl | rfl | rfl | rfl | rfl | rfl | rfl | rfl | rfl | rfl | rfl | rfl <;> rfl
def iv_m (σ : q_M) : q_M := qm_kd (qm_fr (q_fill (iv_z σ) 83 (fun _ => -4) 4))

set_option maxHeartbeats 1000000 in
set_option maxRecDepth 100000 in
theorem lpX8_init {E : q_E} {σ : q_M} : ∀ (n : Nat) (i : Nat), 5 ≤ i + n → i ≤ 4 → q_G YX8_init E 13 2401 112 [some (.ref 72), some (.int (nI i))] [] q_SH (q_fill (iv_z σ) 83 (fun _ => -4) i) (q_is none q_SH (iv_m σ)) := by
  intro n
  induction n with
  | zero =>
    intro i hm h0
    exact absurd hm (by omega)
  | succ n ih =>
    intro i hm h0
    have hit := nI_toInt (n := i) (by omega)
    have e4 : (4 : Int32).toInt = 4 := rfl
    refine q_iload_n dX8_init_112 rfl ?_
    refine q_iconst (x := 4) dX8_init_113 (by decide) ?_
    refine q_cge 131 dX8_init_114 (by decide) (fun h114 => ?_) (fun h114 => ?_)
    · have e : i = 4 := by omega
      subst e
      refine q_aload_n dX8_init_131 rfl ?_
      refine q_cVv lX8_50 vX8_firstDraft (ci := 8) rfl dX8_init_132 kX8_firstDraft (by first | rfl | assumption) rfl rfl (Nat.le_of_ble_eq_true rfl) (by decide) ?_
      refine q_aload_n dX8_init_135 rfl ?_
      refine q_cVv lX8_53 vX8_keepDraft (ci := 8) rfl dX8_init_136 kX8_keepDraft (by first | rfl | assumption) rfl rfl (Nat.le_of_ble_eq_true rfl) (by decide) ?_
      refine q_vret dX8_init_139 ?_ rfl rfl
      exact ⟨rfl, rfl, rfl⟩
    · refine q_aload_n dX8_init_117 rfl ?_
      refine q_getr fX8_41 dX8_init_118 (by first | rfl | assumption) (by rfl) ?_
      refine q_iload_n dX8_init_121 rfl ?_
      refine q_bipush (x := (-4)) dX8_init_122 (by decide) ?_
      refine q_isto i (by first | rfl | assumption) hit (by omega) dX8_init_124 ?_
      refine q_mem (q_fill_s (iv_z σ) 83 (fun _ => -4) i) ?_
      refine q_inc 1 dX8_init_125 (by decide) rfl (by decide) rfl ?_
      refine q_goto 112 dX8_init_128 (by decide) ?_
      rw [nI_1]
      exact ih (i + 1) (by omega) (by omega)

set_option maxHeartbeats 4000000 in
set_option maxRecDepth 100000 in
theorem kX8_init {σ : q_M} : q_Ct YX8_init [.ref 72] ((q_SH.take 72) ++ [.inr (8, [some none, some none, some none, some none, some none, some none, some none, none, none, some none, none, none, none, none, none, none, none, none, none, none, none, none, some none, some none, none, none, none, some none, some none, some none, none])]) σ (q_is none q_SH (iv_m σ)) := by
  refine q_ct (n := 1) (by decide) (by decide) rfl (fun _ => Nat.le_of_ble_eq_true rfl) (fun E => ?_)
  refine q_aload_n dX8_init_0 rfl ?_
  refine q_objInit oX8_1 q_oi2 q_oi3 dX8_init_1 ⟨by decide, by decide⟩ ?_
  refine q_aload_n dX8_init_4 rfl ?_
  refine q_sipush (x := 300) dX8_init_5 (by decide) ?_
  refine q_newab (b := 73) (sh1 := ((q_SH.take 72) ++ [.inr (8, [some none, some none, some none, some none, some none, some none, some none, none, none, some none, none, none, none, none, none, none, none, none, none, none, none, none, some none, some none, none, none, none, some none, some none, some none, none]), iv_n 0 300])) (at0 := .int) (t := 0) (N := 300) rfl rfl (by decide) rfl q_ac_int dX8_init_8 ⟨by decide, by decide, by decide⟩ ⟨by decide, by decide, by decide⟩ ?_
  refine q_putFb (sh1 := ((q_SH.take 72) ++ [.inr (8, [some (some 73), some none, some none, some none, some none, some none, some none, none, none, some none, none, none, none, none, none, none, none, none, none, none, none, none, some none, some none, none, none, none, some none, some none, some none, none]), iv_n 0 300])) pX8_7 rfl (fun _ => ⟨rfl, rfl⟩) dX8_init_10 (by first | rfl | assumption) (by rfl) rfl ?_
  refine q_aload_n dX8_init_13 rfl ?_
  refine q_iconst (x := 2) dX8_init_14 (by decide) ?_
  refine q_newab (b := 74) (sh1 := ((q_SH.take 72) ++ [.inr (8, [some (some 73), some none, some none, some none, some none, some none, some none, none, none, some none, none, none, none, none, none, none, none, none, none, none, none, none, some none, some none, none, none, none, some none, some none, some none, none]), iv_n 0 300, iv_n 2 2])) (at0 := .boolean) (t := 2) (N := 2) rfl rfl (by decide) rfl q_ac_boolean dX8_init_15 ⟨by decide, by decide, by decide⟩ ⟨by decide, by decide, by decide⟩ ?_
  refine q_putFb (sh1 := ((q_SH.take 72) ++ [.inr (8, [some (some 73), some (some 74), some none, some none, some none, some none, some none, none, none, some none, none, none, none, none, none, none, none, none, none, none, none, none, some none, some none, none, none, none, some none, some none, some none, none]), iv_n 0 300, iv_n 2 2])) pX8_13 rfl (fun _ => ⟨rfl, rfl⟩) dX8_init_17 (by first | rfl | assumption) (by rfl) rfl ?_
  refine q_aload_n dX8_init_20 rfl ?_
  refine q_bipush (x := 7) dX8_init_21 (by decide) ?_
  refine q_newab (b := 75) (sh1 := ((q_SH.take 72) ++ [.inr (8, [some (some 73), some (some 74), some none, some none, some none, some none, some none, none, none, some none, none, none, none, none, none, none, none, none, none, none, none, none, some none, some none, none, none, none, some none, some none, some none, none]), iv_n 0 300, iv_n 2 2, iv_n 0 7])) (at0 := .int) (t := 0) (N := 7) rfl rfl (by decide) rfl q_ac_int dX8_init_23 ⟨by decide, by decide, by decide⟩ ⟨by decide, by decide, by decide⟩ ?_
  refine q_putFb (sh1 := ((q_SH.take 72) ++ [.inr (8, [some (some 73), some (some 74), some (some 75), some none, some none, some none, some none, none, none, some none, none, none, none, none, none, none, none, none, none, none, none, none, some none, some none, none, none, none, some none, some none, some none, none]), iv_n 0 300, iv_n 2 2, iv_n 0 7])) pX8_17 rfl (fun _ => ⟨rfl, rfl⟩) dX8_init_25 (by first | rfl | assumption) (by rfl) rfl ?_
  refine q_aload_n dX8_init_28 rfl ?_
  refine q_bipush (x := 24) dX8_init_29 (by decide) ?_
  refine q_newab (b := 76) (sh1 := ((q_SH.take 72) ++ [.inr (8, [some (some 73), some (some 74), some (some 75), some none, some none, some none, some none, none, none, some none, none, none, none, none, none, none, none, none, none, none, none, none, some none, some none, none, none, none, some none, some none, some none, none]), iv_n 0 300, iv_n 2 2, iv_n 0 7, iv_n 0 24])) (at0 := .int) (t := 0) (N := 24) rfl rfl (by decide) rfl q_ac_int dX8_init_31 ⟨by decide, by decide, by decide⟩ ⟨by decide, by decide, by decide⟩ ?_
  refine q_putFb (sh1 := ((q_SH.take 72) ++ [.inr (8, [some (some 73), some (some 74), some (some 75), some (some 76), some none, some none, some none, none, none, some none, none, none, none, none, none, none, none, none, none, none, none, none, some none, some none, none, none, none, some none, some none, some none, none]), iv_n 0 300, iv_n 2 2, iv_n 0 7, iv_n 0 24])) pX8_20 rfl (fun _ => ⟨rfl, rfl⟩) dX8_init_33 (by first | rfl | assumption) (by rfl) rfl ?_
  refine q_aload_n dX8_init_36 rfl ?_
  refine q_bipush (x := 7) dX8_init_37 (by decide) ?_
  refine q_newab (b := 77) (sh1 := ((q_SH.take 72) ++ [.inr (8, [some (some 73), some (some 74), some (some 75), some (some 76), some none, some none, some none, none, none, some none, none, none, none, none, none, none, none, none, none, none, none, none, some none, some none, none, none, none, some none, some none, some none, none]), iv_n 0 300, iv_n 2 2, iv_n 0 7, iv_n 0 24, iv_n 0 7])) (at0 := .int) (t := 0) (N := 7) rfl rfl (by decide) rfl q_ac_int dX8_init_39 ⟨by decide, by decide, by decide⟩ ⟨by decide, by decide, by decide⟩ ?_
  refine q_putFb (sh1 := ((q_SH.take 72) ++ [.inr (8, [some (some 73), some (some 74), some (some 75), some (some 76), some (some 77), some none, some none, none, none, some none, none, none, none, none, none, none, none, none, none, none, none, none, some none, some none, none, none, none, some none, some none, some none, none]), iv_n 0 300, iv_n 2 2, iv_n 0 7, iv_n 0 24, iv_n 0 7])) pX8_23 rfl (fun _ => ⟨rfl, rfl⟩) dX8_init_41 (by first | rfl | assumption) (by rfl) rfl ?_
  refine q_aload_n dX8_init_44 rfl ?_
  refine q_bipush (x := 24) dX8_init_45 (by decide) ?_
  refine q_newab (b := 78) (sh1 := ((q_SH.take 72) ++ [.inr (8, [some (some 73), some (some 74), some (some 75), some (some 76), some (some 77), some none, some none, none, none, some none, none, none, none, none, none, none, none, none, none, none, none, none, some none, some none, none, none, none, some none, some none, some none, none]), iv_n 0 300, iv_n 2 2, iv_n 0 7, iv_n 0 24, iv_n 0 7, iv_n 0 24])) (at0 := .int) (t := 0) (N := 24) rfl rfl (by decide) rfl q_ac_int dX8_init_47 ⟨by decide, by decide, by decide⟩ ⟨by decide, by decide, by decide⟩ ?_
  refine q_putFb (sh1 := ((q_SH.take 72) ++ [.inr (8, [some (some 73), some (some 74), some (some 75), some (some 76), some (some 77), some (some 78), some none, none, none, some none, none, none, none, none, none, none, none, none, none, none, none, none, some none, some none, none, none, none, some none, some none, some none, none]), iv_n 0 300, iv_n 2 2, iv_n 0 7, iv_n 0 24, iv_n 0 7, iv_n 0 24])) pX8_26 rfl (fun _ => ⟨rfl, rfl⟩) dX8_init_49 (by first | rfl | assumption) (by rfl) rfl ?_
  refine q_aload_n dX8_init_52 rfl ?_
  refine q_bipush (x := 48) dX8_init_53 (by decide) ?_
  refine q_newab (b := 79) (sh1 := ((q_SH.take 72) ++ [.inr (8, [some (some 73), some (some 74), some (some 75), some (some 76), some (some 77), some (some 78), some none, none, none, some none, none, none, none, none, none, none, none, none, none, none, none, none, some none, some none, none, none, none, some none, some none, some none, none]), iv_n 0 300, iv_n 2 2, iv_n 0 7, iv_n 0 24, iv_n 0 7, iv_n 0 24, iv_n 0 48])) (at0 := .int) (t := 0) (N := 48) rfl rfl (by decide) rfl q_ac_int dX8_init_55 ⟨by decide, by decide, by decide⟩ ⟨by decide, by decide, by decide⟩ ?_
  refine q_putFb (sh1 := ((q_SH.take 72) ++ [.inr (8, [some (some 73), some (some 74), some (some 75), some (some 76), some (some 77), some (some 78), some (some 79), none, none, some none, none, none, none, none, none, none, none, none, none, none, none, none, some none, some none, none, none, none, some none, some none, some none, none]), iv_n 0 300, iv_n 2 2, iv_n 0 7, iv_n 0 24, iv_n 0 7, iv_n 0 24, iv_n 0 48])) pX8_29 rfl (fun _ => ⟨rfl, rfl⟩) dX8_init_57 (by first | rfl | assumption) (by rfl) rfl ?_
  refine q_aload_n dX8_init_60 rfl ?_
  refine q_sipush (x := 320) dX8_init_61 (by decide) ?_
  refine q_newab (b := 80) (sh1 := ((q_SH.take 72) ++ [.inr (8, [some (some 73), some (some 74), some (some 75), some (some 76), some (some 77), some (some 78), some (some 79), none, none, some none, none, none, none, none, none, none, none, none, none, none, none, none, some none, some none, none, none, none, some none, some none, some none, none]), iv_n 0 300, iv_n 2 2, iv_n 0 7, iv_n 0 24, iv_n 0 7, iv_n 0 24, iv_n 0 48, iv_n 0 320])) (at0 := .int) (t := 0) (N := 320) rfl rfl (by decide) rfl q_ac_int dX8_init_64 ⟨by decide, by decide, by decide⟩ ⟨by decide, by decide, by decide⟩ ?_
  refine q_putFb (sh1 := ((q_SH.take 72) ++ [.inr (8, [some (some 73), some (some 74), some (some 75), some (some 76), some (some 77), some (some 78), some (some 79), none, none, some (some 80), none, none, none, none, none, none, none, none, none, none, none, none, some none, some none, none, none, none, some none, some none, some none, none]), iv_n 0 300, iv_n 2 2, iv_n 0 7, iv_n 0 24, iv_n 0 7, iv_n 0 24, iv_n 0 48, iv_n 0 320])) pX8_32 rfl (fun _ => ⟨rfl, rfl⟩) dX8_init_66 (by first | rfl | assumption) (by rfl) rfl ?_
  refine q_aload_n dX8_init_69 rfl ?_
  refine q_sipush (x := 501) dX8_init_70 (by decide) ?_
  refine q_newab (b := 81) (sh1 := ((q_SH.take 72) ++ [.inr (8, [some (some 73), some (some 74), some (some 75), some (some 76), some (some 77), some (some 78), some (some 79), none, none, some (some 80), none, none, none, none, none, none, none, none, none, none, none, none, some none, some none, none, none, none, some none, some none, some none, none]), iv_n 0 300, iv_n 2 2, iv_n 0 7, iv_n 0 24, iv_n 0 7, iv_n 0 24, iv_n 0 48, iv_n 0 320, iv_n 2 501])) (at0 := .boolean) (t := 2) (N := 501) rfl rfl (by decide) rfl q_ac_boolean dX8_init_73 ⟨by decide, by decide, by decide⟩ ⟨by decide, by decide, by decide⟩ ?_
  refine q_putFb (sh1 := ((q_SH.take 72) ++ [.inr (8, [some (some 73), some (some 74), some (some 75), some (some 76), some (some 77), some (some 78), some (some 79), none, none, some (some 80), none, none, none, none, none, none, none, none, none, none, none, none, some (some 81), some none, none, none, none, some none, some none, some none, none]), iv_n 0 300, iv_n 2 2, iv_n 0 7, iv_n 0 24, iv_n 0 7, iv_n 0 24, iv_n 0 48, iv_n 0 320, iv_n 2 501])) pX8_35 rfl (fun _ => ⟨rfl, rfl⟩) dX8_init_75 (by first | rfl | assumption) (by rfl) rfl ?_
  refine q_aload_n dX8_init_78 rfl ?_
  refine q_sipush (x := 1000) dX8_init_79 (by decide) ?_
  refine q_newab (b := 82) (sh1 := ((q_SH.take 72) ++ [.inr (8, [some (some 73), some (some 74), some (some 75), some (some 76), some (some 77), some (some 78), some (some 79), none, none, some (some 80), none, none, none, none, none, none, none, none, none, none, none, none, some (some 81), some none, none, none, none, some none, some none, some none, none]), iv_n 0 300, iv_n 2 2, iv_n 0 7, iv_n 0 24, iv_n 0 7, iv_n 0 24, iv_n 0 48, iv_n 0 320, iv_n 2 501, iv_n 0 1000])) (at0 := .int) (t := 0) (N := 1000) rfl rfl (by decide) rfl q_ac_int dX8_init_82 ⟨by decide, by decide, by decide⟩ ⟨by decide, by decide, by decide⟩ ?_
  refine q_putFb (sh1 := ((q_SH.take 72) ++ [.inr (8, [some (some 73), some (some 74), some (some 75), some (some 76), some (some 77), some (some 78), some (some 79), none, none, some (some 80), none, none, none, none, none, none, none, none, none, none, none, none, some (some 81), some (some 82), none, none, none, some none, some none, some none, none]), iv_n 0 300, iv_n 2 2, iv_n 0 7, iv_n 0 24, iv_n 0 7, iv_n 0 24, iv_n 0 48, iv_n 0 320, iv_n 2 501, iv_n 0 1000])) pX8_38 rfl (fun _ => ⟨rfl, rfl⟩) dX8_init_84 (by first | rfl | assumption) (by rfl) rfl ?_
  refine q_aload_n dX8_init_87 rfl ?_
  refine q_iconst (x := 4) dX8_init_88 (by decide) ?_
  refine q_newab (b := 83) (sh1 := ((q_SH.take 72) ++ [.inr (8, [some (some 73), some (some 74), some (some 75), some (some 76), some (some 77), some (some 78), some (some 79), none, none, some (some 80), none, none, none, none, none, none, none, none, none, none, none, none, some (some 81), some (some 82), none, none, none, some none, some none, some none, none]), iv_n 0 300, iv_n 2 2, iv_n 0 7, iv_n 0 24, iv_n 0 7, iv_n 0 24, iv_n 0 48, iv_n 0 320, iv_n 2 501, iv_n 0 1000, iv_n 0 4])) (at0 := .int) (t := 0) (N := 4) rfl rfl (by decide) rfl q_ac_int dX8_init_89 ⟨by decide, by decide, by decide⟩ ⟨by decide, by decide, by decide⟩ ?_
  refine q_putFb (sh1 := ((q_SH.take 72) ++ [.inr (8, [some (some 73), some (some 74), some (some 75), some (some 76), some (some 77), some (some 78), some (some 79), none, none, some (some 80), none, none, none, none, none, none, none, none, none, none, none, none, some (some 81), some (some 82), none, none, none, some (some 83), some none, some none, none]), iv_n 0 300, iv_n 2 2, iv_n 0 7, iv_n 0 24, iv_n 0 7, iv_n 0 24, iv_n 0 48, iv_n 0 320, iv_n 2 501, iv_n 0 1000, iv_n 0 4])) pX8_41 rfl (fun _ => ⟨rfl, rfl⟩) dX8_init_91 (by first | rfl | assumption) (by rfl) rfl ?_
  refine q_aload_n dX8_init_94 rfl ?_
  refine q_iconst (x := 4) dX8_init_95 (by decide) ?_
  refine q_newab (b := 84) (sh1 := ((q_SH.take 72) ++ [.inr (8, [some (some 73), some (some 74), some (some 75), some (some 76), some (some 77), some (some 78), some (some 79), none, none, some (some 80), none, none, none, none, none, none, none, none, none, none, none, none, some (some 81), some (some 82), none, none, none, some (some 83), some none, some none, none]), iv_n 0 300, iv_n 2 2, iv_n 0 7, iv_n 0 24, iv_n 0 7, iv_n 0 24, iv_n 0 48, iv_n 0 320, iv_n 2 501, iv_n 0 1000, iv_n 0 4, iv_n 0 4])) (at0 := .int) (t := 0) (N := 4) rfl rfl (by decide) rfl q_ac_int dX8_init_96 ⟨by decide, by decide, by decide⟩ ⟨by decide, by decide, by decide⟩ ?_
  refine q_putFb (sh1 := ((q_SH.take 72) ++ [.inr (8, [some (some 73), some (some 74), some (some 75), some (some 76), some (some 77), some (some 78), some (some 79), none, none, some (some 80), none, none, none, none, none, none, none, none, none, none, none, none, some (some 81), some (some 82), none, none, none, some (some 83), some (some 84), some none, none]), iv_n 0 300, iv_n 2 2, iv_n 0 7, iv_n 0 24, iv_n 0 7, iv_n 0 24, iv_n 0 48, iv_n 0 320, iv_n 2 501, iv_n 0 1000, iv_n 0 4, iv_n 0 4])) pX8_44 rfl (fun _ => ⟨rfl, rfl⟩) dX8_init_98 (by first | rfl | assumption) (by rfl) rfl ?_
  refine q_aload_n dX8_init_101 rfl ?_
  refine q_sipush (x := 160) dX8_init_102 (by decide) ?_
  refine q_newab (b := 85) (sh1 := ((q_SH.take 72) ++ [.inr (8, [some (some 73), some (some 74), some (some 75), some (some 76), some (some 77), some (some 78), some (some 79), none, none, some (some 80), none, none, none, none, none, none, none, none, none, none, none, none, some (some 81), some (some 82), none, none, none, some (some 83), some (some 84), some none, none]), iv_n 0 300, iv_n 2 2, iv_n 0 7, iv_n 0 24, iv_n 0 7, iv_n 0 24, iv_n 0 48, iv_n 0 320, iv_n 2 501, iv_n 0 1000, iv_n 0 4, iv_n 0 4, iv_n 0 160])) (at0 := .int) (t := 0) (N := 160) rfl rfl (by decide) rfl q_ac_int dX8_init_105 ⟨by decide, by decide, by decide⟩ ⟨by decide, by decide, by decide⟩ ?_
  refine q_putFb (sh1 := q_SH) pX8_47 rfl (fun _ => ⟨rfl, rfl⟩) dX8_init_107 (by first | rfl | assumption) (by rfl) rfl ?_
  refine q_iconst (x := 0) dX8_init_110 (by decide) ?_
  refine q_istore_n dX8_init_111 (by decide) rfl ?_
  have z := lpX8_init (E := E) (σ := σ) 5 0 (by omega) (by omega)
  rw [q_fill_0] at z
  exact z
