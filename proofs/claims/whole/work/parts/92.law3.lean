/-! THE LAW: its loop -/
theorem lw_sw {E : q_E} {i : Nat} {σ : q_M} {Q : q_P} {x : Int32} (hi : i + 8 ≤ q_L E) (hL : q_L E ≤ 4096) (hR : r_R σ) (K : ∀ ρ, r_R ρ → q_G YL_law E 86 3995 1604 [some (.ref 1000000), some (.ref 0), some (.ref 72), some (.int (nI i))] [] q_SH ρ Q) : q_G YL_law E 86 3995 33 [some (.ref 1000000), some (.ref 0), some (.ref 72), some (.int (nI i))] [.int x] q_SH σ Q := by
  rcases q_sw 42 x with hsw | ⟨jsw, hsw, rfl⟩
  · exact q_tabOut 1604 dL_law_33 (by omega) (by decide) (K σ hR)
  · rcases (show jsw = 0 ∨ jsw = 1 ∨ jsw = 2 ∨ jsw = 3 ∨ jsw = 4 ∨ jsw = 5 ∨ jsw = 6 ∨ jsw = 7 ∨ jsw = 8 ∨ jsw = 9 ∨ jsw = 10 ∨ jsw = 11 ∨ jsw = 12 ∨ jsw = 13 ∨ jsw = 14 ∨ jsw = 15 ∨ jsw = 16 ∨ jsw = 17 ∨ jsw = 18 ∨ jsw = 19 ∨ jsw = 20 ∨ jsw = 21 ∨ jsw = 22 ∨ jsw = 23 ∨ jsw = 24 ∨ jsw = 25 ∨ jsw = 26 ∨ jsw = 27 ∨ jsw = 28 ∨ jsw = 29 ∨ jsw = 30 ∨ jsw = 31 ∨ jsw = 32 ∨ jsw = 33 ∨ jsw = 34 ∨ jsw = 35 ∨ jsw = 36 ∨ jsw = 37 ∨ jsw = 38 ∨ jsw = 39 ∨ jsw = 40 ∨ jsw = 41 by omega) with rfl | rfl | rfl | rfl | rfl | rfl | rfl | rfl | rfl | rfl | rfl | rfl | rfl | rfl | rfl | rfl | rfl | rfl | rfl | rfl | rfl | rfl | rfl | rfl | rfl | rfl | rfl | rfl | rfl | rfl | rfl | rfl | rfl | rfl | rfl | rfl | rfl | rfl | rfl | rfl | rfl | rfl
    · exact q_tabIn 216 dL_law_33 (by decide) (by decide) rfl (by decide) (cs_0 hi hL hR K)
    · exact q_tabIn 269 dL_law_33 (by decide) (by decide) rfl (by decide) (cs_1 hi hL hR K)
    · exact q_tabIn 292 dL_law_33 (by decide) (by decide) rfl (by decide) (cs_2 hi hL hR K)
    · exact q_tabIn 305 dL_law_33 (by decide) (by decide) rfl (by decide) (cs_3 hi hL hR K)
    · exact q_tabIn 318 dL_law_33 (by decide) (by decide) rfl (by decide) (cs_4 hi hL hR K)
    · exact q_tabIn 341 dL_law_33 (by decide) (by decide) rfl (by decide) (cs_5 hi hL hR K)
    · exact q_tabIn 374 dL_law_33 (by decide) (by decide) rfl (by decide) (cs_6 hi hL hR K)
    · exact q_tabIn 397 dL_law_33 (by decide) (by decide) rfl (by decide) (cs_7 hi hL hR K)
    · exact q_tabIn 420 dL_law_33 (by decide) (by decide) rfl (by decide) (cs_8 hi hL hR K)
    · exact q_tabIn 443 dL_law_33 (by decide) (by decide) rfl (by decide) (cs_9 hi hL hR K)
    · exact q_tabIn 476 dL_law_33 (by decide) (by decide) rfl (by decide) (cs_10 hi hL hR K)
    · exact q_tabIn 499 dL_law_33 (by decide) (by decide) rfl (by decide) (cs_11 hi hL hR K)
    · exact q_tabIn 512 dL_law_33 (by decide) (by decide) rfl (by decide) (cs_12 hi hL hR K)
    · exact q_tabIn 535 dL_law_33 (by decide) (by decide) rfl (by decide) (cs_13 hi hL hR K)
    · exact q_tabIn 578 dL_law_33 (by decide) (by decide) rfl (by decide) (cs_14 hi hL hR K)
    · exact q_tabIn 611 dL_law_33 (by decide) (by decide) rfl (by decide) (cs_15 hi hL hR K)
    · exact q_tabIn 644 dL_law_33 (by decide) (by decide) rfl (by decide) (cs_16 hi hL hR K)
    · exact q_tabIn 667 dL_law_33 (by decide) (by decide) rfl (by decide) (cs_17 hi hL hR K)
    · exact q_tabIn 690 dL_law_33 (by decide) (by decide) rfl (by decide) (cs_18 hi hL hR K)
    · exact q_tabIn 713 dL_law_33 (by decide) (by decide) rfl (by decide) (cs_19 hi hL hR K)
    · exact q_tabIn 726 dL_law_33 (by decide) (by decide) rfl (by decide) (cs_20 hi hL hR K)
    · exact q_tabIn 749 dL_law_33 (by decide) (by decide) rfl (by decide) (cs_21 hi hL hR K)
    · exact q_tabIn 792 dL_law_33 (by decide) (by decide) rfl (by decide) (cs_22 hi hL hR K)
    · exact q_tabIn 835 dL_law_33 (by decide) (by decide) rfl (by decide) (cs_23 hi hL hR K)
    · exact q_tabIn 878 dL_law_33 (by decide) (by decide) rfl (by decide) (cs_24 hi hL hR K)
    · exact q_tabIn 965 dL_law_33 (by decide) (by decide) rfl (by decide) (cs_25 hi hL hR K)
    · exact q_tabIn 1028 dL_law_33 (by decide) (by decide) rfl (by decide) (cs_26 hi hL hR K)
    · exact q_tabIn 1103 dL_law_33 (by decide) (by decide) rfl (by decide) (cs_27 hi hL hR K)
    · exact q_tabIn 1136 dL_law_33 (by decide) (by decide) rfl (by decide) (cs_28 hi hL hR K)
    · exact q_tabIn 1159 dL_law_33 (by decide) (by decide) rfl (by decide) (cs_29 hi hL hR K)
    · exact q_tabIn 1212 dL_law_33 (by decide) (by decide) rfl (by decide) (cs_30 hi hL hR K)
    · exact q_tabIn 1265 dL_law_33 (by decide) (by decide) rfl (by decide) (cs_31 hi hL hR K)
    · exact q_tabIn 1324 dL_law_33 (by decide) (by decide) rfl (by decide) (cs_32 hi hL hR K)
    · exact q_tabIn 1337 dL_law_33 (by decide) (by decide) rfl (by decide) (cs_33 hi hL hR K)
    · exact q_tabIn 1370 dL_law_33 (by decide) (by decide) rfl (by decide) (cs_34 hi hL hR K)
    · exact q_tabIn 1383 dL_law_33 (by decide) (by decide) rfl (by decide) (cs_35 hi hL hR K)
    · exact q_tabIn 1406 dL_law_33 (by decide) (by decide) rfl (by decide) (cs_36 hi hL hR K)
    · exact q_tabIn 1429 dL_law_33 (by decide) (by decide) rfl (by decide) (cs_37 hi hL hR K)
    · exact q_tabIn 1472 dL_law_33 (by decide) (by decide) rfl (by decide) (cs_38 hi hL hR K)
    · exact q_tabIn 1515 dL_law_33 (by decide) (by decide) rfl (by decide) (cs_39 hi hL hR K)
    · exact q_tabIn 1568 dL_law_33 (by decide) (by decide) rfl (by decide) (cs_40 hi hL hR K)
    · exact q_tabIn 1581 dL_law_33 (by decide) (by decide) rfl (by decide) (cs_41 hi hL hR K)
theorem lw_lp {E : q_E} {Q : q_P} (hL : q_L E ≤ 4096) (hQ : ∀ σ, Q (some 1) q_SH σ) : ∀ (n i : Nat) (σ : q_M), q_L E + 8 ≤ i + 8 * n → i ≤ q_L E → r_R σ → q_G YL_law E 86 3995 18 [some (.ref 1000000), some (.ref 0), some (.ref 72), some (.int (nI i))] [] q_SH σ Q := by
  intro n
  induction n with
  | zero =>
    intro i σ hm h0
    exact absurd hm (by omega)
  | succ n ih =>
    intro i σ hm h0 hR
    have hi := nI_toInt (n := i) (by omega)
    have hl := nI_toInt (n := q_L E) (by omega)
    have z8 : (8 : Int32).toInt = 8 := rfl
    have es : (nI (q_L E) - 8).toInt = (q_L E : Int) - 8 := by rw [i_sub (by omega) (by omega), hl, z8]
    refine q_iload_n dL_law_18 rfl ?_
    refine q_aload_n dL_law_19 rfl ?_
    refine q_slen dL_law_20 ?_
    refine q_bipush (x := 8) dL_law_21 (by decide) ?_
    refine q_isub dL_law_23 ?_
    refine q_cgt 1610 dL_law_24 (by decide) (fun h24 => ?_) (fun h24 => ?_)
    · refine q_iconst (x := 1) dL_law_1610 (by decide) ?_
      exact q_iret dL_law_1611 (hQ σ) ⟨_, rfl, rfl⟩ (Or.inr rfl)
    · have h24 : (nI i).toInt ≤ (nI (q_L E) - 8).toInt := h24
      have hi8 : i + 8 ≤ q_L E := by omega
      refine q_aload_n dL_law_27 rfl ?_
      refine q_iload_n dL_law_28 rfl ?_
      refine q_sald (q_ix (j := i) hi (by omega)).1 dL_law_29 ?_
      refine q_bipush (x := 63) dL_law_30 (by decide) ?_
      refine q_iand dL_law_32 ?_
      refine lw_sw hi8 hL hR (fun ρ hρ => ?_)
      refine q_inc (x := nI i) 8 dL_law_1604 (by decide) rfl (by decide) (ls' := [some (.ref 1000000), some (.ref 0), some (.ref 72), some (.int (nI (i + 8)))]) (by rw [show nI i + 8 = nI (i + 8) from (nI_add (a := i) (b := 8))]; rfl) ?_
      refine q_goto 18 dL_law_1607 (by decide) ?_
      exact ih (i + 8) ρ (by omega) (by omega) hρ
/-! how the two sides begin -/
theorem r_R0 {ρ : q_M} (h : ∀ b, b < 72 → b ≠ 17 → ρ b = iv_w b) (h17 : ρ 17 = upd iv_0 4 293) (h72 : ρ 72 = iv_0) : r_R (iv_m ρ) := by
  have fn : ∀ {σ : q_M} {a b i : Nat} {f : Nat → Int32}, ¬ b = a → q_fill σ a f i b = σ b := fun hn => if_neg hn
  have fa : ∀ {σ : q_M} {a i j : Nat} {f : Nat → Int32}, j < i → q_fill σ a f i a j = f j := fun {σ a i j f} hj => by
    show (if a = a then (fun j => if j < i then f j else σ a j) else σ a) j = f j
    rw [if_pos rfl]
    exact if_pos hj
  have fz : ∀ {σ : q_M} {a i j : Nat} {f : Nat → Int32}, ¬ j < i → q_fill σ a f i a j = σ a j := fun {σ a i j f} hj => by
    show (if a = a then (fun j => if j < i then f j else σ a j) else σ a) j = σ a j
    rw [if_pos rfl]
    exact if_neg hj
  -- behind firstDraft
  have n1 : ∀ b, ¬ b = 72 → ¬ b = 77 → ¬ b = 78 → ¬ b = 79 → ¬ b = 83 → qm_fr (q_fill (iv_z ρ) 83 (fun _ => -4) 4) b = iv_z ρ b := fun b a1 a2 a3 a4 a5 => by
    unfold qm_fr
    rw [q_up_ne a1, q_up_ne a1, fn a4, fn a3, fn a2, fn a5]
  have n72 : ∀ k, qm_fr (q_fill (iv_z ρ) 83 (fun _ => -4) 4) 72 k = 0 := fun k => by
    unfold qm_fr
    by_cases e8 : k = 8
    · rw [e8, q_up_at]
    · rw [q_up_f e8]
      by_cases e7 : k = 7
      · rw [e7, q_up_at]
      · rw [q_up_f e7, fn (by decide), fn (by decide), fn (by decide), fn (by decide), iv_z_lo (by decide), h72]
        rfl
  have n77 : ∀ k, k < 7 → qm_fr (q_fill (iv_z ρ) 83 (fun _ => -4) 4) 77 k = qm_r7 k := fun k hk => by
    unfold qm_fr
    rw [q_up_ne (by decide), q_up_ne (by decide), fn (by decide), fn (by decide), fa hk]
  have n78 : ∀ k, k < 24 → qm_fr (q_fill (iv_z ρ) 83 (fun _ => -4) 4) 78 k = 0 := fun k hk => by
    unfold qm_fr
    rw [q_up_ne (by decide), q_up_ne (by decide), fn (by decide), fa hk]
  have n79 : ∀ k, k < 48 → qm_fr (q_fill (iv_z ρ) 83 (fun _ => -4) 4) 79 k = 0 := fun k hk => by
    unfold qm_fr
    rw [q_up_ne (by decide), q_up_ne (by decide), fa hk]
  have n83 : ∀ k, k < 4 → qm_fr (q_fill (iv_z ρ) 83 (fun _ => -4) 4) 83 k = -4 := fun k hk => by
    unfold qm_fr
    rw [q_up_ne (by decide), q_up_ne (by decide), fn (by decide), fn (by decide), fn (by decide), fa hk]
  -- behind keepDraft
  unfold iv_m
  generalize qm_fr (q_fill (iv_z ρ) 83 (fun _ => -4) 4) = ν at *
  have ko : ∀ b, ¬ b = 73 → ¬ b = 74 → ¬ b = 75 → ¬ b = 76 → qm_kd ν b = ν b := fun b a1 a2 a3 a4 => by
    unfold qm_kd
    rw [q_up_ne a2, q_up_ne a2, q_up_ne a1, q_up_ne a1, q_up_ne a1, fn a1, fn a4, fn a3]
  have lo : ∀ b, b < 72 → ¬ b = 17 → qm_kd ν b = iv_w b := fun b hb h7 => by rw [ko b (by omega) (by omega) (by omega) (by omega), n1 b (by omega) (by omega) (by omega) (by omega) (by omega), iv_z_lo (by omega), h b hb h7]
  have l17 : qm_kd ν 17 = upd iv_0 4 293 := by rw [ko 17 (by decide) (by decide) (by decide) (by decide), n1 17 (by decide) (by decide) (by decide) (by decide) (by decide), iv_z_lo (by decide), h17]
  have k72 : ∀ k, qm_kd ν 72 k = 0 := fun k => by rw [ko 72 (by decide) (by decide) (by decide) (by decide), n72]
  have k73 : ∀ k, ¬ k = 49 → qm_kd ν 73 k = 0 := fun k h49 => by
    unfold qm_kd
    rw [q_up_ne (by decide), q_up_ne (by decide)]
    by_cases e53 : k = 53
    · rw [e53, q_up_at, n72]
    · rw [q_up_f e53]
      by_cases e51 : k = 51
      · rw [e51, q_up_at, n77 6 (by decide)]
        rfl
      · rw [q_up_f e51, q_up_f h49]
        by_cases h100 : k < 100
        · rw [fa h100]
          split
          · exact n79 k (by assumption)
          · rfl
        · rw [fz h100, fn (by decide), fn (by decide), n1 73 (by decide) (by decide) (by decide) (by decide) (by decide), iv_z_0 (by decide) (by decide)]
          rfl
  have k49 : qm_kd ν 73 49 = 293 := by
    unfold qm_kd
    rw [q_up_ne (by decide), q_up_ne (by decide), q_up_f (by decide), q_up_f (by decide), q_up_at, n77 2 (by decide)]
    rfl
  have k74 : ∀ k, k < 2 → qm_kd ν 74 k = 0 := fun k hk => by
    unfold qm_kd
    rcases (show k = 0 ∨ k = 1 by omega) with rfl | rfl
    · rw [q_up_f (by decide), q_up_at]
    · rw [q_up_at]
  have k75 : ∀ k, k < 7 → qm_kd ν 75 k = qm_r7 k := fun k hk => by
    unfold qm_kd
    rw [q_up_ne (by decide), q_up_ne (by decide), q_up_ne (by decide), q_up_ne (by decide), q_up_ne (by decide), fn (by decide), fn (by decide), fa hk, n77 k hk]
  have k76 : ∀ k, k < 24 → qm_kd ν 76 k = 293 := fun k hk => by
    unfold qm_kd
    rw [q_up_ne (by decide), q_up_ne (by decide), q_up_ne (by decide), q_up_ne (by decide), q_up_ne (by decide), fn (by decide), fa hk]
    rw [if_pos (n78 k hk), n77 2 (by decide)]
    rfl
  have k83 : ∀ k, k < 4 → qm_kd ν 83 k = -4 := fun k hk => by rw [ko 83 (by decide) (by decide) (by decide) (by decide), n83 k hk]
  have kz : ∀ b, b = 80 ∨ b = 84 ∨ b = 85 → qm_kd ν b = iv_0 := fun b hb => by rw [ko b (by omega) (by omega) (by omega) (by omega), n1 b (by omega) (by omega) (by omega) (by omega) (by omega), iv_z_0 (by omega) (by omega)]
  generalize qm_kd ν = μ at *
  refine ⟨⟨fun r hr => ?_, fun g hg => ?_⟩, ⟨0, 0, ?_⟩, fun j hj => ?_, ⟨0, ?_, ?_, by decide, fun i hi => by omega⟩, fun k hk => ?_, ?_, ?_⟩
  · rw [k75 r hr, lo 15 (by decide) (by decide)]
    have z : ∀ r, r < 7 → qm_r7 r = iv_w 15 r ∧ q_win (iv_w 15 r) (q_tab 1 r) (q_tab 2 r) = true := by decide
    exact z r hr
  · rw [k76 g hg, lo 16 (by decide) (by decide)]
    have z : ∀ g, g < 24 → 293 = iv_w 16 g ∧ q_win (iv_w 16 g) 250 350 = true := by decide
    exact z g hg
  · unfold r_s
    rw [l17, show μ 73 (49 + 0) = 293 from k49, k73 (53 + 0) (by decide), k73 (48 + 0) (by decide), k73 (50 + 0) (by decide), k73 (51 + 0) (by decide), k73 (52 + 0) (by decide), k73 (54 + 0) (by decide), lo (17 + 2) (by decide) (by decide)]
    refine ⟨⟨by decide, by decide, by decide⟩, ⟨by decide, by decide⟩, ⟨by decide, by decide⟩, by decide, ⟨by decide, by decide⟩, by decide, ⟨by decide, by decide, by decide⟩, fun k hk => by omega, fun i hi => by omega⟩
  · rw [k74 j hj, lo 30 (by decide) (by decide)]
    have z : iv_w 30 j = 0 := rfl
    rw [z]
    exact ⟨Or.inl rfl, rfl, fun q => absurd rfl q⟩
  · rw [lo 1 (by decide) (by decide)]
    rfl
  · rw [k72]
    rfl
  · rw [k83 k hk, kz 84 (by decide), kz 85 (by decide), lo (56 + 2 * k) (by omega) (by omega), lo (57 + 2 * k) (by omega) (by omega)]
    rcases (show k = 0 ∨ k = 1 ∨ k = 2 ∨ k = 3 by omega) with rfl | rfl | rfl | rfl
    · exact ⟨by decide, by decide, ⟨0, by decide, by decide⟩, fun i _ => rfl⟩
    · exact ⟨by decide, by decide, ⟨0, by decide, by decide⟩, fun i _ => rfl⟩
    · exact ⟨by decide, by decide, ⟨0, by decide, by decide⟩, fun i _ => rfl⟩
    · exact ⟨by decide, by decide, ⟨0, by decide, by decide⟩, fun i _ => rfl⟩
  · rw [k72, lo 0 (by decide) (by decide)]
    rfl
  · rw [k72, lo 0 (by decide) (by decide)]
    rfl
set_option maxHeartbeats 1000000 in
set_option maxRecDepth 100000 in
theorem lw_go {E : q_E} {Q : q_P} {σ : q_M} (hL : q_L E ≤ 4096) (hQ : ∀ σ, Q (some 1) q_SH σ) : q_G YL_law E 0 0 0 [some (.ref 1000000), none, none, none] [] [] σ Q := by
  refine q_newb (b := 0) (sh1 := [iv_d [none, none, none, none, none, none, none, none, none]]) rfl rfl nL_7 dL_law_0 ⟨by decide, by decide, by decide⟩ ?_
  refine q_dup rfl dL_law_3 ?_
  refine q_rIv lL_9 iX7_init ⟨rfl, rfl⟩ dL_law_4 (kX7_init (by simp [q_put])) rfl rfl (Nat.le_of_ble_eq_true rfl) ⟨⟨by decide, by decide⟩, by decide, by decide⟩ (fun τ hτ => ?_)
  refine q_astore_n dL_law_7 (by decide) rfl ?_
  refine q_newb (b := 72) (by decide) rfl nL_10 dL_law_8 ⟨by decide, by decide, by decide⟩ ?_
  refine q_dup rfl dL_law_11 ?_
  refine q_cIv lL_12 iX8_init ⟨rfl, rfl⟩ dL_law_12 kX8_init rfl rfl (Nat.le_of_ble_eq_true rfl) ⟨⟨by decide, by decide⟩, by decide, by decide⟩ ?_
  refine q_astore_n dL_law_15 (by decide) rfl ?_
  refine q_iconst (x := 0) dL_law_16 (by decide) ?_
  refine q_istore_n dL_law_17 (by decide) rfl ?_
  exact lw_lp hL hQ (q_L E + 8) 0 _ (by omega) (by omega) (r_R0 (fun b h1 h2 => by rw [show q_put τ 72 iv_0 b = τ b from if_neg (by omega)]; exact hτ.1 b h1 h2) (by rw [show q_put τ 72 iv_0 17 = τ 17 from if_neg (by decide)]; exact hτ.2) (if_pos rfl))
