/-! constructors: scenes, the reader, the bottle, the reference -/
abbrev iv_o (t n : Nat) (g : Nat → Option Nat) : q_S := .inl (t, n, some g)
abbrev iv_n (t n : Nat) : q_S := .inl (t, n, none)

set_option maxHeartbeats 4000000 in
set_option maxRecDepth 100000 in
theorem kX3_init {P : List q_S} {a : Nat} (hP : P.length = a) (ha : a ≤ 100) {σ : q_M} : q_Ct YX3_init [.ref a] (P ++ [.inr (3, [some none, some none, none, none, none, none, none, none])]) σ (q_rv (P ++ iv_sc a) (fun τ => iv_A (a + 1) σ τ ∧ ∀ b, a < b → b < a + 12 → τ b = iv_0)) := by
  refine q_ct (n := 1) (by decide) (by decide) rfl (fun _ => Nat.le_of_ble_eq_true rfl) (fun E => ?_)
  refine q_aload_n dX3_init_0 rfl ?_
  refine q_objInit oX3_3 q_oi2 q_oi3 dX3_init_1 ⟨by decide, by decide⟩ ?_
  refine q_aload_n dX3_init_4 rfl ?_
  refine q_bipush (x := 6) dX3_init_5 (by decide) ?_
  refine q_newqb (b := (a + 1)) (sh1 := (P ++ [.inr (3, [some none, some none, none, none, none, none, none, none]), .inl (3, 6, some (fun _ => none))])) (t := 3) (N := 6) (iv_len hP) (List.append_assoc P _ _) ⟨by decide, by decide⟩ qX3_9 dX3_init_7 ⟨by decide, by decide, by decide⟩ ⟨by decide, by decide, by omega⟩ ?_
  refine q_putFb (sh1 := (P ++ [.inr (3, [some (some (a + 1)), some none, none, none, none, none, none, none]), .inl (3, 6, some (fun _ => none))])) pX3_11 rfl (fun _ => ⟨rfl, rfl⟩) dX3_init_10 (iv_at0 hP rfl) (by rfl) (iv_set0 hP) ?_
  refine q_aload_n dX3_init_13 rfl ?_
  refine q_newb (b := (a + 2)) (sh1 := (P ++ [.inr (3, [some (some (a + 1)), some none, none, none, none, none, none, none]), .inl (3, 6, some (fun _ => none)), .inr (4, [some none, some none, some none, none])])) (iv_len hP) (List.append_assoc P _ _) nX3_17 dX3_init_14 ⟨by decide, by decide, by omega⟩ ?_
  refine q_dup rfl dX3_init_17 ?_
  refine q_shr (List.append_assoc P [.inr (3, [some (some (a + 1)), some none, none, none, none, none, none, none]), .inl (3, 6, some (fun _ => none))] [.inr (4, [some none, some none, some none, none])]).symm ?_
  refine q_rIv lX3_19 iX4_init ⟨rfl, rfl⟩ dX3_init_18 (kX4_init (P := P ++ [.inr (3, [some (some (a + 1)), some none, none, none, none, none, none, none]), .inl (3, 6, some (fun _ => none))]) (a := a + 2) (iv_len hP) (by omega)) rfl rfl (Nat.le_of_ble_eq_true rfl) (by decide) (fun τ hq => ?_)
  refine q_shr (List.append_assoc P [.inr (3, [some (some (a + 1)), some none, none, none, none, none, none, none]), .inl (3, 6, some (fun _ => none))] (iv_sn (a + 2))) ?_
  refine q_putFb (sh1 := (P ++ ([.inr (3, [some (some (a + 1)), some (some (a + 2)), none, none, none, none, none, none]), .inl (3, 6, some (fun _ => none))] ++ iv_sn (a + 2)))) pX3_20 rfl (fun _ => ⟨rfl, rfl⟩) dX3_init_21 (iv_at0 hP rfl) (by rfl) (iv_set0 hP) ?_
  refine q_shr (sh' := (P ++ ([.inr (3, [some (some (a + 1)), some (some (a + 2)), none, none, none, none, none, none]), .inl (3, 6, some (iv_r (a + 6) 1 0))] ++ iv_sn (a + 2) ++ []))) (congrArg (fun g => P ++ ([.inr (3, [some (some (a + 1)), some (some (a + 2)), none, none, none, none, none, none]), .inl (3, 6, some g)] ++ iv_sn (a + 2) ++ [])) (iv_r_0 (a + 6) 1)) ?_
  refine q_iconst (x := 0) dX3_init_24 (by decide) ?_
  refine q_istore_n dX3_init_25 (by decide) rfl ?_
  refine q_iload_n dX3_init_26 rfl ?_
  refine q_bipush (x := 6) dX3_init_27 (by decide) ?_
  refine q_cge 51 dX3_init_29 (by decide) (fun h29 => ?_) (fun h29 => ?_)
  · exact absurd h29 (by decide)
  · refine q_aload_n dX3_init_32 rfl ?_
    refine q_getr fX3_11 dX3_init_33 (iv_at0 hP rfl) (by rfl) ?_
    refine q_iload_n dX3_init_36 rfl ?_
    refine q_newb (b := (a + 6)) (sh1 := (P ++ ([.inr (3, [some (some (a + 1)), some (some (a + 2)), none, none, none, none, none, none]), .inl (3, 6, some (iv_r (a + 6) 1 0))] ++ iv_sn (a + 2) ++ [q_sD]))) (iv_len hP) (List.append_assoc P _ _) nX3_9 dX3_init_37 ⟨by decide, by decide, by omega⟩ ?_
    refine q_dup rfl dX3_init_40 ?_
    refine q_cIv lX3_24 iX0_init ⟨rfl, rfl⟩ dX3_init_41 kX0_init rfl rfl (Nat.le_of_ble_eq_true rfl) (by decide) ?_
    refine q_aastb (sh1 := (P ++ ([.inr (3, [some (some (a + 1)), some (some (a + 2)), none, none, none, none, none, none]), .inl (3, 6, some (iv_r (a + 6) 1 1))] ++ iv_sn (a + 2) ++ [q_sD]))) (ci := 0) (t := 3) ⟨by decide, by decide⟩ (iv_at (k := 1) hP rfl) (iv_at (k := 6) hP rfl) rfl (vp_in_iff.mpr ⟨by decide, by decide⟩) dX3_init_44 ((iv_set (k := 1) hP).trans (congrArg (fun g => P ++ ([.inr (3, [some (some (a + 1)), some (some (a + 2)), none, none, none, none, none, none]), .inl (3, 6, some g)] ++ iv_sn (a + 2) ++ [q_sD])) (iv_r_s (a + 6) 1 0))) ?_
    refine q_inc 1 dX3_init_45 (by decide) rfl (by decide) rfl ?_
    refine q_lr (ls' := [some (.ref a), some (.int 1)]) (by rfl) ?_
    refine q_goto 26 dX3_init_48 (by decide) ?_
    refine q_iload_n dX3_init_26 rfl ?_
    refine q_bipush (x := 6) dX3_init_27 (by decide) ?_
    refine q_cge 51 dX3_init_29 (by decide) (fun h29 => ?_) (fun h29 => ?_)
    · exact absurd h29 (by decide)
    · refine q_aload_n dX3_init_32 rfl ?_
      refine q_getr fX3_11 dX3_init_33 (iv_at0 hP rfl) (by rfl) ?_
      refine q_iload_n dX3_init_36 rfl ?_
      refine q_newb (b := (a + 7)) (sh1 := (P ++ ([.inr (3, [some (some (a + 1)), some (some (a + 2)), none, none, none, none, none, none]), .inl (3, 6, some (iv_r (a + 6) 1 1))] ++ iv_sn (a + 2) ++ [q_sD, q_sD]))) (iv_len hP) (List.append_assoc P _ _) nX3_9 dX3_init_37 ⟨by decide, by decide, by omega⟩ ?_
      refine q_dup rfl dX3_init_40 ?_
      refine q_cIv lX3_24 iX0_init ⟨rfl, rfl⟩ dX3_init_41 kX0_init rfl rfl (Nat.le_of_ble_eq_true rfl) (by decide) ?_
      refine q_aastb (sh1 := (P ++ ([.inr (3, [some (some (a + 1)), some (some (a + 2)), none, none, none, none, none, none]), .inl (3, 6, some (iv_r (a + 6) 1 2))] ++ iv_sn (a + 2) ++ [q_sD, q_sD]))) (ci := 0) (t := 3) ⟨by decide, by decide⟩ (iv_at (k := 1) hP rfl) (iv_at (k := 7) hP rfl) rfl (vp_in_iff.mpr ⟨by decide, by decide⟩) dX3_init_44 ((iv_set (k := 1) hP).trans (congrArg (fun g => P ++ ([.inr (3, [some (some (a + 1)), some (some (a + 2)), none, none, none, none, none, none]), .inl (3, 6, some g)] ++ iv_sn (a + 2) ++ [q_sD, q_sD])) (iv_r_s (a + 6) 1 1))) ?_
      refine q_inc 1 dX3_init_45 (by decide) rfl (by decide) rfl ?_
      refine q_lr (ls' := [some (.ref a), some (.int 2)]) (by rfl) ?_
      refine q_goto 26 dX3_init_48 (by decide) ?_
      refine q_iload_n dX3_init_26 rfl ?_
      refine q_bipush (x := 6) dX3_init_27 (by decide) ?_
      refine q_cge 51 dX3_init_29 (by decide) (fun h29 => ?_) (fun h29 => ?_)
      · exact absurd h29 (by decide)
      · refine q_aload_n dX3_init_32 rfl ?_
        refine q_getr fX3_11 dX3_init_33 (iv_at0 hP rfl) (by rfl) ?_
        refine q_iload_n dX3_init_36 rfl ?_
        refine q_newb (b := (a + 8)) (sh1 := (P ++ ([.inr (3, [some (some (a + 1)), some (some (a + 2)), none, none, none, none, none, none]), .inl (3, 6, some (iv_r (a + 6) 1 2))] ++ iv_sn (a + 2) ++ [q_sD, q_sD, q_sD]))) (iv_len hP) (List.append_assoc P _ _) nX3_9 dX3_init_37 ⟨by decide, by decide, by omega⟩ ?_
        refine q_dup rfl dX3_init_40 ?_
        refine q_cIv lX3_24 iX0_init ⟨rfl, rfl⟩ dX3_init_41 kX0_init rfl rfl (Nat.le_of_ble_eq_true rfl) (by decide) ?_
        refine q_aastb (sh1 := (P ++ ([.inr (3, [some (some (a + 1)), some (some (a + 2)), none, none, none, none, none, none]), .inl (3, 6, some (iv_r (a + 6) 1 3))] ++ iv_sn (a + 2) ++ [q_sD, q_sD, q_sD]))) (ci := 0) (t := 3) ⟨by decide, by decide⟩ (iv_at (k := 1) hP rfl) (iv_at (k := 8) hP rfl) rfl (vp_in_iff.mpr ⟨by decide, by decide⟩) dX3_init_44 ((iv_set (k := 1) hP).trans (congrArg (fun g => P ++ ([.inr (3, [some (some (a + 1)), some (some (a + 2)), none, none, none, none, none, none]), .inl (3, 6, some g)] ++ iv_sn (a + 2) ++ [q_sD, q_sD, q_sD])) (iv_r_s (a + 6) 1 2))) ?_
        refine q_inc 1 dX3_init_45 (by decide) rfl (by decide) rfl ?_
        refine q_lr (ls' := [some (.ref a), some (.int 3)]) (by rfl) ?_
        refine q_goto 26 dX3_init_48 (by decide) ?_
        refine q_iload_n dX3_init_26 rfl ?_
        refine q_bipush (x := 6) dX3_init_27 (by decide) ?_
        refine q_cge 51 dX3_init_29 (by decide) (fun h29 => ?_) (fun h29 => ?_)
        · exact absurd h29 (by decide)
        · refine q_aload_n dX3_init_32 rfl ?_
          refine q_getr fX3_11 dX3_init_33 (iv_at0 hP rfl) (by rfl) ?_
          refine q_iload_n dX3_init_36 rfl ?_
          refine q_newb (b := (a + 9)) (sh1 := (P ++ ([.inr (3, [some (some (a + 1)), some (some (a + 2)), none, none, none, none, none, none]), .inl (3, 6, some (iv_r (a + 6) 1 3))] ++ iv_sn (a + 2) ++ [q_sD, q_sD, q_sD, q_sD]))) (iv_len hP) (List.append_assoc P _ _) nX3_9 dX3_init_37 ⟨by decide, by decide, by omega⟩ ?_
          refine q_dup rfl dX3_init_40 ?_
          refine q_cIv lX3_24 iX0_init ⟨rfl, rfl⟩ dX3_init_41 kX0_init rfl rfl (Nat.le_of_ble_eq_true rfl) (by decide) ?_
          refine q_aastb (sh1 := (P ++ ([.inr (3, [some (some (a + 1)), some (some (a + 2)), none, none, none, none, none, none]), .inl (3, 6, some (iv_r (a + 6) 1 4))] ++ iv_sn (a + 2) ++ [q_sD, q_sD, q_sD, q_sD]))) (ci := 0) (t := 3) ⟨by decide, by decide⟩ (iv_at (k := 1) hP rfl) (iv_at (k := 9) hP rfl) rfl (vp_in_iff.mpr ⟨by decide, by decide⟩) dX3_init_44 ((iv_set (k := 1) hP).trans (congrArg (fun g => P ++ ([.inr (3, [some (some (a + 1)), some (some (a + 2)), none, none, none, none, none, none]), .inl (3, 6, some g)] ++ iv_sn (a + 2) ++ [q_sD, q_sD, q_sD, q_sD])) (iv_r_s (a + 6) 1 3))) ?_
          refine q_inc 1 dX3_init_45 (by decide) rfl (by decide) rfl ?_
          refine q_lr (ls' := [some (.ref a), some (.int 4)]) (by rfl) ?_
          refine q_goto 26 dX3_init_48 (by decide) ?_
          refine q_iload_n dX3_init_26 rfl ?_
          refine q_bipush (x := 6) dX3_init_27 (by decide) ?_
          refine q_cge 51 dX3_init_29 (by decide) (fun h29 => ?_) (fun h29 => ?_)
          · exact absurd h29 (by decide)
          · refine q_aload_n dX3_init_32 rfl ?_
            refine q_getr fX3_11 dX3_init_33 (iv_at0 hP rfl) (by rfl) ?_
            refine q_iload_n dX3_init_36 rfl ?_
            refine q_newb (b := (a + 10)) (sh1 := (P ++ ([.inr (3, [some (some (a + 1)), some (some (a + 2)), none, none, none, none, none, none]), .inl (3, 6, some (iv_r (a + 6) 1 4))] ++ iv_sn (a + 2) ++ [q_sD, q_sD, q_sD, q_sD, q_sD]))) (iv_len hP) (List.append_assoc P _ _) nX3_9 dX3_init_37 ⟨by decide, by decide, by omega⟩ ?_
            refine q_dup rfl dX3_init_40 ?_
            refine q_cIv lX3_24 iX0_init ⟨rfl, rfl⟩ dX3_init_41 kX0_init rfl rfl (Nat.le_of_ble_eq_true rfl) (by decide) ?_
            refine q_aastb (sh1 := (P ++ ([.inr (3, [some (some (a + 1)), some (some (a + 2)), none, none, none, none, none, none]), .inl (3, 6, some (iv_r (a + 6) 1 5))] ++ iv_sn (a + 2) ++ [q_sD, q_sD, q_sD, q_sD, q_sD]))) (ci := 0) (t := 3) ⟨by decide, by decide⟩ (iv_at (k := 1) hP rfl) (iv_at (k := 10) hP rfl) rfl (vp_in_iff.mpr ⟨by decide, by decide⟩) dX3_init_44 ((iv_set (k := 1) hP).trans (congrArg (fun g => P ++ ([.inr (3, [some (some (a + 1)), some (some (a + 2)), none, none, none, none, none, none]), .inl (3, 6, some g)] ++ iv_sn (a + 2) ++ [q_sD, q_sD, q_sD, q_sD, q_sD])) (iv_r_s (a + 6) 1 4))) ?_
            refine q_inc 1 dX3_init_45 (by decide) rfl (by decide) rfl ?_
            refine q_lr (ls' := [some (.ref a), some (.int 5)]) (by rfl) ?_
            refine q_goto 26 dX3_init_48 (by decide) ?_
            refine q_iload_n dX3_init_26 rfl ?_
            refine q_bipush (x := 6) dX3_init_27 (by decide) ?_
            refine q_cge 51 dX3_init_29 (by decide) (fun h29 => ?_) (fun h29 => ?_)
            · exact absurd h29 (by decide)
            · refine q_aload_n dX3_init_32 rfl ?_
              refine q_getr fX3_11 dX3_init_33 (iv_at0 hP rfl) (by rfl) ?_
              refine q_iload_n dX3_init_36 rfl ?_
              refine q_newb (b := (a + 11)) (sh1 := (P ++ ([.inr (3, [some (some (a + 1)), some (some (a + 2)), none, none, none, none, none, none]), .inl (3, 6, some (iv_r (a + 6) 1 5))] ++ iv_sn (a + 2) ++ [q_sD, q_sD, q_sD, q_sD, q_sD, q_sD]))) (iv_len hP) (List.append_assoc P _ _) nX3_9 dX3_init_37 ⟨by decide, by decide, by omega⟩ ?_
              refine q_dup rfl dX3_init_40 ?_
              refine q_cIv lX3_24 iX0_init ⟨rfl, rfl⟩ dX3_init_41 kX0_init rfl rfl (Nat.le_of_ble_eq_true rfl) (by decide) ?_
              refine q_aastb (sh1 := (P ++ ([.inr (3, [some (some (a + 1)), some (some (a + 2)), none, none, none, none, none, none]), .inl (3, 6, some (iv_r (a + 6) 1 6))] ++ iv_sn (a + 2) ++ [q_sD, q_sD, q_sD, q_sD, q_sD, q_sD]))) (ci := 0) (t := 3) ⟨by decide, by decide⟩ (iv_at (k := 1) hP rfl) (iv_at (k := 11) hP rfl) rfl (vp_in_iff.mpr ⟨by decide, by decide⟩) dX3_init_44 ((iv_set (k := 1) hP).trans (congrArg (fun g => P ++ ([.inr (3, [some (some (a + 1)), some (some (a + 2)), none, none, none, none, none, none]), .inl (3, 6, some g)] ++ iv_sn (a + 2) ++ [q_sD, q_sD, q_sD, q_sD, q_sD, q_sD])) (iv_r_s (a + 6) 1 5))) ?_
              refine q_inc 1 dX3_init_45 (by decide) rfl (by decide) rfl ?_
              refine q_lr (ls' := [some (.ref a), some (.int 6)]) (by rfl) ?_
              refine q_goto 26 dX3_init_48 (by decide) ?_
              refine q_iload_n dX3_init_26 rfl ?_
              refine q_bipush (x := 6) dX3_init_27 (by decide) ?_
              refine q_cge 51 dX3_init_29 (by decide) (fun h29 => ?_) (fun h29 => ?_)
              · refine q_vret dX3_init_51 ?_ rfl rfl
                refine ⟨rfl, congrArg (fun g => P ++ ([.inr (3, [some (some (a + 1)), some (some (a + 2)), none, none, none, none, none, none]), .inl (3, 6, some g)] ++ iv_sn (a + 2) ++ [q_sD, q_sD, q_sD, q_sD, q_sD, q_sD])) (iv_r_6 (a + 6)), fun b hb => ?_, fun b h1 h2 => ?_⟩
                · rw [q_put_ne (by omega), q_put_ne (by omega), q_put_ne (by omega), q_put_ne (by omega), q_put_ne (by omega), q_put_ne (by omega), hq.1 b (by omega), q_put_ne (by omega), q_put_ne (by omega)]
                · rcases (show b = a + 1 ∨ b = a + 2 ∨ b = a + 3 ∨ b = a + 4 ∨ b = a + 5 ∨ b = a + 6 ∨ b = a + 7 ∨ b = a + 8 ∨ b = a + 9 ∨ b = a + 10 ∨ b = a + 11 by omega) with rfl | rfl | rfl | rfl | rfl | rfl | rfl | rfl | rfl | rfl | rfl
                  · rw [q_put_ne (by omega), q_put_ne (by omega), q_put_ne (by omega), q_put_ne (by omega), q_put_ne (by omega), q_put_ne (by omega), hq.1 _ (by omega), q_put_ne (by omega), q_put_at]
                  · rw [q_put_ne (by omega), q_put_ne (by omega), q_put_ne (by omega), q_put_ne (by omega), q_put_ne (by omega), q_put_ne (by omega), hq.1 _ (by omega), q_put_at]
                  · rw [q_put_ne (by omega), q_put_ne (by omega), q_put_ne (by omega), q_put_ne (by omega), q_put_ne (by omega), q_put_ne (by omega)]; exact hq.2.1
                  · rw [q_put_ne (by omega), q_put_ne (by omega), q_put_ne (by omega), q_put_ne (by omega), q_put_ne (by omega), q_put_ne (by omega)]; exact hq.2.2.1
                  · rw [q_put_ne (by omega), q_put_ne (by omega), q_put_ne (by omega), q_put_ne (by omega), q_put_ne (by omega), q_put_ne (by omega)]; exact hq.2.2.2
                  · rw [q_put_ne (by omega), q_put_ne (by omega), q_put_ne (by omega), q_put_ne (by omega), q_put_ne (by omega), q_put_at]
                  · rw [q_put_ne (by omega), q_put_ne (by omega), q_put_ne (by omega), q_put_ne (by omega), q_put_at]
                  · rw [q_put_ne (by omega), q_put_ne (by omega), q_put_ne (by omega), q_put_at]
                  · rw [q_put_ne (by omega), q_put_ne (by omega), q_put_at]
                  · rw [q_put_ne (by omega), q_put_at]
                  · rw [q_put_at]
              · exact absurd h29 (by decide)

set_option maxHeartbeats 4000000 in
set_option maxRecDepth 100000 in
theorem kX2_init {P : List q_S} {a : Nat} (hP : P.length = a) (ha : a ≤ 100) {σ : q_M} : q_Ct YX2_init [.ref a] (P ++ [.inr (2, [some none, some none, some none, some none, none, none, none, none, none, none, none, none, none])]) σ (q_rv (P ++ iv_rd a) (fun τ => iv_A (a + 1) σ τ ∧ τ (a + 1) = iv_0 ∧ τ (a + 2) = iv_0 ∧ τ (a + 3) = iv_4 ∧ τ (a + 4) = iv_5 ∧ ∀ b, a + 4 < b → b < a + 13 → τ b = iv_0)) := by
  refine q_ct (n := 1) (by decide) (by decide) rfl (fun _ => Nat.le_of_ble_eq_true rfl) (fun E => ?_)
  refine q_aload_n dX2_init_0 rfl ?_
  refine q_objInit oX2_3 q_oi2 q_oi3 dX2_init_1 ⟨by decide, by decide⟩ ?_
  refine q_aload_n dX2_init_4 rfl ?_
  refine q_sipush (x := 320) dX2_init_5 (by decide) ?_
  refine q_newab (b := (a + 1)) (sh1 := (P ++ [.inr (2, [some none, some none, some none, some none, none, none, none, none, none, none, none, none, none]), .inl (1, 320, none)])) (at0 := .byte) (t := 1) (N := 320) (iv_len hP) (List.append_assoc P _ _) (by decide) rfl q_ac_byte dX2_init_8 ⟨by decide, by decide, by decide⟩ ⟨by decide, by decide, by omega⟩ ?_
  refine q_putFb (sh1 := (P ++ [.inr (2, [some (some (a + 1)), some none, some none, some none, none, none, none, none, none, none, none, none, none]), .inl (1, 320, none)])) pX2_9 rfl (fun _ => ⟨rfl, rfl⟩) dX2_init_10 (iv_at0 hP rfl) (by rfl) (iv_set0 hP) ?_
  refine q_aload_n dX2_init_13 rfl ?_
  refine q_newb (b := (a + 2)) (sh1 := (P ++ [.inr (2, [some (some (a + 1)), some none, some none, some none, none, none, none, none, none, none, none, none, none]), .inl (1, 320, none), .inr (6, [some none, some none])])) (iv_len hP) (List.append_assoc P _ _) nX2_15 dX2_init_14 ⟨by decide, by decide, by omega⟩ ?_
  refine q_dup rfl dX2_init_17 ?_
  refine q_shr (List.append_assoc P [.inr (2, [some (some (a + 1)), some none, some none, some none, none, none, none, none, none, none, none, none, none]), .inl (1, 320, none)] [.inr (6, [some none, some none])]).symm ?_
  refine q_rIv lX2_17 iX6_init ⟨rfl, rfl⟩ dX2_init_18 (kX6_init (P := P ++ [.inr (2, [some (some (a + 1)), some none, some none, some none, none, none, none, none, none, none, none, none, none]), .inl (1, 320, none)]) (a := a + 2) (iv_len hP) (by omega)) rfl rfl (Nat.le_of_ble_eq_true rfl) (by decide) (fun τ hq => ?_)
  refine q_shr (List.append_assoc P [.inr (2, [some (some (a + 1)), some none, some none, some none, none, none, none, none, none, none, none, none, none]), .inl (1, 320, none)] (iv_wa (a + 2))) ?_
  refine q_putFb (sh1 := (P ++ ([.inr (2, [some (some (a + 1)), some (some (a + 2)), some none, some none, none, none, none, none, none, none, none, none, none]), .inl (1, 320, none)] ++ iv_wa (a + 2)))) pX2_18 rfl (fun _ => ⟨rfl, rfl⟩) dX2_init_21 (iv_at0 hP rfl) (by rfl) (iv_set0 hP) ?_
  refine q_aload_n dX2_init_24 rfl ?_
  refine q_bipush (x := 6) dX2_init_25 (by decide) ?_
  refine q_newqb (b := (a + 5)) (sh1 := (P ++ ([.inr (2, [some (some (a + 1)), some (some (a + 2)), some none, some none, none, none, none, none, none, none, none, none, none]), .inl (1, 320, none)] ++ iv_wa (a + 2) ++ [.inl (3, 6, some (fun _ => none))]))) (t := 3) (N := 6) (iv_len hP) (List.append_assoc P _ _) ⟨by decide, by decide⟩ qX2_22 dX2_init_27 ⟨by decide, by decide, by decide⟩ ⟨by decide, by decide, by omega⟩ ?_
  refine q_putFb (sh1 := (P ++ ([.inr (2, [some (some (a + 1)), some (some (a + 2)), some (some (a + 5)), some none, none, none, none, none, none, none, none, none, none]), .inl (1, 320, none)] ++ iv_wa (a + 2) ++ [.inl (3, 6, some (fun _ => none))]))) pX2_24 rfl (fun _ => ⟨rfl, rfl⟩) dX2_init_30 (iv_at0 hP rfl) (by rfl) (iv_set0 hP) ?_
  refine q_aload_n dX2_init_33 rfl ?_
  refine q_bipush (x := 7) dX2_init_34 (by decide) ?_
  refine q_newab (b := (a + 6)) (sh1 := (P ++ ([.inr (2, [some (some (a + 1)), some (some (a + 2)), some (some (a + 5)), some none, none, none, none, none, none, none, none, none, none]), .inl (1, 320, none)] ++ iv_wa (a + 2) ++ [.inl (3, 6, some (fun _ => none)), .inl (2, 7, none)]))) (at0 := .boolean) (t := 2) (N := 7) (iv_len hP) (List.append_assoc P _ _) (by decide) rfl q_ac_boolean dX2_init_36 ⟨by decide, by decide, by decide⟩ ⟨by decide, by decide, by omega⟩ ?_
  refine q_putFb (sh1 := (P ++ ([.inr (2, [some (some (a + 1)), some (some (a + 2)), some (some (a + 5)), some (some (a + 6)), none, none, none, none, none, none, none, none, none]), .inl (1, 320, none)] ++ iv_wa (a + 2) ++ [.inl (3, 6, some (fun _ => none)), .inl (2, 7, none)]))) pX2_28 rfl (fun _ => ⟨rfl, rfl⟩) dX2_init_38 (iv_at0 hP rfl) (by rfl) (iv_set0 hP) ?_
  refine q_shr (sh' := (P ++ ([.inr (2, [some (some (a + 1)), some (some (a + 2)), some (some (a + 5)), some (some (a + 6)), none, none, none, none, none, none, none, none, none]), .inl (1, 320, none)] ++ iv_wa (a + 2) ++ [.inl (3, 6, some (iv_r (a + 7) 1 0)), .inl (2, 7, none)]))) (congrArg (fun g => P ++ ([.inr (2, [some (some (a + 1)), some (some (a + 2)), some (some (a + 5)), some (some (a + 6)), none, none, none, none, none, none, none, none, none]), .inl (1, 320, none)] ++ iv_wa (a + 2) ++ [.inl (3, 6, some g), .inl (2, 7, none)])) (iv_r_0 (a + 7) 1)) ?_
  refine q_iconst (x := 0) dX2_init_41 (by decide) ?_
  refine q_istore_n dX2_init_42 (by decide) rfl ?_
  refine q_iload_n dX2_init_43 rfl ?_
  refine q_bipush (x := 6) dX2_init_44 (by decide) ?_
  refine q_cge 68 dX2_init_46 (by decide) (fun h46 => ?_) (fun h46 => ?_)
  · exact absurd h46 (by decide)
  · refine q_aload_n dX2_init_49 rfl ?_
    refine q_getr fX2_24 dX2_init_50 (iv_at0 hP rfl) (by rfl) ?_
    refine q_iload_n dX2_init_53 rfl ?_
    refine q_newb (b := (a + 7)) (sh1 := (P ++ ([.inr (2, [some (some (a + 1)), some (some (a + 2)), some (some (a + 5)), some (some (a + 6)), none, none, none, none, none, none, none, none, none]), .inl (1, 320, none)] ++ iv_wa (a + 2) ++ [.inl (3, 6, some (iv_r (a + 7) 1 0)), .inl (2, 7, none), q_sD]))) (iv_len hP) (List.append_assoc P _ _) nX2_22 dX2_init_54 ⟨by decide, by decide, by omega⟩ ?_
    refine q_dup rfl dX2_init_57 ?_
    refine q_cIv lX2_32 iX0_init ⟨rfl, rfl⟩ dX2_init_58 kX0_init rfl rfl (Nat.le_of_ble_eq_true rfl) (by decide) ?_
    refine q_aastb (sh1 := (P ++ ([.inr (2, [some (some (a + 1)), some (some (a + 2)), some (some (a + 5)), some (some (a + 6)), none, none, none, none, none, none, none, none, none]), .inl (1, 320, none)] ++ iv_wa (a + 2) ++ [.inl (3, 6, some (iv_r (a + 7) 1 1)), .inl (2, 7, none), q_sD]))) (ci := 0) (t := 3) ⟨by decide, by decide⟩ (iv_at (k := 5) hP rfl) (iv_at (k := 7) hP rfl) rfl (vp_in_iff.mpr ⟨by decide, by decide⟩) dX2_init_61 ((iv_set (k := 5) hP).trans (congrArg (fun g => P ++ ([.inr (2, [some (some (a + 1)), some (some (a + 2)), some (some (a + 5)), some (some (a + 6)), none, none, none, none, none, none, none, none, none]), .inl (1, 320, none)] ++ iv_wa (a + 2) ++ [.inl (3, 6, some g), .inl (2, 7, none), q_sD])) (iv_r_s (a + 7) 1 0))) ?_
    refine q_inc 1 dX2_init_62 (by decide) rfl (by decide) rfl ?_
    refine q_lr (ls' := [some (.ref a), some (.int 1)]) (by rfl) ?_
    refine q_goto 43 dX2_init_65 (by decide) ?_
    refine q_iload_n dX2_init_43 rfl ?_
    refine q_bipush (x := 6) dX2_init_44 (by decide) ?_
    refine q_cge 68 dX2_init_46 (by decide) (fun h46 => ?_) (fun h46 => ?_)
    · exact absurd h46 (by decide)
    · refine q_aload_n dX2_init_49 rfl ?_
      refine q_getr fX2_24 dX2_init_50 (iv_at0 hP rfl) (by rfl) ?_
      refine q_iload_n dX2_init_53 rfl ?_
      refine q_newb (b := (a + 8)) (sh1 := (P ++ ([.inr (2, [some (some (a + 1)), some (some (a + 2)), some (some (a + 5)), some (some (a + 6)), none, none, none, none, none, none, none, none, none]), .inl (1, 320, none)] ++ iv_wa (a + 2) ++ [.inl (3, 6, some (iv_r (a + 7) 1 1)), .inl (2, 7, none), q_sD, q_sD]))) (iv_len hP) (List.append_assoc P _ _) nX2_22 dX2_init_54 ⟨by decide, by decide, by omega⟩ ?_
      refine q_dup rfl dX2_init_57 ?_
      refine q_cIv lX2_32 iX0_init ⟨rfl, rfl⟩ dX2_init_58 kX0_init rfl rfl (Nat.le_of_ble_eq_true rfl) (by decide) ?_
      refine q_aastb (sh1 := (P ++ ([.inr (2, [some (some (a + 1)), some (some (a + 2)), some (some (a + 5)), some (some (a + 6)), none, none, none, none, none, none, none, none, none]), .inl (1, 320, none)] ++ iv_wa (a + 2) ++ [.inl (3, 6, some (iv_r (a + 7) 1 2)), .inl (2, 7, none), q_sD, q_sD]))) (ci := 0) (t := 3) ⟨by decide, by decide⟩ (iv_at (k := 5) hP rfl) (iv_at (k := 8) hP rfl) rfl (vp_in_iff.mpr ⟨by decide, by decide⟩) dX2_init_61 ((iv_set (k := 5) hP).trans (congrArg (fun g => P ++ ([.inr (2, [some (some (a + 1)), some (some (a + 2)), some (some (a + 5)), some (some (a + 6)), none, none, none, none, none, none, none, none, none]), .inl (1, 320, none)] ++ iv_wa (a + 2) ++ [.inl (3, 6, some g), .inl (2, 7, none), q_sD, q_sD])) (iv_r_s (a + 7) 1 1))) ?_
      refine q_inc 1 dX2_init_62 (by decide) rfl (by decide) rfl ?_
      refine q_lr (ls' := [some (.ref a), some (.int 2)]) (by rfl) ?_
      refine q_goto 43 dX2_init_65 (by decide) ?_
      refine q_iload_n dX2_init_43 rfl ?_
      refine q_bipush (x := 6) dX2_init_44 (by decide) ?_
      refine q_cge 68 dX2_init_46 (by decide) (fun h46 => ?_) (fun h46 => ?_)
      · exact absurd h46 (by decide)
      · refine q_aload_n dX2_init_49 rfl ?_
        refine q_getr fX2_24 dX2_init_50 (iv_at0 hP rfl) (by rfl) ?_
        refine q_iload_n dX2_init_53 rfl ?_
        refine q_newb (b := (a + 9)) (sh1 := (P ++ ([.inr (2, [some (some (a + 1)), some (some (a + 2)), some (some (a + 5)), some (some (a + 6)), none, none, none, none, none, none, none, none, none]), .inl (1, 320, none)] ++ iv_wa (a + 2) ++ [.inl (3, 6, some (iv_r (a + 7) 1 2)), .inl (2, 7, none), q_sD, q_sD, q_sD]))) (iv_len hP) (List.append_assoc P _ _) nX2_22 dX2_init_54 ⟨by decide, by decide, by omega⟩ ?_
        refine q_dup rfl dX2_init_57 ?_
        refine q_cIv lX2_32 iX0_init ⟨rfl, rfl⟩ dX2_init_58 kX0_init rfl rfl (Nat.le_of_ble_eq_true rfl) (by decide) ?_
        refine q_aastb (sh1 := (P ++ ([.inr (2, [some (some (a + 1)), some (some (a + 2)), some (some (a + 5)), some (some (a + 6)), none, none, none, none, none, none, none, none, none]), .inl (1, 320, none)] ++ iv_wa (a + 2) ++ [.inl (3, 6, some (iv_r (a + 7) 1 3)), .inl (2, 7, none), q_sD, q_sD, q_sD]))) (ci := 0) (t := 3) ⟨by decide, by decide⟩ (iv_at (k := 5) hP rfl) (iv_at (k := 9) hP rfl) rfl (vp_in_iff.mpr ⟨by decide, by decide⟩) dX2_init_61 ((iv_set (k := 5) hP).trans (congrArg (fun g => P ++ ([.inr (2, [some (some (a + 1)), some (some (a + 2)), some (some (a + 5)), some (some (a + 6)), none, none, none, none, none, none, none, none, none]), .inl (1, 320, none)] ++ iv_wa (a + 2) ++ [.inl (3, 6, some g), .inl (2, 7, none), q_sD, q_sD, q_sD])) (iv_r_s (a + 7) 1 2))) ?_
        refine q_inc 1 dX2_init_62 (by decide) rfl (by decide) rfl ?_
        refine q_lr (ls' := [some (.ref a), some (.int 3)]) (by rfl) ?_
        refine q_goto 43 dX2_init_65 (by decide) ?_
        refine q_iload_n dX2_init_43 rfl ?_
        refine q_bipush (x := 6) dX2_init_44 (by decide) ?_
        refine q_cge 68 dX2_init_46 (by decide) (fun h46 => ?_) (fun h46 => ?_)
        · exact absurd h46 (by decide)
        · refine q_aload_n dX2_init_49 rfl ?_
          refine q_getr fX2_24 dX2_init_50 (iv_at0 hP rfl) (by rfl) ?_
          refine q_iload_n dX2_init_53 rfl ?_
          refine q_newb (b := (a + 10)) (sh1 := (P ++ ([.inr (2, [some (some (a + 1)), some (some (a + 2)), some (some (a + 5)), some (some (a + 6)), none, none, none, none, none, none, none, none, none]), .inl (1, 320, none)] ++ iv_wa (a + 2) ++ [.inl (3, 6, some (iv_r (a + 7) 1 3)), .inl (2, 7, none), q_sD, q_sD, q_sD, q_sD]))) (iv_len hP) (List.append_assoc P _ _) nX2_22 dX2_init_54 ⟨by decide, by decide, by omega⟩ ?_
          refine q_dup rfl dX2_init_57 ?_
          refine q_cIv lX2_32 iX0_init ⟨rfl, rfl⟩ dX2_init_58 kX0_init rfl rfl (Nat.le_of_ble_eq_true rfl) (by decide) ?_
          refine q_aastb (sh1 := (P ++ ([.inr (2, [some (some (a + 1)), some (some (a + 2)), some (some (a + 5)), some (some (a + 6)), none, none, none, none, none, none, none, none, none]), .inl (1, 320, none)] ++ iv_wa (a + 2) ++ [.inl (3, 6, some (iv_r (a + 7) 1 4)), .inl (2, 7, none), q_sD, q_sD, q_sD, q_sD]))) (ci := 0) (t := 3) ⟨by decide, by decide⟩ (iv_at (k := 5) hP rfl) (iv_at (k := 10) hP rfl) rfl (vp_in_iff.mpr ⟨by decide, by decide⟩) dX2_init_61 ((iv_set (k := 5) hP).trans (congrArg (fun g => P ++ ([.inr (2, [some (some (a + 1)), some (some (a + 2)), some (some (a + 5)), some (some (a + 6)), none, none, none, none, none, none, none, none, none]), .inl (1, 320, none)] ++ iv_wa (a + 2) ++ [.inl (3, 6, some g), .inl (2, 7, none), q_sD, q_sD, q_sD, q_sD])) (iv_r_s (a + 7) 1 3))) ?_
          refine q_inc 1 dX2_init_62 (by decide) rfl (by decide) rfl ?_
          refine q_lr (ls' := [some (.ref a), some (.int 4)]) (by rfl) ?_
          refine q_goto 43 dX2_init_65 (by decide) ?_
          refine q_iload_n dX2_init_43 rfl ?_
          refine q_bipush (x := 6) dX2_init_44 (by decide) ?_
          refine q_cge 68 dX2_init_46 (by decide) (fun h46 => ?_) (fun h46 => ?_)
          · exact absurd h46 (by decide)
          · refine q_aload_n dX2_init_49 rfl ?_
            refine q_getr fX2_24 dX2_init_50 (iv_at0 hP rfl) (by rfl) ?_
            refine q_iload_n dX2_init_53 rfl ?_
            refine q_newb (b := (a + 11)) (sh1 := (P ++ ([.inr (2, [some (some (a + 1)), some (some (a + 2)), some (some (a + 5)), some (some (a + 6)), none, none, none, none, none, none, none, none, none]), .inl (1, 320, none)] ++ iv_wa (a + 2) ++ [.inl (3, 6, some (iv_r (a + 7) 1 4)), .inl (2, 7, none), q_sD, q_sD, q_sD, q_sD, q_sD]))) (iv_len hP) (List.append_assoc P _ _) nX2_22 dX2_init_54 ⟨by decide, by decide, by omega⟩ ?_
            refine q_dup rfl dX2_init_57 ?_
            refine q_cIv lX2_32 iX0_init ⟨rfl, rfl⟩ dX2_init_58 kX0_init rfl rfl (Nat.le_of_ble_eq_true rfl) (by decide) ?_
            refine q_aastb (sh1 := (P ++ ([.inr (2, [some (some (a + 1)), some (some (a + 2)), some (some (a + 5)), some (some (a + 6)), none, none, none, none, none, none, none, none, none]), .inl (1, 320, none)] ++ iv_wa (a + 2) ++ [.inl (3, 6, some (iv_r (a + 7) 1 5)), .inl (2, 7, none), q_sD, q_sD, q_sD, q_sD, q_sD]))) (ci := 0) (t := 3) ⟨by decide, by decide⟩ (iv_at (k := 5) hP rfl) (iv_at (k := 11) hP rfl) rfl (vp_in_iff.mpr ⟨by decide, by decide⟩) dX2_init_61 ((iv_set (k := 5) hP).trans (congrArg (fun g => P ++ ([.inr (2, [some (some (a + 1)), some (some (a + 2)), some (some (a + 5)), some (some (a + 6)), none, none, none, none, none, none, none, none, none]), .inl (1, 320, none)] ++ iv_wa (a + 2) ++ [.inl (3, 6, some g), .inl (2, 7, none), q_sD, q_sD, q_sD, q_sD, q_sD])) (iv_r_s (a + 7) 1 4))) ?_
            refine q_inc 1 dX2_init_62 (by decide) rfl (by decide) rfl ?_
            refine q_lr (ls' := [some (.ref a), some (.int 5)]) (by rfl) ?_
            refine q_goto 43 dX2_init_65 (by decide) ?_
            refine q_iload_n dX2_init_43 rfl ?_
            refine q_bipush (x := 6) dX2_init_44 (by decide) ?_
            refine q_cge 68 dX2_init_46 (by decide) (fun h46 => ?_) (fun h46 => ?_)
            · exact absurd h46 (by decide)
            · refine q_aload_n dX2_init_49 rfl ?_
              refine q_getr fX2_24 dX2_init_50 (iv_at0 hP rfl) (by rfl) ?_
              refine q_iload_n dX2_init_53 rfl ?_
              refine q_newb (b := (a + 12)) (sh1 := (P ++ ([.inr (2, [some (some (a + 1)), some (some (a + 2)), some (some (a + 5)), some (some (a + 6)), none, none, none, none, none, none, none, none, none]), .inl (1, 320, none)] ++ iv_wa (a + 2) ++ [.inl (3, 6, some (iv_r (a + 7) 1 5)), .inl (2, 7, none), q_sD, q_sD, q_sD, q_sD, q_sD, q_sD]))) (iv_len hP) (List.append_assoc P _ _) nX2_22 dX2_init_54 ⟨by decide, by decide, by omega⟩ ?_
              refine q_dup rfl dX2_init_57 ?_
              refine q_cIv lX2_32 iX0_init ⟨rfl, rfl⟩ dX2_init_58 kX0_init rfl rfl (Nat.le_of_ble_eq_true rfl) (by decide) ?_
              refine q_aastb (sh1 := (P ++ ([.inr (2, [some (some (a + 1)), some (some (a + 2)), some (some (a + 5)), some (some (a + 6)), none, none, none, none, none, none, none, none, none]), .inl (1, 320, none)] ++ iv_wa (a + 2) ++ [.inl (3, 6, some (iv_r (a + 7) 1 6)), .inl (2, 7, none), q_sD, q_sD, q_sD, q_sD, q_sD, q_sD]))) (ci := 0) (t := 3) ⟨by decide, by decide⟩ (iv_at (k := 5) hP rfl) (iv_at (k := 12) hP rfl) rfl (vp_in_iff.mpr ⟨by decide, by decide⟩) dX2_init_61 ((iv_set (k := 5) hP).trans (congrArg (fun g => P ++ ([.inr (2, [some (some (a + 1)), some (some (a + 2)), some (some (a + 5)), some (some (a + 6)), none, none, none, none, none, none, none, none, none]), .inl (1, 320, none)] ++ iv_wa (a + 2) ++ [.inl (3, 6, some g), .inl (2, 7, none), q_sD, q_sD, q_sD, q_sD, q_sD, q_sD])) (iv_r_s (a + 7) 1 5))) ?_
              refine q_inc 1 dX2_init_62 (by decide) rfl (by decide) rfl ?_
              refine q_lr (ls' := [some (.ref a), some (.int 6)]) (by rfl) ?_
              refine q_goto 43 dX2_init_65 (by decide) ?_
              refine q_iload_n dX2_init_43 rfl ?_
              refine q_bipush (x := 6) dX2_init_44 (by decide) ?_
              refine q_cge 68 dX2_init_46 (by decide) (fun h46 => ?_) (fun h46 => ?_)
              · refine q_vret dX2_init_68 ?_ rfl rfl
                refine ⟨rfl, congrArg (fun g => P ++ ([.inr (2, [some (some (a + 1)), some (some (a + 2)), some (some (a + 5)), some (some (a + 6)), none, none, none, none, none, none, none, none, none]), .inl (1, 320, none)] ++ iv_wa (a + 2) ++ [.inl (3, 6, some g), .inl (2, 7, none), q_sD, q_sD, q_sD, q_sD, q_sD, q_sD])) (iv_r_6 (a + 7)), fun b hb => ?_, ?_, ?_, ?_, ?_, fun b h1 h2 => ?_⟩
                · rw [q_put_ne (by omega), q_put_ne (by omega), q_put_ne (by omega), q_put_ne (by omega), q_put_ne (by omega), q_put_ne (by omega), q_put_ne (by omega), q_put_ne (by omega), hq.1 b (by omega), q_put_ne (by omega), q_put_ne (by omega)]
                · rw [q_put_ne (by omega), q_put_ne (by omega), q_put_ne (by omega), q_put_ne (by omega), q_put_ne (by omega), q_put_ne (by omega), q_put_ne (by omega), q_put_ne (by omega), hq.1 _ (by omega), q_put_ne (by omega), q_put_at]
                · rw [q_put_ne (by omega), q_put_ne (by omega), q_put_ne (by omega), q_put_ne (by omega), q_put_ne (by omega), q_put_ne (by omega), q_put_ne (by omega), q_put_ne (by omega), hq.1 _ (by omega), q_put_at]
                · rw [q_put_ne (by omega), q_put_ne (by omega), q_put_ne (by omega), q_put_ne (by omega), q_put_ne (by omega), q_put_ne (by omega), q_put_ne (by omega), q_put_ne (by omega)]; exact hq.2.1
                · rw [q_put_ne (by omega), q_put_ne (by omega), q_put_ne (by omega), q_put_ne (by omega), q_put_ne (by omega), q_put_ne (by omega), q_put_ne (by omega), q_put_ne (by omega)]; exact hq.2.2
                · rcases (show b = a + 5 ∨ b = a + 6 ∨ b = a + 7 ∨ b = a + 8 ∨ b = a + 9 ∨ b = a + 10 ∨ b = a + 11 ∨ b = a + 12 by omega) with rfl | rfl | rfl | rfl | rfl | rfl | rfl | rfl
                  · rw [q_put_ne (by omega), q_put_ne (by omega), q_put_ne (by omega), q_put_ne (by omega), q_put_ne (by omega), q_put_ne (by omega), q_put_ne (by omega), q_put_at]
                  · rw [q_put_ne (by omega), q_put_ne (by omega), q_put_ne (by omega), q_put_ne (by omega), q_put_ne (by omega), q_put_ne (by omega), q_put_at]
                  · rw [q_put_ne (by omega), q_put_ne (by omega), q_put_ne (by omega), q_put_ne (by omega), q_put_ne (by omega), q_put_at]
                  · rw [q_put_ne (by omega), q_put_ne (by omega), q_put_ne (by omega), q_put_ne (by omega), q_put_at]
                  · rw [q_put_ne (by omega), q_put_ne (by omega), q_put_ne (by omega), q_put_at]
                  · rw [q_put_ne (by omega), q_put_ne (by omega), q_put_at]
                  · rw [q_put_ne (by omega), q_put_at]
                  · rw [q_put_at]
              · exact absurd h46 (by decide)

def iv_d (r : List (Option Nat)) : q_S := .inr (7, r.map some ++ [none, none])
def iv_w (b : Nat) : Nat → Int32 := if b = 4 ∨ b = 15 then iv_4 else if b = 5 ∨ b = 16 then iv_5 else if b = 56 ∨ b = 58 ∨ b = 60 ∨ b = 62 then upd iv_0 1 (-4) else iv_0
def iv_G (n : Nat) (τ : q_M) : Prop := ∀ b, b < n → τ b = iv_w b
theorem iv_w0 {b : Nat} (h : ¬ (b = 4 ∨ b = 15 ∨ b = 5 ∨ b = 16 ∨ b = 56 ∨ b = 58 ∨ b = 60 ∨ b = 62)) : iv_w b = iv_0 := by
  unfold iv_w
  rw [if_neg (by omega), if_neg (by omega), if_neg (by omega)]
theorem iv_G.put {n : Nat} {τ : q_M} (h : iv_G n τ) (hn : ¬ (n = 4 ∨ n = 15 ∨ n = 5 ∨ n = 16 ∨ n = 56 ∨ n = 58 ∨ n = 60 ∨ n = 62)) : iv_G (n + 1) (q_put τ n iv_0) := fun b hb => by
  by_cases e : b = n
  · subst e
    rw [q_put_at, iv_w0 hn]
  · rw [q_put_ne e]
    exact h b (by omega)
theorem iv_G.sc {a : Nat} {σ τ : q_M} (h : iv_G a σ) (hq : iv_A (a + 1) (q_put σ a iv_0) τ ∧ ∀ b, a < b → b < a + 12 → τ b = iv_0) (h1 : 17 ≤ a) (h2 : a + 12 ≤ 56) : iv_G (a + 12) τ := fun b hb => by
  by_cases e : b < a + 1
  · rw [hq.1 b e]
    exact h.put (by omega) b e
  · rw [hq.2 b (by omega) hb, iv_w0 (by omega)]
theorem iv_G.st {a : Nat} {σ τ : q_M} (h : iv_G a σ) (hq : iv_A a (q_put σ a iv_0) τ ∧ τ a = upd (q_put σ a iv_0 a) 1 (-4) ∧ τ (a + 1) = iv_0) (h1 : a = 56 ∨ a = 58 ∨ a = 60 ∨ a = 62) : iv_G (a + 2) τ := fun b hb => by
  by_cases e : b < a
  · rw [hq.1 b e, q_put_ne (by omega)]
    exact h b e
  · by_cases e2 : b = a
    · subst e2
      rw [hq.2.1, q_put_at]
      unfold iv_w
      rw [if_neg (by omega), if_neg (by omega), if_pos (by omega)]
    · obtain rfl : b = a + 1 := by omega
      rw [hq.2.2, iv_w0 (by omega)]
theorem iv_G.sn {a : Nat} {σ τ : q_M} (h : iv_G a σ) (hq : iv_A (a + 1) (q_put σ a iv_0) τ ∧ τ (a + 1) = iv_0 ∧ τ (a + 2) = iv_0 ∧ τ (a + 3) = iv_0) (h1 : 63 ≤ a) : iv_G (a + 4) τ := fun b hb => by
  by_cases e : b < a + 1
  · rw [hq.1 b e]
    exact h.put (by omega) b e
  · rcases (show b = a + 1 ∨ b = a + 2 ∨ b = a + 3 by omega) with rfl | rfl | rfl
    · rw [hq.2.1, iv_w0 (by omega)]
    · rw [hq.2.2.1, iv_w0 (by omega)]
    · rw [hq.2.2.2, iv_w0 (by omega)]
theorem iv_G.hd {a : Nat} {σ τ : q_M} (h : iv_G a σ) (hq : iv_A (a + 1) (q_put σ a iv_0) τ ∧ τ (a + 1) = iv_0 ∧ τ (a + 2) = iv_0) (h1 : 63 ≤ a) : iv_G (a + 3) τ := fun b hb => by
  by_cases e : b < a + 1
  · rw [hq.1 b e]
    exact h.put (by omega) b e
  · rcases (show b = a + 1 ∨ b = a + 2 by omega) with rfl | rfl
    · rw [hq.2.1, iv_w0 (by omega)]
    · rw [hq.2.2, iv_w0 (by omega)]
theorem iv_G.wa {σ τ : q_M} (h : iv_G 14 σ) (hq : iv_A (14 + 1) (q_put σ 14 iv_0) τ ∧ τ (14 + 1) = iv_4 ∧ τ (14 + 2) = iv_5) : iv_G 17 τ := fun b hb => by
  by_cases e : b < 15
  · rw [hq.1 b e]
    exact h.put (by decide) b e
  · rcases (show b = 15 ∨ b = 16 by omega) with rfl | rfl
    · exact hq.2.1
    · exact hq.2.2
theorem iv_G.rd {σ τ : q_M} (h : iv_G 1 σ) (hq : iv_A (1 + 1) (q_put σ 1 iv_0) τ ∧ τ (1 + 1) = iv_0 ∧ τ (1 + 2) = iv_0 ∧ τ (1 + 3) = iv_4 ∧ τ (1 + 4) = iv_5 ∧ ∀ b, 1 + 4 < b → b < 1 + 13 → τ b = iv_0) : iv_G 14 τ := fun b hb => by
  by_cases e : b < 2
  · rw [hq.1 b e]
    exact h.put (by decide) b e
  · by_cases e2 : b < 6
    · rcases (show b = 2 ∨ b = 3 ∨ b = 4 ∨ b = 5 by omega) with rfl | rfl | rfl | rfl
      · exact hq.2.1
      · exact hq.2.2.1
      · exact hq.2.2.2.1
      · exact hq.2.2.2.2.1
    · rw [hq.2.2.2.2.2 b (by omega) (by omega), iv_w0 (by omega)]
theorem iv_r_i : iv_r 31 12 2 = q_ri := rfl
theorem iv_r_t : iv_r 56 2 4 = q_rs := rfl

set_option maxHeartbeats 4000000 in
set_option maxRecDepth 100000 in
theorem kX7_init {σ : q_M} (hz : σ 0 = iv_0) : q_Ct YX7_init [.ref 0] [iv_d [none, none, none, none, none, none, none, none, none]] σ (q_rv (q_SH.take 72) (fun τ => (∀ b, b < 72 → b ≠ 17 → τ b = iv_w b) ∧ τ 17 = upd iv_0 4 293)) := by
  refine q_ct (n := 1) (by decide) (by decide) rfl (fun _ => Nat.le_of_ble_eq_true rfl) (fun E => ?_)
  have h0 : iv_G 1 σ := fun b hb => by
    obtain rfl : b = 0 := by omega
    exact hz
  refine q_aload_n dX7_init_0 rfl ?_
  refine q_objInit oX7_1 q_oi2 q_oi3 dX7_init_1 ⟨by decide, by decide⟩ ?_
  refine q_aload_n dX7_init_4 rfl ?_
  refine q_newb (b := 1) (sh1 := [iv_d [none, none, none, none, none, none, none, none, none], .inr (2, [some none, some none, some none, some none, none, none, none, none, none, none, none, none, none])]) rfl rfl nX7_7 dX7_init_5 ⟨by decide, by decide, by decide⟩ ?_
  refine q_dup rfl dX7_init_8 ?_
  refine q_rIv lX7_9 iX2_init ⟨rfl, rfl⟩ dX7_init_9 (kX2_init (P := [iv_d [none, none, none, none, none, none, none, none, none]]) (a := 1) rfl (by decide)) rfl rfl (Nat.le_of_ble_eq_true rfl) (by decide) (fun τ1 q1 => ?_)
  have g1 := iv_G.rd h0 q1
  refine q_putFb (sh1 := (iv_d [some 1, none, none, none, none, none, none, none, none] :: (iv_rd 1))) pX7_10 rfl (fun _ => ⟨rfl, rfl⟩) dX7_init_12 (by first | rfl | assumption) (by rfl) rfl ?_
  refine q_aload_n dX7_init_15 rfl ?_
  refine q_newb (b := 14) (sh1 := (iv_d [some 1, none, none, none, none, none, none, none, none] :: (iv_rd 1 ++ [.inr (6, [some none, some none])]))) rfl rfl nX7_16 dX7_init_16 ⟨by decide, by decide, by decide⟩ ?_
  refine q_dup rfl dX7_init_19 ?_
  refine q_rIv lX7_18 iX6_init ⟨rfl, rfl⟩ dX7_init_20 (kX6_init (P := (iv_d [some 1, none, none, none, none, none, none, none, none] :: (iv_rd 1))) (a := 14) rfl (by decide)) rfl rfl (Nat.le_of_ble_eq_true rfl) (by decide) (fun τ2 q2 => ?_)
  have g2 := iv_G.wa g1 q2
  refine q_putFb (sh1 := (iv_d [some 1, some 14, none, none, none, none, none, none, none] :: (iv_rd 1 ++ iv_wa 14))) pX7_19 rfl (fun _ => ⟨rfl, rfl⟩) dX7_init_23 (by first | rfl | assumption) (by rfl) rfl ?_
  refine q_aload_n dX7_init_26 rfl ?_
  refine q_newb (b := 17) (sh1 := (iv_d [some 1, some 14, none, none, none, none, none, none, none] :: (iv_rd 1 ++ iv_wa 14 ++ [.inr (3, [some none, some none, none, none, none, none, none, none])]))) rfl rfl nX7_23 dX7_init_27 ⟨by decide, by decide, by decide⟩ ?_
  refine q_dup rfl dX7_init_30 ?_
  refine q_rIv lX7_25 iX3_init ⟨rfl, rfl⟩ dX7_init_31 (kX3_init (P := (iv_d [some 1, some 14, none, none, none, none, none, none, none] :: (iv_rd 1 ++ iv_wa 14))) (a := 17) rfl (by decide)) rfl rfl (Nat.le_of_ble_eq_true rfl) (by decide) (fun τ3 q3 => ?_)
  have g3 := iv_G.sc g2 q3 (by decide) (by decide)
  refine q_putFb (sh1 := (iv_d [some 1, some 14, some 17, none, none, none, none, none, none] :: (iv_rd 1 ++ iv_wa 14 ++ iv_sc 17))) pX7_26 rfl (fun _ => ⟨rfl, rfl⟩) dX7_init_34 (by first | rfl | assumption) (by rfl) rfl ?_
  refine q_aload_n dX7_init_37 rfl ?_
  refine q_iconst (x := 2) dX7_init_38 (by decide) ?_
  refine q_newqb (b := 29) (sh1 := (iv_d [some 1, some 14, some 17, none, none, none, none, none, none] :: (iv_rd 1 ++ iv_wa 14 ++ iv_sc 17 ++ [iv_o 4 2 (fun _ => none)]))) (t := 4) (N := 2) rfl rfl ⟨by decide, by decide⟩ qX7_23 dX7_init_39 ⟨by decide, by decide, by decide⟩ ⟨by decide, by decide, by decide⟩ ?_
  refine q_putFb (sh1 := (iv_d [some 1, some 14, some 17, some 29, none, none, none, none, none] :: (iv_rd 1 ++ iv_wa 14 ++ iv_sc 17 ++ [iv_o 4 2 (fun _ => none)]))) pX7_30 rfl (fun _ => ⟨rfl, rfl⟩) dX7_init_42 (by first | rfl | assumption) (by rfl) rfl ?_
  refine q_aload_n dX7_init_45 rfl ?_
  refine q_iconst (x := 2) dX7_init_46 (by decide) ?_
  refine q_newab (b := 30) (sh1 := (iv_d [some 1, some 14, some 17, some 29, none, none, none, none, none] :: (iv_rd 1 ++ iv_wa 14 ++ iv_sc 17 ++ [iv_o 4 2 (fun _ => none), iv_n 2 2]))) (at0 := .boolean) (t := 2) (N := 2) rfl rfl (by decide) rfl q_ac_boolean dX7_init_47 ⟨by decide, by decide, by decide⟩ ⟨by decide, by decide, by decide⟩ ?_
  refine q_putFb (sh1 := (iv_d [some 1, some 14, some 17, some 29, some 30, none, none, none, none] :: (iv_rd 1 ++ iv_wa 14 ++ iv_sc 17 ++ [iv_o 4 2 (fun _ => none), iv_n 2 2]))) pX7_34 rfl (fun _ => ⟨rfl, rfl⟩) dX7_init_49 (by first | rfl | assumption) (by rfl) rfl ?_
  have g4 := (g3.put (by decide)).put (by decide)
  refine q_shr (sh' := (iv_d [some 1, some 14, some 17, some 29, some 30, none, none, none, none] :: (iv_rd 1 ++ iv_wa 14 ++ iv_sc 17 ++ [iv_o 4 2 (iv_r 31 12 0), iv_n 2 2]))) (congrArg (fun g => (iv_d [some 1, some 14, some 17, some 29, some 30, none, none, none, none] :: (iv_rd 1 ++ iv_wa 14 ++ iv_sc 17 ++ [iv_o 4 2 g, iv_n 2 2]))) (iv_r_0 31 12)) ?_
  refine q_iconst (x := 0) dX7_init_52 (by decide) ?_
  refine q_istore_n dX7_init_53 (by decide) rfl ?_
  refine q_iload_n dX7_init_54 rfl ?_
  refine q_iconst (x := 2) dX7_init_55 (by decide) ?_
  refine q_cge 78 dX7_init_56 (by decide) (fun h56 => ?_) (fun h56 => ?_)
  · exact absurd h56 (by decide)
  · refine q_aload_n dX7_init_59 rfl ?_
    refine q_getr fX7_30 dX7_init_60 (by first | rfl | assumption) (by rfl) ?_
    refine q_iload_n dX7_init_63 rfl ?_
    refine q_newb (b := 31) (sh1 := (iv_d [some 1, some 14, some 17, some 29, some 30, none, none, none, none] :: (iv_rd 1 ++ iv_wa 14 ++ iv_sc 17 ++ [iv_o 4 2 (iv_r 31 12 0), iv_n 2 2] ++ [.inr (3, [some none, some none, none, none, none, none, none, none])]))) rfl rfl nX7_23 dX7_init_64 ⟨by decide, by decide, by decide⟩ ?_
    refine q_dup rfl dX7_init_67 ?_
    refine q_rIv lX7_25 iX3_init ⟨rfl, rfl⟩ dX7_init_68 (kX3_init (P := (iv_d [some 1, some 14, some 17, some 29, some 30, none, none, none, none] :: (iv_rd 1 ++ iv_wa 14 ++ iv_sc 17 ++ [iv_o 4 2 (iv_r 31 12 0), iv_n 2 2]))) (a := 31) rfl (by decide)) rfl rfl (Nat.le_of_ble_eq_true rfl) (by decide) (fun τ5 q5 => ?_)
    have g5 := iv_G.sc g4 q5 (by decide) (by decide)
    refine q_aastb (sh1 := (iv_d [some 1, some 14, some 17, some 29, some 30, none, none, none, none] :: (iv_rd 1 ++ iv_wa 14 ++ iv_sc 17 ++ [iv_o 4 2 (iv_r 31 12 1), iv_n 2 2] ++ iv_sc 31))) (ci := 3) (t := 4) ⟨by decide, by decide⟩ rfl rfl rfl (vp_in_iff.mpr ⟨by decide, by decide⟩) dX7_init_71 (congrArg (fun g => (iv_d [some 1, some 14, some 17, some 29, some 30, none, none, none, none] :: (iv_rd 1 ++ iv_wa 14 ++ iv_sc 17 ++ [iv_o 4 2 g, iv_n 2 2] ++ iv_sc 31))) (iv_r_s 31 12 0)) ?_
    refine q_inc 1 dX7_init_72 (by decide) rfl (by decide) rfl ?_
    refine q_lr (ls' := [some (.ref 0), some (.int 1)]) (by rfl) ?_
    refine q_goto 54 dX7_init_75 (by decide) ?_
    refine q_iload_n dX7_init_54 rfl ?_
    refine q_iconst (x := 2) dX7_init_55 (by decide) ?_
    refine q_cge 78 dX7_init_56 (by decide) (fun h56 => ?_) (fun h56 => ?_)
    · exact absurd h56 (by decide)
    · refine q_aload_n dX7_init_59 rfl ?_
      refine q_getr fX7_30 dX7_init_60 (by first | rfl | assumption) (by rfl) ?_
      refine q_iload_n dX7_init_63 rfl ?_
      refine q_newb (b := 43) (sh1 := (iv_d [some 1, some 14, some 17, some 29, some 30, none, none, none, none] :: (iv_rd 1 ++ iv_wa 14 ++ iv_sc 17 ++ [iv_o 4 2 (iv_r 31 12 1), iv_n 2 2] ++ iv_sc 31 ++ [.inr (3, [some none, some none, none, none, none, none, none, none])]))) rfl rfl nX7_23 dX7_init_64 ⟨by decide, by decide, by decide⟩ ?_
      refine q_dup rfl dX7_init_67 ?_
      refine q_rIv lX7_25 iX3_init ⟨rfl, rfl⟩ dX7_init_68 (kX3_init (P := (iv_d [some 1, some 14, some 17, some 29, some 30, none, none, none, none] :: (iv_rd 1 ++ iv_wa 14 ++ iv_sc 17 ++ [iv_o 4 2 (iv_r 31 12 1), iv_n 2 2] ++ iv_sc 31))) (a := 43) rfl (by decide)) rfl rfl (Nat.le_of_ble_eq_true rfl) (by decide) (fun τ6 q6 => ?_)
      have g6 := iv_G.sc g5 q6 (by decide) (by decide)
      refine q_aastb (sh1 := (iv_d [some 1, some 14, some 17, some 29, some 30, none, none, none, none] :: (iv_rd 1 ++ iv_wa 14 ++ iv_sc 17 ++ [iv_o 4 2 (iv_r 31 12 2), iv_n 2 2] ++ iv_sc 31 ++ iv_sc 43))) (ci := 3) (t := 4) ⟨by decide, by decide⟩ rfl rfl rfl (vp_in_iff.mpr ⟨by decide, by decide⟩) dX7_init_71 (congrArg (fun g => (iv_d [some 1, some 14, some 17, some 29, some 30, none, none, none, none] :: (iv_rd 1 ++ iv_wa 14 ++ iv_sc 17 ++ [iv_o 4 2 g, iv_n 2 2] ++ iv_sc 31 ++ iv_sc 43))) (iv_r_s 31 12 1)) ?_
      refine q_inc 1 dX7_init_72 (by decide) rfl (by decide) rfl ?_
      refine q_lr (ls' := [some (.ref 0), some (.int 2)]) (by rfl) ?_
      refine q_goto 54 dX7_init_75 (by decide) ?_
      refine q_iload_n dX7_init_54 rfl ?_
      refine q_iconst (x := 2) dX7_init_55 (by decide) ?_
      refine q_cge 78 dX7_init_56 (by decide) (fun h56 => ?_) (fun h56 => ?_)
      · refine q_aload_n dX7_init_78 rfl ?_
        refine q_iconst (x := 4) dX7_init_79 (by decide) ?_
        refine q_shr (sh' := (iv_d [some 1, some 14, some 17, some 29, some 30, none, none, none, none] :: (iv_rd 1 ++ iv_wa 14 ++ iv_sc 17 ++ [iv_o 4 2 q_ri, iv_n 2 2] ++ iv_sc 31 ++ iv_sc 43))) (congrArg (fun g => (iv_d [some 1, some 14, some 17, some 29, some 30, none, none, none, none] :: (iv_rd 1 ++ iv_wa 14 ++ iv_sc 17 ++ [iv_o 4 2 g, iv_n 2 2] ++ iv_sc 31 ++ iv_sc 43))) iv_r_i) ?_
        refine q_newqb (b := 55) (sh1 := (iv_d [some 1, some 14, some 17, some 29, some 30, none, none, none, none] :: (iv_rd 1 ++ iv_wa 14 ++ iv_sc 17 ++ [iv_o 4 2 q_ri, iv_n 2 2] ++ iv_sc 31 ++ iv_sc 43 ++ [iv_o 5 4 (fun _ => none)]))) (t := 5) (N := 4) rfl rfl ⟨by decide, by decide⟩ qX7_38 dX7_init_80 ⟨by decide, by decide, by decide⟩ ⟨by decide, by decide, by decide⟩ ?_
        refine q_putFb (sh1 := (iv_d [some 1, some 14, some 17, some 29, some 30, some 55, none, none, none] :: (iv_rd 1 ++ iv_wa 14 ++ iv_sc 17 ++ [iv_o 4 2 q_ri, iv_n 2 2] ++ iv_sc 31 ++ iv_sc 43 ++ [iv_o 5 4 (fun _ => none)]))) pX7_40 rfl (fun _ => ⟨rfl, rfl⟩) dX7_init_83 (by first | rfl | assumption) (by rfl) rfl ?_
        have g7 := g6.put (by decide)
        refine q_shr (sh' := (iv_d [some 1, some 14, some 17, some 29, some 30, some 55, none, none, none] :: (iv_rd 1 ++ iv_wa 14 ++ iv_sc 17 ++ [iv_o 4 2 q_ri, iv_n 2 2] ++ iv_sc 31 ++ iv_sc 43 ++ [iv_o 5 4 (iv_r 56 2 0)]))) (congrArg (fun g => (iv_d [some 1, some 14, some 17, some 29, some 30, some 55, none, none, none] :: (iv_rd 1 ++ iv_wa 14 ++ iv_sc 17 ++ [iv_o 4 2 q_ri, iv_n 2 2] ++ iv_sc 31 ++ iv_sc 43 ++ [iv_o 5 4 g]))) (iv_r_0 56 2)) ?_
        refine q_iconst (x := 0) dX7_init_86 (by decide) ?_
        refine q_istore_n dX7_init_87 (by decide) rfl ?_
        refine q_iload_n dX7_init_88 rfl ?_
        refine q_iconst (x := 4) dX7_init_89 (by decide) ?_
        refine q_cge 112 dX7_init_90 (by decide) (fun h90 => ?_) (fun h90 => ?_)
        · exact absurd h90 (by decide)
        · refine q_aload_n dX7_init_93 rfl ?_
          refine q_getr fX7_40 dX7_init_94 (by first | rfl | assumption) (by rfl) ?_
          refine q_iload_n dX7_init_97 rfl ?_
          refine q_newb (b := 56) (sh1 := (iv_d [some 1, some 14, some 17, some 29, some 30, some 55, none, none, none] :: (iv_rd 1 ++ iv_wa 14 ++ iv_sc 17 ++ [iv_o 4 2 q_ri, iv_n 2 2] ++ iv_sc 31 ++ iv_sc 43 ++ [iv_o 5 4 (iv_r 56 2 0)] ++ [.inr (5, [some none, none, none])]))) rfl rfl nX7_38 dX7_init_98 ⟨by decide, by decide, by decide⟩ ?_
          refine q_dup rfl dX7_init_101 ?_
          refine q_rIv lX7_44 iX5_init ⟨rfl, rfl⟩ dX7_init_102 (kX5_init (P := (iv_d [some 1, some 14, some 17, some 29, some 30, some 55, none, none, none] :: (iv_rd 1 ++ iv_wa 14 ++ iv_sc 17 ++ [iv_o 4 2 q_ri, iv_n 2 2] ++ iv_sc 31 ++ iv_sc 43 ++ [iv_o 5 4 (iv_r 56 2 0)]))) (a := 56) rfl (by decide)) rfl rfl (Nat.le_of_ble_eq_true rfl) (by decide) (fun τ8 q8 => ?_)
          have g8 := iv_G.st g7 q8 (by decide)
          refine q_aastb (sh1 := (iv_d [some 1, some 14, some 17, some 29, some 30, some 55, none, none, none] :: (iv_rd 1 ++ iv_wa 14 ++ iv_sc 17 ++ [iv_o 4 2 q_ri, iv_n 2 2] ++ iv_sc 31 ++ iv_sc 43 ++ [iv_o 5 4 (iv_r 56 2 1)] ++ iv_st 56))) (ci := 5) (t := 5) ⟨by decide, by decide⟩ rfl rfl rfl (vp_in_iff.mpr ⟨by decide, by decide⟩) dX7_init_105 (congrArg (fun g => (iv_d [some 1, some 14, some 17, some 29, some 30, some 55, none, none, none] :: (iv_rd 1 ++ iv_wa 14 ++ iv_sc 17 ++ [iv_o 4 2 q_ri, iv_n 2 2] ++ iv_sc 31 ++ iv_sc 43 ++ [iv_o 5 4 g] ++ iv_st 56))) (iv_r_s 56 2 0)) ?_
          refine q_inc 1 dX7_init_106 (by decide) rfl (by decide) rfl ?_
          refine q_lr (ls' := [some (.ref 0), some (.int 1)]) (by rfl) ?_
          refine q_goto 88 dX7_init_109 (by decide) ?_
          refine q_iload_n dX7_init_88 rfl ?_
          refine q_iconst (x := 4) dX7_init_89 (by decide) ?_
          refine q_cge 112 dX7_init_90 (by decide) (fun h90 => ?_) (fun h90 => ?_)
          · exact absurd h90 (by decide)
          · refine q_aload_n dX7_init_93 rfl ?_
            refine q_getr fX7_40 dX7_init_94 (by first | rfl | assumption) (by rfl) ?_
            refine q_iload_n dX7_init_97 rfl ?_
            refine q_newb (b := 58) (sh1 := (iv_d [some 1, some 14, some 17, some 29, some 30, some 55, none, none, none] :: (iv_rd 1 ++ iv_wa 14 ++ iv_sc 17 ++ [iv_o 4 2 q_ri, iv_n 2 2] ++ iv_sc 31 ++ iv_sc 43 ++ [iv_o 5 4 (iv_r 56 2 1)] ++ iv_st 56 ++ [.inr (5, [some none, none, none])]))) rfl rfl nX7_38 dX7_init_98 ⟨by decide, by decide, by decide⟩ ?_
            refine q_dup rfl dX7_init_101 ?_
            refine q_rIv lX7_44 iX5_init ⟨rfl, rfl⟩ dX7_init_102 (kX5_init (P := (iv_d [some 1, some 14, some 17, some 29, some 30, some 55, none, none, none] :: (iv_rd 1 ++ iv_wa 14 ++ iv_sc 17 ++ [iv_o 4 2 q_ri, iv_n 2 2] ++ iv_sc 31 ++ iv_sc 43 ++ [iv_o 5 4 (iv_r 56 2 1)] ++ iv_st 56))) (a := 58) rfl (by decide)) rfl rfl (Nat.le_of_ble_eq_true rfl) (by decide) (fun τ9 q9 => ?_)
            have g9 := iv_G.st g8 q9 (by decide)
            refine q_aastb (sh1 := (iv_d [some 1, some 14, some 17, some 29, some 30, some 55, none, none, none] :: (iv_rd 1 ++ iv_wa 14 ++ iv_sc 17 ++ [iv_o 4 2 q_ri, iv_n 2 2] ++ iv_sc 31 ++ iv_sc 43 ++ [iv_o 5 4 (iv_r 56 2 2)] ++ iv_st 56 ++ iv_st 58))) (ci := 5) (t := 5) ⟨by decide, by decide⟩ rfl rfl rfl (vp_in_iff.mpr ⟨by decide, by decide⟩) dX7_init_105 (congrArg (fun g => (iv_d [some 1, some 14, some 17, some 29, some 30, some 55, none, none, none] :: (iv_rd 1 ++ iv_wa 14 ++ iv_sc 17 ++ [iv_o 4 2 q_ri, iv_n 2 2] ++ iv_sc 31 ++ iv_sc 43 ++ [iv_o 5 4 g] ++ iv_st 56 ++ iv_st 58))) (iv_r_s 56 2 1)) ?_
            refine q_inc 1 dX7_init_106 (by decide) rfl (by decide) rfl ?_
            refine q_lr (ls' := [some (.ref 0), some (.int 2)]) (by rfl) ?_
            refine q_goto 88 dX7_init_109 (by decide) ?_
            refine q_iload_n dX7_init_88 rfl ?_
            refine q_iconst (x := 4) dX7_init_89 (by decide) ?_
            refine q_cge 112 dX7_init_90 (by decide) (fun h90 => ?_) (fun h90 => ?_)
            · exact absurd h90 (by decide)
            · refine q_aload_n dX7_init_93 rfl ?_
              refine q_getr fX7_40 dX7_init_94 (by first | rfl | assumption) (by rfl) ?_
              refine q_iload_n dX7_init_97 rfl ?_
              refine q_newb (b := 60) (sh1 := (iv_d [some 1, some 14, some 17, some 29, some 30, some 55, none, none, none] :: (iv_rd 1 ++ iv_wa 14 ++ iv_sc 17 ++ [iv_o 4 2 q_ri, iv_n 2 2] ++ iv_sc 31 ++ iv_sc 43 ++ [iv_o 5 4 (iv_r 56 2 2)] ++ iv_st 56 ++ iv_st 58 ++ [.inr (5, [some none, none, none])]))) rfl rfl nX7_38 dX7_init_98 ⟨by decide, by decide, by decide⟩ ?_
              refine q_dup rfl dX7_init_101 ?_
              refine q_rIv lX7_44 iX5_init ⟨rfl, rfl⟩ dX7_init_102 (kX5_init (P := (iv_d [some 1, some 14, some 17, some 29, some 30, some 55, none, none, none] :: (iv_rd 1 ++ iv_wa 14 ++ iv_sc 17 ++ [iv_o 4 2 q_ri, iv_n 2 2] ++ iv_sc 31 ++ iv_sc 43 ++ [iv_o 5 4 (iv_r 56 2 2)] ++ iv_st 56 ++ iv_st 58))) (a := 60) rfl (by decide)) rfl rfl (Nat.le_of_ble_eq_true rfl) (by decide) (fun τ10 q10 => ?_)
              have g10 := iv_G.st g9 q10 (by decide)
              refine q_aastb (sh1 := (iv_d [some 1, some 14, some 17, some 29, some 30, some 55, none, none, none] :: (iv_rd 1 ++ iv_wa 14 ++ iv_sc 17 ++ [iv_o 4 2 q_ri, iv_n 2 2] ++ iv_sc 31 ++ iv_sc 43 ++ [iv_o 5 4 (iv_r 56 2 3)] ++ iv_st 56 ++ iv_st 58 ++ iv_st 60))) (ci := 5) (t := 5) ⟨by decide, by decide⟩ rfl rfl rfl (vp_in_iff.mpr ⟨by decide, by decide⟩) dX7_init_105 (congrArg (fun g => (iv_d [some 1, some 14, some 17, some 29, some 30, some 55, none, none, none] :: (iv_rd 1 ++ iv_wa 14 ++ iv_sc 17 ++ [iv_o 4 2 q_ri, iv_n 2 2] ++ iv_sc 31 ++ iv_sc 43 ++ [iv_o 5 4 g] ++ iv_st 56 ++ iv_st 58 ++ iv_st 60))) (iv_r_s 56 2 2)) ?_
              refine q_inc 1 dX7_init_106 (by decide) rfl (by decide) rfl ?_
              refine q_lr (ls' := [some (.ref 0), some (.int 3)]) (by rfl) ?_
              refine q_goto 88 dX7_init_109 (by decide) ?_
              refine q_iload_n dX7_init_88 rfl ?_
              refine q_iconst (x := 4) dX7_init_89 (by decide) ?_
              refine q_cge 112 dX7_init_90 (by decide) (fun h90 => ?_) (fun h90 => ?_)
              · exact absurd h90 (by decide)
              · refine q_aload_n dX7_init_93 rfl ?_
                refine q_getr fX7_40 dX7_init_94 (by first | rfl | assumption) (by rfl) ?_
                refine q_iload_n dX7_init_97 rfl ?_
                refine q_newb (b := 62) (sh1 := (iv_d [some 1, some 14, some 17, some 29, some 30, some 55, none, none, none] :: (iv_rd 1 ++ iv_wa 14 ++ iv_sc 17 ++ [iv_o 4 2 q_ri, iv_n 2 2] ++ iv_sc 31 ++ iv_sc 43 ++ [iv_o 5 4 (iv_r 56 2 3)] ++ iv_st 56 ++ iv_st 58 ++ iv_st 60 ++ [.inr (5, [some none, none, none])]))) rfl rfl nX7_38 dX7_init_98 ⟨by decide, by decide, by decide⟩ ?_
                refine q_dup rfl dX7_init_101 ?_
                refine q_rIv lX7_44 iX5_init ⟨rfl, rfl⟩ dX7_init_102 (kX5_init (P := (iv_d [some 1, some 14, some 17, some 29, some 30, some 55, none, none, none] :: (iv_rd 1 ++ iv_wa 14 ++ iv_sc 17 ++ [iv_o 4 2 q_ri, iv_n 2 2] ++ iv_sc 31 ++ iv_sc 43 ++ [iv_o 5 4 (iv_r 56 2 3)] ++ iv_st 56 ++ iv_st 58 ++ iv_st 60))) (a := 62) rfl (by decide)) rfl rfl (Nat.le_of_ble_eq_true rfl) (by decide) (fun τ11 q11 => ?_)
                have g11 := iv_G.st g10 q11 (by decide)
                refine q_aastb (sh1 := (iv_d [some 1, some 14, some 17, some 29, some 30, some 55, none, none, none] :: (iv_rd 1 ++ iv_wa 14 ++ iv_sc 17 ++ [iv_o 4 2 q_ri, iv_n 2 2] ++ iv_sc 31 ++ iv_sc 43 ++ [iv_o 5 4 (iv_r 56 2 4)] ++ iv_st 56 ++ iv_st 58 ++ iv_st 60 ++ iv_st 62))) (ci := 5) (t := 5) ⟨by decide, by decide⟩ rfl rfl rfl (vp_in_iff.mpr ⟨by decide, by decide⟩) dX7_init_105 (congrArg (fun g => (iv_d [some 1, some 14, some 17, some 29, some 30, some 55, none, none, none] :: (iv_rd 1 ++ iv_wa 14 ++ iv_sc 17 ++ [iv_o 4 2 q_ri, iv_n 2 2] ++ iv_sc 31 ++ iv_sc 43 ++ [iv_o 5 4 g] ++ iv_st 56 ++ iv_st 58 ++ iv_st 60 ++ iv_st 62))) (iv_r_s 56 2 3)) ?_
                refine q_inc 1 dX7_init_106 (by decide) rfl (by decide) rfl ?_
                refine q_lr (ls' := [some (.ref 0), some (.int 4)]) (by rfl) ?_
                refine q_goto 88 dX7_init_109 (by decide) ?_
                refine q_iload_n dX7_init_88 rfl ?_
                refine q_iconst (x := 4) dX7_init_89 (by decide) ?_
                refine q_cge 112 dX7_init_90 (by decide) (fun h90 => ?_) (fun h90 => ?_)
                · refine q_shr (sh' := (iv_d [some 1, some 14, some 17, some 29, some 30, some 55, none, none, none] :: (iv_rd 1 ++ iv_wa 14 ++ iv_sc 17 ++ [iv_o 4 2 q_ri, iv_n 2 2] ++ iv_sc 31 ++ iv_sc 43 ++ [iv_o 5 4 q_rs] ++ iv_st 56 ++ iv_st 58 ++ iv_st 60 ++ iv_st 62))) (congrArg (fun g => (iv_d [some 1, some 14, some 17, some 29, some 30, some 55, none, none, none] :: (iv_rd 1 ++ iv_wa 14 ++ iv_sc 17 ++ [iv_o 4 2 q_ri, iv_n 2 2] ++ iv_sc 31 ++ iv_sc 43 ++ [iv_o 5 4 g] ++ iv_st 56 ++ iv_st 58 ++ iv_st 60 ++ iv_st 62))) iv_r_t) ?_
                  refine q_aload_n dX7_init_112 rfl ?_
                  refine q_newb (b := 64) (sh1 := (iv_d [some 1, some 14, some 17, some 29, some 30, some 55, none, none, none] :: (iv_rd 1 ++ iv_wa 14 ++ iv_sc 17 ++ [iv_o 4 2 q_ri, iv_n 2 2] ++ iv_sc 31 ++ iv_sc 43 ++ [iv_o 5 4 q_rs] ++ iv_st 56 ++ iv_st 58 ++ iv_st 60 ++ iv_st 62 ++ [.inr (4, [some none, some none, some none, none])]))) rfl rfl nX7_45 dX7_init_113 ⟨by decide, by decide, by decide⟩ ?_
                  refine q_dup rfl dX7_init_116 ?_
                  refine q_rIv lX7_47 iX4_init ⟨rfl, rfl⟩ dX7_init_117 (kX4_init (P := (iv_d [some 1, some 14, some 17, some 29, some 30, some 55, none, none, none] :: (iv_rd 1 ++ iv_wa 14 ++ iv_sc 17 ++ [iv_o 4 2 q_ri, iv_n 2 2] ++ iv_sc 31 ++ iv_sc 43 ++ [iv_o 5 4 q_rs] ++ iv_st 56 ++ iv_st 58 ++ iv_st 60 ++ iv_st 62))) (a := 64) rfl (by decide)) rfl rfl (Nat.le_of_ble_eq_true rfl) (by decide) (fun τ12 q12 => ?_)
                  have g12 := iv_G.sn g11 q12 (by decide)
                  refine q_putFb (sh1 := (iv_d [some 1, some 14, some 17, some 29, some 30, some 55, some 64, none, none] :: (iv_rd 1 ++ iv_wa 14 ++ iv_sc 17 ++ [iv_o 4 2 q_ri, iv_n 2 2] ++ iv_sc 31 ++ iv_sc 43 ++ [iv_o 5 4 q_rs] ++ iv_st 56 ++ iv_st 58 ++ iv_st 60 ++ iv_st 62 ++ iv_sn 64))) pX7_48 rfl (fun _ => ⟨rfl, rfl⟩) dX7_init_120 (by first | rfl | assumption) (by rfl) rfl ?_
                  refine q_aload_n dX7_init_123 rfl ?_
                  refine q_newb (b := 68) (sh1 := (iv_d [some 1, some 14, some 17, some 29, some 30, some 55, some 64, none, none] :: (iv_rd 1 ++ iv_wa 14 ++ iv_sc 17 ++ [iv_o 4 2 q_ri, iv_n 2 2] ++ iv_sc 31 ++ iv_sc 43 ++ [iv_o 5 4 q_rs] ++ iv_st 56 ++ iv_st 58 ++ iv_st 60 ++ iv_st 62 ++ iv_sn 64 ++ [.inr (1, [some none, some none, none, none, none, none])]))) rfl rfl nX7_52 dX7_init_124 ⟨by decide, by decide, by decide⟩ ?_
                  refine q_dup rfl dX7_init_127 ?_
                  refine q_rIv lX7_54 iX1_init ⟨rfl, rfl⟩ dX7_init_128 (kX1_init (P := (iv_d [some 1, some 14, some 17, some 29, some 30, some 55, some 64, none, none] :: (iv_rd 1 ++ iv_wa 14 ++ iv_sc 17 ++ [iv_o 4 2 q_ri, iv_n 2 2] ++ iv_sc 31 ++ iv_sc 43 ++ [iv_o 5 4 q_rs] ++ iv_st 56 ++ iv_st 58 ++ iv_st 60 ++ iv_st 62 ++ iv_sn 64))) (a := 68) rfl (by decide)) rfl rfl (Nat.le_of_ble_eq_true rfl) (by decide) (fun τ13 q13 => ?_)
                  have g13 := iv_G.hd g12 q13 (by decide)
                  refine q_putFb (sh1 := (iv_d [some 1, some 14, some 17, some 29, some 30, some 55, some 64, some 68, none] :: (iv_rd 1 ++ iv_wa 14 ++ iv_sc 17 ++ [iv_o 4 2 q_ri, iv_n 2 2] ++ iv_sc 31 ++ iv_sc 43 ++ [iv_o 5 4 q_rs] ++ iv_st 56 ++ iv_st 58 ++ iv_st 60 ++ iv_st 62 ++ iv_sn 64 ++ iv_hd 68))) pX7_55 rfl (fun _ => ⟨rfl, rfl⟩) dX7_init_131 (by first | rfl | assumption) (by rfl) rfl ?_
                  refine q_aload_n dX7_init_134 rfl ?_
                  refine q_sipush (x := 501) dX7_init_135 (by decide) ?_
                  refine q_newab (b := 71) (sh1 := (iv_d [some 1, some 14, some 17, some 29, some 30, some 55, some 64, some 68, none] :: (iv_rd 1 ++ iv_wa 14 ++ iv_sc 17 ++ [iv_o 4 2 q_ri, iv_n 2 2] ++ iv_sc 31 ++ iv_sc 43 ++ [iv_o 5 4 q_rs] ++ iv_st 56 ++ iv_st 58 ++ iv_st 60 ++ iv_st 62 ++ iv_sn 64 ++ iv_hd 68 ++ [.inl (2, 501, none)]))) (at0 := .boolean) (t := 2) (N := 501) rfl rfl (by decide) rfl q_ac_boolean dX7_init_138 ⟨by decide, by decide, by decide⟩ ⟨by decide, by decide, by decide⟩ ?_
                  refine q_putFb (sh1 := (q_SH.take 72)) pX7_59 rfl (fun _ => ⟨rfl, rfl⟩) dX7_init_140 (by first | rfl | assumption) (by rfl) rfl ?_
                  have g14 := g13.put (by decide)
                  refine q_aload_n dX7_init_143 rfl ?_
                  refine q_getr fX7_26 dX7_init_144 (by first | rfl | assumption) (by rfl) ?_
                  refine q_aload_n dX7_init_147 rfl ?_
                  refine q_getr fX7_19 dX7_init_148 (by first | rfl | assumption) (by rfl) ?_
                  refine q_getr fX7_62 dX7_init_151 (by first | rfl | assumption) (by rfl) ?_
                  refine q_iconst (x := 2) dX7_init_154 (by decide) ?_
                  refine q_ild 2 (by first | rfl | assumption) rfl (by decide) dX7_init_155 ?_
                  refine q_tope (y := 293) (by rw [g14 15 (by decide)]; rfl) ?_
                  refine q_put_i pX7_66 dX7_init_156 (by first | rfl | assumption) (by rfl) rfl rfl ?_
                  refine q_vret dX7_init_159 ?_ rfl rfl
                  refine ⟨rfl, rfl, fun b hb h17 => ?_, ?_⟩
                  · rw [q_up_ne h17]; exact g14 b hb
                  · rw [q_up_same, g14 17 (by decide)]; rfl
                · exact absurd h90 (by decide)
      · exact absurd h56 (by decide)
