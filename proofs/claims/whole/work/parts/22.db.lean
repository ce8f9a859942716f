/-! Diver.move, copyFrom; what DiverBottle asks without loops -/
theorem q_up_f {σ : q_M} {a k j : Nat} {v : Int32} (h : j ≠ k) : q_up σ a k v a j = σ a j := q_up_off (fun e => h e.2)
theorem q_up_65 {σ : q_M} {a : Nat} {v : Int32} : q_up σ a 6 v a 5 = σ a 5 := q_up_f (by decide)
theorem q_up_56 {σ : q_M} {a : Nat} {v : Int32} : q_up σ a 5 v a 6 = σ a 6 := q_up_f (by decide)
theorem q_up_g {σ : q_M} {a b k j : Nat} {v : Int32} (h : b ≠ a) : q_up σ a k v b j = σ b j := q_up_off (fun e => h e.1)
theorem q_st0 {σ : q_M} {d : Nat} {p f x : Int32} : q_up (q_up (q_up (q_up σ d 6 p) d 5 f) d 5 x) d 6 0 = q_up (q_up σ d 5 x) d 6 0 := by
  funext b j
  by_cases h1 : b = d <;> by_cases h2 : j = 5 <;> by_cases h3 : j = 6 <;> simp [q_up, upd, h1, h2, h3]
theorem q_st1 {σ : q_M} {d : Nat} {p f : Int32} : q_up (q_up σ d 6 p) d 5 f = q_up (q_up σ d 5 f) d 6 p := q_us σ d d p f (by simp)

set_option maxHeartbeats 4000000 in
set_option maxRecDepth 100000 in
theorem kX0_move {sh : List q_S} {σ : q_M} {d : Nat} (hd : sh[d]? = some q_sD) {w drag fl : Int32} : q_Ct YX0_move [.ref d, .int w, .int drag, .int fl] sh σ (q_is none sh (q_up (q_up σ d 5 (q_mv (σ d 5) (σ d 6) w drag fl).1) d 6 (q_mv (σ d 5) (σ d 6) w drag fl).2)) := by
  refine q_ct (n := 0) (by decide) (by decide) rfl (fun _ => Nat.le_of_ble_eq_true rfl) (fun E => ?_)
  have he : σ d 6 + w - q_dc (σ d 6 + w) drag = q_mp (σ d 6) w drag := rfl
  refine q_aload_n dX0_move_0 rfl ?_
  refine q_dup rfl dX0_move_1 ?_
  refine q_get fX0_34 dX0_move_2 (by first | assumption | rfl) (by rfl) ?_
  refine q_iload_n dX0_move_5 rfl ?_
  refine q_iadd dX0_move_6 ?_
  refine q_put_i pX0_34 dX0_move_7 (by first | assumption | rfl) (by rfl) rfl rfl ?_
  refine q_aload_n dX0_move_10 rfl ?_
  refine q_dup rfl dX0_move_11 ?_
  refine q_get fX0_34 dX0_move_12 (by first | assumption | rfl) (by rfl) ?_
  try simp only [q_up_at, q_up_65, q_up_56, q_uu]
  refine q_aload_n dX0_move_15 rfl ?_
  refine q_get fX0_34 dX0_move_16 (by first | assumption | rfl) (by rfl) ?_
  try simp only [q_up_at, q_up_65, q_up_56, q_uu]
  refine q_iload_n dX0_move_19 rfl ?_
  refine q_cSi lX0_37 sX7_divideCut dX0_move_20 kX7_divideCut rfl rfl (Nat.le_of_ble_eq_true rfl) (by decide) ?_
  refine q_isub dX0_move_23 ?_
  refine q_put_i pX0_34 dX0_move_24 (by first | assumption | rfl) (by rfl) rfl rfl ?_
  try simp only [q_up_at, q_up_65, q_up_56, q_uu]
  rw [he]
  refine q_aload_n dX0_move_27 rfl ?_
  refine q_dup rfl dX0_move_28 ?_
  refine q_get fX0_31 dX0_move_29 (by first | assumption | rfl) (by rfl) ?_
  try simp only [q_up_at, q_up_65, q_up_56, q_uu]
  refine q_aload_n dX0_move_32 rfl ?_
  refine q_get fX0_34 dX0_move_33 (by first | assumption | rfl) (by rfl) ?_
  try simp only [q_up_at, q_up_65, q_up_56, q_uu]
  refine q_iadd dX0_move_36 ?_
  refine q_put_i pX0_31 dX0_move_37 (by first | assumption | rfl) (by rfl) rfl rfl ?_
  try simp only [q_up_at, q_up_65, q_up_56, q_uu]
  refine q_aload_n dX0_move_40 rfl ?_
  refine q_get fX0_31 dX0_move_41 (by first | assumption | rfl) (by rfl) ?_
  try simp only [q_up_at, q_up_65, q_up_56, q_uu]
  refine q_zgt 59 dX0_move_44 (by decide) (fun h44 => ?_) (fun h44 => ?_)
  · refine q_aload_n dX0_move_59 rfl ?_
    refine q_get fX0_31 dX0_move_60 (by first | assumption | rfl) (by rfl) ?_
    try simp only [q_up_at, q_up_65, q_up_56, q_uu]
    refine q_iload_n dX0_move_63 rfl ?_
    refine q_clt 79 dX0_move_64 (by decide) (fun h64 => ?_) (fun h64 => ?_)
    · refine q_vret dX0_move_79 ?_ rfl rfl
      first
        | exact absurd h71 (by decide)
        | (refine ⟨rfl, rfl, ?_⟩
           simp only [q_st0, q_st1, q_uu, q_mv]
           first
             | rw [if_pos ⟨by assumption, by assumption⟩]
             | (rw [if_neg (by omega)]; first | rw [if_pos ⟨by assumption, by assumption⟩] | rw [if_neg (by omega)]))
    · refine q_aload_n dX0_move_67 rfl ?_
      refine q_get fX0_34 dX0_move_68 (by first | assumption | rfl) (by rfl) ?_
      try simp only [q_up_at, q_up_65, q_up_56, q_uu]
      refine q_zle 79 dX0_move_71 (by decide) (fun h71 => ?_) (fun h71 => ?_)
      · refine q_vret dX0_move_79 ?_ rfl rfl
        first
          | exact absurd h71 (by decide)
          | (refine ⟨rfl, rfl, ?_⟩
             simp only [q_st0, q_st1, q_uu, q_mv]
             first
               | rw [if_pos ⟨by assumption, by assumption⟩]
               | (rw [if_neg (by omega)]; first | rw [if_pos ⟨by assumption, by assumption⟩] | rw [if_neg (by omega)]))
      · refine q_aload_n dX0_move_74 rfl ?_
        refine q_iload_n dX0_move_75 rfl ?_
        refine q_cVv lX0_41 vX0_stopAt (ci := 0) rfl dX0_move_76 (kX0_stopAt (by first | assumption | rfl)) (by first | assumption | rfl) rfl rfl (Nat.le_of_ble_eq_true rfl) (by decide) ?_
        refine q_vret dX0_move_79 ?_ rfl rfl
        first
          | exact absurd h71 (by decide)
          | (refine ⟨rfl, rfl, ?_⟩
             simp only [q_st0, q_st1, q_uu, q_mv]
             first
               | rw [if_pos ⟨by assumption, by assumption⟩]
               | (rw [if_neg (by omega)]; first | rw [if_pos ⟨by assumption, by assumption⟩] | rw [if_neg (by omega)]))
  · refine q_aload_n dX0_move_47 rfl ?_
    refine q_get fX0_34 dX0_move_48 (by first | assumption | rfl) (by rfl) ?_
    try simp only [q_up_at, q_up_65, q_up_56, q_uu]
    refine q_zge 59 dX0_move_51 (by decide) (fun h51 => ?_) (fun h51 => ?_)
    · refine q_aload_n dX0_move_59 rfl ?_
      refine q_get fX0_31 dX0_move_60 (by first | assumption | rfl) (by rfl) ?_
      try simp only [q_up_at, q_up_65, q_up_56, q_uu]
      refine q_iload_n dX0_move_63 rfl ?_
      refine q_clt 79 dX0_move_64 (by decide) (fun h64 => ?_) (fun h64 => ?_)
      · refine q_vret dX0_move_79 ?_ rfl rfl
        first
          | exact absurd h71 (by decide)
          | (refine ⟨rfl, rfl, ?_⟩
             simp only [q_st0, q_st1, q_uu, q_mv]
             first
               | rw [if_pos ⟨by assumption, by assumption⟩]
               | (rw [if_neg (by omega)]; first | rw [if_pos ⟨by assumption, by assumption⟩] | rw [if_neg (by omega)]))
      · refine q_aload_n dX0_move_67 rfl ?_
        refine q_get fX0_34 dX0_move_68 (by first | assumption | rfl) (by rfl) ?_
        try simp only [q_up_at, q_up_65, q_up_56, q_uu]
        refine q_zle 79 dX0_move_71 (by decide) (fun h71 => ?_) (fun h71 => ?_)
        · refine q_vret dX0_move_79 ?_ rfl rfl
          first
            | exact absurd h71 (by decide)
            | (refine ⟨rfl, rfl, ?_⟩
               simp only [q_st0, q_st1, q_uu, q_mv]
               first
                 | rw [if_pos ⟨by assumption, by assumption⟩]
                 | (rw [if_neg (by omega)]; first | rw [if_pos ⟨by assumption, by assumption⟩] | rw [if_neg (by omega)]))
        · refine q_aload_n dX0_move_74 rfl ?_
          refine q_iload_n dX0_move_75 rfl ?_
          refine q_cVv lX0_41 vX0_stopAt (ci := 0) rfl dX0_move_76 (kX0_stopAt (by first | assumption | rfl)) (by first | assumption | rfl) rfl rfl (Nat.le_of_ble_eq_true rfl) (by decide) ?_
          refine q_vret dX0_move_79 ?_ rfl rfl
          first
            | exact absurd h71 (by decide)
            | (refine ⟨rfl, rfl, ?_⟩
               simp only [q_st0, q_st1, q_uu, q_mv]
               first
                 | rw [if_pos ⟨by assumption, by assumption⟩]
                 | (rw [if_neg (by omega)]; first | rw [if_pos ⟨by assumption, by assumption⟩] | rw [if_neg (by omega)]))
    · refine q_aload_n dX0_move_54 rfl ?_
      refine q_iconst (x := 0) dX0_move_55 (by decide) ?_
      refine q_cVv lX0_41 vX0_stopAt (ci := 0) rfl dX0_move_56 (kX0_stopAt (by first | assumption | rfl)) (by first | assumption | rfl) rfl rfl (Nat.le_of_ble_eq_true rfl) (by decide) ?_
      refine q_aload_n dX0_move_59 rfl ?_
      refine q_get fX0_31 dX0_move_60 (by first | assumption | rfl) (by rfl) ?_
      try simp only [q_up_at, q_up_65, q_up_56, q_uu]
      refine q_iload_n dX0_move_63 rfl ?_
      refine q_clt 79 dX0_move_64 (by decide) (fun h64 => ?_) (fun h64 => ?_)
      · refine q_vret dX0_move_79 ?_ rfl rfl
        first
          | exact absurd h71 (by decide)
          | (refine ⟨rfl, rfl, ?_⟩
             simp only [q_st0, q_st1, q_uu, q_mv]
             first
               | rw [if_pos ⟨by assumption, by assumption⟩]
               | (rw [if_neg (by omega)]; first | rw [if_pos ⟨by assumption, by assumption⟩] | rw [if_neg (by omega)]))
      · refine q_aload_n dX0_move_67 rfl ?_
        refine q_get fX0_34 dX0_move_68 (by first | assumption | rfl) (by rfl) ?_
        try simp only [q_up_at, q_up_65, q_up_56, q_uu]
        refine q_zle 79 dX0_move_71 (by decide) (fun h71 => ?_) (fun h71 => ?_)
        · refine q_vret dX0_move_79 ?_ rfl rfl
          first
            | exact absurd h71 (by decide)
            | (refine ⟨rfl, rfl, ?_⟩
               simp only [q_st0, q_st1, q_uu, q_mv]
               first
                 | rw [if_pos ⟨by assumption, by assumption⟩]
                 | (rw [if_neg (by omega)]; first | rw [if_pos ⟨by assumption, by assumption⟩] | rw [if_neg (by omega)]))
        · refine q_aload_n dX0_move_74 rfl ?_
          refine q_iload_n dX0_move_75 rfl ?_
          refine q_cVv lX0_41 vX0_stopAt (ci := 0) rfl dX0_move_76 (kX0_stopAt (by first | assumption | rfl)) (by first | assumption | rfl) rfl rfl (Nat.le_of_ble_eq_true rfl) (by decide) ?_
          refine q_vret dX0_move_79 ?_ rfl rfl
          first
            | exact absurd h71 (by decide)
            | (refine ⟨rfl, rfl, ?_⟩
               simp only [q_st0, q_st1, q_uu, q_mv]
               first
                 | rw [if_pos ⟨by assumption, by assumption⟩]
                 | (rw [if_neg (by omega)]; first | rw [if_pos ⟨by assumption, by assumption⟩] | rw [if_neg (by omega)]))

set_option maxHeartbeats 4000000 in
set_option maxRecDepth 100000 in
theorem kX0_copyFrom {sh : List q_S} {σ : q_M} {d o : Nat} (hd : sh[d]? = some q_sD) (ho : sh[o]? = some q_sD) (hne : o ≠ d) (hb : σ o 7 = 0 ∨ σ o 7 = 1) : q_Ct YX0_copyFrom [.ref d, .ref o] sh σ (q_is none sh (q_up (q_up (q_up (q_up (q_up (q_up (q_up (q_up σ d 0 (σ o 0)) d 1 (σ o 1)) d 2 (σ o 2)) d 3 (σ o 3)) d 7 (σ o 7)) d 4 (σ o 4)) d 5 (σ o 5)) d 6 (σ o 6))) := by
  refine q_ct (n := 0) (by decide) (by decide) rfl (fun _ => Nat.le_of_ble_eq_true rfl) (fun E => ?_)
  refine q_aload_n dX0_copyFrom_0 rfl ?_
  refine q_aload_n dX0_copyFrom_1 rfl ?_
  refine q_get fX0_9 dX0_copyFrom_2 (by first | assumption | rfl) (by rfl) ?_
  refine q_put_i pX0_9 dX0_copyFrom_5 (by first | assumption | rfl) (by rfl) rfl rfl ?_
  refine q_aload_n dX0_copyFrom_8 rfl ?_
  refine q_aload_n dX0_copyFrom_9 rfl ?_
  refine q_get fX0_15 dX0_copyFrom_10 (by first | assumption | rfl) (by rfl) ?_
  simp only [q_up_g hne]
  refine q_put_i pX0_15 dX0_copyFrom_13 (by first | assumption | rfl) (by rfl) rfl rfl ?_
  refine q_aload_n dX0_copyFrom_16 rfl ?_
  refine q_aload_n dX0_copyFrom_17 rfl ?_
  refine q_get fX0_18 dX0_copyFrom_18 (by first | assumption | rfl) (by rfl) ?_
  simp only [q_up_g hne]
  refine q_put_i pX0_18 dX0_copyFrom_21 (by first | assumption | rfl) (by rfl) rfl rfl ?_
  refine q_aload_n dX0_copyFrom_24 rfl ?_
  refine q_aload_n dX0_copyFrom_25 rfl ?_
  refine q_get fX0_21 dX0_copyFrom_26 (by first | assumption | rfl) (by rfl) ?_
  simp only [q_up_g hne]
  refine q_put_i pX0_21 dX0_copyFrom_29 (by first | assumption | rfl) (by rfl) rfl rfl ?_
  refine q_aload_n dX0_copyFrom_32 rfl ?_
  refine q_aload_n dX0_copyFrom_33 rfl ?_
  refine q_get fX0_24 dX0_copyFrom_34 (by first | assumption | rfl) (by rfl) ?_
  simp only [q_up_g hne]
  refine q_put_i pX0_24 dX0_copyFrom_37 (by first | assumption | rfl) (by rfl) (by rcases hb with h | h <;> rw [h] <;> rfl) (by rcases hb with h | h <;> rw [h] <;> rfl) ?_
  refine q_aload_n dX0_copyFrom_40 rfl ?_
  refine q_aload_n dX0_copyFrom_41 rfl ?_
  refine q_get fX0_28 dX0_copyFrom_42 (by first | assumption | rfl) (by rfl) ?_
  simp only [q_up_g hne]
  refine q_put_i pX0_28 dX0_copyFrom_45 (by first | assumption | rfl) (by rfl) rfl rfl ?_
  refine q_aload_n dX0_copyFrom_48 rfl ?_
  refine q_aload_n dX0_copyFrom_49 rfl ?_
  refine q_get fX0_31 dX0_copyFrom_50 (by first | assumption | rfl) (by rfl) ?_
  simp only [q_up_g hne]
  refine q_put_i pX0_31 dX0_copyFrom_53 (by first | assumption | rfl) (by rfl) rfl rfl ?_
  refine q_aload_n dX0_copyFrom_56 rfl ?_
  refine q_aload_n dX0_copyFrom_57 rfl ?_
  refine q_get fX0_34 dX0_copyFrom_58 (by first | assumption | rfl) (by rfl) ?_
  simp only [q_up_g hne]
  refine q_put_i pX0_34 dX0_copyFrom_61 (by first | assumption | rfl) (by rfl) rfl rfl ?_
  refine q_vret dX0_copyFrom_64 ?_ rfl rfl
  exact ⟨rfl, rfl, rfl⟩

/-! THE FINISHED SHAPE -/
def q_ra (b n : Nat) : Nat → Option Nat := fun j => if j < n then some (b + j) else none
def q_ri : Nat → Option Nat := fun j => if j < 2 then some (31 + 12 * j) else none
def q_rs : Nat → Option Nat := fun j => if j < 4 then some (56 + 2 * j) else none
theorem q_ra_at {b n j : Nat} (h : j < n) : q_ra b n j = some (b + j) := if_pos h
def q_SH : List q_S := [.inr (7, [some (some 1), some (some 14), some (some 17), some (some 29), some (some 30), some (some 55), some (some 64), some (some 68), some (some 71), none, none]), .inr (2, [some (some 2), some (some 3), some (some 6), some (some 7), none, none, none, none, none, none, none, none, none]), .inl (1, 320, none), .inr (6, [some (some 4), some (some 5)]), .inl (0, 7, none), .inl (0, 24, none), .inl (3, 6, some (q_ra 8 6)), .inl (2, 7, none), q_sD, q_sD, q_sD, q_sD, q_sD, q_sD, .inr (6, [some (some 15), some (some 16)]), .inl (0, 7, none), .inl (0, 24, none), .inr (3, [some (some 18), some (some 19), none, none, none, none, none, none]), .inl (3, 6, some (q_ra 23 6)), .inr (4, [some (some 20), some (some 21), some (some 22), none]), .inl (0, 12, none), .inl (0, 12, none), .inl (2, 12, none), q_sD, q_sD, q_sD, q_sD, q_sD, q_sD, .inl (4, 2, some q_ri), .inl (2, 2, none), .inr (3, [some (some 32), some (some 33), none, none, none, none, none, none]), .inl (3, 6, some (q_ra 37 6)), .inr (4, [some (some 34), some (some 35), some (some 36), none]), .inl (0, 12, none), .inl (0, 12, none), .inl (2, 12, none), q_sD, q_sD, q_sD, q_sD, q_sD, q_sD, .inr (3, [some (some 44), some (some 45), none, none, none, none, none, none]), .inl (3, 6, some (q_ra 49 6)), .inr (4, [some (some 46), some (some 47), some (some 48), none]), .inl (0, 12, none), .inl (0, 12, none), .inl (2, 12, none), q_sD, q_sD, q_sD, q_sD, q_sD, q_sD, .inl (5, 4, some q_rs), .inr (5, [some (some 57), none, none]), .inl (0, 40, none), .inr (5, [some (some 59), none, none]), .inl (0, 40, none), .inr (5, [some (some 61), none, none]), .inl (0, 40, none), .inr (5, [some (some 63), none, none]), .inl (0, 40, none), .inr (4, [some (some 65), some (some 66), some (some 67), none]), .inl (0, 12, none), .inl (0, 12, none), .inl (2, 12, none), .inr (1, [some (some 69), some (some 70), none, none, none, none]), q_sD, .inl (0, 51, none), .inl (2, 501, none), .inr (8, [some (some 73), some (some 74), some (some 75), some (some 76), some (some 77), some (some 78), some (some 79), none, none, some (some 80), none, none, none, none, none, none, none, none, none, none, none, none, some (some 81), some (some 82), none, none, none, some (some 83), some (some 84), some (some 85), none]), .inl (0, 300, none), .inl (2, 2, none), .inl (0, 7, none), .inl (0, 24, none), .inl (0, 7, none), .inl (0, 24, none), .inl (0, 48, none), .inl (0, 320, none), .inl (2, 501, none), .inl (0, 1000, none), .inl (0, 4, none), .inl (0, 4, none), .inl (0, 160, none)]
theorem q_SH_dv {j : Nat} (h : j < 6) : q_SH[23 + j]? = some q_sD := by
  rcases (show j = 0 ∨ j = 1 ∨ j = 2 ∨ j = 3 ∨ j = 4 ∨ j = 5 by omega) with rfl | rfl | rfl | rfl | rfl | rfl <;> rfl

set_option maxHeartbeats 4000000 in
set_option maxRecDepth 100000 in
theorem kX7_isDiver {σ : q_M} {k : Int32} : q_Ct YX7_isDiver [.ref 0, .int k] q_SH σ (q_is (some (q_b (q_win k 0 (σ 17 2 - 1)))) q_SH σ) := by
  refine q_ct (n := 0) (by decide) (by decide) rfl (fun _ => Nat.le_of_ble_eq_true rfl) (fun E => ?_)
  refine q_iload_n dX7_isDiver_0 rfl ?_
  refine q_iconst (x := 0) dX7_isDiver_1 (by decide) ?_
  refine q_aload_n dX7_isDiver_2 rfl ?_
  refine q_getr fX7_26 dX7_isDiver_3 (by first | assumption | rfl) (by rfl) ?_
  refine q_get fX7_173 dX7_isDiver_6 (by first | assumption | rfl) (by rfl) ?_
  refine q_iconst (x := 1) dX7_isDiver_9 (by decide) ?_
  refine q_isub dX7_isDiver_10 ?_
  refine q_cSi lX7_77 sX7_within dX7_isDiver_11 kX7_within rfl rfl (Nat.le_of_ble_eq_true rfl) (by decide) ?_
  refine q_bret dX7_isDiver_14 ?_ rfl rfl
  exact ⟨rfl, rfl, rfl⟩

set_option maxHeartbeats 4000000 in
set_option maxRecDepth 100000 in
theorem kX7_isDepth {σ : q_M} {k : Int32} : q_Ct YX7_isDepth [.ref 0, .int k] q_SH σ (q_is (some (q_b (q_win k 0 (σ 15 0)))) q_SH σ) := by
  refine q_ct (n := 0) (by decide) (by decide) rfl (fun _ => Nat.le_of_ble_eq_true rfl) (fun E => ?_)
  refine q_iload_n dX7_isDepth_0 rfl ?_
  refine q_iconst (x := 0) dX7_isDepth_1 (by decide) ?_
  refine q_aload_n dX7_isDepth_2 rfl ?_
  refine q_getr fX7_19 dX7_isDepth_3 (by first | assumption | rfl) (by rfl) ?_
  refine q_getr fX7_62 dX7_isDepth_6 (by first | assumption | rfl) (by rfl) ?_
  refine q_iconst (x := 0) dX7_isDepth_9 (by decide) ?_
  refine q_ild 0 (by first | assumption | rfl) rfl (by decide) dX7_isDepth_10 ?_
  refine q_cSi lX7_77 sX7_within dX7_isDepth_11 kX7_within rfl rfl (Nat.le_of_ble_eq_true rfl) (by decide) ?_
  refine q_bret dX7_isDepth_14 ?_ rfl rfl
  exact ⟨rfl, rfl, rfl⟩

set_option maxHeartbeats 4000000 in
set_option maxRecDepth 100000 in
theorem kX7_canHold {σ : q_M} {k d t n : Int32} : q_Ct YX7_canHold [.ref 0, .int k, .int d, .int t, .int n] q_SH σ (q_is (some (q_b (q_win k 0 (σ 17 2 - 1) && q_win d 1 (σ 15 0 - 1) && q_win t 0 500 && q_win n 1 999))) q_SH σ) := by
  refine q_ct (n := 0) (by decide) (by decide) rfl (fun _ => Nat.le_of_ble_eq_true rfl) (fun E => ?_)
  refine q_aload_n dX7_canHold_0 rfl ?_
  refine q_iload_n dX7_canHold_1 rfl ?_
  refine q_cVi lX7_116 vX7_isDiver (ci := 7) rfl dX7_canHold_2 kX7_isDiver (by first | assumption | rfl) rfl rfl (Nat.le_of_ble_eq_true rfl) (by decide) ?_
  refine q_beq 50 dX7_canHold_5 (by decide) (fun h5 => ?_) (fun h5 => ?_)
  · refine q_iconst (x := 0) dX7_canHold_50 (by decide) ?_
    refine q_ret0 dX7_canHold_51 ?_ rfl rfl
    exact ⟨congrArg some (congrArg q_b (by simp [*])), rfl, rfl⟩
  · refine q_iload_n dX7_canHold_8 rfl ?_
    refine q_iconst (x := 1) dX7_canHold_9 (by decide) ?_
    refine q_aload_n dX7_canHold_10 rfl ?_
    refine q_getr fX7_19 dX7_canHold_11 (by first | assumption | rfl) (by rfl) ?_
    refine q_getr fX7_62 dX7_canHold_14 (by first | assumption | rfl) (by rfl) ?_
    refine q_iconst (x := 0) dX7_canHold_17 (by decide) ?_
    refine q_ild 0 (by first | assumption | rfl) rfl (by decide) dX7_canHold_18 ?_
    refine q_iconst (x := 1) dX7_canHold_19 (by decide) ?_
    refine q_isub dX7_canHold_20 ?_
    refine q_cSi lX7_77 sX7_within dX7_canHold_21 kX7_within rfl rfl (Nat.le_of_ble_eq_true rfl) (by decide) ?_
    refine q_beq 50 dX7_canHold_24 (by decide) (fun h24 => ?_) (fun h24 => ?_)
    · refine q_iconst (x := 0) dX7_canHold_50 (by decide) ?_
      refine q_ret0 dX7_canHold_51 ?_ rfl rfl
      exact ⟨congrArg some (congrArg q_b (by simp [*])), rfl, rfl⟩
    · refine q_iload_n dX7_canHold_27 rfl ?_
      refine q_cSi lX7_164 sX7_isThumb dX7_canHold_28 kX7_isThumb rfl rfl (Nat.le_of_ble_eq_true rfl) (by decide) ?_
      refine q_beq 50 dX7_canHold_31 (by decide) (fun h31 => ?_) (fun h31 => ?_)
      · refine q_iconst (x := 0) dX7_canHold_50 (by decide) ?_
        refine q_ret0 dX7_canHold_51 ?_ rfl rfl
        exact ⟨congrArg some (congrArg q_b (by simp [*])), rfl, rfl⟩
      · refine q_iload dX7_canHold_34 rfl ?_
        refine q_iconst (x := 1) dX7_canHold_36 (by decide) ?_
        refine q_sipush (x := 999) dX7_canHold_37 (by decide) ?_
        refine q_cSi lX7_77 sX7_within dX7_canHold_40 kX7_within rfl rfl (Nat.le_of_ble_eq_true rfl) (by decide) ?_
        refine q_beq 50 dX7_canHold_43 (by decide) (fun h43 => ?_) (fun h43 => ?_)
        · refine q_iconst (x := 0) dX7_canHold_50 (by decide) ?_
          refine q_ret0 dX7_canHold_51 ?_ rfl rfl
          exact ⟨congrArg some (congrArg q_b (by simp [*])), rfl, rfl⟩
        · refine q_iconst (x := 1) dX7_canHold_46 (by decide) ?_
          refine q_goto 51 dX7_canHold_47 (by decide) ?_
          refine q_ret1 dX7_canHold_51 ?_ rfl rfl
          exact ⟨congrArg some (congrArg q_b (by simp [*])), rfl, rfl⟩

/-- WEIGHT of the diver in cell d, as the class has it -/
def q_Wc (σ : q_M) (d : Nat) (dep th : Int32) : Int32 := q_wt (σ 15 1) (σ 15 4) (σ 15 5) (σ d 0 + σ d 4) (σ d 1) (σ 17 4) dep th

set_option maxHeartbeats 4000000 in
set_option maxRecDepth 100000 in
theorem kX7_weightOf {σ : q_M} {d : Nat} (hd : q_SH[d]? = some q_sD) {dep th : Int32} : q_Ct YX7_weightOf [.ref 0, .ref d, .int dep, .int th] q_SH σ (q_is (some (q_Wc σ d dep th)) q_SH σ) := by
  refine q_ct (n := 0) (by decide) (by decide) rfl (fun _ => Nat.le_of_ble_eq_true rfl) (fun E => ?_)
  refine q_aload_n dX7_weightOf_0 rfl ?_
  refine q_getr fX7_19 dX7_weightOf_1 (by first | assumption | rfl) (by rfl) ?_
  refine q_aload_n dX7_weightOf_4 rfl ?_
  refine q_get fX7_122 dX7_weightOf_5 (by first | assumption | rfl) (by rfl) ?_
  refine q_aload_n dX7_weightOf_8 rfl ?_
  refine q_get fX7_144 dX7_weightOf_9 (by first | assumption | rfl) (by rfl) ?_
  refine q_iadd dX7_weightOf_12 ?_
  refine q_aload_n dX7_weightOf_13 rfl ?_
  refine q_get fX7_127 dX7_weightOf_14 (by first | assumption | rfl) (by rfl) ?_
  refine q_aload_n dX7_weightOf_17 rfl ?_
  refine q_getr fX7_26 dX7_weightOf_18 (by first | assumption | rfl) (by rfl) ?_
  refine q_get fX7_66 dX7_weightOf_21 (by first | assumption | rfl) (by rfl) ?_
  refine q_iload_n dX7_weightOf_24 rfl ?_
  refine q_iload_n dX7_weightOf_25 rfl ?_
  refine q_cVi lX7_212 vX6_weight (ci := 6) rfl dX7_weightOf_26 (kX6_weight (by first | assumption | rfl) (by first | assumption | rfl)) (by first | assumption | rfl) rfl rfl (Nat.le_of_ble_eq_true rfl) (by decide) ?_
  refine q_ret dX7_weightOf_29 ?_ rfl rfl
  exact ⟨rfl, rfl, rfl⟩

/-- the least bubble that floats, as the class has it -/
def q_ff (σ : q_M) (mass dep th : Int32) : Int32 := q_lb (mass - q_lt0 dep (σ 15 4) (σ 15 5)) (σ 17 4) (σ 15 1 + th + dep)

set_option maxHeartbeats 4000000 in
set_option maxRecDepth 100000 in
theorem kX7_floatsFrom {σ : q_M} {m d t : Int32} : q_Ct YX7_floatsFrom [.ref 0, .int m, .int d, .int t] q_SH σ (q_is (some (q_ff σ m d t)) q_SH σ) := by
  refine q_ct (n := 1) (by decide) (by decide) rfl (fun _ => Nat.le_of_ble_eq_true rfl) (fun E => ?_)
  refine q_iload_n dX7_floatsFrom_0 rfl ?_
  refine q_aload_n dX7_floatsFrom_1 rfl ?_
  refine q_getr fX7_19 dX7_floatsFrom_2 (by first | assumption | rfl) (by rfl) ?_
  refine q_iload_n dX7_floatsFrom_5 rfl ?_
  refine q_cVi lX7_357 vX6_lighterAt (ci := 6) rfl dX7_floatsFrom_6 (kX6_lighterAt (by first | assumption | rfl) (by first | assumption | rfl)) (by first | assumption | rfl) rfl rfl (Nat.le_of_ble_eq_true rfl) (by decide) ?_
  refine q_isub dX7_floatsFrom_9 ?_
  refine q_istore dX7_floatsFrom_10 (by decide) rfl ?_
  refine q_aload_n dX7_floatsFrom_12 rfl ?_
  refine q_getr fX7_19 dX7_floatsFrom_13 (by first | assumption | rfl) (by rfl) ?_
  refine q_iload dX7_floatsFrom_16 rfl ?_
  refine q_aload_n dX7_floatsFrom_18 rfl ?_
  refine q_getr fX7_26 dX7_floatsFrom_19 (by first | assumption | rfl) (by rfl) ?_
  refine q_get fX7_66 dX7_floatsFrom_22 (by first | assumption | rfl) (by rfl) ?_
  refine q_aload_n dX7_floatsFrom_25 rfl ?_
  refine q_getr fX7_19 dX7_floatsFrom_26 (by first | assumption | rfl) (by rfl) ?_
  refine q_iload_n dX7_floatsFrom_29 rfl ?_
  refine q_iload_n dX7_floatsFrom_30 rfl ?_
  refine q_cVi lX7_197 vX6_pressAt (ci := 6) rfl dX7_floatsFrom_31 (kX6_pressAt (by first | assumption | rfl) (by first | assumption | rfl)) (by first | assumption | rfl) rfl rfl (Nat.le_of_ble_eq_true rfl) (by decide) ?_
  refine q_cVi lX7_367 vX6_leastBubble (ci := 6) rfl dX7_floatsFrom_34 (kX6_leastBubble (w := 14) (r := 15) (q := 16)) (by first | assumption | rfl) rfl rfl (Nat.le_of_ble_eq_true rfl) (by decide) ?_
  refine q_ret dX7_floatsFrom_37 ?_ rfl rfl
  exact ⟨rfl, rfl, rfl⟩

set_option maxHeartbeats 4000000 in
set_option maxRecDepth 100000 in
theorem kX7_risesFrom {σ : q_M} {m d : Int32} : q_Ct YX7_risesFrom [.ref 0, .int m, .int d] q_SH σ (q_is (some (q_ff σ (m + 1) d 0)) q_SH σ) := by
  refine q_ct (n := 0) (by decide) (by decide) rfl (fun _ => Nat.le_of_ble_eq_true rfl) (fun E => ?_)
  refine q_aload_n dX7_risesFrom_0 rfl ?_
  refine q_iload_n dX7_risesFrom_1 rfl ?_
  refine q_iconst (x := 1) dX7_risesFrom_2 (by decide) ?_
  refine q_iadd dX7_risesFrom_3 ?_
  refine q_iload_n dX7_risesFrom_4 rfl ?_
  refine q_iconst (x := 0) dX7_risesFrom_5 (by decide) ?_
  refine q_cVi lX7_225 vX7_floatsFrom (ci := 7) rfl dX7_risesFrom_6 kX7_floatsFrom (by first | assumption | rfl) rfl rfl (Nat.le_of_ble_eq_true rfl) (by decide) ?_
  refine q_ret dX7_risesFrom_9 ?_ rfl rfl
  exact ⟨rfl, rfl, rfl⟩

set_option maxHeartbeats 4000000 in
set_option maxRecDepth 100000 in
theorem kX7_comesBackFrom {σ : q_M} {m : Int32} : q_Ct YX7_comesBackFrom [.ref 0, .int m] q_SH σ (q_is (some (q_max (q_ff σ (m + 1) 0 0) (q_ff σ (m + 1) (σ 15 0) 0))) q_SH σ) := by
  refine q_ct (n := 0) (by decide) (by decide) rfl (fun _ => Nat.le_of_ble_eq_true rfl) (fun E => ?_)
  refine q_aload_n dX7_comesBackFrom_0 rfl ?_
  refine q_iload_n dX7_comesBackFrom_1 rfl ?_
  refine q_iconst (x := 0) dX7_comesBackFrom_2 (by decide) ?_
  refine q_cVi lX7_286 vX7_risesFrom (ci := 7) rfl dX7_comesBackFrom_3 kX7_risesFrom (by first | assumption | rfl) rfl rfl (Nat.le_of_ble_eq_true rfl) (by decide) ?_
  refine q_aload_n dX7_comesBackFrom_6 rfl ?_
  refine q_iload_n dX7_comesBackFrom_7 rfl ?_
  refine q_aload_n dX7_comesBackFrom_8 rfl ?_
  refine q_getr fX7_19 dX7_comesBackFrom_9 (by first | assumption | rfl) (by rfl) ?_
  refine q_getr fX7_62 dX7_comesBackFrom_12 (by first | assumption | rfl) (by rfl) ?_
  refine q_iconst (x := 0) dX7_comesBackFrom_15 (by decide) ?_
  refine q_ild 0 (by first | assumption | rfl) rfl (by decide) dX7_comesBackFrom_16 ?_
  refine q_cVi lX7_286 vX7_risesFrom (ci := 7) rfl dX7_comesBackFrom_17 kX7_risesFrom (by first | assumption | rfl) rfl rfl (Nat.le_of_ble_eq_true rfl) (by decide) ?_
  refine q_cSi lX7_280 sJ9_max_7cf53 dX7_comesBackFrom_20 kmax rfl rfl (Nat.le_of_ble_eq_true rfl) (by decide) ?_
  refine q_ret dX7_comesBackFrom_23 ?_ rfl rfl
  exact ⟨rfl, rfl, rfl⟩

set_option maxHeartbeats 4000000 in
set_option maxRecDepth 100000 in
theorem kX7_leastAtThumb {σ : q_M} {m t : Int32} : q_Ct YX7_leastAtThumb [.ref 0, .int m, .int t] q_SH σ (q_is (some (if t = 0 then 0 else q_ff σ m 0 (t - 1))) q_SH σ) := by
  refine q_ct (n := 0) (by decide) (by decide) rfl (fun _ => Nat.le_of_ble_eq_true rfl) (fun E => ?_)
  refine q_iload_n dX7_leastAtThumb_0 rfl ?_
  refine q_if_ne 8 dX7_leastAtThumb_1 (by decide) (fun h1 => ?_) (fun h1 => ?_)
  · refine q_aload_n dX7_leastAtThumb_8 rfl ?_
    refine q_iload_n dX7_leastAtThumb_9 rfl ?_
    refine q_iconst (x := 0) dX7_leastAtThumb_10 (by decide) ?_
    refine q_iload_n dX7_leastAtThumb_11 rfl ?_
    refine q_iconst (x := 1) dX7_leastAtThumb_12 (by decide) ?_
    refine q_isub dX7_leastAtThumb_13 ?_
    refine q_cVi lX7_225 vX7_floatsFrom (ci := 7) rfl dX7_leastAtThumb_14 kX7_floatsFrom (by first | assumption | rfl) rfl rfl (Nat.le_of_ble_eq_true rfl) (by decide) ?_
    refine q_ret dX7_leastAtThumb_17 ?_ rfl rfl
    exact ⟨congrArg some (by simp [*]), rfl, rfl⟩
  · refine q_iconst (x := 0) dX7_leastAtThumb_4 (by decide) ?_
    refine q_goto 17 dX7_leastAtThumb_5 (by decide) ?_
    refine q_ret dX7_leastAtThumb_17 ?_ rfl rfl
    exact ⟨congrArg some (by simp [*]), rfl, rfl⟩

set_option maxHeartbeats 4000000 in
set_option maxRecDepth 100000 in
theorem kX7_greatestAtThumb {σ : q_M} {m t : Int32} : q_Ct YX7_greatestAtThumb [.ref 0, .int m, .int t] q_SH σ (q_is (some (q_ff σ m 0 t - 1)) q_SH σ) := by
  refine q_ct (n := 0) (by decide) (by decide) rfl (fun _ => Nat.le_of_ble_eq_true rfl) (fun E => ?_)
  refine q_aload_n dX7_greatestAtThumb_0 rfl ?_
  refine q_iload_n dX7_greatestAtThumb_1 rfl ?_
  refine q_iconst (x := 0) dX7_greatestAtThumb_2 (by decide) ?_
  refine q_iload_n dX7_greatestAtThumb_3 rfl ?_
  refine q_cVi lX7_225 vX7_floatsFrom (ci := 7) rfl dX7_greatestAtThumb_4 kX7_floatsFrom (by first | assumption | rfl) rfl rfl (Nat.le_of_ble_eq_true rfl) (by decide) ?_
  refine q_iconst (x := 1) dX7_greatestAtThumb_7 (by decide) ?_
  refine q_isub dX7_greatestAtThumb_8 ?_
  refine q_ret dX7_greatestAtThumb_9 ?_ rfl rfl
  exact ⟨rfl, rfl, rfl⟩

/-- whether the diver in cell d leaves at a warmth -/
def q_lv (σ : q_M) (d : Nat) (w : Int32) (dn : Bool) : Bool := if dn then decide ((q_wt (σ 15 1) (σ 15 4) (σ 15 5) (σ d 0 + σ d 4) (σ d 1) w (σ 15 0) 0).toInt < 0) else decide (0 < (q_wt (σ 15 1) (σ 15 4) (σ 15 5) (σ d 0 + σ d 4) (σ d 1) w 0 0).toInt)

set_option maxHeartbeats 4000000 in
set_option maxRecDepth 100000 in
theorem kX7_leavesAt {σ : q_M} {d : Nat} (hd : q_SH[d]? = some q_sD) {w : Int32} {dn : Bool} : q_Ct YX7_leavesAt [.ref 0, .ref d, .int w, .int (q_b dn)] q_SH σ (q_is (some (q_b (q_lv σ d w dn))) q_SH σ) := by
  refine q_ct (n := 1) (by decide) (by decide) rfl (fun _ => Nat.le_of_ble_eq_true rfl) (fun E => ?_)
  refine q_aload_n dX7_leavesAt_0 rfl ?_
  refine q_get fX7_122 dX7_leavesAt_1 (by first | assumption | rfl) (by rfl) ?_
  refine q_aload_n dX7_leavesAt_4 rfl ?_
  refine q_get fX7_144 dX7_leavesAt_5 (by first | assumption | rfl) (by rfl) ?_
  refine q_iadd dX7_leavesAt_8 ?_
  refine q_istore dX7_leavesAt_9 (by decide) rfl ?_
  refine q_iload_n dX7_leavesAt_11 rfl ?_
  refine q_beq 48 dX7_leavesAt_12 (by decide) (fun h12 => ?_) (fun h12 => ?_)
  · refine q_aload_n dX7_leavesAt_48 rfl ?_
    refine q_getr fX7_19 dX7_leavesAt_49 (by first | assumption | rfl) (by rfl) ?_
    refine q_iload dX7_leavesAt_52 rfl ?_
    refine q_aload_n dX7_leavesAt_54 rfl ?_
    refine q_get fX7_127 dX7_leavesAt_55 (by first | assumption | rfl) (by rfl) ?_
    refine q_iload_n dX7_leavesAt_58 rfl ?_
    refine q_iconst (x := 0) dX7_leavesAt_59 (by decide) ?_
    refine q_iconst (x := 0) dX7_leavesAt_60 (by decide) ?_
    refine q_cVi lX7_212 vX6_weight (ci := 6) rfl dX7_leavesAt_61 (kX6_weight (by first | assumption | rfl) (by first | assumption | rfl)) (by first | assumption | rfl) rfl rfl (Nat.le_of_ble_eq_true rfl) (by decide) ?_
    refine q_zle 71 dX7_leavesAt_64 (by decide) (fun h64 => ?_) (fun h64 => ?_)
    · refine q_iconst (x := 0) dX7_leavesAt_71 (by decide) ?_
      refine q_ret0 dX7_leavesAt_72 ?_ rfl rfl
      subst_vars
      exact ⟨congrArg some (congrArg q_b (by simp [q_lv]; omega)), rfl, rfl⟩
    · refine q_iconst (x := 1) dX7_leavesAt_67 (by decide) ?_
      refine q_goto 72 dX7_leavesAt_68 (by decide) ?_
      refine q_ret1 dX7_leavesAt_72 ?_ rfl rfl
      subst_vars
      exact ⟨congrArg some (congrArg q_b (by simp [q_lv]; omega)), rfl, rfl⟩
  · refine q_aload_n dX7_leavesAt_15 rfl ?_
    refine q_getr fX7_19 dX7_leavesAt_16 (by first | assumption | rfl) (by rfl) ?_
    refine q_iload dX7_leavesAt_19 rfl ?_
    refine q_aload_n dX7_leavesAt_21 rfl ?_
    refine q_get fX7_127 dX7_leavesAt_22 (by first | assumption | rfl) (by rfl) ?_
    refine q_iload_n dX7_leavesAt_25 rfl ?_
    refine q_aload_n dX7_leavesAt_26 rfl ?_
    refine q_getr fX7_19 dX7_leavesAt_27 (by first | assumption | rfl) (by rfl) ?_
    refine q_getr fX7_62 dX7_leavesAt_30 (by first | assumption | rfl) (by rfl) ?_
    refine q_iconst (x := 0) dX7_leavesAt_33 (by decide) ?_
    refine q_ild 0 (by first | assumption | rfl) rfl (by decide) dX7_leavesAt_34 ?_
    refine q_iconst (x := 0) dX7_leavesAt_35 (by decide) ?_
    refine q_cVi lX7_212 vX6_weight (ci := 6) rfl dX7_leavesAt_36 (kX6_weight (by first | assumption | rfl) (by first | assumption | rfl)) (by first | assumption | rfl) rfl rfl (Nat.le_of_ble_eq_true rfl) (by decide) ?_
    refine q_zge 46 dX7_leavesAt_39 (by decide) (fun h39 => ?_) (fun h39 => ?_)
    · refine q_iconst (x := 0) dX7_leavesAt_46 (by decide) ?_
      refine q_ret0 dX7_leavesAt_47 ?_ rfl rfl
      subst_vars
      exact ⟨congrArg some (congrArg q_b (by simp [q_lv]; omega)), rfl, rfl⟩
    · refine q_iconst (x := 1) dX7_leavesAt_42 (by decide) ?_
      refine q_goto 47 dX7_leavesAt_43 (by decide) ?_
      refine q_ret1 dX7_leavesAt_47 ?_ rfl rfl
      subst_vars
      exact ⟨congrArg some (congrArg q_b (by simp [q_lv]; omega)), rfl, rfl⟩

/-- GOES AT of the diver in cell d, as the class has it -/
def q_th (σ : q_M) (d : Nat) : Int32 := if (σ d 0 + σ d 4 - q_lt0 0 (σ 15 4) (σ 15 5)).toInt ≤ 0 then -4 else if (500 : Int32).toInt < (q_max 0 (q_dc (σ d 1 * σ 17 4) (σ d 0 + σ d 4 - q_lt0 0 (σ 15 4) (σ 15 5)) + 1 - (σ 15 1 + 0 + 0))).toInt then -4 else q_max 0 (q_dc (σ d 1 * σ 17 4) (σ d 0 + σ d 4 - q_lt0 0 (σ 15 4) (σ 15 5)) + 1 - (σ 15 1 + 0 + 0))

set_option maxHeartbeats 4000000 in
set_option maxRecDepth 100000 in
theorem kX7_thumbOf {σ : q_M} {k : Int32} {j : Nat} (hk : k.toInt = (j : Int)) (hj : j < 6) : q_Ct YX7_thumbOf [.ref 0, .int k] q_SH σ (q_is (some (q_th σ (23 + j))) q_SH σ) := by
  refine q_ct (n := 4) (by decide) (by decide) rfl (fun _ => Nat.le_of_ble_eq_true rfl) (fun E => ?_)
  have hd := q_SH_dv hj
  refine q_aload_n dX7_thumbOf_0 rfl ?_
  refine q_getr fX7_26 dX7_thumbOf_1 (by first | assumption | rfl) (by rfl) ?_
  refine q_getr fX7_121 dX7_thumbOf_4 (by first | assumption | rfl) (by rfl) ?_
  refine q_iload_n dX7_thumbOf_7 rfl ?_
  refine q_ald j (by first | assumption | rfl) hk hj (q_ra_at hj) ⟨by decide, by decide⟩ dX7_thumbOf_8 ?_
  refine q_astore_n dX7_thumbOf_9 (by decide) rfl ?_
  refine q_aload_n dX7_thumbOf_10 rfl ?_
  refine q_get fX7_122 dX7_thumbOf_11 (by first | assumption | rfl) (by rfl) ?_
  refine q_aload_n dX7_thumbOf_14 rfl ?_
  refine q_get fX7_144 dX7_thumbOf_15 (by first | assumption | rfl) (by rfl) ?_
  refine q_iadd dX7_thumbOf_18 ?_
  refine q_aload_n dX7_thumbOf_19 rfl ?_
  refine q_getr fX7_19 dX7_thumbOf_20 (by first | assumption | rfl) (by rfl) ?_
  refine q_iconst (x := 0) dX7_thumbOf_23 (by decide) ?_
  refine q_cVi lX7_357 vX6_lighterAt (ci := 6) rfl dX7_thumbOf_24 (kX6_lighterAt (by first | assumption | rfl) (by first | assumption | rfl)) (by first | assumption | rfl) rfl rfl (Nat.le_of_ble_eq_true rfl) (by decide) ?_
  refine q_isub dX7_thumbOf_27 ?_
  refine q_istore_n dX7_thumbOf_28 (by decide) rfl ?_
  refine q_iload_n dX7_thumbOf_29 rfl ?_
  refine q_zgt 36 dX7_thumbOf_30 (by decide) (fun h30 => ?_) (fun h30 => ?_)
  · refine q_aload_n dX7_thumbOf_36 rfl ?_
    refine q_get fX7_127 dX7_thumbOf_37 (by first | assumption | rfl) (by rfl) ?_
    refine q_aload_n dX7_thumbOf_40 rfl ?_
    refine q_getr fX7_26 dX7_thumbOf_41 (by first | assumption | rfl) (by rfl) ?_
    refine q_get fX7_66 dX7_thumbOf_44 (by first | assumption | rfl) (by rfl) ?_
    refine q_imul dX7_thumbOf_47 ?_
    refine q_iload_n dX7_thumbOf_48 rfl ?_
    refine q_cSi lX7_360 sX7_divideCut dX7_thumbOf_49 kX7_divideCut rfl rfl (Nat.le_of_ble_eq_true rfl) (by decide) ?_
    refine q_iconst (x := 1) dX7_thumbOf_52 (by decide) ?_
    refine q_iadd dX7_thumbOf_53 ?_
    refine q_istore dX7_thumbOf_54 (by decide) rfl ?_
    refine q_iconst (x := 0) dX7_thumbOf_56 (by decide) ?_
    refine q_iload dX7_thumbOf_57 rfl ?_
    refine q_aload_n dX7_thumbOf_59 rfl ?_
    refine q_getr fX7_19 dX7_thumbOf_60 (by first | assumption | rfl) (by rfl) ?_
    refine q_iconst (x := 0) dX7_thumbOf_63 (by decide) ?_
    refine q_iconst (x := 0) dX7_thumbOf_64 (by decide) ?_
    refine q_cVi lX7_197 vX6_pressAt (ci := 6) rfl dX7_thumbOf_65 (kX6_pressAt (by first | assumption | rfl) (by first | assumption | rfl)) (by first | assumption | rfl) rfl rfl (Nat.le_of_ble_eq_true rfl) (by decide) ?_
    refine q_isub dX7_thumbOf_68 ?_
    refine q_cSi lX7_280 sJ9_max_7cf53 dX7_thumbOf_69 kmax rfl rfl (Nat.le_of_ble_eq_true rfl) (by decide) ?_
    refine q_istore dX7_thumbOf_72 (by decide) rfl ?_
    refine q_iload dX7_thumbOf_74 rfl ?_
    refine q_sipush (x := 500) dX7_thumbOf_76 (by decide) ?_
    refine q_cle 87 dX7_thumbOf_79 (by decide) (fun h79 => ?_) (fun h79 => ?_)
    · refine q_iload dX7_thumbOf_87 rfl ?_
      refine q_ret dX7_thumbOf_89 ?_ rfl rfl
      exact ⟨congrArg some (by unfold q_th; first | rw [if_pos (by omega)] | (rw [if_neg (by omega)]; first | rw [if_pos (by omega)] | rw [if_neg (by omega)])), rfl, rfl⟩
    · refine q_bipush (x := (-4)) dX7_thumbOf_82 (by decide) ?_
      refine q_goto 89 dX7_thumbOf_84 (by decide) ?_
      refine q_ret dX7_thumbOf_89 ?_ rfl rfl
      exact ⟨congrArg some (by unfold q_th; first | rw [if_pos (by omega)] | (rw [if_neg (by omega)]; first | rw [if_pos (by omega)] | rw [if_neg (by omega)])), rfl, rfl⟩
  · refine q_bipush (x := (-4)) dX7_thumbOf_33 (by decide) ?_
    refine q_ret dX7_thumbOf_35 ?_ rfl rfl
    exact ⟨congrArg some (by unfold q_th; first | rw [if_pos (by omega)] | (rw [if_neg (by omega)]; first | rw [if_pos (by omega)] | rw [if_neg (by omega)])), rfl, rfl⟩

set_option maxHeartbeats 4000000 in
set_option maxRecDepth 100000 in
theorem kX7_isAhead {σ : q_M} {k o : Int32} {j i : Nat} (hk : k.toInt = (j : Int)) (hj : j < 6) (ho : o.toInt = (i : Int)) (hi : i < 6) : q_Ct YX7_isAhead [.ref 0, .int k, .int o] q_SH σ (q_is (some (q_b (if q_th σ (23 + j) = q_th σ (23 + i) then decide (j < i) else (decide (q_th σ (23 + i) = -4) || (decide (¬ q_th σ (23 + j) = -4) && decide ((q_th σ (23 + j)).toInt < (q_th σ (23 + i)).toInt)))))) q_SH σ) := by
  refine q_ct (n := 2) (by decide) (by decide) rfl (fun _ => Nat.le_of_ble_eq_true rfl) (fun E => ?_)
  refine q_aload_n dX7_isAhead_0 rfl ?_
  refine q_iload_n dX7_isAhead_1 rfl ?_
  refine q_cVi lX7_201 vX7_thumbOf (ci := 7) rfl dX7_isAhead_2 (kX7_thumbOf hk hj) (by first | assumption | rfl) rfl rfl (Nat.le_of_ble_eq_true rfl) (by decide) ?_
  refine q_istore_n dX7_isAhead_5 (by decide) rfl ?_
  refine q_aload_n dX7_isAhead_6 rfl ?_
  refine q_iload_n dX7_isAhead_7 rfl ?_
  refine q_cVi lX7_201 vX7_thumbOf (ci := 7) rfl dX7_isAhead_8 (kX7_thumbOf ho hi) (by first | assumption | rfl) rfl rfl (Nat.le_of_ble_eq_true rfl) (by decide) ?_
  refine q_istore dX7_isAhead_11 (by decide) rfl ?_
  refine q_iload_n dX7_isAhead_13 rfl ?_
  refine q_iload dX7_isAhead_14 rfl ?_
  refine q_icmp_ne 30 dX7_isAhead_16 (by decide) (fun h16 => ?_) (fun h16 => ?_)
  · refine q_iload dX7_isAhead_30 rfl ?_
    refine q_bipush (x := (-4)) dX7_isAhead_32 (by decide) ?_
    refine q_icmp_eq 49 dX7_isAhead_34 (by decide) (fun h34 => ?_) (fun h34 => ?_)
    · refine q_iconst (x := 1) dX7_isAhead_49 (by decide) ?_
      refine q_goto 54 dX7_isAhead_50 (by decide) ?_
      refine q_ret1 dX7_isAhead_54 ?_ rfl rfl
      exact ⟨congrArg some (congrArg q_b (by simp_all; try omega)), rfl, rfl⟩
    · refine q_iload_n dX7_isAhead_37 rfl ?_
      refine q_bipush (x := (-4)) dX7_isAhead_38 (by decide) ?_
      refine q_icmp_eq 53 dX7_isAhead_40 (by decide) (fun h40 => ?_) (fun h40 => ?_)
      · refine q_iconst (x := 0) dX7_isAhead_53 (by decide) ?_
        refine q_ret0 dX7_isAhead_54 ?_ rfl rfl
        exact ⟨congrArg some (congrArg q_b (by simp_all; try omega)), rfl, rfl⟩
      · refine q_iload_n dX7_isAhead_43 rfl ?_
        refine q_iload dX7_isAhead_44 rfl ?_
        refine q_cge 53 dX7_isAhead_46 (by decide) (fun h46 => ?_) (fun h46 => ?_)
        · refine q_iconst (x := 0) dX7_isAhead_53 (by decide) ?_
          refine q_ret0 dX7_isAhead_54 ?_ rfl rfl
          exact ⟨congrArg some (congrArg q_b (by simp_all; try omega)), rfl, rfl⟩
        · refine q_iconst (x := 1) dX7_isAhead_49 (by decide) ?_
          refine q_goto 54 dX7_isAhead_50 (by decide) ?_
          refine q_ret1 dX7_isAhead_54 ?_ rfl rfl
          exact ⟨congrArg some (congrArg q_b (by simp_all; try omega)), rfl, rfl⟩
  · refine q_iload_n dX7_isAhead_19 rfl ?_
    refine q_iload_n dX7_isAhead_20 rfl ?_
    refine q_cge 28 dX7_isAhead_21 (by decide) (fun h21 => ?_) (fun h21 => ?_)
    · refine q_iconst (x := 0) dX7_isAhead_28 (by decide) ?_
      refine q_ret0 dX7_isAhead_29 ?_ rfl rfl
      exact ⟨congrArg some (congrArg q_b (by simp_all; try omega)), rfl, rfl⟩
    · refine q_iconst (x := 1) dX7_isAhead_24 (by decide) ?_
      refine q_goto 29 dX7_isAhead_25 (by decide) ?_
      refine q_ret1 dX7_isAhead_29 ?_ rfl rfl
      exact ⟨congrArg some (congrArg q_b (by simp_all; try omega)), rfl, rfl⟩
