/-! the reference: a tick, order, lifts -/
theorem q_up_ab {σ : q_M} {a : Nat} {v : Int32} : q_up σ a 18 v a 17 = σ a 17 := q_up_f (by decide)
theorem q_up_ba {σ : q_M} {a : Nat} {v : Int32} : q_up σ a 17 v a 18 = σ a 18 := q_up_f (by decide)
theorem q_up_75 {σ : q_M} {k j : Nat} {v : Int32} : q_up σ 72 k v 75 j = σ 75 j := q_up_g (by decide)
theorem q_sm1 {σ : q_M} {d : Nat} {p f : Int32} : q_up (q_up σ d 18 p) d 17 f = q_up (q_up σ d 17 f) d 18 p := q_us σ d d p f (by simp)
theorem q_mn4 {σ : q_M} {a b c d : Int32} : q_up (q_up (q_up (q_up σ 72 17 a) 72 18 b) 72 17 c) 72 18 d = q_up (q_up σ 72 17 c) 72 18 d := by
  rw [q_sm1, q_uu, q_uu]

set_option maxHeartbeats 1000000 in
set_option maxRecDepth 100000 in
theorem kX8_moves {σ : q_M} {hv bub th a0 p0 : Int32} (ha : σ 72 17 = a0) (hq : σ 72 18 = p0) (hd : 0 < (σ 75 3).toInt) (hp : 0 < (σ 75 1 + th + a0 / 64).toInt) : q_Ct YX8_moves [.ref 72, .int hv, .int bub, .int th] q_SH σ (q_is none q_SH (q_up (q_up σ 72 17 (q_mv a0 p0 (q_wt (σ 75 1) (σ 75 4) (σ 75 5) hv bub (σ 73 49) (a0 / 64) th) (σ 75 3) (64 * σ 75 0)).1) 72 18 (q_mv a0 p0 (q_wt (σ 75 1) (σ 75 4) (σ 75 5) hv bub (σ 73 49) (a0 / 64) th) (σ 75 3) (64 * σ 75 0)).2)) := by
  refine q_ct (n := 0) (by decide) (by decide) rfl (fun _ => Nat.le_of_ble_eq_true rfl) (fun E => ?_)
  refine q_aload_n dX8_moves_0 rfl ?_
  refine q_dup rfl dX8_moves_1 ?_
  refine q_get fX8_181 dX8_moves_2 (by first | rfl | assumption) (by rfl) ?_
  rw [hq]
  refine q_aload_n dX8_moves_5 rfl ?_
  refine q_iload_n dX8_moves_6 rfl ?_
  refine q_iload_n dX8_moves_7 rfl ?_
  refine q_aload_n dX8_moves_8 rfl ?_
  refine q_getr fX8_7 dX8_moves_9 (by first | rfl | assumption) (by rfl) ?_
  refine q_bipush (x := 49) dX8_moves_12 (by decide) ?_
  refine q_ild 49 (by first | rfl | assumption) rfl (by decide) dX8_moves_14 ?_
  refine q_iload_n dX8_moves_15 rfl ?_
  refine q_aload_n dX8_moves_16 rfl ?_
  refine q_get fX8_184 dX8_moves_17 (by first | rfl | assumption) (by rfl) ?_
  rw [ha]
  refine q_bipush (x := 64) dX8_moves_20 (by decide) ?_
  refine q_idiv (by decide) dX8_moves_22 ?_
  refine q_cVi lX8_159 vX8_weight (ci := 8) rfl dX8_moves_23 (kX8_weight hp) (by first | rfl | assumption) rfl rfl (Nat.le_of_ble_eq_true rfl) (by decide) ?_
  refine q_topi (fun wv ewv => ?_)
  refine q_iadd dX8_moves_26 ?_
  refine q_put_i pX8_181 dX8_moves_27 (by first | rfl | assumption) (by rfl) rfl rfl ?_
  refine q_aload_n dX8_moves_30 rfl ?_
  refine q_dup rfl dX8_moves_31 ?_
  refine q_get fX8_181 dX8_moves_32 (by first | rfl | assumption) (by rfl) ?_
  try simp only [q_up_at, q_up_ab, q_up_ba, q_uu]
  refine q_aload_n dX8_moves_35 rfl ?_
  refine q_get fX8_181 dX8_moves_36 (by first | rfl | assumption) (by rfl) ?_
  try simp only [q_up_at, q_up_ab, q_up_ba, q_uu]
  refine q_aload_n dX8_moves_39 rfl ?_
  refine q_getr fX8_17 dX8_moves_40 (by first | rfl | assumption) (by rfl) ?_
  refine q_iconst (x := 3) dX8_moves_43 (by decide) ?_
  refine q_ild 3 (by first | rfl | assumption) rfl (by decide) dX8_moves_44 ?_
  rw [show q_up σ 72 18 (p0 + wv) 75 3 = σ 75 3 from rfl]
  refine q_idiv (q_nz hd) dX8_moves_45 ?_
  rw [← q_dc_pos hd]
  refine q_isub dX8_moves_46 ?_
  rw [show p0 + wv - q_dc (p0 + wv) (σ 75 3) = q_mp p0 wv (σ 75 3) from rfl]
  refine q_put_i pX8_181 dX8_moves_47 (by first | rfl | assumption) (by rfl) rfl rfl ?_
  try simp only [q_up_at, q_up_ab, q_up_ba, q_uu]
  refine q_aload_n dX8_moves_50 rfl ?_
  refine q_dup rfl dX8_moves_51 ?_
  refine q_get fX8_184 dX8_moves_52 (by first | rfl | assumption) (by rfl) ?_
  try simp only [q_up_at, q_up_ab, q_up_ba, q_uu]
  try rw [ha]
  refine q_aload_n dX8_moves_55 rfl ?_
  refine q_get fX8_181 dX8_moves_56 (by first | rfl | assumption) (by rfl) ?_
  try simp only [q_up_at, q_up_ab, q_up_ba, q_uu]
  refine q_iadd dX8_moves_59 ?_
  refine q_put_i pX8_184 dX8_moves_60 (by first | rfl | assumption) (by rfl) rfl rfl ?_
  try simp only [q_up_at, q_up_ab, q_up_ba, q_uu]
  refine q_aload_n dX8_moves_63 rfl ?_
  refine q_get fX8_184 dX8_moves_64 (by first | rfl | assumption) (by rfl) ?_
  try simp only [q_up_at, q_up_ab, q_up_ba, q_uu]
  refine q_zgt 87 dX8_moves_67 (by decide) (fun h67 => ?_) (fun h67 => ?_)
  · refine q_aload_n dX8_moves_87 rfl ?_
    refine q_get fX8_184 dX8_moves_88 (by first | rfl | assumption) (by rfl) ?_
    try simp only [q_up_at, q_up_ab, q_up_ba, q_uu]
    refine q_aload_n dX8_moves_91 rfl ?_
    try simp only [q_up_at, q_up_ab, q_up_ba, q_uu]
    refine q_cVi lX8_187 vX8_floor (ci := 8) rfl dX8_moves_92 kX8_floor (by first | rfl | assumption) rfl rfl (Nat.le_of_ble_eq_true rfl) (by decide) ?_
    simp only [q_up_75]
    refine q_clt 118 dX8_moves_95 (by decide) (fun h95 => ?_) (fun h95 => ?_)
    · refine q_vret dX8_moves_118 ?_ rfl rfl
      first
        | exact absurd h102 (by decide)
        | (refine ⟨rfl, rfl, ?_⟩
           rw [← ewv]
           simp only [q_sm1, q_uu, q_mv]
           first
             | rw [if_pos ⟨by assumption, by assumption⟩]
             | (rw [if_neg (by omega)]; first | rw [if_pos ⟨by assumption, by assumption⟩] | rw [if_neg (by omega)]))
    · refine q_aload_n dX8_moves_98 rfl ?_
      refine q_get fX8_181 dX8_moves_99 (by first | rfl | assumption) (by rfl) ?_
      try simp only [q_up_at, q_up_ab, q_up_ba, q_uu]
      refine q_zle 118 dX8_moves_102 (by decide) (fun h102 => ?_) (fun h102 => ?_)
      · refine q_vret dX8_moves_118 ?_ rfl rfl
        first
          | exact absurd h102 (by decide)
          | (refine ⟨rfl, rfl, ?_⟩
             rw [← ewv]
             simp only [q_sm1, q_uu, q_mv]
             first
               | rw [if_pos ⟨by assumption, by assumption⟩]
               | (rw [if_neg (by omega)]; first | rw [if_pos ⟨by assumption, by assumption⟩] | rw [if_neg (by omega)]))
      · refine q_aload_n dX8_moves_105 rfl ?_
        refine q_aload_n dX8_moves_106 rfl ?_
        refine q_cVi lX8_187 vX8_floor (ci := 8) rfl dX8_moves_107 kX8_floor (by first | rfl | assumption) rfl rfl (Nat.le_of_ble_eq_true rfl) (by decide) ?_
        simp only [q_up_75]
        refine q_put_i pX8_184 dX8_moves_110 (by first | rfl | assumption) (by rfl) rfl rfl ?_
        refine q_aload_n dX8_moves_113 rfl ?_
        refine q_iconst (x := 0) dX8_moves_114 (by decide) ?_
        refine q_put_i pX8_181 dX8_moves_115 (by first | rfl | assumption) (by rfl) rfl rfl ?_
        refine q_vret dX8_moves_118 ?_ rfl rfl
        first
          | exact absurd h102 (by decide)
          | (refine ⟨rfl, rfl, ?_⟩
             rw [← ewv]
             simp only [q_sm1, q_uu, q_mv]
             first
               | rw [if_pos ⟨by assumption, by assumption⟩]
               | (rw [if_neg (by omega)]; first | rw [if_pos ⟨by assumption, by assumption⟩] | rw [if_neg (by omega)]))
  · refine q_aload_n dX8_moves_70 rfl ?_
    refine q_get fX8_181 dX8_moves_71 (by first | rfl | assumption) (by rfl) ?_
    try simp only [q_up_at, q_up_ab, q_up_ba, q_uu]
    refine q_zge 87 dX8_moves_74 (by decide) (fun h74 => ?_) (fun h74 => ?_)
    · refine q_aload_n dX8_moves_87 rfl ?_
      refine q_get fX8_184 dX8_moves_88 (by first | rfl | assumption) (by rfl) ?_
      try simp only [q_up_at, q_up_ab, q_up_ba, q_uu]
      refine q_aload_n dX8_moves_91 rfl ?_
      try simp only [q_up_at, q_up_ab, q_up_ba, q_uu]
      refine q_cVi lX8_187 vX8_floor (ci := 8) rfl dX8_moves_92 kX8_floor (by first | rfl | assumption) rfl rfl (Nat.le_of_ble_eq_true rfl) (by decide) ?_
      simp only [q_up_75]
      refine q_clt 118 dX8_moves_95 (by decide) (fun h95 => ?_) (fun h95 => ?_)
      · refine q_vret dX8_moves_118 ?_ rfl rfl
        first
          | exact absurd h102 (by decide)
          | (refine ⟨rfl, rfl, ?_⟩
             rw [← ewv]
             simp only [q_sm1, q_uu, q_mv]
             first
               | rw [if_pos ⟨by assumption, by assumption⟩]
               | (rw [if_neg (by omega)]; first | rw [if_pos ⟨by assumption, by assumption⟩] | rw [if_neg (by omega)]))
      · refine q_aload_n dX8_moves_98 rfl ?_
        refine q_get fX8_181 dX8_moves_99 (by first | rfl | assumption) (by rfl) ?_
        try simp only [q_up_at, q_up_ab, q_up_ba, q_uu]
        refine q_zle 118 dX8_moves_102 (by decide) (fun h102 => ?_) (fun h102 => ?_)
        · refine q_vret dX8_moves_118 ?_ rfl rfl
          first
            | exact absurd h102 (by decide)
            | (refine ⟨rfl, rfl, ?_⟩
               rw [← ewv]
               simp only [q_sm1, q_uu, q_mv]
               first
                 | rw [if_pos ⟨by assumption, by assumption⟩]
                 | (rw [if_neg (by omega)]; first | rw [if_pos ⟨by assumption, by assumption⟩] | rw [if_neg (by omega)]))
        · refine q_aload_n dX8_moves_105 rfl ?_
          refine q_aload_n dX8_moves_106 rfl ?_
          refine q_cVi lX8_187 vX8_floor (ci := 8) rfl dX8_moves_107 kX8_floor (by first | rfl | assumption) rfl rfl (Nat.le_of_ble_eq_true rfl) (by decide) ?_
          simp only [q_up_75]
          refine q_put_i pX8_184 dX8_moves_110 (by first | rfl | assumption) (by rfl) rfl rfl ?_
          refine q_aload_n dX8_moves_113 rfl ?_
          refine q_iconst (x := 0) dX8_moves_114 (by decide) ?_
          refine q_put_i pX8_181 dX8_moves_115 (by first | rfl | assumption) (by rfl) rfl rfl ?_
          refine q_vret dX8_moves_118 ?_ rfl rfl
          first
            | exact absurd h102 (by decide)
            | (refine ⟨rfl, rfl, ?_⟩
               rw [← ewv]
               simp only [q_sm1, q_uu, q_mv]
               first
                 | rw [if_pos ⟨by assumption, by assumption⟩]
                 | (rw [if_neg (by omega)]; first | rw [if_pos ⟨by assumption, by assumption⟩] | rw [if_neg (by omega)]))
    · refine q_aload_n dX8_moves_77 rfl ?_
      refine q_iconst (x := 0) dX8_moves_78 (by decide) ?_
      refine q_put_i pX8_184 dX8_moves_79 (by first | rfl | assumption) (by rfl) rfl rfl ?_
      refine q_aload_n dX8_moves_82 rfl ?_
      refine q_iconst (x := 0) dX8_moves_83 (by decide) ?_
      refine q_put_i pX8_181 dX8_moves_84 (by first | rfl | assumption) (by rfl) rfl rfl ?_
      refine q_aload_n dX8_moves_87 rfl ?_
      refine q_get fX8_184 dX8_moves_88 (by first | rfl | assumption) (by rfl) ?_
      try simp only [q_up_at, q_up_ab, q_up_ba, q_uu]
      refine q_aload_n dX8_moves_91 rfl ?_
      try simp only [q_up_at, q_up_ab, q_up_ba, q_uu]
      refine q_cVi lX8_187 vX8_floor (ci := 8) rfl dX8_moves_92 kX8_floor (by first | rfl | assumption) rfl rfl (Nat.le_of_ble_eq_true rfl) (by decide) ?_
      simp only [q_up_75]
      refine q_clt 118 dX8_moves_95 (by decide) (fun h95 => ?_) (fun h95 => ?_)
      · refine q_vret dX8_moves_118 ?_ rfl rfl
        first
          | exact absurd h102 (by decide)
          | (refine ⟨rfl, rfl, ?_⟩
             rw [← ewv]
             simp only [q_sm1, q_uu, q_mv]
             first
               | rw [if_pos ⟨by assumption, by assumption⟩]
               | (rw [if_neg (by omega)]; first | rw [if_pos ⟨by assumption, by assumption⟩] | rw [if_neg (by omega)]))
      · refine q_aload_n dX8_moves_98 rfl ?_
        refine q_get fX8_181 dX8_moves_99 (by first | rfl | assumption) (by rfl) ?_
        try simp only [q_up_at, q_up_ab, q_up_ba, q_uu]
        refine q_zle 118 dX8_moves_102 (by decide) (fun h102 => ?_) (fun h102 => ?_)
        · refine q_vret dX8_moves_118 ?_ rfl rfl
          first
            | exact absurd h102 (by decide)
            | (refine ⟨rfl, rfl, ?_⟩
               rw [← ewv]
               simp only [q_sm1, q_uu, q_mv]
               first
                 | rw [if_pos ⟨by assumption, by assumption⟩]
                 | (rw [if_neg (by omega)]; first | rw [if_pos ⟨by assumption, by assumption⟩] | rw [if_neg (by omega)]))
        · refine q_aload_n dX8_moves_105 rfl ?_
          refine q_aload_n dX8_moves_106 rfl ?_
          refine q_cVi lX8_187 vX8_floor (ci := 8) rfl dX8_moves_107 kX8_floor (by first | rfl | assumption) rfl rfl (Nat.le_of_ble_eq_true rfl) (by decide) ?_
          simp only [q_up_75]
          refine q_put_i pX8_184 dX8_moves_110 (by first | rfl | assumption) (by rfl) rfl rfl ?_
          refine q_aload_n dX8_moves_113 rfl ?_
          refine q_iconst (x := 0) dX8_moves_114 (by decide) ?_
          refine q_put_i pX8_181 dX8_moves_115 (by first | rfl | assumption) (by rfl) rfl rfl ?_
          refine q_vret dX8_moves_118 ?_ rfl rfl
          first
            | exact absurd h102 (by decide)
            | (refine ⟨rfl, rfl, ?_⟩
               rw [← ewv]
               simp only [q_sm1, q_uu, q_mv]
               first
                 | rw [if_pos ⟨by assumption, by assumption⟩]
                 | (rw [if_neg (by omega)]; first | rw [if_pos ⟨by assumption, by assumption⟩] | rw [if_neg (by omega)]))

def q_mw (σ : q_M) (j : Nat) : Int32 := q_wt (σ 75 1) (σ 75 4) (σ 75 5) (σ 73 (8 * j + 0) + σ 73 (8 * j + 5)) (σ 73 (8 * j + 1)) (σ 73 49) (σ 73 (8 * j + 6) / 64) (σ 73 48)
def q_mvt (σ : q_M) (j : Nat) : Int32 × Int32 := q_mv (σ 73 (8 * j + 6)) (σ 73 (8 * j + 7)) (q_mw σ j) (σ 75 3) (64 * σ 75 0)
def q_m2 (σ : q_M) (j : Nat) : q_M := q_up (q_up (q_up (q_up σ 72 17 (q_mvt σ j).1) 72 18 (q_mvt σ j).2) 73 (8 * j + 6) (q_mvt σ j).1) 73 (8 * j + 7) (q_mvt σ j).2
def q_lk0 (σ : q_M) (j : Nat) : Int32 := if (σ 73 (8 * j + 1) - σ 73 (8 * j + 2)).toInt < 0 then 0 else σ 73 (8 * j + 1) - σ 73 (8 * j + 2)
def q_fl3 (σ : q_M) (j : Nat) : q_M := if σ 73 (8 * j + 4) = 1 ∧ σ 73 51 = 1 then q_up (q_up (q_up (q_m2 σ j) 73 (8 * j + 1) (q_lk0 σ j)) 73 (8 * j + 5) (σ 75 6)) 73 51 0 else q_up (q_m2 σ j) 73 (8 * j + 1) (q_lk0 σ j)
def q_ma (σ : q_M) (j : Nat) : q_M := if (q_mvt σ j).1 = 64 * σ 75 0 ∧ ¬ σ 73 (8 * j + 6) = (q_mvt σ j).1 then q_fl3 σ j else q_m2 σ j
def q_tp (M : q_M) (j : Nat) : q_M := q_up (q_up M 73 (8 * j + 5) 0) 73 52 (M 73 52 + 1)
def q_tm (σ : q_M) (j : Nat) : q_M := if (q_mvt σ j).1 = 0 ∧ ¬ σ 73 (8 * j + 6) = 0 ∧ 0 < (q_ma σ j 73 (8 * j + 5)).toInt then q_tp (q_ma σ j) j else q_ma σ j
theorem q_m2_17 (σ : q_M) (j : Nat) : q_m2 σ j 72 17 = (q_mvt σ j).1 := by
  rw [q_m2, q_up_g (by decide), q_up_g (by decide), q_up_ab, q_up_at]
theorem q_m2_75 (σ : q_M) (j k : Nat) : q_m2 σ j 75 k = σ 75 k := by
  rw [q_m2, q_up_g (by decide), q_up_g (by decide), q_up_g (by decide), q_up_g (by decide)]
theorem q_m2_73 {σ : q_M} {j k : Nat} (h1 : k ≠ 8 * j + 6) (h2 : k ≠ 8 * j + 7) : q_m2 σ j 73 k = σ 73 k := by
  rw [q_m2, q_up_f h2, q_up_f h1, q_up_g (by decide), q_up_g (by decide)]

set_option maxHeartbeats 1000000 in
set_option maxRecDepth 100000 in
theorem kX8_tickOf {σ : q_M} {j : Nat} (hj : j < 6) (hd : 0 < (σ 75 3).toInt) (hp : 0 < (σ 75 1 + σ 73 48 + σ 73 (8 * j + 6) / 64).toInt) : q_Ct YX8_tickOf [.ref 72, .int (nI j)] q_SH σ (q_is none q_SH (q_tm σ j)) := by
  refine q_ct (n := 3) (by decide) (by decide) rfl (fun _ => Nat.le_of_ble_eq_true rfl) (fun E => ?_)
  refine q_bipush (x := 8) dX8_tickOf_0 (by decide) ?_
  refine q_iload_n dX8_tickOf_2 rfl ?_
  refine q_imul dX8_tickOf_3 ?_
  rw [show (8 : Int32) * nI j = nI (8 * j) by rw [show (8 : Int32) = nI 8 from rfl, pk_mul]]
  refine q_istore_n dX8_tickOf_4 (by decide) rfl ?_
  refine q_aload_n dX8_tickOf_5 rfl ?_
  refine q_getr fX8_7 dX8_tickOf_6 (by first | rfl | assumption) (by rfl) ?_
  refine q_iload_n dX8_tickOf_9 rfl ?_
  refine q_bipush (x := 6) dX8_tickOf_10 (by decide) ?_
  refine q_iadd dX8_tickOf_12 ?_
  refine q_ild (8 * j + 6) (by first | rfl | assumption) (by rw [show nI (8 * j) + 6 = nI (8 * j + 6) from nI_add _ _]; exact nI_toInt (by omega)) (by omega) dX8_tickOf_13 ?_
  refine q_istore_n dX8_tickOf_14 (by decide) rfl ?_
  refine q_aload_n dX8_tickOf_15 rfl ?_
  refine q_iload_n dX8_tickOf_16 rfl ?_
  refine q_put_i pX8_184 dX8_tickOf_17 (by first | rfl | assumption) (by rfl) rfl rfl ?_
  refine q_aload_n dX8_tickOf_20 rfl ?_
  refine q_aload_n dX8_tickOf_21 rfl ?_
  refine q_getr fX8_7 dX8_tickOf_22 (by first | rfl | assumption) (by rfl) ?_
  refine q_iload_n dX8_tickOf_25 rfl ?_
  refine q_bipush (x := 7) dX8_tickOf_26 (by decide) ?_
  refine q_iadd dX8_tickOf_28 ?_
  refine q_ild (8 * j + 7) (by first | rfl | assumption) (by rw [show nI (8 * j) + 7 = nI (8 * j + 7) from nI_add _ _]; exact nI_toInt (by omega)) (by omega) dX8_tickOf_29 ?_
  rw [q_up_g (show (73 : Nat) ≠ 72 by decide)]
  refine q_put_i pX8_181 dX8_tickOf_30 (by first | rfl | assumption) (by rfl) rfl rfl ?_
  refine q_aload_n dX8_tickOf_33 rfl ?_
  refine q_aload_n dX8_tickOf_34 rfl ?_
  refine q_iload_n dX8_tickOf_35 rfl ?_
  refine q_cVi lX8_156 vX8_heavy (ci := 8) rfl dX8_tickOf_36 (kX8_heavy hj) (by first | rfl | assumption) rfl rfl (Nat.le_of_ble_eq_true rfl) (by decide) ?_
  refine q_aload_n dX8_tickOf_39 rfl ?_
  refine q_iload_n dX8_tickOf_40 rfl ?_
  refine q_iconst (x := 1) dX8_tickOf_41 (by decide) ?_
  refine q_cVi lX8_153 vX8_of (ci := 8) rfl dX8_tickOf_42 (kX8_of (w := 1) hj (by decide)) (by first | rfl | assumption) rfl rfl (Nat.le_of_ble_eq_true rfl) (by decide) ?_
  refine q_aload_n dX8_tickOf_45 rfl ?_
  refine q_getr fX8_7 dX8_tickOf_46 (by first | rfl | assumption) (by rfl) ?_
  refine q_bipush (x := 48) dX8_tickOf_49 (by decide) ?_
  refine q_ild 48 (by first | rfl | assumption) rfl (by decide) dX8_tickOf_51 ?_
  refine q_cVv lX8_190 vX8_moves (ci := 8) rfl dX8_tickOf_52 (kX8_moves (a0 := σ 73 (8 * j + 6)) (p0 := σ 73 (8 * j + 7)) (by rw [q_up_ab, q_up_at]) (by rw [q_up_at]) hd hp) (by first | rfl | assumption) rfl rfl (Nat.le_of_ble_eq_true rfl) (by decide) ?_
  change q_G _ _ _ _ _ _ _ _ (q_up (q_up (q_up (q_up σ 72 17 (σ 73 (8 * j + 6))) 72 18 (σ 73 (8 * j + 7))) 72 17 (q_mvt σ j).1) 72 18 (q_mvt σ j).2) _
  rw [q_mn4]
  refine q_aload_n dX8_tickOf_55 rfl ?_
  refine q_getr fX8_7 dX8_tickOf_56 (by first | rfl | assumption) (by rfl) ?_
  refine q_iload_n dX8_tickOf_59 rfl ?_
  refine q_bipush (x := 6) dX8_tickOf_60 (by decide) ?_
  refine q_iadd dX8_tickOf_62 ?_
  refine q_aload_n dX8_tickOf_63 rfl ?_
  refine q_get fX8_184 dX8_tickOf_64 (by first | rfl | assumption) (by rfl) ?_
  rw [q_up_ab, q_up_at]
  refine q_isto (8 * j + 6) (by first | rfl | assumption) (by rw [show nI (8 * j) + 6 = nI (8 * j + 6) from nI_add _ _]; exact nI_toInt (by omega)) (by omega) dX8_tickOf_67 ?_
  refine q_aload_n dX8_tickOf_68 rfl ?_
  refine q_getr fX8_7 dX8_tickOf_69 (by first | rfl | assumption) (by rfl) ?_
  refine q_iload_n dX8_tickOf_72 rfl ?_
  refine q_bipush (x := 7) dX8_tickOf_73 (by decide) ?_
  refine q_iadd dX8_tickOf_75 ?_
  refine q_aload_n dX8_tickOf_76 rfl ?_
  refine q_get fX8_181 dX8_tickOf_77 (by first | rfl | assumption) (by rfl) ?_
  rw [q_up_g (show (72 : Nat) ≠ 73 by decide), q_up_at]
  refine q_isto (8 * j + 7) (by first | rfl | assumption) (by rw [show nI (8 * j) + 7 = nI (8 * j + 7) from nI_add _ _]; exact nI_toInt (by omega)) (by omega) dX8_tickOf_80 ?_
  change q_G _ _ _ _ _ _ _ _ (q_m2 σ j) _
  refine q_aload_n dX8_tickOf_81 rfl ?_
  refine q_get fX8_184 dX8_tickOf_82 (by first | rfl | assumption) (by rfl) ?_
  rw [q_m2_17]
  refine q_aload_n dX8_tickOf_85 rfl ?_
  refine q_cVi lX8_187 vX8_floor (ci := 8) rfl dX8_tickOf_86 kX8_floor (by first | rfl | assumption) rfl rfl (Nat.le_of_ble_eq_true rfl) (by decide) ?_
  rw [q_m2_75]
  refine q_icmp_ne 178 dX8_tickOf_89 (by decide) (fun h89 => ?_) (fun h89 => ?_)
  · try have hma : q_ma σ j = q_m2 σ j := by rw [q_ma, if_neg (fun z => h89 z.1)]
    rw [← hma]
    refine q_aload_n dX8_tickOf_178 rfl ?_
    refine q_get fX8_184 dX8_tickOf_179 (by first | rfl | assumption) (by rfl) ?_
    rw [show q_ma σ j 72 17 = (q_mvt σ j).1 by rw [hma]; first | exact q_m2_17 σ j | rw [q_up_g (by decide), q_m2_17] | rw [q_up_g (by decide), q_up_g (by decide), q_up_g (by decide), q_m2_17]]
    refine q_if_ne 218 dX8_tickOf_182 (by decide) (fun h182 => ?_) (fun h182 => ?_)
    · have htm : q_tm σ j = q_ma σ j := by rw [q_tm, if_neg (fun z => h182 z.1)]
      refine q_vret dX8_tickOf_218 ?_ rfl rfl
      exact ⟨rfl, rfl, htm.symm⟩
    · refine q_iload_n dX8_tickOf_185 rfl ?_
      refine q_if_eq 218 dX8_tickOf_186 (by decide) (fun h186 => ?_) (fun h186 => ?_)
      · have htm : q_tm σ j = q_ma σ j := by rw [q_tm, if_neg (fun z => z.2.1 h186)]
        refine q_vret dX8_tickOf_218 ?_ rfl rfl
        exact ⟨rfl, rfl, htm.symm⟩
      · refine q_aload_n dX8_tickOf_189 rfl ?_
        refine q_iload_n dX8_tickOf_190 rfl ?_
        refine q_iconst (x := 5) dX8_tickOf_191 (by decide) ?_
        refine q_cVi lX8_153 vX8_of (ci := 8) rfl dX8_tickOf_192 (kX8_of (w := 5) hj (by decide)) (by first | rfl | assumption) rfl rfl (Nat.le_of_ble_eq_true rfl) (by decide) ?_
        refine q_zle 218 dX8_tickOf_195 (by decide) (fun h195 => ?_) (fun h195 => ?_)
        · have htm : q_tm σ j = q_ma σ j := by rw [q_tm, if_neg (fun z => absurd z.2.2 (by omega))]
          refine q_vret dX8_tickOf_218 ?_ rfl rfl
          exact ⟨rfl, rfl, htm.symm⟩
        · have htm : q_tm σ j = q_tp (q_ma σ j) j := by rw [q_tm, if_pos ⟨h182, h186, h195⟩]
          refine q_aload_n dX8_tickOf_198 rfl ?_
          refine q_getr fX8_7 dX8_tickOf_199 (by first | rfl | assumption) (by rfl) ?_
          refine q_iload_n dX8_tickOf_202 rfl ?_
          refine q_iconst (x := 5) dX8_tickOf_203 (by decide) ?_
          refine q_iadd dX8_tickOf_204 ?_
          refine q_iconst (x := 0) dX8_tickOf_205 (by decide) ?_
          refine q_isto (8 * j + 5) (by first | rfl | assumption) (by rw [show nI (8 * j) + 5 = nI (8 * j + 5) from nI_add _ _]; exact nI_toInt (by omega)) (by omega) dX8_tickOf_206 ?_
          refine q_aload_n dX8_tickOf_207 rfl ?_
          refine q_getr fX8_7 dX8_tickOf_208 (by first | rfl | assumption) (by rfl) ?_
          refine q_bipush (x := 52) dX8_tickOf_211 (by decide) ?_
          refine q_dup2 rfl rfl dX8_tickOf_213 ?_
          refine q_ild 52 (by first | rfl | assumption) rfl (by decide) dX8_tickOf_214 ?_
          refine q_iconst (x := 1) dX8_tickOf_215 (by decide) ?_
          refine q_iadd dX8_tickOf_216 ?_
          rw [q_up_off (by omega)]
          refine q_isto 52 (by first | rfl | assumption) rfl (by decide) dX8_tickOf_217 ?_
          refine q_vret dX8_tickOf_218 ?_ rfl rfl
          exact ⟨rfl, rfl, htm.symm⟩
  · refine q_iload_n dX8_tickOf_92 rfl ?_
    refine q_aload_n dX8_tickOf_93 rfl ?_
    refine q_get fX8_184 dX8_tickOf_94 (by first | rfl | assumption) (by rfl) ?_
    rw [q_m2_17]
    refine q_icmp_eq 178 dX8_tickOf_97 (by decide) (fun h97 => ?_) (fun h97 => ?_)
    · have hma : q_ma σ j = q_m2 σ j := by rw [q_ma, if_neg (fun z => z.2 h97)]
      try have hma : q_ma σ j = q_m2 σ j := by rw [q_ma, if_neg (fun z => h89 z.1)]
      rw [← hma]
      refine q_aload_n dX8_tickOf_178 rfl ?_
      refine q_get fX8_184 dX8_tickOf_179 (by first | rfl | assumption) (by rfl) ?_
      rw [show q_ma σ j 72 17 = (q_mvt σ j).1 by rw [hma]; first | exact q_m2_17 σ j | rw [q_up_g (by decide), q_m2_17] | rw [q_up_g (by decide), q_up_g (by decide), q_up_g (by decide), q_m2_17]]
      refine q_if_ne 218 dX8_tickOf_182 (by decide) (fun h182 => ?_) (fun h182 => ?_)
      · have htm : q_tm σ j = q_ma σ j := by rw [q_tm, if_neg (fun z => h182 z.1)]
        refine q_vret dX8_tickOf_218 ?_ rfl rfl
        exact ⟨rfl, rfl, htm.symm⟩
      · refine q_iload_n dX8_tickOf_185 rfl ?_
        refine q_if_eq 218 dX8_tickOf_186 (by decide) (fun h186 => ?_) (fun h186 => ?_)
        · have htm : q_tm σ j = q_ma σ j := by rw [q_tm, if_neg (fun z => z.2.1 h186)]
          refine q_vret dX8_tickOf_218 ?_ rfl rfl
          exact ⟨rfl, rfl, htm.symm⟩
        · refine q_aload_n dX8_tickOf_189 rfl ?_
          refine q_iload_n dX8_tickOf_190 rfl ?_
          refine q_iconst (x := 5) dX8_tickOf_191 (by decide) ?_
          refine q_cVi lX8_153 vX8_of (ci := 8) rfl dX8_tickOf_192 (kX8_of (w := 5) hj (by decide)) (by first | rfl | assumption) rfl rfl (Nat.le_of_ble_eq_true rfl) (by decide) ?_
          refine q_zle 218 dX8_tickOf_195 (by decide) (fun h195 => ?_) (fun h195 => ?_)
          · have htm : q_tm σ j = q_ma σ j := by rw [q_tm, if_neg (fun z => absurd z.2.2 (by omega))]
            refine q_vret dX8_tickOf_218 ?_ rfl rfl
            exact ⟨rfl, rfl, htm.symm⟩
          · have htm : q_tm σ j = q_tp (q_ma σ j) j := by rw [q_tm, if_pos ⟨h182, h186, h195⟩]
            refine q_aload_n dX8_tickOf_198 rfl ?_
            refine q_getr fX8_7 dX8_tickOf_199 (by first | rfl | assumption) (by rfl) ?_
            refine q_iload_n dX8_tickOf_202 rfl ?_
            refine q_iconst (x := 5) dX8_tickOf_203 (by decide) ?_
            refine q_iadd dX8_tickOf_204 ?_
            refine q_iconst (x := 0) dX8_tickOf_205 (by decide) ?_
            refine q_isto (8 * j + 5) (by first | rfl | assumption) (by rw [show nI (8 * j) + 5 = nI (8 * j + 5) from nI_add _ _]; exact nI_toInt (by omega)) (by omega) dX8_tickOf_206 ?_
            refine q_aload_n dX8_tickOf_207 rfl ?_
            refine q_getr fX8_7 dX8_tickOf_208 (by first | rfl | assumption) (by rfl) ?_
            refine q_bipush (x := 52) dX8_tickOf_211 (by decide) ?_
            refine q_dup2 rfl rfl dX8_tickOf_213 ?_
            refine q_ild 52 (by first | rfl | assumption) rfl (by decide) dX8_tickOf_214 ?_
            refine q_iconst (x := 1) dX8_tickOf_215 (by decide) ?_
            refine q_iadd dX8_tickOf_216 ?_
            rw [q_up_off (by omega)]
            refine q_isto 52 (by first | rfl | assumption) rfl (by decide) dX8_tickOf_217 ?_
            refine q_vret dX8_tickOf_218 ?_ rfl rfl
            exact ⟨rfl, rfl, htm.symm⟩
    · have hma : q_ma σ j = q_fl3 σ j := by rw [q_ma, if_pos ⟨h89, h97⟩]
      refine q_aload_n dX8_tickOf_100 rfl ?_
      refine q_iload_n dX8_tickOf_101 rfl ?_
      refine q_iconst (x := 1) dX8_tickOf_102 (by decide) ?_
      refine q_cVi lX8_153 vX8_of (ci := 8) rfl dX8_tickOf_103 (kX8_of (w := 1) hj (by decide)) (by first | rfl | assumption) rfl rfl (Nat.le_of_ble_eq_true rfl) (by decide) ?_
      refine q_aload_n dX8_tickOf_106 rfl ?_
      refine q_iload_n dX8_tickOf_107 rfl ?_
      refine q_iconst (x := 2) dX8_tickOf_108 (by decide) ?_
      refine q_cVi lX8_153 vX8_of (ci := 8) rfl dX8_tickOf_109 (kX8_of (w := 2) hj (by decide)) (by first | rfl | assumption) rfl rfl (Nat.le_of_ble_eq_true rfl) (by decide) ?_
      rw [q_m2_73 (by omega) (by omega), q_m2_73 (by omega) (by omega)]
      refine q_isub dX8_tickOf_112 ?_
      refine q_topi (fun lf elf => ?_)
      refine q_istore dX8_tickOf_113 (by decide) rfl ?_
      refine q_aload_n dX8_tickOf_115 rfl ?_
      refine q_getr fX8_7 dX8_tickOf_116 (by first | rfl | assumption) (by rfl) ?_
      refine q_iload_n dX8_tickOf_119 rfl ?_
      refine q_iconst (x := 1) dX8_tickOf_120 (by decide) ?_
      refine q_iadd dX8_tickOf_121 ?_
      refine q_iload dX8_tickOf_122 rfl ?_
      refine q_zge 131 dX8_tickOf_124 (by decide) (fun h124 => ?_) (fun h124 => ?_)
      · have hlk : q_lk0 σ j = lf := by rw [q_lk0, ← elf, if_neg (by omega)]
        refine q_iload dX8_tickOf_131 rfl ?_
        rw [← hlk]
        refine q_isto (8 * j + 1) (by first | rfl | assumption) (by rw [show nI (8 * j) + 1 = nI (8 * j + 1) from nI_add _ _]; exact nI_toInt (by omega)) (by omega) dX8_tickOf_133 ?_
        refine q_aload_n dX8_tickOf_134 rfl ?_
        refine q_iload_n dX8_tickOf_135 rfl ?_
        refine q_iconst (x := 4) dX8_tickOf_136 (by decide) ?_
        refine q_cVi lX8_153 vX8_of (ci := 8) rfl dX8_tickOf_137 (kX8_of (w := 4) hj (by decide)) (by first | rfl | assumption) rfl rfl (Nat.le_of_ble_eq_true rfl) (by decide) ?_
        refine q_iconst (x := 1) dX8_tickOf_140 (by decide) ?_
        rw [q_up_off (by omega), q_m2_73 (by omega) (by omega)]
        refine q_icmp_ne 178 dX8_tickOf_141 (by decide) (fun h141 => ?_) (fun h141 => ?_)
        · have hf3 : q_fl3 σ j = q_up (q_m2 σ j) 73 (8 * j + 1) (q_lk0 σ j) := by rw [q_fl3, if_neg (fun z => h141 z.1)]
          rw [hf3] at hma
          try have hma : q_ma σ j = q_m2 σ j := by rw [q_ma, if_neg (fun z => h89 z.1)]
          rw [← hma]
          refine q_aload_n dX8_tickOf_178 rfl ?_
          refine q_get fX8_184 dX8_tickOf_179 (by first | rfl | assumption) (by rfl) ?_
          rw [show q_ma σ j 72 17 = (q_mvt σ j).1 by rw [hma]; first | exact q_m2_17 σ j | rw [q_up_g (by decide), q_m2_17] | rw [q_up_g (by decide), q_up_g (by decide), q_up_g (by decide), q_m2_17]]
          refine q_if_ne 218 dX8_tickOf_182 (by decide) (fun h182 => ?_) (fun h182 => ?_)
          · have htm : q_tm σ j = q_ma σ j := by rw [q_tm, if_neg (fun z => h182 z.1)]
            refine q_vret dX8_tickOf_218 ?_ rfl rfl
            exact ⟨rfl, rfl, htm.symm⟩
          · refine q_iload_n dX8_tickOf_185 rfl ?_
            refine q_if_eq 218 dX8_tickOf_186 (by decide) (fun h186 => ?_) (fun h186 => ?_)
            · have htm : q_tm σ j = q_ma σ j := by rw [q_tm, if_neg (fun z => z.2.1 h186)]
              refine q_vret dX8_tickOf_218 ?_ rfl rfl
              exact ⟨rfl, rfl, htm.symm⟩
            · refine q_aload_n dX8_tickOf_189 rfl ?_
              refine q_iload_n dX8_tickOf_190 rfl ?_
              refine q_iconst (x := 5) dX8_tickOf_191 (by decide) ?_
              refine q_cVi lX8_153 vX8_of (ci := 8) rfl dX8_tickOf_192 (kX8_of (w := 5) hj (by decide)) (by first | rfl | assumption) rfl rfl (Nat.le_of_ble_eq_true rfl) (by decide) ?_
              refine q_zle 218 dX8_tickOf_195 (by decide) (fun h195 => ?_) (fun h195 => ?_)
              · have htm : q_tm σ j = q_ma σ j := by rw [q_tm, if_neg (fun z => absurd z.2.2 (by omega))]
                refine q_vret dX8_tickOf_218 ?_ rfl rfl
                exact ⟨rfl, rfl, htm.symm⟩
              · have htm : q_tm σ j = q_tp (q_ma σ j) j := by rw [q_tm, if_pos ⟨h182, h186, h195⟩]
                refine q_aload_n dX8_tickOf_198 rfl ?_
                refine q_getr fX8_7 dX8_tickOf_199 (by first | rfl | assumption) (by rfl) ?_
                refine q_iload_n dX8_tickOf_202 rfl ?_
                refine q_iconst (x := 5) dX8_tickOf_203 (by decide) ?_
                refine q_iadd dX8_tickOf_204 ?_
                refine q_iconst (x := 0) dX8_tickOf_205 (by decide) ?_
                refine q_isto (8 * j + 5) (by first | rfl | assumption) (by rw [show nI (8 * j) + 5 = nI (8 * j + 5) from nI_add _ _]; exact nI_toInt (by omega)) (by omega) dX8_tickOf_206 ?_
                refine q_aload_n dX8_tickOf_207 rfl ?_
                refine q_getr fX8_7 dX8_tickOf_208 (by first | rfl | assumption) (by rfl) ?_
                refine q_bipush (x := 52) dX8_tickOf_211 (by decide) ?_
                refine q_dup2 rfl rfl dX8_tickOf_213 ?_
                refine q_ild 52 (by first | rfl | assumption) rfl (by decide) dX8_tickOf_214 ?_
                refine q_iconst (x := 1) dX8_tickOf_215 (by decide) ?_
                refine q_iadd dX8_tickOf_216 ?_
                rw [q_up_off (by omega)]
                refine q_isto 52 (by first | rfl | assumption) rfl (by decide) dX8_tickOf_217 ?_
                refine q_vret dX8_tickOf_218 ?_ rfl rfl
                exact ⟨rfl, rfl, htm.symm⟩
        · refine q_aload_n dX8_tickOf_144 rfl ?_
          refine q_getr fX8_7 dX8_tickOf_145 (by first | rfl | assumption) (by rfl) ?_
          refine q_bipush (x := 51) dX8_tickOf_148 (by decide) ?_
          refine q_ild 51 (by first | rfl | assumption) rfl (by decide) dX8_tickOf_150 ?_
          refine q_iconst (x := 1) dX8_tickOf_151 (by decide) ?_
          rw [q_up_off (by omega), q_m2_73 (by omega) (by omega)]
          refine q_icmp_ne 178 dX8_tickOf_152 (by decide) (fun h152 => ?_) (fun h152 => ?_)
          · have hf3 : q_fl3 σ j = q_up (q_m2 σ j) 73 (8 * j + 1) (q_lk0 σ j) := by rw [q_fl3, if_neg (fun z => h152 z.2)]
            rw [hf3] at hma
            try have hma : q_ma σ j = q_m2 σ j := by rw [q_ma, if_neg (fun z => h89 z.1)]
            rw [← hma]
            refine q_aload_n dX8_tickOf_178 rfl ?_
            refine q_get fX8_184 dX8_tickOf_179 (by first | rfl | assumption) (by rfl) ?_
            rw [show q_ma σ j 72 17 = (q_mvt σ j).1 by rw [hma]; first | exact q_m2_17 σ j | rw [q_up_g (by decide), q_m2_17] | rw [q_up_g (by decide), q_up_g (by decide), q_up_g (by decide), q_m2_17]]
            refine q_if_ne 218 dX8_tickOf_182 (by decide) (fun h182 => ?_) (fun h182 => ?_)
            · have htm : q_tm σ j = q_ma σ j := by rw [q_tm, if_neg (fun z => h182 z.1)]
              refine q_vret dX8_tickOf_218 ?_ rfl rfl
              exact ⟨rfl, rfl, htm.symm⟩
            · refine q_iload_n dX8_tickOf_185 rfl ?_
              refine q_if_eq 218 dX8_tickOf_186 (by decide) (fun h186 => ?_) (fun h186 => ?_)
              · have htm : q_tm σ j = q_ma σ j := by rw [q_tm, if_neg (fun z => z.2.1 h186)]
                refine q_vret dX8_tickOf_218 ?_ rfl rfl
                exact ⟨rfl, rfl, htm.symm⟩
              · refine q_aload_n dX8_tickOf_189 rfl ?_
                refine q_iload_n dX8_tickOf_190 rfl ?_
                refine q_iconst (x := 5) dX8_tickOf_191 (by decide) ?_
                refine q_cVi lX8_153 vX8_of (ci := 8) rfl dX8_tickOf_192 (kX8_of (w := 5) hj (by decide)) (by first | rfl | assumption) rfl rfl (Nat.le_of_ble_eq_true rfl) (by decide) ?_
                refine q_zle 218 dX8_tickOf_195 (by decide) (fun h195 => ?_) (fun h195 => ?_)
                · have htm : q_tm σ j = q_ma σ j := by rw [q_tm, if_neg (fun z => absurd z.2.2 (by omega))]
                  refine q_vret dX8_tickOf_218 ?_ rfl rfl
                  exact ⟨rfl, rfl, htm.symm⟩
                · have htm : q_tm σ j = q_tp (q_ma σ j) j := by rw [q_tm, if_pos ⟨h182, h186, h195⟩]
                  refine q_aload_n dX8_tickOf_198 rfl ?_
                  refine q_getr fX8_7 dX8_tickOf_199 (by first | rfl | assumption) (by rfl) ?_
                  refine q_iload_n dX8_tickOf_202 rfl ?_
                  refine q_iconst (x := 5) dX8_tickOf_203 (by decide) ?_
                  refine q_iadd dX8_tickOf_204 ?_
                  refine q_iconst (x := 0) dX8_tickOf_205 (by decide) ?_
                  refine q_isto (8 * j + 5) (by first | rfl | assumption) (by rw [show nI (8 * j) + 5 = nI (8 * j + 5) from nI_add _ _]; exact nI_toInt (by omega)) (by omega) dX8_tickOf_206 ?_
                  refine q_aload_n dX8_tickOf_207 rfl ?_
                  refine q_getr fX8_7 dX8_tickOf_208 (by first | rfl | assumption) (by rfl) ?_
                  refine q_bipush (x := 52) dX8_tickOf_211 (by decide) ?_
                  refine q_dup2 rfl rfl dX8_tickOf_213 ?_
                  refine q_ild 52 (by first | rfl | assumption) rfl (by decide) dX8_tickOf_214 ?_
                  refine q_iconst (x := 1) dX8_tickOf_215 (by decide) ?_
                  refine q_iadd dX8_tickOf_216 ?_
                  rw [q_up_off (by omega)]
                  refine q_isto 52 (by first | rfl | assumption) rfl (by decide) dX8_tickOf_217 ?_
                  refine q_vret dX8_tickOf_218 ?_ rfl rfl
                  exact ⟨rfl, rfl, htm.symm⟩
          · have hf3 : q_fl3 σ j = q_up (q_up (q_up (q_m2 σ j) 73 (8 * j + 1) (q_lk0 σ j)) 73 (8 * j + 5) (σ 75 6)) 73 51 0 := by rw [q_fl3, if_pos ⟨h141, h152⟩]
            rw [hf3] at hma
            refine q_aload_n dX8_tickOf_155 rfl ?_
            refine q_getr fX8_7 dX8_tickOf_156 (by first | rfl | assumption) (by rfl) ?_
            refine q_iload_n dX8_tickOf_159 rfl ?_
            refine q_iconst (x := 5) dX8_tickOf_160 (by decide) ?_
            refine q_iadd dX8_tickOf_161 ?_
            refine q_aload_n dX8_tickOf_162 rfl ?_
            refine q_getr fX8_17 dX8_tickOf_163 (by first | rfl | assumption) (by rfl) ?_
            refine q_bipush (x := 6) dX8_tickOf_166 (by decide) ?_
            refine q_ild 6 (by first | rfl | assumption) rfl (by decide) dX8_tickOf_168 ?_
            rw [q_up_g (show (75 : Nat) ≠ 73 by decide), q_m2_75]
            refine q_isto (8 * j + 5) (by first | rfl | assumption) (by rw [show nI (8 * j) + 5 = nI (8 * j + 5) from nI_add _ _]; exact nI_toInt (by omega)) (by omega) dX8_tickOf_169 ?_
            refine q_aload_n dX8_tickOf_170 rfl ?_
            refine q_getr fX8_7 dX8_tickOf_171 (by first | rfl | assumption) (by rfl) ?_
            refine q_bipush (x := 51) dX8_tickOf_174 (by decide) ?_
            refine q_iconst (x := 0) dX8_tickOf_176 (by decide) ?_
            refine q_isto 51 (by first | rfl | assumption) rfl (by decide) dX8_tickOf_177 ?_
            try have hma : q_ma σ j = q_m2 σ j := by rw [q_ma, if_neg (fun z => h89 z.1)]
            rw [← hma]
            refine q_aload_n dX8_tickOf_178 rfl ?_
            refine q_get fX8_184 dX8_tickOf_179 (by first | rfl | assumption) (by rfl) ?_
            rw [show q_ma σ j 72 17 = (q_mvt σ j).1 by rw [hma]; first | exact q_m2_17 σ j | rw [q_up_g (by decide), q_m2_17] | rw [q_up_g (by decide), q_up_g (by decide), q_up_g (by decide), q_m2_17]]
            refine q_if_ne 218 dX8_tickOf_182 (by decide) (fun h182 => ?_) (fun h182 => ?_)
            · have htm : q_tm σ j = q_ma σ j := by rw [q_tm, if_neg (fun z => h182 z.1)]
              refine q_vret dX8_tickOf_218 ?_ rfl rfl
              exact ⟨rfl, rfl, htm.symm⟩
            · refine q_iload_n dX8_tickOf_185 rfl ?_
              refine q_if_eq 218 dX8_tickOf_186 (by decide) (fun h186 => ?_) (fun h186 => ?_)
              · have htm : q_tm σ j = q_ma σ j := by rw [q_tm, if_neg (fun z => z.2.1 h186)]
                refine q_vret dX8_tickOf_218 ?_ rfl rfl
                exact ⟨rfl, rfl, htm.symm⟩
              · refine q_aload_n dX8_tickOf_189 rfl ?_
                refine q_iload_n dX8_tickOf_190 rfl ?_
                refine q_iconst (x := 5) dX8_tickOf_191 (by decide) ?_
                refine q_cVi lX8_153 vX8_of (ci := 8) rfl dX8_tickOf_192 (kX8_of (w := 5) hj (by decide)) (by first | rfl | assumption) rfl rfl (Nat.le_of_ble_eq_true rfl) (by decide) ?_
                refine q_zle 218 dX8_tickOf_195 (by decide) (fun h195 => ?_) (fun h195 => ?_)
                · have htm : q_tm σ j = q_ma σ j := by rw [q_tm, if_neg (fun z => absurd z.2.2 (by omega))]
                  refine q_vret dX8_tickOf_218 ?_ rfl rfl
                  exact ⟨rfl, rfl, htm.symm⟩
                · have htm : q_tm σ j = q_tp (q_ma σ j) j := by rw [q_tm, if_pos ⟨h182, h186, h195⟩]
                  refine q_aload_n dX8_tickOf_198 rfl ?_
                  refine q_getr fX8_7 dX8_tickOf_199 (by first | rfl | assumption) (by rfl) ?_
                  refine q_iload_n dX8_tickOf_202 rfl ?_
                  refine q_iconst (x := 5) dX8_tickOf_203 (by decide) ?_
                  refine q_iadd dX8_tickOf_204 ?_
                  refine q_iconst (x := 0) dX8_tickOf_205 (by decide) ?_
                  refine q_isto (8 * j + 5) (by first | rfl | assumption) (by rw [show nI (8 * j) + 5 = nI (8 * j + 5) from nI_add _ _]; exact nI_toInt (by omega)) (by omega) dX8_tickOf_206 ?_
                  refine q_aload_n dX8_tickOf_207 rfl ?_
                  refine q_getr fX8_7 dX8_tickOf_208 (by first | rfl | assumption) (by rfl) ?_
                  refine q_bipush (x := 52) dX8_tickOf_211 (by decide) ?_
                  refine q_dup2 rfl rfl dX8_tickOf_213 ?_
                  refine q_ild 52 (by first | rfl | assumption) rfl (by decide) dX8_tickOf_214 ?_
                  refine q_iconst (x := 1) dX8_tickOf_215 (by decide) ?_
                  refine q_iadd dX8_tickOf_216 ?_
                  rw [q_up_off (by omega)]
                  refine q_isto 52 (by first | rfl | assumption) rfl (by decide) dX8_tickOf_217 ?_
                  refine q_vret dX8_tickOf_218 ?_ rfl rfl
                  exact ⟨rfl, rfl, htm.symm⟩
      · have hlk : q_lk0 σ j = 0 := by rw [q_lk0, ← elf, if_pos h124]
        refine q_iconst (x := 0) dX8_tickOf_127 (by decide) ?_
        refine q_goto 133 dX8_tickOf_128 (by decide) ?_
        rw [← hlk]
        refine q_isto (8 * j + 1) (by first | rfl | assumption) (by rw [show nI (8 * j) + 1 = nI (8 * j + 1) from nI_add _ _]; exact nI_toInt (by omega)) (by omega) dX8_tickOf_133 ?_
        refine q_aload_n dX8_tickOf_134 rfl ?_
        refine q_iload_n dX8_tickOf_135 rfl ?_
        refine q_iconst (x := 4) dX8_tickOf_136 (by decide) ?_
        refine q_cVi lX8_153 vX8_of (ci := 8) rfl dX8_tickOf_137 (kX8_of (w := 4) hj (by decide)) (by first | rfl | assumption) rfl rfl (Nat.le_of_ble_eq_true rfl) (by decide) ?_
        refine q_iconst (x := 1) dX8_tickOf_140 (by decide) ?_
        rw [q_up_off (by omega), q_m2_73 (by omega) (by omega)]
        refine q_icmp_ne 178 dX8_tickOf_141 (by decide) (fun h141 => ?_) (fun h141 => ?_)
        · have hf3 : q_fl3 σ j = q_up (q_m2 σ j) 73 (8 * j + 1) (q_lk0 σ j) := by rw [q_fl3, if_neg (fun z => h141 z.1)]
          rw [hf3] at hma
          try have hma : q_ma σ j = q_m2 σ j := by rw [q_ma, if_neg (fun z => h89 z.1)]
          rw [← hma]
          refine q_aload_n dX8_tickOf_178 rfl ?_
          refine q_get fX8_184 dX8_tickOf_179 (by first | rfl | assumption) (by rfl) ?_
          rw [show q_ma σ j 72 17 = (q_mvt σ j).1 by rw [hma]; first | exact q_m2_17 σ j | rw [q_up_g (by decide), q_m2_17] | rw [q_up_g (by decide), q_up_g (by decide), q_up_g (by decide), q_m2_17]]
          refine q_if_ne 218 dX8_tickOf_182 (by decide) (fun h182 => ?_) (fun h182 => ?_)
          · have htm : q_tm σ j = q_ma σ j := by rw [q_tm, if_neg (fun z => h182 z.1)]
            refine q_vret dX8_tickOf_218 ?_ rfl rfl
            exact ⟨rfl, rfl, htm.symm⟩
          · refine q_iload_n dX8_tickOf_185 rfl ?_
            refine q_if_eq 218 dX8_tickOf_186 (by decide) (fun h186 => ?_) (fun h186 => ?_)
            · have htm : q_tm σ j = q_ma σ j := by rw [q_tm, if_neg (fun z => z.2.1 h186)]
              refine q_vret dX8_tickOf_218 ?_ rfl rfl
              exact ⟨rfl, rfl, htm.symm⟩
            · refine q_aload_n dX8_tickOf_189 rfl ?_
              refine q_iload_n dX8_tickOf_190 rfl ?_
              refine q_iconst (x := 5) dX8_tickOf_191 (by decide) ?_
              refine q_cVi lX8_153 vX8_of (ci := 8) rfl dX8_tickOf_192 (kX8_of (w := 5) hj (by decide)) (by first | rfl | assumption) rfl rfl (Nat.le_of_ble_eq_true rfl) (by decide) ?_
              refine q_zle 218 dX8_tickOf_195 (by decide) (fun h195 => ?_) (fun h195 => ?_)
              · have htm : q_tm σ j = q_ma σ j := by rw [q_tm, if_neg (fun z => absurd z.2.2 (by omega))]
                refine q_vret dX8_tickOf_218 ?_ rfl rfl
                exact ⟨rfl, rfl, htm.symm⟩
              · have htm : q_tm σ j = q_tp (q_ma σ j) j := by rw [q_tm, if_pos ⟨h182, h186, h195⟩]
                refine q_aload_n dX8_tickOf_198 rfl ?_
                refine q_getr fX8_7 dX8_tickOf_199 (by first | rfl | assumption) (by rfl) ?_
                refine q_iload_n dX8_tickOf_202 rfl ?_
                refine q_iconst (x := 5) dX8_tickOf_203 (by decide) ?_
                refine q_iadd dX8_tickOf_204 ?_
                refine q_iconst (x := 0) dX8_tickOf_205 (by decide) ?_
                refine q_isto (8 * j + 5) (by first | rfl | assumption) (by rw [show nI (8 * j) + 5 = nI (8 * j + 5) from nI_add _ _]; exact nI_toInt (by omega)) (by omega) dX8_tickOf_206 ?_
                refine q_aload_n dX8_tickOf_207 rfl ?_
                refine q_getr fX8_7 dX8_tickOf_208 (by first | rfl | assumption) (by rfl) ?_
                refine q_bipush (x := 52) dX8_tickOf_211 (by decide) ?_
                refine q_dup2 rfl rfl dX8_tickOf_213 ?_
                refine q_ild 52 (by first | rfl | assumption) rfl (by decide) dX8_tickOf_214 ?_
                refine q_iconst (x := 1) dX8_tickOf_215 (by decide) ?_
                refine q_iadd dX8_tickOf_216 ?_
                rw [q_up_off (by omega)]
                refine q_isto 52 (by first | rfl | assumption) rfl (by decide) dX8_tickOf_217 ?_
                refine q_vret dX8_tickOf_218 ?_ rfl rfl
                exact ⟨rfl, rfl, htm.symm⟩
        · refine q_aload_n dX8_tickOf_144 rfl ?_
          refine q_getr fX8_7 dX8_tickOf_145 (by first | rfl | assumption) (by rfl) ?_
          refine q_bipush (x := 51) dX8_tickOf_148 (by decide) ?_
          refine q_ild 51 (by first | rfl | assumption) rfl (by decide) dX8_tickOf_150 ?_
          refine q_iconst (x := 1) dX8_tickOf_151 (by decide) ?_
          rw [q_up_off (by omega), q_m2_73 (by omega) (by omega)]
          refine q_icmp_ne 178 dX8_tickOf_152 (by decide) (fun h152 => ?_) (fun h152 => ?_)
          · have hf3 : q_fl3 σ j = q_up (q_m2 σ j) 73 (8 * j + 1) (q_lk0 σ j) := by rw [q_fl3, if_neg (fun z => h152 z.2)]
            rw [hf3] at hma
            try have hma : q_ma σ j = q_m2 σ j := by rw [q_ma, if_neg (fun z => h89 z.1)]
            rw [← hma]
            refine q_aload_n dX8_tickOf_178 rfl ?_
            refine q_get fX8_184 dX8_tickOf_179 (by first | rfl | assumption) (by rfl) ?_
            rw [show q_ma σ j 72 17 = (q_mvt σ j).1 by rw [hma]; first | exact q_m2_17 σ j | rw [q_up_g (by decide), q_m2_17] | rw [q_up_g (by decide), q_up_g (by decide), q_up_g (by decide), q_m2_17]]
            refine q_if_ne 218 dX8_tickOf_182 (by decide) (fun h182 => ?_) (fun h182 => ?_)
            · have htm : q_tm σ j = q_ma σ j := by rw [q_tm, if_neg (fun z => h182 z.1)]
              refine q_vret dX8_tickOf_218 ?_ rfl rfl
              exact ⟨rfl, rfl, htm.symm⟩
            · refine q_iload_n dX8_tickOf_185 rfl ?_
              refine q_if_eq 218 dX8_tickOf_186 (by decide) (fun h186 => ?_) (fun h186 => ?_)
              · have htm : q_tm σ j = q_ma σ j := by rw [q_tm, if_neg (fun z => z.2.1 h186)]
                refine q_vret dX8_tickOf_218 ?_ rfl rfl
                exact ⟨rfl, rfl, htm.symm⟩
              · refine q_aload_n dX8_tickOf_189 rfl ?_
                refine q_iload_n dX8_tickOf_190 rfl ?_
                refine q_iconst (x := 5) dX8_tickOf_191 (by decide) ?_
                refine q_cVi lX8_153 vX8_of (ci := 8) rfl dX8_tickOf_192 (kX8_of (w := 5) hj (by decide)) (by first | rfl | assumption) rfl rfl (Nat.le_of_ble_eq_true rfl) (by decide) ?_
                refine q_zle 218 dX8_tickOf_195 (by decide) (fun h195 => ?_) (fun h195 => ?_)
                · have htm : q_tm σ j = q_ma σ j := by rw [q_tm, if_neg (fun z => absurd z.2.2 (by omega))]
                  refine q_vret dX8_tickOf_218 ?_ rfl rfl
                  exact ⟨rfl, rfl, htm.symm⟩
                · have htm : q_tm σ j = q_tp (q_ma σ j) j := by rw [q_tm, if_pos ⟨h182, h186, h195⟩]
                  refine q_aload_n dX8_tickOf_198 rfl ?_
                  refine q_getr fX8_7 dX8_tickOf_199 (by first | rfl | assumption) (by rfl) ?_
                  refine q_iload_n dX8_tickOf_202 rfl ?_
                  refine q_iconst (x := 5) dX8_tickOf_203 (by decide) ?_
                  refine q_iadd dX8_tickOf_204 ?_
                  refine q_iconst (x := 0) dX8_tickOf_205 (by decide) ?_
                  refine q_isto (8 * j + 5) (by first | rfl | assumption) (by rw [show nI (8 * j) + 5 = nI (8 * j + 5) from nI_add _ _]; exact nI_toInt (by omega)) (by omega) dX8_tickOf_206 ?_
                  refine q_aload_n dX8_tickOf_207 rfl ?_
                  refine q_getr fX8_7 dX8_tickOf_208 (by first | rfl | assumption) (by rfl) ?_
                  refine q_bipush (x := 52) dX8_tickOf_211 (by decide) ?_
                  refine q_dup2 rfl rfl dX8_tickOf_213 ?_
                  refine q_ild 52 (by first | rfl | assumption) rfl (by decide) dX8_tickOf_214 ?_
                  refine q_iconst (x := 1) dX8_tickOf_215 (by decide) ?_
                  refine q_iadd dX8_tickOf_216 ?_
                  rw [q_up_off (by omega)]
                  refine q_isto 52 (by first | rfl | assumption) rfl (by decide) dX8_tickOf_217 ?_
                  refine q_vret dX8_tickOf_218 ?_ rfl rfl
                  exact ⟨rfl, rfl, htm.symm⟩
          · have hf3 : q_fl3 σ j = q_up (q_up (q_up (q_m2 σ j) 73 (8 * j + 1) (q_lk0 σ j)) 73 (8 * j + 5) (σ 75 6)) 73 51 0 := by rw [q_fl3, if_pos ⟨h141, h152⟩]
            rw [hf3] at hma
            refine q_aload_n dX8_tickOf_155 rfl ?_
            refine q_getr fX8_7 dX8_tickOf_156 (by first | rfl | assumption) (by rfl) ?_
            refine q_iload_n dX8_tickOf_159 rfl ?_
            refine q_iconst (x := 5) dX8_tickOf_160 (by decide) ?_
            refine q_iadd dX8_tickOf_161 ?_
            refine q_aload_n dX8_tickOf_162 rfl ?_
            refine q_getr fX8_17 dX8_tickOf_163 (by first | rfl | assumption) (by rfl) ?_
            refine q_bipush (x := 6) dX8_tickOf_166 (by decide) ?_
            refine q_ild 6 (by first | rfl | assumption) rfl (by decide) dX8_tickOf_168 ?_
            rw [q_up_g (show (75 : Nat) ≠ 73 by decide), q_m2_75]
            refine q_isto (8 * j + 5) (by first | rfl | assumption) (by rw [show nI (8 * j) + 5 = nI (8 * j + 5) from nI_add _ _]; exact nI_toInt (by omega)) (by omega) dX8_tickOf_169 ?_
            refine q_aload_n dX8_tickOf_170 rfl ?_
            refine q_getr fX8_7 dX8_tickOf_171 (by first | rfl | assumption) (by rfl) ?_
            refine q_bipush (x := 51) dX8_tickOf_174 (by decide) ?_
            refine q_iconst (x := 0) dX8_tickOf_176 (by decide) ?_
            refine q_isto 51 (by first | rfl | assumption) rfl (by decide) dX8_tickOf_177 ?_
            try have hma : q_ma σ j = q_m2 σ j := by rw [q_ma, if_neg (fun z => h89 z.1)]
            rw [← hma]
            refine q_aload_n dX8_tickOf_178 rfl ?_
            refine q_get fX8_184 dX8_tickOf_179 (by first | rfl | assumption) (by rfl) ?_
            rw [show q_ma σ j 72 17 = (q_mvt σ j).1 by rw [hma]; first | exact q_m2_17 σ j | rw [q_up_g (by decide), q_m2_17] | rw [q_up_g (by decide), q_up_g (by decide), q_up_g (by decide), q_m2_17]]
            refine q_if_ne 218 dX8_tickOf_182 (by decide) (fun h182 => ?_) (fun h182 => ?_)
            · have htm : q_tm σ j = q_ma σ j := by rw [q_tm, if_neg (fun z => h182 z.1)]
              refine q_vret dX8_tickOf_218 ?_ rfl rfl
              exact ⟨rfl, rfl, htm.symm⟩
            · refine q_iload_n dX8_tickOf_185 rfl ?_
              refine q_if_eq 218 dX8_tickOf_186 (by decide) (fun h186 => ?_) (fun h186 => ?_)
              · have htm : q_tm σ j = q_ma σ j := by rw [q_tm, if_neg (fun z => z.2.1 h186)]
                refine q_vret dX8_tickOf_218 ?_ rfl rfl
                exact ⟨rfl, rfl, htm.symm⟩
              · refine q_aload_n dX8_tickOf_189 rfl ?_
                refine q_iload_n dX8_tickOf_190 rfl ?_
                refine q_iconst (x := 5) dX8_tickOf_191 (by decide) ?_
                refine q_cVi lX8_153 vX8_of (ci := 8) rfl dX8_tickOf_192 (kX8_of (w := 5) hj (by decide)) (by first | rfl | assumption) rfl rfl (Nat.le_of_ble_eq_true rfl) (by decide) ?_
                refine q_zle 218 dX8_tickOf_195 (by decide) (fun h195 => ?_) (fun h195 => ?_)
                · have htm : q_tm σ j = q_ma σ j := by rw [q_tm, if_neg (fun z => absurd z.2.2 (by omega))]
                  refine q_vret dX8_tickOf_218 ?_ rfl rfl
                  exact ⟨rfl, rfl, htm.symm⟩
                · have htm : q_tm σ j = q_tp (q_ma σ j) j := by rw [q_tm, if_pos ⟨h182, h186, h195⟩]
                  refine q_aload_n dX8_tickOf_198 rfl ?_
                  refine q_getr fX8_7 dX8_tickOf_199 (by first | rfl | assumption) (by rfl) ?_
                  refine q_iload_n dX8_tickOf_202 rfl ?_
                  refine q_iconst (x := 5) dX8_tickOf_203 (by decide) ?_
                  refine q_iadd dX8_tickOf_204 ?_
                  refine q_iconst (x := 0) dX8_tickOf_205 (by decide) ?_
                  refine q_isto (8 * j + 5) (by first | rfl | assumption) (by rw [show nI (8 * j) + 5 = nI (8 * j + 5) from nI_add _ _]; exact nI_toInt (by omega)) (by omega) dX8_tickOf_206 ?_
                  refine q_aload_n dX8_tickOf_207 rfl ?_
                  refine q_getr fX8_7 dX8_tickOf_208 (by first | rfl | assumption) (by rfl) ?_
                  refine q_bipush (x := 52) dX8_tickOf_211 (by decide) ?_
                  refine q_dup2 rfl rfl dX8_tickOf_213 ?_
                  refine q_ild 52 (by first | rfl | assumption) rfl (by decide) dX8_tickOf_214 ?_
                  refine q_iconst (x := 1) dX8_tickOf_215 (by decide) ?_
                  refine q_iadd dX8_tickOf_216 ?_
                  rw [q_up_off (by omega)]
                  refine q_isto 52 (by first | rfl | assumption) rfl (by decide) dX8_tickOf_217 ?_
                  refine q_vret dX8_tickOf_218 ?_ rfl rfl
                  exact ⟨rfl, rfl, htm.symm⟩
