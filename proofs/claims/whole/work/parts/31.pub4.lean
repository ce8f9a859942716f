/-! what DiverBottle answers: trips, bladders, beats, what it can be, images, sheets -/

def q_trl (σ : q_M) (d : Nat) : Nat → Nat → Int32 → Int32
  | 0, _, _ => 999
  | m + 1, i, b => if 0 ≤ (q_wt (σ 15 1) (σ 15 4) (σ 15 5) (σ d 0 + σ d 4) (q_max 0 (b - σ d 2)) (σ 17 4) (σ 15 0) 0).toInt then nI i else q_trl σ d m (i + 1) (q_max 0 (b - σ d 2))

set_option maxHeartbeats 1000000 in
set_option maxRecDepth 100000 in
theorem lpX7_trips {E : q_E} {σ : q_M} {k : Int32} {d : Nat} (hd : q_SH[d]? = some q_sD) : ∀ (n : Nat) (i : Nat) (b : Int32), 999 + 1 ≤ i + n → i ≤ 999 → q_G YX7_trips E 0 0 28 [some (.ref 0), some (.int k), some (.ref d), some (.int b), some (.int (nI i)), none] [] q_SH σ (q_is (some (q_trl σ d (999 - i) i b)) q_SH σ) := by
  intro n
  induction n with
  | zero =>
    intro i b hm h0
    exact absurd hm (by omega)
  | succ n ih =>
    intro i b hm h0
    have hi := nI_toInt (n := i) (by omega)
    have hc : (999 : Int32).toInt = 999 := rfl
    refine q_iload dX7_trips_28 rfl ?_
    refine q_sipush (x := 999) dX7_trips_30 (by decide) ?_
    refine q_cge 97 dX7_trips_33 (by decide) (fun h33 => ?_) (fun h33 => ?_)
    · have e : 999 - i = 0 := by omega
      refine q_sipush (x := 999) dX7_trips_97 (by decide) ?_
      refine q_ret dX7_trips_100 ?_ rfl rfl
      exact ⟨congrArg some (by rw [e]; rfl), rfl, rfl⟩
    · refine q_iconst (x := 0) dX7_trips_36 (by decide) ?_
      refine q_iload_n dX7_trips_37 rfl ?_
      refine q_aload_n dX7_trips_38 rfl ?_
      refine q_get fX7_130 dX7_trips_39 (by first | rfl | assumption) (by rfl) ?_
      refine q_isub dX7_trips_42 ?_
      refine q_cSi lX7_280 sJ9_max_7cf53 dX7_trips_43 kmax rfl rfl (Nat.le_of_ble_eq_true rfl) (by decide) ?_
      have e : 999 - i = (999 - (i + 1)) + 1 := by omega
      refine q_topi (fun b2 eb2 => ?_)
      refine q_istore_n dX7_trips_46 (by decide) rfl ?_
      refine q_aload_n dX7_trips_47 rfl ?_
      refine q_getr fX7_19 dX7_trips_48 (by first | rfl | assumption) (by rfl) ?_
      refine q_aload_n dX7_trips_51 rfl ?_
      refine q_get fX7_122 dX7_trips_52 (by first | rfl | assumption) (by rfl) ?_
      refine q_aload_n dX7_trips_55 rfl ?_
      refine q_get fX7_144 dX7_trips_56 (by first | rfl | assumption) (by rfl) ?_
      refine q_iadd dX7_trips_59 ?_
      refine q_iload_n dX7_trips_60 rfl ?_
      refine q_aload_n dX7_trips_61 rfl ?_
      refine q_getr fX7_26 dX7_trips_62 (by first | rfl | assumption) (by rfl) ?_
      refine q_get fX7_66 dX7_trips_65 (by first | rfl | assumption) (by rfl) ?_
      refine q_aload_n dX7_trips_68 rfl ?_
      refine q_getr fX7_19 dX7_trips_69 (by first | rfl | assumption) (by rfl) ?_
      refine q_getr fX7_62 dX7_trips_72 (by first | rfl | assumption) (by rfl) ?_
      refine q_iconst (x := 0) dX7_trips_75 (by decide) ?_
      refine q_ild 0 (by first | rfl | assumption) rfl (by decide) dX7_trips_76 ?_
      refine q_iconst (x := 0) dX7_trips_77 (by decide) ?_
      refine q_cVi lX7_212 vX6_weight (ci := 6) rfl dX7_trips_78 (kX6_weight (by first | rfl | assumption) (by first | rfl | assumption)) (by first | rfl | assumption) rfl rfl (Nat.le_of_ble_eq_true rfl) (by decide) ?_
      refine q_topi (fun w2 ew2 => ?_)
      refine q_istore dX7_trips_81 (by decide) rfl ?_
      refine q_iload dX7_trips_83 rfl ?_
      refine q_zlt 91 dX7_trips_85 (by decide) (fun h85 => ?_) (fun h85 => ?_)
      · have hs : q_trl σ d (999 - i) i b = q_trl σ d (999 - (i + 1)) (i + 1) b2 := by rw [e, q_trl, ← eb2, ← ew2, if_neg (by omega)]
        refine q_inc 1 dX7_trips_91 (by decide) rfl (by decide) rfl ?_
        refine q_goto 28 dX7_trips_94 (by decide) ?_
        rw [nI_1, hs]
        refine q_lset 5 ?_
        exact ih (i + 1) b2 (by omega) (by omega)
      · have hs : q_trl σ d (999 - i) i b = nI i := by rw [e, q_trl, ← eb2, ← ew2, if_pos h85]
        refine q_iload dX7_trips_88 rfl ?_
        refine q_ret dX7_trips_90 ?_ rfl rfl
        exact ⟨congrArg some hs.symm, rfl, rfl⟩

set_option maxHeartbeats 1000000 in
set_option maxRecDepth 100000 in
theorem kX7_trips {σ : q_M} {N : Nat} (hN : σ 17 2 = nI N) (h6 : N ≤ 6) {k : Int32} : q_Ct YX7_trips [.ref 0, .int k] q_SH σ (q_is (some (if q_win k 0 (σ 17 2 - 1) then q_trl σ (23 + k.toNatClampNeg) 999 0 (σ (23 + k.toNatClampNeg) 1) else -1)) q_SH σ) := by
  refine q_ct (n := 4) (by decide) (by decide) rfl (fun _ => Nat.le_of_ble_eq_true rfl) (fun E => ?_)
  refine q_aload_n dX7_trips_0 rfl ?_
  refine q_iload_n dX7_trips_1 rfl ?_
  refine q_cVi lX7_116 vX7_isDiver (ci := 7) rfl dX7_trips_2 kX7_isDiver (by first | rfl | assumption) rfl rfl (Nat.le_of_ble_eq_true rfl) (by decide) ?_
  refine q_bne 10 dX7_trips_5 (by decide) (fun h5 => ?_) (fun h5 => ?_)
  · obtain ⟨hk, hj⟩ := q_dvi hN h6 h5
    have hd := q_SH_dv (j := k.toNatClampNeg) (by omega)
    refine q_aload_n dX7_trips_10 rfl ?_
    refine q_getr fX7_26 dX7_trips_11 (by first | rfl | assumption) (by rfl) ?_
    refine q_getr fX7_121 dX7_trips_14 (by first | rfl | assumption) (by rfl) ?_
    refine q_iload_n dX7_trips_17 rfl ?_
    refine q_ald k.toNatClampNeg (by first | rfl | assumption) hk (by omega) (q_ra_at (by omega)) ⟨by decide, by decide⟩ dX7_trips_18 ?_
    refine q_astore_n dX7_trips_19 (by decide) rfl ?_
    refine q_aload_n dX7_trips_20 rfl ?_
    refine q_get fX7_127 dX7_trips_21 (by first | rfl | assumption) (by rfl) ?_
    refine q_istore_n dX7_trips_24 (by decide) rfl ?_
    refine q_iconst (x := 0) dX7_trips_25 (by decide) ?_
    refine q_istore dX7_trips_26 (by decide) rfl ?_
    rw [h5]
    exact lpX7_trips hd 1000 0 _ (by omega) (by omega)
  · refine q_iconst (x := (-1)) dX7_trips_8 (by decide) ?_
    refine q_ret dX7_trips_9 ?_ rfl rfl
    try clear hN
    try clear hH
    exact ⟨congrArg some (by simp [*]), rfl, rfl⟩

def q_bl (σ : q_M) (d : Nat) (a b w : Int32) : Int32 := if (9999 : Int32).toInt < a.toInt ∨ (9999 : Int32).toInt < b.toInt then -4 else if w = 1 then b else if a = b then 0 else if σ d 3 = 0 then -4 else q_du (q_abs (b - a)) (σ d 3)

set_option maxHeartbeats 1000000 in
set_option maxRecDepth 100000 in
theorem kX7_bladder {σ : q_M} {N : Nat} (hN : σ 17 2 = nI N) (h6 : N ≤ 6) {k fr to w : Int32} : q_Ct YX7_bladder [.ref 0, .int k, .int fr, .int to, .int w] q_SH σ (q_is (some (if q_win k 0 (σ 17 2 - 1) && q_win fr 0 (σ 15 0) && q_win to 0 (σ 15 0) && q_win w 0 1 then q_bl σ (23 + k.toNatClampNeg) (q_ff σ (σ (23 + k.toNatClampNeg) 0 + σ (23 + k.toNatClampNeg) 4) fr 0) (q_ff σ (σ (23 + k.toNatClampNeg) 0 + σ (23 + k.toNatClampNeg) 4) to 0) w else -1)) q_SH σ) := by
  refine q_ct (n := 3) (by decide) (by decide) rfl (fun _ => Nat.le_of_ble_eq_true rfl) (fun E => ?_)
  refine q_aload_n dX7_bladder_0 rfl ?_
  refine q_iload_n dX7_bladder_1 rfl ?_
  refine q_cVi lX7_116 vX7_isDiver (ci := 7) rfl dX7_bladder_2 kX7_isDiver (by first | rfl | assumption) rfl rfl (Nat.le_of_ble_eq_true rfl) (by decide) ?_
  refine q_beq 34 dX7_bladder_5 (by decide) (fun h5 => ?_) (fun h5 => ?_)
  · refine q_iconst (x := (-1)) dX7_bladder_34 (by decide) ?_
    refine q_ret dX7_bladder_35 ?_ rfl rfl
    try clear hN
    try clear hH
    exact ⟨congrArg some (by simp [*]), rfl, rfl⟩
  · refine q_aload_n dX7_bladder_8 rfl ?_
    refine q_iload_n dX7_bladder_9 rfl ?_
    refine q_cVi lX7_188 vX7_isDepth (ci := 7) rfl dX7_bladder_10 kX7_isDepth (by first | rfl | assumption) rfl rfl (Nat.le_of_ble_eq_true rfl) (by decide) ?_
    refine q_beq 34 dX7_bladder_13 (by decide) (fun h13 => ?_) (fun h13 => ?_)
    · refine q_iconst (x := (-1)) dX7_bladder_34 (by decide) ?_
      refine q_ret dX7_bladder_35 ?_ rfl rfl
      try clear hN
      try clear hH
      exact ⟨congrArg some (by simp [*]), rfl, rfl⟩
    · refine q_aload_n dX7_bladder_16 rfl ?_
      refine q_iload_n dX7_bladder_17 rfl ?_
      refine q_cVi lX7_188 vX7_isDepth (ci := 7) rfl dX7_bladder_18 kX7_isDepth (by first | rfl | assumption) rfl rfl (Nat.le_of_ble_eq_true rfl) (by decide) ?_
      refine q_beq 34 dX7_bladder_21 (by decide) (fun h21 => ?_) (fun h21 => ?_)
      · refine q_iconst (x := (-1)) dX7_bladder_34 (by decide) ?_
        refine q_ret dX7_bladder_35 ?_ rfl rfl
        try clear hN
        try clear hH
        exact ⟨congrArg some (by simp [*]), rfl, rfl⟩
      · refine q_iload dX7_bladder_24 rfl ?_
        refine q_iconst (x := 0) dX7_bladder_26 (by decide) ?_
        refine q_iconst (x := 1) dX7_bladder_27 (by decide) ?_
        refine q_cSi lX7_77 sX7_within dX7_bladder_28 kX7_within rfl rfl (Nat.le_of_ble_eq_true rfl) (by decide) ?_
        refine q_bne 36 dX7_bladder_31 (by decide) (fun h31 => ?_) (fun h31 => ?_)
        · obtain ⟨hk, hj⟩ := q_dvi hN h6 h5
          have hd := q_SH_dv (j := k.toNatClampNeg) (by omega)
          refine q_aload_n dX7_bladder_36 rfl ?_
          refine q_getr fX7_26 dX7_bladder_37 (by first | rfl | assumption) (by rfl) ?_
          refine q_getr fX7_121 dX7_bladder_40 (by first | rfl | assumption) (by rfl) ?_
          refine q_iload_n dX7_bladder_43 rfl ?_
          refine q_ald k.toNatClampNeg (by first | rfl | assumption) hk (by omega) (q_ra_at (by omega)) ⟨by decide, by decide⟩ dX7_bladder_44 ?_
          refine q_astore dX7_bladder_45 (by decide) rfl ?_
          refine q_aload_n dX7_bladder_47 rfl ?_
          refine q_aload dX7_bladder_48 rfl ?_
          refine q_get fX7_122 dX7_bladder_50 (by first | rfl | assumption) (by rfl) ?_
          refine q_aload dX7_bladder_53 rfl ?_
          refine q_get fX7_144 dX7_bladder_55 (by first | rfl | assumption) (by rfl) ?_
          refine q_iadd dX7_bladder_58 ?_
          refine q_iload_n dX7_bladder_59 rfl ?_
          refine q_iconst (x := 0) dX7_bladder_60 (by decide) ?_
          refine q_cVi lX7_225 vX7_floatsFrom (ci := 7) rfl dX7_bladder_61 kX7_floatsFrom (by first | rfl | assumption) rfl rfl (Nat.le_of_ble_eq_true rfl) (by decide) ?_
          refine q_topi (fun aa eaa => ?_)
          refine q_istore dX7_bladder_64 (by decide) rfl ?_
          refine q_aload_n dX7_bladder_66 rfl ?_
          refine q_aload dX7_bladder_67 rfl ?_
          refine q_get fX7_122 dX7_bladder_69 (by first | rfl | assumption) (by rfl) ?_
          refine q_aload dX7_bladder_72 rfl ?_
          refine q_get fX7_144 dX7_bladder_74 (by first | rfl | assumption) (by rfl) ?_
          refine q_iadd dX7_bladder_77 ?_
          refine q_iload_n dX7_bladder_78 rfl ?_
          refine q_iconst (x := 0) dX7_bladder_79 (by decide) ?_
          refine q_cVi lX7_225 vX7_floatsFrom (ci := 7) rfl dX7_bladder_80 kX7_floatsFrom (by first | rfl | assumption) rfl rfl (Nat.le_of_ble_eq_true rfl) (by decide) ?_
          refine q_topi (fun bb ebb => ?_)
          refine q_istore dX7_bladder_83 (by decide) rfl ?_
          refine q_iload dX7_bladder_85 rfl ?_
          refine q_sipush (x := 9999) dX7_bladder_87 (by decide) ?_
          refine q_cgt 101 dX7_bladder_90 (by decide) (fun h90 => ?_) (fun h90 => ?_)
          · have hs : q_bl σ (23 + k.toNatClampNeg) aa bb w = -4 := by rw [q_bl, if_pos (Or.inl h90)]
            refine q_bipush (x := (-4)) dX7_bladder_101 (by decide) ?_
            refine q_ret dX7_bladder_103 ?_ rfl rfl
            exact ⟨congrArg some (by rw [if_pos (by simp only [h5, h13, h21, h31]; rfl), ← eaa, ← ebb]; exact hs.symm), rfl, rfl⟩
          · refine q_iload dX7_bladder_93 rfl ?_
            refine q_sipush (x := 9999) dX7_bladder_95 (by decide) ?_
            refine q_cle 104 dX7_bladder_98 (by decide) (fun h98 => ?_) (fun h98 => ?_)
            · have hn1 : ¬ ((9999 : Int32).toInt < aa.toInt ∨ (9999 : Int32).toInt < bb.toInt) := by omega
              refine q_iload dX7_bladder_104 rfl ?_
              refine q_iconst (x := 1) dX7_bladder_106 (by decide) ?_
              refine q_icmp_ne 113 dX7_bladder_107 (by decide) (fun h107 => ?_) (fun h107 => ?_)
              · refine q_iload dX7_bladder_113 rfl ?_
                refine q_iload dX7_bladder_115 rfl ?_
                refine q_icmp_ne 122 dX7_bladder_117 (by decide) (fun h117 => ?_) (fun h117 => ?_)
                · refine q_aload dX7_bladder_122 rfl ?_
                  refine q_get fX7_133 dX7_bladder_124 (by first | rfl | assumption) (by rfl) ?_
                  refine q_if_ne 135 dX7_bladder_127 (by decide) (fun h127 => ?_) (fun h127 => ?_)
                  · have hs : q_bl σ (23 + k.toNatClampNeg) aa bb w = q_du (q_abs (bb - aa)) (σ (23 + k.toNatClampNeg) 3) := by rw [q_bl, if_neg hn1, if_neg h107, if_neg h117, if_neg h127]
                    refine q_iload dX7_bladder_135 rfl ?_
                    refine q_iload dX7_bladder_137 rfl ?_
                    refine q_isub dX7_bladder_139 ?_
                    refine q_cSi lX7_207 sJ9_abs_0f7a4 dX7_bladder_140 kabs rfl rfl (Nat.le_of_ble_eq_true rfl) (by decide) ?_
                    refine q_aload dX7_bladder_143 rfl ?_
                    refine q_get fX7_133 dX7_bladder_145 (by first | rfl | assumption) (by rfl) ?_
                    refine q_cSi lX7_283 sX7_divideUp dX7_bladder_148 kX7_divideUp rfl rfl (Nat.le_of_ble_eq_true rfl) (by decide) ?_
                    refine q_ret dX7_bladder_151 ?_ rfl rfl
                    exact ⟨congrArg some (by rw [if_pos (by simp only [h5, h13, h21, h31]; rfl), ← eaa, ← ebb]; exact hs.symm), rfl, rfl⟩
                  · have hs : q_bl σ (23 + k.toNatClampNeg) aa bb w = -4 := by rw [q_bl, if_neg hn1, if_neg h107, if_neg h117, if_pos h127]
                    refine q_bipush (x := (-4)) dX7_bladder_130 (by decide) ?_
                    refine q_goto 151 dX7_bladder_132 (by decide) ?_
                    refine q_ret dX7_bladder_151 ?_ rfl rfl
                    exact ⟨congrArg some (by rw [if_pos (by simp only [h5, h13, h21, h31]; rfl), ← eaa, ← ebb]; exact hs.symm), rfl, rfl⟩
                · have hs : q_bl σ (23 + k.toNatClampNeg) aa bb w = 0 := by rw [q_bl, if_neg hn1, if_neg h107, if_pos h117]
                  refine q_iconst (x := 0) dX7_bladder_120 (by decide) ?_
                  refine q_ret dX7_bladder_121 ?_ rfl rfl
                  exact ⟨congrArg some (by rw [if_pos (by simp only [h5, h13, h21, h31]; rfl), ← eaa, ← ebb]; exact hs.symm), rfl, rfl⟩
              · have hs : q_bl σ (23 + k.toNatClampNeg) aa bb w = bb := by rw [q_bl, if_neg hn1, if_pos h107]
                refine q_iload dX7_bladder_110 rfl ?_
                refine q_ret dX7_bladder_112 ?_ rfl rfl
                exact ⟨congrArg some (by rw [if_pos (by simp only [h5, h13, h21, h31]; rfl), ← eaa, ← ebb]; exact hs.symm), rfl, rfl⟩
            · have hs : q_bl σ (23 + k.toNatClampNeg) aa bb w = -4 := by rw [q_bl, if_pos (Or.inr h98)]
              refine q_bipush (x := (-4)) dX7_bladder_101 (by decide) ?_
              refine q_ret dX7_bladder_103 ?_ rfl rfl
              exact ⟨congrArg some (by rw [if_pos (by simp only [h5, h13, h21, h31]; rfl), ← eaa, ← ebb]; exact hs.symm), rfl, rfl⟩
        · refine q_iconst (x := (-1)) dX7_bladder_34 (by decide) ?_
          refine q_ret dX7_bladder_35 ?_ rfl rfl
          try clear hN
          try clear hH
          exact ⟨congrArg some (by simp [*]), rfl, rfl⟩

def q_bt (b en gn w fl : Int32) : Int32 := if fl.toInt ≤ b.toInt ∨ (9999 : Int32).toInt < en.toInt then -4 else if w = 0 then q_du (q_max 0 (en - b)) gn + 2 else q_min 9999 (b + q_du (q_max 0 (en - b)) gn * gn)

set_option maxHeartbeats 1000000 in
set_option maxRecDepth 100000 in
theorem kX7_beats {σ : q_M} {N : Nat} (hN : σ 17 2 = nI N) (h6 : N ≤ 6) {k b gn w : Int32} : q_Ct YX7_beats [.ref 0, .int k, .int b, .int gn, .int w] q_SH σ (q_is (some (if q_win k 0 (σ 17 2 - 1) && q_win b 0 9999 && q_win gn 1 99 && q_win w 0 1 then q_bt b (q_ff σ (σ (23 + k.toNatClampNeg) 0 + 1) (σ 15 0) 0) gn w (q_ff σ (σ (23 + k.toNatClampNeg) 0) 0 0) else -1)) q_SH σ) := by
  refine q_ct (n := 3) (by decide) (by decide) rfl (fun _ => Nat.le_of_ble_eq_true rfl) (fun E => ?_)
  refine q_aload_n dX7_beats_0 rfl ?_
  refine q_iload_n dX7_beats_1 rfl ?_
  refine q_cVi lX7_116 vX7_isDiver (ci := 7) rfl dX7_beats_2 kX7_isDiver (by first | rfl | assumption) rfl rfl (Nat.le_of_ble_eq_true rfl) (by decide) ?_
  refine q_beq 39 dX7_beats_5 (by decide) (fun h5 => ?_) (fun h5 => ?_)
  · refine q_iconst (x := (-1)) dX7_beats_39 (by decide) ?_
    refine q_ret dX7_beats_40 ?_ rfl rfl
    try clear hN
    try clear hH
    exact ⟨congrArg some (by simp [*]), rfl, rfl⟩
  · refine q_iload_n dX7_beats_8 rfl ?_
    refine q_iconst (x := 0) dX7_beats_9 (by decide) ?_
    refine q_sipush (x := 9999) dX7_beats_10 (by decide) ?_
    refine q_cSi lX7_77 sX7_within dX7_beats_13 kX7_within rfl rfl (Nat.le_of_ble_eq_true rfl) (by decide) ?_
    refine q_beq 39 dX7_beats_16 (by decide) (fun h16 => ?_) (fun h16 => ?_)
    · refine q_iconst (x := (-1)) dX7_beats_39 (by decide) ?_
      refine q_ret dX7_beats_40 ?_ rfl rfl
      try clear hN
      try clear hH
      exact ⟨congrArg some (by simp [*]), rfl, rfl⟩
    · refine q_iload_n dX7_beats_19 rfl ?_
      refine q_iconst (x := 1) dX7_beats_20 (by decide) ?_
      refine q_bipush (x := 99) dX7_beats_21 (by decide) ?_
      refine q_cSi lX7_77 sX7_within dX7_beats_23 kX7_within rfl rfl (Nat.le_of_ble_eq_true rfl) (by decide) ?_
      refine q_beq 39 dX7_beats_26 (by decide) (fun h26 => ?_) (fun h26 => ?_)
      · refine q_iconst (x := (-1)) dX7_beats_39 (by decide) ?_
        refine q_ret dX7_beats_40 ?_ rfl rfl
        try clear hN
        try clear hH
        exact ⟨congrArg some (by simp [*]), rfl, rfl⟩
      · refine q_iload dX7_beats_29 rfl ?_
        refine q_iconst (x := 0) dX7_beats_31 (by decide) ?_
        refine q_iconst (x := 1) dX7_beats_32 (by decide) ?_
        refine q_cSi lX7_77 sX7_within dX7_beats_33 kX7_within rfl rfl (Nat.le_of_ble_eq_true rfl) (by decide) ?_
        refine q_bne 41 dX7_beats_36 (by decide) (fun h36 => ?_) (fun h36 => ?_)
        · obtain ⟨hk, hj⟩ := q_dvi hN h6 h5
          have hd := q_SH_dv (j := k.toNatClampNeg) (by omega)
          refine q_aload_n dX7_beats_41 rfl ?_
          refine q_getr fX7_26 dX7_beats_42 (by first | rfl | assumption) (by rfl) ?_
          refine q_getr fX7_121 dX7_beats_45 (by first | rfl | assumption) (by rfl) ?_
          refine q_iload_n dX7_beats_48 rfl ?_
          refine q_ald k.toNatClampNeg (by first | rfl | assumption) hk (by omega) (q_ra_at (by omega)) ⟨by decide, by decide⟩ dX7_beats_49 ?_
          refine q_get fX7_122 dX7_beats_50 (by first | rfl | assumption) (by rfl) ?_
          refine q_topi (fun hv ehv => ?_)
          refine q_istore dX7_beats_53 (by decide) rfl ?_
          refine q_aload_n dX7_beats_55 rfl ?_
          refine q_iload dX7_beats_56 rfl ?_
          refine q_aload_n dX7_beats_58 rfl ?_
          refine q_getr fX7_19 dX7_beats_59 (by first | rfl | assumption) (by rfl) ?_
          refine q_getr fX7_62 dX7_beats_62 (by first | rfl | assumption) (by rfl) ?_
          refine q_iconst (x := 0) dX7_beats_65 (by decide) ?_
          refine q_ild 0 (by first | rfl | assumption) rfl (by decide) dX7_beats_66 ?_
          refine q_cVi lX7_286 vX7_risesFrom (ci := 7) rfl dX7_beats_67 kX7_risesFrom (by first | rfl | assumption) rfl rfl (Nat.le_of_ble_eq_true rfl) (by decide) ?_
          refine q_topi (fun en een => ?_)
          refine q_istore dX7_beats_70 (by decide) rfl ?_
          refine q_iload_n dX7_beats_72 rfl ?_
          refine q_aload_n dX7_beats_73 rfl ?_
          refine q_iload dX7_beats_74 rfl ?_
          refine q_iconst (x := 0) dX7_beats_76 (by decide) ?_
          refine q_iconst (x := 0) dX7_beats_77 (by decide) ?_
          refine q_cVi lX7_225 vX7_floatsFrom (ci := 7) rfl dX7_beats_78 kX7_floatsFrom (by first | rfl | assumption) rfl rfl (Nat.le_of_ble_eq_true rfl) (by decide) ?_
          refine q_topi (fun fl efl => ?_)
          refine q_cge 92 dX7_beats_81 (by decide) (fun h81 => ?_) (fun h81 => ?_)
          · have hs : q_bt b en gn w fl = -4 := by rw [q_bt, if_pos (Or.inl h81)]
            refine q_bipush (x := (-4)) dX7_beats_92 (by decide) ?_
            refine q_ret dX7_beats_94 ?_ rfl rfl
            exact ⟨congrArg some (by rw [if_pos (by simp only [h5, h16, h26, h36]; rfl), ← ehv, ← een, ← efl]; exact hs.symm), rfl, rfl⟩
          · refine q_iload dX7_beats_84 rfl ?_
            refine q_sipush (x := 9999) dX7_beats_86 (by decide) ?_
            refine q_cle 95 dX7_beats_89 (by decide) (fun h89 => ?_) (fun h89 => ?_)
            · have hn1 : ¬ (fl.toInt ≤ b.toInt ∨ (9999 : Int32).toInt < en.toInt) := by omega
              refine q_iconst (x := 0) dX7_beats_95 (by decide) ?_
              refine q_iload dX7_beats_96 rfl ?_
              refine q_iload_n dX7_beats_98 rfl ?_
              refine q_isub dX7_beats_99 ?_
              refine q_cSi lX7_280 sJ9_max_7cf53 dX7_beats_100 kmax rfl rfl (Nat.le_of_ble_eq_true rfl) (by decide) ?_
              refine q_iload_n dX7_beats_103 rfl ?_
              refine q_cSi lX7_283 sX7_divideUp dX7_beats_104 kX7_divideUp rfl rfl (Nat.le_of_ble_eq_true rfl) (by decide) ?_
              refine q_topi (fun gs egs => ?_)
              refine q_istore dX7_beats_107 (by decide) rfl ?_
              refine q_iload dX7_beats_109 rfl ?_
              refine q_if_ne 121 dX7_beats_111 (by decide) (fun h111 => ?_) (fun h111 => ?_)
              · have hs : q_bt b en gn w fl = q_min 9999 (b + gs * gn) := by rw [q_bt, if_neg hn1, if_neg h111, egs]
                refine q_sipush (x := 9999) dX7_beats_121 (by decide) ?_
                refine q_iload_n dX7_beats_124 rfl ?_
                refine q_iload dX7_beats_125 rfl ?_
                refine q_iload_n dX7_beats_127 rfl ?_
                refine q_imul dX7_beats_128 ?_
                refine q_iadd dX7_beats_129 ?_
                refine q_cSi lX7_216 sJ9_min_7cf53 dX7_beats_130 kmin rfl rfl (Nat.le_of_ble_eq_true rfl) (by decide) ?_
                refine q_ret dX7_beats_133 ?_ rfl rfl
                exact ⟨congrArg some (by rw [if_pos (by simp only [h5, h16, h26, h36]; rfl), ← ehv, ← een, ← efl]; exact hs.symm), rfl, rfl⟩
              · have hs : q_bt b en gn w fl = gs + 2 := by rw [q_bt, if_neg hn1, if_pos h111, egs]
                refine q_iload dX7_beats_114 rfl ?_
                refine q_iconst (x := 2) dX7_beats_116 (by decide) ?_
                refine q_iadd dX7_beats_117 ?_
                refine q_goto 133 dX7_beats_118 (by decide) ?_
                refine q_ret dX7_beats_133 ?_ rfl rfl
                exact ⟨congrArg some (by rw [if_pos (by simp only [h5, h16, h26, h36]; rfl), ← ehv, ← een, ← efl]; exact hs.symm), rfl, rfl⟩
            · have hs : q_bt b en gn w fl = -4 := by rw [q_bt, if_pos (Or.inr h89)]
              refine q_bipush (x := (-4)) dX7_beats_92 (by decide) ?_
              refine q_ret dX7_beats_94 ?_ rfl rfl
              exact ⟨congrArg some (by rw [if_pos (by simp only [h5, h16, h26, h36]; rfl), ← ehv, ← een, ← efl]; exact hs.symm), rfl, rfl⟩
        · refine q_iconst (x := (-1)) dX7_beats_39 (by decide) ?_
          refine q_ret dX7_beats_40 ?_ rfl rfl
          try clear hN
          try clear hH
          exact ⟨congrArg some (by simp [*]), rfl, rfl⟩

set_option maxHeartbeats 1000000 in
set_option maxRecDepth 100000 in
theorem kX7_sawB {σ : q_M} {t d b : Int32} (hbad : (q_win t 0 500 && q_win d 0 (σ 15 0)) = false) : q_Ct YX7_saw [.ref 0, .int t, .int d, .int b] q_SH σ (q_is (some (-1)) q_SH σ) := by
  refine q_ct (n := 0) (by decide) (by decide) rfl (fun _ => Nat.le_of_ble_eq_true rfl) (fun E => ?_)
  refine q_iload_n dX7_saw_0 rfl ?_
  refine q_cSi lX7_164 sX7_isThumb dX7_saw_1 kX7_isThumb rfl rfl (Nat.le_of_ble_eq_true rfl) (by decide) ?_
  refine q_beq 15 dX7_saw_4 (by decide) (fun h4 => ?_) (fun h4 => ?_)
  · refine q_iconst (x := (-1)) dX7_saw_15 (by decide) ?_
    refine q_ret dX7_saw_16 ?_ rfl rfl
    exact ⟨rfl, rfl, rfl⟩
  · refine q_aload_n dX7_saw_7 rfl ?_
    refine q_iload_n dX7_saw_8 rfl ?_
    refine q_cVi lX7_188 vX7_isDepth (ci := 7) rfl dX7_saw_9 kX7_isDepth (by first | rfl | assumption) rfl rfl (Nat.le_of_ble_eq_true rfl) (by decide) ?_
    refine q_bne 17 dX7_saw_12 (by decide) (fun h12 => ?_) (fun h12 => ?_)
    · exact absurd hbad (by simp [*])
    · refine q_iconst (x := (-1)) dX7_saw_15 (by decide) ?_
      refine q_ret dX7_saw_16 ?_ rfl rfl
      exact ⟨rfl, rfl, rfl⟩

set_option maxHeartbeats 1000000 in
set_option maxRecDepth 100000 in
theorem kX7_saw {σ : q_M} {n : Nat} (hn : σ 19 3 = nI n) (hl : n < 12) {t d b : Int32} (ht : q_win t 0 500 = true) (hd : q_win d 0 (σ 15 0) = true) (hb : b = 0 ∨ b = 1) : q_Ct YX7_saw [.ref 0, .int t, .int d, .int b] q_SH σ (q_is (some (nI (n + 1))) q_SH (q_sn σ 19 20 21 22 n t d b)) := by
  refine q_ct (n := 0) (by decide) (by decide) rfl (fun _ => Nat.le_of_ble_eq_true rfl) (fun E => ?_)
  refine q_iload_n dX7_saw_0 rfl ?_
  refine q_cSi lX7_164 sX7_isThumb dX7_saw_1 kX7_isThumb rfl rfl (Nat.le_of_ble_eq_true rfl) (by decide) ?_
  refine q_beq 15 dX7_saw_4 (by decide) (fun h4 => ?_) (fun h4 => ?_)
  · exact absurd ht (by rw [h4]; decide)
  · refine q_aload_n dX7_saw_7 rfl ?_
    refine q_iload_n dX7_saw_8 rfl ?_
    refine q_cVi lX7_188 vX7_isDepth (ci := 7) rfl dX7_saw_9 kX7_isDepth (by first | rfl | assumption) rfl rfl (Nat.le_of_ble_eq_true rfl) (by decide) ?_
    refine q_bne 17 dX7_saw_12 (by decide) (fun h12 => ?_) (fun h12 => ?_)
    · refine q_aload_n dX7_saw_17 rfl ?_
      refine q_getr fX7_26 dX7_saw_18 (by first | rfl | assumption) (by rfl) ?_
      refine q_getr fX7_289 dX7_saw_21 (by first | rfl | assumption) (by rfl) ?_
      refine q_iload_n dX7_saw_24 rfl ?_
      refine q_iload_n dX7_saw_25 rfl ?_
      refine q_iload_n dX7_saw_26 rfl ?_
      refine q_cVi lX7_292 vX4_add (ci := 4) rfl dX7_saw_27 (kX4_add rfl rfl rfl rfl (by decide) (by decide) (by decide) hn hl hb) (by first | rfl | assumption) rfl rfl (Nat.le_of_ble_eq_true rfl) (by decide) ?_
      refine q_beq 46 dX7_saw_30 (by decide) (fun h30 => ?_) (fun h30 => ?_)
      · exact absurd h30 (by decide)
      · refine q_aload_n dX7_saw_33 rfl ?_
        refine q_getr fX7_26 dX7_saw_34 (by first | rfl | assumption) (by rfl) ?_
        refine q_getr fX7_289 dX7_saw_37 (by first | rfl | assumption) (by rfl) ?_
        refine q_get fX7_296 dX7_saw_40 (by first | rfl | assumption) (by rfl) ?_
        rw [show q_sn σ 19 20 21 22 n t d b 19 3 = nI (n + 1) from q_up_at _ _ _ _]
        refine q_goto 48 dX7_saw_43 (by decide) ?_
        refine q_ret dX7_saw_48 ?_ rfl rfl
        exact ⟨rfl, rfl, rfl⟩
    · exact absurd hd (by rw [h12]; decide)

set_option maxHeartbeats 1000000 in
set_option maxRecDepth 100000 in
theorem kX7_sawF {σ : q_M} (hn : σ 19 3 = nI 12) {t d b : Int32} (ht : q_win t 0 500 = true) (hd : q_win d 0 (σ 15 0) = true) : q_Ct YX7_saw [.ref 0, .int t, .int d, .int b] q_SH σ (q_is (some (-3)) q_SH σ) := by
  refine q_ct (n := 0) (by decide) (by decide) rfl (fun _ => Nat.le_of_ble_eq_true rfl) (fun E => ?_)
  refine q_iload_n dX7_saw_0 rfl ?_
  refine q_cSi lX7_164 sX7_isThumb dX7_saw_1 kX7_isThumb rfl rfl (Nat.le_of_ble_eq_true rfl) (by decide) ?_
  refine q_beq 15 dX7_saw_4 (by decide) (fun h4 => ?_) (fun h4 => ?_)
  · exact absurd ht (by rw [h4]; decide)
  · refine q_aload_n dX7_saw_7 rfl ?_
    refine q_iload_n dX7_saw_8 rfl ?_
    refine q_cVi lX7_188 vX7_isDepth (ci := 7) rfl dX7_saw_9 kX7_isDepth (by first | rfl | assumption) rfl rfl (Nat.le_of_ble_eq_true rfl) (by decide) ?_
    refine q_bne 17 dX7_saw_12 (by decide) (fun h12 => ?_) (fun h12 => ?_)
    · refine q_aload_n dX7_saw_17 rfl ?_
      refine q_getr fX7_26 dX7_saw_18 (by first | rfl | assumption) (by rfl) ?_
      refine q_getr fX7_289 dX7_saw_21 (by first | rfl | assumption) (by rfl) ?_
      refine q_iload_n dX7_saw_24 rfl ?_
      refine q_iload_n dX7_saw_25 rfl ?_
      refine q_iload_n dX7_saw_26 rfl ?_
      refine q_cVi lX7_292 vX4_add (ci := 4) rfl dX7_saw_27 (kX4_addF rfl rfl rfl rfl (by decide) (by decide) (by decide) hn rfl) (by first | rfl | assumption) rfl rfl (Nat.le_of_ble_eq_true rfl) (by decide) ?_
      refine q_beq 46 dX7_saw_30 (by decide) (fun h30 => ?_) (fun h30 => ?_)
      · refine q_bipush (x := (-3)) dX7_saw_46 (by decide) ?_
        refine q_ret dX7_saw_48 ?_ rfl rfl
        exact ⟨rfl, rfl, rfl⟩
      · exact absurd h30 (by decide)
    · exact absurd hd (by rw [h12]; decide)

set_option maxHeartbeats 1000000 in
set_option maxRecDepth 100000 in
theorem kX7_forget {σ : q_M}  : q_Ct YX7_forget [.ref 0] q_SH σ (q_is (some (σ 19 3)) q_SH (q_up σ 19 3 0)) := by
  refine q_ct (n := 1) (by decide) (by decide) rfl (fun _ => Nat.le_of_ble_eq_true rfl) (fun E => ?_)
  refine q_aload_n dX7_forget_0 rfl ?_
  refine q_getr fX7_26 dX7_forget_1 (by first | rfl | assumption) (by rfl) ?_
  refine q_getr fX7_289 dX7_forget_4 (by first | rfl | assumption) (by rfl) ?_
  refine q_get fX7_296 dX7_forget_7 (by first | rfl | assumption) (by rfl) ?_
  refine q_istore_n dX7_forget_10 (by decide) rfl ?_
  refine q_aload_n dX7_forget_11 rfl ?_
  refine q_getr fX7_26 dX7_forget_12 (by first | rfl | assumption) (by rfl) ?_
  refine q_getr fX7_289 dX7_forget_15 (by first | rfl | assumption) (by rfl) ?_
  refine q_iconst (x := 0) dX7_forget_18 (by decide) ?_
  refine q_put_i pX7_296 dX7_forget_19 (by first | rfl | assumption) (by rfl) rfl rfl ?_
  refine q_iload_n dX7_forget_22 rfl ?_
  refine q_ret dX7_forget_23 ?_ rfl rfl
  exact ⟨rfl, rfl, rfl⟩

def q_ft (σ : q_M) (hv : Int32) : Nat → Int32 × Int32
  | 0 => (0, 9999)
  | n + 1 => if q_t (σ 22 n) then ((q_ft σ hv n).1, q_min (q_ft σ hv n).2 (q_ff σ hv (σ 21 n) (σ 20 n) - 1)) else (q_max (q_ft σ hv n).1 (q_ff σ hv (σ 21 n) (σ 20 n)), (q_ft σ hv n).2)

set_option maxHeartbeats 1000000 in
set_option maxRecDepth 100000 in
theorem lpX7_fits {E : q_E} {σ : q_M} {N : Nat} (hN : σ 19 3 = nI N) (h12 : N ≤ 12) {hv w : Int32} : ∀ (n : Nat) (i : Nat) (a b : Int32), N + 1 ≤ i + n → i ≤ N → (a, b) = q_ft σ hv i → q_G YX7_fits E 0 0 37 [some (.ref 0), some (.int hv), some (.int w), some (.ref 19), some (.int a), some (.int b), some (.int (nI i)), none] [] q_SH σ (q_is (some (q_tell (q_ft σ hv N).1 (q_ft σ hv N).2 w)) q_SH σ) := by
  intro n
  induction n with
  | zero =>
    intro i a b hm h0 hab
    exact absurd hm (by omega)
  | succ n ih =>
    intro i a b hm h0 hab
    have hi := nI_toInt (n := i) (by omega)
    have hNt := nI_toInt (n := N) (by omega)
    refine q_iload dX7_fits_37 rfl ?_
    refine q_aload_n dX7_fits_39 rfl ?_
    refine q_get fX7_296 dX7_fits_40 (by first | rfl | assumption) (by rfl) ?_
    rw [hN]
    refine q_cge 106 dX7_fits_43 (by decide) (fun h43 => ?_) (fun h43 => ?_)
    · refine q_iload dX7_fits_106 rfl ?_
      refine q_iload dX7_fits_108 rfl ?_
      refine q_iload_n dX7_fits_110 rfl ?_
      refine q_cSi lX7_229 sX7_tellRange dX7_fits_111 kX7_tellRange rfl rfl (Nat.le_of_ble_eq_true rfl) (by decide) ?_
      refine q_ret dX7_fits_114 ?_ rfl rfl
      have e : i = N := by omega
      subst e
      exact ⟨congrArg some (by rw [← hab]), rfl, rfl⟩
    · refine q_aload_n dX7_fits_46 rfl ?_
      refine q_iload_n dX7_fits_47 rfl ?_
      refine q_aload_n dX7_fits_48 rfl ?_
      refine q_getr fX7_299 dX7_fits_49 (by first | rfl | assumption) (by rfl) ?_
      refine q_iload dX7_fits_52 rfl ?_
      refine q_ild i (by first | rfl | assumption) hi (by omega) dX7_fits_54 ?_
      refine q_aload_n dX7_fits_55 rfl ?_
      refine q_getr fX7_302 dX7_fits_56 (by first | rfl | assumption) (by rfl) ?_
      refine q_iload dX7_fits_59 rfl ?_
      refine q_ild i (by first | rfl | assumption) hi (by omega) dX7_fits_61 ?_
      refine q_cVi lX7_225 vX7_floatsFrom (ci := 7) rfl dX7_fits_62 kX7_floatsFrom (by first | rfl | assumption) rfl rfl (Nat.le_of_ble_eq_true rfl) (by decide) ?_
      refine q_topi (fun ed eed => ?_)
      refine q_istore dX7_fits_65 (by decide) rfl ?_
      refine q_aload_n dX7_fits_67 rfl ?_
      refine q_getr fX7_305 dX7_fits_68 (by first | rfl | assumption) (by rfl) ?_
      refine q_iload dX7_fits_71 rfl ?_
      refine q_zld i (by first | rfl | assumption) hi (by omega) dX7_fits_73 ?_
      refine q_if_eq 91 dX7_fits_74 (by decide) (fun h74 => ?_) (fun h74 => ?_)
      · have hs : q_ft σ hv (i + 1) = (q_max a ed, b) := by rw [q_ft, if_neg (by simp [q_t, h74]), ← hab, ← eed]
        refine q_iload dX7_fits_91 rfl ?_
        refine q_iload dX7_fits_93 rfl ?_
        refine q_cSi lX7_280 sJ9_max_7cf53 dX7_fits_95 kmax rfl rfl (Nat.le_of_ble_eq_true rfl) (by decide) ?_
        refine q_istore dX7_fits_98 (by decide) rfl ?_
        refine q_inc 1 dX7_fits_100 (by decide) rfl (by decide) rfl ?_
        refine q_goto 37 dX7_fits_103 (by decide) ?_
        rw [nI_1]
        refine q_lset 7 ?_
        exact ih (i + 1) _ _ (by omega) (by omega) hs.symm
      · have hs : q_ft σ hv (i + 1) = (a, q_min b (ed - 1)) := by rw [q_ft, if_pos (by simp [q_t, h74]), ← hab, ← eed]
        refine q_iload dX7_fits_77 rfl ?_
        refine q_iload dX7_fits_79 rfl ?_
        refine q_iconst (x := 1) dX7_fits_81 (by decide) ?_
        refine q_isub dX7_fits_82 ?_
        refine q_cSi lX7_216 sJ9_min_7cf53 dX7_fits_83 kmin rfl rfl (Nat.le_of_ble_eq_true rfl) (by decide) ?_
        refine q_istore dX7_fits_86 (by decide) rfl ?_
        refine q_goto 100 dX7_fits_88 (by decide) ?_
        refine q_inc 1 dX7_fits_100 (by decide) rfl (by decide) rfl ?_
        refine q_goto 37 dX7_fits_103 (by decide) ?_
        rw [nI_1]
        refine q_lset 7 ?_
        exact ih (i + 1) _ _ (by omega) (by omega) hs.symm

set_option maxHeartbeats 1000000 in
set_option maxRecDepth 100000 in
theorem kX7_fits {σ : q_M} {N : Nat} (hN : σ 19 3 = nI N) (h12 : N ≤ 12) {hv w : Int32} : q_Ct YX7_fits [.ref 0, .int hv, .int w] q_SH σ (q_is (some (if q_win hv 1 999 && q_win w 0 2 then q_tell (q_ft σ hv N).1 (q_ft σ hv N).2 w else -1)) q_SH σ) := by
  refine q_ct (n := 5) (by decide) (by decide) rfl (fun _ => Nat.le_of_ble_eq_true rfl) (fun E => ?_)
  refine q_iload_n dX7_fits_0 rfl ?_
  refine q_cSi lX7_219 sX7_isHeavy dX7_fits_1 kX7_isHeavy rfl rfl (Nat.le_of_ble_eq_true rfl) (by decide) ?_
  refine q_beq 16 dX7_fits_4 (by decide) (fun h4 => ?_) (fun h4 => ?_)
  · refine q_iconst (x := (-1)) dX7_fits_16 (by decide) ?_
    refine q_ret dX7_fits_17 ?_ rfl rfl
    try clear hN
    try clear hH
    exact ⟨congrArg some (by simp [*]), rfl, rfl⟩
  · refine q_iload_n dX7_fits_7 rfl ?_
    refine q_iconst (x := 0) dX7_fits_8 (by decide) ?_
    refine q_iconst (x := 2) dX7_fits_9 (by decide) ?_
    refine q_cSi lX7_77 sX7_within dX7_fits_10 kX7_within rfl rfl (Nat.le_of_ble_eq_true rfl) (by decide) ?_
    refine q_bne 18 dX7_fits_13 (by decide) (fun h13 => ?_) (fun h13 => ?_)
    · refine q_aload_n dX7_fits_18 rfl ?_
      refine q_getr fX7_26 dX7_fits_19 (by first | rfl | assumption) (by rfl) ?_
      refine q_getr fX7_289 dX7_fits_22 (by first | rfl | assumption) (by rfl) ?_
      refine q_astore_n dX7_fits_25 (by decide) rfl ?_
      refine q_iconst (x := 0) dX7_fits_26 (by decide) ?_
      refine q_istore dX7_fits_27 (by decide) rfl ?_
      refine q_sipush (x := 9999) dX7_fits_29 (by decide) ?_
      refine q_istore dX7_fits_32 (by decide) rfl ?_
      refine q_iconst (x := 0) dX7_fits_34 (by decide) ?_
      refine q_istore dX7_fits_35 (by decide) rfl ?_
      rw [h4, h13]
      exact lpX7_fits hN h12 (N + 1) 0 0 9999 (by omega) (by omega) rfl
    · refine q_iconst (x := (-1)) dX7_fits_16 (by decide) ?_
      refine q_ret dX7_fits_17 ?_ rfl rfl
      try clear hN
      try clear hH
      exact ⟨congrArg some (by simp [*]), rfl, rfl⟩

set_option maxHeartbeats 1000000 in
set_option maxRecDepth 100000 in
theorem lpX7_who {E : q_E} {σ : q_M} {N : Nat} (hN : σ 17 2 = nI N) (h6 : N ≤ 6) {M : Nat} (hM : σ 19 3 = nI M) (hm12 : M ≤ 12) : ∀ (n : Nat) (i : Nat) (b : Int32), N + 1 ≤ i + n → i ≤ N → b = q_bits (fun k => q_allb (q_cb σ (23 + k)) M) i → q_G YX7_who E 0 0 4 [some (.ref 0), some (.int b), some (.int (nI i))] [] q_SH σ (q_is (some (q_bits (fun k => q_allb (q_cb σ (23 + k)) M) N)) q_SH σ) := by
  intro n
  induction n with
  | zero =>
    intro i b hm h0 hb
    exact absurd hm (by omega)
  | succ n ih =>
    intro i b hm h0 hb
    have hi := nI_toInt (n := i) (by omega)
    have hNt := nI_toInt (n := N) (by omega)
    refine q_iload_n dX7_who_4 rfl ?_
    refine q_aload_n dX7_who_5 rfl ?_
    refine q_getr fX7_26 dX7_who_6 (by first | rfl | assumption) (by rfl) ?_
    refine q_get fX7_173 dX7_who_9 (by first | rfl | assumption) (by rfl) ?_
    rw [hN]
    refine q_cge 43 dX7_who_12 (by decide) (fun h12 => ?_) (fun h12 => ?_)
    · refine q_iload_n dX7_who_43 rfl ?_
      refine q_ret dX7_who_44 ?_ rfl rfl
      have e : i = N := by omega
      exact ⟨congrArg some (by rw [hb, e]), rfl, rfl⟩
    · refine q_aload_n dX7_who_15 rfl ?_
      refine q_aload_n dX7_who_16 rfl ?_
      refine q_getr fX7_26 dX7_who_17 (by first | rfl | assumption) (by rfl) ?_
      refine q_getr fX7_121 dX7_who_20 (by first | rfl | assumption) (by rfl) ?_
      refine q_iload_n dX7_who_23 rfl ?_
      refine q_ald i (by first | rfl | assumption) hi (by omega) (q_ra_at (by omega)) ⟨by decide, by decide⟩ dX7_who_24 ?_
      refine q_cVi lX7_308 vX7_canBe (ci := 7) rfl dX7_who_25 (kX7_canBe (q_SH_dv (by omega)) hM hm12) (by first | rfl | assumption) rfl rfl (Nat.le_of_ble_eq_true rfl) (by decide) ?_
      refine q_beq 37 dX7_who_28 (by decide) (fun h28 => ?_) (fun h28 => ?_)
      · refine q_inc 1 dX7_who_37 (by decide) rfl (by decide) rfl ?_
        refine q_goto 4 dX7_who_40 (by decide) ?_
        rw [nI_1]
        exact ih (i + 1) _ (by omega) (by omega) (by rw [q_bits, h28, hb]; rfl)
      · refine q_iload_n dX7_who_31 rfl ?_
        refine q_iconst (x := 1) dX7_who_32 (by decide) ?_
        refine q_iload_n dX7_who_33 rfl ?_
        refine q_ishl dX7_who_34 ?_
        refine q_ior dX7_who_35 ?_
        refine q_istore_n dX7_who_36 (by decide) rfl ?_
        refine q_inc 1 dX7_who_37 (by decide) rfl (by decide) rfl ?_
        refine q_goto 4 dX7_who_40 (by decide) ?_
        rw [nI_1]
        exact ih (i + 1) _ (by omega) (by omega) (by rw [q_bits, h28, hb]; rfl)

set_option maxHeartbeats 1000000 in
set_option maxRecDepth 100000 in
theorem kX7_who {σ : q_M} {N : Nat} (hN : σ 17 2 = nI N) (h6 : N ≤ 6) {M : Nat} (hM : σ 19 3 = nI M) (hm12 : M ≤ 12) : q_Ct YX7_who [.ref 0] q_SH σ (q_is (some (q_bits (fun k => q_allb (q_cb σ (23 + k)) M) N)) q_SH σ) := by
  refine q_ct (n := 2) (by decide) (by decide) rfl (fun _ => Nat.le_of_ble_eq_true rfl) (fun E => ?_)
  refine q_iconst (x := 0) dX7_who_0 (by decide) ?_
  refine q_istore_n dX7_who_1 (by decide) rfl ?_
  refine q_iconst (x := 0) dX7_who_2 (by decide) ?_
  refine q_istore_n dX7_who_3 (by decide) rfl ?_
  exact lpX7_who hN h6 hM hm12 (N + 1) 0 0 (by omega) (by omega) rfl

def q_hrs (σ : q_M) (d : Nat) : Nat → Bool × Int32 × Int32
  | 0 => (false, 0, 0)
  | n + 1 => (if q_lv σ d (σ 16 n) (q_hrs σ d n).1 then !(q_hrs σ d n).1 else (q_hrs σ d n).1, if (if q_lv σ d (σ 16 n) (q_hrs σ d n).1 then !(q_hrs σ d n).1 else (q_hrs σ d n).1) then (q_hrs σ d n).2.1 ||| (1 <<< (nI n &&& 31)) else (q_hrs σ d n).2.1, if q_lv σ d (σ 16 n) (q_hrs σ d n).1 then (q_hrs σ d n).2.2 + 1 else (q_hrs σ d n).2.2)

set_option maxHeartbeats 1000000 in
set_option maxRecDepth 100000 in
theorem lpX7_hours {E : q_E} {σ : q_M} {k w : Int32} {d : Nat} (hd : q_SH[d]? = some q_sD) : ∀ (n : Nat) (i : Nat) (dn : Bool) (bi mv : Int32), 24 + 1 ≤ i + n → i ≤ 24 → (dn, bi, mv) = q_hrs σ d i → q_G YX7_hours E 0 0 41 [some (.ref 0), some (.int k), some (.int w), some (.ref d), some (.int bi), some (.int mv), some (.int (q_b dn)), some (.int (nI i))] [] q_SH σ (q_is (some (if w = 0 then (q_hrs σ d 24).2.1 else (q_hrs σ d 24).2.2)) q_SH σ) := by
  intro n
  induction n with
  | zero =>
    intro i dn bi mv hm h0 hst
    exact absurd hm (by omega)
  | succ n ih =>
    intro i dn bi mv hm h0 hst
    have hi := nI_toInt (n := i) (by omega)
    have hc : (24 : Int32).toInt = 24 := rfl
    refine q_iload dX7_hours_41 rfl ?_
    refine q_bipush (x := 24) dX7_hours_43 (by decide) ?_
    refine q_cge 103 dX7_hours_45 (by decide) (fun h45 => ?_) (fun h45 => ?_)
    · refine q_iload_n dX7_hours_103 rfl ?_
      refine q_if_ne 112 dX7_hours_104 (by decide) (fun h104 => ?_) (fun h104 => ?_)
      · refine q_iload dX7_hours_112 rfl ?_
        refine q_ret dX7_hours_114 ?_ rfl rfl
        have e : i = 24 := by omega
        subst e
        exact ⟨congrArg some (by rw [← hst]; simp [*]), rfl, rfl⟩
      · refine q_iload dX7_hours_107 rfl ?_
        refine q_goto 114 dX7_hours_109 (by decide) ?_
        refine q_ret dX7_hours_114 ?_ rfl rfl
        have e : i = 24 := by omega
        subst e
        exact ⟨congrArg some (by rw [← hst]; simp [*]), rfl, rfl⟩
    · refine q_aload_n dX7_hours_48 rfl ?_
      refine q_aload_n dX7_hours_49 rfl ?_
      refine q_aload_n dX7_hours_50 rfl ?_
      refine q_getr fX7_19 dX7_hours_51 (by first | rfl | assumption) (by rfl) ?_
      refine q_getr fX7_113 dX7_hours_54 (by first | rfl | assumption) (by rfl) ?_
      refine q_iload dX7_hours_57 rfl ?_
      refine q_ild i (by first | rfl | assumption) hi (by omega) dX7_hours_59 ?_
      refine q_iload dX7_hours_60 rfl ?_
      refine q_cVi lX7_276 vX7_leavesAt (ci := 7) rfl dX7_hours_62 (kX7_leavesAt hd) (by first | rfl | assumption) rfl rfl (Nat.le_of_ble_eq_true rfl) (by decide) ?_
      refine q_beq 83 dX7_hours_65 (by decide) (fun h65 => ?_) (fun h65 => ?_)
      · have hs : q_hrs σ d (i + 1) = (dn, if dn then bi ||| (1 <<< (nI i &&& 31)) else bi, mv) := by rw [q_hrs, ← hst]; simp only [h65]; rfl
        refine q_iload dX7_hours_83 rfl ?_
        refine q_if_eq 97 dX7_hours_85 (by decide) (fun h85 => ?_) (fun h85 => ?_)
        · refine q_inc 1 dX7_hours_97 (by decide) rfl (by decide) rfl ?_
          refine q_goto 41 dX7_hours_100 (by decide) ?_
          cases dn
          all_goals first
            | exact absurd h70 (by decide)
            | exact absurd h85 (by decide)
            | (rw [nI_1]; exact ih (i + 1) true _ _ (by omega) (by omega) (by rw [hs]; rfl))
            | (rw [nI_1]; exact ih (i + 1) false _ _ (by omega) (by omega) (by rw [hs]; rfl))
        · refine q_iload dX7_hours_88 rfl ?_
          refine q_iconst (x := 1) dX7_hours_90 (by decide) ?_
          refine q_iload dX7_hours_91 rfl ?_
          refine q_ishl dX7_hours_93 ?_
          refine q_ior dX7_hours_94 ?_
          refine q_istore dX7_hours_95 (by decide) rfl ?_
          refine q_inc 1 dX7_hours_97 (by decide) rfl (by decide) rfl ?_
          refine q_goto 41 dX7_hours_100 (by decide) ?_
          cases dn
          all_goals first
            | exact absurd h70 (by decide)
            | exact absurd h85 (by decide)
            | (rw [nI_1]; exact ih (i + 1) true _ _ (by omega) (by omega) (by rw [hs]; rfl))
            | (rw [nI_1]; exact ih (i + 1) false _ _ (by omega) (by omega) (by rw [hs]; rfl))
      · have hs : q_hrs σ d (i + 1) = (!dn, if !dn then bi ||| (1 <<< (nI i &&& 31)) else bi, mv + 1) := by rw [q_hrs, ← hst]; simp only [h65]; rfl
        refine q_iload dX7_hours_68 rfl ?_
        refine q_if_ne 77 dX7_hours_70 (by decide) (fun h70 => ?_) (fun h70 => ?_)
        · refine q_iconst (x := 0) dX7_hours_77 (by decide) ?_
          refine q_istore dX7_hours_78 (by decide) rfl ?_
          refine q_inc 1 dX7_hours_80 (by decide) rfl (by decide) rfl ?_
          refine q_iload dX7_hours_83 rfl ?_
          refine q_if_eq 97 dX7_hours_85 (by decide) (fun h85 => ?_) (fun h85 => ?_)
          · refine q_inc 1 dX7_hours_97 (by decide) rfl (by decide) rfl ?_
            refine q_goto 41 dX7_hours_100 (by decide) ?_
            cases dn
            all_goals first
              | exact absurd h70 (by decide)
              | exact absurd h85 (by decide)
              | (rw [nI_1]; exact ih (i + 1) true _ _ (by omega) (by omega) (by rw [hs]; rfl))
              | (rw [nI_1]; exact ih (i + 1) false _ _ (by omega) (by omega) (by rw [hs]; rfl))
          · refine q_iload dX7_hours_88 rfl ?_
            refine q_iconst (x := 1) dX7_hours_90 (by decide) ?_
            refine q_iload dX7_hours_91 rfl ?_
            refine q_ishl dX7_hours_93 ?_
            refine q_ior dX7_hours_94 ?_
            refine q_istore dX7_hours_95 (by decide) rfl ?_
            refine q_inc 1 dX7_hours_97 (by decide) rfl (by decide) rfl ?_
            refine q_goto 41 dX7_hours_100 (by decide) ?_
            cases dn
            all_goals first
              | exact absurd h70 (by decide)
              | exact absurd h85 (by decide)
              | (rw [nI_1]; exact ih (i + 1) true _ _ (by omega) (by omega) (by rw [hs]; rfl))
              | (rw [nI_1]; exact ih (i + 1) false _ _ (by omega) (by omega) (by rw [hs]; rfl))
        · refine q_iconst (x := 1) dX7_hours_73 (by decide) ?_
          refine q_goto 78 dX7_hours_74 (by decide) ?_
          refine q_istore dX7_hours_78 (by decide) rfl ?_
          refine q_inc 1 dX7_hours_80 (by decide) rfl (by decide) rfl ?_
          refine q_iload dX7_hours_83 rfl ?_
          refine q_if_eq 97 dX7_hours_85 (by decide) (fun h85 => ?_) (fun h85 => ?_)
          · refine q_inc 1 dX7_hours_97 (by decide) rfl (by decide) rfl ?_
            refine q_goto 41 dX7_hours_100 (by decide) ?_
            cases dn
            all_goals first
              | exact absurd h70 (by decide)
              | exact absurd h85 (by decide)
              | (rw [nI_1]; exact ih (i + 1) true _ _ (by omega) (by omega) (by rw [hs]; rfl))
              | (rw [nI_1]; exact ih (i + 1) false _ _ (by omega) (by omega) (by rw [hs]; rfl))
          · refine q_iload dX7_hours_88 rfl ?_
            refine q_iconst (x := 1) dX7_hours_90 (by decide) ?_
            refine q_iload dX7_hours_91 rfl ?_
            refine q_ishl dX7_hours_93 ?_
            refine q_ior dX7_hours_94 ?_
            refine q_istore dX7_hours_95 (by decide) rfl ?_
            refine q_inc 1 dX7_hours_97 (by decide) rfl (by decide) rfl ?_
            refine q_goto 41 dX7_hours_100 (by decide) ?_
            cases dn
            all_goals first
              | exact absurd h70 (by decide)
              | exact absurd h85 (by decide)
              | (rw [nI_1]; exact ih (i + 1) true _ _ (by omega) (by omega) (by rw [hs]; rfl))
              | (rw [nI_1]; exact ih (i + 1) false _ _ (by omega) (by omega) (by rw [hs]; rfl))

set_option maxHeartbeats 1000000 in
set_option maxRecDepth 100000 in
theorem kX7_hours {σ : q_M} {N : Nat} (hN : σ 17 2 = nI N) (h6 : N ≤ 6) {k w : Int32} : q_Ct YX7_hours [.ref 0, .int k, .int w] q_SH σ (q_is (some (if q_win k 0 (σ 17 2 - 1) && q_win w 0 1 then (if w = 0 then (q_hrs σ (23 + k.toNatClampNeg) 24).2.1 else (q_hrs σ (23 + k.toNatClampNeg) 24).2.2) else -1)) q_SH σ) := by
  refine q_ct (n := 5) (by decide) (by decide) rfl (fun _ => Nat.le_of_ble_eq_true rfl) (fun E => ?_)
  refine q_aload_n dX7_hours_0 rfl ?_
  refine q_iload_n dX7_hours_1 rfl ?_
  refine q_cVi lX7_116 vX7_isDiver (ci := 7) rfl dX7_hours_2 kX7_isDiver (by first | rfl | assumption) rfl rfl (Nat.le_of_ble_eq_true rfl) (by decide) ?_
  refine q_beq 17 dX7_hours_5 (by decide) (fun h5 => ?_) (fun h5 => ?_)
  · refine q_iconst (x := (-1)) dX7_hours_17 (by decide) ?_
    refine q_ret dX7_hours_18 ?_ rfl rfl
    try clear hN
    try clear hH
    exact ⟨congrArg some (by simp [*]), rfl, rfl⟩
  · refine q_iload_n dX7_hours_8 rfl ?_
    refine q_iconst (x := 0) dX7_hours_9 (by decide) ?_
    refine q_iconst (x := 1) dX7_hours_10 (by decide) ?_
    refine q_cSi lX7_77 sX7_within dX7_hours_11 kX7_within rfl rfl (Nat.le_of_ble_eq_true rfl) (by decide) ?_
    refine q_bne 19 dX7_hours_14 (by decide) (fun h14 => ?_) (fun h14 => ?_)
    · obtain ⟨hk, hj⟩ := q_dvi hN h6 h5
      have hd := q_SH_dv (j := k.toNatClampNeg) (by omega)
      refine q_aload_n dX7_hours_19 rfl ?_
      refine q_getr fX7_26 dX7_hours_20 (by first | rfl | assumption) (by rfl) ?_
      refine q_getr fX7_121 dX7_hours_23 (by first | rfl | assumption) (by rfl) ?_
      refine q_iload_n dX7_hours_26 rfl ?_
      refine q_ald k.toNatClampNeg (by first | rfl | assumption) hk (by omega) (q_ra_at (by omega)) ⟨by decide, by decide⟩ dX7_hours_27 ?_
      refine q_astore_n dX7_hours_28 (by decide) rfl ?_
      refine q_iconst (x := 0) dX7_hours_29 (by decide) ?_
      refine q_istore dX7_hours_30 (by decide) rfl ?_
      refine q_iconst (x := 0) dX7_hours_32 (by decide) ?_
      refine q_istore dX7_hours_33 (by decide) rfl ?_
      refine q_iconst (x := 0) dX7_hours_35 (by decide) ?_
      refine q_istore dX7_hours_36 (by decide) rfl ?_
      refine q_iconst (x := 0) dX7_hours_38 (by decide) ?_
      refine q_istore dX7_hours_39 (by decide) rfl ?_
      rw [h5, h14]
      exact lpX7_hours hd 25 0 false 0 0 (by omega) (by omega) rfl
    · refine q_iconst (x := (-1)) dX7_hours_17 (by decide) ?_
      refine q_ret dX7_hours_18 ?_ rfl rfl
      try clear hN
      try clear hH
      exact ⟨congrArg some (by simp [*]), rfl, rfl⟩
