/-! the reference: names, numbers -/
theorem nI_p2 (n : Nat) : nI n + 2 = nI (n + 2) := nI_add n 2
theorem nI_p3 (n : Nat) : nI n + 3 = nI (n + 3) := nI_add n 3
theorem nI_p4 (n : Nat) : nI n + 4 = nI (n + 4) := nI_add n 4
theorem nI_p5 (n : Nat) : nI n + 5 = nI (n + 5) := nI_add n 5
def rm_is (c : Nat → Int32) (s e n : Nat) (a b d f : Int32) : Bool := decide (e = s + n) && (decide (c s = a) && (decide (c (s + 1) = b) && (decide (c (s + 2) = d) && (decide (n < 4) || decide (c (s + 3) = f)))))
section RMI
variable (c : Nat → Int32) (s e : Nat)
theorem rm_is_0 : (rm_is c s e 5 100 105 118 101 && decide (c (s + 4) = 114)) = sp_nm c s e 0 := by simp [rm_is, sp_nm, q_allb, q_strl, q_sby, Bool.and_assoc]
theorem rm_is_1 : rm_is c s e 4 108 101 97 107 = sp_nm c s e 1 := by simp [rm_is, sp_nm, q_allb, q_strl, q_sby, Bool.and_assoc]
theorem rm_is_2 : rm_is c s e 4 114 97 116 101 = sp_nm c s e 2 := by simp [rm_is, sp_nm, q_allb, q_strl, q_sby, Bool.and_assoc]
theorem rm_is_3 : rm_is c s e 4 104 111 111 107 = sp_nm c s e 3 := by simp [rm_is, sp_nm, q_allb, q_strl, q_sby, Bool.and_assoc]
theorem rm_is_4 : rm_is c s e 4 104 111 117 114 = sp_nm c s e 4 := by simp [rm_is, sp_nm, q_allb, q_strl, q_sby, Bool.and_assoc]
theorem rm_is_5 : (rm_is c s e 6 104 101 105 103 && (decide (c (s + 4) = 104) && decide (c (s + 5) = 116))) = sp_nm c s e 5 := by simp [rm_is, sp_nm, q_allb, q_strl, q_sby, Bool.and_assoc]
theorem rm_is_6 : rm_is c s e 3 97 105 114 0 = sp_nm c s e 6 := by simp [rm_is, sp_nm, q_allb, q_strl, q_sby, Bool.and_assoc]
theorem rm_is_7 : rm_is c s e 4 119 97 114 109 = sp_nm c s e 7 := by simp [rm_is, sp_nm, q_allb, q_strl, q_sby, Bool.and_assoc]
theorem rm_is_8 : rm_is c s e 4 100 114 97 103 = sp_nm c s e 8 := by simp [rm_is, sp_nm, q_allb, q_strl, q_sby, Bool.and_assoc]
theorem rm_is_9 : rm_is c s e 4 115 97 108 116 = sp_nm c s e 9 := by simp [rm_is, sp_nm, q_allb, q_strl, q_sby, Bool.and_assoc]
theorem rm_is_10 : rm_is c s e 4 114 105 110 103 = sp_nm c s e 10 := by simp [rm_is, sp_nm, q_allb, q_strl, q_sby, Bool.and_assoc]
end RMI
theorem rm_is_e {c : Nat → Int32} {s e n : Nat} {a b d f : Int32} (h : rm_is c s e n a b d f = true) : e = s + n := by
  unfold rm_is at h
  simp only [Bool.and_eq_true, decide_eq_true_eq] at h
  exact h.1
def rm_nn (c : Nat → Int32) (s e : Nat) : Int32 := if sp_nm c s e 5 = true then 0 else if sp_nm c s e 6 = true then 1 else if sp_nm c s e 7 = true then 2 else if sp_nm c s e 8 = true then 3 else if sp_nm c s e 9 = true then 4 else if sp_nm c s e 10 = true then 5 else if sp_nm c s e 4 = true then 6 else if sp_nm c s e 0 = true then 7 else -4
def rm_wn (c : Nat → Int32) (s e : Nat) : Int32 := if sp_nm c s e 1 = true then 10 else if sp_nm c s e 2 = true then 11 else if sp_nm c s e 3 = true then 12 else -4

set_option maxHeartbeats 1000000 in
set_option maxRecDepth 100000 in
theorem kX8_is {σ : q_M} {c : Nat → Int32} {L : Nat} (ht : rm_t σ c L) {s e : Nat} (hs : σ 72 12 = nI s) (he : σ 72 11 = nI e) (hse : s ≤ e) (heL : e ≤ L) {n : Nat} (hn3 : 3 ≤ n) (hn6 : n ≤ 6) {a b d f : Int32} (ha : 0 ≤ a.toInt ∧ a.toInt < 128) (hb : 0 ≤ b.toInt ∧ b.toInt < 128) (hd : 0 ≤ d.toInt ∧ d.toInt < 128) (hf : 0 ≤ f.toInt ∧ f.toInt < 128) : q_Ct YX8_is [.ref 72, .int (nI n), .int a, .int b, .int d, .int f] q_SH σ (q_is (some (q_b (rm_is c s e n a b d f))) q_SH σ) := by
  refine q_ct (n := 0) (by decide) (by decide) rfl (fun _ => Nat.le_of_ble_eq_true rfl) (fun E => ?_)
  have hL3 := ht.2.1
  have hnt := nI_toInt (n := n) (by omega)
  have e4 : (4 : Int32).toInt = 4 := rfl
  refine q_aload_n dX8_is_0 rfl ?_
  refine q_get fX8_85 dX8_is_1 (by first | rfl | assumption) (by rfl) ?_
  refine q_tope (y := nI e) he ?_
  refine q_aload_n dX8_is_4 rfl ?_
  refine q_get fX8_79 dX8_is_5 (by first | rfl | assumption) (by rfl) ?_
  refine q_tope (y := nI s) hs ?_
  refine q_isub dX8_is_8 ?_
  refine q_tope (y := nI (e - s)) (pk_sub hse) ?_
  refine q_iload_n dX8_is_9 rfl ?_
  refine q_icmp_ne 78 dX8_is_10 (by decide) (fun h10 => ?_) (fun h10 => ?_)
  · have g0 : ¬ e = s + n := fun z => h10 (congrArg nI (by omega))
    refine q_iconst (x := 0) dX8_is_78 (by decide) ?_
    refine q_ret0 dX8_is_79 ?_ rfl rfl
    exact ⟨congrArg some (congrArg q_b (by first | simp [rm_is, g0, g1, g2, g3, g4, g5] | simp [rm_is, g0, g1, g2, g3, g4] | simp [rm_is, g0, g1, g2, g3] | simp [rm_is, g0, g1, g2] | simp [rm_is, g0, g1] | simp [rm_is, g0])), rfl, rfl⟩
  · have g0 : e = s + n := by
      have := sp_eq (by omega) (by omega) h10
      omega
    refine q_aload_n dX8_is_13 rfl ?_
    refine q_aload_n dX8_is_14 rfl ?_
    refine q_get fX8_79 dX8_is_15 (by first | rfl | assumption) (by rfl) ?_
    refine q_tope (y := nI s) hs ?_
    refine q_cVi lX8_88 vX8_look (ci := 8) rfl dX8_is_18 (kX8_look (L := L) (i := s) (by first | exact ht.1 | rfl) ht.2.1 (by omega)) (by first | rfl | assumption) rfl rfl (Nat.le_of_ble_eq_true rfl) (by decide) ?_
    refine q_iload_n dX8_is_21 rfl ?_
    refine q_icmp_ne 78 dX8_is_22 (by decide) (fun h22 => ?_) (fun h22 => ?_)
    · have g1 : ¬ c (s) = a := fun z => h22 ((rm_lk_e ht _ ha.1 ha.2).mpr ⟨by omega, z⟩)
      refine q_iconst (x := 0) dX8_is_78 (by decide) ?_
      refine q_ret0 dX8_is_79 ?_ rfl rfl
      exact ⟨congrArg some (congrArg q_b (by first | simp [rm_is, g0, g1, g2, g3, g4, g5] | simp [rm_is, g0, g1, g2, g3, g4] | simp [rm_is, g0, g1, g2, g3] | simp [rm_is, g0, g1, g2] | simp [rm_is, g0, g1] | simp [rm_is, g0])), rfl, rfl⟩
    · have g1 : c (s) = a := ((rm_lk_e ht _ ha.1 ha.2).mp h22).2
      refine q_aload_n dX8_is_25 rfl ?_
      refine q_aload_n dX8_is_26 rfl ?_
      refine q_get fX8_79 dX8_is_27 (by first | rfl | assumption) (by rfl) ?_
      refine q_tope (y := nI s) hs ?_
      refine q_iconst (x := 1) dX8_is_30 (by decide) ?_
      refine q_iadd dX8_is_31 ?_
      refine q_tope (y := nI (s + 1)) (nI_1 _) ?_
      refine q_cVi lX8_88 vX8_look (ci := 8) rfl dX8_is_32 (kX8_look (L := L) (i := (s + 1)) (by first | exact ht.1 | rfl) ht.2.1 (by omega)) (by first | rfl | assumption) rfl rfl (Nat.le_of_ble_eq_true rfl) (by decide) ?_
      refine q_iload_n dX8_is_35 rfl ?_
      refine q_icmp_ne 78 dX8_is_36 (by decide) (fun h36 => ?_) (fun h36 => ?_)
      · have g2 : ¬ c (s + 1) = b := fun z => h36 ((rm_lk_e ht _ hb.1 hb.2).mpr ⟨by omega, z⟩)
        refine q_iconst (x := 0) dX8_is_78 (by decide) ?_
        refine q_ret0 dX8_is_79 ?_ rfl rfl
        exact ⟨congrArg some (congrArg q_b (by first | simp [rm_is, g0, g1, g2, g3, g4, g5] | simp [rm_is, g0, g1, g2, g3, g4] | simp [rm_is, g0, g1, g2, g3] | simp [rm_is, g0, g1, g2] | simp [rm_is, g0, g1] | simp [rm_is, g0])), rfl, rfl⟩
      · have g2 : c (s + 1) = b := ((rm_lk_e ht _ hb.1 hb.2).mp h36).2
        refine q_aload_n dX8_is_39 rfl ?_
        refine q_aload_n dX8_is_40 rfl ?_
        refine q_get fX8_79 dX8_is_41 (by first | rfl | assumption) (by rfl) ?_
        refine q_tope (y := nI s) hs ?_
        refine q_iconst (x := 2) dX8_is_44 (by decide) ?_
        refine q_iadd dX8_is_45 ?_
        refine q_tope (y := nI (s + 2)) (nI_p2 _) ?_
        refine q_cVi lX8_88 vX8_look (ci := 8) rfl dX8_is_46 (kX8_look (L := L) (i := (s + 2)) (by first | exact ht.1 | rfl) ht.2.1 (by omega)) (by first | rfl | assumption) rfl rfl (Nat.le_of_ble_eq_true rfl) (by decide) ?_
        refine q_iload dX8_is_49 rfl ?_
        refine q_icmp_ne 78 dX8_is_51 (by decide) (fun h51 => ?_) (fun h51 => ?_)
        · have g3 : ¬ c (s + 2) = d := fun z => h51 ((rm_lk_e ht _ hd.1 hd.2).mpr ⟨by omega, z⟩)
          refine q_iconst (x := 0) dX8_is_78 (by decide) ?_
          refine q_ret0 dX8_is_79 ?_ rfl rfl
          exact ⟨congrArg some (congrArg q_b (by first | simp [rm_is, g0, g1, g2, g3, g4, g5] | simp [rm_is, g0, g1, g2, g3, g4] | simp [rm_is, g0, g1, g2, g3] | simp [rm_is, g0, g1, g2] | simp [rm_is, g0, g1] | simp [rm_is, g0])), rfl, rfl⟩
        · have g3 : c (s + 2) = d := ((rm_lk_e ht _ hd.1 hd.2).mp h51).2
          refine q_iload_n dX8_is_54 rfl ?_
          refine q_iconst (x := 4) dX8_is_55 (by decide) ?_
          refine q_clt 74 dX8_is_56 (by decide) (fun h56 => ?_) (fun h56 => ?_)
          · have g4 : n < 4 := by omega
            refine q_iconst (x := 1) dX8_is_74 (by decide) ?_
            refine q_goto 79 dX8_is_75 (by decide) ?_
            refine q_ret1 dX8_is_79 ?_ rfl rfl
            exact ⟨congrArg some (congrArg q_b (by first | simp [rm_is, g0, g1, g2, g3, g4, g5] | simp [rm_is, g0, g1, g2, g3, g4] | simp [rm_is, g0, g1, g2, g3] | simp [rm_is, g0, g1, g2] | simp [rm_is, g0, g1] | simp [rm_is, g0])), rfl, rfl⟩
          · have g5 : ¬ n < 4 := by omega
            refine q_aload_n dX8_is_59 rfl ?_
            refine q_aload_n dX8_is_60 rfl ?_
            refine q_get fX8_79 dX8_is_61 (by first | rfl | assumption) (by rfl) ?_
            refine q_tope (y := nI s) hs ?_
            refine q_iconst (x := 3) dX8_is_64 (by decide) ?_
            refine q_iadd dX8_is_65 ?_
            refine q_tope (y := nI (s + 3)) (nI_p3 _) ?_
            refine q_cVi lX8_88 vX8_look (ci := 8) rfl dX8_is_66 (kX8_look (L := L) (i := (s + 3)) (by first | exact ht.1 | rfl) ht.2.1 (by omega)) (by first | rfl | assumption) rfl rfl (Nat.le_of_ble_eq_true rfl) (by decide) ?_
            refine q_iload dX8_is_69 rfl ?_
            refine q_icmp_ne 78 dX8_is_71 (by decide) (fun h71 => ?_) (fun h71 => ?_)
            · have g4 : ¬ c (s + 3) = f := fun z => h71 ((rm_lk_e ht _ hf.1 hf.2).mpr ⟨by omega, z⟩)
              refine q_iconst (x := 0) dX8_is_78 (by decide) ?_
              refine q_ret0 dX8_is_79 ?_ rfl rfl
              exact ⟨congrArg some (congrArg q_b (by first | simp [rm_is, g0, g1, g2, g3, g4, g5] | simp [rm_is, g0, g1, g2, g3, g4] | simp [rm_is, g0, g1, g2, g3] | simp [rm_is, g0, g1, g2] | simp [rm_is, g0, g1] | simp [rm_is, g0])), rfl, rfl⟩
            · have g4 : c (s + 3) = f := ((rm_lk_e ht _ hf.1 hf.2).mp h71).2
              refine q_iconst (x := 1) dX8_is_74 (by decide) ?_
              refine q_goto 79 dX8_is_75 (by decide) ?_
              refine q_ret1 dX8_is_79 ?_ rfl rfl
              exact ⟨congrArg some (congrArg q_b (by first | simp [rm_is, g0, g1, g2, g3, g4, g5] | simp [rm_is, g0, g1, g2, g3, g4] | simp [rm_is, g0, g1, g2, g3] | simp [rm_is, g0, g1, g2] | simp [rm_is, g0, g1] | simp [rm_is, g0])), rfl, rfl⟩

set_option maxHeartbeats 1000000 in
set_option maxRecDepth 100000 in
theorem sgX8_nn {E : q_E} {σ : q_M} {c : Nat → Int32} {L : Nat} (ht : rm_t σ c L) {s e : Nat} (hs : σ 72 12 = nI s) (he : σ 72 11 = nI e) (hse : s ≤ e) (heL : e ≤ L) (h5 : sp_nm c s e 5 = false) : q_G YX8_nameNow E 0 0 49 [some (.ref 72)] [] q_SH σ (q_is (some (rm_nn c s e)) q_SH σ) := by
  have hL3 := ht.2.1
  refine q_aload_n dX8_nameNow_49 rfl ?_
  refine q_iconst (x := 3) dX8_nameNow_50 (by decide) ?_
  refine q_bipush (x := 97) dX8_nameNow_51 (by decide) ?_
  refine q_bipush (x := 105) dX8_nameNow_53 (by decide) ?_
  refine q_bipush (x := 114) dX8_nameNow_55 (by decide) ?_
  refine q_iconst (x := 0) dX8_nameNow_57 (by decide) ?_
  refine q_cVi lX8_92 vX8_is (ci := 8) rfl dX8_nameNow_58 (kX8_is ht hs he hse heL (n := 3) (by decide) (by decide) (by decide) (by decide) (by decide) (by decide)) (by first | rfl | assumption) rfl rfl (Nat.le_of_ble_eq_true rfl) (by decide) ?_
  refine q_tope (y := q_b (sp_nm c s e 6)) (congrArg q_b (rm_is_6 c s e)) ?_
  refine q_beq 66 dX8_nameNow_61 (by decide) (fun h61 => ?_) (fun h61 => ?_)
  · refine q_aload_n dX8_nameNow_66 rfl ?_
    refine q_iconst (x := 4) dX8_nameNow_67 (by decide) ?_
    refine q_bipush (x := 119) dX8_nameNow_68 (by decide) ?_
    refine q_bipush (x := 97) dX8_nameNow_70 (by decide) ?_
    refine q_bipush (x := 114) dX8_nameNow_72 (by decide) ?_
    refine q_bipush (x := 109) dX8_nameNow_74 (by decide) ?_
    refine q_cVi lX8_92 vX8_is (ci := 8) rfl dX8_nameNow_76 (kX8_is ht hs he hse heL (n := 4) (by decide) (by decide) (by decide) (by decide) (by decide) (by decide)) (by first | rfl | assumption) rfl rfl (Nat.le_of_ble_eq_true rfl) (by decide) ?_
    refine q_tope (y := q_b (sp_nm c s e 7)) (congrArg q_b (rm_is_7 c s e)) ?_
    refine q_beq 84 dX8_nameNow_79 (by decide) (fun h79 => ?_) (fun h79 => ?_)
    · refine q_aload_n dX8_nameNow_84 rfl ?_
      refine q_iconst (x := 4) dX8_nameNow_85 (by decide) ?_
      refine q_bipush (x := 100) dX8_nameNow_86 (by decide) ?_
      refine q_bipush (x := 114) dX8_nameNow_88 (by decide) ?_
      refine q_bipush (x := 97) dX8_nameNow_90 (by decide) ?_
      refine q_bipush (x := 103) dX8_nameNow_92 (by decide) ?_
      refine q_cVi lX8_92 vX8_is (ci := 8) rfl dX8_nameNow_94 (kX8_is ht hs he hse heL (n := 4) (by decide) (by decide) (by decide) (by decide) (by decide) (by decide)) (by first | rfl | assumption) rfl rfl (Nat.le_of_ble_eq_true rfl) (by decide) ?_
      refine q_tope (y := q_b (sp_nm c s e 8)) (congrArg q_b (rm_is_8 c s e)) ?_
      refine q_beq 102 dX8_nameNow_97 (by decide) (fun h97 => ?_) (fun h97 => ?_)
      · refine q_aload_n dX8_nameNow_102 rfl ?_
        refine q_iconst (x := 4) dX8_nameNow_103 (by decide) ?_
        refine q_bipush (x := 115) dX8_nameNow_104 (by decide) ?_
        refine q_bipush (x := 97) dX8_nameNow_106 (by decide) ?_
        refine q_bipush (x := 108) dX8_nameNow_108 (by decide) ?_
        refine q_bipush (x := 116) dX8_nameNow_110 (by decide) ?_
        refine q_cVi lX8_92 vX8_is (ci := 8) rfl dX8_nameNow_112 (kX8_is ht hs he hse heL (n := 4) (by decide) (by decide) (by decide) (by decide) (by decide) (by decide)) (by first | rfl | assumption) rfl rfl (Nat.le_of_ble_eq_true rfl) (by decide) ?_
        refine q_tope (y := q_b (sp_nm c s e 9)) (congrArg q_b (rm_is_9 c s e)) ?_
        refine q_beq 120 dX8_nameNow_115 (by decide) (fun h115 => ?_) (fun h115 => ?_)
        · refine q_aload_n dX8_nameNow_120 rfl ?_
          refine q_iconst (x := 4) dX8_nameNow_121 (by decide) ?_
          refine q_bipush (x := 114) dX8_nameNow_122 (by decide) ?_
          refine q_bipush (x := 105) dX8_nameNow_124 (by decide) ?_
          refine q_bipush (x := 110) dX8_nameNow_126 (by decide) ?_
          refine q_bipush (x := 103) dX8_nameNow_128 (by decide) ?_
          refine q_cVi lX8_92 vX8_is (ci := 8) rfl dX8_nameNow_130 (kX8_is ht hs he hse heL (n := 4) (by decide) (by decide) (by decide) (by decide) (by decide) (by decide)) (by first | rfl | assumption) rfl rfl (Nat.le_of_ble_eq_true rfl) (by decide) ?_
          refine q_tope (y := q_b (sp_nm c s e 10)) (congrArg q_b (rm_is_10 c s e)) ?_
          refine q_beq 138 dX8_nameNow_133 (by decide) (fun h133 => ?_) (fun h133 => ?_)
          · refine q_aload_n dX8_nameNow_138 rfl ?_
            refine q_iconst (x := 4) dX8_nameNow_139 (by decide) ?_
            refine q_bipush (x := 104) dX8_nameNow_140 (by decide) ?_
            refine q_bipush (x := 111) dX8_nameNow_142 (by decide) ?_
            refine q_bipush (x := 117) dX8_nameNow_144 (by decide) ?_
            refine q_bipush (x := 114) dX8_nameNow_146 (by decide) ?_
            refine q_cVi lX8_92 vX8_is (ci := 8) rfl dX8_nameNow_148 (kX8_is ht hs he hse heL (n := 4) (by decide) (by decide) (by decide) (by decide) (by decide) (by decide)) (by first | rfl | assumption) rfl rfl (Nat.le_of_ble_eq_true rfl) (by decide) ?_
            refine q_tope (y := q_b (sp_nm c s e 4)) (congrArg q_b (rm_is_4 c s e)) ?_
            refine q_beq 157 dX8_nameNow_151 (by decide) (fun h151 => ?_) (fun h151 => ?_)
            · refine q_aload_n dX8_nameNow_157 rfl ?_
              refine q_iconst (x := 5) dX8_nameNow_158 (by decide) ?_
              refine q_bipush (x := 100) dX8_nameNow_159 (by decide) ?_
              refine q_bipush (x := 105) dX8_nameNow_161 (by decide) ?_
              refine q_bipush (x := 118) dX8_nameNow_163 (by decide) ?_
              refine q_bipush (x := 101) dX8_nameNow_165 (by decide) ?_
              refine q_cVi lX8_92 vX8_is (ci := 8) rfl dX8_nameNow_167 (kX8_is ht hs he hse heL (n := 5) (by decide) (by decide) (by decide) (by decide) (by decide) (by decide)) (by first | rfl | assumption) rfl rfl (Nat.le_of_ble_eq_true rfl) (by decide) ?_
              refine q_beq 193 dX8_nameNow_170 (by decide) (fun h170 => ?_) (fun h170 => ?_)
              · have hn0 : sp_nm c s e 0 = false := by rw [← rm_is_0, h170]; rfl
                refine q_bipush (x := (-4)) dX8_nameNow_193 (by decide) ?_
                refine q_ret dX8_nameNow_195 ?_ rfl rfl
                first
                  | exact ⟨congrArg some (by rw [rm_nn, if_neg (sp_nb h5), if_neg (sp_nb h61), if_neg (sp_nb h79), if_neg (sp_nb h97), if_neg (sp_nb h115), if_neg (sp_nb h133), if_neg (sp_nb h151), if_neg (sp_nb hn0)]), rfl, rfl⟩
                  | exact ⟨congrArg some (by rw [rm_nn, if_neg (sp_nb h5), if_neg (sp_nb h61), if_neg (sp_nb h79), if_neg (sp_nb h97), if_neg (sp_nb h115), if_neg (sp_nb h133), if_neg (sp_nb h151), if_pos hn1]), rfl, rfl⟩
              · have he5 := rm_is_e h170
                refine q_aload_n dX8_nameNow_173 rfl ?_
                refine q_aload_n dX8_nameNow_174 rfl ?_
                refine q_get fX8_79 dX8_nameNow_175 (by first | rfl | assumption) (by rfl) ?_
                refine q_tope (y := nI s) hs ?_
                refine q_iconst (x := 4) dX8_nameNow_178 (by decide) ?_
                refine q_iadd dX8_nameNow_179 ?_
                refine q_tope (y := nI (s + 4)) (nI_p4 _) ?_
                refine q_cVi lX8_88 vX8_look (ci := 8) rfl dX8_nameNow_180 (kX8_look (L := L) (i := (s + 4)) (by first | exact ht.1 | rfl) ht.2.1 (by omega)) (by first | rfl | assumption) rfl rfl (Nat.le_of_ble_eq_true rfl) (by decide) ?_
                refine q_bipush (x := 114) dX8_nameNow_183 (by decide) ?_
                refine q_icmp_ne 193 dX8_nameNow_185 (by decide) (fun h185 => ?_) (fun h185 => ?_)
                · have g1 : ¬ c (s + 4) = 114 := fun z => h185 ((rm_lk_e ht _ (by decide) (by decide)).mpr ⟨by omega, z⟩)
                  have hn0 : sp_nm c s e 0 = false := by rw [← rm_is_0, decide_eq_false g1, Bool.and_false]
                  refine q_bipush (x := (-4)) dX8_nameNow_193 (by decide) ?_
                  refine q_ret dX8_nameNow_195 ?_ rfl rfl
                  first
                    | exact ⟨congrArg some (by rw [rm_nn, if_neg (sp_nb h5), if_neg (sp_nb h61), if_neg (sp_nb h79), if_neg (sp_nb h97), if_neg (sp_nb h115), if_neg (sp_nb h133), if_neg (sp_nb h151), if_neg (sp_nb hn0)]), rfl, rfl⟩
                    | exact ⟨congrArg some (by rw [rm_nn, if_neg (sp_nb h5), if_neg (sp_nb h61), if_neg (sp_nb h79), if_neg (sp_nb h97), if_neg (sp_nb h115), if_neg (sp_nb h133), if_neg (sp_nb h151), if_pos hn1]), rfl, rfl⟩
                · have g1 : c (s + 4) = 114 := ((rm_lk_e ht _ (by decide) (by decide)).mp h185).2
                  have hn1 : sp_nm c s e 0 = true := by rw [← rm_is_0, decide_eq_true g1, h170]; rfl
                  refine q_bipush (x := 7) dX8_nameNow_188 (by decide) ?_
                  refine q_goto 195 dX8_nameNow_190 (by decide) ?_
                  refine q_ret dX8_nameNow_195 ?_ rfl rfl
                  first
                    | exact ⟨congrArg some (by rw [rm_nn, if_neg (sp_nb h5), if_neg (sp_nb h61), if_neg (sp_nb h79), if_neg (sp_nb h97), if_neg (sp_nb h115), if_neg (sp_nb h133), if_neg (sp_nb h151), if_neg (sp_nb hn0)]), rfl, rfl⟩
                    | exact ⟨congrArg some (by rw [rm_nn, if_neg (sp_nb h5), if_neg (sp_nb h61), if_neg (sp_nb h79), if_neg (sp_nb h97), if_neg (sp_nb h115), if_neg (sp_nb h133), if_neg (sp_nb h151), if_pos hn1]), rfl, rfl⟩
            · refine q_bipush (x := 6) dX8_nameNow_154 (by decide) ?_
              refine q_ret dX8_nameNow_156 ?_ rfl rfl
              exact ⟨congrArg some (by rw [rm_nn, if_neg (sp_nb h5), if_neg (sp_nb h61), if_neg (sp_nb h79), if_neg (sp_nb h97), if_neg (sp_nb h115), if_neg (sp_nb h133), if_pos h151]), rfl, rfl⟩
          · refine q_iconst (x := 5) dX8_nameNow_136 (by decide) ?_
            refine q_ret dX8_nameNow_137 ?_ rfl rfl
            exact ⟨congrArg some (by rw [rm_nn, if_neg (sp_nb h5), if_neg (sp_nb h61), if_neg (sp_nb h79), if_neg (sp_nb h97), if_neg (sp_nb h115), if_pos h133]), rfl, rfl⟩
        · refine q_iconst (x := 4) dX8_nameNow_118 (by decide) ?_
          refine q_ret dX8_nameNow_119 ?_ rfl rfl
          exact ⟨congrArg some (by rw [rm_nn, if_neg (sp_nb h5), if_neg (sp_nb h61), if_neg (sp_nb h79), if_neg (sp_nb h97), if_pos h115]), rfl, rfl⟩
      · refine q_iconst (x := 3) dX8_nameNow_100 (by decide) ?_
        refine q_ret dX8_nameNow_101 ?_ rfl rfl
        exact ⟨congrArg some (by rw [rm_nn, if_neg (sp_nb h5), if_neg (sp_nb h61), if_neg (sp_nb h79), if_pos h97]), rfl, rfl⟩
    · refine q_iconst (x := 2) dX8_nameNow_82 (by decide) ?_
      refine q_ret dX8_nameNow_83 ?_ rfl rfl
      exact ⟨congrArg some (by rw [rm_nn, if_neg (sp_nb h5), if_neg (sp_nb h61), if_pos h79]), rfl, rfl⟩
  · refine q_iconst (x := 1) dX8_nameNow_64 (by decide) ?_
    refine q_ret dX8_nameNow_65 ?_ rfl rfl
    exact ⟨congrArg some (by rw [rm_nn, if_neg (sp_nb h5), if_pos h61]), rfl, rfl⟩

set_option maxHeartbeats 1000000 in
set_option maxRecDepth 100000 in
theorem kX8_nameNow {σ : q_M} {c : Nat → Int32} {L : Nat} (ht : rm_t σ c L) {s e : Nat} (hs : σ 72 12 = nI s) (he : σ 72 11 = nI e) (hse : s ≤ e) (heL : e ≤ L) : q_Ct YX8_nameNow [.ref 72] q_SH σ (q_is (some (rm_nn c s e)) q_SH σ) := by
  refine q_ct (n := 0) (by decide) (by decide) rfl (fun _ => Nat.le_of_ble_eq_true rfl) (fun E => ?_)
  have hL3 := ht.2.1
  refine q_aload_n dX8_nameNow_0 rfl ?_
  refine q_bipush (x := 6) dX8_nameNow_1 (by decide) ?_
  refine q_bipush (x := 104) dX8_nameNow_3 (by decide) ?_
  refine q_bipush (x := 101) dX8_nameNow_5 (by decide) ?_
  refine q_bipush (x := 105) dX8_nameNow_7 (by decide) ?_
  refine q_bipush (x := 103) dX8_nameNow_9 (by decide) ?_
  refine q_cVi lX8_92 vX8_is (ci := 8) rfl dX8_nameNow_11 (kX8_is ht hs he hse heL (n := 6) (by decide) (by decide) (by decide) (by decide) (by decide) (by decide)) (by first | rfl | assumption) rfl rfl (Nat.le_of_ble_eq_true rfl) (by decide) ?_
  refine q_beq 49 dX8_nameNow_14 (by decide) (fun h14 => ?_) (fun h14 => ?_)
  · have n5 : sp_nm c s e 5 = false := by rw [← rm_is_5, h14]; rfl
    exact sgX8_nn ht hs he hse heL n5
  · have he6 := rm_is_e h14
    refine q_aload_n dX8_nameNow_17 rfl ?_
    refine q_aload_n dX8_nameNow_18 rfl ?_
    refine q_get fX8_79 dX8_nameNow_19 (by first | rfl | assumption) (by rfl) ?_
    refine q_tope (y := nI s) hs ?_
    refine q_iconst (x := 4) dX8_nameNow_22 (by decide) ?_
    refine q_iadd dX8_nameNow_23 ?_
    refine q_tope (y := nI (s + 4)) (nI_p4 _) ?_
    refine q_cVi lX8_88 vX8_look (ci := 8) rfl dX8_nameNow_24 (kX8_look (L := L) (i := (s + 4)) (by first | exact ht.1 | rfl) ht.2.1 (by omega)) (by first | rfl | assumption) rfl rfl (Nat.le_of_ble_eq_true rfl) (by decide) ?_
    refine q_bipush (x := 104) dX8_nameNow_27 (by decide) ?_
    refine q_icmp_ne 49 dX8_nameNow_29 (by decide) (fun h29 => ?_) (fun h29 => ?_)
    · have g1 : ¬ c (s + 4) = 104 := fun z => h29 ((rm_lk_e ht _ (by decide) (by decide)).mpr ⟨by omega, z⟩)
      have n5 : sp_nm c s e 5 = false := by rw [← rm_is_5, decide_eq_false g1, Bool.false_and, Bool.and_false]
      exact sgX8_nn ht hs he hse heL n5
    · have g1 : c (s + 4) = 104 := ((rm_lk_e ht _ (by decide) (by decide)).mp h29).2
      refine q_aload_n dX8_nameNow_32 rfl ?_
      refine q_aload_n dX8_nameNow_33 rfl ?_
      refine q_get fX8_79 dX8_nameNow_34 (by first | rfl | assumption) (by rfl) ?_
      refine q_tope (y := nI s) hs ?_
      refine q_iconst (x := 5) dX8_nameNow_37 (by decide) ?_
      refine q_iadd dX8_nameNow_38 ?_
      refine q_tope (y := nI (s + 5)) (nI_p5 _) ?_
      refine q_cVi lX8_88 vX8_look (ci := 8) rfl dX8_nameNow_39 (kX8_look (L := L) (i := (s + 5)) (by first | exact ht.1 | rfl) ht.2.1 (by omega)) (by first | rfl | assumption) rfl rfl (Nat.le_of_ble_eq_true rfl) (by decide) ?_
      refine q_bipush (x := 116) dX8_nameNow_42 (by decide) ?_
      refine q_icmp_ne 49 dX8_nameNow_44 (by decide) (fun h44 => ?_) (fun h44 => ?_)
      · have g2 : ¬ c (s + 5) = 116 := fun z => h44 ((rm_lk_e ht _ (by decide) (by decide)).mpr ⟨by omega, z⟩)
        have n5 : sp_nm c s e 5 = false := by rw [← rm_is_5, decide_eq_false g2, Bool.and_false, Bool.and_false]
        exact sgX8_nn ht hs he hse heL n5
      · have g2 : c (s + 5) = 116 := ((rm_lk_e ht _ (by decide) (by decide)).mp h44).2
        have n5 : sp_nm c s e 5 = true := by rw [← rm_is_5, decide_eq_true g1, decide_eq_true g2, h14]; rfl
        refine q_iconst (x := 0) dX8_nameNow_47 (by decide) ?_
        refine q_ret dX8_nameNow_48 ?_ rfl rfl
        exact ⟨congrArg some (if_pos n5).symm, rfl, rfl⟩

set_option maxHeartbeats 1000000 in
set_option maxRecDepth 100000 in
theorem kX8_withNow {σ : q_M} {c : Nat → Int32} {L : Nat} (ht : rm_t σ c L) {s e : Nat} (hs : σ 72 12 = nI s) (he : σ 72 11 = nI e) (hse : s ≤ e) (heL : e ≤ L) : q_Ct YX8_withNow [.ref 72] q_SH σ (q_is (some (rm_wn c s e)) q_SH σ) := by
  refine q_ct (n := 0) (by decide) (by decide) rfl (fun _ => Nat.le_of_ble_eq_true rfl) (fun E => ?_)
  refine q_aload_n dX8_withNow_0 rfl ?_
  refine q_iconst (x := 4) dX8_withNow_1 (by decide) ?_
  refine q_bipush (x := 108) dX8_withNow_2 (by decide) ?_
  refine q_bipush (x := 101) dX8_withNow_4 (by decide) ?_
  refine q_bipush (x := 97) dX8_withNow_6 (by decide) ?_
  refine q_bipush (x := 107) dX8_withNow_8 (by decide) ?_
  refine q_cVi lX8_92 vX8_is (ci := 8) rfl dX8_withNow_10 (kX8_is ht hs he hse heL (n := 4) (by decide) (by decide) (by decide) (by decide) (by decide) (by decide)) (by first | rfl | assumption) rfl rfl (Nat.le_of_ble_eq_true rfl) (by decide) ?_
  refine q_tope (y := q_b (sp_nm c s e 1)) (congrArg q_b (rm_is_1 c s e)) ?_
  refine q_beq 21 dX8_withNow_13 (by decide) (fun h13 => ?_) (fun h13 => ?_)
  · refine q_aload_n dX8_withNow_21 rfl ?_
    refine q_iconst (x := 4) dX8_withNow_22 (by decide) ?_
    refine q_bipush (x := 114) dX8_withNow_23 (by decide) ?_
    refine q_bipush (x := 97) dX8_withNow_25 (by decide) ?_
    refine q_bipush (x := 116) dX8_withNow_27 (by decide) ?_
    refine q_bipush (x := 101) dX8_withNow_29 (by decide) ?_
    refine q_cVi lX8_92 vX8_is (ci := 8) rfl dX8_withNow_31 (kX8_is ht hs he hse heL (n := 4) (by decide) (by decide) (by decide) (by decide) (by decide) (by decide)) (by first | rfl | assumption) rfl rfl (Nat.le_of_ble_eq_true rfl) (by decide) ?_
    refine q_tope (y := q_b (sp_nm c s e 2)) (congrArg q_b (rm_is_2 c s e)) ?_
    refine q_beq 42 dX8_withNow_34 (by decide) (fun h34 => ?_) (fun h34 => ?_)
    · refine q_aload_n dX8_withNow_42 rfl ?_
      refine q_iconst (x := 4) dX8_withNow_43 (by decide) ?_
      refine q_bipush (x := 104) dX8_withNow_44 (by decide) ?_
      refine q_bipush (x := 111) dX8_withNow_46 (by decide) ?_
      refine q_bipush (x := 111) dX8_withNow_48 (by decide) ?_
      refine q_bipush (x := 107) dX8_withNow_50 (by decide) ?_
      refine q_cVi lX8_92 vX8_is (ci := 8) rfl dX8_withNow_52 (kX8_is ht hs he hse heL (n := 4) (by decide) (by decide) (by decide) (by decide) (by decide) (by decide)) (by first | rfl | assumption) rfl rfl (Nat.le_of_ble_eq_true rfl) (by decide) ?_
      refine q_tope (y := q_b (sp_nm c s e 3)) (congrArg q_b (rm_is_3 c s e)) ?_
      refine q_beq 63 dX8_withNow_55 (by decide) (fun h55 => ?_) (fun h55 => ?_)
      · refine q_bipush (x := (-4)) dX8_withNow_63 (by decide) ?_
        refine q_ret dX8_withNow_65 ?_ rfl rfl
        first
          | exact ⟨congrArg some (by rw [rm_wn, if_pos h13]), rfl, rfl⟩
          | exact ⟨congrArg some (by rw [rm_wn, if_neg (sp_nb h13), if_pos h34]), rfl, rfl⟩
          | exact ⟨congrArg some (by rw [rm_wn, if_neg (sp_nb h13), if_neg (sp_nb h34), if_pos h55]), rfl, rfl⟩
          | exact ⟨congrArg some (by rw [rm_wn, if_neg (sp_nb h13), if_neg (sp_nb h34), if_neg (sp_nb h55)]), rfl, rfl⟩
      · refine q_bipush (x := 12) dX8_withNow_58 (by decide) ?_
        refine q_goto 65 dX8_withNow_60 (by decide) ?_
        refine q_ret dX8_withNow_65 ?_ rfl rfl
        first
          | exact ⟨congrArg some (by rw [rm_wn, if_pos h13]), rfl, rfl⟩
          | exact ⟨congrArg some (by rw [rm_wn, if_neg (sp_nb h13), if_pos h34]), rfl, rfl⟩
          | exact ⟨congrArg some (by rw [rm_wn, if_neg (sp_nb h13), if_neg (sp_nb h34), if_pos h55]), rfl, rfl⟩
          | exact ⟨congrArg some (by rw [rm_wn, if_neg (sp_nb h13), if_neg (sp_nb h34), if_neg (sp_nb h55)]), rfl, rfl⟩
    · refine q_bipush (x := 11) dX8_withNow_37 (by decide) ?_
      refine q_goto 65 dX8_withNow_39 (by decide) ?_
      refine q_ret dX8_withNow_65 ?_ rfl rfl
      first
        | exact ⟨congrArg some (by rw [rm_wn, if_pos h13]), rfl, rfl⟩
        | exact ⟨congrArg some (by rw [rm_wn, if_neg (sp_nb h13), if_pos h34]), rfl, rfl⟩
        | exact ⟨congrArg some (by rw [rm_wn, if_neg (sp_nb h13), if_neg (sp_nb h34), if_pos h55]), rfl, rfl⟩
        | exact ⟨congrArg some (by rw [rm_wn, if_neg (sp_nb h13), if_neg (sp_nb h34), if_neg (sp_nb h55)]), rfl, rfl⟩
  · refine q_bipush (x := 10) dX8_withNow_16 (by decide) ?_
    refine q_goto 65 dX8_withNow_18 (by decide) ?_
    refine q_ret dX8_withNow_65 ?_ rfl rfl
    first
      | exact ⟨congrArg some (by rw [rm_wn, if_pos h13]), rfl, rfl⟩
      | exact ⟨congrArg some (by rw [rm_wn, if_neg (sp_nb h13), if_pos h34]), rfl, rfl⟩
      | exact ⟨congrArg some (by rw [rm_wn, if_neg (sp_nb h13), if_neg (sp_nb h34), if_pos h55]), rfl, rfl⟩
      | exact ⟨congrArg some (by rw [rm_wn, if_neg (sp_nb h13), if_neg (sp_nb h34), if_neg (sp_nb h55)]), rfl, rfl⟩

def rm_in (σ : q_M) (lo hi : Int32) : q_M := if σ 72 15 = 0 then (if σ 72 13 = 2 then rm_nd σ (q_b (q_win (σ 72 14) lo hi)) 3 else rm_nd σ 0 2) else σ

set_option maxHeartbeats 1000000 in
set_option maxRecDepth 100000 in
theorem kX8_isNumber {σ : q_M} {lo hi : Int32} : q_Ct YX8_isNumber [.ref 72, .int lo, .int hi] q_SH σ (q_is none q_SH (rm_in σ lo hi)) := by
  refine q_ct (n := 0) (by decide) (by decide) rfl (fun _ => Nat.le_of_ble_eq_true rfl) (fun E => ?_)
  refine q_aload_n dX8_isNumber_0 rfl ?_
  refine q_get fX8_76 dX8_isNumber_1 (by first | rfl | assumption) (by rfl) ?_
  refine q_if_ne 25 dX8_isNumber_4 (by decide) (fun h4 => ?_) (fun h4 => ?_)
  · have hin : rm_in σ lo hi = σ := if_neg h4
    refine q_aload_n dX8_isNumber_25 rfl ?_
    refine q_get fX8_76 dX8_isNumber_26 (by first | rfl | assumption) (by rfl) ?_
    refine q_if_ne 49 dX8_isNumber_29 (by decide) (fun h29 => ?_) (fun h29 => ?_)
    · refine q_vret dX8_isNumber_49 ?_ rfl rfl
      first
        | exact ⟨rfl, rfl, hin.symm⟩
        | exact absurd h29 h4
        | exact absurd h4 h29
        | exact absurd (show (2 : Int32) = 0 from h29) (by decide)
    · refine q_aload_n dX8_isNumber_32 rfl ?_
      refine q_aload_n dX8_isNumber_33 rfl ?_
      refine q_get fX8_107 dX8_isNumber_34 (by first | rfl | assumption) (by rfl) ?_
      refine q_i2l dX8_isNumber_37 ?_
      refine q_iload_n dX8_isNumber_38 rfl ?_
      refine q_i2l dX8_isNumber_39 ?_
      refine q_iload_n dX8_isNumber_40 rfl ?_
      refine q_i2l dX8_isNumber_41 ?_
      refine q_cSi lX8_72 sX8_in dX8_isNumber_42 (kX8_in (x := (σ 72 14)) (lo := lo) (hi := hi) (Int32.toInt_toInt64 _) (Int32.toInt_toInt64 _) (Int32.toInt_toInt64 _)) rfl rfl (Nat.le_of_ble_eq_true rfl) (by decide) ?_
      refine q_iconst (x := 3) dX8_isNumber_45 (by decide) ?_
      refine q_cVv lX8_110 vX8_needs (ci := 8) rfl dX8_isNumber_46 kX8_needs (by first | rfl | assumption) rfl rfl (Nat.le_of_ble_eq_true rfl) (by decide) ?_
      refine q_vret dX8_isNumber_49 ?_ rfl rfl
      first
        | exact ⟨rfl, rfl, hin.symm⟩
        | exact absurd h29 h4
        | exact absurd h4 h29
        | exact absurd (show (2 : Int32) = 0 from h29) (by decide)
  · refine q_aload_n dX8_isNumber_7 rfl ?_
    refine q_aload_n dX8_isNumber_8 rfl ?_
    refine q_get fX8_96 dX8_isNumber_9 (by first | rfl | assumption) (by rfl) ?_
    refine q_iconst (x := 2) dX8_isNumber_12 (by decide) ?_
    refine q_icmp_ne 20 dX8_isNumber_13 (by decide) (fun h13 => ?_) (fun h13 => ?_)
    · refine q_iconst (x := 0) dX8_isNumber_20 (by decide) ?_
      refine q_iconst (x := 2) dX8_isNumber_21 (by decide) ?_
      refine q_cVv lX8_110 vX8_needs (ci := 8) rfl dX8_isNumber_22 kX8_needs (by first | rfl | assumption) rfl rfl (Nat.le_of_ble_eq_true rfl) (by decide) ?_
      first
        | (refine q_mem rm_nd_1 ?_
           have hin : rm_in σ lo hi = rm_nd σ (q_b (q_win (σ 72 14) lo hi)) 3 := by rw [rm_in, if_pos h4, if_pos h13])
        | (refine q_mem (rm_nd_f rfl h4) ?_
           have hin : rm_in σ lo hi = q_up (q_up σ 72 15 2) 72 16 (σ 72 12) := by rw [rm_in, if_pos h4, if_neg h13, rm_nd_f rfl h4])
      refine q_aload_n dX8_isNumber_25 rfl ?_
      refine q_get fX8_76 dX8_isNumber_26 (by first | rfl | assumption) (by rfl) ?_
      refine q_if_ne 49 dX8_isNumber_29 (by decide) (fun h29 => ?_) (fun h29 => ?_)
      · refine q_vret dX8_isNumber_49 ?_ rfl rfl
        first
          | exact ⟨rfl, rfl, hin.symm⟩
          | exact absurd h29 h4
          | exact absurd h4 h29
          | exact absurd (show (2 : Int32) = 0 from h29) (by decide)
      · refine q_aload_n dX8_isNumber_32 rfl ?_
        refine q_aload_n dX8_isNumber_33 rfl ?_
        refine q_get fX8_107 dX8_isNumber_34 (by first | rfl | assumption) (by rfl) ?_
        refine q_i2l dX8_isNumber_37 ?_
        refine q_iload_n dX8_isNumber_38 rfl ?_
        refine q_i2l dX8_isNumber_39 ?_
        refine q_iload_n dX8_isNumber_40 rfl ?_
        refine q_i2l dX8_isNumber_41 ?_
        refine q_cSi lX8_72 sX8_in dX8_isNumber_42 (kX8_in (x := (σ 72 14)) (lo := lo) (hi := hi) (Int32.toInt_toInt64 _) (Int32.toInt_toInt64 _) (Int32.toInt_toInt64 _)) rfl rfl (Nat.le_of_ble_eq_true rfl) (by decide) ?_
        refine q_iconst (x := 3) dX8_isNumber_45 (by decide) ?_
        refine q_cVv lX8_110 vX8_needs (ci := 8) rfl dX8_isNumber_46 kX8_needs (by first | rfl | assumption) rfl rfl (Nat.le_of_ble_eq_true rfl) (by decide) ?_
        refine q_vret dX8_isNumber_49 ?_ rfl rfl
        first
          | exact ⟨rfl, rfl, hin.symm⟩
          | exact absurd h29 h4
          | exact absurd h4 h29
          | exact absurd (show (2 : Int32) = 0 from h29) (by decide)
    · refine q_iconst (x := 1) dX8_isNumber_16 (by decide) ?_
      refine q_goto 21 dX8_isNumber_17 (by decide) ?_
      refine q_iconst (x := 2) dX8_isNumber_21 (by decide) ?_
      refine q_cVv lX8_110 vX8_needs (ci := 8) rfl dX8_isNumber_22 kX8_needs (by first | rfl | assumption) rfl rfl (Nat.le_of_ble_eq_true rfl) (by decide) ?_
      first
        | (refine q_mem rm_nd_1 ?_
           have hin : rm_in σ lo hi = rm_nd σ (q_b (q_win (σ 72 14) lo hi)) 3 := by rw [rm_in, if_pos h4, if_pos h13])
        | (refine q_mem (rm_nd_f rfl h4) ?_
           have hin : rm_in σ lo hi = q_up (q_up σ 72 15 2) 72 16 (σ 72 12) := by rw [rm_in, if_pos h4, if_neg h13, rm_nd_f rfl h4])
      refine q_aload_n dX8_isNumber_25 rfl ?_
      refine q_get fX8_76 dX8_isNumber_26 (by first | rfl | assumption) (by rfl) ?_
      refine q_if_ne 49 dX8_isNumber_29 (by decide) (fun h29 => ?_) (fun h29 => ?_)
      · refine q_vret dX8_isNumber_49 ?_ rfl rfl
        first
          | exact ⟨rfl, rfl, hin.symm⟩
          | exact absurd h29 h4
          | exact absurd h4 h29
          | exact absurd (show (2 : Int32) = 0 from h29) (by decide)
      · refine q_aload_n dX8_isNumber_32 rfl ?_
        refine q_aload_n dX8_isNumber_33 rfl ?_
        refine q_get fX8_107 dX8_isNumber_34 (by first | rfl | assumption) (by rfl) ?_
        refine q_i2l dX8_isNumber_37 ?_
        refine q_iload_n dX8_isNumber_38 rfl ?_
        refine q_i2l dX8_isNumber_39 ?_
        refine q_iload_n dX8_isNumber_40 rfl ?_
        refine q_i2l dX8_isNumber_41 ?_
        refine q_cSi lX8_72 sX8_in dX8_isNumber_42 (kX8_in (x := (σ 72 14)) (lo := lo) (hi := hi) (Int32.toInt_toInt64 _) (Int32.toInt_toInt64 _) (Int32.toInt_toInt64 _)) rfl rfl (Nat.le_of_ble_eq_true rfl) (by decide) ?_
        refine q_iconst (x := 3) dX8_isNumber_45 (by decide) ?_
        refine q_cVv lX8_110 vX8_needs (ci := 8) rfl dX8_isNumber_46 kX8_needs (by first | rfl | assumption) rfl rfl (Nat.le_of_ble_eq_true rfl) (by decide) ?_
        refine q_vret dX8_isNumber_49 ?_ rfl rfl
        first
          | exact ⟨rfl, rfl, hin.symm⟩
          | exact absurd h29 h4
          | exact absurd h4 h29
          | exact absurd (show (2 : Int32) = 0 from h29) (by decide)

theorem rm_in_F {σ : q_M} {lo hi : Int32} (h : ¬ σ 72 15 = 0) : rm_in σ lo hi = σ := if_neg h
theorem rm_in_fr (σ : q_M) (lo hi : Int32) : rm_f1 σ (rm_in σ lo hi) := by
  unfold rm_in
  repeat' split
  · exact rm_nd_fr _ _ _
  · exact rm_nd_fr _ _ _
  · exact rm_f1.rf σ
theorem rm_nd_v (σ : q_M) (g w : Int32) : rm_nd σ g w 72 14 = σ 72 14 := by
  unfold rm_nd
  split <;> rfl
theorem rm_in_v (σ : q_M) (lo hi : Int32) : rm_in σ lo hi 72 14 = σ 72 14 := by
  unfold rm_in
  repeat' split
  · exact rm_nd_v _ _ _
  · exact rm_nd_v _ _ _
  · rfl
/-- where the reference stands: a fault, or the token from p on looked at -/
def rm_Q (c : Nat → Int32) (L : Nat) (X : sp_F ⊕ Nat) (τ : q_M) : Prop := match X with
  | .inl w => rm_Fw w τ ∧ 1 ≤ w.1 ∧ w.1 ≤ 5
  | .inr p => rm_L c L p τ ∧ p ≤ L
theorem rm_Fw.pos {w : sp_F} {τ : q_M} (h : rm_Fw w τ) (h1 : 1 ≤ w.1) (h5 : w.1 ≤ 5) : 0 < (τ 72 15).toInt ∧ ¬ τ 72 15 = 0 := by
  rw [h.1]
  have e := nI_toInt (n := w.1) (by omega)
  refine ⟨by omega, fun z => ?_⟩
  have := congrArg Int32.toInt z
  have e0 : (0 : Int32).toInt = 0 := rfl
  omega
theorem sp_num_no {c : Nat → Int32} {L : Nat} {lo hi : Int32} {p : Nat} (h : sp_ok c L p = false) : sp_num c L lo hi p = .inl (1, sp_s c L p) := if_pos h
/-- isNumber at a token that is one -/
theorem rm_in_T {σ : q_M} {c : Nat → Int32} {L p : Nat} {lo hi : Int32} (hT : rm_T c L p σ) (hok : sp_ok c L p = true) : (∃ w, sp_num c L lo hi p = .inl w ∧ (rm_Fw w (rm_in σ lo hi) ∧ 1 ≤ w.1 ∧ w.1 ≤ 5)) ∨ (∃ y, sp_num c L lo hi p = .inr y ∧ y.2 = sp_e c L p ∧ y.1 = σ 72 14 ∧ rm_in σ lo hi = σ) := by
  obtain ⟨t1, t2, t3, t4, t5⟩ := hT
  have hdl := sp_d_le c L p
  unfold sp_num
  rw [if_neg (sp_nt hok)]
  by_cases hd : sp_d c L p = 2
  · rw [if_neg (by omega)]
    have h13 : σ 72 13 = 2 := by rw [t3, hd]; rfl
    rw [rm_in, if_pos t5, if_pos h13, ← t4 hd]
    cases hw : q_win (σ 72 14) lo hi with
    | true =>
      right
      exact ⟨_, if_pos rfl, rfl, rfl, rm_nd_n (Or.inl (by decide))⟩
    | false =>
      left
      refine ⟨_, if_neg (by decide), ?_, (Nat.le_of_ble_eq_true rfl), (Nat.le_of_ble_eq_true rfl)⟩
      rw [rm_nd_f (show q_b false = 0 from rfl) t5]
      exact ⟨rfl, t2⟩
  · left
    rw [if_pos hd]
    refine ⟨_, rfl, ?_, (Nat.le_of_ble_eq_true rfl), (Nat.le_of_ble_eq_true rfl)⟩
    have h13 : ¬ σ 72 13 = 2 := by
      rw [t3]
      exact fun z => hd (sp_eq (b := 2) (by omega) (by decide) z)
    rw [rm_in, if_pos t5, if_neg h13, rm_nd_f rfl t5]
    exact ⟨rfl, t2⟩
def rm_num (c : Nat → Int32) (L : Nat) (lo hi : Int32) (X : sp_F ⊕ Nat) : sp_F ⊕ Nat := sp_b X fun p => sp_b (sp_num c L lo hi p) fun y => .inr y.2
/-- the number that is read, where it is one -/
theorem rm_val {σ : q_M} {c : Nat → Int32} {L p : Nat} {lo hi : Int32} {y : Int32 × Nat} (h : rm_L c L p σ) (hy : sp_num c L lo hi p = .inr y) : σ 72 14 = y.1 := by
  obtain ⟨h1, h2, h3, h4, h5⟩ := sp_num_r hy
  exact ((h.1 h5).2.2.2.1 h4).trans h2.symm

set_option maxHeartbeats 1000000 in
set_option maxRecDepth 100000 in
theorem kX8_readNumberF {σ : q_M} {c : Nat → Int32} {L : Nat} (ht : rm_t σ c L) {X : sp_F ⊕ Nat} {lo hi : Int32} (hf : ¬ σ 72 15 = 0) (hf2 : 0 < (σ 72 15).toInt) (hX : rm_num c L lo hi X = X) (hQ : rm_Q c L X σ) : q_Ct YX8_readNumber [.ref 72, .int lo, .int hi] q_SH σ (q_re (σ 72 14) q_SH (fun τ => rm_f1 σ τ ∧ rm_Q c L (rm_num c L lo hi X) τ)) := by
  refine q_ct (n := 1) (by decide) (by decide) rfl (fun _ => Nat.le_of_ble_eq_true rfl) (fun E => ?_)
  refine q_aload_n dX8_readNumber_0 rfl ?_
  refine q_iload_n dX8_readNumber_1 rfl ?_
  refine q_iload_n dX8_readNumber_2 rfl ?_
  refine q_cVv lX8_114 vX8_isNumber (ci := 8) rfl dX8_readNumber_3 kX8_isNumber (by first | rfl | assumption) rfl rfl (Nat.le_of_ble_eq_true rfl) (by decide) ?_
  refine q_mem (rm_in_F hf) ?_
  refine q_aload_n dX8_readNumber_6 rfl ?_
  refine q_get fX8_107 dX8_readNumber_7 (by first | rfl | assumption) (by rfl) ?_
  refine q_istore_n dX8_readNumber_10 (by decide) rfl ?_
  refine q_aload_n dX8_readNumber_11 rfl ?_
  refine q_cVv lX8_118 vX8_next (ci := 8) rfl dX8_readNumber_12 (kX8_nextF hf2) (by first | rfl | assumption) rfl rfl (Nat.le_of_ble_eq_true rfl) (by decide) ?_
  refine q_iload_n dX8_readNumber_15 rfl ?_
  refine q_ret dX8_readNumber_16 ?_ rfl rfl
  exact ⟨rfl, rfl, rm_f1.rf σ, by rw [hX]; exact hQ⟩

set_option maxHeartbeats 1000000 in
set_option maxRecDepth 100000 in
theorem kX8_readNumberB {σ : q_M} {c : Nat → Int32} {L : Nat} (ht : rm_t σ c L) {p : Nat} {lo hi : Int32} {w : sp_F} (hn : sp_num c L lo hi p = .inl w) (hF : rm_Fw w (rm_in σ lo hi)) (h1 : 1 ≤ w.1) (h5 : w.1 ≤ 5) : q_Ct YX8_readNumber [.ref 72, .int lo, .int hi] q_SH σ (q_re (σ 72 14) q_SH (fun τ => rm_f1 σ τ ∧ rm_Q c L (.inl w) τ)) := by
  refine q_ct (n := 1) (by decide) (by decide) rfl (fun _ => Nat.le_of_ble_eq_true rfl) (fun E => ?_)
  refine q_aload_n dX8_readNumber_0 rfl ?_
  refine q_iload_n dX8_readNumber_1 rfl ?_
  refine q_iload_n dX8_readNumber_2 rfl ?_
  refine q_cVv lX8_114 vX8_isNumber (ci := 8) rfl dX8_readNumber_3 kX8_isNumber (by first | rfl | assumption) rfl rfl (Nat.le_of_ble_eq_true rfl) (by decide) ?_
  refine q_aload_n dX8_readNumber_6 rfl ?_
  refine q_get fX8_107 dX8_readNumber_7 (by first | rfl | assumption) (by rfl) ?_
  refine q_tope (y := σ 72 14) (rm_in_v σ lo hi) ?_
  refine q_istore_n dX8_readNumber_10 (by decide) rfl ?_
  refine q_aload_n dX8_readNumber_11 rfl ?_
  refine q_cVv lX8_118 vX8_next (ci := 8) rfl dX8_readNumber_12 (kX8_nextF (hF.pos h1 h5).1) (by first | rfl | assumption) rfl rfl (Nat.le_of_ble_eq_true rfl) (by decide) ?_
  refine q_iload_n dX8_readNumber_15 rfl ?_
  refine q_ret dX8_readNumber_16 ?_ rfl rfl
  exact ⟨rfl, rfl, rm_in_fr σ lo hi, hF, h1, h5⟩

set_option maxHeartbeats 1000000 in
set_option maxRecDepth 100000 in
theorem kX8_readNumberK {σ : q_M} {c : Nat → Int32} {L : Nat} (ht : rm_t σ c L) {p : Nat} (hpL : p ≤ L) {lo hi : Int32} (hT : rm_T c L p σ) (hin : rm_in σ lo hi = σ) : q_Ct YX8_readNumber [.ref 72, .int lo, .int hi] q_SH σ (q_re (σ 72 14) q_SH (fun τ => rm_f1 σ τ ∧ rm_Q c L (.inr (sp_e c L p)) τ)) := by
  refine q_ct (n := 1) (by decide) (by decide) rfl (fun _ => Nat.le_of_ble_eq_true rfl) (fun E => ?_)
  refine q_aload_n dX8_readNumber_0 rfl ?_
  refine q_iload_n dX8_readNumber_1 rfl ?_
  refine q_iload_n dX8_readNumber_2 rfl ?_
  refine q_cVv lX8_114 vX8_isNumber (ci := 8) rfl dX8_readNumber_3 kX8_isNumber (by first | rfl | assumption) rfl rfl (Nat.le_of_ble_eq_true rfl) (by decide) ?_
  refine q_mem hin ?_
  refine q_aload_n dX8_readNumber_6 rfl ?_
  refine q_get fX8_107 dX8_readNumber_7 (by first | rfl | assumption) (by rfl) ?_
  refine q_istore_n dX8_readNumber_10 (by decide) rfl ?_
  refine q_aload_n dX8_readNumber_11 rfl ?_
  refine q_rVv lX8_118 vX8_next (ci := 8) rfl dX8_readNumber_12 (kX8_next ht hT.2.2.2.2 hT.1 (sp_e_le hpL).2) (by first | rfl | assumption) rfl rfl (Nat.le_of_ble_eq_true rfl) (by decide) (fun τ hq => ?_)
  refine q_iload_n dX8_readNumber_15 rfl ?_
  refine q_ret dX8_readNumber_16 ?_ rfl rfl
  exact ⟨rfl, rfl, hq.1, hq.2, (sp_e_le hpL).2⟩

theorem kX8_readNumber {σ : q_M} {c : Nat → Int32} {L : Nat} (ht : rm_t σ c L) {X : sp_F ⊕ Nat} {lo hi : Int32} (hQ : rm_Q c L X σ) : q_Ct YX8_readNumber [.ref 72, .int lo, .int hi] q_SH σ (q_re (σ 72 14) q_SH (fun τ => rm_f1 σ τ ∧ rm_Q c L (rm_num c L lo hi X) τ)) := by
  cases X with
  | inl w =>
    have z := hQ.1.pos hQ.2.1 hQ.2.2
    exact kX8_readNumberF ht z.2 z.1 rfl hQ
  | inr p =>
    obtain ⟨hL, hpL⟩ := hQ
    cases hok : sp_ok c L p with
    | false =>
      have hF := hL.2 hok
      have z := hF.pos (Nat.le_of_ble_eq_true rfl) (Nat.le_of_ble_eq_true rfl)
      have e : rm_num c L lo hi (.inr p) = .inl (1, sp_s c L p) := by
        show sp_b (sp_num c L lo hi p) _ = _
        rw [sp_num_no hok]
        rfl
      rw [e]
      exact kX8_readNumberF ht (X := .inl (1, sp_s c L p)) z.2 z.1 rfl ⟨hF, (Nat.le_of_ble_eq_true rfl), (Nat.le_of_ble_eq_true rfl)⟩
    | true =>
      have hT := hL.1 hok
      rcases rm_in_T (lo := lo) (hi := hi) hT hok with ⟨w, h1, h2⟩ | ⟨y, h1, h2, h3, h4⟩
      · have e : rm_num c L lo hi (.inr p) = .inl w := by
          show sp_b (sp_num c L lo hi p) _ = _
          rw [h1]
          rfl
        rw [e]
        exact kX8_readNumberB ht h1 h2.1 h2.2.1 h2.2.2
      · have e : rm_num c L lo hi (.inr p) = .inr (sp_e c L p) := by
          show sp_b (sp_num c L lo hi p) _ = _
          rw [h1]
          show Sum.inr y.2 = _
          rw [h2]
        rw [e]
        exact kX8_readNumberK ht hpL hT h4
