/-! read: the class's contract, the reference -/

set_option maxHeartbeats 1000000 in
set_option maxRecDepth 100000 in
theorem kX7_readB {σ : q_M} {k l f0 n : Int32} (hbad : (q_win k 0 3 && q_win l 0 2 && q_win n 0 12) = false) : q_Ct YX7_read [.ref 0, .int k, .int l, .int f0, .int n] q_SH σ (q_is (some (-1)) q_SH σ) := by
  refine q_ct (n := 7) (by decide) (by decide) rfl (fun _ => Nat.le_of_ble_eq_true rfl) (fun E => ?_)
  refine q_iload_n dX7_read_0 rfl ?_
  refine q_cSi lX7_315 sX7_isSheet dX7_read_1 kX7_isSheet rfl rfl (Nat.le_of_ble_eq_true rfl) (by decide) ?_
  refine q_beq 25 dX7_read_4 (by decide) (fun h4 => ?_) (fun h4 => ?_)
  · refine q_iconst (x := (-1)) dX7_read_25 (by decide) ?_
    refine q_ret dX7_read_26 ?_ rfl rfl
    exact ⟨rfl, rfl, rfl⟩
  · refine q_iload_n dX7_read_7 rfl ?_
    refine q_cSi lX7_318 sX7_isLane dX7_read_8 kX7_isLane rfl rfl (Nat.le_of_ble_eq_true rfl) (by decide) ?_
    refine q_beq 25 dX7_read_11 (by decide) (fun h11 => ?_) (fun h11 => ?_)
    · refine q_iconst (x := (-1)) dX7_read_25 (by decide) ?_
      refine q_ret dX7_read_26 ?_ rfl rfl
      exact ⟨rfl, rfl, rfl⟩
    · refine q_iload dX7_read_14 rfl ?_
      refine q_iconst (x := 0) dX7_read_16 (by decide) ?_
      refine q_bipush (x := 12) dX7_read_17 (by decide) ?_
      refine q_cSi lX7_77 sX7_within dX7_read_19 kX7_within rfl rfl (Nat.le_of_ble_eq_true rfl) (by decide) ?_
      refine q_bne 27 dX7_read_22 (by decide) (fun h22 => ?_) (fun h22 => ?_)
      · exact absurd hbad (by simp [*])
      · refine q_iconst (x := (-1)) dX7_read_25 (by decide) ?_
        refine q_ret dX7_read_26 ?_ rfl rfl
        exact ⟨rfl, rfl, rfl⟩

set_option maxHeartbeats 1000000 in
set_option maxRecDepth 100000 in
theorem kX7_read {σ : q_M} {j n0 m sc : Nat} {l f0 : Int32} (h4 : j < 4) (hn12 : n0 ≤ 12) (hm : σ (56 + 2 * j) 2 = nI m) (h40 : m ≤ 40) (hsc : σ 19 3 = nI sc) (h12 : sc ≤ 12) (hl : q_win l 0 2 = true) : q_Ct YX7_read [.ref 0, .int (nI j), .int l, .int f0, .int (nI n0)] q_SH σ (rs_PC σ j f0 sc (rs_r (σ (56 + 2 * j) 1) (nI m) l f0 (σ 15 0) (σ (57 + 2 * j)) sc n0 0)) := by
  refine q_ct (n := 7) (by decide) (by decide) rfl (fun _ => Nat.le_of_ble_eq_true rfl) (fun E => ?_)
  have h4x := h4
  have hjt := nI_toInt (n := j) (by omega)
  have hnt := nI_toInt (n := n0) (by omega)
  have e0 : (0 : Int32).toInt = 0 := rfl
  have e3 : (3 : Int32).toInt = 3 := rfl
  have e12 : (12 : Int32).toInt = 12 := rfl
  refine q_iload_n dX7_read_0 rfl ?_
  refine q_cSi lX7_315 sX7_isSheet dX7_read_1 kX7_isSheet rfl rfl (Nat.le_of_ble_eq_true rfl) (by decide) ?_
  refine q_beq 25 dX7_read_4 (by decide) (fun h4 => ?_) (fun h4 => ?_)
  · exact absurd (q_win_f h4) (by omega)
  · refine q_iload_n dX7_read_7 rfl ?_
    refine q_cSi lX7_318 sX7_isLane dX7_read_8 kX7_isLane rfl rfl (Nat.le_of_ble_eq_true rfl) (by decide) ?_
    refine q_beq 25 dX7_read_11 (by decide) (fun h11 => ?_) (fun h11 => ?_)
    · exact absurd hl (by rw [h11]; decide)
    · refine q_iload dX7_read_14 rfl ?_
      refine q_iconst (x := 0) dX7_read_16 (by decide) ?_
      refine q_bipush (x := 12) dX7_read_17 (by decide) ?_
      refine q_cSi lX7_77 sX7_within dX7_read_19 kX7_within rfl rfl (Nat.le_of_ble_eq_true rfl) (by decide) ?_
      refine q_bne 27 dX7_read_22 (by decide) (fun h22 => ?_) (fun h22 => ?_)
      · refine q_aload_n dX7_read_27 rfl ?_
        refine q_getr fX7_40 dX7_read_28 (by first | rfl | assumption) (by rfl) ?_
        refine q_iload_n dX7_read_31 rfl ?_
        refine q_ald j (by first | rfl | assumption) hjt h4x (q_rs_at h4x) ⟨by decide, by decide⟩ dX7_read_32 ?_
        refine q_astore dX7_read_33 (by decide) rfl ?_
        refine q_iconst (x := 0) dX7_read_35 (by decide) ?_
        refine q_istore dX7_read_36 (by decide) rfl ?_
        refine q_aload_n dX7_read_38 rfl ?_
        refine q_getr fX7_48 dX7_read_39 (by first | rfl | assumption) (by rfl) ?_
        refine q_iconst (x := 0) dX7_read_42 (by decide) ?_
        refine q_put_i pX7_296 dX7_read_43 (by first | rfl | assumption) (by rfl) rfl rfl ?_
        refine q_iconst (x := 0) dX7_read_46 (by decide) ?_
        refine q_istore dX7_read_47 (by decide) rfl ?_
        exact lpX7_read1 h4x hn12 hm h40 hsc h12 (n0 + 1) 0 0 _ _ _ _ (by omega) (by omega) (by omega) (Or.inl rfl) rfl rfl
      · exact absurd (q_win_f h22) (by omega)

def rs_am (σ : q_M) (gg : Nat → Int32 × Int32 × Int32) (s : Nat) : Nat → q_M
  | 0 => σ
  | i + 1 => qm_sn (rs_am σ gg s i) (s + i) (gg i).1 (gg i).2.1 (gg i).2.2
theorem rs_am_ne {σ : q_M} {gg : Nat → Int32 × Int32 × Int32} {s x : Nat} (h : x ≠ 73) : ∀ i, rs_am σ gg s i x = σ x
  | 0 => rfl
  | i + 1 => by
    rw [rs_am, qm_sn, q_up_ne h, q_up_ne h, q_up_ne h, q_up_ne h]
    exact rs_am_ne h i
theorem rs_am_54 {σ : q_M} {gg : Nat → Int32 × Int32 × Int32} {s : Nat} (h : σ 73 54 = nI s) : ∀ i, rs_am σ gg s i 73 54 = nI (s + i)
  | 0 => h
  | i + 1 => by
    rw [rs_am, qm_sn, q_up_at]
    rfl
def rs_PM (σ : q_M) (j : Nat) (f0 : Int32) (sc : Nat) (res : Int32 ⊕ (Nat × Int32)) : q_P := fun r a τ => a = q_SH ∧ match res with
  | .inl x => r = some x ∧ τ = σ
  | .inr y => r = some (nI y.1) ∧ τ = rs_am (q_up σ 72 30 y.2) (rs_g (fun x => σ 85 (40 * j + x)) f0.toInt.toNat) sc y.1
def rs_c (ln sz asked : Int32) (P : Int) : Nat → Int32
  | 0 => 0
  | c + 1 => if ln = -4 then 1 else if ¬ ln = asked then 3 else if 0 ≤ P ∧ P + c < sz.toInt then 0 else 2
theorem rs_c_s (ln sz asked : Int32) (P : Int) (c : Nat) : rs_c ln sz asked P (c + 1) = if ln = -4 then 1 else if ¬ ln = asked then 3 else if 0 ≤ P ∧ P + c < sz.toInt then 0 else 2 := rfl
theorem rs_c_3 (ln sz asked : Int32) (P : Int) : rs_c ln sz asked P 3 = rs_f ln sz asked P := rfl
theorem rs_c_n {ln sz asked : Int32} {P : Int} {c : Nat} (hc : c ≤ 3) (h : ¬ rs_c ln sz asked P c = 0) : rs_c ln sz asked P c = rs_f ln sz asked P := by
  cases c with
  | zero => exact absurd rfl h
  | succ c =>
    rw [rs_c_s] at h ⊢
    unfold rs_f
    by_cases h1 : ln = -4
    · rw [if_pos h1, if_pos h1]
    · rw [if_neg h1] at h ⊢
      rw [if_neg h1]
      by_cases h2 : ln = asked
      · rw [if_neg (fun z => z h2)] at h ⊢
        rw [if_neg (show ¬ ¬ ln = asked from fun z => z h2)]
        by_cases h3 : 0 ≤ P ∧ P + c < sz.toInt
        · rw [if_pos h3] at h
          exact absurd rfl h
        · rw [if_neg h3, if_neg (by omega)]
      · rw [if_pos h2, if_pos h2]
theorem rs_c_0 {ln sz asked : Int32} {P : Int} {c : Nat} (h : rs_c ln sz asked P (c + 1) = 0) : 0 ≤ P := by
  rw [rs_c_s] at h
  split at h
  · exact absurd h (by decide)
  split at h
  · exact absurd h (by decide)
  split at h
  · rename_i h3
    exact h3.1
  · exact absurd h (by decide)
theorem q_lts {a b : Int64} (h : (lg_cmp a b).toInt < 0) : a.toInt < b.toInt := Int64.lt_iff_toInt_lt.mp ((lg_cmp_lt a b).mp (Int32.lt_iff_toInt_lt.mpr h))
theorem q_nlts {a b : Int64} (h : 0 ≤ (lg_cmp a b).toInt) : ¬ a.toInt < b.toInt := fun z => absurd (Int32.lt_iff_toInt_lt.mp ((lg_cmp_lt a b).mpr (Int64.lt_iff_toInt_lt.mpr z))) (by have e : (0 : Int32).toInt = 0 := rfl; omega)
theorem i_add64 {a b : Int64} (h1 : -1000000000000 ≤ a.toInt + b.toInt) (h2 : a.toInt + b.toInt < 1000000000000) : (a + b).toInt = a.toInt + b.toInt := by
  rw [Int64.toInt_add]
  exact Int.bmod_eq_of_le (by omega) (by omega)

set_option maxHeartbeats 1000000 in
set_option maxRecDepth 100000 in
theorem lpX8_read0 {E : q_E} {σ : q_M} {j n0 m : Nat} {l f0 : Int32} (h4 : j < 4) (hmm84 : σ 84 j = nI m) (h40 : m ≤ 40) {i : Nat} (hi12 : i ≤ 12) {Q : q_P} (K : ∀ (c : Nat) (x : Int64), q_G YX8_read E 0 0 134 [some (.ref 72), some (.int (nI j)), some (.int l), some (.int f0), some (.int (nI n0)), some (.int (rs_f (σ 83 j) (nI m) l (f0.toInt + 3 * i))), some (.int (nI i)), some (.int (nI i)), some (.int (nI c)), some (.long x), none] [] q_SH σ Q) : ∀ (n : Nat) (c : Nat) (o9 : Option Value), 4 ≤ c + n → c ≤ 3 → (∀ w, o9 = some w → ∃ x, w = .long x) → (c = 0 ∨ ∃ x, o9 = some (.long x)) → q_G YX8_read E 0 0 47 [some (.ref 72), some (.int (nI j)), some (.int l), some (.int f0), some (.int (nI n0)), some (.int (rs_c (σ 83 j) (nI m) l (f0.toInt + 3 * i) c)), some (.int (nI i)), some (.int (nI i)), some (.int (nI c)), o9, none] [] q_SH σ Q := by
  intro n
  induction n with
  | zero =>
    intro c o9 hmm h0 ho1 ho2
    exact absurd hmm (by omega)
  | succ n ih =>
    intro c o9 hmm h0 ho1 ho2
    have hct := nI_toInt (n := c) (by omega)
    have hjt := nI_toInt (n := j) (by omega)
    have h3t := nI_toInt (n := 3 * i) (by omega)
    have e3 : (3 : Int32).toInt = 3 := rfl
    have fl := f0.toInt_lt
    have fg := f0.le_toInt
    have hmt := nI_toInt (n := m) (by omega)
    have z64 : (0 : Int64).toInt = 0 := rfl
    have hp64 : (f0.toInt64 + (nI (3 * i)).toInt64 + (nI c).toInt64).toInt = f0.toInt + 3 * i + c := by
      have s1 : (f0.toInt64 + (nI (3 * i)).toInt64).toInt = f0.toInt + 3 * i := by
        rw [i_add64 (by rw [Int32.toInt_toInt64, Int32.toInt_toInt64]; omega) (by rw [Int32.toInt_toInt64, Int32.toInt_toInt64]; omega), Int32.toInt_toInt64, Int32.toInt_toInt64]
        omega
      rw [i_add64 (by rw [s1, Int32.toInt_toInt64]; omega) (by rw [s1, Int32.toInt_toInt64]; omega), s1, Int32.toInt_toInt64, hct]
    refine q_iload dX8_read_47 rfl ?_
    refine q_iconst (x := 3) dX8_read_49 (by decide) ?_
    refine q_cge 134 dX8_read_50 (by decide) (fun h50 => ?_) (fun h50 => ?_)
    · have e : c = 3 := by omega
      subst e
      obtain ⟨x, hx⟩ : ∃ x, o9 = some (.long x) := by
        rcases ho2 with z | z
        · omega
        · exact z
      subst hx
      first
        | exact K 3 _
        | exact K c _
    · refine q_iload dX8_read_53 rfl ?_
      refine q_if_ne 134 dX8_read_55 (by decide) (fun h55 => ?_) (fun h55 => ?_)
      · rw [rs_c_n (by omega) h55]
        obtain ⟨x, hx⟩ : ∃ x, o9 = some (.long x) := by
          rcases ho2 with z | z
          · subst z
            exact absurd rfl h55
          · exact z
        subst hx
        first
          | exact K 3 _
          | exact K c _
      · have hP0 : c = 0 ∨ 0 ≤ f0.toInt + 3 * i := by
          cases c with
          | zero => exact Or.inl rfl
          | succ c => exact Or.inr (rs_c_0 h55)
        refine q_iload_n dX8_read_58 rfl ?_
        refine q_i2l dX8_read_59 ?_
        refine q_iconst (x := 3) dX8_read_60 (by decide) ?_
        refine q_iload dX8_read_61 rfl ?_
        refine q_imul dX8_read_63 ?_
        refine q_tope (y := nI (3 * i)) (pk_mul 3 i) ?_
        refine q_i2l dX8_read_64 ?_
        refine q_ladd dX8_read_65 ?_
        refine q_iload dX8_read_66 rfl ?_
        refine q_i2l dX8_read_68 ?_
        refine q_ladd dX8_read_69 ?_
        refine q_lstore dX8_read_70 (by decide) rfl ?_
        refine q_lr (ls' := [some (.ref 72), some (.int (nI j)), some (.int l), some (.int f0), some (.int (nI n0)), some (.int (rs_c (σ 83 j) (nI m) l (f0.toInt + 3 * i) c)), some (.int (nI i)), some (.int (nI i)), some (.int (nI c)), some (.long (f0.toInt64 + (nI (3 * i)).toInt64 + (nI c).toInt64)), none]) rfl ?_
        refine q_aload_n dX8_read_72 rfl ?_
        refine q_getr fX8_41 dX8_read_73 (by first | rfl | assumption) (by rfl) ?_
        refine q_iload_n dX8_read_76 rfl ?_
        refine q_ild j (by first | rfl | assumption) hjt h4 dX8_read_77 ?_
        refine q_bipush (x := (-4)) dX8_read_78 (by decide) ?_
        refine q_icmp_ne 87 dX8_read_80 (by decide) (fun h80 => ?_) (fun h80 => ?_)
        · refine q_aload_n dX8_read_87 rfl ?_
          refine q_getr fX8_41 dX8_read_88 (by first | rfl | assumption) (by rfl) ?_
          refine q_iload_n dX8_read_91 rfl ?_
          refine q_ild j (by first | rfl | assumption) hjt h4 dX8_read_92 ?_
          refine q_iload_n dX8_read_93 rfl ?_
          refine q_icmp_eq 101 dX8_read_94 (by decide) (fun h94 => ?_) (fun h94 => ?_)
          · refine q_lload dX8_read_101 rfl ?_
            refine q_lconst (x := 0) dX8_read_103 (by decide) ?_
            refine q_lcmp dX8_read_104 ?_
            refine q_zlt 121 dX8_read_105 (by decide) (fun h105 => ?_) (fun h105 => ?_)
            · have hp := q_lts h105
              have hr : (2 : Int32) = rs_c (σ 83 j) (nI m) l (f0.toInt + 3 * i) (c + 1) := by
                show _ = if _ then _ else if _ then _ else if _ then _ else _
                rw [if_neg h80, if_neg (fun z => z h94), if_neg (by rw [hp64] at hp; omega)]
              refine q_iconst (x := 2) dX8_read_121 (by decide) ?_
              refine q_goto 126 dX8_read_122 (by decide) ?_
              refine q_tope hr ?_
              refine q_istore dX8_read_126 (by decide) rfl ?_
              refine q_lr (ls' := [some (.ref 72), some (.int (nI j)), some (.int l), some (.int f0), some (.int (nI n0)), some (.int (rs_c (σ 83 j) (nI m) l (f0.toInt + 3 * i) (c + 1))), some (.int (nI i)), some (.int (nI i)), some (.int (nI c)), some (.long (f0.toInt64 + (nI (3 * i)).toInt64 + (nI c).toInt64)), none]) rfl ?_
              refine q_inc 1 dX8_read_128 (by decide) rfl (by decide) rfl ?_
              refine q_goto 47 dX8_read_131 (by decide) ?_
              rw [nI_1]
              exact ih (c + 1) (some (.long (f0.toInt64 + (nI (3 * i)).toInt64 + (nI c).toInt64))) (by omega) (by omega) (fun w hw => by cases hw; exact ⟨_, rfl⟩) (Or.inr ⟨_, rfl⟩)
            · have hp := q_nlts h105
              refine q_lload dX8_read_108 rfl ?_
              refine q_aload_n dX8_read_110 rfl ?_
              refine q_getr fX8_44 dX8_read_111 (by first | rfl | assumption) (by rfl) ?_
              refine q_iload_n dX8_read_114 rfl ?_
              refine q_ild j (by first | rfl | assumption) hjt h4 dX8_read_115 ?_
              refine q_tope (y := nI m) hmm84 ?_
              refine q_i2l dX8_read_116 ?_
              refine q_lcmp dX8_read_117 ?_
              refine q_zlt 125 dX8_read_118 (by decide) (fun h118 => ?_) (fun h118 => ?_)
              · have hp2 := q_lts h118
                have hr : (0 : Int32) = rs_c (σ 83 j) (nI m) l (f0.toInt + 3 * i) (c + 1) := by
                  show _ = if _ then _ else if _ then _ else if _ then _ else _
                  rw [if_neg h80, if_neg (fun z => z h94), if_pos (by rw [hp64] at hp hp2; rw [Int32.toInt_toInt64] at hp2; omega)]
                refine q_iconst (x := 0) dX8_read_125 (by decide) ?_
                refine q_tope hr ?_
                refine q_istore dX8_read_126 (by decide) rfl ?_
                refine q_lr (ls' := [some (.ref 72), some (.int (nI j)), some (.int l), some (.int f0), some (.int (nI n0)), some (.int (rs_c (σ 83 j) (nI m) l (f0.toInt + 3 * i) (c + 1))), some (.int (nI i)), some (.int (nI i)), some (.int (nI c)), some (.long (f0.toInt64 + (nI (3 * i)).toInt64 + (nI c).toInt64)), none]) rfl ?_
                refine q_inc 1 dX8_read_128 (by decide) rfl (by decide) rfl ?_
                refine q_goto 47 dX8_read_131 (by decide) ?_
                rw [nI_1]
                exact ih (c + 1) (some (.long (f0.toInt64 + (nI (3 * i)).toInt64 + (nI c).toInt64))) (by omega) (by omega) (fun w hw => by cases hw; exact ⟨_, rfl⟩) (Or.inr ⟨_, rfl⟩)
              · have hp2 := q_nlts h118
                have hr : (2 : Int32) = rs_c (σ 83 j) (nI m) l (f0.toInt + 3 * i) (c + 1) := by
                  show _ = if _ then _ else if _ then _ else if _ then _ else _
                  rw [if_neg h80, if_neg (fun z => z h94), if_neg (by rw [hp64] at hp hp2; rw [Int32.toInt_toInt64] at hp2; omega)]
                refine q_iconst (x := 2) dX8_read_121 (by decide) ?_
                refine q_goto 126 dX8_read_122 (by decide) ?_
                refine q_tope hr ?_
                refine q_istore dX8_read_126 (by decide) rfl ?_
                refine q_lr (ls' := [some (.ref 72), some (.int (nI j)), some (.int l), some (.int f0), some (.int (nI n0)), some (.int (rs_c (σ 83 j) (nI m) l (f0.toInt + 3 * i) (c + 1))), some (.int (nI i)), some (.int (nI i)), some (.int (nI c)), some (.long (f0.toInt64 + (nI (3 * i)).toInt64 + (nI c).toInt64)), none]) rfl ?_
                refine q_inc 1 dX8_read_128 (by decide) rfl (by decide) rfl ?_
                refine q_goto 47 dX8_read_131 (by decide) ?_
                rw [nI_1]
                exact ih (c + 1) (some (.long (f0.toInt64 + (nI (3 * i)).toInt64 + (nI c).toInt64))) (by omega) (by omega) (fun w hw => by cases hw; exact ⟨_, rfl⟩) (Or.inr ⟨_, rfl⟩)
          · have hr : (3 : Int32) = rs_c (σ 83 j) (nI m) l (f0.toInt + 3 * i) (c + 1) := by
              show _ = if _ then _ else if _ then _ else _
              rw [if_neg h80, if_pos h94]
            refine q_iconst (x := 3) dX8_read_97 (by decide) ?_
            refine q_goto 126 dX8_read_98 (by decide) ?_
            refine q_tope hr ?_
            refine q_istore dX8_read_126 (by decide) rfl ?_
            refine q_lr (ls' := [some (.ref 72), some (.int (nI j)), some (.int l), some (.int f0), some (.int (nI n0)), some (.int (rs_c (σ 83 j) (nI m) l (f0.toInt + 3 * i) (c + 1))), some (.int (nI i)), some (.int (nI i)), some (.int (nI c)), some (.long (f0.toInt64 + (nI (3 * i)).toInt64 + (nI c).toInt64)), none]) rfl ?_
            refine q_inc 1 dX8_read_128 (by decide) rfl (by decide) rfl ?_
            refine q_goto 47 dX8_read_131 (by decide) ?_
            rw [nI_1]
            exact ih (c + 1) (some (.long (f0.toInt64 + (nI (3 * i)).toInt64 + (nI c).toInt64))) (by omega) (by omega) (fun w hw => by cases hw; exact ⟨_, rfl⟩) (Or.inr ⟨_, rfl⟩)
        · have hr : (1 : Int32) = rs_c (σ 83 j) (nI m) l (f0.toInt + 3 * i) (c + 1) := by
            show _ = if _ then _ else _
            rw [if_pos h80]
          refine q_iconst (x := 1) dX8_read_83 (by decide) ?_
          refine q_goto 126 dX8_read_84 (by decide) ?_
          refine q_tope hr ?_
          refine q_istore dX8_read_126 (by decide) rfl ?_
          refine q_lr (ls' := [some (.ref 72), some (.int (nI j)), some (.int l), some (.int f0), some (.int (nI n0)), some (.int (rs_c (σ 83 j) (nI m) l (f0.toInt + 3 * i) (c + 1))), some (.int (nI i)), some (.int (nI i)), some (.int (nI c)), some (.long (f0.toInt64 + (nI (3 * i)).toInt64 + (nI c).toInt64)), none]) rfl ?_
          refine q_inc 1 dX8_read_128 (by decide) rfl (by decide) rfl ?_
          refine q_goto 47 dX8_read_131 (by decide) ?_
          rw [nI_1]
          exact ih (c + 1) (some (.long (f0.toInt64 + (nI (3 * i)).toInt64 + (nI c).toInt64))) (by omega) (by omega) (fun w hw => by cases hw; exact ⟨_, rfl⟩) (Or.inr ⟨_, rfl⟩)

set_option maxHeartbeats 1000000 in
set_option maxRecDepth 100000 in
theorem lpX8_read2 {E : q_E} {σ : q_M} {j n0 m w sc : Nat} {l f0 : Int32} (h4 : j < 4) (hmm84 : σ 84 j = nI m) (h40 : m ≤ 40) {rs : Int32} (hsc : σ 73 54 = nI sc) (hw : w ≤ 12) (hv : (∀ k, k < w → rs_f (σ 83 j) (nI m) l (f0.toInt + 3 * k) = 0 ∧ rs_v (σ 75 0) (fun x => σ 85 (40 * j + x)) f0.toInt.toNat k = true ∧ sc + k < 12)) {o8 o9 : Option Value} : ∀ (n : Nat) (i : Nat) (o8 : Option Value), w + 1 ≤ i + n → i ≤ w → q_G YX8_read E 0 0 241 [some (.ref 72), some (.int (nI j)), some (.int l), some (.int f0), some (.int (nI n0)), some (.int (rs)), some (.int (nI w)), some (.int (nI i)), o8, o9, none] [] q_SH (rs_am (q_up σ 72 30 rs) (rs_g (fun x => σ 85 (40 * j + x)) f0.toInt.toNat) sc i) (rs_PM σ j f0 sc (.inr (w, rs))) := by
  intro n
  induction n with
  | zero =>
    intro i o8 hmm h0
    exact absurd hmm (by omega)
  | succ n ih =>
    intro i o8 hmm h0
    have hit := nI_toInt (n := i) (by omega)
    have hwt := nI_toInt (n := w) (by omega)
    have hsc2 : q_up σ 72 30 rs 73 54 = nI sc := by rw [q_up_g (by decide)]; exact hsc
    refine q_iload dX8_read_241 rfl ?_
    refine q_iload dX8_read_243 rfl ?_
    refine q_cge 306 dX8_read_245 (by decide) (fun h245 => ?_) (fun h245 => ?_)
    · have e : i = w := by omega
      subst e
      refine q_iload dX8_read_306 rfl ?_
      refine q_ret dX8_read_308 ?_ rfl rfl
      exact ⟨rfl, rfl, rfl⟩
    · obtain ⟨v1, v2, v3⟩ := hv i (by omega)
      obtain ⟨f1, f2, f3, f4⟩ := rs_f_0 v1
      rw [nI_toInt (by omega)] at f4
      have hp0 : 0 ≤ f0.toInt := by
        have q := (rs_f_0 (hv 0 (by omega)).1).2.2.1
        omega
      have ef := i_nI hp0
      unfold rs_v at v2
      rw [Bool.and_eq_true, Bool.and_eq_true] at v2
      refine q_bipush (x := 40) dX8_read_248 (by decide) ?_
      refine q_iload_n dX8_read_250 rfl ?_
      refine q_imul dX8_read_251 ?_
      refine q_iload_n dX8_read_252 rfl ?_
      refine q_iadd dX8_read_253 ?_
      refine q_iconst (x := 3) dX8_read_254 (by decide) ?_
      refine q_iload dX8_read_255 rfl ?_
      refine q_imul dX8_read_257 ?_
      refine q_iadd dX8_read_258 ?_
      refine q_tope (y := nI (40 * j + (f0.toInt.toNat + 3 * i))) (by rw [ef]; rw [show (40 : Int32) = nI 40 from rfl, show (3 : Int32) = nI 3 from rfl, pk_mul, pk_mul, nI_add, nI_add, nI_toInt (by omega)]; congr 1; omega) ?_
      refine q_istore dX8_read_259 (by decide) rfl ?_
      refine q_lr (ls' := [some (.ref 72), some (.int (nI j)), some (.int l), some (.int f0), some (.int (nI n0)), some (.int (rs)), some (.int (nI w)), some (.int (nI i)), some (.int (nI (40 * j + (f0.toInt.toNat + 3 * i)))), o9, none]) rfl ?_
      have hx0 := nI_toInt (n := (40 * j + (f0.toInt.toNat + 3 * i))) (by omega)
      have hx1 := nI_toInt (n := (40 * j + (f0.toInt.toNat + 3 * i + 1))) (by omega)
      have hx2 := nI_toInt (n := (40 * j + (f0.toInt.toNat + 3 * i + 2))) (by omega)
      refine q_aload_n dX8_read_261 rfl ?_
      refine q_aload_n dX8_read_262 rfl ?_
      refine q_getr fX8_47 dX8_read_263 (by first | rfl | assumption) (by rfl) ?_
      refine q_iload dX8_read_266 rfl ?_
      refine q_ild (40 * j + (f0.toInt.toNat + 3 * i)) (by first | rfl | assumption) hx0 (by omega) dX8_read_268 ?_
      refine q_tope (y := σ 85 (40 * j + (f0.toInt.toNat + 3 * i))) (by rw [rs_am_ne (by decide)]; rfl) ?_
      refine q_aload_n dX8_read_269 rfl ?_
      refine q_getr fX8_47 dX8_read_270 (by first | rfl | assumption) (by rfl) ?_
      refine q_iload dX8_read_273 rfl ?_
      refine q_iconst (x := 1) dX8_read_275 (by decide) ?_
      refine q_iadd dX8_read_276 ?_
      refine q_ild (40 * j + (f0.toInt.toNat + 3 * i + 1)) (by first | rfl | assumption) (by rw [nI_1]; exact hx1) (by omega) dX8_read_277 ?_
      refine q_tope (y := σ 85 (40 * j + (f0.toInt.toNat + 3 * i + 1))) (by rw [rs_am_ne (by decide)]; rfl) ?_
      refine q_aload_n dX8_read_278 rfl ?_
      refine q_getr fX8_47 dX8_read_279 (by first | rfl | assumption) (by rfl) ?_
      refine q_iload dX8_read_282 rfl ?_
      refine q_iconst (x := 2) dX8_read_284 (by decide) ?_
      refine q_iadd dX8_read_285 ?_
      refine q_ild (40 * j + (f0.toInt.toNat + 3 * i + 2)) (by first | rfl | assumption) (by rw [nI_p2]; exact hx2) (by omega) dX8_read_286 ?_
      refine q_tope (y := σ 85 (40 * j + (f0.toInt.toNat + 3 * i + 2))) (by rw [rs_am_ne (by decide)]; rfl) ?_
      refine q_iconst (x := 1) dX8_read_287 (by decide) ?_
      refine q_icmp_ne 295 dX8_read_288 (by decide) (fun h288 => ?_) (fun h288 => ?_)
      · have hgb : ((rs_g (fun x => σ 85 (40 * j + x)) f0.toInt.toNat) i).2.2 = 0 := by show q_b (decide (σ 85 (40 * j + (f0.toInt.toNat + 3 * i + 2)) = 1)) = 0; rw [decide_eq_false h288]; rfl
        refine q_iconst (x := 0) dX8_read_295 (by decide) ?_
        refine q_cVi lX8_302 vX8_saw (ci := 8) rfl dX8_read_296 (kX8_saw (rs_am_54 hsc2 i) (by omega) v2.1.1 (by rw [rs_am_ne (by decide)]; exact v2.1.2)) (by first | rfl | assumption) rfl rfl (Nat.le_of_ble_eq_true rfl) (by decide) ?_
        refine q_pop rfl dX8_read_299 ?_
        refine q_inc 1 dX8_read_300 (by decide) rfl (by decide) rfl ?_
        refine q_goto 241 dX8_read_303 (by decide) ?_
        rw [nI_1]
        refine q_mem (τ := rs_am (q_up σ 72 30 rs) (rs_g (fun x => σ 85 (40 * j + x)) f0.toInt.toNat) sc (i + 1)) (by rw [rs_am, hgb]; rfl) ?_
        exact ih (i + 1) _ (by omega) (by omega)
      · have hgb : ((rs_g (fun x => σ 85 (40 * j + x)) f0.toInt.toNat) i).2.2 = 1 := by show q_b (decide (σ 85 (40 * j + (f0.toInt.toNat + 3 * i + 2)) = 1)) = 1; rw [decide_eq_true h288]; rfl
        refine q_iconst (x := 1) dX8_read_291 (by decide) ?_
        refine q_goto 296 dX8_read_292 (by decide) ?_
        refine q_cVi lX8_302 vX8_saw (ci := 8) rfl dX8_read_296 (kX8_saw (rs_am_54 hsc2 i) (by omega) v2.1.1 (by rw [rs_am_ne (by decide)]; exact v2.1.2)) (by first | rfl | assumption) rfl rfl (Nat.le_of_ble_eq_true rfl) (by decide) ?_
        refine q_pop rfl dX8_read_299 ?_
        refine q_inc 1 dX8_read_300 (by decide) rfl (by decide) rfl ?_
        refine q_goto 241 dX8_read_303 (by decide) ?_
        rw [nI_1]
        refine q_mem (τ := rs_am (q_up σ 72 30 rs) (rs_g (fun x => σ 85 (40 * j + x)) f0.toInt.toNat) sc (i + 1)) (by rw [rs_am, hgb]; rfl) ?_
        exact ih (i + 1) _ (by omega) (by omega)

set_option maxHeartbeats 1000000 in
set_option maxRecDepth 100000 in
theorem sgX8_read2 {E : q_E} {σ : q_M} {j n0 m w sc : Nat} {l f0 : Int32} (h4 : j < 4) (hmm84 : σ 84 j = nI m) (h40 : m ≤ 40) {rs x : Int32} (hsc : σ 73 54 = nI sc) (hw : w ≤ 12) (hv : (∀ k, k < w → rs_f (σ 83 j) (nI m) l (f0.toInt + 3 * k) = 0 ∧ rs_v (σ 75 0) (fun x => σ 85 (40 * j + x)) f0.toInt.toNat k = true ∧ sc + k < 12)) {o8 o9 : Option Value} : q_G YX8_read E 0 0 232 [some (.ref 72), some (.int (nI j)), some (.int l), some (.int f0), some (.int (nI n0)), some (.int (rs)), some (.int (nI w)), some (.int x), o8, o9, none] [] q_SH σ (rs_PM σ j f0 sc (.inr (w, rs))) := by
  refine q_aload_n dX8_read_232 rfl ?_
  refine q_iload dX8_read_233 rfl ?_
  refine q_put_i pX8_299 dX8_read_235 (by first | rfl | assumption) (by rfl) rfl rfl ?_
  refine q_iconst (x := 0) dX8_read_238 (by decide) ?_
  refine q_istore dX8_read_239 (by decide) rfl ?_
  exact lpX8_read2 h4 hmm84 h40 hsc hw hv (o9 := o9) (o8 := o8) (w + 1) 0 _ (by omega) (by omega)

set_option maxHeartbeats 1000000 in
set_option maxRecDepth 100000 in
theorem sgX8_read3 {E : q_E} {σ : q_M} {j n0 m sc i q : Nat} {l f0 : Int32} (h4 : j < 4) (hmm84 : σ 84 j = nI m) (h40 : m ≤ 40) (hn12 : n0 ≤ 12) (hsc : σ 73 54 = nI sc) (hi : i < n0) (hsi : sc + i ≤ 12) {res : Int32 ⊕ (Nat × Int32)} (hv : (∀ k, k < i → rs_f (σ 83 j) (nI m) l (f0.toInt + 3 * k) = 0 ∧ rs_v (σ 75 0) (fun x => σ 85 (40 * j + x)) f0.toInt.toNat k = true ∧ sc + k < 12)) (hq : n0 - i = q + 1) (hres : (if ¬ rs_f (σ 83 j) (nI m) l (f0.toInt + 3 * i) = 0 then .inr (i, rs_f (σ 83 j) (nI m) l (f0.toInt + 3 * i)) else if rs_v (σ 75 0) (fun x => σ 85 (40 * j + x)) f0.toInt.toNat i = false then .inl (-20 - nI i) else if 12 ≤ sc + i then .inl (-3) else rs_r (σ 83 j) (nI m) l f0 (σ 75 0) (fun x => σ 85 (40 * j + x)) sc q (i + 1)) = res) (K : rs_f (σ 83 j) (nI m) l (f0.toInt + 3 * i) = 0 → rs_v (σ 75 0) (fun x => σ 85 (40 * j + x)) f0.toInt.toNat i = true → sc + i < 12 → rs_r (σ 83 j) (nI m) l f0 (σ 75 0) (fun x => σ 85 (40 * j + x)) sc q (i + 1) = res → ∀ (x8 : Int32) (x9 : Int64), q_G YX8_read E 0 0 32 [some (.ref 72), some (.int (nI j)), some (.int l), some (.int f0), some (.int (nI n0)), some (.int (0)), some (.int (nI (i + 1))), some (.int (nI (i + 1))), some (.int x8), some (.long x9), none] [] q_SH σ (rs_PM σ j f0 sc res)) (c : Nat) (x : Int64) : q_G YX8_read E 0 0 134 [some (.ref 72), some (.int (nI j)), some (.int l), some (.int f0), some (.int (nI n0)), some (.int (rs_f (σ 83 j) (nI m) l (f0.toInt + 3 * i))), some (.int (nI i)), some (.int (nI i)), some (.int (nI c)), some (.long x), none] [] q_SH σ (rs_PM σ j f0 sc res) := by
  have hit := nI_toInt (n := i) (by omega)
  have hnt := nI_toInt (n := n0) (by omega)
  refine q_iload dX8_read_134 rfl ?_
  refine q_if_ne 226 dX8_read_136 (by decide) (fun h136 => ?_) (fun h136 => ?_)
  · rw [if_pos h136] at hres
    subst hres
    refine q_inc 1 dX8_read_226 (by decide) rfl (by decide) rfl ?_
    refine q_goto 32 dX8_read_229 (by decide) ?_
    refine q_iload dX8_read_32 rfl ?_
    refine q_iload dX8_read_34 rfl ?_
    refine q_cge 232 dX8_read_36 (by decide) (fun h36 => ?_) (fun h36 => ?_)
    · exact sgX8_read2 h4 hmm84 h40 hsc (by omega) hv
    · refine q_iload dX8_read_39 rfl ?_
      refine q_if_ne 232 dX8_read_41 (by decide) (fun h41 => ?_) (fun h41 => ?_)
      · exact sgX8_read2 h4 hmm84 h40 hsc (by omega) hv
      · exact absurd h41 h136
  · rw [if_neg (fun z : ¬ _ = _ => z h136)] at hres
    obtain ⟨f1, f2, f3, f4⟩ := rs_f_0 h136
    rw [nI_toInt (by omega)] at f4
    have hp0 : 0 ≤ f0.toInt := by
      by_cases hi0 : i = 0
      · subst hi0
        omega
      · have q := (rs_f_0 (hv 0 (by omega)).1).2.2.1
        omega
    have ef := i_nI hp0
    refine q_bipush (x := 40) dX8_read_139 (by decide) ?_
    refine q_iload_n dX8_read_141 rfl ?_
    refine q_imul dX8_read_142 ?_
    refine q_iload_n dX8_read_143 rfl ?_
    refine q_iadd dX8_read_144 ?_
    refine q_iconst (x := 3) dX8_read_145 (by decide) ?_
    refine q_iload dX8_read_146 rfl ?_
    refine q_imul dX8_read_148 ?_
    refine q_iadd dX8_read_149 ?_
    refine q_tope (y := nI (40 * j + (f0.toInt.toNat + 3 * i))) (by rw [ef]; rw [show (40 : Int32) = nI 40 from rfl, show (3 : Int32) = nI 3 from rfl, pk_mul, pk_mul, nI_add, nI_add, nI_toInt (by omega)]; congr 1; omega) ?_
    refine q_istore dX8_read_150 (by decide) rfl ?_
    refine q_lr (ls' := [some (.ref 72), some (.int (nI j)), some (.int l), some (.int f0), some (.int (nI n0)), some (.int (rs_f (σ 83 j) (nI m) l (f0.toInt + 3 * i))), some (.int (nI i)), some (.int (nI i)), some (.int (nI (40 * j + (f0.toInt.toNat + 3 * i)))), some (.long x), none]) rfl ?_
    have hx0 := nI_toInt (n := (40 * j + (f0.toInt.toNat + 3 * i))) (by omega)
    have hx1 := nI_toInt (n := (40 * j + (f0.toInt.toNat + 3 * i + 1))) (by omega)
    have hx2 := nI_toInt (n := (40 * j + (f0.toInt.toNat + 3 * i + 2))) (by omega)
    refine q_aload_n dX8_read_152 rfl ?_
    refine q_getr fX8_47 dX8_read_153 (by first | rfl | assumption) (by rfl) ?_
    refine q_iload dX8_read_156 rfl ?_
    refine q_ild (40 * j + (f0.toInt.toNat + 3 * i)) (by first | rfl | assumption) hx0 (by omega) dX8_read_158 ?_
    refine q_tope (y := σ 85 (40 * j + (f0.toInt.toNat + 3 * i))) rfl ?_
    refine q_cSi lX8_174 sX8_isThumb dX8_read_159 kX8_isThumb rfl rfl (Nat.le_of_ble_eq_true rfl) (by decide) ?_
    refine q_beq 199 dX8_read_162 (by decide) (fun h162 => ?_) (fun h162 => ?_)
    · refine q_bipush (x := (-20)) dX8_read_199 (by decide) ?_
      refine q_iload dX8_read_201 rfl ?_
      refine q_isub dX8_read_203 ?_
      refine q_ret dX8_read_204 ?_ rfl rfl
      have hvv : rs_v (σ 75 0) (fun x => σ 85 (40 * j + x)) f0.toInt.toNat i = false := by
        first
          | rw [rs_v, h162, Bool.false_and, Bool.false_and]
          | rw [rs_v, h178, Bool.and_false, Bool.false_and]
          | rw [rs_v, h196, Bool.and_false]
      rw [if_pos hvv] at hres
      subst hres
      exact ⟨rfl, rfl, rfl⟩
    · refine q_aload_n dX8_read_165 rfl ?_
      refine q_aload_n dX8_read_166 rfl ?_
      refine q_getr fX8_47 dX8_read_167 (by first | rfl | assumption) (by rfl) ?_
      refine q_iload dX8_read_170 rfl ?_
      refine q_iconst (x := 1) dX8_read_172 (by decide) ?_
      refine q_iadd dX8_read_173 ?_
      refine q_ild (40 * j + (f0.toInt.toNat + 3 * i + 1)) (by first | rfl | assumption) (by rw [nI_1]; exact hx1) (by omega) dX8_read_174 ?_
      refine q_tope (y := σ 85 (40 * j + (f0.toInt.toNat + 3 * i + 1))) rfl ?_
      refine q_cVi lX8_202 vX8_isDepth (ci := 8) rfl dX8_read_175 kX8_isDepth (by first | rfl | assumption) rfl rfl (Nat.le_of_ble_eq_true rfl) (by decide) ?_
      refine q_beq 199 dX8_read_178 (by decide) (fun h178 => ?_) (fun h178 => ?_)
      · refine q_bipush (x := (-20)) dX8_read_199 (by decide) ?_
        refine q_iload dX8_read_201 rfl ?_
        refine q_isub dX8_read_203 ?_
        refine q_ret dX8_read_204 ?_ rfl rfl
        have hvv : rs_v (σ 75 0) (fun x => σ 85 (40 * j + x)) f0.toInt.toNat i = false := by
          first
            | rw [rs_v, h162, Bool.false_and, Bool.false_and]
            | rw [rs_v, h178, Bool.and_false, Bool.false_and]
            | rw [rs_v, h196, Bool.and_false]
        rw [if_pos hvv] at hres
        subst hres
        exact ⟨rfl, rfl, rfl⟩
      · refine q_aload_n dX8_read_181 rfl ?_
        refine q_getr fX8_47 dX8_read_182 (by first | rfl | assumption) (by rfl) ?_
        refine q_iload dX8_read_185 rfl ?_
        refine q_iconst (x := 2) dX8_read_187 (by decide) ?_
        refine q_iadd dX8_read_188 ?_
        refine q_ild (40 * j + (f0.toInt.toNat + 3 * i + 2)) (by first | rfl | assumption) (by rw [nI_p2]; exact hx2) (by omega) dX8_read_189 ?_
        refine q_tope (y := σ 85 (40 * j + (f0.toInt.toNat + 3 * i + 2))) rfl ?_
        refine q_i2l dX8_read_190 ?_
        refine q_lconst (x := 0) dX8_read_191 (by decide) ?_
        refine q_lconst (x := 1) dX8_read_192 (by decide) ?_
        refine q_cSi lX8_72 sX8_in dX8_read_193 (kX8_in (x := (σ 85 (40 * j + (f0.toInt.toNat + 3 * i + 2)))) (lo := 0) (hi := 1) (Int32.toInt_toInt64 _) rfl rfl) rfl rfl (Nat.le_of_ble_eq_true rfl) (by decide) ?_
        refine q_bne 205 dX8_read_196 (by decide) (fun h196 => ?_) (fun h196 => ?_)
        · have hvv : rs_v (σ 75 0) (fun x => σ 85 (40 * j + x)) f0.toInt.toNat i = true := by rw [rs_v, h162, h178, h196]; rfl
          rw [if_neg (sp_nt hvv)] at hres
          refine q_aload_n dX8_read_205 rfl ?_
          refine q_getr fX8_7 dX8_read_206 (by first | rfl | assumption) (by rfl) ?_
          refine q_bipush (x := 54) dX8_read_209 (by decide) ?_
          refine q_ild 54 (by first | rfl | assumption) rfl (by decide) dX8_read_211 ?_
          refine q_tope (y := nI sc) hsc ?_
          refine q_iload dX8_read_212 rfl ?_
          refine q_iadd dX8_read_214 ?_
          refine q_tope (y := nI (sc + i)) (nI_add _ _) ?_
          refine q_bipush (x := 12) dX8_read_215 (by decide) ?_
          refine q_icmp_ne 223 dX8_read_217 (by decide) (fun h217 => ?_) (fun h217 => ?_)
          · have hs12 : ¬ 12 ≤ sc + i := by
              have := sp_ne (b := 12) h217
              omega
            rw [if_neg hs12] at hres
            refine q_inc 1 dX8_read_223 (by decide) rfl (by decide) rfl ?_
            refine q_inc 1 dX8_read_226 (by decide) rfl (by decide) rfl ?_
            refine q_goto 32 dX8_read_229 (by decide) ?_
            have z := K h136 hvv (by omega) hres (nI (40 * j + (f0.toInt.toNat + 3 * i))) x
            rw [nI_1, h136]
            exact z
          · have hs12 : sc + i = 12 := sp_eq (b := 12) (by omega) (by decide) h217
            rw [if_pos (by omega)] at hres
            subst hres
            refine q_bipush (x := (-3)) dX8_read_220 (by decide) ?_
            refine q_ret dX8_read_222 ?_ rfl rfl
            exact ⟨rfl, rfl, rfl⟩
        · refine q_bipush (x := (-20)) dX8_read_199 (by decide) ?_
          refine q_iload dX8_read_201 rfl ?_
          refine q_isub dX8_read_203 ?_
          refine q_ret dX8_read_204 ?_ rfl rfl
          have hvv : rs_v (σ 75 0) (fun x => σ 85 (40 * j + x)) f0.toInt.toNat i = false := by
            first
              | rw [rs_v, h162, Bool.false_and, Bool.false_and]
              | rw [rs_v, h178, Bool.and_false, Bool.false_and]
              | rw [rs_v, h196, Bool.and_false]
          rw [if_pos hvv] at hres
          subst hres
          exact ⟨rfl, rfl, rfl⟩

set_option maxHeartbeats 1000000 in
set_option maxRecDepth 100000 in
theorem lpX8_read1 {E : q_E} {σ : q_M} {j n0 m sc : Nat} {l f0 : Int32} (h4 : j < 4) (hmm84 : σ 84 j = nI m) (h40 : m ≤ 40) (hn12 : n0 ≤ 12) (hsc : σ 73 54 = nI sc) (h12 : sc ≤ 12) {res : Int32 ⊕ (Nat × Int32)} : ∀ (n : Nat) (i : Nat) (rs : Int32) (o8 o9 : Option Value), n0 + 1 ≤ i + n → i ≤ n0 → sc + i ≤ 12 → rs = 0 → (∀ w, o9 = some w → ∃ x, w = .long x) → (∀ k, k < i → rs_f (σ 83 j) (nI m) l (f0.toInt + 3 * k) = 0 ∧ rs_v (σ 75 0) (fun x => σ 85 (40 * j + x)) f0.toInt.toNat k = true ∧ sc + k < 12) → rs_r (σ 83 j) (nI m) l f0 (σ 75 0) (fun x => σ 85 (40 * j + x)) sc (n0 - i) i = res → q_G YX8_read E 0 0 32 [some (.ref 72), some (.int (nI j)), some (.int l), some (.int f0), some (.int (nI n0)), some (.int (rs)), some (.int (nI i)), some (.int (nI i)), o8, o9, none] [] q_SH σ (rs_PM σ j f0 sc res) := by
  intro n
  induction n with
  | zero =>
    intro i rs o8 o9 hmm h0 hsi hrs ho hv hres
    exact absurd hmm (by omega)
  | succ n ih =>
    intro i rs o8 o9 hmm h0 hsi hrs ho hv hres
    have hit := nI_toInt (n := i) (by omega)
    have hnt := nI_toInt (n := n0) (by omega)
    refine q_iload dX8_read_32 rfl ?_
    refine q_iload dX8_read_34 rfl ?_
    refine q_cge 232 dX8_read_36 (by decide) (fun h36 => ?_) (fun h36 => ?_)
    · have e : i = n0 := by omega
      subst e
      rw [Nat.sub_self] at hres
      have hres2 : Sum.inr (i, 0) = res := hres
      subst hres2
      subst hrs
      exact sgX8_read2 h4 hmm84 h40 hsc (by omega) hv
    · obtain ⟨q, hq⟩ : ∃ q, n0 - i = q + 1 := ⟨n0 - i - 1, by omega⟩
      rw [hq, rs_r] at hres
      refine q_iload dX8_read_39 rfl ?_
      refine q_if_ne 232 dX8_read_41 (by decide) (fun h41 => ?_) (fun h41 => ?_)
      · exact absurd hrs h41
      · subst hrs
        refine q_iconst (x := 0) dX8_read_44 (by decide) ?_
        refine q_istore dX8_read_45 (by decide) rfl ?_
        exact lpX8_read0 h4 hmm84 h40 (by omega) (sgX8_read3 h4 hmm84 h40 hn12 hsc (by omega) hsi hv hq hres (fun v1 v2 v3 hr x8 x9 => ih (i + 1) 0 _ (some (.long x9)) (by omega) (by omega) (by omega) rfl (fun w hw => by cases hw; exact ⟨_, rfl⟩) (fun k hk => if hki0 : k < i then hv k hki0 else by have hki : k = i := (by omega); subst hki; exact ⟨v1, v2, v3⟩) (by rw [show n0 - (i + 1) = q by omega]; exact hr))) 4 0 o9 (by omega) (by omega) (fun w hw => ho w hw) (Or.inl rfl)

set_option maxHeartbeats 1000000 in
set_option maxRecDepth 100000 in
theorem kX8_readB {σ : q_M} {k l f0 n : Int32} (hbad : (q_win k 0 3 && q_win l 0 2 && q_win n 0 12) = false) : q_Ct YX8_read [.ref 72, .int k, .int l, .int f0, .int n] q_SH σ (q_is (some (-1)) q_SH σ) := by
  refine q_ct (n := 6) (by decide) (by decide) rfl (fun _ => Nat.le_of_ble_eq_true rfl) (fun E => ?_)
  refine q_iload_n dX8_read_0 rfl ?_
  refine q_iload_n dX8_read_1 rfl ?_
  refine q_cSi lX8_294 sX8_isSheet dX8_read_2 kX8_isSheet rfl rfl (Nat.le_of_ble_eq_true rfl) (by decide) ?_
  refine q_beq 21 dX8_read_5 (by decide) (fun h5 => ?_) (fun h5 => ?_)
  · refine q_iconst (x := (-1)) dX8_read_21 (by decide) ?_
    refine q_ret dX8_read_22 ?_ rfl rfl
    exact ⟨rfl, rfl, rfl⟩
  · refine q_iload dX8_read_8 rfl ?_
    refine q_i2l dX8_read_10 ?_
    refine q_lconst (x := 0) dX8_read_11 (by decide) ?_
    refine q_ldc2 kX8_297 dX8_read_12 ?_
    refine q_cSi lX8_72 sX8_in dX8_read_15 (kX8_in (x := n) (lo := 0) (hi := 12) (Int32.toInt_toInt64 _) rfl rfl) rfl rfl (Nat.le_of_ble_eq_true rfl) (by decide) ?_
    refine q_bne 23 dX8_read_18 (by decide) (fun h18 => ?_) (fun h18 => ?_)
    · exact absurd hbad (by rw [h5, h18]; decide)
    · refine q_iconst (x := (-1)) dX8_read_21 (by decide) ?_
      refine q_ret dX8_read_22 ?_ rfl rfl
      exact ⟨rfl, rfl, rfl⟩

set_option maxHeartbeats 1000000 in
set_option maxRecDepth 100000 in
theorem kX8_read {σ : q_M} {j n0 m sc : Nat} {l f0 : Int32} (h4 : j < 4) (hmm84 : σ 84 j = nI m) (h40 : m ≤ 40) (hn12 : n0 ≤ 12) (hsc : σ 73 54 = nI sc) (h12 : sc ≤ 12) (hl : q_win l 0 2 = true) : q_Ct YX8_read [.ref 72, .int (nI j), .int l, .int f0, .int (nI n0)] q_SH σ (rs_PM σ j f0 sc (rs_r (σ 83 j) (nI m) l f0 (σ 75 0) (fun x => σ 85 (40 * j + x)) sc n0 0)) := by
  refine q_ct (n := 6) (by decide) (by decide) rfl (fun _ => Nat.le_of_ble_eq_true rfl) (fun E => ?_)
  have hjt := nI_toInt (n := j) (by omega)
  have hnt := nI_toInt (n := n0) (by omega)
  have e0 : (0 : Int32).toInt = 0 := rfl
  have e3 : (3 : Int32).toInt = 3 := rfl
  have e12 : (12 : Int32).toInt = 12 := rfl
  have hjw : q_win (nI j) 0 3 = true := decide_eq_true (by omega)
  refine q_iload_n dX8_read_0 rfl ?_
  refine q_iload_n dX8_read_1 rfl ?_
  refine q_cSi lX8_294 sX8_isSheet dX8_read_2 kX8_isSheet rfl rfl (Nat.le_of_ble_eq_true rfl) (by decide) ?_
  refine q_beq 21 dX8_read_5 (by decide) (fun h5 => ?_) (fun h5 => ?_)
  · exact absurd h5 (by rw [hl, hjw]; decide)
  · refine q_iload dX8_read_8 rfl ?_
    refine q_i2l dX8_read_10 ?_
    refine q_lconst (x := 0) dX8_read_11 (by decide) ?_
    refine q_ldc2 kX8_297 dX8_read_12 ?_
    refine q_cSi lX8_72 sX8_in dX8_read_15 (kX8_in (x := (nI n0)) (lo := 0) (hi := 12) (Int32.toInt_toInt64 _) rfl rfl) rfl rfl (Nat.le_of_ble_eq_true rfl) (by decide) ?_
    refine q_bne 23 dX8_read_18 (by decide) (fun h18 => ?_) (fun h18 => ?_)
    · refine q_iconst (x := 0) dX8_read_23 (by decide) ?_
      refine q_istore dX8_read_24 (by decide) rfl ?_
      refine q_iconst (x := 0) dX8_read_26 (by decide) ?_
      refine q_istore dX8_read_27 (by decide) rfl ?_
      refine q_iconst (x := 0) dX8_read_29 (by decide) ?_
      refine q_istore dX8_read_30 (by decide) rfl ?_
      exact lpX8_read1 h4 hmm84 h40 hn12 hsc h12 (n0 + 1) 0 0 _ none (by omega) (by omega) (by omega) rfl (fun w hw => by cases hw) (fun k hk => by omega) rfl
    · exact absurd (q_win_f h18) (by omega)
