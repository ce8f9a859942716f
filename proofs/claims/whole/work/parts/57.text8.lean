/-! the reference: a diver's line -/
/-- the withs, up to what isn't one -/
def rm_w (c : Nat → Int32) (L : Nat) : Nat → Bool → Bool → (Nat → Int32) → Nat → sp_F ⊕ ((Nat → Int32) × Nat)
  | 0, _, _, _, _ => .inl (2, 0)
  | n + 1, lk, rt, f, p => if sp_ok c L p = false then .inl (1, sp_s c L p) else if ¬ sp_d c L p = 1 then .inr (f, p) else
    if sp_nm c (sp_s c L p) (sp_e c L p) 1 = true then (if lk = true then .inl (4, sp_s c L p) else sp_b (sp_num c L 0 99 (sp_e c L p)) fun y => rm_w c L n true rt (sp_u f 2 y.1) y.2)
    else if sp_nm c (sp_s c L p) (sp_e c L p) 2 = true then (if rt = true then .inl (4, sp_s c L p) else sp_b (sp_num c L 0 99 (sp_e c L p)) fun y => rm_w c L n lk true (sp_u f 3 y.1) y.2)
    else if sp_nm c (sp_s c L p) (sp_e c L p) 3 = true then (if f 7 = 0 then rm_w c L n lk rt (sp_u f 7 1) (sp_e c L p) else .inl (4, sp_s c L p))
    else .inl (2, sp_s c L p)
theorem rm_w_no {c : Nat → Int32} {L : Nat} (n : Nat) {lk rt : Bool} {f : Nat → Int32} {p : Nat} (h : sp_ok c L p = false) : rm_w c L (n + 1) lk rt f p = .inl (1, sp_s c L p) := by
  rw [rm_w, if_pos h]
theorem sp_st_no {c : Nat → Int32} {L p : Nat} (h : sp_ok c L p = false) : sp_st c L p = .inl (1, sp_s c L p) := if_pos h
theorem sp_b_b {α β γ : Type} (x : sp_F ⊕ α) (f : α → sp_F ⊕ β) (g : β → sp_F ⊕ γ) : sp_b (sp_b x f) g = sp_b x fun y => sp_b (f y) g := by
  cases x <;> rfl
theorem sp_w_eq {c : Nat → Int32} {L : Nat} : ∀ (n : Nat) (lk rt : Bool) (f : Nat → Int32) (p : Nat), sp_w c L n lk rt f p = sp_b (rm_w c L n lk rt f p) fun w => sp_b (sp_st c L w.2) fun q => .inr (w.1, q)
  | 0, _, _, _, _ => rfl
  | n + 1, lk, rt, f, p => by
    have ih := sp_w_eq (c := c) (L := L) n
    cases hok : sp_ok c L p with
    | false => rw [rm_w_no n hok, sp_w, if_pos hok]; rfl
    | true =>
      rw [sp_w, rm_w, if_neg (sp_nt hok), if_neg (sp_nt hok)]
      by_cases h1 : sp_d c L p = 1
      · rw [if_neg (show ¬ sp_d c L p = 3 by omega), if_neg (show ¬ ¬ sp_d c L p = 1 by omega), decide_eq_true h1]
        simp only [Bool.true_and]
        by_cases n1 : sp_nm c (sp_s c L p) (sp_e c L p) 1 = true
        · rw [if_pos n1, if_pos n1]
          by_cases k1 : lk = true
          · rw [if_pos k1, if_pos k1]; rfl
          · rw [if_neg k1, if_neg k1, sp_b_b]
            congr 1
            funext y
            exact ih _ _ _ _
        · rw [if_neg n1, if_neg n1]
          by_cases n2 : sp_nm c (sp_s c L p) (sp_e c L p) 2 = true
          · rw [if_pos n2, if_pos n2]
            by_cases k1 : rt = true
            · rw [if_pos k1, if_pos k1]; rfl
            · rw [if_neg k1, if_neg k1, sp_b_b]
              congr 1
              funext y
              exact ih _ _ _ _
          · rw [if_neg n2, if_neg n2]
            by_cases n3 : sp_nm c (sp_s c L p) (sp_e c L p) 3 = true
            · rw [if_pos n3, if_pos n3]
              by_cases k1 : f 7 = 0
              · rw [if_pos k1, if_pos k1]
                exact ih _ _ _ _
              · rw [if_neg k1, if_neg k1]; rfl
            · rw [if_neg n3, if_neg n3]; rfl
      · rw [if_pos h1, sp_b_r]
        unfold sp_st
        rw [if_neg (sp_nt hok)]
        by_cases h3 : sp_d c L p = 3
        · rw [if_pos h3, if_pos h3]; rfl
        · rw [if_neg h3, if_neg h3, decide_eq_false h1]
          rfl
section RMV
variable {σ0 σ τ : q_M} {c : Nat → Int32} {L p : Nat} {D : sp_D}
/-- a number is read into a diver's field -/
theorem rm_vu {X : sp_F ⊕ ((Nat → Int32) × Nat)} {lo hi : Int32} {x : Nat} (hx : x < 8) (hZ : rm_V σ0 c L D X σ) (hq : rm_f1 σ τ ∧ rm_Q c L (rm_num c L lo hi (rm_sn X)) τ) : rm_V σ0 c L D (sp_b X fun y => sp_b (sp_num c L lo hi y.2) fun z => .inr (sp_u y.1 (rm_o x) z.1, z.2)) (q_up τ 79 (8 * D.2.2.2.1 + x) (σ 72 14)) := by
  refine ⟨(hZ.1.tr hq.1.fr).uc (Or.inr (Or.inr rfl)), ?_⟩
  cases X with
  | inl w => exact ⟨hq.2.1.f1 (by decide), hq.2.2⟩
  | inr y =>
    have hq2 : rm_Q c L (sp_b (sp_num c L lo hi y.2) fun z => .inr z.2) τ := hq.2
    rw [sp_b_r]
    cases hn : sp_num c L lo hi y.2 with
    | inl w =>
      rw [hn] at hq2
      exact ⟨hq2.1.f1 (by decide), hq2.2⟩
    | inr z =>
      rw [hn] at hq2
      have hok := (sp_num_r hn).2.2.2.2
      have e := rm_val hZ.2.2.1 hn
      refine ⟨fun _ => ?_, hq2.1.f1 (by decide), hq2.2⟩
      rw [e]
      exact rm_Dn.put (rm_Dn.f1 (hZ.2.1 hok) hq.1) hx
theorem rm_V.of (hZ : rm_Z σ0 c L (.inr (D, p)) σ) (h6 : D.2.2.2.1 < 6) : rm_V σ0 c L D (.inr (fun _ => 0, p)) σ := ⟨hZ.1, fun hok => rm_Dn.one (hZ.2.1 hok) h6, hZ.2.2⟩
end RMV
theorem rm_wn_c (c : Nat → Int32) (s e : Nat) : (rm_wn c s e = 10 ∧ sp_nm c s e 1 = true) ∨ (rm_wn c s e = 11 ∧ sp_nm c s e 1 = false ∧ sp_nm c s e 2 = true) ∨ (rm_wn c s e = 12 ∧ sp_nm c s e 1 = false ∧ sp_nm c s e 2 = false ∧ sp_nm c s e 3 = true) ∨ (rm_wn c s e = -4 ∧ sp_nm c s e 1 = false ∧ sp_nm c s e 2 = false ∧ sp_nm c s e 3 = false) := by
  unfold rm_wn
  cases sp_nm c s e 1 <;> cases sp_nm c s e 2 <;> cases sp_nm c s e 3 <;> simp

set_option maxHeartbeats 1000000 in
set_option maxRecDepth 100000 in
theorem sgX8_rdF {E : q_E} {σ : q_M} {σ0 : q_M} {c : Nat → Int32} {L : Nat} (ht0 : rm_t σ0 c L) {D : sp_D} {res : sp_F ⊕ ((Nat → Int32) × Nat)} (hfr : rm_fr σ0 σ) {w : sp_F} (hF : rm_Fw w σ) (h1 : 1 ≤ w.1) (h5 : w.1 ≤ 5) (hres : res = .inl w) {had : Int32} {ol : Option Value} : q_G YX8_readDiver E 0 0 42 [some (.ref 72), some (.int (nI (8 * D.2.2.2.1))), some (.int had), ol] [] q_SH σ (q_rv q_SH (rm_Z σ0 c L (sp_b res fun w => .inr ((D.1, D.2.1, D.2.2.1, D.2.2.2.1 + 1, sp_u D.2.2.2.2 D.2.2.2.1 w.1), w.2)))) := by
  refine q_aload_n dX8_readDiver_42 rfl ?_
  refine q_get fX8_76 dX8_readDiver_43 (by first | rfl | assumption) (by rfl) ?_
  refine q_if_ne 176 dX8_readDiver_46 (by decide) (fun h46 => ?_) (fun h46 => ?_)
  · refine q_aload_n dX8_readDiver_176 rfl ?_
    refine q_dup rfl dX8_readDiver_177 ?_
    refine q_get fX8_56 dX8_readDiver_178 (by first | rfl | assumption) (by rfl) ?_
    refine q_iconst (x := 1) dX8_readDiver_181 (by decide) ?_
    refine q_iadd dX8_readDiver_182 ?_
    refine q_put_i pX8_56 dX8_readDiver_183 (by first | rfl | assumption) (by rfl) rfl rfl ?_
    refine q_vret dX8_readDiver_186 ?_ rfl rfl
    subst hres
    exact ⟨rfl, rfl, hfr.uf (Or.inl rfl), ⟨hF.1, hF.2⟩, h1, h5⟩
  · exact absurd h46 (hF.pos h1 h5).2

set_option maxHeartbeats 1000000 in
set_option maxRecDepth 100000 in
theorem sgX8_rdG {E : q_E} {σ : q_M} {σ0 : q_M} {c : Nat → Int32} {L : Nat} (ht0 : rm_t σ0 c L) {D : sp_D} {res : sp_F ⊕ ((Nat → Int32) × Nat)} (hfr : rm_fr σ0 σ) {w : sp_F} (hF : rm_Fw w σ) (h1 : 1 ≤ w.1) (h5 : w.1 ≤ 5) (hres : res = .inl w) {had wv : Int32} : q_G YX8_readDiver E 0 0 96 [some (.ref 72), some (.int (nI (8 * D.2.2.2.1))), some (.int had), some (.int wv)] [] q_SH σ (q_rv q_SH (rm_Z σ0 c L (sp_b res fun w => .inr ((D.1, D.2.1, D.2.2.1, D.2.2.2.1 + 1, sp_u D.2.2.2.2 D.2.2.2.1 w.1), w.2)))) := by
  refine q_iload_n dX8_readDiver_96 rfl ?_
  refine q_iload_n dX8_readDiver_97 rfl ?_
  refine q_bipush (x := (-4)) dX8_readDiver_98 (by decide) ?_
  refine q_icmp_ne 107 dX8_readDiver_100 (by decide) (fun h100 => ?_) (fun h100 => ?_)
  · refine q_iconst (x := 1) dX8_readDiver_107 (by decide) ?_
    refine q_iload_n dX8_readDiver_108 rfl ?_
    refine q_ishl dX8_readDiver_109 ?_
    refine q_ior dX8_readDiver_110 ?_
    refine q_istore_n dX8_readDiver_111 (by decide) rfl ?_
    refine q_aload_n dX8_readDiver_112 rfl ?_
    refine q_cVv lX8_118 vX8_next (ci := 8) rfl dX8_readDiver_113 (kX8_nextF (hF.pos h1 h5).1) (by first | rfl | assumption) rfl rfl (Nat.le_of_ble_eq_true rfl) (by decide) ?_
    refine q_aload_n dX8_readDiver_116 rfl ?_
    refine q_get fX8_76 dX8_readDiver_117 (by first | rfl | assumption) (by rfl) ?_
    refine q_if_ne 141 dX8_readDiver_120 (by decide) (fun h120 => ?_) (fun h120 => ?_)
    · refine q_aload_n dX8_readDiver_141 rfl ?_
      refine q_get fX8_76 dX8_readDiver_142 (by first | rfl | assumption) (by rfl) ?_
      refine q_if_ne 173 dX8_readDiver_145 (by decide) (fun h145 => ?_) (fun h145 => ?_)
      · refine q_goto 42 dX8_readDiver_173 (by decide) ?_
        exact sgX8_rdF ht0 hfr hF h1 h5 hres
      · exact absurd h145 (hF.pos h1 h5).2
    · exact absurd h120 (hF.pos h1 h5).2
  · refine q_iconst (x := 0) dX8_readDiver_103 (by decide) ?_
    refine q_goto 110 dX8_readDiver_104 (by decide) ?_
    refine q_ior dX8_readDiver_110 ?_
    refine q_istore_n dX8_readDiver_111 (by decide) rfl ?_
    refine q_aload_n dX8_readDiver_112 rfl ?_
    refine q_cVv lX8_118 vX8_next (ci := 8) rfl dX8_readDiver_113 (kX8_nextF (hF.pos h1 h5).1) (by first | rfl | assumption) rfl rfl (Nat.le_of_ble_eq_true rfl) (by decide) ?_
    refine q_aload_n dX8_readDiver_116 rfl ?_
    refine q_get fX8_76 dX8_readDiver_117 (by first | rfl | assumption) (by rfl) ?_
    refine q_if_ne 141 dX8_readDiver_120 (by decide) (fun h120 => ?_) (fun h120 => ?_)
    · refine q_aload_n dX8_readDiver_141 rfl ?_
      refine q_get fX8_76 dX8_readDiver_142 (by first | rfl | assumption) (by rfl) ?_
      refine q_if_ne 173 dX8_readDiver_145 (by decide) (fun h145 => ?_) (fun h145 => ?_)
      · refine q_goto 42 dX8_readDiver_173 (by decide) ?_
        exact sgX8_rdF ht0 hfr hF h1 h5 hres
      · exact absurd h145 (hF.pos h1 h5).2
    · exact absurd h120 (hF.pos h1 h5).2

set_option maxHeartbeats 1000000 in
set_option maxRecDepth 100000 in
theorem sgX8_rdH {E : q_E} {σ : q_M} {σ0 : q_M} {c : Nat → Int32} {L : Nat} (ht0 : rm_t σ0 c L) {D : sp_D} {res : sp_F ⊕ ((Nat → Int32) × Nat)} (hfr : rm_fr σ0 σ) {p : Nat} (hT : rm_T c L p σ) (hres : res = .inl (4, sp_s c L p)) {had wv : Int32} : q_G YX8_readDiver E 0 0 91 [some (.ref 72), some (.int (nI (8 * D.2.2.2.1))), some (.int had), some (.int wv)] [.ref 72] q_SH σ (q_rv q_SH (rm_Z σ0 c L (sp_b res fun w => .inr ((D.1, D.2.1, D.2.2.1, D.2.2.2.1 + 1, sp_u D.2.2.2.2 D.2.2.2.1 w.1), w.2)))) := by
  refine q_iconst (x := 0) dX8_readDiver_91 (by decide) ?_
  refine q_iconst (x := 4) dX8_readDiver_92 (by decide) ?_
  refine q_cVv lX8_110 vX8_needs (ci := 8) rfl dX8_readDiver_93 kX8_needs (by first | rfl | assumption) rfl rfl (Nat.le_of_ble_eq_true rfl) (by decide) ?_
  refine q_mem (rm_nd_f rfl hT.2.2.2.2) ?_
  have hfr1 : rm_fr σ0 (q_up (q_up σ 72 15 4) 72 16 (σ 72 12)) := hfr.tr (((rm_f1.rf σ).up (by decide)).up (by decide)).fr
  have hFw : rm_Fw (4, sp_s c L p) (q_up (q_up σ 72 15 4) 72 16 (σ 72 12)) := ⟨rfl, hT.2.1⟩
  exact sgX8_rdG ht0 hfr1 hFw (Nat.le_of_ble_eq_true rfl) (Nat.le_of_ble_eq_true rfl) hres

set_option maxHeartbeats 1000000 in
set_option maxRecDepth 100000 in
theorem sgX8_rdN {E : q_E} {σ : q_M} {σ0 : q_M} {c : Nat → Int32} {L : Nat} (ht0 : rm_t σ0 c L) {D : sp_D} {res : sp_F ⊕ ((Nat → Int32) × Nat)} (hfr : rm_fr σ0 σ) {p : Nat} (hT : rm_T c L p σ) (hres : res = .inl (2, sp_s c L p)) {had : Int32} {ol : Option Value} : q_G YX8_readDiver E 0 0 61 [some (.ref 72), some (.int (nI (8 * D.2.2.2.1))), some (.int had), ol] [.int (-4)] q_SH σ (q_rv q_SH (rm_Z σ0 c L (sp_b res fun w => .inr ((D.1, D.2.1, D.2.2.1, D.2.2.2.1 + 1, sp_u D.2.2.2.2 D.2.2.2.1 w.1), w.2)))) := by
  refine q_istore_n dX8_readDiver_61 (by decide) rfl ?_
  refine q_aload_n dX8_readDiver_62 rfl ?_
  refine q_iload_n dX8_readDiver_63 rfl ?_
  refine q_bipush (x := (-4)) dX8_readDiver_64 (by decide) ?_
  refine q_icmp_eq 73 dX8_readDiver_66 (by decide) (fun h66 => ?_) (fun h66 => ?_)
  · refine q_iconst (x := 0) dX8_readDiver_73 (by decide) ?_
    refine q_iconst (x := 2) dX8_readDiver_74 (by decide) ?_
    refine q_cVv lX8_110 vX8_needs (ci := 8) rfl dX8_readDiver_75 kX8_needs (by first | rfl | assumption) rfl rfl (Nat.le_of_ble_eq_true rfl) (by decide) ?_
    refine q_mem (rm_nd_f rfl hT.2.2.2.2) ?_
    have hfr1 : rm_fr σ0 (q_up (q_up σ 72 15 2) 72 16 (σ 72 12)) := hfr.tr (((rm_f1.rf σ).up (by decide)).up (by decide)).fr
    have hFw : rm_Fw (2, sp_s c L p) (q_up (q_up σ 72 15 2) 72 16 (σ 72 12)) := ⟨rfl, hT.2.1⟩
    refine q_aload_n dX8_readDiver_78 rfl ?_
    refine q_iload_n dX8_readDiver_79 rfl ?_
    refine q_iload_n dX8_readDiver_80 rfl ?_
    refine q_ishr dX8_readDiver_81 ?_
    refine q_iconst (x := 1) dX8_readDiver_82 (by decide) ?_
    refine q_iand dX8_readDiver_83 ?_
    refine q_if_ne 91 dX8_readDiver_84 (by decide) (fun h84 => ?_) (fun h84 => ?_)
    · refine q_iconst (x := 0) dX8_readDiver_91 (by decide) ?_
      refine q_iconst (x := 4) dX8_readDiver_92 (by decide) ?_
      refine q_cVv lX8_110 vX8_needs (ci := 8) rfl dX8_readDiver_93 kX8_needs (by first | rfl | assumption) rfl rfl (Nat.le_of_ble_eq_true rfl) (by decide) ?_
      refine q_mem (rm_nd_n (Or.inr (hFw.pos (Nat.le_of_ble_eq_true rfl) (Nat.le_of_ble_eq_true rfl)).2)) ?_
      exact sgX8_rdG ht0 hfr1 hFw (Nat.le_of_ble_eq_true rfl) (Nat.le_of_ble_eq_true rfl) hres
    · refine q_iconst (x := 1) dX8_readDiver_87 (by decide) ?_
      refine q_goto 92 dX8_readDiver_88 (by decide) ?_
      refine q_iconst (x := 4) dX8_readDiver_92 (by decide) ?_
      refine q_cVv lX8_110 vX8_needs (ci := 8) rfl dX8_readDiver_93 kX8_needs (by first | rfl | assumption) rfl rfl (Nat.le_of_ble_eq_true rfl) (by decide) ?_
      refine q_mem (rm_nd_n (Or.inr (hFw.pos (Nat.le_of_ble_eq_true rfl) (Nat.le_of_ble_eq_true rfl)).2)) ?_
      exact sgX8_rdG ht0 hfr1 hFw (Nat.le_of_ble_eq_true rfl) (Nat.le_of_ble_eq_true rfl) hres
  · exact absurd rfl h66

set_option maxHeartbeats 1000000 in
set_option maxRecDepth 100000 in
theorem sgX8_rd10 {E : q_E} {σ : q_M} {σ0 : q_M} {c : Nat → Int32} {L : Nat} (ht0 : rm_t σ0 c L) {D : sp_D} {res : sp_F ⊕ ((Nat → Int32) × Nat)} {f : Nat → Int32} {p : Nat} (hV : rm_V σ0 c L D (.inr (f, p)) σ) (hT : rm_T c L p σ) (hok : sp_ok c L p = true) (h6 : D.2.2.2.1 < 6) {lk rt hk : Bool} (hlk : lk = true → res = .inl (4, sp_s c L p)) {ol : Option Value} (K : lk = false → ∀ (τ : q_M) (ol : Option Value), rm_V σ0 c L D (sp_b (sp_num c L 0 99 (sp_e c L p)) fun y => .inr (sp_u f 2 y.1, y.2)) τ → q_G YX8_readDiver E 0 0 42 [some (.ref 72), some (.int (nI (8 * D.2.2.2.1))), some (.int (rm_hd true rt hk)), ol] [] q_SH τ (q_rv q_SH (rm_Z σ0 c L (sp_b res fun w => .inr ((D.1, D.2.1, D.2.2.1, D.2.2.2.1 + 1, sp_u D.2.2.2.2 D.2.2.2.1 w.1), w.2))))) : q_G YX8_readDiver E 0 0 61 [some (.ref 72), some (.int (nI (8 * D.2.2.2.1))), some (.int (rm_hd lk rt hk)), ol] [.int 10] q_SH σ (q_rv q_SH (rm_Z σ0 c L (sp_b res fun w => .inr ((D.1, D.2.1, D.2.2.1, D.2.2.2.1 + 1, sp_u D.2.2.2.2 D.2.2.2.1 w.1), w.2)))) := by
  have hpL := hV.2.2.2
  have hel := sp_e_le (c := c) hpL
  refine q_istore_n dX8_readDiver_61 (by decide) rfl ?_
  refine q_aload_n dX8_readDiver_62 rfl ?_
  refine q_iload_n dX8_readDiver_63 rfl ?_
  refine q_bipush (x := (-4)) dX8_readDiver_64 (by decide) ?_
  refine q_icmp_eq 73 dX8_readDiver_66 (by decide) (fun h66 => ?_) (fun h66 => ?_)
  · exact absurd h66 (by decide)
  · refine q_iconst (x := 1) dX8_readDiver_69 (by decide) ?_
    refine q_goto 74 dX8_readDiver_70 (by decide) ?_
    refine q_iconst (x := 2) dX8_readDiver_74 (by decide) ?_
    refine q_cVv lX8_110 vX8_needs (ci := 8) rfl dX8_readDiver_75 kX8_needs (by first | rfl | assumption) rfl rfl (Nat.le_of_ble_eq_true rfl) (by decide) ?_
    refine q_mem rm_nd_1 ?_
    refine q_aload_n dX8_readDiver_78 rfl ?_
    refine q_iload_n dX8_readDiver_79 rfl ?_
    refine q_iload_n dX8_readDiver_80 rfl ?_
    refine q_ishr dX8_readDiver_81 ?_
    refine q_iconst (x := 1) dX8_readDiver_82 (by decide) ?_
    refine q_iand dX8_readDiver_83 ?_
    refine q_tope (y := q_b lk) (rm_hd_g lk rt hk).1 ?_
    refine q_if_ne 91 dX8_readDiver_84 (by decide) (fun h84 => ?_) (fun h84 => ?_)
    · have hfl := hlk (q_b_ne0.mp h84)
      exact sgX8_rdH ht0 hV.1 hT hfl
    · have hfl := q_b_eq0.mp h84
      refine q_iconst (x := 1) dX8_readDiver_87 (by decide) ?_
      refine q_goto 92 dX8_readDiver_88 (by decide) ?_
      refine q_iconst (x := 4) dX8_readDiver_92 (by decide) ?_
      refine q_cVv lX8_110 vX8_needs (ci := 8) rfl dX8_readDiver_93 kX8_needs (by first | rfl | assumption) rfl rfl (Nat.le_of_ble_eq_true rfl) (by decide) ?_
      refine q_mem rm_nd_1 ?_
      refine q_iload_n dX8_readDiver_96 rfl ?_
      refine q_iload_n dX8_readDiver_97 rfl ?_
      refine q_bipush (x := (-4)) dX8_readDiver_98 (by decide) ?_
      refine q_icmp_ne 107 dX8_readDiver_100 (by decide) (fun h100 => ?_) (fun h100 => ?_)
      · refine q_iconst (x := 1) dX8_readDiver_107 (by decide) ?_
        refine q_iload_n dX8_readDiver_108 rfl ?_
        refine q_ishl dX8_readDiver_109 ?_
        refine q_ior dX8_readDiver_110 ?_
        refine q_tope (y := rm_hd true rt hk) (rm_hd_o lk rt hk).1 ?_
        refine q_istore_n dX8_readDiver_111 (by decide) rfl ?_
        refine q_aload_n dX8_readDiver_112 rfl ?_
        refine q_rVv lX8_118 vX8_next (ci := 8) rfl dX8_readDiver_113 (kX8_next (hV.1.t ht0) hT.2.2.2.2 hT.1 hel.2) (by first | rfl | assumption) rfl rfl (Nat.le_of_ble_eq_true rfl) (by decide) (fun τ hq => ?_)
        refine q_aload_n dX8_readDiver_116 rfl ?_
        refine q_get fX8_76 dX8_readDiver_117 (by first | rfl | assumption) (by rfl) ?_
        refine q_if_ne 141 dX8_readDiver_120 (by decide) (fun h120 => ?_) (fun h120 => ?_)
        · have hf1 := h120
          have hbad : sp_ok c L (sp_e c L p) = false := by
            cases hk2 : sp_ok c L (sp_e c L p) with
            | false => rfl
            | true => exact absurd (hq.2.1 hk2).2.2.2.2 h120
          refine q_aload_n dX8_readDiver_141 rfl ?_
          refine q_get fX8_76 dX8_readDiver_142 (by first | rfl | assumption) (by rfl) ?_
          refine q_if_ne 173 dX8_readDiver_145 (by decide) (fun h145 => ?_) (fun h145 => ?_)
          · refine q_goto 42 dX8_readDiver_173 (by decide) ?_
            have hV2 : rm_V σ0 c L D (sp_b (sp_num c L 0 99 (sp_e c L p)) fun y => .inr (sp_u f 2 y.1, y.2)) τ := by
              rw [sp_num_no hbad]
              exact ⟨hV.1.tr hq.1.fr, hq.2.2 hbad, (Nat.le_of_ble_eq_true rfl), (Nat.le_of_ble_eq_true rfl)⟩
            exact K hfl τ _ hV2
          · exact absurd h145 hf1
        · have hf0 : τ 72 15 = 0 := h120
          refine q_iload_n dX8_readDiver_123 rfl ?_
          refine q_bipush (x := 12) dX8_readDiver_124 (by decide) ?_
          refine q_icmp_ne 141 dX8_readDiver_126 (by decide) (fun h126 => ?_) (fun h126 => ?_)
          · refine q_aload_n dX8_readDiver_141 rfl ?_
            refine q_get fX8_76 dX8_readDiver_142 (by first | rfl | assumption) (by rfl) ?_
            refine q_if_ne 173 dX8_readDiver_145 (by decide) (fun h145 => ?_) (fun h145 => ?_)
            · exact absurd hf0 h145
            · refine q_aload_n dX8_readDiver_148 rfl ?_
              refine q_getr fX8_29 dX8_readDiver_149 (by first | rfl | assumption) (by rfl) ?_
              refine q_iload_n dX8_readDiver_152 rfl ?_
              refine q_iload_n dX8_readDiver_153 rfl ?_
              refine q_bipush (x := 10) dX8_readDiver_154 (by decide) ?_
              refine q_icmp_ne 163 dX8_readDiver_156 (by decide) (fun h156 => ?_) (fun h156 => ?_)
              · exact absurd rfl h156
              · refine q_iconst (x := 2) dX8_readDiver_159 (by decide) ?_
                refine q_goto 164 dX8_readDiver_160 (by decide) ?_
                refine q_iadd dX8_readDiver_164 ?_
                refine q_tope (y := nI (8 * D.2.2.2.1 + 2)) (nI_add _ 2) ?_
                refine q_aload_n dX8_readDiver_165 rfl ?_
                refine q_iconst (x := 0) dX8_readDiver_166 (by decide) ?_
                refine q_bipush (x := 99) dX8_readDiver_167 (by decide) ?_
                refine q_rVi lX8_121 vX8_readNumber (ci := 8) rfl dX8_readDiver_169 (kX8_readNumber (X := .inr (sp_e c L p)) (hq.1.t (hV.1.t ht0)) ⟨hq.2, hel.2⟩) (by first | rfl | assumption) rfl rfl (Nat.le_of_ble_eq_true rfl) (by decide) (fun τ2 hq2 => ?_)
                refine q_isto (8 * D.2.2.2.1 + 2) (by first | rfl | assumption) (nI_toInt (by omega)) (by omega) dX8_readDiver_172 ?_
                refine q_goto 42 dX8_readDiver_173 (by decide) ?_
                have hV2 : rm_V σ0 c L D (.inr (f, sp_e c L p)) τ := ⟨hV.1.tr hq.1.fr, fun _ => (hV.2.1 hok).f1 hq.1, hq.2, hel.2⟩
                have hV3 := rm_vu (x := 2) (by decide) hV2 hq2
                exact K hfl _ _ hV3
          · exact absurd h126 (by decide)
      · exact absurd h100 (by decide)

set_option maxHeartbeats 1000000 in
set_option maxRecDepth 100000 in
theorem sgX8_rd11 {E : q_E} {σ : q_M} {σ0 : q_M} {c : Nat → Int32} {L : Nat} (ht0 : rm_t σ0 c L) {D : sp_D} {res : sp_F ⊕ ((Nat → Int32) × Nat)} {f : Nat → Int32} {p : Nat} (hV : rm_V σ0 c L D (.inr (f, p)) σ) (hT : rm_T c L p σ) (hok : sp_ok c L p = true) (h6 : D.2.2.2.1 < 6) {lk rt hk : Bool} (hlk : rt = true → res = .inl (4, sp_s c L p)) {ol : Option Value} (K : rt = false → ∀ (τ : q_M) (ol : Option Value), rm_V σ0 c L D (sp_b (sp_num c L 0 99 (sp_e c L p)) fun y => .inr (sp_u f 3 y.1, y.2)) τ → q_G YX8_readDiver E 0 0 42 [some (.ref 72), some (.int (nI (8 * D.2.2.2.1))), some (.int (rm_hd lk true hk)), ol] [] q_SH τ (q_rv q_SH (rm_Z σ0 c L (sp_b res fun w => .inr ((D.1, D.2.1, D.2.2.1, D.2.2.2.1 + 1, sp_u D.2.2.2.2 D.2.2.2.1 w.1), w.2))))) : q_G YX8_readDiver E 0 0 61 [some (.ref 72), some (.int (nI (8 * D.2.2.2.1))), some (.int (rm_hd lk rt hk)), ol] [.int 11] q_SH σ (q_rv q_SH (rm_Z σ0 c L (sp_b res fun w => .inr ((D.1, D.2.1, D.2.2.1, D.2.2.2.1 + 1, sp_u D.2.2.2.2 D.2.2.2.1 w.1), w.2)))) := by
  have hpL := hV.2.2.2
  have hel := sp_e_le (c := c) hpL
  refine q_istore_n dX8_readDiver_61 (by decide) rfl ?_
  refine q_aload_n dX8_readDiver_62 rfl ?_
  refine q_iload_n dX8_readDiver_63 rfl ?_
  refine q_bipush (x := (-4)) dX8_readDiver_64 (by decide) ?_
  refine q_icmp_eq 73 dX8_readDiver_66 (by decide) (fun h66 => ?_) (fun h66 => ?_)
  · exact absurd h66 (by decide)
  · refine q_iconst (x := 1) dX8_readDiver_69 (by decide) ?_
    refine q_goto 74 dX8_readDiver_70 (by decide) ?_
    refine q_iconst (x := 2) dX8_readDiver_74 (by decide) ?_
    refine q_cVv lX8_110 vX8_needs (ci := 8) rfl dX8_readDiver_75 kX8_needs (by first | rfl | assumption) rfl rfl (Nat.le_of_ble_eq_true rfl) (by decide) ?_
    refine q_mem rm_nd_1 ?_
    refine q_aload_n dX8_readDiver_78 rfl ?_
    refine q_iload_n dX8_readDiver_79 rfl ?_
    refine q_iload_n dX8_readDiver_80 rfl ?_
    refine q_ishr dX8_readDiver_81 ?_
    refine q_iconst (x := 1) dX8_readDiver_82 (by decide) ?_
    refine q_iand dX8_readDiver_83 ?_
    refine q_tope (y := q_b rt) (rm_hd_g lk rt hk).2.1 ?_
    refine q_if_ne 91 dX8_readDiver_84 (by decide) (fun h84 => ?_) (fun h84 => ?_)
    · have hfl := hlk (q_b_ne0.mp h84)
      exact sgX8_rdH ht0 hV.1 hT hfl
    · have hfl := q_b_eq0.mp h84
      refine q_iconst (x := 1) dX8_readDiver_87 (by decide) ?_
      refine q_goto 92 dX8_readDiver_88 (by decide) ?_
      refine q_iconst (x := 4) dX8_readDiver_92 (by decide) ?_
      refine q_cVv lX8_110 vX8_needs (ci := 8) rfl dX8_readDiver_93 kX8_needs (by first | rfl | assumption) rfl rfl (Nat.le_of_ble_eq_true rfl) (by decide) ?_
      refine q_mem rm_nd_1 ?_
      refine q_iload_n dX8_readDiver_96 rfl ?_
      refine q_iload_n dX8_readDiver_97 rfl ?_
      refine q_bipush (x := (-4)) dX8_readDiver_98 (by decide) ?_
      refine q_icmp_ne 107 dX8_readDiver_100 (by decide) (fun h100 => ?_) (fun h100 => ?_)
      · refine q_iconst (x := 1) dX8_readDiver_107 (by decide) ?_
        refine q_iload_n dX8_readDiver_108 rfl ?_
        refine q_ishl dX8_readDiver_109 ?_
        refine q_ior dX8_readDiver_110 ?_
        refine q_tope (y := rm_hd lk true hk) (rm_hd_o lk rt hk).2.1 ?_
        refine q_istore_n dX8_readDiver_111 (by decide) rfl ?_
        refine q_aload_n dX8_readDiver_112 rfl ?_
        refine q_rVv lX8_118 vX8_next (ci := 8) rfl dX8_readDiver_113 (kX8_next (hV.1.t ht0) hT.2.2.2.2 hT.1 hel.2) (by first | rfl | assumption) rfl rfl (Nat.le_of_ble_eq_true rfl) (by decide) (fun τ hq => ?_)
        refine q_aload_n dX8_readDiver_116 rfl ?_
        refine q_get fX8_76 dX8_readDiver_117 (by first | rfl | assumption) (by rfl) ?_
        refine q_if_ne 141 dX8_readDiver_120 (by decide) (fun h120 => ?_) (fun h120 => ?_)
        · have hf1 := h120
          have hbad : sp_ok c L (sp_e c L p) = false := by
            cases hk2 : sp_ok c L (sp_e c L p) with
            | false => rfl
            | true => exact absurd (hq.2.1 hk2).2.2.2.2 h120
          refine q_aload_n dX8_readDiver_141 rfl ?_
          refine q_get fX8_76 dX8_readDiver_142 (by first | rfl | assumption) (by rfl) ?_
          refine q_if_ne 173 dX8_readDiver_145 (by decide) (fun h145 => ?_) (fun h145 => ?_)
          · refine q_goto 42 dX8_readDiver_173 (by decide) ?_
            have hV2 : rm_V σ0 c L D (sp_b (sp_num c L 0 99 (sp_e c L p)) fun y => .inr (sp_u f 3 y.1, y.2)) τ := by
              rw [sp_num_no hbad]
              exact ⟨hV.1.tr hq.1.fr, hq.2.2 hbad, (Nat.le_of_ble_eq_true rfl), (Nat.le_of_ble_eq_true rfl)⟩
            exact K hfl τ _ hV2
          · exact absurd h145 hf1
        · have hf0 : τ 72 15 = 0 := h120
          refine q_iload_n dX8_readDiver_123 rfl ?_
          refine q_bipush (x := 12) dX8_readDiver_124 (by decide) ?_
          refine q_icmp_ne 141 dX8_readDiver_126 (by decide) (fun h126 => ?_) (fun h126 => ?_)
          · refine q_aload_n dX8_readDiver_141 rfl ?_
            refine q_get fX8_76 dX8_readDiver_142 (by first | rfl | assumption) (by rfl) ?_
            refine q_if_ne 173 dX8_readDiver_145 (by decide) (fun h145 => ?_) (fun h145 => ?_)
            · exact absurd hf0 h145
            · refine q_aload_n dX8_readDiver_148 rfl ?_
              refine q_getr fX8_29 dX8_readDiver_149 (by first | rfl | assumption) (by rfl) ?_
              refine q_iload_n dX8_readDiver_152 rfl ?_
              refine q_iload_n dX8_readDiver_153 rfl ?_
              refine q_bipush (x := 10) dX8_readDiver_154 (by decide) ?_
              refine q_icmp_ne 163 dX8_readDiver_156 (by decide) (fun h156 => ?_) (fun h156 => ?_)
              · refine q_iconst (x := 3) dX8_readDiver_163 (by decide) ?_
                refine q_iadd dX8_readDiver_164 ?_
                refine q_tope (y := nI (8 * D.2.2.2.1 + 3)) (nI_add _ 3) ?_
                refine q_aload_n dX8_readDiver_165 rfl ?_
                refine q_iconst (x := 0) dX8_readDiver_166 (by decide) ?_
                refine q_bipush (x := 99) dX8_readDiver_167 (by decide) ?_
                refine q_rVi lX8_121 vX8_readNumber (ci := 8) rfl dX8_readDiver_169 (kX8_readNumber (X := .inr (sp_e c L p)) (hq.1.t (hV.1.t ht0)) ⟨hq.2, hel.2⟩) (by first | rfl | assumption) rfl rfl (Nat.le_of_ble_eq_true rfl) (by decide) (fun τ2 hq2 => ?_)
                refine q_isto (8 * D.2.2.2.1 + 3) (by first | rfl | assumption) (nI_toInt (by omega)) (by omega) dX8_readDiver_172 ?_
                refine q_goto 42 dX8_readDiver_173 (by decide) ?_
                have hV2 : rm_V σ0 c L D (.inr (f, sp_e c L p)) τ := ⟨hV.1.tr hq.1.fr, fun _ => (hV.2.1 hok).f1 hq.1, hq.2, hel.2⟩
                have hV3 := rm_vu (x := 3) (by decide) hV2 hq2
                exact K hfl _ _ hV3
              · exact absurd h156 (by decide)
          · exact absurd h126 (by decide)
      · exact absurd h100 (by decide)

set_option maxHeartbeats 1000000 in
set_option maxRecDepth 100000 in
theorem sgX8_rd12 {E : q_E} {σ : q_M} {σ0 : q_M} {c : Nat → Int32} {L : Nat} (ht0 : rm_t σ0 c L) {D : sp_D} {res : sp_F ⊕ ((Nat → Int32) × Nat)} {f : Nat → Int32} {p : Nat} (hV : rm_V σ0 c L D (.inr (f, p)) σ) (hT : rm_T c L p σ) (hok : sp_ok c L p = true) (h6 : D.2.2.2.1 < 6) {lk rt hk : Bool} (hlk : hk = true → res = .inl (4, sp_s c L p)) {ol : Option Value} (K : hk = false → ∀ (τ : q_M) (ol : Option Value), rm_V σ0 c L D (.inr (sp_u f 7 1, sp_e c L p)) τ → q_G YX8_readDiver E 0 0 42 [some (.ref 72), some (.int (nI (8 * D.2.2.2.1))), some (.int (rm_hd lk rt true)), ol] [] q_SH τ (q_rv q_SH (rm_Z σ0 c L (sp_b res fun w => .inr ((D.1, D.2.1, D.2.2.1, D.2.2.2.1 + 1, sp_u D.2.2.2.2 D.2.2.2.1 w.1), w.2))))) : q_G YX8_readDiver E 0 0 61 [some (.ref 72), some (.int (nI (8 * D.2.2.2.1))), some (.int (rm_hd lk rt hk)), ol] [.int 12] q_SH σ (q_rv q_SH (rm_Z σ0 c L (sp_b res fun w => .inr ((D.1, D.2.1, D.2.2.1, D.2.2.2.1 + 1, sp_u D.2.2.2.2 D.2.2.2.1 w.1), w.2)))) := by
  have hpL := hV.2.2.2
  have hel := sp_e_le (c := c) hpL
  refine q_istore_n dX8_readDiver_61 (by decide) rfl ?_
  refine q_aload_n dX8_readDiver_62 rfl ?_
  refine q_iload_n dX8_readDiver_63 rfl ?_
  refine q_bipush (x := (-4)) dX8_readDiver_64 (by decide) ?_
  refine q_icmp_eq 73 dX8_readDiver_66 (by decide) (fun h66 => ?_) (fun h66 => ?_)
  · exact absurd h66 (by decide)
  · refine q_iconst (x := 1) dX8_readDiver_69 (by decide) ?_
    refine q_goto 74 dX8_readDiver_70 (by decide) ?_
    refine q_iconst (x := 2) dX8_readDiver_74 (by decide) ?_
    refine q_cVv lX8_110 vX8_needs (ci := 8) rfl dX8_readDiver_75 kX8_needs (by first | rfl | assumption) rfl rfl (Nat.le_of_ble_eq_true rfl) (by decide) ?_
    refine q_mem rm_nd_1 ?_
    refine q_aload_n dX8_readDiver_78 rfl ?_
    refine q_iload_n dX8_readDiver_79 rfl ?_
    refine q_iload_n dX8_readDiver_80 rfl ?_
    refine q_ishr dX8_readDiver_81 ?_
    refine q_iconst (x := 1) dX8_readDiver_82 (by decide) ?_
    refine q_iand dX8_readDiver_83 ?_
    refine q_tope (y := q_b hk) (rm_hd_g lk rt hk).2.2 ?_
    refine q_if_ne 91 dX8_readDiver_84 (by decide) (fun h84 => ?_) (fun h84 => ?_)
    · have hfl := hlk (q_b_ne0.mp h84)
      exact sgX8_rdH ht0 hV.1 hT hfl
    · have hfl := q_b_eq0.mp h84
      refine q_iconst (x := 1) dX8_readDiver_87 (by decide) ?_
      refine q_goto 92 dX8_readDiver_88 (by decide) ?_
      refine q_iconst (x := 4) dX8_readDiver_92 (by decide) ?_
      refine q_cVv lX8_110 vX8_needs (ci := 8) rfl dX8_readDiver_93 kX8_needs (by first | rfl | assumption) rfl rfl (Nat.le_of_ble_eq_true rfl) (by decide) ?_
      refine q_mem rm_nd_1 ?_
      refine q_iload_n dX8_readDiver_96 rfl ?_
      refine q_iload_n dX8_readDiver_97 rfl ?_
      refine q_bipush (x := (-4)) dX8_readDiver_98 (by decide) ?_
      refine q_icmp_ne 107 dX8_readDiver_100 (by decide) (fun h100 => ?_) (fun h100 => ?_)
      · refine q_iconst (x := 1) dX8_readDiver_107 (by decide) ?_
        refine q_iload_n dX8_readDiver_108 rfl ?_
        refine q_ishl dX8_readDiver_109 ?_
        refine q_ior dX8_readDiver_110 ?_
        refine q_tope (y := rm_hd lk rt true) (rm_hd_o lk rt hk).2.2 ?_
        refine q_istore_n dX8_readDiver_111 (by decide) rfl ?_
        refine q_aload_n dX8_readDiver_112 rfl ?_
        refine q_rVv lX8_118 vX8_next (ci := 8) rfl dX8_readDiver_113 (kX8_next (hV.1.t ht0) hT.2.2.2.2 hT.1 hel.2) (by first | rfl | assumption) rfl rfl (Nat.le_of_ble_eq_true rfl) (by decide) (fun τ hq => ?_)
        refine q_aload_n dX8_readDiver_116 rfl ?_
        refine q_get fX8_76 dX8_readDiver_117 (by first | rfl | assumption) (by rfl) ?_
        refine q_if_ne 141 dX8_readDiver_120 (by decide) (fun h120 => ?_) (fun h120 => ?_)
        · have hf1 := h120
          have hbad : sp_ok c L (sp_e c L p) = false := by
            cases hk2 : sp_ok c L (sp_e c L p) with
            | false => rfl
            | true => exact absurd (hq.2.1 hk2).2.2.2.2 h120
          refine q_aload_n dX8_readDiver_141 rfl ?_
          refine q_get fX8_76 dX8_readDiver_142 (by first | rfl | assumption) (by rfl) ?_
          refine q_if_ne 173 dX8_readDiver_145 (by decide) (fun h145 => ?_) (fun h145 => ?_)
          · refine q_goto 42 dX8_readDiver_173 (by decide) ?_
            first
              | (have hV2 : rm_V σ0 c L D (.inr (sp_u f 7 1, sp_e c L p)) τ := ⟨hV.1.tr hq.1.fr, fun z => absurd (hbad.symm.trans z) (by decide), hq.2, hel.2⟩
                 exact K hfl τ _ hV2)
              | (have hV2 : rm_V σ0 c L D (.inr (sp_u f 7 1, sp_e c L p)) (q_up τ 79 (8 * D.2.2.2.1 + 4) 1) := ⟨(hV.1.tr hq.1.fr).uc (Or.inr (Or.inr rfl)), fun _ => rm_Dn.put (x := 4) ((hV.2.1 hok).f1 hq.1) (by decide), hq.2.f1 (by decide), hel.2⟩
                 exact K hfl _ _ hV2)
          · exact absurd h145 hf1
        · refine q_iload_n dX8_readDiver_123 rfl ?_
          refine q_bipush (x := 12) dX8_readDiver_124 (by decide) ?_
          refine q_icmp_ne 141 dX8_readDiver_126 (by decide) (fun h126 => ?_) (fun h126 => ?_)
          · exact absurd rfl h126
          · refine q_aload_n dX8_readDiver_129 rfl ?_
            refine q_getr fX8_29 dX8_readDiver_130 (by first | rfl | assumption) (by rfl) ?_
            refine q_iload_n dX8_readDiver_133 rfl ?_
            refine q_iconst (x := 4) dX8_readDiver_134 (by decide) ?_
            refine q_iadd dX8_readDiver_135 ?_
            refine q_tope (y := nI (8 * D.2.2.2.1 + 4)) (nI_add _ 4) ?_
            refine q_iconst (x := 1) dX8_readDiver_136 (by decide) ?_
            refine q_isto (8 * D.2.2.2.1 + 4) (by first | rfl | assumption) (nI_toInt (by omega)) (by omega) dX8_readDiver_137 ?_
            refine q_goto 173 dX8_readDiver_138 (by decide) ?_
            refine q_goto 42 dX8_readDiver_173 (by decide) ?_
            first
              | (have hV2 : rm_V σ0 c L D (.inr (sp_u f 7 1, sp_e c L p)) τ := ⟨hV.1.tr hq.1.fr, fun z => absurd (hbad.symm.trans z) (by decide), hq.2, hel.2⟩
                 exact K hfl τ _ hV2)
              | (have hV2 : rm_V σ0 c L D (.inr (sp_u f 7 1, sp_e c L p)) (q_up τ 79 (8 * D.2.2.2.1 + 4) 1) := ⟨(hV.1.tr hq.1.fr).uc (Or.inr (Or.inr rfl)), fun _ => rm_Dn.put (x := 4) ((hV.2.1 hok).f1 hq.1) (by decide), hq.2.f1 (by decide), hel.2⟩
                 exact K hfl _ _ hV2)
      · exact absurd h100 (by decide)

theorem rm_D_pp {D : sp_D} {dv : Nat → Nat → Int32} {m : Nat} {σ : q_M} (h : rm_Dn m (D.1, D.2.1, D.2.2.1, m + 1, dv) σ) : rm_D (D.1, D.2.1, D.2.2.1, m + 1, dv) (q_up σ 72 7 (nI (m + 1))) := by
  obtain ⟨a, b, d, e, f, i, j⟩ := h
  exact ⟨a, b, d, q_up_at _ _ _ _, f, i, j⟩

set_option maxHeartbeats 1000000 in
set_option maxRecDepth 100000 in
theorem lpX8_rd {E : q_E} {σ0 : q_M} {c : Nat → Int32} {L : Nat} (ht0 : rm_t σ0 c L) {D : sp_D} {res : sp_F ⊕ ((Nat → Int32) × Nat)} (h6 : D.2.2.2.1 < 6) : ∀ (n : Nat) (m : Nat) (lk rt hk : Bool) (f : Nat → Int32) (p : Nat) (σ : q_M) (ol : Option Value), m + 1 ≤ n → (hk = true ↔ ¬ f 7 = 0) → rm_V σ0 c L D (.inr (f, p)) σ → (if lk = true then 0 else 1) + (if rt = true then 0 else 1) + (if f 7 = 0 then 1 else 0) + 1 ≤ m → rm_w c L m lk rt f p = res → q_G YX8_readDiver E 0 0 42 [some (.ref 72), some (.int (nI (8 * D.2.2.2.1))), some (.int (rm_hd lk rt hk)), ol] [] q_SH σ (q_rv q_SH (rm_Z σ0 c L (sp_b res fun w => .inr ((D.1, D.2.1, D.2.2.1, D.2.2.2.1 + 1, sp_u D.2.2.2.2 D.2.2.2.1 w.1), w.2)))) := by
  intro n
  induction n with
  | zero =>
    intro m lk rt hk f p σ ol hm hhk hV hfl hres
    exact absurd hm (by omega)
  | succ n ih =>
    intro m lk rt hk f p σ ol hm hhk hV hfl hres
    obtain ⟨m, rfl⟩ : ∃ m0, m = m0 + 1 := ⟨m - 1, by omega⟩
    refine q_aload_n dX8_readDiver_42 rfl ?_
    refine q_get fX8_76 dX8_readDiver_43 (by first | rfl | assumption) (by rfl) ?_
    refine q_if_ne 176 dX8_readDiver_46 (by decide) (fun h46 => ?_) (fun h46 => ?_)
    · obtain ⟨w, hw, hX⟩ := hV.q.f1 h46
      rcases hX with hX | ⟨q, hX, hqk, hw2⟩
      · cases hX
      · cases hX
        rw [rm_w, if_pos hqk] at hres
        subst hw2
        refine q_aload_n dX8_readDiver_176 rfl ?_
        refine q_dup rfl dX8_readDiver_177 ?_
        refine q_get fX8_56 dX8_readDiver_178 (by first | rfl | assumption) (by rfl) ?_
        refine q_iconst (x := 1) dX8_readDiver_181 (by decide) ?_
        refine q_iadd dX8_readDiver_182 ?_
        refine q_put_i pX8_56 dX8_readDiver_183 (by first | rfl | assumption) (by rfl) rfl rfl ?_
        refine q_vret dX8_readDiver_186 ?_ rfl rfl
        subst hres
        exact ⟨rfl, rfl, hV.1.uf (Or.inl rfl), ⟨hw.1.1, hw.1.2⟩, hw.2.1, hw.2.2⟩
    · obtain ⟨q, hX, hok, hT, hpL⟩ := hV.q.f0 h46
      cases hX
      have hel := sp_e_le (c := c) hpL
      rw [rm_w, if_neg (sp_nt hok)] at hres
      refine q_aload_n dX8_readDiver_49 rfl ?_
      refine q_get fX8_96 dX8_readDiver_50 (by first | rfl | assumption) (by rfl) ?_
      refine q_tope (y := nI (sp_d c L p)) hT.2.2.1 ?_
      refine q_iconst (x := 1) dX8_readDiver_53 (by decide) ?_
      refine q_icmp_ne 176 dX8_readDiver_54 (by decide) (fun h54 => ?_) (fun h54 => ?_)
      · have hd1 : ¬ sp_d c L p = 1 := sp_ne (b := 1) h54
        rw [if_pos hd1] at hres
        refine q_aload_n dX8_readDiver_176 rfl ?_
        refine q_dup rfl dX8_readDiver_177 ?_
        refine q_get fX8_56 dX8_readDiver_178 (by first | rfl | assumption) (by rfl) ?_
        refine q_tope (y := nI D.2.2.2.1) ((hV.2.1 hok).2.2.2.1) ?_
        refine q_iconst (x := 1) dX8_readDiver_181 (by decide) ?_
        refine q_iadd dX8_readDiver_182 ?_
        refine q_tope (y := nI (D.2.2.2.1 + 1)) (nI_1 _) ?_
        refine q_put_i pX8_56 dX8_readDiver_183 (by first | rfl | assumption) (by rfl) rfl rfl ?_
        refine q_vret dX8_readDiver_186 ?_ rfl rfl
        subst hres
        exact ⟨rfl, rfl, hV.1.uf (Or.inl rfl), fun _ => rm_D_pp (hV.2.1 hok), rm_L.ok hok ⟨hT.1, hT.2.1, hT.2.2.1, hT.2.2.2.1, hT.2.2.2.2⟩, hpL⟩
      · have hd1 : sp_d c L p = 1 := sp_eq (b := 1) (by have := sp_d_le c L p; omega) (by decide) h54
        rw [if_neg (fun z => z hd1)] at hres
        refine q_aload_n dX8_readDiver_57 rfl ?_
        refine q_cVi lX8_125 vX8_withNow (ci := 8) rfl dX8_readDiver_58 (kX8_withNow (hV.1.t ht0) hT.2.1 hT.1 hel.1 hel.2) (by first | rfl | assumption) rfl rfl (Nat.le_of_ble_eq_true rfl) (by decide) ?_
        rcases rm_wn_c c (sp_s c L p) (sp_e c L p) with ⟨hw, n1⟩ | ⟨hw, n1, n2⟩ | ⟨hw, n1, n2, n3⟩ | ⟨hw, n1, n2, n3⟩
        · rw [if_pos n1] at hres
          rw [hw]
          refine sgX8_rd10 ht0 hV hT hok h6 (fun hl => by rw [if_pos hl] at hres; exact hres.symm) (fun hl τ ol hV2 => ?_)
          rw [if_neg (sp_nb hl)] at hres
          cases hn : sp_num c L 0 99 (sp_e c L p) with
          | inl w =>
            rw [hn] at hres hV2
            exact sgX8_rdF ht0 hV2.1 hV2.2.1 hV2.2.2.1 hV2.2.2.2 hres.symm
          | inr y =>
            rw [hn] at hres hV2
            exact ih m true rt hk (sp_u f 2 y.1) y.2 τ ol (by omega) hhk hV2 (by subst hl; simp [sp_u] at hfl ⊢; omega) hres
        · rw [if_neg (sp_nb n1), if_pos n2] at hres
          rw [hw]
          refine sgX8_rd11 ht0 hV hT hok h6 (fun hl => by rw [if_pos hl] at hres; exact hres.symm) (fun hl τ ol hV2 => ?_)
          rw [if_neg (sp_nb hl)] at hres
          cases hn : sp_num c L 0 99 (sp_e c L p) with
          | inl w =>
            rw [hn] at hres hV2
            exact sgX8_rdF ht0 hV2.1 hV2.2.1 hV2.2.2.1 hV2.2.2.2 hres.symm
          | inr y =>
            rw [hn] at hres hV2
            exact ih m lk true hk (sp_u f 3 y.1) y.2 τ ol (by omega) hhk hV2 (by subst hl; simp [sp_u] at hfl ⊢; omega) hres
        · rw [if_neg (sp_nb n1), if_neg (sp_nb n2), if_pos n3] at hres
          rw [hw]
          refine sgX8_rd12 ht0 hV hT hok h6 (fun hl => by rw [if_neg (hhk.mp hl)] at hres; exact hres.symm) (fun hl τ ol hV2 => ?_)
          have hf7 : f 7 = 0 := Decidable.of_not_not (fun z => absurd (hhk.mpr z) (sp_nb hl))
          rw [if_pos hf7] at hres
          exact ih m lk rt true (sp_u f 7 1) _ τ ol (by omega) ⟨fun _ => (show ¬ (1 : Int32) = 0 by decide), fun _ => rfl⟩ hV2 (by rw [if_pos hf7] at hfl; rw [show (if sp_u f 7 1 7 = 0 then 1 else 0) = 0 from rfl]; omega) hres
        · rw [if_neg (sp_nb n1), if_neg (sp_nb n2), if_neg (sp_nb n3)] at hres
          rw [hw]
          exact sgX8_rdN ht0 hV.1 hT hres.symm

def rm_dv0 (c : Nat → Int32) (L : Nat) (D : sp_D) (p : Nat) : sp_F ⊕ (sp_D × Nat) := sp_b (sp_num c L 1 999 p) fun y => sp_b (sp_num c L 0 9999 y.2) fun z => sp_b (rm_w c L 4 false false (sp_d0 y.1 z.1) z.2) fun w => .inr ((D.1, D.2.1, D.2.2.1, D.2.2.2.1 + 1, sp_u D.2.2.2.2 D.2.2.2.1 w.1), w.2)
theorem sp_d0_u (x y : Int32) : sp_u (sp_u (fun _ => 0) 0 x) 1 y = sp_d0 x y := by
  funext j
  unfold sp_u sp_d0
  by_cases h0 : j = 0
  · subst h0; rfl
  · by_cases h1 : j = 1
    · subst h1; rfl
    · rw [if_neg h1, if_neg h0, if_neg h0, if_neg h1]

set_option maxHeartbeats 1000000 in
set_option maxRecDepth 100000 in
theorem kX8_readDiver {σ : q_M} {σ0 : q_M} {c : Nat → Int32} {L : Nat} (ht0 : rm_t σ0 c L) {D : sp_D} {p : Nat} (hZ : rm_Z σ0 c L (.inr (D, p)) σ) (h0 : σ 72 15 = 0) (h6 : D.2.2.2.1 < 6) : q_Ct YX8_readDiver [.ref 72] q_SH σ (q_rv q_SH (rm_Z σ0 c L (rm_dv0 c L D p))) := by
  refine q_ct (n := 3) (by decide) (by decide) rfl (fun _ => Nat.le_of_ble_eq_true rfl) (fun E => ?_)
  obtain ⟨q, hX, hok, hT, hpL⟩ := hZ.q.f0 h0
  cases hX
  have hV0 := rm_V.of hZ h6
  refine q_bipush (x := 8) dX8_readDiver_0 (by decide) ?_
  refine q_aload_n dX8_readDiver_2 rfl ?_
  refine q_get fX8_56 dX8_readDiver_3 (by first | rfl | assumption) (by rfl) ?_
  refine q_tope (y := nI D.2.2.2.1) ((hZ.2.1 hok).2.2.2.1) ?_
  refine q_imul dX8_readDiver_6 ?_
  refine q_tope (y := nI (8 * D.2.2.2.1)) (pk_mul 8 _) ?_
  refine q_istore_n dX8_readDiver_7 (by decide) rfl ?_
  refine q_aload_n dX8_readDiver_8 rfl ?_
  refine q_getr fX8_29 dX8_readDiver_9 (by first | rfl | assumption) (by rfl) ?_
  refine q_iload_n dX8_readDiver_12 rfl ?_
  refine q_iconst (x := 0) dX8_readDiver_13 (by decide) ?_
  refine q_iadd dX8_readDiver_14 ?_
  refine q_tope (y := nI (8 * D.2.2.2.1 + 0)) (nI_add _ 0) ?_
  refine q_aload_n dX8_readDiver_15 rfl ?_
  refine q_iconst (x := 1) dX8_readDiver_16 (by decide) ?_
  refine q_sipush (x := 999) dX8_readDiver_17 (by decide) ?_
  refine q_rVi lX8_121 vX8_readNumber (ci := 8) rfl dX8_readDiver_20 (kX8_readNumber (hZ.1.t ht0) hV0.q) (by first | rfl | assumption) rfl rfl (Nat.le_of_ble_eq_true rfl) (by decide) (fun τ hq => ?_)
  refine q_isto (8 * D.2.2.2.1 + 0) (by first | rfl | assumption) (nI_toInt (by omega)) (by omega) dX8_readDiver_23 ?_
  have hV1 := rm_vu (x := 0) (by decide) hV0 hq
  refine q_aload_n dX8_readDiver_24 rfl ?_
  refine q_getr fX8_29 dX8_readDiver_25 (by first | rfl | assumption) (by rfl) ?_
  refine q_iload_n dX8_readDiver_28 rfl ?_
  refine q_iconst (x := 1) dX8_readDiver_29 (by decide) ?_
  refine q_iadd dX8_readDiver_30 ?_
  refine q_tope (y := nI (8 * D.2.2.2.1 + 1)) (nI_add _ 1) ?_
  refine q_aload_n dX8_readDiver_31 rfl ?_
  refine q_iconst (x := 0) dX8_readDiver_32 (by decide) ?_
  refine q_sipush (x := 9999) dX8_readDiver_33 (by decide) ?_
  refine q_rVi lX8_121 vX8_readNumber (ci := 8) rfl dX8_readDiver_36 (kX8_readNumber (hV1.1.t ht0) hV1.q) (by first | rfl | assumption) rfl rfl (Nat.le_of_ble_eq_true rfl) (by decide) (fun τ2 hq2 => ?_)
  refine q_isto (8 * D.2.2.2.1 + 1) (by first | rfl | assumption) (nI_toInt (by omega)) (by omega) dX8_readDiver_39 ?_
  have hV2 := rm_vu (x := 1) (by decide) hV1 hq2
  refine q_iconst (x := 0) dX8_readDiver_40 (by decide) ?_
  refine q_istore_n dX8_readDiver_41 (by decide) rfl ?_
  rw [sp_b_r] at hV2
  unfold rm_dv0
  cases hn : sp_num c L 1 999 p with
  | inl w =>
    rw [hn] at hV2
    exact sgX8_rdF (res := .inl w) ht0 hV2.1 hV2.2.1 hV2.2.2.1 hV2.2.2.2 rfl
  | inr y =>
    rw [hn, sp_b_r, sp_b_r] at hV2
    rw [sp_b_r]
    cases hm : sp_num c L 0 9999 y.2 with
    | inl w =>
      rw [hm] at hV2
      exact sgX8_rdF (res := .inl w) ht0 hV2.1 hV2.2.1 hV2.2.2.1 hV2.2.2.2 rfl
    | inr z =>
      rw [hm, sp_b_r] at hV2
      rw [sp_b_r]
      have e : sp_u (sp_u (fun _ => 0) 0 y.1) 1 z.1 = sp_d0 y.1 z.1 := sp_d0_u _ _
      have hV3 : rm_V σ0 c L D (.inr (sp_d0 y.1 z.1, z.2)) (q_up τ2 79 (8 * D.2.2.2.1 + 1) (q_up τ 79 (8 * D.2.2.2.1 + 0) (σ 72 14) 72 14)) := by
        rw [← e]
        exact hV2
      exact lpX8_rd ht0 h6 5 4 false false false (sp_d0 y.1 z.1) z.2 _ _ (by omega) ⟨(fun z => absurd z (by decide)), (fun z => absurd rfl z)⟩ hV3 (by rw [show (if sp_d0 y.1 z.1 7 = 0 then 1 else 0) = 1 from rfl]; decide) rfl
