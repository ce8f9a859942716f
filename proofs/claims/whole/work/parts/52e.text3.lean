/-- the diver's cell d holds f, read up to p, nothing else changed since σ0 -/
def sp_X (σ0 : q_M) (c : Nat → Int32) (L d : Nat) (f : Nat → Int32) (p : Nat) (σ : q_M) : Prop :=
  (σ 2 = c ∧ σ 1 4 = nI L ∧ σ 1 9 = nI p ∧ σ 1 5 = σ0 1 5 ∧ σ 1 6 = σ0 1 6 ∧ σ 1 7 = σ0 1 7) ∧ (∀ j, j < 8 → σ d j = f j) ∧ ∀ x, ¬ x = 1 → ¬ x = d → σ x = σ0 x
def sp_PW (σ0 : q_M) (c : Nat → Int32) (L d : Nat) (res : sp_F ⊕ ((Nat → Int32) × Nat)) (τ : q_M) : Prop := match res with
  | .inl w => rd_F σ0 τ w
  | .inr y => sp_X σ0 c L d y.1 y.2 τ
section SPX
variable {σ0 σ : q_M} {c : Nat → Int32} {L d p : Nat} {f : Nat → Int32}
theorem sp_X.up (h : sp_X σ0 c L d f p σ) (hd : 8 ≤ d) {k : Nat} {v : Int32} (hk : 10 ≤ k) : sp_X σ0 c L d f p (q_up σ 1 k v) := by
  obtain ⟨⟨a1, a2, a3, a4, a5, a6⟩, b, e⟩ := h
  refine ⟨⟨a1, ?_, ?_, ?_, ?_, ?_⟩, fun j hj => ?_, fun x h1 h2 => ?_⟩
  · rw [q_up_f (by omega)]; exact a2
  · rw [q_up_f (by omega)]; exact a3
  · rw [q_up_f (by omega)]; exact a4
  · rw [q_up_f (by omega)]; exact a5
  · rw [q_up_f (by omega)]; exact a6
  · rw [q_up_g (by omega)]; exact b j hj
  · rw [q_up_ne (by omega)]; exact e x h1 h2
theorem sp_X.at (h : sp_X σ0 c L d f p σ) (hd : 8 ≤ d) {q : Nat} : sp_X σ0 c L d f q (q_up σ 1 9 (nI q)) := by
  obtain ⟨⟨a1, a2, a3, a4, a5, a6⟩, b, e⟩ := h
  exact ⟨⟨a1, a2, q_up_at _ _ _ _, a4, a5, a6⟩, fun j hj => by rw [q_up_g (by omega)]; exact b j hj, fun x h1 h2 => by rw [q_up_ne (by omega)]; exact e x h1 h2⟩
theorem sp_X.tk (h : sp_X σ0 c L d f p σ) (hd : 8 ≤ d) {s k e : Nat} : sp_X σ0 c L d f e (rd_t σ s k e) := (((h.at hd).up hd (by decide)).up hd (by decide)).at hd
theorem sp_X.nm (h : sp_X σ0 c L d f p σ) (hd : 8 ≤ d) {s k e : Nat} {v : Int32} : sp_X σ0 c L d f e (q_up (rd_t σ s k e) 1 12 v) := (h.tk hd).up hd (by decide)
theorem sp_X.put (h : sp_X σ0 c L d f p σ) (hd : 8 ≤ d) {w : Nat} {v : Int32} : sp_X σ0 c L d (sp_u f w v) p (q_up σ d w v) := by
  obtain ⟨⟨a1, a2, a3, a4, a5, a6⟩, b, e⟩ := h
  refine ⟨⟨?_, ?_, ?_, ?_, ?_, ?_⟩, fun j hj => ?_, fun x h1 h2 => ?_⟩
  · rw [q_up_ne (by omega)]; exact a1
  · rw [q_up_ne (by omega)]; exact a2
  · rw [q_up_ne (by omega)]; exact a3
  · rw [q_up_ne (by omega)]; exact a4
  · rw [q_up_ne (by omega)]; exact a5
  · rw [q_up_ne (by omega)]; exact a6
  · show _ = if j = w then v else f j
    by_cases hj2 : j = w
    · rw [hj2, q_up_at, if_pos rfl]
    · rw [q_up_f hj2, if_neg hj2]; exact b j hj
  · rw [q_up_ne h2]; exact e x h1 h2
theorem sp_X.fr (h : sp_X σ0 c L d f p σ) (hd : rd_c d) : rd_fr σ0 σ := fun x hx => h.2.2 x (fun z => hx (by rw [z]; exact rd_c1)) (fun z => hx (by rw [z]; exact hd))
end SPX
theorem q_SH_rd {j : Nat} (h : j < 6) : q_SH[8 + j]? = some q_sD := by
  rcases (show j = 0 ∨ j = 1 ∨ j = 2 ∨ j = 3 ∨ j = 4 ∨ j = 5 by omega) with rfl | rfl | rfl | rfl | rfl | rfl <;> rfl

theorem sp_nt {b : Bool} (h : b = true) : ¬ b = false := fun z => absurd (h.symm.trans z) (by decide)

set_option maxHeartbeats 1000000 in
set_option maxRecDepth 100000 in
theorem lpX2_withs {E : q_E} {σ0 : q_M} {c : Nat → Int32} {L d : Nat} (h320 : L ≤ 320) (hd8 : 8 ≤ d) (hdc : rd_c d) (hd : q_SH[d]? = some q_sD) {res : sp_F ⊕ ((Nat → Int32) × Nat)} : ∀ (n : Nat) (m t : Nat) (lk rt : Bool) (f : Nat → Int32) (p : Nat) (σ : q_M), m + 1 ≤ n → t + m = 4 → sp_X σ0 c L d f p σ → p ≤ L → (if lk = true then 0 else 1) + (if rt = true then 0 else 1) + (if f 7 = 0 then 1 else 0) + 1 ≤ m → sp_w c L m lk rt f p = res → q_G YX2_takeWiths E 0 0 7 [some (.ref 1), some (.ref d), some (.int (q_b lk)), some (.int (q_b rt)), some (.int (nI t))] [] q_SH σ (q_re (q_b (sp_g res)) q_SH (sp_PW σ0 c L d res)) := by
  intro n
  induction n with
  | zero =>
    intro m t lk rt f p σ hm h4 hX hpL hfl hres
    exact absurd hm (by omega)
  | succ n ih =>
    intro m t lk rt f p σ hm h4 hX hpL hfl hres
    obtain ⟨m, rfl⟩ : ∃ m0, m = m0 + 1 := ⟨m - 1, by omega⟩
    have htt := nI_toInt (n := t) (by omega)
    have e3 : (3 : Int32).toInt = 3 := rfl
    have hsg := sp_s_ge (c := c) hpL
    have hel := sp_e_le (c := c) hpL
    have hdl := sp_d_le c L p
    refine q_iload dX2_takeWiths_7 rfl ?_
    refine q_iconst (x := 3) dX2_takeWiths_9 (by decide) ?_
    refine q_cgt 162 dX2_takeWiths_10 (by decide) (fun h10 => ?_) (fun h10 => ?_)
    · exact absurd h10 (by omega)
    · refine q_aload_n dX2_takeWiths_13 rfl ?_
      refine q_rVi lX2_40 vX2_nextToken (ci := 2) rfl dX2_takeWiths_14 (kc_nt hX.1.1 hX.1.2.1 h320 hX.1.2.2.1 hpL) (by first | rfl | assumption) rfl rfl (Nat.le_of_ble_eq_true rfl) (by decide) (fun τ hq => ?_)
      refine q_bne 22 dX2_takeWiths_17 (by decide) (fun h17 => ?_) (fun h17 => ?_)
      · have hτ := hq.1 h17
        subst hτ
        have hX1 := hX.tk hd8 (s := sp_s c L p) (k := sp_d c L p) (e := sp_e c L p)
        refine q_aload_n dX2_takeWiths_22 rfl ?_
        refine q_get fX2_44 dX2_takeWiths_23 (by first | rfl | assumption) (by rfl) ?_
        refine q_tope (y := nI (sp_d c L p)) rfl ?_
        refine q_iconst (x := 3) dX2_takeWiths_26 (by decide) ?_
        refine q_icmp_ne 32 dX2_takeWiths_27 (by decide) (fun h27 => ?_) (fun h27 => ?_)
        · have h3 : ¬ sp_d c L p = 3 := sp_ne (b := 3) h27
          refine q_aload_n dX2_takeWiths_32 rfl ?_
          refine q_ldcS 1 (by decide) rfl dX2_takeWiths_33 ?_
          refine q_cVi lX2_52 vX2_isName (ci := 2) rfl dX2_takeWiths_35 (kc_name hX1.1.1 (k := sp_d c L p) rfl (sp_d_le c L p) (s := sp_s c L p) rfl (e := sp_e c L p) rfl hel.1 (by omega) (j := 1) (by decide)) (by first | rfl | assumption) rfl rfl (Nat.le_of_ble_eq_true rfl) (by decide) ?_
          refine q_beq 76 dX2_takeWiths_38 (by decide) (fun h38 => ?_) (fun h38 => ?_)
          · refine q_aload_n dX2_takeWiths_76 rfl ?_
            refine q_ldcS 2 (by decide) rfl dX2_takeWiths_77 ?_
            refine q_cVi lX2_52 vX2_isName (ci := 2) rfl dX2_takeWiths_79 (kc_name hX1.1.1 (k := sp_d c L p) rfl (sp_d_le c L p) (s := sp_s c L p) rfl (e := sp_e c L p) rfl hel.1 (by omega) (j := 2) (by decide)) (by first | rfl | assumption) rfl rfl (Nat.le_of_ble_eq_true rfl) (by decide) ?_
            refine q_beq 120 dX2_takeWiths_82 (by decide) (fun h82 => ?_) (fun h82 => ?_)
            · refine q_aload_n dX2_takeWiths_120 rfl ?_
              refine q_ldcS 3 (by decide) rfl dX2_takeWiths_121 ?_
              refine q_cVi lX2_52 vX2_isName (ci := 2) rfl dX2_takeWiths_123 (kc_name hX1.1.1 (k := sp_d c L p) rfl (sp_d_le c L p) (s := sp_s c L p) rfl (e := sp_e c L p) rfl hel.1 (by omega) (j := 3) (by decide)) (by first | rfl | assumption) rfl rfl (Nat.le_of_ble_eq_true rfl) (by decide) ?_
              refine q_beq 150 dX2_takeWiths_126 (by decide) (fun h126 => ?_) (fun h126 => ?_)
              · refine q_aload_n dX2_takeWiths_150 rfl ?_
                refine q_iconst (x := 2) dX2_takeWiths_151 (by decide) ?_
                refine q_cVi lX2_70 vX2_fail (ci := 2) rfl dX2_takeWiths_152 kX2_fail (by first | rfl | assumption) rfl rfl (Nat.le_of_ble_eq_true rfl) (by decide) ?_
                refine q_bret dX2_takeWiths_155 ?_ rfl rfl
                rw [sp_w, if_neg (sp_nt h17), if_neg h3, if_neg (sp_nb h38), if_neg (sp_nb h82), if_neg (sp_nb h126)] at hres
                subst hres
                exact ⟨rfl, rfl, rd_F.of (f := 2) (hX1.fr hdc) rfl⟩
              · refine q_aload_n dX2_takeWiths_129 rfl ?_
                refine q_get fX2_165 dX2_takeWiths_130 hd (by rfl) ?_
                refine q_tope (y := f 7) (hX1.2.1 7 (by decide)) ?_
                refine q_if_eq 142 dX2_takeWiths_133 (by decide) (fun h133 => ?_) (fun h133 => ?_)
                · refine q_aload_n dX2_takeWiths_142 rfl ?_
                  refine q_iconst (x := 1) dX2_takeWiths_143 (by decide) ?_
                  refine q_put_i pX2_165 dX2_takeWiths_144 hd (by rfl) rfl rfl ?_
                  refine q_goto 156 dX2_takeWiths_147 (by decide) ?_
                  refine q_inc 1 dX2_takeWiths_156 (by decide) rfl (by decide) rfl ?_
                  refine q_goto 7 dX2_takeWiths_159 (by decide) ?_
                  rw [nI_1]
                  first
                    | (rw [sp_w, if_neg (sp_nt h17), if_neg h3, if_pos h38, if_neg (sp_nb h42), hy] at hres
                       exact ih m (t + 1) true rt _ y.2 _ (by omega) (by omega) (hX2.put hd8) hyp.2 (by subst h42; simp [sp_u] at hfl ⊢; omega) hres)
                    | (rw [sp_w, if_neg (sp_nt h17), if_neg h3, if_neg (sp_nb h38), if_pos h82, if_neg (sp_nb h86), hy] at hres
                       exact ih m (t + 1) lk true _ y.2 _ (by omega) (by omega) (hX2.put hd8) hyp.2 (by subst h86; simp [sp_u] at hfl ⊢; omega) hres)
                    | (rw [sp_w, if_neg (sp_nt h17), if_neg h3, if_neg (sp_nb h38), if_neg (sp_nb h82), if_pos h126, if_pos h133] at hres
                       exact ih m (t + 1) lk rt _ (sp_e c L p) _ (by omega) (by omega) (hX1.put hd8) hel.2 (by rw [if_pos h133] at hfl; rw [show (if sp_u f 7 1 7 = 0 then 1 else 0) = 0 from rfl]; omega) hres)
                · refine q_aload_n dX2_takeWiths_136 rfl ?_
                  refine q_iconst (x := 4) dX2_takeWiths_137 (by decide) ?_
                  refine q_cVi lX2_70 vX2_fail (ci := 2) rfl dX2_takeWiths_138 kX2_fail (by first | rfl | assumption) rfl rfl (Nat.le_of_ble_eq_true rfl) (by decide) ?_
                  refine q_bret dX2_takeWiths_141 ?_ rfl rfl
                  rw [sp_w, if_neg (sp_nt h17), if_neg h3, if_neg (sp_nb h38), if_neg (sp_nb h82), if_pos h126, if_neg h133] at hres
                  subst hres
                  exact ⟨rfl, rfl, rd_F.of (f := 4) (hX1.fr hdc) rfl⟩
            · refine q_iload_n dX2_takeWiths_85 rfl ?_
              refine q_beq 95 dX2_takeWiths_86 (by decide) (fun h86 => ?_) (fun h86 => ?_)
              · refine q_iconst (x := 1) dX2_takeWiths_95 (by decide) ?_
                refine q_istore_n dX2_takeWiths_96 (by decide) rfl ?_
                refine q_aload_n dX2_takeWiths_97 rfl ?_
                refine q_iconst (x := 0) dX2_takeWiths_98 (by decide) ?_
                refine q_bipush (x := 99) dX2_takeWiths_99 (by decide) ?_
                refine q_rVi lX2_138 vX2_takeNumber (ci := 2) rfl dX2_takeWiths_101 (kc_num hX1.1.1 hX1.1.2.1 h320 hX1.1.2.2.1 hel.2) (by first | rfl | assumption) rfl rfl (Nat.le_of_ble_eq_true rfl) (by decide) (fun τ2 hq2 => ?_)
                refine q_bne 109 dX2_takeWiths_104 (by decide) (fun h104 => ?_) (fun h104 => ?_)
                · obtain ⟨y, hy⟩ := sp_gr h104
                  unfold sp_P2 at hq2
                  rw [hy] at hq2
                  have hX2 : sp_X σ0 c L d f y.2 τ2 := by
                    rw [hq2]
                    exact hX1.nm hd8
                  have h12 : τ2 1 12 = y.1 := by rw [hq2, q_up_at]
                  have hyp := sp_num_p hel.2 hy
                  clear hq2
                  refine q_aload_n dX2_takeWiths_109 rfl ?_
                  refine q_aload_n dX2_takeWiths_110 rfl ?_
                  refine q_get fX2_103 dX2_takeWiths_111 (by first | rfl | assumption) (by rfl) ?_
                  refine q_tope (y := y.1) h12 ?_
                  refine q_put_i pX2_161 dX2_takeWiths_114 hd (by rfl) rfl rfl ?_
                  refine q_goto 156 dX2_takeWiths_117 (by decide) ?_
                  refine q_inc 1 dX2_takeWiths_156 (by decide) rfl (by decide) rfl ?_
                  refine q_goto 7 dX2_takeWiths_159 (by decide) ?_
                  rw [nI_1]
                  first
                    | (rw [sp_w, if_neg (sp_nt h17), if_neg h3, if_pos h38, if_neg (sp_nb h42), hy] at hres
                       exact ih m (t + 1) true rt _ y.2 _ (by omega) (by omega) (hX2.put hd8) hyp.2 (by subst h42; simp [sp_u] at hfl ⊢; omega) hres)
                    | (rw [sp_w, if_neg (sp_nt h17), if_neg h3, if_neg (sp_nb h38), if_pos h82, if_neg (sp_nb h86), hy] at hres
                       exact ih m (t + 1) lk true _ y.2 _ (by omega) (by omega) (hX2.put hd8) hyp.2 (by subst h86; simp [sp_u] at hfl ⊢; omega) hres)
                    | (rw [sp_w, if_neg (sp_nt h17), if_neg h3, if_neg (sp_nb h38), if_neg (sp_nb h82), if_pos h126, if_pos h133] at hres
                       exact ih m (t + 1) lk rt _ (sp_e c L p) _ (by omega) (by omega) (hX1.put hd8) hel.2 (by rw [if_pos h133] at hfl; rw [show (if sp_u f 7 1 7 = 0 then 1 else 0) = 0 from rfl]; omega) hres)
                · refine q_iconst (x := 0) dX2_takeWiths_107 (by decide) ?_
                  refine q_ret0 dX2_takeWiths_108 ?_ rfl rfl
                  obtain ⟨w, hy⟩ := sp_gl h104
                  unfold sp_P2 at hq2
                  rw [hy] at hq2
                  rw [sp_w, if_neg (sp_nt h17), if_neg h3, if_neg (sp_nb h38), if_pos h82, if_neg (sp_nb h86), hy] at hres
                  subst hres
                  exact ⟨rfl, rfl, hq2.tr (hX1.fr hdc)⟩
              · refine q_aload_n dX2_takeWiths_89 rfl ?_
                refine q_iconst (x := 4) dX2_takeWiths_90 (by decide) ?_
                refine q_cVi lX2_70 vX2_fail (ci := 2) rfl dX2_takeWiths_91 kX2_fail (by first | rfl | assumption) rfl rfl (Nat.le_of_ble_eq_true rfl) (by decide) ?_
                refine q_bret dX2_takeWiths_94 ?_ rfl rfl
                rw [sp_w, if_neg (sp_nt h17), if_neg h3, if_neg (sp_nb h38), if_pos h82, if_pos h86] at hres
                subst hres
                exact ⟨rfl, rfl, rd_F.of (f := 4) (hX1.fr hdc) rfl⟩
          · refine q_iload_n dX2_takeWiths_41 rfl ?_
            refine q_beq 51 dX2_takeWiths_42 (by decide) (fun h42 => ?_) (fun h42 => ?_)
            · refine q_iconst (x := 1) dX2_takeWiths_51 (by decide) ?_
              refine q_istore_n dX2_takeWiths_52 (by decide) rfl ?_
              refine q_aload_n dX2_takeWiths_53 rfl ?_
              refine q_iconst (x := 0) dX2_takeWiths_54 (by decide) ?_
              refine q_bipush (x := 99) dX2_takeWiths_55 (by decide) ?_
              refine q_rVi lX2_138 vX2_takeNumber (ci := 2) rfl dX2_takeWiths_57 (kc_num hX1.1.1 hX1.1.2.1 h320 hX1.1.2.2.1 hel.2) (by first | rfl | assumption) rfl rfl (Nat.le_of_ble_eq_true rfl) (by decide) (fun τ2 hq2 => ?_)
              refine q_bne 65 dX2_takeWiths_60 (by decide) (fun h60 => ?_) (fun h60 => ?_)
              · obtain ⟨y, hy⟩ := sp_gr h60
                unfold sp_P2 at hq2
                rw [hy] at hq2
                have hX2 : sp_X σ0 c L d f y.2 τ2 := by
                  rw [hq2]
                  exact hX1.nm hd8
                have h12 : τ2 1 12 = y.1 := by rw [hq2, q_up_at]
                have hyp := sp_num_p hel.2 hy
                clear hq2
                refine q_aload_n dX2_takeWiths_65 rfl ?_
                refine q_aload_n dX2_takeWiths_66 rfl ?_
                refine q_get fX2_103 dX2_takeWiths_67 (by first | rfl | assumption) (by rfl) ?_
                refine q_tope (y := y.1) h12 ?_
                refine q_put_i pX2_157 dX2_takeWiths_70 hd (by rfl) rfl rfl ?_
                refine q_goto 156 dX2_takeWiths_73 (by decide) ?_
                refine q_inc 1 dX2_takeWiths_156 (by decide) rfl (by decide) rfl ?_
                refine q_goto 7 dX2_takeWiths_159 (by decide) ?_
                rw [nI_1]
                first
                  | (rw [sp_w, if_neg (sp_nt h17), if_neg h3, if_pos h38, if_neg (sp_nb h42), hy] at hres
                     exact ih m (t + 1) true rt _ y.2 _ (by omega) (by omega) (hX2.put hd8) hyp.2 (by subst h42; simp [sp_u] at hfl ⊢; omega) hres)
                  | (rw [sp_w, if_neg (sp_nt h17), if_neg h3, if_neg (sp_nb h38), if_pos h82, if_neg (sp_nb h86), hy] at hres
                     exact ih m (t + 1) lk true _ y.2 _ (by omega) (by omega) (hX2.put hd8) hyp.2 (by subst h86; simp [sp_u] at hfl ⊢; omega) hres)
                  | (rw [sp_w, if_neg (sp_nt h17), if_neg h3, if_neg (sp_nb h38), if_neg (sp_nb h82), if_pos h126, if_pos h133] at hres
                     exact ih m (t + 1) lk rt _ (sp_e c L p) _ (by omega) (by omega) (hX1.put hd8) hel.2 (by rw [if_pos h133] at hfl; rw [show (if sp_u f 7 1 7 = 0 then 1 else 0) = 0 from rfl]; omega) hres)
              · refine q_iconst (x := 0) dX2_takeWiths_63 (by decide) ?_
                refine q_ret0 dX2_takeWiths_64 ?_ rfl rfl
                obtain ⟨w, hy⟩ := sp_gl h60
                unfold sp_P2 at hq2
                rw [hy] at hq2
                rw [sp_w, if_neg (sp_nt h17), if_neg h3, if_pos h38, if_neg (sp_nb h42), hy] at hres
                subst hres
                exact ⟨rfl, rfl, hq2.tr (hX1.fr hdc)⟩
            · refine q_aload_n dX2_takeWiths_45 rfl ?_
              refine q_iconst (x := 4) dX2_takeWiths_46 (by decide) ?_
              refine q_cVi lX2_70 vX2_fail (ci := 2) rfl dX2_takeWiths_47 kX2_fail (by first | rfl | assumption) rfl rfl (Nat.le_of_ble_eq_true rfl) (by decide) ?_
              refine q_bret dX2_takeWiths_50 ?_ rfl rfl
              rw [sp_w, if_neg (sp_nt h17), if_neg h3, if_pos h38, if_pos h42] at hres
              subst hres
              exact ⟨rfl, rfl, rd_F.of (f := 4) (hX1.fr hdc) rfl⟩
        · have h3 : sp_d c L p = 3 := sp_eq (b := 3) (by omega) (by decide) h27
          refine q_iconst (x := 1) dX2_takeWiths_30 (by decide) ?_
          refine q_ret1 dX2_takeWiths_31 ?_ rfl rfl
          rw [sp_w, if_neg (sp_nt h17), if_pos h3] at hres
          subst hres
          exact ⟨rfl, rfl, hX1⟩
      · refine q_iconst (x := 0) dX2_takeWiths_20 (by decide) ?_
        refine q_ret0 dX2_takeWiths_21 ?_ rfl rfl
        rw [sp_w, if_pos h17] at hres
        subst hres
        exact ⟨rfl, rfl, (hq.2 h17).tr (hX.fr hdc)⟩

set_option maxHeartbeats 1000000 in
set_option maxRecDepth 100000 in
theorem kX2_takeWiths {σ : q_M} {c : Nat → Int32} {L d : Nat} (h320 : L ≤ 320) (hd8 : 8 ≤ d) (hdc : rd_c d) (hd : q_SH[d]? = some q_sD) {f : Nat → Int32} {p : Nat} (hX : sp_X σ c L d f p σ) (hpL : p ≤ L) (hf : f 7 = 0) : q_Ct YX2_takeWiths [.ref 1, .ref d] q_SH σ (q_re (q_b (sp_g (sp_w c L 4 false false f p))) q_SH (sp_PW σ c L d (sp_w c L 4 false false f p))) := by
  refine q_ct (n := 3) (by decide) (by decide) rfl (fun _ => Nat.le_of_ble_eq_true rfl) (fun E => ?_)
  refine q_iconst (x := 0) dX2_takeWiths_0 (by decide) ?_
  refine q_istore_n dX2_takeWiths_1 (by decide) rfl ?_
  refine q_iconst (x := 0) dX2_takeWiths_2 (by decide) ?_
  refine q_istore_n dX2_takeWiths_3 (by decide) rfl ?_
  refine q_iconst (x := 0) dX2_takeWiths_4 (by decide) ?_
  refine q_istore dX2_takeWiths_5 (by decide) rfl ?_
  exact lpX2_withs h320 hd8 hdc hd 5 4 0 false false f p σ (by omega) (by omega) hX hpL (by rw [if_pos hf]; decide) rfl
