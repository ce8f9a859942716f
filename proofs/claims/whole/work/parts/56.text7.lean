/-! the reference: lines -/
def rm_o (w : Nat) : Nat := [0, 1, 2, 3, 7, 4, 5, 6].getD w 0
def rm_cr (k : Nat) : Nat := [0, 1, 2, 3, 4, 6].getD k 0
def rm_tl6 (a b c d e f : Bool) : Int32 := nI (a.toNat + 2 * b.toNat + 4 * c.toNat + 8 * d.toNat + 16 * e.toNat + 32 * f.toNat)
def rm_tl (t : Nat → Bool) : Int32 := rm_tl6 (t 0) (t 1) (t 2) (t 3) (t 4) (t 6)
theorem rm_tl_g6 : ∀ a b c d e f : Bool, (rm_tl6 a b c d e f >>> (nI 0 &&& 31)) &&& 1 = q_b a ∧ (rm_tl6 a b c d e f >>> (nI 1 &&& 31)) &&& 1 = q_b b ∧ (rm_tl6 a b c d e f >>> (nI 2 &&& 31)) &&& 1 = q_b c ∧ (rm_tl6 a b c d e f >>> (nI 3 &&& 31)) &&& 1 = q_b d ∧ (rm_tl6 a b c d e f >>> (nI 4 &&& 31)) &&& 1 = q_b e ∧ (rm_tl6 a b c d e f >>> (nI 5 &&& 31)) &&& 1 = q_b f := by decide +kernel
theorem rm_tl_o6 : ∀ a b c d e f : Bool, rm_tl6 a b c d e f ||| (1 <<< (nI 0 &&& 31)) = rm_tl6 true b c d e f ∧ rm_tl6 a b c d e f ||| (1 <<< (nI 1 &&& 31)) = rm_tl6 a true c d e f ∧ rm_tl6 a b c d e f ||| (1 <<< (nI 2 &&& 31)) = rm_tl6 a b true d e f ∧ rm_tl6 a b c d e f ||| (1 <<< (nI 3 &&& 31)) = rm_tl6 a b c true e f ∧ rm_tl6 a b c d e f ||| (1 <<< (nI 4 &&& 31)) = rm_tl6 a b c d true f ∧ rm_tl6 a b c d e f ||| (1 <<< (nI 5 &&& 31)) = rm_tl6 a b c d e true := by decide +kernel
theorem rm_tl_g (t : Nat → Bool) {k : Nat} (h : k < 6) : (rm_tl t >>> (nI k &&& 31)) &&& 1 = q_b (t (rm_cr k)) := by
  obtain ⟨h0, h1, h2, h3, h4, h5⟩ := rm_tl_g6 (t 0) (t 1) (t 2) (t 3) (t 4) (t 6)
  rcases (show k = 0 ∨ k = 1 ∨ k = 2 ∨ k = 3 ∨ k = 4 ∨ k = 5 by omega) with rfl | rfl | rfl | rfl | rfl | rfl
  · exact h0
  · exact h1
  · exact h2
  · exact h3
  · exact h4
  · exact h5
theorem rm_tl_o (t : Nat → Bool) {k : Nat} (h : k < 6) : rm_tl t ||| (1 <<< (nI k &&& 31)) = rm_tl (sp_u t (rm_cr k) true) := by
  obtain ⟨h0, h1, h2, h3, h4, h5⟩ := rm_tl_o6 (t 0) (t 1) (t 2) (t 3) (t 4) (t 6)
  rcases (show k = 0 ∨ k = 1 ∨ k = 2 ∨ k = 3 ∨ k = 4 ∨ k = 5 by omega) with rfl | rfl | rfl | rfl | rfl | rfl
  · exact h0
  · exact h1
  · exact h2
  · exact h3
  · exact h4
  · exact h5
def rm_hd (a b c : Bool) : Int32 := nI (1024 * a.toNat + 2048 * b.toNat + 4096 * c.toNat)
theorem rm_hd_g : ∀ a b c : Bool, (rm_hd a b c >>> ((10 : Int32) &&& 31)) &&& 1 = q_b a ∧ (rm_hd a b c >>> ((11 : Int32) &&& 31)) &&& 1 = q_b b ∧ (rm_hd a b c >>> ((12 : Int32) &&& 31)) &&& 1 = q_b c := by decide +kernel
theorem rm_hd_o : ∀ a b c : Bool, rm_hd a b c ||| (1 <<< ((10 : Int32) &&& 31)) = rm_hd true b c ∧ rm_hd a b c ||| (1 <<< ((11 : Int32) &&& 31)) = rm_hd a true c ∧ rm_hd a b c ||| (1 <<< ((12 : Int32) &&& 31)) = rm_hd a b true := by decide +kernel
/-- the draft of the reference: m divers counted -/
def rm_Dn (m : Nat) (D : sp_D) (σ : q_M) : Prop := (∀ j, j < 7 → σ 77 j = D.1 j) ∧ (∀ j, j < 24 → σ 78 j = D.2.1 j) ∧ σ 72 8 = rm_tl D.2.2.1 ∧ σ 72 7 = nI m ∧ D.2.2.2.1 ≤ 6 ∧ (∀ k, k < D.2.2.2.1 → ∀ w, w < 8 → σ 79 (8 * k + w) = D.2.2.2.2 k (rm_o w)) ∧ ∀ k, D.2.2.2.1 ≤ k → k < 6 → ∀ w, w < 8 → σ 79 (8 * k + w) = 0
def rm_D (D : sp_D) (σ : q_M) : Prop := rm_Dn D.2.2.2.1 D σ
def rm_fr (σ τ : q_M) : Prop := (∀ x, ¬ (x = 72 ∨ x = 77 ∨ x = 78 ∨ x = 79) → τ x = σ x) ∧ ∀ k, ¬ (k = 7 ∨ k = 8 ∨ (11 ≤ k ∧ k ≤ 16)) → τ 72 k = σ 72 k
section RMF
variable {σ0 σ τ : q_M} {c : Nat → Int32} {L m p : Nat} {D : sp_D}
theorem rm_fr.rf (σ : q_M) : rm_fr σ σ := ⟨fun _ _ => rfl, fun _ _ => rfl⟩
theorem rm_fr.tr {ρ : q_M} (h : rm_fr σ τ) (g : rm_fr τ ρ) : rm_fr σ ρ := ⟨fun x hx => (g.1 x hx).trans (h.1 x hx), fun k hk => (g.2 k hk).trans (h.2 k hk)⟩
theorem rm_f1.fr (h : rm_f1 σ τ) : rm_fr σ τ := ⟨fun x hx => h.1 x (by omega), fun k hk => h.2 k (by omega)⟩
theorem rm_fr.uc (h : rm_fr σ τ) {a k : Nat} {v : Int32} (ha : a = 77 ∨ a = 78 ∨ a = 79) : rm_fr σ (q_up τ a k v) := ⟨fun x hx => by rw [q_up_ne (by omega)]; exact h.1 x hx, fun j hj => by rw [q_up_g (by omega)]; exact h.2 j hj⟩
theorem rm_fr.uf (h : rm_fr σ τ) {k : Nat} {v : Int32} (hk : k = 7 ∨ k = 8) : rm_fr σ (q_up τ 72 k v) := ⟨fun x hx => by rw [q_up_ne (by omega)]; exact h.1 x hx, fun j hj => by rw [q_up_f (by omega)]; exact h.2 j hj⟩
theorem rm_fr.t (h : rm_fr σ τ) (ht : rm_t σ c L) : rm_t τ c L := ht.of (h.2 10 (by decide)) (h.1 80 (by decide))
theorem rm_Dn.f1 (h : rm_Dn m D σ) (g : rm_f1 σ τ) : rm_Dn m D τ := by
  obtain ⟨a, b, d, e, f, i, j⟩ := h
  refine ⟨?_, ?_, ?_, ?_, f, ?_, ?_⟩
  · rw [g.1 77 (by decide)]; exact a
  · rw [g.1 78 (by decide)]; exact b
  · rw [g.2 8 (by decide)]; exact d
  · rw [g.2 7 (by decide)]; exact e
  · rw [g.1 79 (by decide)]; exact i
  · rw [g.1 79 (by decide)]; exact j
theorem rm_Dn.rule (h : rm_Dn m D σ) {r : Nat} {v : Int32} : rm_Dn m (sp_u D.1 r v, D.2) (q_up σ 77 r v) := by
  obtain ⟨a, b, d, e, f, i, j⟩ := h
  refine ⟨fun k hk => ?_, b, d, e, f, i, j⟩
  show _ = if k = r then v else D.1 k
  by_cases hr : k = r
  · rw [hr, q_up_at, if_pos rfl]
  · rw [q_up_f hr, if_neg hr]; exact a k hk
theorem rm_Dn.hour (h : rm_Dn m D σ) {r : Nat} {v : Int32} : rm_Dn m (D.1, sp_u D.2.1 r v, D.2.2) (q_up σ 78 r v) := by
  obtain ⟨a, b, d, e, f, i, j⟩ := h
  refine ⟨a, fun k hk => ?_, d, e, f, i, j⟩
  show _ = if k = r then v else D.2.1 k
  by_cases hr : k = r
  · rw [hr, q_up_at, if_pos rfl]
  · rw [q_up_f hr, if_neg hr]; exact b k hk
theorem rm_Dn.told (h : rm_Dn m D σ) {k : Nat} (hk : k < 6) : rm_Dn m (D.1, D.2.1, sp_u D.2.2.1 (rm_cr k) true, D.2.2.2) (q_up σ 72 8 (rm_tl D.2.2.1 ||| (1 <<< (nI k &&& 31)))) := by
  obtain ⟨a, b, d, e, f, i, j⟩ := h
  exact ⟨a, b, by rw [q_up_at, rm_tl_o _ hk], e, f, i, j⟩
/-- a diver begins in the draft -/
theorem rm_Dn.one (h : rm_D D σ) (h6 : D.2.2.2.1 < 6) : rm_Dn D.2.2.2.1 (D.1, D.2.1, D.2.2.1, D.2.2.2.1 + 1, sp_u D.2.2.2.2 D.2.2.2.1 (fun _ => 0)) σ := by
  obtain ⟨a, b, d, e, f, i, j⟩ := h
  refine ⟨a, b, d, e, h6, fun k hk w hw => ?_, fun k hk hk6 w hw => j k (by have : D.2.2.2.1 + 1 ≤ k := hk; omega) hk6 w hw⟩
  show _ = (if k = D.2.2.2.1 then (fun _ => 0) else D.2.2.2.2 k) (rm_o w)
  have hk' : k < D.2.2.2.1 + 1 := hk
  by_cases hk2 : k = D.2.2.2.1
  · rw [if_pos hk2, hk2]
    exact j _ (Nat.le_refl _) h6 w hw
  · rw [if_neg hk2]
    exact i k (by omega) w hw
theorem rm_o_inj {a b : Nat} (ha : a < 8) (hb : b < 8) (h : rm_o a = rm_o b) : a = b := by
  have z : ∀ a, a < 8 → ∀ b, b < 8 → rm_o a = rm_o b → a = b := by decide +kernel
  exact z a ha b hb h
theorem rm_Dn.put {dv : Nat → Nat → Int32} {f : Nat → Int32} (h : rm_Dn m (D.1, D.2.1, D.2.2.1, m + 1, sp_u dv m f) σ) {x : Nat} (hx : x < 8) {v : Int32} : rm_Dn m (D.1, D.2.1, D.2.2.1, m + 1, sp_u dv m (sp_u f (rm_o x) v)) (q_up σ 79 (8 * m + x) v) := by
  obtain ⟨a, b, d, e, f', i, j⟩ := h
  refine ⟨a, b, d, e, f', fun k hk w hw => ?_, fun k hk hk6 w hw => ?_⟩
  · have hk' : k < m + 1 := hk
    have i' := i k hk w hw
    show _ = (if k = m then sp_u f (rm_o x) v else dv k) (rm_o w)
    have i2 : σ 79 (8 * k + w) = (if k = m then f else dv k) (rm_o w) := i'
    by_cases hk2 : k = m
    · rw [if_pos hk2] at i2 ⊢
      show _ = if rm_o w = rm_o x then v else f (rm_o w)
      by_cases hw2 : w = x
      · rw [hw2, hk2, q_up_at, if_pos rfl]
      · rw [q_up_f (by omega), if_neg (fun z => hw2 (rm_o_inj hw hx z))]
        exact i2
    · rw [if_neg hk2] at i2 ⊢
      rw [q_up_f (by omega)]
      exact i2
  · have hk' : m + 1 ≤ k := hk
    rw [q_up_f (by omega)]
    exact j k hk hk6 w hw
end RMF
/-- the reference in a text: a fault, or a draft and the token from p on looked at -/
def rm_Y (c : Nat → Int32) (L : Nat) (X : sp_F ⊕ (sp_D × Nat)) (τ : q_M) : Prop := match X with
  | .inl w => rm_Fw w τ ∧ 1 ≤ w.1 ∧ w.1 ≤ 5
  | .inr y => (sp_ok c L y.2 = true → rm_D y.1 τ) ∧ rm_L c L y.2 τ ∧ y.2 ≤ L
def rm_Z (σ0 : q_M) (c : Nat → Int32) (L : Nat) (X : sp_F ⊕ (sp_D × Nat)) (τ : q_M) : Prop := rm_fr σ0 τ ∧ rm_Y c L X τ
/-- the same in a diver's line -/
def rm_U (c : Nat → Int32) (L : Nat) (D : sp_D) (X : sp_F ⊕ ((Nat → Int32) × Nat)) (τ : q_M) : Prop := match X with
  | .inl w => rm_Fw w τ ∧ 1 ≤ w.1 ∧ w.1 ≤ 5
  | .inr y => (sp_ok c L y.2 = true → rm_Dn D.2.2.2.1 (D.1, D.2.1, D.2.2.1, D.2.2.2.1 + 1, sp_u D.2.2.2.2 D.2.2.2.1 y.1) τ) ∧ rm_L c L y.2 τ ∧ y.2 ≤ L
def rm_V (σ0 : q_M) (c : Nat → Int32) (L : Nat) (D : sp_D) (X : sp_F ⊕ ((Nat → Int32) × Nat)) (τ : q_M) : Prop := rm_fr σ0 τ ∧ rm_U c L D X τ
def rm_sn {α : Type} (X : sp_F ⊕ (α × Nat)) : sp_F ⊕ Nat := sp_b X fun y => .inr y.2
section RMZ
variable {σ0 σ τ : q_M} {c : Nat → Int32} {L p : Nat} {D : sp_D}
theorem rm_Z.q {X : sp_F ⊕ (sp_D × Nat)} (h : rm_Z σ0 c L X σ) : rm_Q c L (rm_sn X) σ := by
  cases X with
  | inl w => exact h.2
  | inr y => exact ⟨h.2.2.1, h.2.2.2⟩
theorem rm_V.q {X : sp_F ⊕ ((Nat → Int32) × Nat)} (h : rm_V σ0 c L D X σ) : rm_Q c L (rm_sn X) σ := by
  cases X with
  | inl w => exact h.2
  | inr y => exact ⟨h.2.2.1, h.2.2.2⟩
theorem rm_Q.f0 {X : sp_F ⊕ Nat} (h : rm_Q c L X τ) (h0 : τ 72 15 = 0) : ∃ p, X = .inr p ∧ sp_ok c L p = true ∧ rm_T c L p τ ∧ p ≤ L := by
  cases X with
  | inl w => exact absurd h0 (h.1.pos h.2.1 h.2.2).2
  | inr p =>
    cases hok : sp_ok c L p with
    | true => exact ⟨p, rfl, hok, h.1.1 hok, h.2⟩
    | false => exact absurd h0 ((h.1.2 hok).pos (Nat.le_of_ble_eq_true rfl) (Nat.le_of_ble_eq_true rfl)).2
theorem rm_Q.f1 {X : sp_F ⊕ Nat} (h : rm_Q c L X τ) (h0 : ¬ τ 72 15 = 0) : ∃ w, (rm_Fw w τ ∧ 1 ≤ w.1 ∧ w.1 ≤ 5) ∧ (X = .inl w ∨ ∃ p, X = .inr p ∧ sp_ok c L p = false ∧ w = (1, sp_s c L p)) := by
  cases X with
  | inl w => exact ⟨w, h, Or.inl rfl⟩
  | inr p =>
    cases hok : sp_ok c L p with
    | true => exact absurd (h.1.1 hok).2.2.2.2 h0
    | false => exact ⟨_, ⟨h.1.2 hok, (Nat.le_of_ble_eq_true rfl), (Nat.le_of_ble_eq_true rfl)⟩, Or.inr ⟨p, rfl, hok, rfl⟩⟩
theorem rm_Fw.f1 {w : sp_F} (h : rm_Fw w σ) {a k : Nat} {v : Int32} (ha : ¬ a = 72) : rm_Fw w (q_up σ a k v) := ⟨by rw [q_up_g (fun e => ha e.symm)]; exact h.1, by rw [q_up_g (fun e => ha e.symm)]; exact h.2⟩
theorem rm_T.f1 (h : rm_T c L p σ) {a k : Nat} {v : Int32} (ha : ¬ a = 72) : rm_T c L p (q_up σ a k v) := by
  obtain ⟨a1, a2, a3, a4, a5⟩ := h
  have e : ∀ j, q_up σ a k v 72 j = σ 72 j := fun j => q_up_g (fun e => ha e.symm)
  exact ⟨by rw [e]; exact a1, by rw [e]; exact a2, by rw [e]; exact a3, fun z => by rw [e]; exact a4 z, by rw [e]; exact a5⟩
theorem rm_L.f1 (h : rm_L c L p σ) {a k : Nat} {v : Int32} (ha : ¬ a = 72) : rm_L c L p (q_up σ a k v) := ⟨fun z => (h.1 z).f1 ha, fun z => (h.2 z).f1 ha⟩
/-- a number is read into the rules -/
theorem rm_ru {X : sp_F ⊕ (sp_D × Nat)} {lo hi : Int32} {r : Nat} (hZ : rm_Z σ0 c L X σ) (hq : rm_f1 σ τ ∧ rm_Q c L (rm_num c L lo hi (rm_sn X)) τ) : rm_Z σ0 c L (sp_b X fun x => sp_b (sp_num c L lo hi x.2) fun y => .inr ((sp_u x.1.1 r y.1, x.1.2), y.2)) (q_up τ 77 r (σ 72 14)) := by
  refine ⟨(hZ.1.tr hq.1.fr).uc (Or.inl rfl), ?_⟩
  cases X with
  | inl w => exact ⟨hq.2.1.f1 (by decide), hq.2.2⟩
  | inr x =>
    have hq2 : rm_Q c L (sp_b (sp_num c L lo hi x.2) fun y => .inr y.2) τ := hq.2
    rw [sp_b_r]
    cases hn : sp_num c L lo hi x.2 with
    | inl w =>
      rw [hn] at hq2
      exact ⟨hq2.1.f1 (by decide), hq2.2⟩
    | inr y =>
      rw [hn] at hq2
      have hok := (sp_num_r hn).2.2.2.2
      have e := rm_val hZ.2.2.1 hn
      refine ⟨fun _ => ?_, hq2.1.f1 (by decide), hq2.2⟩
      rw [e]
      exact (rm_Dn.f1 (hZ.2.1 hok) hq.1).rule
end RMZ

def rm_rl0 (c : Nat → Int32) (L : Nat) (D : sp_D) (r p : Nat) : sp_F ⊕ (sp_D × Nat) := sp_b (sp_num c L (q_tab 1 r) (q_tab 2 r) p) fun y => if r = 4 then sp_b (sp_num c L 0 99 y.2) fun z => .inr ((sp_u (sp_u D.1 4 y.1) 5 z.1, D.2), z.2) else .inr ((sp_u D.1 r y.1, D.2), y.2)
theorem rm_rl0_n {c : Nat → Int32} {L : Nat} {D : sp_D} {r p : Nat} (h : ¬ r = 4) : rm_rl0 c L D r p = sp_b (sp_num c L (q_tab 1 r) (q_tab 2 r) p) fun y => .inr ((sp_u D.1 r y.1, D.2), y.2) := by
  unfold rm_rl0
  simp only [if_neg h]
theorem rm_rl0_4 (c : Nat → Int32) (L : Nat) (D : sp_D) (p : Nat) : rm_rl0 c L D 4 p = sp_b (sp_b (sp_num c L 0 201 p) fun y => .inr ((sp_u D.1 4 y.1, D.2), y.2)) fun x => sp_b (sp_num c L 0 99 x.2) fun z => .inr ((sp_u x.1.1 5 z.1, x.1.2), z.2) := by
  unfold rm_rl0
  show sp_b (sp_num c L 0 201 p) _ = _
  cases sp_num c L 0 201 p with
  | inl w => rfl
  | inr y => rfl

set_option maxHeartbeats 1000000 in
set_option maxRecDepth 100000 in
theorem kX8_readRule {σ : q_M} {σ0 : q_M} {c : Nat → Int32} {L : Nat} (ht0 : rm_t σ0 c L) {D : sp_D} {p : Nat} (hZ : rm_Z σ0 c L (.inr (D, p)) σ) {kk : Nat} (hk6 : kk < 6) {x : Int32} (hx : x = nI kk) : q_Ct YX8_readRule [.ref 72, .int x] q_SH σ (q_rv q_SH (rm_Z σ0 c L (rm_rl0 c L D (rm_cr kk) p))) := by
  refine q_ct (n := 0) (by decide) (by decide) rfl (fun _ => Nat.le_of_ble_eq_true rfl) (fun E => ?_)
  refine q_iload_n dX8_readRule_0 rfl ?_
  rcases q_sw 5 x with hsw | ⟨jsw, hsw, hjsw⟩
  · refine q_tabOut 138 dX8_readRule_1 (by omega) (by decide) ?_
    refine q_aload_n dX8_readRule_138 rfl ?_
    refine q_getr fX8_23 dX8_readRule_139 (by first | rfl | assumption) (by rfl) ?_
    refine q_bipush (x := 6) dX8_readRule_142 (by decide) ?_
    refine q_aload_n dX8_readRule_144 rfl ?_
    refine q_iconst (x := 0) dX8_readRule_145 (by decide) ?_
    refine q_sipush (x := 999) dX8_readRule_146 (by decide) ?_
    have hkk : kk = 5 := by
      have := nI_toInt (n := kk) (by omega)
      rw [hx] at hsw
      omega
    subst hkk
    refine q_rVi lX8_121 vX8_readNumber (ci := 8) rfl dX8_readRule_149 (kX8_readNumber (hZ.1.t ht0) hZ.q) (by first | rfl | assumption) rfl rfl (Nat.le_of_ble_eq_true rfl) (by decide) (fun τ hq => ?_)
    refine q_isto 6 (by first | rfl | assumption) rfl (by decide) dX8_readRule_152 ?_
    refine q_vret dX8_readRule_153 ?_ rfl rfl
    first
      | exact ⟨rfl, rfl, by show rm_Z σ0 c L (rm_rl0 c L D 4 p) _; rw [rm_rl0_4]; exact rm_ru (r := 5) hZ2 hq2⟩
      | exact ⟨rfl, rfl, by show rm_Z σ0 c L (rm_rl0 c L D 0 p) _; rw [rm_rl0_n (by decide)]; exact rm_ru (r := 0) hZ hq⟩
      | exact ⟨rfl, rfl, by show rm_Z σ0 c L (rm_rl0 c L D 1 p) _; rw [rm_rl0_n (by decide)]; exact rm_ru (r := 1) hZ hq⟩
      | exact ⟨rfl, rfl, by show rm_Z σ0 c L (rm_rl0 c L D 2 p) _; rw [rm_rl0_n (by decide)]; exact rm_ru (r := 2) hZ hq⟩
      | exact ⟨rfl, rfl, by show rm_Z σ0 c L (rm_rl0 c L D 3 p) _; rw [rm_rl0_n (by decide)]; exact rm_ru (r := 3) hZ hq⟩
      | exact ⟨rfl, rfl, by show rm_Z σ0 c L (rm_rl0 c L D 6 p) _; rw [rm_rl0_n (by decide)]; exact rm_ru (r := 6) hZ hq⟩
  · rcases (show jsw = 0 ∨ jsw = 1 ∨ jsw = 2 ∨ jsw = 3 ∨ jsw = 4 by omega) with rfl | rfl | rfl | rfl | rfl
    · subst hjsw
      refine q_tabIn 36 dX8_readRule_1 (by decide) (by decide) rfl (by decide) ?_
      refine q_aload_n dX8_readRule_36 rfl ?_
      refine q_getr fX8_23 dX8_readRule_37 (by first | rfl | assumption) (by rfl) ?_
      refine q_iconst (x := 0) dX8_readRule_40 (by decide) ?_
      refine q_aload_n dX8_readRule_41 rfl ?_
      refine q_bipush (x := 10) dX8_readRule_42 (by decide) ?_
      refine q_sipush (x := 200) dX8_readRule_44 (by decide) ?_
      have hkk : kk = 0 := (sp_eq (by decide) (by omega) hx).symm
      subst hkk
      refine q_rVi lX8_121 vX8_readNumber (ci := 8) rfl dX8_readRule_47 (kX8_readNumber (hZ.1.t ht0) hZ.q) (by first | rfl | assumption) rfl rfl (Nat.le_of_ble_eq_true rfl) (by decide) (fun τ hq => ?_)
      refine q_isto 0 (by first | rfl | assumption) rfl (by decide) dX8_readRule_50 ?_
      refine q_goto 153 dX8_readRule_51 (by decide) ?_
      refine q_vret dX8_readRule_153 ?_ rfl rfl
      first
        | exact ⟨rfl, rfl, by show rm_Z σ0 c L (rm_rl0 c L D 4 p) _; rw [rm_rl0_4]; exact rm_ru (r := 5) hZ2 hq2⟩
        | exact ⟨rfl, rfl, by show rm_Z σ0 c L (rm_rl0 c L D 0 p) _; rw [rm_rl0_n (by decide)]; exact rm_ru (r := 0) hZ hq⟩
        | exact ⟨rfl, rfl, by show rm_Z σ0 c L (rm_rl0 c L D 1 p) _; rw [rm_rl0_n (by decide)]; exact rm_ru (r := 1) hZ hq⟩
        | exact ⟨rfl, rfl, by show rm_Z σ0 c L (rm_rl0 c L D 2 p) _; rw [rm_rl0_n (by decide)]; exact rm_ru (r := 2) hZ hq⟩
        | exact ⟨rfl, rfl, by show rm_Z σ0 c L (rm_rl0 c L D 3 p) _; rw [rm_rl0_n (by decide)]; exact rm_ru (r := 3) hZ hq⟩
        | exact ⟨rfl, rfl, by show rm_Z σ0 c L (rm_rl0 c L D 6 p) _; rw [rm_rl0_n (by decide)]; exact rm_ru (r := 6) hZ hq⟩
    · subst hjsw
      refine q_tabIn 54 dX8_readRule_1 (by decide) (by decide) rfl (by decide) ?_
      refine q_aload_n dX8_readRule_54 rfl ?_
      refine q_getr fX8_23 dX8_readRule_55 (by first | rfl | assumption) (by rfl) ?_
      refine q_iconst (x := 1) dX8_readRule_58 (by decide) ?_
      refine q_aload_n dX8_readRule_59 rfl ?_
      refine q_sipush (x := 800) dX8_readRule_60 (by decide) ?_
      refine q_sipush (x := 1200) dX8_readRule_63 (by decide) ?_
      have hkk : kk = 1 := (sp_eq (by decide) (by omega) hx).symm
      subst hkk
      refine q_rVi lX8_121 vX8_readNumber (ci := 8) rfl dX8_readRule_66 (kX8_readNumber (hZ.1.t ht0) hZ.q) (by first | rfl | assumption) rfl rfl (Nat.le_of_ble_eq_true rfl) (by decide) (fun τ hq => ?_)
      refine q_isto 1 (by first | rfl | assumption) rfl (by decide) dX8_readRule_69 ?_
      refine q_goto 153 dX8_readRule_70 (by decide) ?_
      refine q_vret dX8_readRule_153 ?_ rfl rfl
      first
        | exact ⟨rfl, rfl, by show rm_Z σ0 c L (rm_rl0 c L D 4 p) _; rw [rm_rl0_4]; exact rm_ru (r := 5) hZ2 hq2⟩
        | exact ⟨rfl, rfl, by show rm_Z σ0 c L (rm_rl0 c L D 0 p) _; rw [rm_rl0_n (by decide)]; exact rm_ru (r := 0) hZ hq⟩
        | exact ⟨rfl, rfl, by show rm_Z σ0 c L (rm_rl0 c L D 1 p) _; rw [rm_rl0_n (by decide)]; exact rm_ru (r := 1) hZ hq⟩
        | exact ⟨rfl, rfl, by show rm_Z σ0 c L (rm_rl0 c L D 2 p) _; rw [rm_rl0_n (by decide)]; exact rm_ru (r := 2) hZ hq⟩
        | exact ⟨rfl, rfl, by show rm_Z σ0 c L (rm_rl0 c L D 3 p) _; rw [rm_rl0_n (by decide)]; exact rm_ru (r := 3) hZ hq⟩
        | exact ⟨rfl, rfl, by show rm_Z σ0 c L (rm_rl0 c L D 6 p) _; rw [rm_rl0_n (by decide)]; exact rm_ru (r := 6) hZ hq⟩
    · subst hjsw
      refine q_tabIn 73 dX8_readRule_1 (by decide) (by decide) rfl (by decide) ?_
      refine q_aload_n dX8_readRule_73 rfl ?_
      refine q_getr fX8_23 dX8_readRule_74 (by first | rfl | assumption) (by rfl) ?_
      refine q_iconst (x := 2) dX8_readRule_77 (by decide) ?_
      refine q_aload_n dX8_readRule_78 rfl ?_
      refine q_sipush (x := 250) dX8_readRule_79 (by decide) ?_
      refine q_sipush (x := 350) dX8_readRule_82 (by decide) ?_
      have hkk : kk = 2 := (sp_eq (by decide) (by omega) hx).symm
      subst hkk
      refine q_rVi lX8_121 vX8_readNumber (ci := 8) rfl dX8_readRule_85 (kX8_readNumber (hZ.1.t ht0) hZ.q) (by first | rfl | assumption) rfl rfl (Nat.le_of_ble_eq_true rfl) (by decide) (fun τ hq => ?_)
      refine q_isto 2 (by first | rfl | assumption) rfl (by decide) dX8_readRule_88 ?_
      refine q_goto 153 dX8_readRule_89 (by decide) ?_
      refine q_vret dX8_readRule_153 ?_ rfl rfl
      first
        | exact ⟨rfl, rfl, by show rm_Z σ0 c L (rm_rl0 c L D 4 p) _; rw [rm_rl0_4]; exact rm_ru (r := 5) hZ2 hq2⟩
        | exact ⟨rfl, rfl, by show rm_Z σ0 c L (rm_rl0 c L D 0 p) _; rw [rm_rl0_n (by decide)]; exact rm_ru (r := 0) hZ hq⟩
        | exact ⟨rfl, rfl, by show rm_Z σ0 c L (rm_rl0 c L D 1 p) _; rw [rm_rl0_n (by decide)]; exact rm_ru (r := 1) hZ hq⟩
        | exact ⟨rfl, rfl, by show rm_Z σ0 c L (rm_rl0 c L D 2 p) _; rw [rm_rl0_n (by decide)]; exact rm_ru (r := 2) hZ hq⟩
        | exact ⟨rfl, rfl, by show rm_Z σ0 c L (rm_rl0 c L D 3 p) _; rw [rm_rl0_n (by decide)]; exact rm_ru (r := 3) hZ hq⟩
        | exact ⟨rfl, rfl, by show rm_Z σ0 c L (rm_rl0 c L D 6 p) _; rw [rm_rl0_n (by decide)]; exact rm_ru (r := 6) hZ hq⟩
    · subst hjsw
      refine q_tabIn 92 dX8_readRule_1 (by decide) (by decide) rfl (by decide) ?_
      refine q_aload_n dX8_readRule_92 rfl ?_
      refine q_getr fX8_23 dX8_readRule_93 (by first | rfl | assumption) (by rfl) ?_
      refine q_iconst (x := 3) dX8_readRule_96 (by decide) ?_
      refine q_aload_n dX8_readRule_97 rfl ?_
      refine q_iconst (x := 1) dX8_readRule_98 (by decide) ?_
      refine q_bipush (x := 64) dX8_readRule_99 (by decide) ?_
      have hkk : kk = 3 := (sp_eq (by decide) (by omega) hx).symm
      subst hkk
      refine q_rVi lX8_121 vX8_readNumber (ci := 8) rfl dX8_readRule_101 (kX8_readNumber (hZ.1.t ht0) hZ.q) (by first | rfl | assumption) rfl rfl (Nat.le_of_ble_eq_true rfl) (by decide) (fun τ hq => ?_)
      refine q_isto 3 (by first | rfl | assumption) rfl (by decide) dX8_readRule_104 ?_
      refine q_goto 153 dX8_readRule_105 (by decide) ?_
      refine q_vret dX8_readRule_153 ?_ rfl rfl
      first
        | exact ⟨rfl, rfl, by show rm_Z σ0 c L (rm_rl0 c L D 4 p) _; rw [rm_rl0_4]; exact rm_ru (r := 5) hZ2 hq2⟩
        | exact ⟨rfl, rfl, by show rm_Z σ0 c L (rm_rl0 c L D 0 p) _; rw [rm_rl0_n (by decide)]; exact rm_ru (r := 0) hZ hq⟩
        | exact ⟨rfl, rfl, by show rm_Z σ0 c L (rm_rl0 c L D 1 p) _; rw [rm_rl0_n (by decide)]; exact rm_ru (r := 1) hZ hq⟩
        | exact ⟨rfl, rfl, by show rm_Z σ0 c L (rm_rl0 c L D 2 p) _; rw [rm_rl0_n (by decide)]; exact rm_ru (r := 2) hZ hq⟩
        | exact ⟨rfl, rfl, by show rm_Z σ0 c L (rm_rl0 c L D 3 p) _; rw [rm_rl0_n (by decide)]; exact rm_ru (r := 3) hZ hq⟩
        | exact ⟨rfl, rfl, by show rm_Z σ0 c L (rm_rl0 c L D 6 p) _; rw [rm_rl0_n (by decide)]; exact rm_ru (r := 6) hZ hq⟩
    · subst hjsw
      refine q_tabIn 108 dX8_readRule_1 (by decide) (by decide) rfl (by decide) ?_
      refine q_aload_n dX8_readRule_108 rfl ?_
      refine q_getr fX8_23 dX8_readRule_109 (by first | rfl | assumption) (by rfl) ?_
      refine q_iconst (x := 4) dX8_readRule_112 (by decide) ?_
      refine q_aload_n dX8_readRule_113 rfl ?_
      refine q_iconst (x := 0) dX8_readRule_114 (by decide) ?_
      refine q_sipush (x := 201) dX8_readRule_115 (by decide) ?_
      have hkk : kk = 4 := (sp_eq (by decide) (by omega) hx).symm
      subst hkk
      refine q_rVi lX8_121 vX8_readNumber (ci := 8) rfl dX8_readRule_118 (kX8_readNumber (hZ.1.t ht0) hZ.q) (by first | rfl | assumption) rfl rfl (Nat.le_of_ble_eq_true rfl) (by decide) (fun τ hq => ?_)
      refine q_isto 4 (by first | rfl | assumption) rfl (by decide) dX8_readRule_121 ?_
      have hZ2 := rm_ru (r := 4) hZ hq
      refine q_aload_n dX8_readRule_122 rfl ?_
      refine q_getr fX8_23 dX8_readRule_123 (by first | rfl | assumption) (by rfl) ?_
      refine q_iconst (x := 5) dX8_readRule_126 (by decide) ?_
      refine q_aload_n dX8_readRule_127 rfl ?_
      refine q_iconst (x := 0) dX8_readRule_128 (by decide) ?_
      refine q_bipush (x := 99) dX8_readRule_129 (by decide) ?_
      refine q_rVi lX8_121 vX8_readNumber (ci := 8) rfl dX8_readRule_131 (kX8_readNumber (hZ2.1.t ht0) hZ2.q) (by first | rfl | assumption) rfl rfl (Nat.le_of_ble_eq_true rfl) (by decide) (fun τ2 hq2 => ?_)
      refine q_isto 5 (by first | rfl | assumption) rfl (by decide) dX8_readRule_134 ?_
      refine q_goto 153 dX8_readRule_135 (by decide) ?_
      refine q_vret dX8_readRule_153 ?_ rfl rfl
      first
        | exact ⟨rfl, rfl, by show rm_Z σ0 c L (rm_rl0 c L D 4 p) _; rw [rm_rl0_4]; exact rm_ru (r := 5) hZ2 hq2⟩
        | exact ⟨rfl, rfl, by show rm_Z σ0 c L (rm_rl0 c L D 0 p) _; rw [rm_rl0_n (by decide)]; exact rm_ru (r := 0) hZ hq⟩
        | exact ⟨rfl, rfl, by show rm_Z σ0 c L (rm_rl0 c L D 1 p) _; rw [rm_rl0_n (by decide)]; exact rm_ru (r := 1) hZ hq⟩
        | exact ⟨rfl, rfl, by show rm_Z σ0 c L (rm_rl0 c L D 2 p) _; rw [rm_rl0_n (by decide)]; exact rm_ru (r := 2) hZ hq⟩
        | exact ⟨rfl, rfl, by show rm_Z σ0 c L (rm_rl0 c L D 3 p) _; rw [rm_rl0_n (by decide)]; exact rm_ru (r := 3) hZ hq⟩
        | exact ⟨rfl, rfl, by show rm_Z σ0 c L (rm_rl0 c L D 6 p) _; rw [rm_rl0_n (by decide)]; exact rm_ru (r := 6) hZ hq⟩

def rm_hr0 (c : Nat → Int32) (L : Nat) (D : sp_D) (p : Nat) : sp_F ⊕ (sp_D × Nat) := sp_b (sp_num c L 0 23 p) fun y => if ¬ D.2.1 y.1.toNatClampNeg = 0 then .inl (4, sp_s c L p) else sp_b (sp_num c L 250 350 y.2) fun z => .inr ((D.1, sp_u D.2.1 y.1.toNatClampNeg z.1, D.2.2), z.2)

set_option maxHeartbeats 1000000 in
set_option maxRecDepth 100000 in
theorem sgX8_hrF {E : q_E} {σ : q_M} {σ0 : q_M} {c : Nat → Int32} {L : Nat} (ht0 : rm_t σ0 c L) (hfr : rm_fr σ0 σ) {w : sp_F} (hF : rm_Fw w σ) (h1 : 1 ≤ w.1) (h5 : w.1 ≤ 5) {h : Int32} {ol : Option Value} : q_G YX8_readHour E 0 0 49 [some (.ref 72), some (.int h), ol] [] q_SH σ (q_rv q_SH (rm_Z σ0 c L (.inl w))) := by
  refine q_aload_n dX8_readHour_49 rfl ?_
  refine q_cVv lX8_118 vX8_next (ci := 8) rfl dX8_readHour_50 (kX8_nextF (hF.pos h1 h5).1) (by first | rfl | assumption) rfl rfl (Nat.le_of_ble_eq_true rfl) (by decide) ?_
  refine q_aload_n dX8_readHour_53 rfl ?_
  refine q_sipush (x := 250) dX8_readHour_54 (by decide) ?_
  refine q_sipush (x := 350) dX8_readHour_57 (by decide) ?_
  refine q_rVi lX8_121 vX8_readNumber (ci := 8) rfl dX8_readHour_60 (kX8_readNumber (X := .inl w) (hfr.t ht0) ⟨hF, h1, h5⟩) (by first | rfl | assumption) rfl rfl (Nat.le_of_ble_eq_true rfl) (by decide) (fun τ hq => ?_)
  refine q_istore_n dX8_readHour_63 (by decide) rfl ?_
  refine q_aload_n dX8_readHour_64 rfl ?_
  refine q_get fX8_76 dX8_readHour_65 (by first | rfl | assumption) (by rfl) ?_
  refine q_if_ne 78 dX8_readHour_68 (by decide) (fun h68 => ?_) (fun h68 => ?_)
  · refine q_vret dX8_readHour_78 ?_ rfl rfl
    exact ⟨rfl, rfl, hfr.tr hq.1.fr, hq.2⟩
  · exact absurd h68 (hq.2.1.pos h1 h5).2

set_option maxHeartbeats 1000000 in
set_option maxRecDepth 100000 in
theorem kX8_readHourB {σ : q_M} {σ0 : q_M} {c : Nat → Int32} {L : Nat} (ht0 : rm_t σ0 c L) {D : sp_D} {p : Nat} (hZ : rm_Z σ0 c L (.inr (D, p)) σ) (h0 : σ 72 15 = 0) {w : sp_F} (hn : sp_num c L 0 23 p = .inl w) (hF : rm_Fw w (rm_in σ 0 23)) (h1 : 1 ≤ w.1) (h5 : w.1 ≤ 5) : q_Ct YX8_readHour [.ref 72] q_SH σ (q_rv q_SH (rm_Z σ0 c L (.inl w))) := by
  refine q_ct (n := 2) (by decide) (by decide) rfl (fun _ => Nat.le_of_ble_eq_true rfl) (fun E => ?_)
  refine q_aload_n dX8_readHour_0 rfl ?_
  refine q_iconst (x := 0) dX8_readHour_1 (by decide) ?_
  refine q_bipush (x := 23) dX8_readHour_2 (by decide) ?_
  refine q_cVv lX8_114 vX8_isNumber (ci := 8) rfl dX8_readHour_4 kX8_isNumber (by first | rfl | assumption) rfl rfl (Nat.le_of_ble_eq_true rfl) (by decide) ?_
  refine q_aload_n dX8_readHour_7 rfl ?_
  refine q_get fX8_76 dX8_readHour_8 (by first | rfl | assumption) (by rfl) ?_
  refine q_if_ne 21 dX8_readHour_11 (by decide) (fun h11 => ?_) (fun h11 => ?_)
  · refine q_iconst (x := 0) dX8_readHour_21 (by decide) ?_
    refine q_istore_n dX8_readHour_22 (by decide) rfl ?_
    refine q_aload_n dX8_readHour_23 rfl ?_
    refine q_get fX8_76 dX8_readHour_24 (by first | rfl | assumption) (by rfl) ?_
    refine q_if_ne 49 dX8_readHour_27 (by decide) (fun h27 => ?_) (fun h27 => ?_)
    · exact sgX8_hrF ht0 (hZ.1.tr (rm_in_fr σ 0 23).fr) hF h1 h5
    · exact absurd h27 (hF.pos h1 h5).2
  · exact absurd h11 (hF.pos h1 h5).2

theorem rm_num_l {c : Nat → Int32} {L : Nat} {lo hi : Int32} {p : Nat} {w : sp_F} (h : rm_num c L lo hi (.inr p) = .inl w) : sp_num c L lo hi p = .inl w := by
  have h2 : sp_b (sp_num c L lo hi p) (fun y => (.inr y.2 : sp_F ⊕ Nat)) = .inl w := h
  cases hn : sp_num c L lo hi p with
  | inl v =>
    rw [hn] at h2
    cases h2
    rfl
  | inr y =>
    rw [hn] at h2
    cases h2
theorem rm_num_r {c : Nat → Int32} {L : Nat} {lo hi : Int32} {p q : Nat} (h : rm_num c L lo hi (.inr p) = .inr q) : ∃ z, sp_num c L lo hi p = .inr z ∧ z.2 = q := by
  have h2 : sp_b (sp_num c L lo hi p) (fun y => (.inr y.2 : sp_F ⊕ Nat)) = .inr q := h
  cases hn : sp_num c L lo hi p with
  | inl v =>
    rw [hn] at h2
    cases h2
  | inr y =>
    rw [hn] at h2
    cases h2
    exact ⟨y, rfl, rfl⟩

set_option maxHeartbeats 1000000 in
set_option maxRecDepth 100000 in
theorem sgX8_hrK {E : q_E} {σ : q_M} {σ0 : q_M} {c : Nat → Int32} {L : Nat} (ht0 : rm_t σ0 c L) {D : sp_D} {p : Nat} (hZ : rm_Z σ0 c L (.inr (D, p)) σ) (hT : rm_T c L p σ) (hok : sp_ok c L p = true) {y : Int32 × Nat} (hn : sp_num c L 0 23 p = .inr y) (hy2 : y.2 = sp_e c L p) (h37 : D.2.1 y.1.toNatClampNeg = 0) : q_G YX8_readHour E 0 0 49 [some (.ref 72), some (.int y.1), none] [] q_SH σ (q_rv q_SH (rm_Z σ0 c L (rm_hr0 c L D p))) := by
  have hyw := q_win_t (sp_num_r hn).2.2.1
  have e0 : (0 : Int32).toInt = 0 := rfl
  have e23 : (23 : Int32).toInt = 23 := rfl
  have hyc := q_clamp (x := y.1) (by omega)
  have e : rm_hr0 c L D p = sp_b (sp_num c L 250 350 (sp_e c L p)) (fun z => .inr ((D.1, sp_u D.2.1 y.1.toNatClampNeg z.1, D.2.2), z.2)) := by
    unfold rm_hr0
    rw [hn]
    show (if ¬ D.2.1 y.1.toNatClampNeg = 0 then _ else sp_b (sp_num c L 250 350 y.2) _) = _
    rw [if_neg (fun z => z h37), hy2]
  refine q_aload_n dX8_readHour_49 rfl ?_
  refine q_rVv lX8_118 vX8_next (ci := 8) rfl dX8_readHour_50 (kX8_next (hZ.1.t ht0) hT.2.2.2.2 hT.1 (sp_e_le hZ.2.2.2).2) (by first | rfl | assumption) rfl rfl (Nat.le_of_ble_eq_true rfl) (by decide) (fun τ hq => ?_)
  refine q_aload_n dX8_readHour_53 rfl ?_
  refine q_sipush (x := 250) dX8_readHour_54 (by decide) ?_
  refine q_sipush (x := 350) dX8_readHour_57 (by decide) ?_
  refine q_rVi lX8_121 vX8_readNumber (ci := 8) rfl dX8_readHour_60 (kX8_readNumber (X := .inr (sp_e c L p)) (hq.1.t (hZ.1.t ht0)) ⟨hq.2, (sp_e_le hZ.2.2.2).2⟩) (by first | rfl | assumption) rfl rfl (Nat.le_of_ble_eq_true rfl) (by decide) (fun τ2 hq2 => ?_)
  refine q_istore_n dX8_readHour_63 (by decide) rfl ?_
  refine q_aload_n dX8_readHour_64 rfl ?_
  refine q_get fX8_76 dX8_readHour_65 (by first | rfl | assumption) (by rfl) ?_
  refine q_if_ne 78 dX8_readHour_68 (by decide) (fun h68 => ?_) (fun h68 => ?_)
  · have hr := hq2.2.f1 h68
    refine q_vret dX8_readHour_78 ?_ rfl rfl
    first
      | (obtain ⟨w, hw, hX⟩ := hr
         refine ⟨rfl, rfl, (hZ.1.tr hq.1.fr).tr hq2.1.fr, ?_⟩
         rw [e]
         rcases hX with hX | ⟨q, hX, hqk, hw2⟩
         · rw [rm_num_l hX]
           exact hw
         · obtain ⟨z, hz, hz2⟩ := rm_num_r hX
           rw [hz]
           subst hw2
           refine ⟨fun k => absurd (hqk.symm.trans (hz2 ▸ k)) (by decide), ?_, ?_⟩
           · show rm_L c L z.2 τ2
             rw [hz2]
             exact rm_L.no hqk hw.1
           · show z.2 ≤ L
             exact (sp_num_p (sp_e_le hZ.2.2.2).2 hz).2)
      | (obtain ⟨q, hX, hqk, hT2, hqL⟩ := hr
         obtain ⟨z, hz, hz2⟩ := rm_num_r hX
         have ev := rm_val hq.2 hz
         refine ⟨rfl, rfl, ((hZ.1.tr hq.1.fr).tr hq2.1.fr).uc (by decide), ?_⟩
         rw [e, hz]
         refine ⟨fun _ => ?_, ?_, ?_⟩
         · rw [ev]
           exact (((hZ.2.1 hok).f1 hq.1).f1 hq2.1).hour
         · show rm_L c L z.2 _
           rw [hz2]
           exact (rm_L.ok hqk hT2).f1 (by decide)
         · show z.2 ≤ L
           rw [hz2]
           exact hqL)
  · have hr := hq2.2.f0 h68
    refine q_aload_n dX8_readHour_71 rfl ?_
    refine q_getr fX8_26 dX8_readHour_72 (by first | rfl | assumption) (by rfl) ?_
    refine q_iload_n dX8_readHour_75 rfl ?_
    refine q_iload_n dX8_readHour_76 rfl ?_
    refine q_isto y.1.toNatClampNeg (by first | rfl | assumption) hyc (by omega) dX8_readHour_77 ?_
    refine q_vret dX8_readHour_78 ?_ rfl rfl
    first
      | (obtain ⟨w, hw, hX⟩ := hr
         refine ⟨rfl, rfl, (hZ.1.tr hq.1.fr).tr hq2.1.fr, ?_⟩
         rw [e]
         rcases hX with hX | ⟨q, hX, hqk, hw2⟩
         · rw [rm_num_l hX]
           exact hw
         · obtain ⟨z, hz, hz2⟩ := rm_num_r hX
           rw [hz]
           subst hw2
           refine ⟨fun k => absurd (hqk.symm.trans (hz2 ▸ k)) (by decide), ?_, ?_⟩
           · show rm_L c L z.2 τ2
             rw [hz2]
             exact rm_L.no hqk hw.1
           · show z.2 ≤ L
             exact (sp_num_p (sp_e_le hZ.2.2.2).2 hz).2)
      | (obtain ⟨q, hX, hqk, hT2, hqL⟩ := hr
         obtain ⟨z, hz, hz2⟩ := rm_num_r hX
         have ev := rm_val hq.2 hz
         refine ⟨rfl, rfl, ((hZ.1.tr hq.1.fr).tr hq2.1.fr).uc (by decide), ?_⟩
         rw [e, hz]
         refine ⟨fun _ => ?_, ?_, ?_⟩
         · rw [ev]
           exact (((hZ.2.1 hok).f1 hq.1).f1 hq2.1).hour
         · show rm_L c L z.2 _
           rw [hz2]
           exact (rm_L.ok hqk hT2).f1 (by decide)
         · show z.2 ≤ L
           rw [hz2]
           exact hqL)

set_option maxHeartbeats 1000000 in
set_option maxRecDepth 100000 in
theorem kX8_readHourK {σ : q_M} {σ0 : q_M} {c : Nat → Int32} {L : Nat} (ht0 : rm_t σ0 c L) {D : sp_D} {p : Nat} (hZ : rm_Z σ0 c L (.inr (D, p)) σ) (hT : rm_T c L p σ) (hok : sp_ok c L p = true) {y : Int32 × Nat} (hn : sp_num c L 0 23 p = .inr y) (hy2 : y.2 = sp_e c L p) (hy1 : y.1 = σ 72 14) (hin : rm_in σ 0 23 = σ) : q_Ct YX8_readHour [.ref 72] q_SH σ (q_rv q_SH (rm_Z σ0 c L (rm_hr0 c L D p))) := by
  refine q_ct (n := 2) (by decide) (by decide) rfl (fun _ => Nat.le_of_ble_eq_true rfl) (fun E => ?_)
  have hD := hZ.2.1 hok
  have hyw := q_win_t (sp_num_r hn).2.2.1
  have e0 : (0 : Int32).toInt = 0 := rfl
  have e23 : (23 : Int32).toInt = 23 := rfl
  have hyc := q_clamp (x := y.1) (by omega)
  refine q_aload_n dX8_readHour_0 rfl ?_
  refine q_iconst (x := 0) dX8_readHour_1 (by decide) ?_
  refine q_bipush (x := 23) dX8_readHour_2 (by decide) ?_
  refine q_cVv lX8_114 vX8_isNumber (ci := 8) rfl dX8_readHour_4 kX8_isNumber (by first | rfl | assumption) rfl rfl (Nat.le_of_ble_eq_true rfl) (by decide) ?_
  refine q_mem hin ?_
  refine q_aload_n dX8_readHour_7 rfl ?_
  refine q_get fX8_76 dX8_readHour_8 (by first | rfl | assumption) (by rfl) ?_
  refine q_tope (y := 0) hT.2.2.2.2 ?_
  refine q_if_ne 21 dX8_readHour_11 (by decide) (fun h11 => ?_) (fun h11 => ?_)
  · exact absurd rfl h11
  · refine q_aload_n dX8_readHour_14 rfl ?_
    refine q_get fX8_107 dX8_readHour_15 (by first | rfl | assumption) (by rfl) ?_
    refine q_tope (y := y.1) hy1.symm ?_
    refine q_goto 22 dX8_readHour_18 (by decide) ?_
    refine q_istore_n dX8_readHour_22 (by decide) rfl ?_
    refine q_aload_n dX8_readHour_23 rfl ?_
    refine q_get fX8_76 dX8_readHour_24 (by first | rfl | assumption) (by rfl) ?_
    refine q_tope (y := 0) hT.2.2.2.2 ?_
    refine q_if_ne 49 dX8_readHour_27 (by decide) (fun h27 => ?_) (fun h27 => ?_)
    · exact absurd rfl h27
    · refine q_aload_n dX8_readHour_30 rfl ?_
      refine q_aload_n dX8_readHour_31 rfl ?_
      refine q_getr fX8_26 dX8_readHour_32 (by first | rfl | assumption) (by rfl) ?_
      refine q_iload_n dX8_readHour_35 rfl ?_
      refine q_ild y.1.toNatClampNeg (by first | rfl | assumption) hyc (by omega) dX8_readHour_36 ?_
      refine q_tope (y := D.2.1 y.1.toNatClampNeg) (hD.2.1 _ (by omega)) ?_
      refine q_if_ne 44 dX8_readHour_37 (by decide) (fun h37 => ?_) (fun h37 => ?_)
      · have hbad := h37
        refine q_iconst (x := 0) dX8_readHour_44 (by decide) ?_
        refine q_iconst (x := 4) dX8_readHour_45 (by decide) ?_
        refine q_cVv lX8_110 vX8_needs (ci := 8) rfl dX8_readHour_46 kX8_needs (by first | rfl | assumption) rfl rfl (Nat.le_of_ble_eq_true rfl) (by decide) ?_
        first
          | (have zz := hbad
             refine q_mem (rm_nd_f rfl hT.2.2.2.2) ?_)
          | refine q_mem rm_nd_1 ?_
        first
          | (have e : rm_hr0 c L D p = .inl (4, sp_s c L p) := by
               unfold rm_hr0
               rw [hn]
               exact if_pos hbad
             rw [e]
             have hfr1 : rm_fr σ0 (q_up (q_up σ 72 15 4) 72 16 (σ 72 12)) := hZ.1.tr (((rm_f1.rf σ).up (by decide)).up (by decide)).fr
             have hFw : rm_Fw (4, sp_s c L p) (q_up (q_up σ 72 15 4) 72 16 (σ 72 12)) := ⟨rfl, hT.2.1⟩
             exact sgX8_hrF ht0 hfr1 hFw (Nat.le_of_ble_eq_true rfl) (Nat.le_of_ble_eq_true rfl))
          | exact sgX8_hrK ht0 hZ hT hok hn hy2 hgood
      · have hgood := h37
        refine q_iconst (x := 1) dX8_readHour_40 (by decide) ?_
        refine q_goto 45 dX8_readHour_41 (by decide) ?_
        refine q_iconst (x := 4) dX8_readHour_45 (by decide) ?_
        refine q_cVv lX8_110 vX8_needs (ci := 8) rfl dX8_readHour_46 kX8_needs (by first | rfl | assumption) rfl rfl (Nat.le_of_ble_eq_true rfl) (by decide) ?_
        first
          | (have zz := hbad
             refine q_mem (rm_nd_f rfl hT.2.2.2.2) ?_)
          | refine q_mem rm_nd_1 ?_
        first
          | (have e : rm_hr0 c L D p = .inl (4, sp_s c L p) := by
               unfold rm_hr0
               rw [hn]
               exact if_pos hbad
             rw [e]
             have hfr1 : rm_fr σ0 (q_up (q_up σ 72 15 4) 72 16 (σ 72 12)) := hZ.1.tr (((rm_f1.rf σ).up (by decide)).up (by decide)).fr
             have hFw : rm_Fw (4, sp_s c L p) (q_up (q_up σ 72 15 4) 72 16 (σ 72 12)) := ⟨rfl, hT.2.1⟩
             exact sgX8_hrF ht0 hfr1 hFw (Nat.le_of_ble_eq_true rfl) (Nat.le_of_ble_eq_true rfl))
          | exact sgX8_hrK ht0 hZ hT hok hn hy2 hgood

theorem kX8_readHour {σ σ0 : q_M} {c : Nat → Int32} {L : Nat} (ht0 : rm_t σ0 c L) {D : sp_D} {p : Nat} (hZ : rm_Z σ0 c L (.inr (D, p)) σ) (h0 : σ 72 15 = 0) : q_Ct YX8_readHour [.ref 72] q_SH σ (q_rv q_SH (rm_Z σ0 c L (rm_hr0 c L D p))) := by
  obtain ⟨q, hX, hok, hT, hpL⟩ := hZ.q.f0 h0
  cases hX
  rcases rm_in_T (lo := 0) (hi := 23) hT hok with ⟨w, h1, h2⟩ | ⟨y, h1, h2, h3, h4⟩
  · have e : rm_hr0 c L D p = .inl w := by
      unfold rm_hr0
      have h1' : sp_num c L 0 23 p = .inl w := h1
      rw [h1']
      rfl
    rw [e]
    exact kX8_readHourB ht0 hZ h0 h1 h2.1 h2.2.1 h2.2.2
  · exact kX8_readHourK ht0 hZ hT hok h1 h2 h3 h4
