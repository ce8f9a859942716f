/-! the reader of the class: lines -/
theorem kc_nt {σ : q_M} {c : Nat → Int32} (hc : σ 2 = c) {L : Nat} (hL : σ 1 4 = nI L) (h320 : L ≤ 320) {p : Nat} (hp : σ 1 9 = nI p) (hpL : p ≤ L) : q_Ct YX2_nextToken [.ref 1] q_SH σ (q_re (q_b (sp_ok c L p)) q_SH (sp_P1 σ c L p)) := by
  subst hc
  exact kX2_nextToken hL h320 hp hpL
theorem kc_num {σ : q_M} {c : Nat → Int32} (hc : σ 2 = c) {L : Nat} (hL : σ 1 4 = nI L) (h320 : L ≤ 320) {p : Nat} (hp : σ 1 9 = nI p) (hpL : p ≤ L) {lo hi : Int32} : q_Ct YX2_takeNumber [.ref 1, .int lo, .int hi] q_SH σ (q_re (q_b (sp_g (sp_num c L lo hi p))) q_SH (sp_P2 σ c L lo hi p)) := by
  subst hc
  exact kX2_takeNumber hL h320 hp hpL
theorem kc_st {σ : q_M} {c : Nat → Int32} (hc : σ 2 = c) {L : Nat} (hL : σ 1 4 = nI L) (h320 : L ≤ 320) {p : Nat} (hp : σ 1 9 = nI p) (hpL : p ≤ L) : q_Ct YX2_takeStop [.ref 1] q_SH σ (q_re (q_b (sp_g (sp_st c L p))) q_SH (sp_P3 σ c L p)) := by
  subst hc
  exact kX2_takeStop hL h320 hp hpL
theorem kc_rule {σ : q_M} {c : Nat → Int32} (hc : σ 2 = c) {L : Nat} (hL : σ 1 4 = nI L) (h320 : L ≤ 320) {p : Nat} (hp : σ 1 9 = nI p) (hpL : p ≤ L) {r : Nat} (hr : r < 7) : q_Ct YX2_takeRule [.ref 1, .int (nI r)] q_SH σ (q_re (q_b (sp_g (sp_num c L (q_tab 1 r) (q_tab 2 r) p))) q_SH (sp_P4 σ c L r p)) := by
  subst hc
  exact kX2_takeRule hL h320 hp hpL hr
theorem kc_name {σ : q_M} {c : Nat → Int32} (hc : σ 2 = c) {k s e : Nat} (hk : σ 1 10 = nI k) (hk5 : k ≤ 5) (hs : σ 1 11 = nI s) (he : σ 1 9 = nI e) (hse : s ≤ e) (h320 : e ≤ 320) {j : Nat} (hj : j < 11) : q_Ct YX2_isName [.ref 1, .ref (1000000 + (100 + j))] q_SH σ (q_is (some (q_b (decide (k = 1) && sp_nm c s e j))) q_SH σ) := by
  subst hc
  exact kX2_isName hk hk5 hs he hse h320 hj
theorem kc_ri {σ : q_M} {c : Nat → Int32} (hc : σ 2 = c) {k s e : Nat} (hk : σ 1 10 = nI k) (hk5 : k ≤ 5) (hs : σ 1 11 = nI s) (he : σ 1 9 = nI e) (hse : s ≤ e) (h320 : e ≤ 320) : q_Ct YX2_ruleNamed [.ref 1] q_SH σ (q_is (some (sp_ri k c s e)) q_SH σ) := by
  subst hc
  exact kX2_ruleNamed hk hk5 hs he hse h320
/-- the reader's cells hold a draft, read up to p -/
def sp_R (σ0 : q_M) (c : Nat → Int32) (L : Nat) (D : sp_D) (n p : Nat) (σ : q_M) : Prop :=
  (σ 2 = c ∧ σ 1 4 = nI L ∧ σ 1 9 = nI p ∧ σ 1 5 = nI D.2.2.2.1 ∧ σ 1 6 = nI n ∧ σ 1 7 = 0) ∧ (∀ j, j < 7 → σ 4 j = D.1 j) ∧ (∀ j, j < 24 → σ 5 j = D.2.1 j) ∧ (∀ j, j < 7 → σ 7 j = q_b (D.2.2.1 j)) ∧ (∀ k, k < D.2.2.2.1 → ∀ w, w < 8 → σ (8 + k) w = D.2.2.2.2 k w) ∧ D.2.2.2.1 ≤ 6 ∧ rd_fr σ0 σ
def sp_PL (σ0 : q_M) (c : Nat → Int32) (L n : Nat) (res : sp_F ⊕ (sp_D × Nat)) (τ : q_M) : Prop := match res with
  | .inl w => rd_F σ0 τ w
  | .inr y => sp_R σ0 c L y.1 n y.2 τ
section SPR
variable {σ0 σ τ : q_M} {c : Nat → Int32} {L n p : Nat} {D : sp_D}
theorem sp_R.up (h : sp_R σ0 c L D n p σ) {k : Nat} {v : Int32} (hk : 10 ≤ k) : sp_R σ0 c L D n p (q_up σ 1 k v) := by
  obtain ⟨⟨a1, a2, a3, a4, a5, a6⟩, b, d, e, f, g, i⟩ := h
  refine ⟨⟨a1, ?_, ?_, ?_, ?_, ?_⟩, b, d, e, fun x hx w hw => ?_, g, i.up rd_c1⟩
  · rw [q_up_f (by omega)]; exact a2
  · rw [q_up_f (by omega)]; exact a3
  · rw [q_up_f (by omega)]; exact a4
  · rw [q_up_f (by omega)]; exact a5
  · rw [q_up_f (by omega)]; exact a6
  · rw [q_up_g (by omega)]; exact f x hx w hw
theorem sp_R.at (h : sp_R σ0 c L D n p σ) {q : Nat} : sp_R σ0 c L D n q (q_up σ 1 9 (nI q)) := by
  obtain ⟨⟨a1, a2, a3, a4, a5, a6⟩, b, d, e, f, g, i⟩ := h
  exact ⟨⟨a1, a2, q_up_at _ _ _ _, a4, a5, a6⟩, b, d, e, fun x hx w hw => by rw [q_up_g (by omega)]; exact f x hx w hw, g, i.up rd_c1⟩
theorem sp_R.tk (h : sp_R σ0 c L D n p σ) {s k e : Nat} : sp_R σ0 c L D n e (rd_t σ s k e) := ((h.at.up (by decide)).up (by decide)).at
theorem sp_R.nm (h : sp_R σ0 c L D n p σ) {s k e : Nat} {v : Int32} : sp_R σ0 c L D n e (q_up (rd_t σ s k e) 1 12 v) := h.tk.up (by decide)
theorem sp_R.told (h : sp_R σ0 c L D n p σ) {r : Nat} : sp_R σ0 c L (D.1, D.2.1, sp_u D.2.2.1 r true, D.2.2.2.1, D.2.2.2.2) n p (q_up σ 7 r 1) := by
  obtain ⟨a, b, d, e, f, g, i⟩ := h
  refine ⟨a, b, d, fun j hj => ?_, fun x hx w hw => ?_, g, i.up rd_c7⟩
  · show _ = q_b (if j = r then true else D.2.2.1 j)
    by_cases hjr : j = r
    · rw [hjr, q_up_at, if_pos rfl]; rfl
    · rw [q_up_f hjr, if_neg hjr]; exact e j hj
  · rw [q_up_g (by omega)]; exact f x hx w hw
theorem sp_R.rule (h : sp_R σ0 c L D n p σ) {r : Nat} {v : Int32} : sp_R σ0 c L (sp_u D.1 r v, D.2.1, D.2.2.1, D.2.2.2.1, D.2.2.2.2) n p (q_up σ 4 r v) := by
  obtain ⟨a, b, d, e, f, g, i⟩ := h
  refine ⟨a, fun j hj => ?_, d, e, fun x hx w hw => ?_, g, i.up rd_c4⟩
  · show _ = if j = r then v else D.1 j
    by_cases hjr : j = r
    · rw [hjr, q_up_at, if_pos rfl]
    · rw [q_up_f hjr, if_neg hjr]; exact b j hj
  · rw [q_up_g (by omega)]; exact f x hx w hw
theorem sp_R.hour (h : sp_R σ0 c L D n p σ) {r : Nat} {v : Int32} : sp_R σ0 c L (D.1, sp_u D.2.1 r v, D.2.2.1, D.2.2.2.1, D.2.2.2.2) n p (q_up σ 5 r v) := by
  obtain ⟨a, b, d, e, f, g, i⟩ := h
  refine ⟨a, b, fun j hj => ?_, e, fun x hx w hw => ?_, g, i.up rd_c5⟩
  · show _ = if j = r then v else D.2.1 j
    by_cases hjr : j = r
    · rw [hjr, q_up_at, if_pos rfl]
    · rw [q_up_f hjr, if_neg hjr]; exact d j hj
  · rw [q_up_g (by omega)]; exact f x hx w hw
theorem sp_R.fr (h : sp_R σ0 c L D n p σ) : rd_fr σ0 σ := h.2.2.2.2.2.2
theorem rd_F.tr {w : sp_F} (g : rd_F σ τ w) (h : rd_fr σ0 σ) : rd_F σ0 τ w := ⟨h.tr g.1, g.2⟩
theorem sp_fin {D' : sp_D} (hR : sp_R σ0 c L D' n p σ) (hq : sp_P3 σ c L p τ) : sp_g (sp_st c L p) = sp_g (sp_b (sp_st c L p) fun q => .inr (D', q)) ∧ sp_PL σ0 c L n (sp_b (sp_st c L p) fun q => .inr (D', q)) τ := by
  unfold sp_P3 at hq
  cases hs : sp_st c L p with
  | inl w =>
    rw [hs] at hq
    exact ⟨rfl, hq.tr hR.fr⟩
  | inr y =>
    rw [hs] at hq
    subst hq
    exact ⟨rfl, hR.tk⟩
theorem sp_b_r {β γ : Type} (y : β) (f : β → sp_F ⊕ γ) : sp_b (Sum.inr y) f = f y := rfl
theorem sp_b_l {β γ : Type} (w : sp_F) (f : β → sp_F ⊕ γ) : sp_b (Sum.inl w) f = Sum.inl w := rfl
theorem sp_rl_n {s e r : Nat} {y : Int32 × Nat} (h23 : ¬ D.2.2.1 r = true) (hy : sp_num c L (q_tab 1 r) (q_tab 2 r) e = .inr y) (hr4 : ¬ r = 4) : sp_rl c L D r s e = sp_b (sp_st c L y.2) (fun q => .inr ((sp_u D.1 r y.1, D.2.1, sp_u D.2.2.1 r true, D.2.2.2.1, D.2.2.2.2), q)) := by
  unfold sp_rl
  rw [if_neg h23, hy]
  show (if r = 4 then _ else sp_b (sp_st c L y.2) _) = _
  rw [if_neg hr4]
theorem sp_rl_4 {s e : Nat} {y z : Int32 × Nat} (h23 : ¬ D.2.2.1 4 = true) (hy : sp_num c L (q_tab 1 4) (q_tab 2 4) e = .inr y) (hz : sp_num c L (q_tab 1 5) (q_tab 2 5) y.2 = .inr z) : sp_rl c L D 4 s e = sp_b (sp_st c L z.2) (fun q => .inr ((sp_u (sp_u D.1 4 y.1) 5 z.1, D.2.1, sp_u D.2.2.1 4 true, D.2.2.2.1, D.2.2.2.2), q)) := by
  have hz' : sp_num c L 0 99 y.2 = .inr z := hz
  unfold sp_rl
  rw [if_neg h23, hy]
  simp only [sp_b_r, if_true, hz']
theorem sp_rl_4l {s e : Nat} {y : Int32 × Nat} {w : sp_F} (h23 : ¬ D.2.2.1 4 = true) (hy : sp_num c L (q_tab 1 4) (q_tab 2 4) e = .inr y) (hz : sp_num c L (q_tab 1 5) (q_tab 2 5) y.2 = .inl w) : sp_rl c L D 4 s e = .inl w := by
  have hz' : sp_num c L 0 99 y.2 = .inl w := hz
  unfold sp_rl
  rw [if_neg h23, hy]
  simp only [sp_b_r, if_true, hz', sp_b_l]
end SPR
