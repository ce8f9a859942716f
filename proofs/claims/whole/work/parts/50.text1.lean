/-! THE TEXT: what its tokens and its lines are, of a tape c with L bytes -/
def sp_k (c : Nat → Int32) (L i : Nat) : Nat := if L ≤ i then 0 else if c i = 32 then 4 else if c i = 59 then 3 else if 97 ≤ (c i).toInt ∧ (c i).toInt ≤ 122 then 1 else if 48 ≤ (c i).toInt ∧ (c i).toInt ≤ 57 then 2 else 5
/-- the first place from p on whose kind isn't x -/
def sp_r (k : Nat → Nat) (x : Nat) : Nat → Nat → Nat
  | 0, p => p
  | n + 1, p => if k p = x then sp_r k x n (p + 1) else p
def sp_s (c : Nat → Int32) (L p : Nat) : Nat := sp_r (sp_k c L) 4 (L - p) p
def sp_d (c : Nat → Int32) (L p : Nat) : Nat := sp_k c L (sp_s c L p)
def sp_e (c : Nat → Int32) (L p : Nat) : Nat := if sp_d c L p = 3 ∨ sp_d c L p = 5 then sp_s c L p + 1 else if sp_d c L p = 1 ∨ sp_d c L p = 2 then sp_r (sp_k c L) (sp_d c L p) (L - sp_s c L p) (sp_s c L p) else sp_s c L p
def sp_ok (c : Nat → Int32) (L p : Nat) : Bool := decide (¬ sp_d c L p = 5 ∧ (sp_d c L p = 2 → sp_e c L p - sp_s c L p ≤ 4))
/-- the number of n figures from s on -/
def sp_v (c : Nat → Int32) (s : Nat) : Nat → Int32
  | 0 => 0
  | n + 1 => sp_v c s n * 10 + c (s + n) - 48
def sp_nm (c : Nat → Int32) (s e j : Nat) : Bool := decide (e = s + q_strl.getD j 0) && q_allb (fun i => decide (c (s + i) = (q_sby.getD j []).getD i 0)) (q_strl.getD j 0)
def sp_u {α : Type} (f : Nat → α) (k : Nat) (v : α) : Nat → α := fun j => if j = k then v else f j
abbrev sp_F : Type := Nat × Nat
def sp_b {β γ : Type} (x : sp_F ⊕ β) (f : β → sp_F ⊕ γ) : sp_F ⊕ γ := match x with
  | .inl a => .inl a
  | .inr b => f b
def sp_g {β : Type} (x : sp_F ⊕ β) : Bool := match x with
  | .inl _ => false
  | .inr _ => true
def sp_num (c : Nat → Int32) (L : Nat) (lo hi : Int32) (p : Nat) : sp_F ⊕ (Int32 × Nat) :=
  if sp_ok c L p = false then .inl (1, sp_s c L p) else if ¬ sp_d c L p = 2 then .inl (2, sp_s c L p) else if q_win (sp_v c (sp_s c L p) (sp_e c L p - sp_s c L p)) lo hi = true then .inr (sp_v c (sp_s c L p) (sp_e c L p - sp_s c L p), sp_e c L p) else .inl (3, sp_s c L p)
def sp_st (c : Nat → Int32) (L p : Nat) : sp_F ⊕ Nat :=
  if sp_ok c L p = false then .inl (1, sp_s c L p) else if sp_d c L p = 3 then .inr (sp_e c L p) else .inl (2, sp_s c L p)
/-- a draft: rules, hours, which rules are told, how many divers, the divers' fields -/
abbrev sp_D : Type := (Nat → Int32) × (Nat → Int32) × (Nat → Bool) × Nat × (Nat → Nat → Int32)
def sp_rl (c : Nat → Int32) (L : Nat) (D : sp_D) (r s p : Nat) : sp_F ⊕ (sp_D × Nat) :=
  if D.2.2.1 r = true then .inl (4, s) else sp_b (sp_num c L (q_tab 1 r) (q_tab 2 r) p) fun y =>
    if r = 4 then sp_b (sp_num c L 0 99 y.2) fun z => sp_b (sp_st c L z.2) fun q => .inr ((sp_u (sp_u D.1 4 y.1) 5 z.1, D.2.1, sp_u D.2.2.1 4 true, D.2.2.2.1, D.2.2.2.2), q)
    else sp_b (sp_st c L y.2) fun q => .inr ((sp_u D.1 r y.1, D.2.1, sp_u D.2.2.1 r true, D.2.2.2.1, D.2.2.2.2), q)
def sp_hr (c : Nat → Int32) (L : Nat) (D : sp_D) (p : Nat) : sp_F ⊕ (sp_D × Nat) :=
  sp_b (sp_num c L 0 23 p) fun y => if ¬ D.2.1 y.1.toNatClampNeg = 0 then .inl (4, sp_s c L p) else sp_b (sp_num c L 250 350 y.2) fun z => sp_b (sp_st c L z.2) fun q => .inr ((D.1, sp_u D.2.1 y.1.toNatClampNeg z.1, D.2.2.1, D.2.2.2.1, D.2.2.2.2), q)
def sp_w (c : Nat → Int32) (L : Nat) : Nat → Bool → Bool → (Nat → Int32) → Nat → sp_F ⊕ ((Nat → Int32) × Nat)
  | 0, _, _, _, _ => .inl (2, 0)
  | n + 1, lk, rt, f, p => if sp_ok c L p = false then .inl (1, sp_s c L p) else if sp_d c L p = 3 then .inr (f, sp_e c L p) else
    if (decide (sp_d c L p = 1) && sp_nm c (sp_s c L p) (sp_e c L p) 1) = true then (if lk = true then .inl (4, sp_s c L p) else sp_b (sp_num c L 0 99 (sp_e c L p)) fun y => sp_w c L n true rt (sp_u f 2 y.1) y.2)
    else if (decide (sp_d c L p = 1) && sp_nm c (sp_s c L p) (sp_e c L p) 2) = true then (if rt = true then .inl (4, sp_s c L p) else sp_b (sp_num c L 0 99 (sp_e c L p)) fun y => sp_w c L n lk true (sp_u f 3 y.1) y.2)
    else if (decide (sp_d c L p = 1) && sp_nm c (sp_s c L p) (sp_e c L p) 3) = true then (if f 7 = 0 then sp_w c L n lk rt (sp_u f 7 1) (sp_e c L p) else .inl (4, sp_s c L p))
    else .inl (2, sp_s c L p)
def sp_d0 (hv bu : Int32) : Nat → Int32 := fun j => if j = 0 then hv else if j = 1 then bu else 0
def sp_dv (c : Nat → Int32) (L : Nat) (D : sp_D) (s p : Nat) : sp_F ⊕ (sp_D × Nat) :=
  if 6 ≤ D.2.2.2.1 then .inl (5, s) else sp_b (sp_num c L 1 999 p) fun y => sp_b (sp_num c L 0 9999 y.2) fun z => sp_b (sp_w c L 4 false false (sp_d0 y.1 z.1) z.2) fun w => .inr ((D.1, D.2.1, D.2.2.1, D.2.2.2.1 + 1, sp_u D.2.2.2.2 D.2.2.2.1 w.1), w.2)
/-- the rule that is named, 7 if none is -/
def sp_rn (c : Nat → Int32) (s e : Nat) : Nat := if sp_nm c s e 5 = true then 0 else if sp_nm c s e 6 = true then 1 else if sp_nm c s e 7 = true then 2 else if sp_nm c s e 8 = true then 3 else if sp_nm c s e 9 = true then 4 else if sp_nm c s e 10 = true then 6 else 7
def sp_ln (c : Nat → Int32) (L : Nat) (D : sp_D) (p : Nat) : sp_F ⊕ (sp_D × Nat) :=
  if (decide (sp_d c L p = 1) && sp_nm c (sp_s c L p) (sp_e c L p) 0) = true then sp_dv c L D (sp_s c L p) (sp_e c L p)
  else if (decide (sp_d c L p = 1) && sp_nm c (sp_s c L p) (sp_e c L p) 4) = true then sp_hr c L D (sp_e c L p)
  else if sp_d c L p = 1 ∧ ¬ sp_rn c (sp_s c L p) (sp_e c L p) = 7 then sp_rl c L D (sp_rn c (sp_s c L p) (sp_e c L p)) (sp_s c L p) (sp_e c L p)
  else .inl (2, sp_s c L p)
def sp_tx (c : Nat → Int32) (L : Nat) : Nat → sp_D → Nat → Nat → sp_F ⊕ (sp_D × Nat)
  | 0, _, _, _ => .inl (2, 0)
  | m + 1, D, n, p => if sp_ok c L p = false then .inl (1, sp_s c L p) else if sp_d c L p = 0 then .inr (D, n) else sp_b (sp_ln c L D p) fun y => sp_tx c L m y.1 (n + 1) y.2
/-! facts of tokens -/
theorem sp_k_le (c : Nat → Int32) (L i : Nat) : sp_k c L i ≤ 5 := by
  unfold sp_k
  repeat' split
  all_goals omega
theorem sp_k_0 {c : Nat → Int32} {L i : Nat} (h : L ≤ i) : sp_k c L i = 0 := if_pos h
theorem sp_k_n0 {c : Nat → Int32} {L i : Nat} (h : i < L) : ¬ sp_k c L i = 0 := by
  unfold sp_k
  rw [if_neg (by omega)]
  repeat' split
  all_goals omega
theorem sp_r_ge (k : Nat → Nat) (x : Nat) : ∀ n p, p ≤ sp_r k x n p ∧ sp_r k x n p ≤ p + n
  | 0, p => by simp [sp_r]
  | n + 1, p => by
    unfold sp_r
    split
    · have := sp_r_ge k x n (p + 1)
      omega
    · omega
theorem sp_r_st {k : Nat → Nat} {x n p : Nat} (h : k p = x) : sp_r k x (n + 1) p = sp_r k x n (p + 1) := if_pos h
theorem sp_r_no {k : Nat → Nat} {x n p : Nat} (h : ¬ k p = x) : sp_r k x n p = p := by
  cases n with
  | zero => rfl
  | succ n => exact if_neg h
theorem sp_s_ge {c : Nat → Int32} {L p : Nat} (h : p ≤ L) : p ≤ sp_s c L p ∧ sp_s c L p ≤ L := by
  have := sp_r_ge (sp_k c L) 4 (L - p) p
  unfold sp_s
  omega
theorem sp_d_le (c : Nat → Int32) (L p : Nat) : sp_d c L p ≤ 5 := sp_k_le _ _ _
theorem sp_d_lt {c : Nat → Int32} {L p : Nat} (hp : p ≤ L) (h : ¬ sp_d c L p = 0) : sp_s c L p < L := by
  have h1 := sp_s_ge (c := c) hp
  rcases Nat.lt_or_ge (sp_s c L p) L with h2 | h2
  · exact h2
  · exact absurd (sp_k_0 h2) h
theorem sp_r_eq4 (k : Nat → Nat) (x : Nat) : ∀ n p, (k (sp_r k x n p) = x → sp_r k x n p = p + n)
  | 0, p => fun _ => rfl
  | n + 1, p => by
    unfold sp_r
    split
    · intro h
      have := sp_r_eq4 k x n (p + 1) h
      omega
    · rename_i h0
      exact fun h => absurd h h0
theorem sp_d_n4 {c : Nat → Int32} {L p : Nat} (hp : p ≤ L) : ¬ sp_d c L p = 4 := by
  intro h
  have h1 := sp_r_eq4 (sp_k c L) 4 (L - p) p h
  have h2 : sp_s c L p = L := by unfold sp_s; omega
  unfold sp_d at h
  rw [h2, sp_k_0 (Nat.le_refl L)] at h
  omega
theorem sp_e_le {c : Nat → Int32} {L p : Nat} (hp : p ≤ L) : sp_s c L p ≤ sp_e c L p ∧ sp_e c L p ≤ L := by
  have h1 := sp_s_ge (c := c) hp
  unfold sp_e
  split
  · rename_i h
    have := sp_d_lt hp (show ¬ sp_d c L p = 0 by omega)
    omega
  · split
    · have := sp_r_ge (sp_k c L) (sp_d c L p) (L - sp_s c L p) (sp_s c L p)
      omega
    · omega
theorem sp_e_lt {c : Nat → Int32} {L p : Nat} (hp : p ≤ L) (h : ¬ sp_d c L p = 0) : sp_s c L p < sp_e c L p := by
  have h1 := sp_s_ge (c := c) hp
  have h2 := sp_d_lt hp h
  have h4 := sp_d_n4 (c := c) hp
  have h5 := sp_d_le c L p
  unfold sp_e
  split
  · omega
  · split
    · rw [show L - sp_s c L p = (L - sp_s c L p - 1) + 1 by omega, sp_r_st (show sp_k c L (sp_s c L p) = sp_d c L p from rfl)]
      have := sp_r_ge (sp_k c L) (sp_d c L p) (L - sp_s c L p - 1) (sp_s c L p + 1)
      omega
    · omega
theorem sp_eq {a b : Nat} (ha : a < 2 ^ 31) (hb : b < 2 ^ 31) (h : nI a = nI b) : a = b := (nI_eq ha hb).mp h
theorem sp_ne {a b : Nat} (h : ¬ nI a = nI b) : ¬ a = b := fun z => h (congrArg nI z)
/-! contracts that say what holds behind a call -/
def q_re (x : Int32) (sh : List q_S) (P : q_M → Prop) : q_P := fun r a σ => r = some x ∧ a = sh ∧ P σ
def q_rv (sh : List q_S) (P : q_M → Prop) : q_P := fun r a σ => r = none ∧ a = sh ∧ P σ
section QRE
variable {Y : q_Y} {E : q_E} {u v pc : Nat} {ls : List (Option Value)} {st : List Value} {sh : List q_S} {σ : q_M} {Q : q_P}
theorem q_rSi {Y2 : q_Y} {idx n : Nat} {nest : Bool} {av rest : List Value} {x : Int32} {sh1 : List q_S} {P : q_M → Prop} (hk : q_lk (q_y Y).cls Y2 idx n nest) (hst2 : Cond.static (q_y Y2) ∈ q_T) (hd : decode (q_cc Y) pc = .ok (.invokestatic idx, 3)) (hc : q_Ct Y2 av sh σ (q_re x sh1 P)) (hst : av.reverse ++ rest = st) (hn : av.length = n) (hsm : (rest.map fun w => w.category).sum ≤ 8) (hR : q_rr Y Y2 u v)
    (kk : ∀ σ1, P σ1 → q_G Y E (u + (q_rm Y2).cells) (v + (q_rm Y2).slots) (pc + 3) ls (.int x :: rest) sh1 σ1 Q) : q_G Y E u v pc ls st sh σ Q :=
  q_callS hk hst2 hd hc hst hn hsm hR (fun r a b h => by obtain ⟨rfl, rfl, h⟩ := h; exact kk b h)
theorem q_rVi {Y2 : q_Y} {idx n b ci : Nat} {nest : Bool} {av rest : List Value} {ks : List (Option (Option Nat))} {x : Int32} {sh1 : List q_S} {P : q_M → Prop} (hk : q_lk (q_y Y).cls Y2 idx n nest) (hst2 : Cond.instanceMethod (q_y Y2) ∈ q_T ∧ Cond.selects (q_y Y2).cls (q_y Y2) (q_y Y2) ∈ q_T) (hcl : q_cls[ci]?.map (fun x => x.1) = some (q_y Y2).cls) (hd : decode (q_cc Y) pc = .ok (.invokevirtual idx, 3)) (hc : q_Ct Y2 (.ref b :: av) sh σ (q_re x sh1 P)) (hb : sh[b]? = some (.inr (ci, ks))) (hst : av.reverse ++ .ref b :: rest = st) (hn : av.length = n) (hsm : (rest.map fun w => w.category).sum ≤ 8) (hR : q_rr Y Y2 u v)
    (kk : ∀ σ1, P σ1 → q_G Y E (u + (q_rm Y2).cells) (v + (q_rm Y2).slots) (pc + 3) ls (.int x :: rest) sh1 σ1 Q) : q_G Y E u v pc ls st sh σ Q :=
  q_callV hk hst2 hcl hd hc hb hst hn hsm hR (fun r a b h => by obtain ⟨rfl, rfl, h⟩ := h; exact kk b h)
theorem q_rVv {Y2 : q_Y} {idx n b ci : Nat} {nest : Bool} {av rest : List Value} {ks : List (Option (Option Nat))} {sh1 : List q_S} {P : q_M → Prop} (hk : q_lk (q_y Y).cls Y2 idx n nest) (hst2 : Cond.instanceMethod (q_y Y2) ∈ q_T ∧ Cond.selects (q_y Y2).cls (q_y Y2) (q_y Y2) ∈ q_T) (hcl : q_cls[ci]?.map (fun x => x.1) = some (q_y Y2).cls) (hd : decode (q_cc Y) pc = .ok (.invokevirtual idx, 3)) (hc : q_Ct Y2 (.ref b :: av) sh σ (q_rv sh1 P)) (hb : sh[b]? = some (.inr (ci, ks))) (hst : av.reverse ++ .ref b :: rest = st) (hn : av.length = n) (hsm : (rest.map fun w => w.category).sum ≤ 8) (hR : q_rr Y Y2 u v)
    (kk : ∀ σ1, P σ1 → q_G Y E (u + (q_rm Y2).cells) (v + (q_rm Y2).slots) (pc + 3) ls rest sh1 σ1 Q) : q_G Y E u v pc ls st sh σ Q :=
  q_callV hk hst2 hcl hd hc hb hst hn hsm hR (fun r a b h => by obtain ⟨rfl, rfl, h⟩ := h; exact kk b h)
end QRE
/-! the reader's cells -/
def rd_c (x : Nat) : Prop := x = 1 ∨ x = 4 ∨ x = 5 ∨ x = 7 ∨ (8 ≤ x ∧ x ≤ 13)
def rd_fr (σ τ : q_M) : Prop := ∀ x, ¬ rd_c x → τ x = σ x
theorem rd_fr.rf (σ : q_M) : rd_fr σ σ := fun _ _ => rfl
theorem rd_fr.up {σ τ : q_M} (h : rd_fr σ τ) {a k : Nat} {v : Int32} (ha : rd_c a) : rd_fr σ (q_up τ a k v) := fun x hx => by
  rw [q_up_ne (show x ≠ a from fun e => hx (by rw [e]; exact ha))]
  exact h x hx
theorem rd_fr.tr {σ τ ρ : q_M} (h : rd_fr σ τ) (g : rd_fr τ ρ) : rd_fr σ ρ := fun x hx => (g x hx).trans (h x hx)
theorem rd_c1 : rd_c 1 := Or.inl rfl
theorem rd_c4 : rd_c 4 := Or.inr (Or.inl rfl)
theorem rd_c5 : rd_c 5 := Or.inr (Or.inr (Or.inl rfl))
theorem rd_c7 : rd_c 7 := Or.inr (Or.inr (Or.inr (Or.inl rfl)))
theorem rd_c8 {k : Nat} (h : k < 6) : rd_c (8 + k) := Or.inr (Or.inr (Or.inr (Or.inr (by omega))))
def rd_F (σ τ : q_M) (w : sp_F) : Prop := rd_fr σ τ ∧ τ 1 7 = nI w.1 ∧ τ 1 8 = nI w.2
theorem rd_F.of {σ τ : q_M} (h : rd_fr σ τ) {f s : Nat} (hs : τ 1 11 = nI s) : rd_F σ (q_up (q_up τ 1 7 (nI f)) 1 8 (τ 1 11)) (f, s) :=
  ⟨(h.up rd_c1).up rd_c1, by rw [q_up_f (by decide), q_up_at], by rw [q_up_at, hs]⟩
def rd_n (σ : q_M) (s k : Nat) : q_M := q_up (q_up (q_up σ 1 9 (nI s)) 1 11 (nI s)) 1 10 (nI k)
def rd_t (σ : q_M) (s k e : Nat) : q_M := q_up (rd_n σ s k) 1 9 (nI e)
theorem rd_n_fr (σ : q_M) (s k : Nat) : rd_fr σ (rd_n σ s k) := (((rd_fr.rf σ).up rd_c1).up rd_c1).up rd_c1
theorem rd_t_fr (σ : q_M) (s k e : Nat) : rd_fr σ (rd_t σ s k e) := (rd_n_fr σ s k).up rd_c1
theorem rd_t_s (σ : q_M) (s k : Nat) : rd_t σ s k s = rd_n σ s k := by
  unfold rd_t
  exact q_up_self (rd_n σ s k) 1 9

set_option maxHeartbeats 1000000 in
set_option maxRecDepth 100000 in
theorem kX2_fail {σ : q_M} {w : Int32} : q_Ct YX2_fail [.ref 1, .int w] q_SH σ (q_is (some (q_b false)) q_SH (q_up (q_up σ 1 7 w) 1 8 (σ 1 11))) := by
  refine q_ct (n := 0) (by decide) (by decide) rfl (fun _ => Nat.le_of_ble_eq_true rfl) (fun E => ?_)
  refine q_aload_n dX2_fail_0 rfl ?_
  refine q_iload_n dX2_fail_1 rfl ?_
  refine q_put_i pX2_81 dX2_fail_2 (by first | rfl | assumption) (by rfl) rfl rfl ?_
  refine q_aload_n dX2_fail_5 rfl ?_
  refine q_aload_n dX2_fail_6 rfl ?_
  refine q_get fX2_87 dX2_fail_7 (by first | rfl | assumption) (by rfl) ?_
  refine q_tope (y := σ 1 11) rfl ?_
  refine q_put_i pX2_84 dX2_fail_10 (by first | rfl | assumption) (by rfl) rfl rfl ?_
  refine q_iconst (x := 0) dX2_fail_13 (by decide) ?_
  refine q_ret0 dX2_fail_14 ?_ rfl rfl
  exact ⟨rfl, rfl, rfl⟩

set_option maxHeartbeats 1000000 in
set_option maxRecDepth 100000 in
theorem kX2_kindAt {σ : q_M} {L : Nat} (hL : σ 1 4 = nI L) (h320 : L ≤ 320) {i : Nat} (hi : i ≤ 320) : q_Ct YX2_kindAt [.ref 1, .int (nI i)] q_SH σ (q_is (some (nI (sp_k (σ 2) L i))) q_SH σ) := by
  refine q_ct (n := 1) (by decide) (by decide) rfl (fun _ => Nat.le_of_ble_eq_true rfl) (fun E => ?_)
  have hit := nI_toInt (n := i) (by omega)
  have hLt := nI_toInt (n := L) (by omega)
  have e320 : (320 : Int32).toInt = 320 := rfl
  have e97 : (97 : Int32).toInt = 97 := rfl
  have e122 : (122 : Int32).toInt = 122 := rfl
  have e48 : (48 : Int32).toInt = 48 := rfl
  have e57 : (57 : Int32).toInt = 57 := rfl
  refine q_iload_n dX2_kindAt_0 rfl ?_
  refine q_zlt 19 dX2_kindAt_1 (by decide) (fun h1 => ?_) (fun h1 => ?_)
  · exact absurd h1 (by omega)
  · refine q_iload_n dX2_kindAt_4 rfl ?_
    refine q_aload_n dX2_kindAt_5 rfl ?_
    refine q_get fX2_33 dX2_kindAt_6 (by first | rfl | assumption) (by rfl) ?_
    refine q_tope (y := nI L) hL ?_
    refine q_cge 19 dX2_kindAt_9 (by decide) (fun h9 => ?_) (fun h9 => ?_)
    · refine q_iconst (x := 0) dX2_kindAt_19 (by decide) ?_
      refine q_ret dX2_kindAt_20 ?_ rfl rfl
      exact ⟨congrArg some (by rw [sp_k, if_pos (by omega)]; rfl), rfl, rfl⟩
    · refine q_iload_n dX2_kindAt_12 rfl ?_
      refine q_sipush (x := 320) dX2_kindAt_13 (by decide) ?_
      refine q_clt 21 dX2_kindAt_16 (by decide) (fun h16 => ?_) (fun h16 => ?_)
      · refine q_aload_n dX2_kindAt_21 rfl ?_
        refine q_getr fX2_9 dX2_kindAt_22 (by first | rfl | assumption) (by rfl) ?_
        refine q_iload_n dX2_kindAt_25 rfl ?_
        refine q_bld i (by first | rfl | assumption) hit (by omega) dX2_kindAt_26 ?_
        refine q_istore_n dX2_kindAt_27 (by decide) rfl ?_
        refine q_iload_n dX2_kindAt_28 rfl ?_
        refine q_bipush (x := 32) dX2_kindAt_29 (by decide) ?_
        refine q_icmp_ne 36 dX2_kindAt_31 (by decide) (fun h31 => ?_) (fun h31 => ?_)
        · refine q_iload_n dX2_kindAt_36 rfl ?_
          refine q_bipush (x := 59) dX2_kindAt_37 (by decide) ?_
          refine q_icmp_ne 44 dX2_kindAt_39 (by decide) (fun h39 => ?_) (fun h39 => ?_)
          · refine q_iload_n dX2_kindAt_44 rfl ?_
            refine q_bipush (x := 97) dX2_kindAt_45 (by decide) ?_
            refine q_clt 58 dX2_kindAt_47 (by decide) (fun h47 => ?_) (fun h47 => ?_)
            · refine q_iload_n dX2_kindAt_58 rfl ?_
              refine q_bipush (x := 48) dX2_kindAt_59 (by decide) ?_
              refine q_clt 74 dX2_kindAt_61 (by decide) (fun h61 => ?_) (fun h61 => ?_)
              · refine q_iconst (x := 5) dX2_kindAt_74 (by decide) ?_
                refine q_ret dX2_kindAt_75 ?_ rfl rfl
                exact ⟨congrArg some (by first | (exfalso; omega) | (rw [sp_k, if_neg (by omega), if_neg h31, if_neg h39, if_neg (by omega), if_pos ⟨by omega, by omega⟩]; rfl) | (rw [sp_k, if_neg (by omega), if_neg h31, if_neg h39, if_neg (by omega), if_neg (by omega)]; rfl)), rfl, rfl⟩
              · refine q_iload_n dX2_kindAt_64 rfl ?_
                refine q_bipush (x := 57) dX2_kindAt_65 (by decide) ?_
                refine q_cgt 74 dX2_kindAt_67 (by decide) (fun h67 => ?_) (fun h67 => ?_)
                · refine q_iconst (x := 5) dX2_kindAt_74 (by decide) ?_
                  refine q_ret dX2_kindAt_75 ?_ rfl rfl
                  exact ⟨congrArg some (by first | (exfalso; omega) | (rw [sp_k, if_neg (by omega), if_neg h31, if_neg h39, if_neg (by omega), if_pos ⟨by omega, by omega⟩]; rfl) | (rw [sp_k, if_neg (by omega), if_neg h31, if_neg h39, if_neg (by omega), if_neg (by omega)]; rfl)), rfl, rfl⟩
                · refine q_iconst (x := 2) dX2_kindAt_70 (by decide) ?_
                  refine q_goto 75 dX2_kindAt_71 (by decide) ?_
                  refine q_ret dX2_kindAt_75 ?_ rfl rfl
                  exact ⟨congrArg some (by first | (exfalso; omega) | (rw [sp_k, if_neg (by omega), if_neg h31, if_neg h39, if_neg (by omega), if_pos ⟨by omega, by omega⟩]; rfl) | (rw [sp_k, if_neg (by omega), if_neg h31, if_neg h39, if_neg (by omega), if_neg (by omega)]; rfl)), rfl, rfl⟩
            · refine q_iload_n dX2_kindAt_50 rfl ?_
              refine q_bipush (x := 122) dX2_kindAt_51 (by decide) ?_
              refine q_cgt 58 dX2_kindAt_53 (by decide) (fun h53 => ?_) (fun h53 => ?_)
              · refine q_iload_n dX2_kindAt_58 rfl ?_
                refine q_bipush (x := 48) dX2_kindAt_59 (by decide) ?_
                refine q_clt 74 dX2_kindAt_61 (by decide) (fun h61 => ?_) (fun h61 => ?_)
                · refine q_iconst (x := 5) dX2_kindAt_74 (by decide) ?_
                  refine q_ret dX2_kindAt_75 ?_ rfl rfl
                  exact ⟨congrArg some (by first | (exfalso; omega) | (rw [sp_k, if_neg (by omega), if_neg h31, if_neg h39, if_neg (by omega), if_pos ⟨by omega, by omega⟩]; rfl) | (rw [sp_k, if_neg (by omega), if_neg h31, if_neg h39, if_neg (by omega), if_neg (by omega)]; rfl)), rfl, rfl⟩
                · refine q_iload_n dX2_kindAt_64 rfl ?_
                  refine q_bipush (x := 57) dX2_kindAt_65 (by decide) ?_
                  refine q_cgt 74 dX2_kindAt_67 (by decide) (fun h67 => ?_) (fun h67 => ?_)
                  · refine q_iconst (x := 5) dX2_kindAt_74 (by decide) ?_
                    refine q_ret dX2_kindAt_75 ?_ rfl rfl
                    exact ⟨congrArg some (by first | (exfalso; omega) | (rw [sp_k, if_neg (by omega), if_neg h31, if_neg h39, if_neg (by omega), if_pos ⟨by omega, by omega⟩]; rfl) | (rw [sp_k, if_neg (by omega), if_neg h31, if_neg h39, if_neg (by omega), if_neg (by omega)]; rfl)), rfl, rfl⟩
                  · refine q_iconst (x := 2) dX2_kindAt_70 (by decide) ?_
                    refine q_goto 75 dX2_kindAt_71 (by decide) ?_
                    refine q_ret dX2_kindAt_75 ?_ rfl rfl
                    exact ⟨congrArg some (by first | (exfalso; omega) | (rw [sp_k, if_neg (by omega), if_neg h31, if_neg h39, if_neg (by omega), if_pos ⟨by omega, by omega⟩]; rfl) | (rw [sp_k, if_neg (by omega), if_neg h31, if_neg h39, if_neg (by omega), if_neg (by omega)]; rfl)), rfl, rfl⟩
              · refine q_iconst (x := 1) dX2_kindAt_56 (by decide) ?_
                refine q_ret dX2_kindAt_57 ?_ rfl rfl
                exact ⟨congrArg some (by rw [sp_k, if_neg (by omega), if_neg h31, if_neg h39, if_pos ⟨by omega, by omega⟩]; rfl), rfl, rfl⟩
          · refine q_iconst (x := 3) dX2_kindAt_42 (by decide) ?_
            refine q_ret dX2_kindAt_43 ?_ rfl rfl
            exact ⟨congrArg some (by rw [sp_k, if_neg (by omega), if_neg h31, if_pos h39]; rfl), rfl, rfl⟩
        · refine q_iconst (x := 4) dX2_kindAt_34 (by decide) ?_
          refine q_ret dX2_kindAt_35 ?_ rfl rfl
          exact ⟨congrArg some (by rw [sp_k, if_neg (by omega), if_pos h31]; rfl), rfl, rfl⟩
      · exact absurd h16 (by omega)

set_option maxHeartbeats 1000000 in
set_option maxRecDepth 100000 in
theorem lpX2_nt1 {E : q_E} {σ : q_M} {L : Nat} (hL : σ 1 4 = nI L) (h320 : L ≤ 320) {s : Nat} {Q : q_P} (K : q_G YX2_nextToken E 0 0 36 [some (.ref 1)] [] q_SH (q_up σ 1 9 (nI s)) Q) : ∀ (n : Nat) (p : Nat), L + 1 ≤ p + n → p ≤ L → sp_r (sp_k (σ 2) L) 4 (L - p) p = s → q_G YX2_nextToken E 0 0 0 [some (.ref 1)] [] q_SH (q_up σ 1 9 (nI p)) Q := by
  intro n
  induction n with
  | zero =>
    intro p hm h0 hs
    exact absurd hm (by omega)
  | succ n ih =>
    intro p hm h0 hs
    have hpt := nI_toInt (n := p) (by omega)
    have hLt := nI_toInt (n := L) (by omega)
    refine q_aload_n dX2_nextToken_0 rfl ?_
    refine q_get fX2_78 dX2_nextToken_1 (by first | rfl | assumption) (by rfl) ?_
    refine q_tope (y := nI p) (q_up_at _ _ _ _) ?_
    refine q_aload_n dX2_nextToken_4 rfl ?_
    refine q_get fX2_33 dX2_nextToken_5 (by first | rfl | assumption) (by rfl) ?_
    refine q_tope (y := nI L) hL ?_
    refine q_cge 36 dX2_nextToken_8 (by decide) (fun h8 => ?_) (fun h8 => ?_)
    · have e : p = s := by rw [← hs, show L - p = 0 by omega]; rfl
      subst e
      exact K
    · refine q_aload_n dX2_nextToken_11 rfl ?_
      refine q_aload_n dX2_nextToken_12 rfl ?_
      refine q_get fX2_78 dX2_nextToken_13 (by first | rfl | assumption) (by rfl) ?_
      refine q_tope (y := nI p) (q_up_at _ _ _ _) ?_
      refine q_cVi lX2_90 vX2_kindAt (ci := 2) rfl dX2_nextToken_16 (kX2_kindAt (L := L) (i := p) (by first | exact hL | rfl) h320 (by omega)) (by first | rfl | assumption) rfl rfl (Nat.le_of_ble_eq_true rfl) (by decide) ?_
      refine q_tope (y := nI (sp_k (σ 2) L p)) rfl ?_
      refine q_iconst (x := 4) dX2_nextToken_19 (by decide) ?_
      refine q_icmp_ne 36 dX2_nextToken_20 (by decide) (fun h20 => ?_) (fun h20 => ?_)
      · have e : p = s := by rw [← hs, sp_r_no (sp_ne (b := 4) h20)]
        subst e
        exact K
      · have hk := sp_eq (b := 4) (by have := sp_k_le (σ 2) L p; omega) (by decide) h20
        refine q_aload_n dX2_nextToken_23 rfl ?_
        refine q_dup rfl dX2_nextToken_24 ?_
        refine q_get fX2_78 dX2_nextToken_25 (by first | rfl | assumption) (by rfl) ?_
        refine q_tope (y := nI p) (q_up_at _ _ _ _) ?_
        refine q_iconst (x := 1) dX2_nextToken_28 (by decide) ?_
        refine q_iadd dX2_nextToken_29 ?_
        refine q_tope (y := nI (p + 1)) (nI_1 _) ?_
        refine q_put_i pX2_78 dX2_nextToken_30 (by first | rfl | assumption) (by rfl) rfl rfl ?_
        refine q_goto 0 dX2_nextToken_33 (by decide) ?_
        rw [q_uu]
        exact ih (p + 1) (by omega) (by omega) (by rw [← hs, show L - p = (L - (p + 1)) + 1 by omega, sp_r_st hk])

set_option maxHeartbeats 1000000 in
set_option maxRecDepth 100000 in
theorem lpX2_nt2 {E : q_E} {σ : q_M} {L : Nat} (hL : σ 1 4 = nI L) (h320 : L ≤ 320) {s k e : Nat} (hk0 : ¬ k = 0) (hk5 : k ≤ 5) {Q : q_P} (K : q_G YX2_nextToken E 0 0 143 [some (.ref 1)] [] q_SH (rd_t σ s k e) Q) : ∀ (n : Nat) (p : Nat), L + 1 ≤ p + n → p ≤ L → sp_r (sp_k (σ 2) L) k (L - p) p = e → q_G YX2_nextToken E 0 0 104 [some (.ref 1)] [] q_SH (rd_t σ s k p) Q := by
  intro n
  induction n with
  | zero =>
    intro p hm h0 hs
    exact absurd hm (by omega)
  | succ n ih =>
    intro p hm h0 hs
    have hpt := nI_toInt (n := p) (by omega)
    have hLt := nI_toInt (n := L) (by omega)
    refine q_aload_n dX2_nextToken_104 rfl ?_
    refine q_get fX2_78 dX2_nextToken_105 (by first | rfl | assumption) (by rfl) ?_
    refine q_tope (y := nI p) rfl ?_
    refine q_aload_n dX2_nextToken_108 rfl ?_
    refine q_get fX2_33 dX2_nextToken_109 (by first | rfl | assumption) (by rfl) ?_
    refine q_tope (y := nI L) hL ?_
    refine q_cge 143 dX2_nextToken_112 (by decide) (fun h112 => ?_) (fun h112 => ?_)
    · have e1 : p = e := by rw [← hs, show L - p = 0 by omega]; rfl
      subst e1
      exact K
    · refine q_aload_n dX2_nextToken_115 rfl ?_
      refine q_aload_n dX2_nextToken_116 rfl ?_
      refine q_get fX2_78 dX2_nextToken_117 (by first | rfl | assumption) (by rfl) ?_
      refine q_tope (y := nI p) rfl ?_
      refine q_cVi lX2_90 vX2_kindAt (ci := 2) rfl dX2_nextToken_120 (kX2_kindAt (L := L) (i := p) (by first | exact hL | rfl) h320 (by omega)) (by first | rfl | assumption) rfl rfl (Nat.le_of_ble_eq_true rfl) (by decide) ?_
      refine q_tope (y := nI (sp_k (σ 2) L p)) rfl ?_
      refine q_aload_n dX2_nextToken_123 rfl ?_
      refine q_get fX2_44 dX2_nextToken_124 (by first | rfl | assumption) (by rfl) ?_
      refine q_tope (y := nI k) rfl ?_
      refine q_icmp_ne 143 dX2_nextToken_127 (by decide) (fun h127 => ?_) (fun h127 => ?_)
      · have e1 : p = e := by rw [← hs, sp_r_no (sp_ne h127)]
        subst e1
        exact K
      · have hk := sp_eq (by have := sp_k_le (σ 2) L p; omega) (by omega) h127
        refine q_aload_n dX2_nextToken_130 rfl ?_
        refine q_dup rfl dX2_nextToken_131 ?_
        refine q_get fX2_78 dX2_nextToken_132 (by first | rfl | assumption) (by rfl) ?_
        refine q_tope (y := nI p) rfl ?_
        refine q_iconst (x := 1) dX2_nextToken_135 (by decide) ?_
        refine q_iadd dX2_nextToken_136 ?_
        refine q_tope (y := nI (p + 1)) (nI_1 _) ?_
        refine q_put_i pX2_78 dX2_nextToken_137 (by first | rfl | assumption) (by rfl) rfl rfl ?_
        refine q_goto 104 dX2_nextToken_140 (by decide) ?_
        rw [rd_t, q_uu]
        exact ih (p + 1) (by omega) (by omega) (by rw [← hs, show L - p = (L - (p + 1)) + 1 by omega, sp_r_st hk])

set_option maxHeartbeats 1000000 in
set_option maxRecDepth 100000 in
theorem sgX2_nt3 {E : q_E} {σ : q_M} {s k e : Nat} (hk5 : ¬ k = 5) (hk : k ≤ 5) (hse : s ≤ e) (he : e ≤ 320) : q_G YX2_nextToken E 0 0 143 [some (.ref 1)] [] q_SH (rd_t σ s k e) (q_re (q_b (decide (¬ k = 5 ∧ (k = 2 → e - s ≤ 4)))) q_SH (fun τ => ((decide (¬ k = 5 ∧ (k = 2 → e - s ≤ 4))) = true → τ = rd_t σ s k e) ∧ ((decide (¬ k = 5 ∧ (k = 2 → e - s ≤ 4))) = false → rd_F σ τ (1, s)))) := by
  have het := nI_toInt (n := e - s) (by omega)
  have e4 : (4 : Int32).toInt = 4 := rfl
  refine q_aload_n dX2_nextToken_143 rfl ?_
  refine q_get fX2_44 dX2_nextToken_144 (by first | rfl | assumption) (by rfl) ?_
  refine q_tope (y := nI k) rfl ?_
  refine q_iconst (x := 2) dX2_nextToken_147 (by decide) ?_
  refine q_icmp_ne 172 dX2_nextToken_148 (by decide) (fun h148 => ?_) (fun h148 => ?_)
  · have hk2 : ¬ k = 2 := sp_ne (b := 2) h148
    refine q_iconst (x := 1) dX2_nextToken_172 (by decide) ?_
    refine q_goto 177 dX2_nextToken_173 (by decide) ?_
    refine q_ret1 dX2_nextToken_177 ?_ rfl rfl
    first
      | (have hd : decide (¬ k = 5 ∧ (k = 2 → e - s ≤ 4)) = true := decide_eq_true ⟨hk5, fun _ => by omega⟩; rw [hd]; exact ⟨rfl, rfl, fun _ => rfl, fun z => absurd z (by decide)⟩)
      | (have hd : decide (¬ k = 5 ∧ (k = 2 → e - s ≤ 4)) = false := decide_eq_false (fun z => h4 (z.2 hk2)); rw [hd]; exact ⟨rfl, rfl, fun z => absurd z (by decide), fun _ => rd_F.of (f := 1) (rd_t_fr σ s k e) rfl⟩)
  · have hk2 : k = 2 := sp_eq (b := 2) (by omega) (by decide) h148
    refine q_aload_n dX2_nextToken_151 rfl ?_
    refine q_get fX2_78 dX2_nextToken_152 (by first | rfl | assumption) (by rfl) ?_
    refine q_tope (y := nI e) rfl ?_
    refine q_aload_n dX2_nextToken_155 rfl ?_
    refine q_get fX2_87 dX2_nextToken_156 (by first | rfl | assumption) (by rfl) ?_
    refine q_tope (y := nI s) rfl ?_
    refine q_isub dX2_nextToken_159 ?_
    refine q_tope (y := nI (e - s)) (pk_sub hse) ?_
    refine q_iconst (x := 4) dX2_nextToken_160 (by decide) ?_
    refine q_cle 172 dX2_nextToken_161 (by decide) (fun h161 => ?_) (fun h161 => ?_)
    · have h4 : e - s ≤ 4 := by omega
      refine q_iconst (x := 1) dX2_nextToken_172 (by decide) ?_
      refine q_goto 177 dX2_nextToken_173 (by decide) ?_
      refine q_ret1 dX2_nextToken_177 ?_ rfl rfl
      first
        | (have hd : decide (¬ k = 5 ∧ (k = 2 → e - s ≤ 4)) = true := decide_eq_true ⟨hk5, fun _ => by omega⟩; rw [hd]; exact ⟨rfl, rfl, fun _ => rfl, fun z => absurd z (by decide)⟩)
        | (have hd : decide (¬ k = 5 ∧ (k = 2 → e - s ≤ 4)) = false := decide_eq_false (fun z => h4 (z.2 hk2)); rw [hd]; exact ⟨rfl, rfl, fun z => absurd z (by decide), fun _ => rd_F.of (f := 1) (rd_t_fr σ s k e) rfl⟩)
    · have h4 : ¬ e - s ≤ 4 := by omega
      refine q_aload_n dX2_nextToken_164 rfl ?_
      refine q_iconst (x := 1) dX2_nextToken_165 (by decide) ?_
      refine q_cVi lX2_70 vX2_fail (ci := 2) rfl dX2_nextToken_166 kX2_fail (by first | rfl | assumption) rfl rfl (Nat.le_of_ble_eq_true rfl) (by decide) ?_
      refine q_beq 176 dX2_nextToken_169 (by decide) (fun h169 => ?_) (fun h169 => ?_)
      · refine q_iconst (x := 0) dX2_nextToken_176 (by decide) ?_
        refine q_ret0 dX2_nextToken_177 ?_ rfl rfl
        first
          | (have hd : decide (¬ k = 5 ∧ (k = 2 → e - s ≤ 4)) = true := decide_eq_true ⟨hk5, fun _ => by omega⟩; rw [hd]; exact ⟨rfl, rfl, fun _ => rfl, fun z => absurd z (by decide)⟩)
          | (have hd : decide (¬ k = 5 ∧ (k = 2 → e - s ≤ 4)) = false := decide_eq_false (fun z => h4 (z.2 hk2)); rw [hd]; exact ⟨rfl, rfl, fun z => absurd z (by decide), fun _ => rd_F.of (f := 1) (rd_t_fr σ s k e) rfl⟩)
      · exact absurd h169 (by decide)

def sp_P1 (σ : q_M) (c : Nat → Int32) (L p : Nat) (τ : q_M) : Prop := (sp_ok c L p = true → τ = rd_t σ (sp_s c L p) (sp_d c L p) (sp_e c L p)) ∧ (sp_ok c L p = false → rd_F σ τ (1, sp_s c L p))

set_option maxHeartbeats 1000000 in
set_option maxRecDepth 100000 in
theorem sgX2_nt4 {E : q_E} {σ : q_M} {L : Nat} (hL : σ 1 4 = nI L) (h320 : L ≤ 320) {p : Nat} (hpL : p ≤ L) : q_G YX2_nextToken E 0 0 36 [some (.ref 1)] [] q_SH (q_up σ 1 9 (nI (sp_s (σ 2) L p))) (q_re (q_b (sp_ok (σ 2) L p)) q_SH (sp_P1 σ (σ 2) L p)) := by
  have hsg := sp_s_ge (c := σ 2) hpL
  have hel := sp_e_le (c := σ 2) hpL
  have hdl := sp_d_le (σ 2) L p
  refine q_aload_n dX2_nextToken_36 rfl ?_
  refine q_aload_n dX2_nextToken_37 rfl ?_
  refine q_get fX2_78 dX2_nextToken_38 (by first | rfl | assumption) (by rfl) ?_
  refine q_tope (y := nI (sp_s (σ 2) L p)) (q_up_at _ _ _ _) ?_
  refine q_put_i pX2_87 dX2_nextToken_41 (by first | rfl | assumption) (by rfl) rfl rfl ?_
  refine q_aload_n dX2_nextToken_44 rfl ?_
  refine q_aload_n dX2_nextToken_45 rfl ?_
  refine q_aload_n dX2_nextToken_46 rfl ?_
  refine q_get fX2_78 dX2_nextToken_47 (by first | rfl | assumption) (by rfl) ?_
  refine q_tope (y := nI (sp_s (σ 2) L p)) rfl ?_
  refine q_cVi lX2_90 vX2_kindAt (ci := 2) rfl dX2_nextToken_50 (kX2_kindAt (L := L) (i := sp_s (σ 2) L p) (by first | exact hL | rfl) h320 (by omega)) (by first | rfl | assumption) rfl rfl (Nat.le_of_ble_eq_true rfl) (by decide) ?_
  refine q_tope (y := nI (sp_d (σ 2) L p)) rfl ?_
  refine q_put_i pX2_44 dX2_nextToken_53 (by first | rfl | assumption) (by rfl) rfl rfl ?_
  refine q_aload_n dX2_nextToken_56 rfl ?_
  refine q_mem (τ := rd_n σ (sp_s (σ 2) L p) (sp_d (σ 2) L p)) rfl ?_
  refine q_get fX2_44 dX2_nextToken_57 (by first | rfl | assumption) (by rfl) ?_
  refine q_tope (y := nI (sp_d (σ 2) L p)) rfl ?_
  refine q_iconst (x := 5) dX2_nextToken_60 (by decide) ?_
  refine q_icmp_ne 70 dX2_nextToken_61 (by decide) (fun h61 => ?_) (fun h61 => ?_)
  · have h5 : ¬ sp_d (σ 2) L p = 5 := sp_ne (b := 5) h61
    refine q_aload_n dX2_nextToken_70 rfl ?_
    refine q_get fX2_44 dX2_nextToken_71 (by first | rfl | assumption) (by rfl) ?_
    refine q_tope (y := nI (sp_d (σ 2) L p)) rfl ?_
    refine q_iconst (x := 3) dX2_nextToken_74 (by decide) ?_
    refine q_icmp_ne 88 dX2_nextToken_75 (by decide) (fun h75 => ?_) (fun h75 => ?_)
    · have h3 : ¬ sp_d (σ 2) L p = 3 := sp_ne (b := 3) h75
      refine q_aload_n dX2_nextToken_88 rfl ?_
      refine q_get fX2_44 dX2_nextToken_89 (by first | rfl | assumption) (by rfl) ?_
      refine q_tope (y := nI (sp_d (σ 2) L p)) rfl ?_
      refine q_iconst (x := 1) dX2_nextToken_92 (by decide) ?_
      refine q_icmp_eq 104 dX2_nextToken_93 (by decide) (fun h93 => ?_) (fun h93 => ?_)
      · have h1 := sp_eq (b := 1) (by omega) (by decide) h93
        first
          | exact absurd h1 (by omega)
          | exact absurd h2 (by omega)
          | (rw [← rd_t_s]
             have he : sp_e (σ 2) L p = sp_r (sp_k (σ 2) L) (sp_d (σ 2) L p) (L - sp_s (σ 2) L p) (sp_s (σ 2) L p) := by
               unfold sp_e
               rw [if_neg (by omega), if_pos (by omega)]
             exact lpX2_nt2 hL h320 (by omega) (by omega) (sgX2_nt3 h5 (by omega) (by omega) (by omega)) (L + 1) _ (by omega) (by omega) he.symm)
      · have h1 : ¬ sp_d (σ 2) L p = 1 := sp_ne (b := 1) h93
        refine q_aload_n dX2_nextToken_96 rfl ?_
        refine q_get fX2_44 dX2_nextToken_97 (by first | rfl | assumption) (by rfl) ?_
        refine q_tope (y := nI (sp_d (σ 2) L p)) rfl ?_
        refine q_iconst (x := 2) dX2_nextToken_100 (by decide) ?_
        refine q_icmp_ne 143 dX2_nextToken_101 (by decide) (fun h101 => ?_) (fun h101 => ?_)
        · have h2 : ¬ sp_d (σ 2) L p = 2 := sp_ne (b := 2) h101
          first
            | exact absurd h2 (by omega)
            | (have he : sp_e (σ 2) L p = sp_s (σ 2) L p + 1 := if_pos (Or.inl h3)
               refine q_mem (τ := rd_t σ (sp_s (σ 2) L p) (sp_d (σ 2) L p) (sp_e (σ 2) L p)) (by rw [he]; rfl) ?_
               exact sgX2_nt3 h5 (by omega) (by omega) (by omega))
            | (have he : sp_e (σ 2) L p = sp_s (σ 2) L p := by
                 unfold sp_e
                 rw [if_neg (by omega), if_neg (by omega)]
               refine q_mem (τ := rd_t σ (sp_s (σ 2) L p) (sp_d (σ 2) L p) (sp_e (σ 2) L p)) (by rw [he]; exact (rd_t_s σ _ _).symm) ?_
               exact sgX2_nt3 h5 (by omega) (by omega) (by omega))
        · have h2 := sp_eq (b := 2) (by omega) (by decide) h101
          first
            | exact absurd h1 (by omega)
            | exact absurd h2 (by omega)
            | (rw [← rd_t_s]
               have he : sp_e (σ 2) L p = sp_r (sp_k (σ 2) L) (sp_d (σ 2) L p) (L - sp_s (σ 2) L p) (sp_s (σ 2) L p) := by
                 unfold sp_e
                 rw [if_neg (by omega), if_pos (by omega)]
               exact lpX2_nt2 hL h320 (by omega) (by omega) (sgX2_nt3 h5 (by omega) (by omega) (by omega)) (L + 1) _ (by omega) (by omega) he.symm)
    · have h3 : sp_d (σ 2) L p = 3 := sp_eq (b := 3) (by omega) (by decide) h75
      refine q_aload_n dX2_nextToken_78 rfl ?_
      refine q_dup rfl dX2_nextToken_79 ?_
      refine q_get fX2_78 dX2_nextToken_80 (by first | rfl | assumption) (by rfl) ?_
      refine q_tope (y := nI (sp_s (σ 2) L p)) rfl ?_
      refine q_iconst (x := 1) dX2_nextToken_83 (by decide) ?_
      refine q_iadd dX2_nextToken_84 ?_
      refine q_tope (y := nI (sp_s (σ 2) L p + 1)) (nI_1 _) ?_
      refine q_put_i pX2_78 dX2_nextToken_85 (by first | rfl | assumption) (by rfl) rfl rfl ?_
      refine q_aload_n dX2_nextToken_88 rfl ?_
      refine q_get fX2_44 dX2_nextToken_89 (by first | rfl | assumption) (by rfl) ?_
      refine q_tope (y := nI (sp_d (σ 2) L p)) rfl ?_
      refine q_iconst (x := 1) dX2_nextToken_92 (by decide) ?_
      refine q_icmp_eq 104 dX2_nextToken_93 (by decide) (fun h93 => ?_) (fun h93 => ?_)
      · have h1 := sp_eq (b := 1) (by omega) (by decide) h93
        first
          | exact absurd h1 (by omega)
          | exact absurd h2 (by omega)
          | (rw [← rd_t_s]
             have he : sp_e (σ 2) L p = sp_r (sp_k (σ 2) L) (sp_d (σ 2) L p) (L - sp_s (σ 2) L p) (sp_s (σ 2) L p) := by
               unfold sp_e
               rw [if_neg (by omega), if_pos (by omega)]
             exact lpX2_nt2 hL h320 (by omega) (by omega) (sgX2_nt3 h5 (by omega) (by omega) (by omega)) (L + 1) _ (by omega) (by omega) he.symm)
      · have h1 : ¬ sp_d (σ 2) L p = 1 := sp_ne (b := 1) h93
        refine q_aload_n dX2_nextToken_96 rfl ?_
        refine q_get fX2_44 dX2_nextToken_97 (by first | rfl | assumption) (by rfl) ?_
        refine q_tope (y := nI (sp_d (σ 2) L p)) rfl ?_
        refine q_iconst (x := 2) dX2_nextToken_100 (by decide) ?_
        refine q_icmp_ne 143 dX2_nextToken_101 (by decide) (fun h101 => ?_) (fun h101 => ?_)
        · have h2 : ¬ sp_d (σ 2) L p = 2 := sp_ne (b := 2) h101
          first
            | exact absurd h2 (by omega)
            | (have he : sp_e (σ 2) L p = sp_s (σ 2) L p + 1 := if_pos (Or.inl h3)
               refine q_mem (τ := rd_t σ (sp_s (σ 2) L p) (sp_d (σ 2) L p) (sp_e (σ 2) L p)) (by rw [he]; rfl) ?_
               exact sgX2_nt3 h5 (by omega) (by omega) (by omega))
            | (have he : sp_e (σ 2) L p = sp_s (σ 2) L p := by
                 unfold sp_e
                 rw [if_neg (by omega), if_neg (by omega)]
               refine q_mem (τ := rd_t σ (sp_s (σ 2) L p) (sp_d (σ 2) L p) (sp_e (σ 2) L p)) (by rw [he]; exact (rd_t_s σ _ _).symm) ?_
               exact sgX2_nt3 h5 (by omega) (by omega) (by omega))
        · have h2 := sp_eq (b := 2) (by omega) (by decide) h101
          first
            | exact absurd h1 (by omega)
            | exact absurd h2 (by omega)
            | (rw [← rd_t_s]
               have he : sp_e (σ 2) L p = sp_r (sp_k (σ 2) L) (sp_d (σ 2) L p) (L - sp_s (σ 2) L p) (sp_s (σ 2) L p) := by
                 unfold sp_e
                 rw [if_neg (by omega), if_pos (by omega)]
               exact lpX2_nt2 hL h320 (by omega) (by omega) (sgX2_nt3 h5 (by omega) (by omega) (by omega)) (L + 1) _ (by omega) (by omega) he.symm)
  · have h5 : sp_d (σ 2) L p = 5 := sp_eq (b := 5) (by omega) (by decide) h61
    refine q_aload_n dX2_nextToken_64 rfl ?_
    refine q_iconst (x := 1) dX2_nextToken_65 (by decide) ?_
    refine q_cVi lX2_70 vX2_fail (ci := 2) rfl dX2_nextToken_66 kX2_fail (by first | rfl | assumption) rfl rfl (Nat.le_of_ble_eq_true rfl) (by decide) ?_
    refine q_bret dX2_nextToken_69 ?_ rfl rfl
    have hd : sp_ok (σ 2) L p = false := decide_eq_false (fun z => z.1 h5)
    rw [hd]
    exact ⟨rfl, rfl, fun z => absurd (hd.symm.trans z) (by decide), fun _ => rd_F.of (f := 1) (rd_n_fr σ _ _) rfl⟩

set_option maxHeartbeats 1000000 in
set_option maxRecDepth 100000 in
theorem kX2_nextToken {σ : q_M} {L : Nat} (hL : σ 1 4 = nI L) (h320 : L ≤ 320) {p : Nat} (hp : σ 1 9 = nI p) (hpL : p ≤ L) : q_Ct YX2_nextToken [.ref 1] q_SH σ (q_re (q_b (sp_ok (σ 2) L p)) q_SH (sp_P1 σ (σ 2) L p)) := by
  refine q_ct (n := 0) (by decide) (by decide) rfl (fun _ => Nat.le_of_ble_eq_true rfl) (fun E => ?_)
  have z := lpX2_nt1 (E := E) hL h320 (sgX2_nt4 hL h320 hpL) (L + 1) p (by omega) hpL rfl
  rw [← hp, q_up_self] at z
  exact z
