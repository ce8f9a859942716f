/-! the reference: tokens -/
def rm_lk (σ : q_M) (L i : Nat) : Int32 := if i < L then σ 80 i else -1
/-- the reference's tape holds c: bytes not below 0 -/
def rm_t (σ : q_M) (c : Nat → Int32) (L : Nat) : Prop := σ 72 10 = nI L ∧ L ≤ 320 ∧ ∀ i, i < L → 0 ≤ (σ 80 i).toInt ∧ (σ 80 i = c i ∨ ((c i).toInt < 0 ∧ 128 ≤ (σ 80 i).toInt))
section RMT
variable {σ τ : q_M} {c : Nat → Int32} {L : Nat}
theorem rm_t.of (h : rm_t σ c L) (h1 : τ 72 10 = σ 72 10) (h2 : τ 80 = σ 80) : rm_t τ c L := ⟨h1.trans h.1, h.2.1, fun i hi => by rw [h2]; exact h.2.2 i hi⟩
theorem rm_lk_n (h : rm_t σ c L) (i : Nat) : (rm_lk σ L i).toInt < 0 ↔ L ≤ i := by
  unfold rm_lk
  have e : (-1 : Int32).toInt = -1 := rfl
  by_cases hi : i < L
  · rw [if_pos hi]
    have := (h.2.2 i hi).1
    omega
  · rw [if_neg hi]
    omega
theorem rm_lk_e (h : rm_t σ c L) (i : Nat) {b : Int32} (h0 : 0 ≤ b.toInt) (h1 : b.toInt < 128) : rm_lk σ L i = b ↔ (i < L ∧ c i = b) := by
  unfold rm_lk
  have e : (-1 : Int32).toInt = -1 := rfl
  by_cases hi : i < L
  · rw [if_pos hi]
    rcases (h.2.2 i hi).2 with z | z
    · rw [z]
      exact ⟨fun q => ⟨hi, q⟩, fun q => q.2⟩
    · constructor
      · intro q
        have := congrArg Int32.toInt q
        omega
      · intro q
        have := congrArg Int32.toInt q.2
        omega
  · rw [if_neg hi]
    constructor
    · intro q
      have := congrArg Int32.toInt q
      omega
    · intro q
      omega
theorem rm_lk_w (h : rm_t σ c L) (i : Nat) {lo hi : Int32} (h0 : 0 ≤ lo.toInt) (h1 : hi.toInt < 128) : q_win (rm_lk σ L i) lo hi = decide (i < L ∧ lo.toInt ≤ (c i).toInt ∧ (c i).toInt ≤ hi.toInt) := by
  unfold q_win
  rw [decide_eq_decide]
  unfold rm_lk
  have e : (-1 : Int32).toInt = -1 := rfl
  by_cases hi : i < L
  · rw [if_pos hi]
    rcases (h.2.2 i hi).2 with z | z
    · rw [z]
      omega
    · omega
  · rw [if_neg hi]
    omega
theorem rm_k0 (h : rm_t σ c L) (i : Nat) : (rm_lk σ L i).toInt < 0 ↔ sp_k c L i = 0 := by
  rw [rm_lk_n h]
  constructor
  · exact fun z => sp_k_0 z
  · intro z
    rcases Nat.lt_or_ge i L with q | q
    · exact absurd z (sp_k_n0 q)
    · exact q
theorem rm_k4 (h : rm_t σ c L) (i : Nat) : rm_lk σ L i = 32 ↔ sp_k c L i = 4 := by
  rw [rm_lk_e h i (by decide) (by decide)]
  unfold sp_k
  by_cases h0 : L ≤ i
  · rw [if_pos h0]
    omega
  · rw [if_neg h0]
    by_cases h1 : c i = 32
    · rw [if_pos h1]
      exact ⟨fun _ => rfl, fun _ => ⟨by omega, h1⟩⟩
    · rw [if_neg h1]
      constructor
      · exact fun z => absurd z.2 h1
      · intro z
        repeat' split at z
        all_goals omega
theorem rm_k3 (h : rm_t σ c L) (i : Nat) : rm_lk σ L i = 59 ↔ sp_k c L i = 3 := by
  rw [rm_lk_e h i (by decide) (by decide)]
  unfold sp_k
  by_cases h0 : L ≤ i
  · rw [if_pos h0]
    omega
  · rw [if_neg h0]
    by_cases h1 : c i = 32
    · rw [if_pos h1, h1]
      exact ⟨fun z => absurd z.2 (by decide), fun z => by omega⟩
    · rw [if_neg h1]
      by_cases h2 : c i = 59
      · rw [if_pos h2]
        exact ⟨fun _ => rfl, fun _ => ⟨by omega, h2⟩⟩
      · rw [if_neg h2]
        constructor
        · exact fun z => absurd z.2 h2
        · intro z
          repeat' split at z
          all_goals omega
theorem rm_k1 (h : rm_t σ c L) (i : Nat) : q_win (rm_lk σ L i) 97 122 = decide (sp_k c L i = 1) := by
  rw [rm_lk_w h i (by decide) (by decide), decide_eq_decide]
  unfold sp_k
  have e1 : (97 : Int32).toInt = 97 := rfl
  have e2 : (122 : Int32).toInt = 122 := rfl
  have e3 : (32 : Int32).toInt = 32 := rfl
  have e4 : (59 : Int32).toInt = 59 := rfl
  by_cases h0 : L ≤ i
  · rw [if_pos h0]
    omega
  · rw [if_neg h0]
    by_cases h1 : c i = 32
    · rw [if_pos h1, h1]
      omega
    · rw [if_neg h1]
      by_cases h2 : c i = 59
      · rw [if_pos h2, h2]
        omega
      · rw [if_neg h2]
        repeat' split
        all_goals omega
theorem rm_k2 (h : rm_t σ c L) (i : Nat) : q_win (rm_lk σ L i) 48 57 = decide (sp_k c L i = 2) := by
  rw [rm_lk_w h i (by decide) (by decide), decide_eq_decide]
  unfold sp_k
  have e1 : (48 : Int32).toInt = 48 := rfl
  have e2 : (57 : Int32).toInt = 57 := rfl
  have e3 : (32 : Int32).toInt = 32 := rfl
  have e4 : (59 : Int32).toInt = 59 := rfl
  by_cases h0 : L ≤ i
  · rw [if_pos h0]
    omega
  · rw [if_neg h0]
    by_cases h1 : c i = 32
    · rw [if_pos h1, h1]
      omega
    · rw [if_neg h1]
      by_cases h2 : c i = 59
      · rw [if_pos h2, h2]
        omega
      · rw [if_neg h2]
        repeat' split
        all_goals omega
/-- a figure is the same on both tapes -/
theorem rm_fig (h : rm_t σ c L) {i : Nat} (hk : sp_k c L i = 2) : rm_lk σ L i = c i := by
  have hi : i < L := by
    rcases Nat.lt_or_ge i L with q | q
    · exact q
    · have := sp_k_0 (c := c) q
      omega
  have h1 := of_decide_eq_true ((rm_k2 h i).trans (decide_eq_true hk))
  have e1 : (48 : Int32).toInt = 48 := rfl
  have e2 : (57 : Int32).toInt = 57 := rfl
  unfold rm_lk at h1 ⊢
  rw [if_pos hi] at h1 ⊢
  rcases (h.2.2 i hi).2 with z | z
  · exact z
  · omega
end RMT
/-- what a token changes: the fields 11 to 16 of the reference -/
def rm_f1 (σ τ : q_M) : Prop := (∀ x, ¬ x = 72 → τ x = σ x) ∧ ∀ k, k < 11 ∨ 16 < k → τ 72 k = σ 72 k
theorem rm_f1.rf (σ : q_M) : rm_f1 σ σ := ⟨fun _ _ => rfl, fun _ _ => rfl⟩
theorem rm_f1.up {σ τ : q_M} (h : rm_f1 σ τ) {k : Nat} {v : Int32} (hk : 11 ≤ k ∧ k ≤ 16) : rm_f1 σ (q_up τ 72 k v) :=
  ⟨fun x hx => by rw [q_up_ne hx]; exact h.1 x hx, fun j hj => by rw [q_up_f (by omega)]; exact h.2 j hj⟩
theorem rm_f1.tr {σ τ ρ : q_M} (h : rm_f1 σ τ) (g : rm_f1 τ ρ) : rm_f1 σ ρ := ⟨fun x hx => (g.1 x hx).trans (h.1 x hx), fun k hk => (g.2 k hk).trans (h.2 k hk)⟩
theorem rm_f1.t {σ τ : q_M} (h : rm_f1 σ τ) {c : Nat → Int32} {L : Nat} (ht : rm_t σ c L) : rm_t τ c L := ht.of (h.2 10 (by decide)) (h.1 80 (by decide))
/-- the token from p on is read, and it is one -/
def rm_T (c : Nat → Int32) (L p : Nat) (τ : q_M) : Prop := τ 72 11 = nI (sp_e c L p) ∧ τ 72 12 = nI (sp_s c L p) ∧ τ 72 13 = nI (sp_d c L p) ∧ (sp_d c L p = 2 → τ 72 14 = sp_v c (sp_s c L p) (sp_e c L p - sp_s c L p)) ∧ τ 72 15 = 0
def rm_Fw (w : sp_F) (τ : q_M) : Prop := τ 72 15 = nI w.1 ∧ τ 72 16 = nI w.2
/-- the token from p on is looked at: it is read, or it is a fault -/
def rm_L (c : Nat → Int32) (L p : Nat) (τ : q_M) : Prop := (sp_ok c L p = true → rm_T c L p τ) ∧ (sp_ok c L p = false → rm_Fw (1, sp_s c L p) τ)
theorem rm_L.ok {c : Nat → Int32} {L p : Nat} {τ : q_M} (h : sp_ok c L p = true) (t : rm_T c L p τ) : rm_L c L p τ := ⟨fun _ => t, fun z => absurd (h.symm.trans z) (by decide)⟩
theorem rm_L.no {c : Nat → Int32} {L p : Nat} {τ : q_M} (h : sp_ok c L p = false) (t : rm_Fw (1, sp_s c L p) τ) : rm_L c L p τ := ⟨fun z => absurd (h.symm.trans z) (by decide), fun _ => t⟩
def rn_n (σ : q_M) (s k : Nat) : q_M := q_up (q_up (q_up σ 72 11 (nI s)) 72 12 (nI s)) 72 13 (nI k)
def rn_t (σ : q_M) (s k e : Nat) : q_M := q_up (rn_n σ s k) 72 11 (nI e)
def rn_v (σ : q_M) (s : Nat) (v : Int32) (e : Nat) : q_M := q_up (q_up (rn_n σ s 2) 72 14 v) 72 11 (nI e)
theorem rn_n_f (σ : q_M) (s k : Nat) : rm_f1 σ (rn_n σ s k) := (((rm_f1.rf σ).up (by decide)).up (by decide)).up (by decide)
theorem rn_t_f (σ : q_M) (s k e : Nat) : rm_f1 σ (rn_t σ s k e) := (rn_n_f σ s k).up (by decide)
theorem rn_v_f (σ : q_M) (s : Nat) (v : Int32) (e : Nat) : rm_f1 σ (rn_v σ s v e) := ((rn_n_f σ s 2).up (by decide)).up (by decide)
theorem rn_t_s (σ : q_M) (s k : Nat) : rn_t σ s k s = rn_n σ s k := by
  unfold rn_t
  exact q_up_self (rn_n σ s k) 72 11
theorem rn_v_0 (σ : q_M) (s : Nat) (v : Int32) : rn_v σ s v s = q_up (rn_n σ s 2) 72 14 v := by
  unfold rn_v
  exact q_up_self (q_up (rn_n σ s 2) 72 14 v) 72 11
theorem rn_v_s (σ : q_M) (s : Nat) (v w : Int32) (p q : Nat) : q_up (q_up (rn_v σ s v p) 72 14 w) 72 11 (nI q) = rn_v σ s w q := by
  unfold rn_v
  rw [q_us (q_up (rn_n σ s 2) 72 14 v) 72 72 (k := 11) (j := 14) _ _ (by decide), q_uu, q_uu]
def rm_nd (σ : q_M) (g w : Int32) : q_M := if g = 0 ∧ σ 72 15 = 0 then q_up (q_up σ 72 15 w) 72 16 (σ 72 12) else σ
theorem rm_nd_f {σ : q_M} {g w : Int32} (hg : g = 0) (hf : σ 72 15 = 0) : rm_nd σ g w = q_up (q_up σ 72 15 w) 72 16 (σ 72 12) := if_pos ⟨hg, hf⟩
theorem rm_nd_n {σ : q_M} {g w : Int32} (h : ¬ g = 0 ∨ ¬ σ 72 15 = 0) : rm_nd σ g w = σ := if_neg (fun z => by rcases h with h | h; exact h z.1; exact h z.2)
theorem rm_nd_1 {σ : q_M} {w : Int32} : rm_nd σ 1 w = σ := rm_nd_n (Or.inl (by decide))
theorem rm_nd_fr (σ : q_M) (g w : Int32) : rm_f1 σ (rm_nd σ g w) := by
  unfold rm_nd
  split
  · exact ((rm_f1.rf σ).up (by decide)).up (by decide)
  · exact rm_f1.rf σ

set_option maxHeartbeats 1000000 in
set_option maxRecDepth 100000 in
theorem kX8_needs {σ : q_M} {b w : Int32} : q_Ct YX8_needs [.ref 72, .int b, .int w] q_SH σ (q_is none q_SH (rm_nd σ b w)) := by
  refine q_ct (n := 0) (by decide) (by decide) rfl (fun _ => Nat.le_of_ble_eq_true rfl) (fun E => ?_)
  refine q_iload_n dX8_needs_0 rfl ?_
  refine q_if_ne 24 dX8_needs_1 (by decide) (fun h1 => ?_) (fun h1 => ?_)
  · have hn : rm_nd σ b w = σ := rm_nd_n (Or.inl h1)
    refine q_vret dX8_needs_24 ?_ rfl rfl
    first
      | exact ⟨rfl, rfl, hn.symm⟩
      | exact ⟨rfl, rfl, (rm_nd_f h1 h8).symm⟩
  · refine q_aload_n dX8_needs_4 rfl ?_
    refine q_get fX8_76 dX8_needs_5 (by first | rfl | assumption) (by rfl) ?_
    refine q_if_ne 24 dX8_needs_8 (by decide) (fun h8 => ?_) (fun h8 => ?_)
    · have hn : rm_nd σ b w = σ := rm_nd_n (Or.inr h8)
      refine q_vret dX8_needs_24 ?_ rfl rfl
      first
        | exact ⟨rfl, rfl, hn.symm⟩
        | exact ⟨rfl, rfl, (rm_nd_f h1 h8).symm⟩
    · refine q_aload_n dX8_needs_11 rfl ?_
      refine q_iload_n dX8_needs_12 rfl ?_
      refine q_put_i pX8_76 dX8_needs_13 (by first | rfl | assumption) (by rfl) rfl rfl ?_
      refine q_aload_n dX8_needs_16 rfl ?_
      refine q_aload_n dX8_needs_17 rfl ?_
      refine q_get fX8_79 dX8_needs_18 (by first | rfl | assumption) (by rfl) ?_
      refine q_tope (y := σ 72 12) rfl ?_
      refine q_put_i pX8_82 dX8_needs_21 (by first | rfl | assumption) (by rfl) rfl rfl ?_
      refine q_vret dX8_needs_24 ?_ rfl rfl
      first
        | exact ⟨rfl, rfl, hn.symm⟩
        | exact ⟨rfl, rfl, (rm_nd_f h1 h8).symm⟩

set_option maxHeartbeats 1000000 in
set_option maxRecDepth 100000 in
theorem kX8_look {σ : q_M} {L : Nat} (hL : σ 72 10 = nI L) (h320 : L ≤ 320) {i : Nat} (hi : i ≤ 1000) : q_Ct YX8_look [.ref 72, .int (nI i)] q_SH σ (q_is (some (rm_lk σ L i)) q_SH σ) := by
  refine q_ct (n := 0) (by decide) (by decide) rfl (fun _ => Nat.le_of_ble_eq_true rfl) (fun E => ?_)
  have hit := nI_toInt (n := i) (by omega)
  have hLt := nI_toInt (n := L) (by omega)
  refine q_iload_n dX8_look_0 rfl ?_
  refine q_aload_n dX8_look_1 rfl ?_
  refine q_get fX8_67 dX8_look_2 (by first | rfl | assumption) (by rfl) ?_
  refine q_tope (y := nI L) hL ?_
  refine q_cge 17 dX8_look_5 (by decide) (fun h5 => ?_) (fun h5 => ?_)
  · refine q_iconst (x := (-1)) dX8_look_17 (by decide) ?_
    refine q_ret dX8_look_18 ?_ rfl rfl
    first
      | exact ⟨congrArg some (if_neg (by omega)).symm, rfl, rfl⟩
      | exact ⟨congrArg some (if_pos (by omega)).symm, rfl, rfl⟩
  · refine q_aload_n dX8_look_8 rfl ?_
    refine q_getr fX8_32 dX8_look_9 (by first | rfl | assumption) (by rfl) ?_
    refine q_iload_n dX8_look_12 rfl ?_
    refine q_ild i (by first | rfl | assumption) hit (by omega) dX8_look_13 ?_
    refine q_goto 18 dX8_look_14 (by decide) ?_
    refine q_ret dX8_look_18 ?_ rfl rfl
    first
      | exact ⟨congrArg some (if_neg (by omega)).symm, rfl, rfl⟩
      | exact ⟨congrArg some (if_pos (by omega)).symm, rfl, rfl⟩

set_option maxHeartbeats 1000000 in
set_option maxRecDepth 100000 in
theorem lpX8_nt1 {E : q_E} {σ : q_M} {c : Nat → Int32} {L : Nat} (ht : rm_t σ c L) {s : Nat} {Q : q_P} (K : q_G YX8_next E 0 0 34 [some (.ref 72), none] [] q_SH (q_up σ 72 11 (nI s)) Q) : ∀ (n : Nat) (p : Nat), L + 1 ≤ p + n → p ≤ L → sp_r (sp_k c L) 4 (L - p) p = s → q_G YX8_next E 0 0 8 [some (.ref 72), none] [] q_SH (q_up σ 72 11 (nI p)) Q := by
  intro n
  induction n with
  | zero =>
    intro p hm h0 hs
    exact absurd hm (by omega)
  | succ n ih =>
    intro p hm h0 hs
    have hL3 := ht.2.1
    refine q_aload_n dX8_next_8 rfl ?_
    refine q_aload_n dX8_next_9 rfl ?_
    refine q_get fX8_85 dX8_next_10 (by first | rfl | assumption) (by rfl) ?_
    refine q_tope (y := nI p) (q_up_at _ _ _ _) ?_
    refine q_cVi lX8_88 vX8_look (ci := 8) rfl dX8_next_13 (kX8_look (L := L) (i := p) (by first | exact ht.1 | rfl) ht.2.1 (by omega)) (by first | rfl | assumption) rfl rfl (Nat.le_of_ble_eq_true rfl) (by decide) ?_
    refine q_tope (y := rm_lk σ L p) rfl ?_
    refine q_bipush (x := 32) dX8_next_16 (by decide) ?_
    refine q_icmp_ne 34 dX8_next_18 (by decide) (fun h18 => ?_) (fun h18 => ?_)
    · have e : p = s := by rw [← hs, sp_r_no (fun z => h18 ((rm_k4 ht p).mpr z))]
      subst e
      exact K
    · have hk := (rm_k4 ht p).mp h18
      have hpl : p < L := by
        rcases Nat.lt_or_ge p L with q | q
        · exact q
        · have := sp_k_0 (c := c) q
          omega
      refine q_aload_n dX8_next_21 rfl ?_
      refine q_dup rfl dX8_next_22 ?_
      refine q_get fX8_85 dX8_next_23 (by first | rfl | assumption) (by rfl) ?_
      refine q_tope (y := nI p) (q_up_at _ _ _ _) ?_
      refine q_iconst (x := 1) dX8_next_26 (by decide) ?_
      refine q_iadd dX8_next_27 ?_
      refine q_tope (y := nI (p + 1)) (nI_1 _) ?_
      refine q_put_i pX8_85 dX8_next_28 (by first | rfl | assumption) (by rfl) rfl rfl ?_
      refine q_goto 8 dX8_next_31 (by decide) ?_
      rw [q_uu]
      exact ih (p + 1) (by omega) (by omega) (by rw [← hs, show L - p = (L - (p + 1)) + 1 by omega, sp_r_st hk])

set_option maxHeartbeats 1000000 in
set_option maxRecDepth 100000 in
theorem lpX8_nt2 {E : q_E} {σ : q_M} {c : Nat → Int32} {L : Nat} (ht : rm_t σ c L) {s e : Nat} {x : Int32} {Q : q_P} (K : q_G YX8_next E 0 0 274 [some (.ref 72), some (.int x)] [] q_SH (rn_t σ s 1 e) Q) : ∀ (n : Nat) (p : Nat), L + 1 ≤ p + n → p ≤ L → sp_r (sp_k c L) 1 (L - p) p = e → q_G YX8_next E 0 0 82 [some (.ref 72), some (.int x)] [] q_SH (rn_t σ s 1 p) Q := by
  intro n
  induction n with
  | zero =>
    intro p hm h0 hs
    exact absurd hm (by omega)
  | succ n ih =>
    intro p hm h0 hs
    have hL3 := ht.2.1
    refine q_aload_n dX8_next_82 rfl ?_
    refine q_aload_n dX8_next_83 rfl ?_
    refine q_get fX8_85 dX8_next_84 (by first | rfl | assumption) (by rfl) ?_
    refine q_tope (y := nI p) rfl ?_
    refine q_cVi lX8_88 vX8_look (ci := 8) rfl dX8_next_87 (kX8_look (L := L) (i := p) (by first | exact ht.1 | rfl) ht.2.1 (by omega)) (by first | rfl | assumption) rfl rfl (Nat.le_of_ble_eq_true rfl) (by decide) ?_
    refine q_tope (y := rm_lk σ L p) rfl ?_
    refine q_i2l dX8_next_90 ?_
    refine q_ldc2 kX8_99 dX8_next_91 ?_
    refine q_ldc2 kX8_101 dX8_next_94 ?_
    refine q_cSi lX8_72 sX8_in dX8_next_97 (kX8_in (x := (rm_lk σ L p)) (lo := 97) (hi := 122) (Int32.toInt_toInt64 _) rfl rfl) rfl rfl (Nat.le_of_ble_eq_true rfl) (by decide) ?_
    refine q_beq 274 dX8_next_100 (by decide) (fun h100 => ?_) (fun h100 => ?_)
    · have hk : ¬ sp_k c L p = 1 := of_decide_eq_false ((rm_k1 ht p).symm.trans h100)
      have e1 : p = e := by rw [← hs, sp_r_no hk]
      subst e1
      exact K
    · have hk : sp_k c L p = 1 := of_decide_eq_true ((rm_k1 ht p).symm.trans h100)
      have hpl : p < L := by
        rcases Nat.lt_or_ge p L with q | q
        · exact q
        · have := sp_k_0 (c := c) q
          omega
      refine q_aload_n dX8_next_103 rfl ?_
      refine q_dup rfl dX8_next_104 ?_
      refine q_get fX8_85 dX8_next_105 (by first | rfl | assumption) (by rfl) ?_
      refine q_tope (y := nI p) rfl ?_
      refine q_iconst (x := 1) dX8_next_108 (by decide) ?_
      refine q_iadd dX8_next_109 ?_
      refine q_tope (y := nI (p + 1)) (nI_1 _) ?_
      refine q_put_i pX8_85 dX8_next_110 (by first | rfl | assumption) (by rfl) rfl rfl ?_
      refine q_goto 82 dX8_next_113 (by decide) ?_
      rw [rn_t, q_uu]
      exact ih (p + 1) (by omega) (by omega) (by rw [← hs, show L - p = (L - (p + 1)) + 1 by omega, sp_r_st hk])

set_option maxHeartbeats 1000000 in
set_option maxRecDepth 100000 in
theorem lpX8_nt3 {E : q_E} {σ : q_M} {c : Nat → Int32} {L : Nat} (ht : rm_t σ c L) {s e : Nat} {x : Int32} {Q : q_P} (K : q_G YX8_next E 0 0 217 [some (.ref 72), some (.int x)] [] q_SH (rn_v σ s (sp_v c s (min (e - s) 4)) e) Q) : ∀ (n : Nat) (i : Nat), L + 1 ≤ s + i + n → s + i ≤ L → sp_r (sp_k c L) 2 (L - (s + i)) (s + i) = e → q_G YX8_next E 0 0 140 [some (.ref 72), some (.int x)] [] q_SH (rn_v σ s (sp_v c s (min i 4)) (s + i)) Q := by
  intro n
  induction n with
  | zero =>
    intro i hm h0 hs
    exact absurd hm (by omega)
  | succ n ih =>
    intro i hm h0 hs
    have hL3 := ht.2.1
    refine q_aload_n dX8_next_140 rfl ?_
    refine q_aload_n dX8_next_141 rfl ?_
    refine q_get fX8_85 dX8_next_142 (by first | rfl | assumption) (by rfl) ?_
    refine q_tope (y := nI (s + i)) rfl ?_
    refine q_cVi lX8_88 vX8_look (ci := 8) rfl dX8_next_145 (kX8_look (L := L) (i := (s + i)) (by first | exact ht.1 | rfl) ht.2.1 (by omega)) (by first | rfl | assumption) rfl rfl (Nat.le_of_ble_eq_true rfl) (by decide) ?_
    refine q_tope (y := rm_lk σ L (s + i)) rfl ?_
    refine q_i2l dX8_next_148 ?_
    refine q_ldc2 kX8_103 dX8_next_149 ?_
    refine q_ldc2 kX8_105 dX8_next_152 ?_
    refine q_cSi lX8_72 sX8_in dX8_next_155 (kX8_in (x := (rm_lk σ L (s + i))) (lo := 48) (hi := 57) (Int32.toInt_toInt64 _) rfl rfl) rfl rfl (Nat.le_of_ble_eq_true rfl) (by decide) ?_
    refine q_beq 217 dX8_next_158 (by decide) (fun h158 => ?_) (fun h158 => ?_)
    · have hk : ¬ sp_k c L (s + i) = 2 := of_decide_eq_false ((rm_k2 ht _).symm.trans h158)
      have e1 : s + i = e := by rw [← hs, sp_r_no hk]
      have e2 : i = e - s := by omega
      rw [e1, e2]
      exact K
    · have hk : sp_k c L (s + i) = 2 := of_decide_eq_true ((rm_k2 ht _).symm.trans h158)
      have hpl : s + i < L := by
        rcases Nat.lt_or_ge (s + i) L with q | q
        · exact q
        · have := sp_k_0 (c := c) q
          omega
      have hit := nI_toInt (n := i) (by omega)
      have e4 : (4 : Int32).toInt = 4 := rfl
      refine q_aload_n dX8_next_161 rfl ?_
      refine q_aload_n dX8_next_162 rfl ?_
      refine q_get fX8_85 dX8_next_163 (by first | rfl | assumption) (by rfl) ?_
      refine q_tope (y := nI (s + i)) rfl ?_
      refine q_aload_n dX8_next_166 rfl ?_
      refine q_get fX8_79 dX8_next_167 (by first | rfl | assumption) (by rfl) ?_
      refine q_tope (y := nI s) rfl ?_
      refine q_isub dX8_next_170 ?_
      refine q_tope (y := nI i) (by rw [pk_sub (by omega), Nat.add_sub_cancel_left]) ?_
      refine q_iconst (x := 4) dX8_next_171 (by decide) ?_
      refine q_cge 197 dX8_next_172 (by decide) (fun h172 => ?_) (fun h172 => ?_)
      · have hv : sp_v c s (min i 4) = sp_v c s (min (i + 1) 4) := by rw [show min i 4 = 4 by omega, show min (i + 1) 4 = 4 by omega]
        refine q_aload_n dX8_next_197 rfl ?_
        refine q_get fX8_107 dX8_next_198 (by first | rfl | assumption) (by rfl) ?_
        refine q_tope (y := sp_v c s (min (i + 1) 4)) hv ?_
        refine q_put_i pX8_107 dX8_next_201 (by first | rfl | assumption) (by rfl) rfl rfl ?_
        refine q_aload_n dX8_next_204 rfl ?_
        refine q_dup rfl dX8_next_205 ?_
        refine q_get fX8_85 dX8_next_206 (by first | rfl | assumption) (by rfl) ?_
        refine q_tope (y := nI (s + i)) rfl ?_
        refine q_iconst (x := 1) dX8_next_209 (by decide) ?_
        refine q_iadd dX8_next_210 ?_
        refine q_tope (y := nI (s + i + 1)) (nI_1 _) ?_
        refine q_put_i pX8_85 dX8_next_211 (by first | rfl | assumption) (by rfl) rfl rfl ?_
        refine q_goto 140 dX8_next_214 (by decide) ?_
        rw [rn_v_s, show s + i + 1 = s + (i + 1) from rfl]
        exact ih (i + 1) (by omega) (by omega) (by rw [← hs, show L - (s + i) = (L - (s + (i + 1))) + 1 by omega, sp_r_st hk, show s + i + 1 = s + (i + 1) from rfl])
      · have hv : 10 * sp_v c s (min i 4) + rm_lk σ L (s + i) - 48 = sp_v c s (min (i + 1) 4) := by
          rw [show min i 4 = i by omega, show min (i + 1) 4 = i + 1 by omega, rm_fig ht hk, Int32.mul_comm]
          rfl
        refine q_bipush (x := 10) dX8_next_175 (by decide) ?_
        refine q_aload_n dX8_next_177 rfl ?_
        refine q_get fX8_107 dX8_next_178 (by first | rfl | assumption) (by rfl) ?_
        refine q_tope (y := sp_v c s (min i 4)) rfl ?_
        refine q_imul dX8_next_181 ?_
        refine q_aload_n dX8_next_182 rfl ?_
        refine q_aload_n dX8_next_183 rfl ?_
        refine q_get fX8_85 dX8_next_184 (by first | rfl | assumption) (by rfl) ?_
        refine q_tope (y := nI (s + i)) rfl ?_
        refine q_cVi lX8_88 vX8_look (ci := 8) rfl dX8_next_187 (kX8_look (L := L) (i := (s + i)) (by first | exact ht.1 | rfl) ht.2.1 (by omega)) (by first | rfl | assumption) rfl rfl (Nat.le_of_ble_eq_true rfl) (by decide) ?_
        refine q_tope (y := rm_lk σ L (s + i)) rfl ?_
        refine q_iadd dX8_next_190 ?_
        refine q_bipush (x := 48) dX8_next_191 (by decide) ?_
        refine q_isub dX8_next_193 ?_
        refine q_tope (y := sp_v c s (min (i + 1) 4)) hv ?_
        refine q_goto 201 dX8_next_194 (by decide) ?_
        refine q_put_i pX8_107 dX8_next_201 (by first | rfl | assumption) (by rfl) rfl rfl ?_
        refine q_aload_n dX8_next_204 rfl ?_
        refine q_dup rfl dX8_next_205 ?_
        refine q_get fX8_85 dX8_next_206 (by first | rfl | assumption) (by rfl) ?_
        refine q_tope (y := nI (s + i)) rfl ?_
        refine q_iconst (x := 1) dX8_next_209 (by decide) ?_
        refine q_iadd dX8_next_210 ?_
        refine q_tope (y := nI (s + i + 1)) (nI_1 _) ?_
        refine q_put_i pX8_85 dX8_next_211 (by first | rfl | assumption) (by rfl) rfl rfl ?_
        refine q_goto 140 dX8_next_214 (by decide) ?_
        rw [rn_v_s, show s + i + 1 = s + (i + 1) from rfl]
        exact ih (i + 1) (by omega) (by omega) (by rw [← hs, show L - (s + i) = (L - (s + (i + 1))) + 1 by omega, sp_r_st hk, show s + i + 1 = s + (i + 1) from rfl])

set_option maxHeartbeats 1000000 in
set_option maxRecDepth 100000 in
theorem sgX8_nt4 {E : q_E} {σ : q_M} {c : Nat → Int32} {L : Nat} (ht : rm_t σ c L) (hf : σ 72 15 = 0) {p : Nat} (hpL : p ≤ L) {x : Int32} (hd2 : sp_d c L p = 2) : q_G YX8_next E 0 0 217 [some (.ref 72), some (.int x)] [] q_SH (rn_v σ (sp_s c L p) (sp_v c (sp_s c L p) (min (sp_e c L p - sp_s c L p) 4)) (sp_e c L p)) (q_rv q_SH (fun τ => rm_f1 σ τ ∧ rm_L c L p τ)) := by
  have hsg := sp_s_ge (c := c) hpL
  have hel := sp_e_le (c := c) hpL
  have hL3 := ht.2.1
  have het := nI_toInt (n := sp_e c L p - sp_s c L p) (by omega)
  have e4 : (4 : Int32).toInt = 4 := rfl
  refine q_aload_n dX8_next_217 rfl ?_
  refine q_aload_n dX8_next_218 rfl ?_
  refine q_get fX8_85 dX8_next_219 (by first | rfl | assumption) (by rfl) ?_
  refine q_tope (y := nI (sp_e c L p)) rfl ?_
  refine q_aload_n dX8_next_222 rfl ?_
  refine q_get fX8_79 dX8_next_223 (by first | rfl | assumption) (by rfl) ?_
  refine q_tope (y := nI (sp_s c L p)) rfl ?_
  refine q_isub dX8_next_226 ?_
  refine q_tope (y := nI (sp_e c L p - sp_s c L p)) (pk_sub hel.1) ?_
  refine q_iconst (x := 4) dX8_next_227 (by decide) ?_
  refine q_cgt 235 dX8_next_228 (by decide) (fun h228 => ?_) (fun h228 => ?_)
  · refine q_iconst (x := 0) dX8_next_235 (by decide) ?_
    refine q_iconst (x := 1) dX8_next_236 (by decide) ?_
    refine q_cVv lX8_110 vX8_needs (ci := 8) rfl dX8_next_237 kX8_needs (by first | rfl | assumption) rfl rfl (Nat.le_of_ble_eq_true rfl) (by decide) ?_
    first
      | (refine q_mem rm_nd_1 ?_
         have hok : sp_ok c L p = true := decide_eq_true ⟨by omega, fun _ => by omega⟩)
      | (refine q_mem (rm_nd_f rfl hf) ?_
         have hok : sp_ok c L p = false := decide_eq_false (fun z => absurd (z.2 hd2) (by omega)))
    refine q_goto 274 dX8_next_240 (by decide) ?_
    refine q_vret dX8_next_274 ?_ rfl rfl
    first
      | exact ⟨rfl, rfl, rn_v_f σ _ _ _, rm_L.ok hok ⟨rfl, rfl, by rw [hd2]; rfl, fun _ => by rw [show min (sp_e c L p - sp_s c L p) 4 = sp_e c L p - sp_s c L p by omega]; rfl, hf⟩⟩
      | exact ⟨rfl, rfl, ((rn_v_f σ _ _ _).up (by decide)).up (by decide), rm_L.no hok ⟨rfl, rfl⟩⟩
  · refine q_iconst (x := 1) dX8_next_231 (by decide) ?_
    refine q_goto 236 dX8_next_232 (by decide) ?_
    refine q_iconst (x := 1) dX8_next_236 (by decide) ?_
    refine q_cVv lX8_110 vX8_needs (ci := 8) rfl dX8_next_237 kX8_needs (by first | rfl | assumption) rfl rfl (Nat.le_of_ble_eq_true rfl) (by decide) ?_
    first
      | (refine q_mem rm_nd_1 ?_
         have hok : sp_ok c L p = true := decide_eq_true ⟨by omega, fun _ => by omega⟩)
      | (refine q_mem (rm_nd_f rfl hf) ?_
         have hok : sp_ok c L p = false := decide_eq_false (fun z => absurd (z.2 hd2) (by omega)))
    refine q_goto 274 dX8_next_240 (by decide) ?_
    refine q_vret dX8_next_274 ?_ rfl rfl
    first
      | exact ⟨rfl, rfl, rn_v_f σ _ _ _, rm_L.ok hok ⟨rfl, rfl, by rw [hd2]; rfl, fun _ => by rw [show min (sp_e c L p - sp_s c L p) 4 = sp_e c L p - sp_s c L p by omega]; rfl, hf⟩⟩
      | exact ⟨rfl, rfl, ((rn_v_f σ _ _ _).up (by decide)).up (by decide), rm_L.no hok ⟨rfl, rfl⟩⟩

set_option maxHeartbeats 1000000 in
set_option maxRecDepth 100000 in
theorem sgX8_nt5 {E : q_E} {σ : q_M} {c : Nat → Int32} {L : Nat} (ht : rm_t σ c L) (hf : σ 72 15 = 0) {p : Nat} (hpL : p ≤ L) : q_G YX8_next E 0 0 34 [some (.ref 72), none] [] q_SH (q_up σ 72 11 (nI (sp_s c L p))) (q_rv q_SH (fun τ => rm_f1 σ τ ∧ rm_L c L p τ)) := by
  have hsg := sp_s_ge (c := c) hpL
  have hel := sp_e_le (c := c) hpL
  have hdl := sp_d_le c L p
  have hn4 := sp_d_n4 (c := c) hpL
  have hL3 := ht.2.1
  refine q_aload_n dX8_next_34 rfl ?_
  refine q_aload_n dX8_next_35 rfl ?_
  refine q_get fX8_85 dX8_next_36 (by first | rfl | assumption) (by rfl) ?_
  refine q_tope (y := nI (sp_s c L p)) rfl ?_
  refine q_put_i pX8_79 dX8_next_39 (by first | rfl | assumption) (by rfl) rfl rfl ?_
  refine q_aload_n dX8_next_42 rfl ?_
  refine q_aload_n dX8_next_43 rfl ?_
  refine q_get fX8_85 dX8_next_44 (by first | rfl | assumption) (by rfl) ?_
  refine q_tope (y := nI (sp_s c L p)) rfl ?_
  refine q_cVi lX8_88 vX8_look (ci := 8) rfl dX8_next_47 (kX8_look (L := L) (i := (sp_s c L p)) (by first | exact ht.1 | rfl) ht.2.1 (by omega)) (by first | rfl | assumption) rfl rfl (Nat.le_of_ble_eq_true rfl) (by decide) ?_
  refine q_tope (y := rm_lk σ L (sp_s c L p)) rfl ?_
  refine q_istore_n dX8_next_50 (by decide) rfl ?_
  refine q_iload_n dX8_next_51 rfl ?_
  refine q_zge 63 dX8_next_52 (by decide) (fun h52 => ?_) (fun h52 => ?_)
  · have hdn0 : ¬ sp_d c L p = 0 := fun z => absurd ((rm_k0 ht _).mpr z) (by omega)
    refine q_iload_n dX8_next_63 rfl ?_
    refine q_i2l dX8_next_64 ?_
    refine q_ldc2 kX8_99 dX8_next_65 ?_
    refine q_ldc2 kX8_101 dX8_next_68 ?_
    refine q_cSi lX8_72 sX8_in dX8_next_71 (kX8_in (x := (rm_lk σ L (sp_s c L p))) (lo := 97) (hi := 122) (Int32.toInt_toInt64 _) rfl rfl) rfl rfl (Nat.le_of_ble_eq_true rfl) (by decide) ?_
    refine q_beq 116 dX8_next_74 (by decide) (fun h74 => ?_) (fun h74 => ?_)
    · have hdn1 : ¬ sp_d c L p = 1 := of_decide_eq_false ((rm_k1 ht _).symm.trans h74)
      refine q_iload_n dX8_next_116 rfl ?_
      refine q_i2l dX8_next_117 ?_
      refine q_ldc2 kX8_103 dX8_next_118 ?_
      refine q_ldc2 kX8_105 dX8_next_121 ?_
      refine q_cSi lX8_72 sX8_in dX8_next_124 (kX8_in (x := (rm_lk σ L (sp_s c L p))) (lo := 48) (hi := 57) (Int32.toInt_toInt64 _) rfl rfl) rfl rfl (Nat.le_of_ble_eq_true rfl) (by decide) ?_
      refine q_beq 243 dX8_next_127 (by decide) (fun h127 => ?_) (fun h127 => ?_)
      · have hdn2 : ¬ sp_d c L p = 2 := of_decide_eq_false ((rm_k2 ht _).symm.trans h127)
        refine q_aload_n dX8_next_243 rfl ?_
        refine q_iconst (x := 3) dX8_next_244 (by decide) ?_
        refine q_put_i pX8_96 dX8_next_245 (by first | rfl | assumption) (by rfl) rfl rfl ?_
        refine q_aload_n dX8_next_248 rfl ?_
        refine q_iload_n dX8_next_249 rfl ?_
        refine q_bipush (x := 59) dX8_next_250 (by decide) ?_
        refine q_icmp_ne 259 dX8_next_252 (by decide) (fun h252 => ?_) (fun h252 => ?_)
        · have hd5 : sp_d c L p = 5 := by
            have : ¬ sp_d c L p = 3 := fun z => h252 ((rm_k3 ht _).mpr z)
            omega
          refine q_iconst (x := 0) dX8_next_259 (by decide) ?_
          refine q_iconst (x := 1) dX8_next_260 (by decide) ?_
          refine q_cVv lX8_110 vX8_needs (ci := 8) rfl dX8_next_261 kX8_needs (by first | rfl | assumption) rfl rfl (Nat.le_of_ble_eq_true rfl) (by decide) ?_
          first
            | (refine q_mem rm_nd_1 ?_
               have hok : sp_ok c L p = true := decide_eq_true ⟨by omega, fun z => absurd z (by omega)⟩
               have he : sp_e c L p = sp_s c L p + 1 := if_pos (Or.inl hd3))
            | (refine q_mem (rm_nd_f rfl hf) ?_
               have hok : sp_ok c L p = false := decide_eq_false (fun z => z.1 hd5))
          refine q_aload_n dX8_next_264 rfl ?_
          refine q_dup rfl dX8_next_265 ?_
          refine q_get fX8_85 dX8_next_266 (by first | rfl | assumption) (by rfl) ?_
          refine q_tope (y := nI (sp_s c L p)) rfl ?_
          refine q_iconst (x := 1) dX8_next_269 (by decide) ?_
          refine q_iadd dX8_next_270 ?_
          refine q_tope (y := nI (sp_s c L p + 1)) (nI_1 _) ?_
          refine q_put_i pX8_85 dX8_next_271 (by first | rfl | assumption) (by rfl) rfl rfl ?_
          refine q_vret dX8_next_274 ?_ rfl rfl
          first
            | (have hok : sp_ok c L p = true := decide_eq_true ⟨by omega, fun z => absurd z (by omega)⟩
               have he : sp_e c L p = sp_s c L p := by
                 unfold sp_e
                 rw [if_neg (by omega), if_neg (by omega)]
               exact ⟨rfl, rfl, rn_n_f σ _ 0, rm_L.ok hok ⟨by rw [he]; rfl, rfl, by rw [hd0]; rfl, fun z => absurd z (by omega), hf⟩⟩)
            | exact ⟨rfl, rfl, (rn_n_f σ _ 3).up (by decide), rm_L.ok hok ⟨by rw [he]; rfl, rfl, by rw [hd3]; rfl, fun z => absurd z (by omega), hf⟩⟩
            | exact ⟨rfl, rfl, (((rn_n_f σ _ 3).up (by decide)).up (by decide)).up (by decide), rm_L.no hok ⟨rfl, rfl⟩⟩
        · have hd3 : sp_d c L p = 3 := (rm_k3 ht _).mp h252
          refine q_iconst (x := 1) dX8_next_255 (by decide) ?_
          refine q_goto 260 dX8_next_256 (by decide) ?_
          refine q_iconst (x := 1) dX8_next_260 (by decide) ?_
          refine q_cVv lX8_110 vX8_needs (ci := 8) rfl dX8_next_261 kX8_needs (by first | rfl | assumption) rfl rfl (Nat.le_of_ble_eq_true rfl) (by decide) ?_
          first
            | (refine q_mem rm_nd_1 ?_
               have hok : sp_ok c L p = true := decide_eq_true ⟨by omega, fun z => absurd z (by omega)⟩
               have he : sp_e c L p = sp_s c L p + 1 := if_pos (Or.inl hd3))
            | (refine q_mem (rm_nd_f rfl hf) ?_
               have hok : sp_ok c L p = false := decide_eq_false (fun z => z.1 hd5))
          refine q_aload_n dX8_next_264 rfl ?_
          refine q_dup rfl dX8_next_265 ?_
          refine q_get fX8_85 dX8_next_266 (by first | rfl | assumption) (by rfl) ?_
          refine q_tope (y := nI (sp_s c L p)) rfl ?_
          refine q_iconst (x := 1) dX8_next_269 (by decide) ?_
          refine q_iadd dX8_next_270 ?_
          refine q_tope (y := nI (sp_s c L p + 1)) (nI_1 _) ?_
          refine q_put_i pX8_85 dX8_next_271 (by first | rfl | assumption) (by rfl) rfl rfl ?_
          refine q_vret dX8_next_274 ?_ rfl rfl
          first
            | (have hok : sp_ok c L p = true := decide_eq_true ⟨by omega, fun z => absurd z (by omega)⟩
               have he : sp_e c L p = sp_s c L p := by
                 unfold sp_e
                 rw [if_neg (by omega), if_neg (by omega)]
               exact ⟨rfl, rfl, rn_n_f σ _ 0, rm_L.ok hok ⟨by rw [he]; rfl, rfl, by rw [hd0]; rfl, fun z => absurd z (by omega), hf⟩⟩)
            | exact ⟨rfl, rfl, (rn_n_f σ _ 3).up (by decide), rm_L.ok hok ⟨by rw [he]; rfl, rfl, by rw [hd3]; rfl, fun z => absurd z (by omega), hf⟩⟩
            | exact ⟨rfl, rfl, (((rn_n_f σ _ 3).up (by decide)).up (by decide)).up (by decide), rm_L.no hok ⟨rfl, rfl⟩⟩
      · have hd2 : sp_d c L p = 2 := of_decide_eq_true ((rm_k2 ht _).symm.trans h127)
        refine q_aload_n dX8_next_130 rfl ?_
        refine q_iconst (x := 2) dX8_next_131 (by decide) ?_
        refine q_put_i pX8_96 dX8_next_132 (by first | rfl | assumption) (by rfl) rfl rfl ?_
        refine q_aload_n dX8_next_135 rfl ?_
        refine q_iconst (x := 0) dX8_next_136 (by decide) ?_
        refine q_put_i pX8_107 dX8_next_137 (by first | rfl | assumption) (by rfl) rfl rfl ?_
        refine q_mem (τ := rn_v σ (sp_s c L p) (sp_v c (sp_s c L p) (min 0 4)) (sp_s c L p + 0)) (rn_v_0 σ _ 0).symm ?_
        have he : sp_e c L p = sp_r (sp_k c L) 2 (L - sp_s c L p) (sp_s c L p) := by
          unfold sp_e
          rw [if_neg (by omega), if_pos (by omega), hd2]
        exact lpX8_nt3 ht (e := sp_e c L p) (sgX8_nt4 ht hf hpL hd2) (L + 1) 0 (by omega) (by omega) he.symm
    · have hd1 : sp_d c L p = 1 := of_decide_eq_true ((rm_k1 ht _).symm.trans h74)
      refine q_aload_n dX8_next_77 rfl ?_
      refine q_iconst (x := 1) dX8_next_78 (by decide) ?_
      refine q_put_i pX8_96 dX8_next_79 (by first | rfl | assumption) (by rfl) rfl rfl ?_
      refine q_mem (τ := rn_t σ (sp_s c L p) 1 (sp_s c L p)) (rn_t_s σ _ 1).symm ?_
      have he : sp_e c L p = sp_r (sp_k c L) 1 (L - sp_s c L p) (sp_s c L p) := by
        unfold sp_e
        rw [if_neg (by omega), if_pos (by omega), hd1]
      refine lpX8_nt2 ht (e := sp_e c L p) ?_ (L + 1) _ (by omega) hsg.2 he.symm
      refine q_vret dX8_next_274 ?_ rfl rfl
      have hok : sp_ok c L p = true := decide_eq_true ⟨by omega, fun z => absurd z (by omega)⟩
      exact ⟨rfl, rfl, rn_t_f σ _ _ _, rm_L.ok hok ⟨rfl, rfl, by rw [hd1]; rfl, fun z => absurd z (by omega), hf⟩⟩
  · have hd0 : sp_d c L p = 0 := (rm_k0 ht _).mp h52
    refine q_aload_n dX8_next_55 rfl ?_
    refine q_iconst (x := 0) dX8_next_56 (by decide) ?_
    refine q_put_i pX8_96 dX8_next_57 (by first | rfl | assumption) (by rfl) rfl rfl ?_
    refine q_goto 274 dX8_next_60 (by decide) ?_
    refine q_vret dX8_next_274 ?_ rfl rfl
    first
      | (have hok : sp_ok c L p = true := decide_eq_true ⟨by omega, fun z => absurd z (by omega)⟩
         have he : sp_e c L p = sp_s c L p := by
           unfold sp_e
           rw [if_neg (by omega), if_neg (by omega)]
         exact ⟨rfl, rfl, rn_n_f σ _ 0, rm_L.ok hok ⟨by rw [he]; rfl, rfl, by rw [hd0]; rfl, fun z => absurd z (by omega), hf⟩⟩)
      | exact ⟨rfl, rfl, (rn_n_f σ _ 3).up (by decide), rm_L.ok hok ⟨by rw [he]; rfl, rfl, by rw [hd3]; rfl, fun z => absurd z (by omega), hf⟩⟩
      | exact ⟨rfl, rfl, (((rn_n_f σ _ 3).up (by decide)).up (by decide)).up (by decide), rm_L.no hok ⟨rfl, rfl⟩⟩

set_option maxHeartbeats 1000000 in
set_option maxRecDepth 100000 in
theorem kX8_next {σ : q_M} {c : Nat → Int32} {L : Nat} (ht : rm_t σ c L) (hf : σ 72 15 = 0) {p : Nat} (hp : σ 72 11 = nI p) (hpL : p ≤ L) : q_Ct YX8_next [.ref 72] q_SH σ (q_rv q_SH (fun τ => rm_f1 σ τ ∧ rm_L c L p τ)) := by
  refine q_ct (n := 1) (by decide) (by decide) rfl (fun _ => Nat.le_of_ble_eq_true rfl) (fun E => ?_)
  refine q_aload_n dX8_next_0 rfl ?_
  refine q_get fX8_76 dX8_next_1 (by first | rfl | assumption) (by rfl) ?_
  refine q_tope (y := 0) hf ?_
  refine q_zle 8 dX8_next_4 (by decide) (fun h4 => ?_) (fun h4 => ?_)
  · have z := lpX8_nt1 (E := E) ht (sgX8_nt5 ht hf hpL) (L + 1) p (by omega) hpL rfl
    rw [← hp, q_up_self] at z
    exact z
  · exact absurd h4 (by decide)

set_option maxHeartbeats 1000000 in
set_option maxRecDepth 100000 in
theorem kX8_nextF {σ : q_M} (hf : 0 < (σ 72 15).toInt) : q_Ct YX8_next [.ref 72] q_SH σ (q_is none q_SH (σ)) := by
  refine q_ct (n := 1) (by decide) (by decide) rfl (fun _ => Nat.le_of_ble_eq_true rfl) (fun E => ?_)
  refine q_aload_n dX8_next_0 rfl ?_
  refine q_get fX8_76 dX8_next_1 (by first | rfl | assumption) (by rfl) ?_
  refine q_zle 8 dX8_next_4 (by decide) (fun h4 => ?_) (fun h4 => ?_)
  · exact absurd h4 (by omega)
  · refine q_vret dX8_next_7 ?_ rfl rfl
    exact ⟨rfl, rfl, rfl⟩
