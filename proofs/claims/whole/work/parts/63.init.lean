/-! constructors -/
def iv_0 : Nat → Int32 := fun _ => 0
def iv_A (n : Nat) (σ τ : q_M) : Prop := ∀ b, b < n → τ b = σ b
theorem q_put_at (σ : q_M) (a : Nat) (f : Nat → Int32) : q_put σ a f a = f := if_pos rfl
theorem q_put_ne {σ : q_M} {a b : Nat} {f : Nat → Int32} (h : b ≠ a) : q_put σ a f b = σ b := if_neg h
theorem iv_at {P l : List q_S} {a k : Nat} {x : q_S} (hP : P.length = a) (h : l[k]? = some x) : (P ++ l)[a + k]? = some x := by
  rw [List.getElem?_append_right (by omega), hP, Nat.add_sub_cancel_left]
  exact h
theorem iv_at0 {P l : List q_S} {a : Nat} {x : q_S} (hP : P.length = a) (h : l[0]? = some x) : (P ++ l)[a]? = some x := iv_at (k := 0) hP h
theorem iv_set {P l : List q_S} {a k : Nat} {x : q_S} (hP : P.length = a) : (P ++ l).set (a + k) x = P ++ l.set k x := by
  rw [List.set_append_right _ _ (by omega), hP, Nat.add_sub_cancel_left]
theorem iv_set0 {P l : List q_S} {a : Nat} {x : q_S} (hP : P.length = a) : (P ++ l).set a x = P ++ l.set 0 x := iv_set (k := 0) hP
theorem iv_len {P l : List q_S} {a : Nat} (hP : P.length = a) : (P ++ l).length = a + l.length := by rw [List.length_append, hP]
section QNB
variable {Y : q_Y} {E : q_E} {u v pc : Nat} {ls : List (Option Value)} {st : List Value} {sh : List q_S} {σ : q_M} {Q : q_P}
theorem q_shr {sh' : List q_S} (h : sh = sh') (k : q_G Y E u v pc ls st sh' σ Q) : q_G Y E u v pc ls st sh σ Q := h ▸ k
theorem q_newb {b : Nat} {sh1 : List q_S} {idx ci N : Nat} {ks : List (Option (Option Nat))} (hb : sh.length = b) (h1 : sh ++ [.inr (ci, ks)] = sh1) (hf : q_nf (q_y Y).cls idx ci N ks) (hd : decode (q_cc Y) pc = .ok (.new idx, 3)) (hr : u + 1 ≤ (q_rm Y).cells ∧ v + N ≤ (q_rm Y).slots ∧ b + 1 ≤ 1000000) (kk : q_G Y E (u + 1) (v + N) (pc + 3) ls (.ref b :: st) sh1 (q_put σ b iv_0) Q) : q_G Y E u v pc ls st sh σ Q := by
  subst hb h1
  exact q_new hf hd hr kk
theorem q_newab {b : Nat} {sh1 : List q_S} {at0 : ArrayType} {n : Int32} {N t : Nat} (hb : sh.length = b) (h1 : sh ++ [.inl (t, N, none)] = sh1) (ht : t < 3) (hty : newarray.typeOf at0 = [FieldType.int, .byte, .boolean].getD t .int) (hw : Cond.arrayClass (newarray.typeOf at0) ∈ q_T) (hd : decode (q_cc Y) pc = .ok (.newarray at0, 2)) (hn : ¬ n < 0 ∧ n.toNatClampNeg = N ∧ N ≤ 100000) (hr : u + 1 ≤ (q_rm Y).cells ∧ v + N ≤ (q_rm Y).slots ∧ b + 1 ≤ 1000000) (kk : q_G Y E (u + 1) (v + N) (pc + 2) ls (.ref b :: st) sh1 (q_put σ b iv_0) Q) : q_G Y E u v pc ls (.int n :: st) sh σ Q := by
  subst hb h1
  exact q_newa ht hty hw hd hn hr kk
theorem q_newqb {b : Nat} {sh1 : List q_S} {idx : Nat} {n : Int32} {N t : Nat} (hb : sh.length = b) (h1 : sh ++ [.inl (t, N, some (fun _ => none))] = sh1) (ht : 3 ≤ t ∧ t < 6) (hw : Cond.classLink (q_y Y).cls idx (q_oc t) ∈ q_T) (hd : decode (q_cc Y) pc = .ok (.anewarray idx, 3)) (hn : ¬ n < 0 ∧ n.toNatClampNeg = N ∧ N ≤ 100000) (hr : u + 1 ≤ (q_rm Y).cells ∧ v + N ≤ (q_rm Y).slots ∧ b + 1 ≤ 1000000) (kk : q_G Y E (u + 1) (v + N) (pc + 3) ls (.ref b :: st) sh1 (q_put σ b iv_0) Q) : q_G Y E u v pc ls (.int n :: st) sh σ Q := by
  subst hb h1
  exact q_newq ht hw hd hn hr kk
theorem q_putFb {sh1 : List q_S} {idx ci k a b : Nat} {ty : FieldType} {ks : List (Option (Option Nat))} {x : Option Nat} (hf : q_fd (q_y Y).cls idx ci k ty true) (hini : (q_y Y).name = "<init>") (hty : ∀ z : Nat, narrow ty (.ref z) = .ref z ∧ fits ty (.ref z) = true) (hd : decode (q_cc Y) pc = .ok (.putfield idx, 3)) (hs : sh[a]? = some (.inr (ci, ks))) (hk : ks[k]? = some (some x)) (h1 : sh.set a (.inr (ci, ks.set k (some (some b)))) = sh1) (kk : q_G Y E u v (pc + 3) ls st sh1 σ Q) : q_G Y E u v pc ls (.ref b :: .ref a :: st) sh σ Q := by
  subst h1
  exact q_putF hf hini hty hd hs hk kk
theorem q_aastb {sh1 : List q_S} {a n t b ci : Nat} {g : Nat → Option Nat} {ks : List (Option (Option Nat))} {i : Int32} (ht : 3 ≤ t ∧ t < 6) (hs : sh[a]? = some (.inl (t, n, some g))) (hb : sh[b]? = some (.inr (ci, ks))) (hc : q_cls[ci]?.map (fun x => x.1) = some (q_oc t)) (hin : vp_in i n) (hd : decode (q_cc Y) pc = .ok (.aastore, 1)) (h1 : sh.set a (.inl (t, n, some (va_up g i.toNatClampNeg (some b)))) = sh1) (kk : q_G Y E u v (pc + 1) ls st sh1 σ Q) : q_G Y E u v pc ls (.ref b :: .int i :: .ref a :: st) sh σ Q := by
  subst h1
  exact q_aast ht hs hb hc hin hd kk
theorem q_rIv {Y2 : q_Y} {idx n b : Nat} {nest : Bool} {av rest : List Value} {sh1 : List q_S} {P : q_M → Prop} (hk : q_lk (q_y Y).cls Y2 idx n nest) (hst2 : Cond.instanceMethod (q_y Y2) ∈ q_T) (hini : (q_y Y2).name = "<init>" ∧ q_rt Y2 = none) (hd : decode (q_cc Y) pc = .ok (.invokespecial idx, 3)) (hc : q_Ct Y2 (.ref b :: av) sh σ (q_rv sh1 P)) (hst : av.reverse ++ .ref b :: rest = st) (hn : av.length = n) (hsm : (rest.map fun w => w.category).sum ≤ 8) (hR : q_rr Y Y2 u v)
    (kk : ∀ σ1, P σ1 → q_G Y E (u + (q_rm Y2).cells) (v + (q_rm Y2).slots) (pc + 3) ls rest sh1 σ1 Q) : q_G Y E u v pc ls st sh σ Q :=
  q_callI hk hst2 hini hd hc hst hn hsm hR (fun r a b h => by obtain ⟨rfl, rfl, h⟩ := h; exact kk b h)
end QNB
/-- a row of references that is filled up to k -/
def iv_r (b s k : Nat) : Nat → Option Nat := fun j => if j < k then some (b + s * j) else none
theorem iv_r_0 (b s : Nat) : (fun _ => none) = iv_r b s 0 := by
  funext j
  exact (if_neg (by omega)).symm
theorem iv_r_s (b s k : Nat) : va_up (iv_r b s k) k (some (b + s * k)) = iv_r b s (k + 1) := by
  funext j
  unfold va_up iv_r
  by_cases h : j = k
  · rw [if_pos h, if_pos (by omega), h]
  · rw [if_neg h]
    by_cases h2 : j < k
    · rw [if_pos h2, if_pos (by omega)]
    · rw [if_neg h2, if_neg (by omega)]
theorem iv_r_6 (b : Nat) : iv_r b 1 6 = q_ra b 6 := by
  funext j
  unfold iv_r q_ra
  rw [Nat.one_mul]
/-! the cells of each object, from its own address on -/
def iv_sn (a : Nat) : List q_S := [.inr (4, [some (some (a + 1)), some (some (a + 2)), some (some (a + 3)), none]), .inl (0, 12, none), .inl (0, 12, none), .inl (2, 12, none)]
def iv_wa (a : Nat) : List q_S := [.inr (6, [some (some (a + 1)), some (some (a + 2))]), .inl (0, 7, none), .inl (0, 24, none)]
def iv_st (a : Nat) : List q_S := [.inr (5, [some (some (a + 1)), none, none]), .inl (0, 40, none)]
def iv_hd (a : Nat) : List q_S := [.inr (1, [some (some (a + 1)), some (some (a + 2)), none, none, none, none]), q_sD, .inl (0, 51, none)]
def iv_sc (a : Nat) : List q_S := [.inr (3, [some (some (a + 1)), some (some (a + 2)), none, none, none, none, none, none]), .inl (3, 6, some (q_ra (a + 6) 6))] ++ iv_sn (a + 2) ++ [q_sD, q_sD, q_sD, q_sD, q_sD, q_sD]
def iv_rd (a : Nat) : List q_S := [.inr (2, [some (some (a + 1)), some (some (a + 2)), some (some (a + 5)), some (some (a + 6)), none, none, none, none, none, none, none, none, none]), .inl (1, 320, none)] ++ iv_wa (a + 2) ++ [.inl (3, 6, some (q_ra (a + 7) 6)), .inl (2, 7, none), q_sD, q_sD, q_sD, q_sD, q_sD, q_sD]

set_option maxHeartbeats 4000000 in
set_option maxRecDepth 100000 in
theorem kX4_init {P : List q_S} {a : Nat} (hP : P.length = a) (ha : a ≤ 1000) {σ : q_M} : q_Ct YX4_init [.ref a] (P ++ [.inr (4, [some none, some none, some none, none])]) σ (q_rv (P ++ iv_sn a) (fun τ => iv_A (a + 1) σ τ ∧ τ (a + 1) = iv_0 ∧ τ (a + 2) = iv_0 ∧ τ (a + 3) = iv_0)) := by
  refine q_ct (n := 0) (by decide) (by decide) rfl (fun _ => Nat.le_of_ble_eq_true rfl) (fun E => ?_)
  refine q_aload_n dX4_init_0 rfl ?_
  refine q_objInit oX4_3 q_oi2 q_oi3 dX4_init_1 ⟨by decide, by decide⟩ ?_
  refine q_aload_n dX4_init_4 rfl ?_
  refine q_bipush (x := 12) dX4_init_5 (by decide) ?_
  refine q_newab (b := (a + 1)) (sh1 := (P ++ [.inr (4, [some none, some none, some none, none]), .inl (0, 12, none)])) (at0 := .int) (t := 0) (N := 12) (iv_len hP) (List.append_assoc P _ _) (by decide) rfl q_ac_int dX4_init_7 ⟨by decide, by decide, by decide⟩ ⟨by decide, by decide, by omega⟩ ?_
  refine q_putFb (sh1 := (P ++ [.inr (4, [some (some (a + 1)), some none, some none, none]), .inl (0, 12, none)])) pX4_9 rfl (fun _ => ⟨rfl, rfl⟩) dX4_init_9 (iv_at0 hP rfl) (by rfl) (iv_set0 hP) ?_
  refine q_aload_n dX4_init_12 rfl ?_
  refine q_bipush (x := 12) dX4_init_13 (by decide) ?_
  refine q_newab (b := (a + 2)) (sh1 := (P ++ [.inr (4, [some (some (a + 1)), some none, some none, none]), .inl (0, 12, none), .inl (0, 12, none)])) (at0 := .int) (t := 0) (N := 12) (iv_len hP) (List.append_assoc P _ _) (by decide) rfl q_ac_int dX4_init_15 ⟨by decide, by decide, by decide⟩ ⟨by decide, by decide, by omega⟩ ?_
  refine q_putFb (sh1 := (P ++ [.inr (4, [some (some (a + 1)), some (some (a + 2)), some none, none]), .inl (0, 12, none), .inl (0, 12, none)])) pX4_15 rfl (fun _ => ⟨rfl, rfl⟩) dX4_init_17 (iv_at0 hP rfl) (by rfl) (iv_set0 hP) ?_
  refine q_aload_n dX4_init_20 rfl ?_
  refine q_bipush (x := 12) dX4_init_21 (by decide) ?_
  refine q_newab (b := (a + 3)) (sh1 := (P ++ [.inr (4, [some (some (a + 1)), some (some (a + 2)), some none, none]), .inl (0, 12, none), .inl (0, 12, none), .inl (2, 12, none)])) (at0 := .boolean) (t := 2) (N := 12) (iv_len hP) (List.append_assoc P _ _) (by decide) rfl q_ac_boolean dX4_init_23 ⟨by decide, by decide, by decide⟩ ⟨by decide, by decide, by omega⟩ ?_
  refine q_putFb (sh1 := (P ++ [.inr (4, [some (some (a + 1)), some (some (a + 2)), some (some (a + 3)), none]), .inl (0, 12, none), .inl (0, 12, none), .inl (2, 12, none)])) pX4_18 rfl (fun _ => ⟨rfl, rfl⟩) dX4_init_25 (iv_at0 hP rfl) (by rfl) (iv_set0 hP) ?_
  refine q_vret dX4_init_28 ?_ rfl rfl
  refine ⟨rfl, rfl, fun b hb => ?_, ?_, ?_, ?_⟩
  · rw [q_put_ne (by omega), q_put_ne (by omega), q_put_ne (by omega)]
  · rw [q_put_ne (by omega), q_put_ne (by omega), q_put_at]
  · rw [q_put_ne (by omega), q_put_at]
  · rw [q_put_at]

set_option maxHeartbeats 4000000 in
set_option maxRecDepth 100000 in
theorem kX5_init {P : List q_S} {a : Nat} (hP : P.length = a) (ha : a ≤ 1000) {σ : q_M} : q_Ct YX5_init [.ref a] (P ++ [.inr (5, [some none, none, none])]) σ (q_rv (P ++ iv_st a) (fun τ => iv_A a σ τ ∧ τ a = upd (σ a) 1 (-4) ∧ τ (a + 1) = iv_0)) := by
  refine q_ct (n := 0) (by decide) (by decide) rfl (fun _ => Nat.le_of_ble_eq_true rfl) (fun E => ?_)
  refine q_aload_n dX5_init_0 rfl ?_
  refine q_objInit oX5_3 q_oi2 q_oi3 dX5_init_1 ⟨by decide, by decide⟩ ?_
  refine q_aload_n dX5_init_4 rfl ?_
  refine q_bipush (x := 40) dX5_init_5 (by decide) ?_
  refine q_newab (b := (a + 1)) (sh1 := (P ++ [.inr (5, [some none, none, none]), .inl (0, 40, none)])) (at0 := .int) (t := 0) (N := 40) (iv_len hP) (List.append_assoc P _ _) (by decide) rfl q_ac_int dX5_init_7 ⟨by decide, by decide, by decide⟩ ⟨by decide, by decide, by omega⟩ ?_
  refine q_putFb (sh1 := (P ++ [.inr (5, [some (some (a + 1)), none, none]), .inl (0, 40, none)])) pX5_9 rfl (fun _ => ⟨rfl, rfl⟩) dX5_init_9 (iv_at0 hP rfl) (by rfl) (iv_set0 hP) ?_
  refine q_aload_n dX5_init_12 rfl ?_
  refine q_bipush (x := (-4)) dX5_init_13 (by decide) ?_
  refine q_put_i pX5_15 dX5_init_15 (iv_at0 hP rfl) (by rfl) rfl rfl ?_
  refine q_vret dX5_init_18 ?_ rfl rfl
  refine ⟨rfl, rfl, fun b hb => ?_, ?_, ?_⟩
  · rw [q_up_ne (by omega), q_put_ne (by omega)]
  · rw [q_up_same, q_put_ne (by omega)]
  · rw [q_up_ne (by omega), q_put_at]

def iv_4 : Nat → Int32 := fun j => if j < 7 then q_tab 3 j else 0
def iv_5 : Nat → Int32 := fun j => if j < 24 then 293 else 0

set_option maxHeartbeats 4000000 in
set_option maxRecDepth 100000 in
theorem kX6_init {P : List q_S} {a : Nat} (hP : P.length = a) (ha : a ≤ 1000) {σ : q_M} : q_Ct YX6_init [.ref a] (P ++ [.inr (6, [some none, some none])]) σ (q_rv (P ++ iv_wa a) (fun τ => iv_A (a + 1) σ τ ∧ τ (a + 1) = iv_4 ∧ τ (a + 2) = iv_5)) := by
  refine q_ct (n := 0) (by decide) (by decide) rfl (fun _ => Nat.le_of_ble_eq_true rfl) (fun E => ?_)
  refine q_aload_n dX6_init_0 rfl ?_
  refine q_objInit oX6_3 q_oi2 q_oi3 dX6_init_1 ⟨by decide, by decide⟩ ?_
  refine q_aload_n dX6_init_4 rfl ?_
  refine q_bipush (x := 7) dX6_init_5 (by decide) ?_
  refine q_newab (b := (a + 1)) (sh1 := (P ++ [.inr (6, [some none, some none]), .inl (0, 7, none)])) (at0 := .int) (t := 0) (N := 7) (iv_len hP) (List.append_assoc P _ _) (by decide) rfl q_ac_int dX6_init_7 ⟨by decide, by decide, by decide⟩ ⟨by decide, by decide, by omega⟩ ?_
  refine q_putFb (sh1 := (P ++ [.inr (6, [some (some (a + 1)), some none]), .inl (0, 7, none)])) pX6_9 rfl (fun _ => ⟨rfl, rfl⟩) dX6_init_9 (iv_at0 hP rfl) (by rfl) (iv_set0 hP) ?_
  refine q_aload_n dX6_init_12 rfl ?_
  refine q_bipush (x := 24) dX6_init_13 (by decide) ?_
  refine q_newab (b := (a + 2)) (sh1 := (P ++ [.inr (6, [some (some (a + 1)), some none]), .inl (0, 7, none), .inl (0, 24, none)])) (at0 := .int) (t := 0) (N := 24) (iv_len hP) (List.append_assoc P _ _) (by decide) rfl q_ac_int dX6_init_15 ⟨by decide, by decide, by decide⟩ ⟨by decide, by decide, by omega⟩ ?_
  refine q_putFb (sh1 := (P ++ [.inr (6, [some (some (a + 1)), some (some (a + 2))]), .inl (0, 7, none), .inl (0, 24, none)])) pX6_15 rfl (fun _ => ⟨rfl, rfl⟩) dX6_init_17 (iv_at0 hP rfl) (by rfl) (iv_set0 hP) ?_
  refine q_aload_n dX6_init_20 rfl ?_
  refine q_cVv lX6_18 vX6_begin (ci := 6) rfl dX6_init_21 (kX6_begin (iv_at0 hP rfl) (iv_at (k := 1) hP rfl) (iv_at (k := 2) hP rfl)) (iv_at0 hP rfl) rfl rfl (Nat.le_of_ble_eq_true rfl) (by decide) ?_
  refine q_aload_n dX6_init_24 rfl ?_
  refine q_cVv lX6_21 vX6_fillWarmths (ci := 6) rfl dX6_init_25 (kX6_fillWarmths (iv_at0 hP rfl) (iv_at (k := 1) hP rfl) (iv_at (k := 2) hP rfl) (by omega)) (iv_at0 hP rfl) rfl rfl (Nat.le_of_ble_eq_true rfl) (by decide) ?_
  refine q_vret dX6_init_28 ?_ rfl rfl
  refine ⟨rfl, rfl, fun b hb => ?_, ?_, ?_⟩
  · rw [q_fill_ne (by omega), q_fill_ne (by omega), q_fill_ne (by omega), q_put_ne (by omega), q_put_ne (by omega)]
  · rw [q_fill_ne (by omega), q_fill_ne (by omega)]
    funext j
    unfold iv_4
    by_cases hj : j < 7
    · rw [q_fill_lo hj, if_pos hj]
    · rw [q_fill_hi (by omega), if_neg hj, q_put_ne (by omega), q_put_at]; rfl
  · funext j
    unfold iv_5
    by_cases hj : j < 24
    · rw [q_fill_lo hj, if_pos hj, q_fill_lo hj, if_pos rfl, q_fill_ne (by omega), q_fill_lo (by decide)]; rfl
    · rw [q_fill_hi (by omega), q_fill_hi (by omega), if_neg hj, q_fill_ne (by omega), q_put_at]; rfl

set_option maxHeartbeats 4000000 in
set_option maxRecDepth 100000 in
theorem kX1_init {P : List q_S} {a : Nat} (hP : P.length = a) (ha : a ≤ 1000) {σ : q_M} : q_Ct YX1_init [.ref a] (P ++ [.inr (1, [some none, some none, none, none, none, none])]) σ (q_rv (P ++ iv_hd a) (fun τ => iv_A (a + 1) σ τ ∧ τ (a + 1) = iv_0 ∧ τ (a + 2) = iv_0)) := by
  refine q_ct (n := 0) (by decide) (by decide) rfl (fun _ => Nat.le_of_ble_eq_true rfl) (fun E => ?_)
  refine q_aload_n dX1_init_0 rfl ?_
  refine q_objInit oX1_3 q_oi2 q_oi3 dX1_init_1 ⟨by decide, by decide⟩ ?_
  refine q_aload_n dX1_init_4 rfl ?_
  refine q_newb (b := (a + 1)) (sh1 := (P ++ [.inr (1, [some none, some none, none, none, none, none]), q_sD])) (iv_len hP) (List.append_assoc P _ _) nX1_9 dX1_init_5 ⟨by decide, by decide, by omega⟩ ?_
  refine q_dup rfl dX1_init_8 ?_
  refine q_cIv lX1_11 iX0_init ⟨rfl, rfl⟩ dX1_init_9 kX0_init rfl rfl (Nat.le_of_ble_eq_true rfl) (by decide) ?_
  refine q_putFb (sh1 := (P ++ [.inr (1, [some (some (a + 1)), some none, none, none, none, none]), q_sD])) pX1_12 rfl (fun _ => ⟨rfl, rfl⟩) dX1_init_12 (iv_at0 hP rfl) (by rfl) (iv_set0 hP) ?_
  refine q_aload_n dX1_init_15 rfl ?_
  refine q_bipush (x := 51) dX1_init_16 (by decide) ?_
  refine q_newab (b := (a + 2)) (sh1 := (P ++ [.inr (1, [some (some (a + 1)), some none, none, none, none, none]), q_sD, .inl (0, 51, none)])) (at0 := .int) (t := 0) (N := 51) (iv_len hP) (List.append_assoc P _ _) (by decide) rfl q_ac_int dX1_init_18 ⟨by decide, by decide, by decide⟩ ⟨by decide, by decide, by omega⟩ ?_
  refine q_putFb (sh1 := (P ++ [.inr (1, [some (some (a + 1)), some (some (a + 2)), none, none, none, none]), q_sD, .inl (0, 51, none)])) pX1_18 rfl (fun _ => ⟨rfl, rfl⟩) dX1_init_20 (iv_at0 hP rfl) (by rfl) (iv_set0 hP) ?_
  refine q_vret dX1_init_23 ?_ rfl rfl
  refine ⟨rfl, rfl, fun b hb => ?_, ?_, ?_⟩
  · rw [q_put_ne (by omega), q_put_ne (by omega)]
  · rw [q_put_ne (by omega), q_put_at]
  · rw [q_put_at]
