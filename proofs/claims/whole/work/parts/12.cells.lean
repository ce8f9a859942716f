/-! fields, rows, constants -/
def q_fd (own : String) (idx ci k : Nat) (ty : FieldType) (fin : Bool) : Prop :=
  ∃ (C : String) (T : u_T) (N : Nat) (ty0 : Nat → FieldType), q_cls[ci]? = some (C, T, N) ∧ (∀ w ∈ u_ws C T N, w ∈ q_T) ∧ (∀ k, k < N → parseFieldDescriptor (T k).2.2.1 = some (ty0 k)) ∧ (∀ a, a < N → ∀ b, b < N → a ≠ b → (T a).2.1 ≠ (T b).2.1) ∧ k < N ∧ parseFieldDescriptor (T k).2.2.1 = some ty ∧ (T k).2.2.2 = fin ∧ (fin = true → (T k).1 = own) ∧ Cond.fieldLink own idx (T k).1 (T k).2.1 (T k).2.2.1 ∈ q_T
def q_fg (own : String) (idx ci k : Nat) : Prop :=
  ∃ (C : String) (T : u_T) (N : Nat), q_cls[ci]? = some (C, T, N) ∧ (∀ w ∈ u_ws C T N, w ∈ q_T) ∧ k < N ∧ Cond.fieldLink own idx (T k).1 (T k).2.1 (T k).2.2.1 ∈ q_T
section QF
variable {Y : q_Y} {E : q_E} {u v pc : Nat} {ls : List (Option Value)} {st : List Value} {sh : List q_S} {σ : q_M} {Q : q_P}
theorem q_lt {a : Nat} {x : q_S} {A : Nat → Prop} {s : State} {H : Heap} {locs : List Loc} (hW : q_Wd Y E u v sh σ A s H locs) (h : sh[a]? = some x) : q_a E a = q_h0 E + a := q_a_lo (Nat.lt_of_lt_of_le (List.getElem?_eq_some_iff.mp h).1 hW.2.2.2.2.1)
theorem q_get {idx ci k a : Nat} {ks : List (Option (Option Nat))} (hf : q_fg (q_y Y).cls idx ci k) (hd : decode (q_cc Y) pc = .ok (.getfield idx, 3)) (hs : sh[a]? = some (.inr (ci, ks))) (hk : ks[k]? = some none) (kk : q_G Y E u v (pc + 3) ls (.int (σ a k) :: st) sh σ Q) : q_G Y E u v pc ls (.ref a :: st) sh σ Q := by
  intro p l e s m args below meth c A Z H locs lsA hC hF hW hl
  obtain ⟨C, T, N, h1, h2, h5, h9⟩ := hf
  show W p l e (q_rm Y) s m args below meth c H locs u v Z (F0 m pc lsA (.ref (q_a E a) :: st.map (q_v E)))
  rw [q_lt hW hs]
  refine va_get (D := q_D E) (cl := q_cls) (tys := q_tys E) (C := C) (T := T) (N := N) hC.1 hC.2.1 hC.2.2.2.2.1 (fun w hw => List.mem_cons_of_mem _ (h2 w hw)) hC.2.2.2.1 hC.2.2.2.2.2.1 hW.1 a (q_w_at hs) h1 k h5 (hC.2.2.2.2.1 _ (List.mem_cons_of_mem _ h9)) (fun _ h => h) (v := .int (σ a k)) ?_ hd (kk p l e s m args below meth c A Z H locs lsA hC hF hW hl)
  have := q_fl_int (E := E) (f := σ a) ks 0 k hk
  rwa [Nat.zero_add] at this
theorem q_getr {idx ci k a b : Nat} {ks : List (Option (Option Nat))} (hf : q_fg (q_y Y).cls idx ci k) (hd : decode (q_cc Y) pc = .ok (.getfield idx, 3)) (hs : sh[a]? = some (.inr (ci, ks))) (hk : ks[k]? = some (some (some b))) (kk : q_G Y E u v (pc + 3) ls (.ref b :: st) sh σ Q) : q_G Y E u v pc ls (.ref a :: st) sh σ Q := by
  intro p l e s m args below meth c A Z H locs lsA hC hF hW hl
  obtain ⟨C, T, N, h1, h2, h5, h9⟩ := hf
  show W p l e (q_rm Y) s m args below meth c H locs u v Z (F0 m pc lsA (.ref (q_a E a) :: st.map (q_v E)))
  rw [q_lt hW hs]
  exact va_get (D := q_D E) (cl := q_cls) (tys := q_tys E) (C := C) (T := T) (N := N) hC.1 hC.2.1 hC.2.2.2.2.1 (fun w hw => List.mem_cons_of_mem _ (h2 w hw)) hC.2.2.2.1 hC.2.2.2.2.2.1 hW.1 a (q_w_at hs) h1 k h5 (hC.2.2.2.2.1 _ (List.mem_cons_of_mem _ h9)) (fun _ h => h) (v := .ref (q_a E b)) (q_fl_ref (E := E) (f := σ a) ks 0 k hk) hd (kk p l e s m args below meth c A Z H locs lsA hC hF hW hl)
theorem q_put_i {idx ci k a : Nat} {ty : FieldType} {x : Int32} {ks : List (Option (Option Nat))} (hf : q_fd (q_y Y).cls idx ci k ty false) (hd : decode (q_cc Y) pc = .ok (.putfield idx, 3)) (hs : sh[a]? = some (.inr (ci, ks))) (hk : ks[k]? = some none) (hn : narrow ty (.int x) = .int x) (hfit : fits ty (.int x) = true) (kk : q_G Y E u v (pc + 3) ls st sh (q_up σ a k x) Q) : q_G Y E u v pc ls (.int x :: .ref a :: st) sh σ Q := by
  intro p l e s m args below meth c A Z H locs lsA hC hF hW hl
  obtain ⟨C, T, N, ty0, h1, h2, h3, h4, h5, h6, h7, h8, h9⟩ := hf
  show W p l e (q_rm Y) s m args below meth c H locs u v Z (F0 m pc lsA (.int x :: .ref (q_a E a) :: st.map (q_v E)))
  rw [q_lt hW hs]
  refine va_put (D := q_D E) (cl := q_cls) (tys := q_tys E) (C := C) (T := T) (N := N) hC.1 hC.2.1 hC.2.2.2.2.1 (fun w hw => List.mem_cons_of_mem _ (h2 w hw)) ty0 h3 h4 hC.2.2.2.1 hC.2.2.2.2.2.1 hW.1 hW.2.1 hW.2.2.1 a (q_w_at hs) h1 k h5 (hC.2.2.2.2.1 _ (List.mem_cons_of_mem _ h9)) (fun _ h => h) h7 h6 hn hfit ?_ hd (fun H1 locs1 hP hD hS => ?_)
  · rw [q_fl_len]
    exact (List.getElem?_eq_some_iff.mp hk).1
  · have e0 : (q_w E sh σ).set a (q_h0 E + a, .inr (ci, (q_fl E (σ a) 0 ks).set k (.int x))) = q_w E sh (q_up σ a k x) := q_w_set (k := k) (v := x) hs (by
      show Sum.inr _ = Sum.inr _
      have := q_fl_upd (E := E) (f := σ a) (v := x) ks 0 k hk
      rw [Nat.zero_add] at this
      rw [this])
    exact kk p l e s m args below meth c A Z H1 locs1 lsA hC hF ⟨e0 ▸ hP, e0 ▸ hD, hS, hW.2.2.2⟩ hl
theorem q_tys_at {E : q_E} {t : Nat} (i : Nat) (h : t = i) (hi : i < 6) : (q_tys E)[t]? = some (q_cT E t, [FieldType.int, .byte, .boolean, .object "DiverBottle$Diver", .object "DiverBottle$Scene", .object "DiverBottle$Sheet"].getD i .int) := by
  subst h
  rcases (show t = 0 ∨ t = 1 ∨ t = 2 ∨ t = 3 ∨ t = 4 ∨ t = 5 by omega) with rfl | rfl | rfl | rfl | rfl | rfl <;> rfl
theorem q_iald {a n : Nat} {i : Int32} (hs : sh[a]? = some (.inl (0, n, none))) (hin : vp_in i n) (hd : decode (q_cc Y) pc = .ok (.iaload, 1)) (kk : q_G Y E u v (pc + 1) ls (.int (σ a i.toNatClampNeg) :: st) sh σ Q) : q_G Y E u v pc ls (.int i :: .ref a :: st) sh σ Q := by
  intro p l e s m args below meth c A Z H locs lsA hC hF hW hl
  show W p l e (q_rm Y) s m args below meth c H locs u v Z (F0 m pc lsA (.int i :: .ref (q_a E a) :: st.map (q_v E)))
  rw [q_lt hW hs]
  exact va_iald hC.1 hC.2.1 hC.2.2.2.2.2.1 hW.1 a 0 (q_w_at hs) rfl hin hd (kk p l e s m args below meth c A Z H locs lsA hC hF hW hl)
theorem q_bald {a n : Nat} {i : Int32} (hs : sh[a]? = some (.inl (1, n, none))) (hin : vp_in i n) (hd : decode (q_cc Y) pc = .ok (.baload, 1)) (kk : q_G Y E u v (pc + 1) ls (.int (σ a i.toNatClampNeg) :: st) sh σ Q) : q_G Y E u v pc ls (.int i :: .ref a :: st) sh σ Q := by
  intro p l e s m args below meth c A Z H locs lsA hC hF hW hl
  show W p l e (q_rm Y) s m args below meth c H locs u v Z (F0 m pc lsA (.int i :: .ref (q_a E a) :: st.map (q_v E)))
  rw [q_lt hW hs]
  exact va_bald hC.1 hC.2.1 hC.2.2.2.2.2.1 hW.1 a 1 (q_w_at hs) rfl hin hd (kk p l e s m args below meth c A Z H locs lsA hC hF hW hl)
theorem q_zald {a n : Nat} {i : Int32} (hs : sh[a]? = some (.inl (2, n, none))) (hin : vp_in i n) (hd : decode (q_cc Y) pc = .ok (.baload, 1)) (kk : q_G Y E u v (pc + 1) ls (.int (σ a i.toNatClampNeg) :: st) sh σ Q) : q_G Y E u v pc ls (.int i :: .ref a :: st) sh σ Q := by
  intro p l e s m args below meth c A Z H locs lsA hC hF hW hl
  show W p l e (q_rm Y) s m args below meth c H locs u v Z (F0 m pc lsA (.int i :: .ref (q_a E a) :: st.map (q_v E)))
  rw [q_lt hW hs]
  exact va_zald hC.1 hC.2.1 hC.2.2.2.2.2.1 hW.1 a 2 (q_w_at hs) rfl hin hd (kk p l e s m args below meth c A Z H locs lsA hC hF hW hl)
theorem q_iast {a n : Nat} {i x : Int32} (hs : sh[a]? = some (.inl (0, n, none))) (hin : vp_in i n) (hd : decode (q_cc Y) pc = .ok (.iastore, 1)) (kk : q_G Y E u v (pc + 1) ls st sh (q_up σ a i.toNatClampNeg x) Q) : q_G Y E u v pc ls (.int x :: .int i :: .ref a :: st) sh σ Q := by
  intro p l e s m args below meth c A Z H locs lsA hC hF hW hl
  show W p l e (q_rm Y) s m args below meth c H locs u v Z (F0 m pc lsA (.int x :: .int i :: .ref (q_a E a) :: st.map (q_v E)))
  rw [q_lt hW hs]
  refine va_iast hC.1 hC.2.1 hC.2.2.2.2.2.1 hW.1 hW.2.1 hW.2.2.1 a 0 (q_w_at hs) rfl hin hd (fun H1 locs1 hP hD hS => ?_)
  have e0 : (q_w E sh σ).set a (q_h0 E + a, .inl (q_cT E 0, n, .inl (upd (σ a) i.toNatClampNeg x))) = q_w E sh (q_up σ a i.toNatClampNeg x) := q_w_set hs rfl
  exact kk p l _ s m args below meth c A Z H1 locs1 lsA hC hF ⟨e0 ▸ hP, e0 ▸ hD, hS, hW.2.2.2⟩ hl
theorem q_bast {a n : Nat} {i x : Int32} (hs : sh[a]? = some (.inl (1, n, none))) (hin : vp_in i n) (hd : decode (q_cc Y) pc = .ok (.bastore, 1)) (kk : q_G Y E u v (pc + 1) ls st sh (q_up σ a i.toNatClampNeg (vp_nar .byte x)) Q) : q_G Y E u v pc ls (.int x :: .int i :: .ref a :: st) sh σ Q := by
  intro p l e s m args below meth c A Z H locs lsA hC hF hW hl
  show W p l e (q_rm Y) s m args below meth c H locs u v Z (F0 m pc lsA (.int x :: .int i :: .ref (q_a E a) :: st.map (q_v E)))
  rw [q_lt hW hs]
  refine va_bast hC.1 hC.2.1 hC.2.2.2.2.2.1 hW.1 hW.2.1 hW.2.2.1 a 1 (q_w_at hs) rfl hin hd (fun H1 locs1 hP hD hS => ?_)
  have e0 : (q_w E sh σ).set a (q_h0 E + a, .inl (q_cT E 1, n, .inl (upd (σ a) i.toNatClampNeg (vp_nar .byte x)))) = q_w E sh (q_up σ a i.toNatClampNeg (vp_nar .byte x)) := q_w_set hs rfl
  exact kk p l _ s m args below meth c A Z H1 locs1 lsA hC hF ⟨e0 ▸ hP, e0 ▸ hD, hS, hW.2.2.2⟩ hl
theorem q_zast {a n : Nat} {i x : Int32} (hs : sh[a]? = some (.inl (2, n, none))) (hin : vp_in i n) (hd : decode (q_cc Y) pc = .ok (.bastore, 1)) (kk : q_G Y E u v (pc + 1) ls st sh (q_up σ a i.toNatClampNeg (vp_nar .boolean x)) Q) : q_G Y E u v pc ls (.int x :: .int i :: .ref a :: st) sh σ Q := by
  intro p l e s m args below meth c A Z H locs lsA hC hF hW hl
  show W p l e (q_rm Y) s m args below meth c H locs u v Z (F0 m pc lsA (.int x :: .int i :: .ref (q_a E a) :: st.map (q_v E)))
  rw [q_lt hW hs]
  refine va_zast hC.1 hC.2.1 hC.2.2.2.2.2.1 hW.1 hW.2.1 hW.2.2.1 a 2 (q_w_at hs) rfl hin hd (fun H1 locs1 hP hD hS => ?_)
  have e0 : (q_w E sh σ).set a (q_h0 E + a, .inl (q_cT E 2, n, .inl (upd (σ a) i.toNatClampNeg (vp_nar .boolean x)))) = q_w E sh (q_up σ a i.toNatClampNeg (vp_nar .boolean x)) := q_w_set hs rfl
  exact kk p l _ s m args below meth c A Z H1 locs1 lsA hC hF ⟨e0 ▸ hP, e0 ▸ hD, hS, hW.2.2.2⟩ hl
theorem q_aald {a n t b : Nat} {g : Nat → Option Nat} {i : Int32} (ht : 3 ≤ t ∧ t < 6) (hs : sh[a]? = some (.inl (t, n, some g))) (hin : vp_in i n) (hg : g i.toNatClampNeg = some b) (hd : decode (q_cc Y) pc = .ok (.aaload, 1)) (kk : q_G Y E u v (pc + 1) ls (.ref b :: st) sh σ Q) : q_G Y E u v pc ls (.int i :: .ref a :: st) sh σ Q := by
  intro p l e s m args below meth c A Z H locs lsA hC hF hW hl
  show W p l e (q_rm Y) s m args below meth c H locs u v Z (F0 m pc lsA (.int i :: .ref (q_a E a) :: st.map (q_v E)))
  rw [q_lt hW hs]
  have ht' : ∃ C, (q_tys E)[t]? = some (q_cT E t, .object C) := by
    rcases (show t = 3 ∨ t = 4 ∨ t = 5 by omega) with rfl | rfl | rfl <;> exact ⟨_, rfl⟩
  obtain ⟨C, hC'⟩ := ht'
  refine va_aldq (C := C) hC.1 hC.2.1 hC.2.2.2.2.2.1 hW.1 a t (q_w_at hs) hC' hin hd ?_
  rw [show va_rf ((g i.toNatClampNeg).map (q_a E)) = .ref (q_a E b) by rw [hg]; rfl]
  exact kk p l e s m args below meth c A Z H locs lsA hC hF hW hl
theorem q_alen {a n t : Nat} {g : Option (Nat → Option Nat)} (ht : t < 6) (hs : sh[a]? = some (.inl (t, n, g))) (hd : decode (q_cc Y) pc = .ok (.arraylength, 1)) (kk : q_G Y E u v (pc + 1) ls (.int (Int32.ofNat n) :: st) sh σ Q) : q_G Y E u v pc ls (.ref a :: st) sh σ Q := by
  intro p l e s m args below meth c A Z H locs lsA hC hF hW hl
  show W p l e (q_rm Y) s m args below meth c H locs u v Z (F0 m pc lsA (.ref (q_a E a) :: st.map (q_v E)))
  rw [q_lt hW hs]
  cases g with
  | none => exact va_alen hC.1 hC.2.1 hC.2.2.2.2.2.1 hW.1 a t (q_w_at hs) (q_tys_at t rfl ht) rfl hd (kk p l e s m args below meth c A Z H locs lsA hC hF hW hl)
  | some g => exact va_alen hC.1 hC.2.1 hC.2.2.2.2.2.1 hW.1 a t (q_w_at hs) (q_tys_at t rfl ht) rfl hd (kk p l e s m args below meth c A Z H locs lsA hC hF hW hl)
-- the static rows and the script
theorem q_a_hi {E : q_E} (j : Nat) : q_a E (1000000 + j) = q_aS E j := by
  unfold q_a
  rw [if_neg (by omega), show 1000000 + j - 1000000 = j by omega]
theorem q_gets (j : Nat) {idx : Nat} (hj : 1 ≤ j ∧ j ≤ 3) (hw : Cond.fieldLink (q_y Y).cls idx "DiverBottle" (q_nm j) "[I" ∈ q_T ∨ Cond.fieldLinkNest (q_y Y).cls idx "DiverBottle" (q_nm j) "[I" "DiverBottle" ∈ q_N) (hd : decode (q_cc Y) pc = .ok (.getstatic idx, 3)) (kk : q_G Y E u v (pc + 3) ls (.ref (1000000 + j) :: st) sh σ Q) : q_G Y E u v pc ls st sh σ Q := by
  intro p l e s m args below meth c A Z H locs lsA hC hF hW hl
  have k0 := kk p l e s m args below meth c A Z H locs lsA hC hF hW hl
  have e0 : (Value.ref (1000000 + j) :: st).map (q_v E) = .ref (q_aS E j) :: st.map (q_v E) := by
    show Value.ref (q_a E (1000000 + j)) :: _ = _
    rw [q_a_hi]
  rw [e0] at k0
  have hX := hC.2.2.2.2.2.2.1
  rcases hw with hw | hw
  · exact va_gets hC.1 hC.2.1 (hX.1 j hj.1 hj.2).2 hW.2.2.1 hC.2.2.2.1 (hC.2.2.2.2.1 _ (List.mem_cons_of_mem _ hw)) (fun _ h => h) hd k0
  · exact va_getsN hC.1 hC.2.1 (hX.1 j hj.1 hj.2).2 hW.2.2.1 hC.2.2.2.1 (va_Nw.use rfl (hX.2.2.1 _ hw)) (fun _ h => h) hd k0
theorem q_tald (j : Nat) {i : Int32} (hj : 1 ≤ j ∧ j ≤ 3) (hin : vp_in i 7) (hd : decode (q_cc Y) pc = .ok (.iaload, 1)) (kk : q_G Y E u v (pc + 1) ls (.int (q_tab j i.toNatClampNeg) :: st) sh σ Q) : q_G Y E u v pc ls (.int i :: .ref (1000000 + j) :: st) sh σ Q := by
  intro p l e s m args below meth c A Z H locs lsA hC hF hW hl
  show W p l e (q_rm Y) s m args below meth c H locs u v Z (F0 m pc lsA (.int i :: .ref (q_a E (1000000 + j)) :: st.map (q_v E)))
  rw [q_a_hi]
  exact va_ti hC.1 hC.2.1 (hC.2.2.2.2.2.2.1.1 j hj.1 hj.2).1 hW.2.2.1 hin rfl hd (kk p l e s m args below meth c A Z H locs lsA hC hF hW hl)
theorem q_sald {i : Int32} (hin : vp_in i (q_L E)) (hd : decode (q_cc Y) pc = .ok (.iaload, 1)) (kk : q_G Y E u v (pc + 1) ls (.int (q_xs E i.toNatClampNeg) :: st) sh σ Q) : q_G Y E u v pc ls (.int i :: .ref 1000000 :: st) sh σ Q := by
  intro p l e s m args below meth c A Z H locs lsA hC hF hW hl
  show W p l e (q_rm Y) s m args below meth c H locs u v Z (F0 m pc lsA (.int i :: .ref (q_a E (1000000 + 0)) :: st.map (q_v E)))
  rw [q_a_hi]
  exact va_ti hC.1 hC.2.1 hC.2.2.2.2.2.2.1.2.1 hW.2.2.1 hin rfl hd (kk p l e s m args below meth c A Z H locs lsA hC hF hW hl)
theorem q_slen (hd : decode (q_cc Y) pc = .ok (.arraylength, 1)) (kk : q_G Y E u v (pc + 1) ls (.int (Int32.ofNat (q_L E)) :: st) sh σ Q) : q_G Y E u v pc ls (.ref 1000000 :: st) sh σ Q := by
  intro p l e s m args below meth c A Z H locs lsA hC hF hW hl
  show W p l e (q_rm Y) s m args below meth c H locs u v Z (F0 m pc lsA (.ref (q_a E (1000000 + 0)) :: st.map (q_v E)))
  rw [q_a_hi]
  exact va_tlen hC.1 hC.2.1 hC.2.2.2.2.2.2.1.2.1 hW.2.2.1 rfl hd (kk p l e s m args below meth c A Z H locs lsA hC hF hW hl)
theorem q_ix {i : Int32} {j n : Nat} (hj : i.toInt = (j : Int)) (hn : j < n) : vp_in i n ∧ i.toNatClampNeg = j := by
  refine ⟨vp_in_iff.mpr ⟨by omega, by omega⟩, ?_⟩
  show i.toInt.toNat = j
  omega
theorem q_ild {a n : Nat} {i : Int32} (j : Nat) (hs : sh[a]? = some (.inl (0, n, none))) (hj : i.toInt = (j : Int)) (hn : j < n) (hd : decode (q_cc Y) pc = .ok (.iaload, 1)) (kk : q_G Y E u v (pc + 1) ls (.int (σ a j) :: st) sh σ Q) : q_G Y E u v pc ls (.int i :: .ref a :: st) sh σ Q := by
  obtain ⟨h1, h2⟩ := q_ix hj hn
  exact q_iald hs h1 hd (by rw [h2]; exact kk)
theorem q_bld {a n : Nat} {i : Int32} (j : Nat) (hs : sh[a]? = some (.inl (1, n, none))) (hj : i.toInt = (j : Int)) (hn : j < n) (hd : decode (q_cc Y) pc = .ok (.baload, 1)) (kk : q_G Y E u v (pc + 1) ls (.int (σ a j) :: st) sh σ Q) : q_G Y E u v pc ls (.int i :: .ref a :: st) sh σ Q := by
  obtain ⟨h1, h2⟩ := q_ix hj hn
  exact q_bald hs h1 hd (by rw [h2]; exact kk)
theorem q_zld {a n : Nat} {i : Int32} (j : Nat) (hs : sh[a]? = some (.inl (2, n, none))) (hj : i.toInt = (j : Int)) (hn : j < n) (hd : decode (q_cc Y) pc = .ok (.baload, 1)) (kk : q_G Y E u v (pc + 1) ls (.int (σ a j) :: st) sh σ Q) : q_G Y E u v pc ls (.int i :: .ref a :: st) sh σ Q := by
  obtain ⟨h1, h2⟩ := q_ix hj hn
  exact q_zald hs h1 hd (by rw [h2]; exact kk)
theorem q_isto {a n : Nat} {i x : Int32} (j : Nat) (hs : sh[a]? = some (.inl (0, n, none))) (hj : i.toInt = (j : Int)) (hn : j < n) (hd : decode (q_cc Y) pc = .ok (.iastore, 1)) (kk : q_G Y E u v (pc + 1) ls st sh (q_up σ a j x) Q) : q_G Y E u v pc ls (.int x :: .int i :: .ref a :: st) sh σ Q := by
  obtain ⟨h1, h2⟩ := q_ix hj hn
  exact q_iast hs h1 hd (by rw [h2]; exact kk)
theorem q_bsto {a n : Nat} {i x : Int32} (j : Nat) (hs : sh[a]? = some (.inl (1, n, none))) (hj : i.toInt = (j : Int)) (hn : j < n) (hd : decode (q_cc Y) pc = .ok (.bastore, 1)) (kk : q_G Y E u v (pc + 1) ls st sh (q_up σ a j (vp_nar .byte x)) Q) : q_G Y E u v pc ls (.int x :: .int i :: .ref a :: st) sh σ Q := by
  obtain ⟨h1, h2⟩ := q_ix hj hn
  exact q_bast hs h1 hd (by rw [h2]; exact kk)
theorem q_zsto {a n : Nat} {i x : Int32} (j : Nat) (hs : sh[a]? = some (.inl (2, n, none))) (hj : i.toInt = (j : Int)) (hn : j < n) (hd : decode (q_cc Y) pc = .ok (.bastore, 1)) (kk : q_G Y E u v (pc + 1) ls st sh (q_up σ a j (vp_nar .boolean x)) Q) : q_G Y E u v pc ls (.int x :: .int i :: .ref a :: st) sh σ Q := by
  obtain ⟨h1, h2⟩ := q_ix hj hn
  exact q_zast hs h1 hd (by rw [h2]; exact kk)
theorem q_ald {a n t b : Nat} {g : Nat → Option Nat} {i : Int32} (j : Nat) (hs : sh[a]? = some (.inl (t, n, some g))) (hj : i.toInt = (j : Int)) (hn : j < n) (hg : g j = some b) (ht : 3 ≤ t ∧ t < 6) (hd : decode (q_cc Y) pc = .ok (.aaload, 1)) (kk : q_G Y E u v (pc + 1) ls (.ref b :: st) sh σ Q) : q_G Y E u v pc ls (.int i :: .ref a :: st) sh σ Q := by
  obtain ⟨h1, h2⟩ := q_ix hj hn
  exact q_aald ht hs h1 (by rw [h2]; exact hg) hd kk
theorem q_tld (j k : Nat) {i : Int32} (hj : 1 ≤ j ∧ j ≤ 3) (hk : i.toInt = (k : Int)) (hn : k < 7) (hd : decode (q_cc Y) pc = .ok (.iaload, 1)) (kk : q_G Y E u v (pc + 1) ls (.int (q_tab j k) :: st) sh σ Q) : q_G Y E u v pc ls (.int i :: .ref (1000000 + j) :: st) sh σ Q := by
  obtain ⟨h1, h2⟩ := q_ix hk hn
  exact q_tald j hj h1 hd (by rw [h2]; exact kk)
theorem q_inc {n : Nat} {d : Int} {x : Int32} {ls' : List (Option Value)} (c : Int32) (hd : decode (q_cc Y) pc = .ok (.iinc n d, 3)) (hc : Int32.ofInt d = c) (hl0 : ls[n]? = some (some (.int x))) (hn : n < q_mx Y) (hs : q_st ls n (.int (x + c)) = ls') (k : q_G Y E u v (pc + 3) ls' st sh σ Q) : q_G Y E u v pc ls st sh σ Q :=
  q_iinc hd hl0 (by rw [hc]) hn hs k
end QF
