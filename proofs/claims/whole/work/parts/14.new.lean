/-! new cells -/
section QN
variable {Y : q_Y} {E : q_E} {u v pc : Nat} {ls : List (Option Value)} {st : List Value} {sh : List q_S} {σ : q_M} {Q : q_P}
variable {p : Program} {l : Launch} {e : Env} {s : State} {m : MethodId} {args : Array Value} {below : List Frame} {meth : Method} {c : Code} {A : Nat → Prop} {Z : State → Prop} {H : Heap} {locs : List Loc} {lsA : Array Slot}
/-- the new cell's address -/
theorem q_fresh {q : Nat} {x : va_E} {H1 : Heap} {T1 : State} {v1 : Nat} (hC : q_Cx Y E p s m args meth c A) (hW : q_Wd Y E u v sh σ A s H locs) (hP : va_P (q_D E) q_cls (q_w E sh σ ++ [(q, x)]) H1) (hD : va_D A (q_w E sh σ ++ [(q, x)])) (hT1 : T1.heap = H1) (X1 : Stand p l e (q_rm Y) s m args below meth c T1 locs (u + 1) v1) : q = q_h0 E + sh.length := by
  have hlast : (q_w E sh σ ++ [(q, x)])[sh.length]? = some (q, x) := by
    rw [List.getElem?_append_right (by rw [q_w_len]; exact Nat.le_refl _), q_w_len, Nat.sub_self]
    rfl
  have h1 : q < H1.size := (hP _ _ hlast).lt
  have h2 := X1.heapSize
  rw [hT1] at h2
  have h3 : q_h0 E ≤ q := hC.2.2.2.2.2.2.2.2.1 q (hD.2 _ _ hlast)
  obtain ⟨w4, w4'⟩ := hW.2.2.2.1
  rcases Nat.lt_or_ge q (q_h0 E + sh.length) with h | h
  · have hi : q - q_h0 E < sh.length := by omega
    have hs : sh[q - q_h0 E]? = some sh[q - q_h0 E] := List.getElem?_eq_getElem hi
    have h4 : (q_w E sh σ ++ [(q, x)])[q - q_h0 E]? = some (q_h0 E + (q - q_h0 E), q_c E (σ (q - q_h0 E)) sh[q - q_h0 E]) := by
      rw [List.getElem?_append_left (by rw [q_w_len]; exact hi)]
      exact q_w_at hs
    have := hD.1 _ _ _ _ h4 hlast (by show q_h0 E + (q - q_h0 E) = q; omega)
    omega
  · omega
theorem q_grow {x : q_S} {c0 : va_E} {f : Nat → Int32} (hc : c0 = q_c E f x) : q_w E sh σ ++ [(q_h0 E + sh.length, c0)] = q_w E (sh ++ [x]) (q_put σ sh.length f) := by
  rw [← q_w_app (c := c0) (by rw [hc]; simp [q_put]), q_w_far]
end QN
section QO
variable {Y : q_Y} {E : q_E} {u v pc : Nat} {ls : List (Option Value)} {st : List Value} {sh : List q_S} {σ : q_M} {Q : q_P}
def q_nf (own : String) (idx ci N : Nat) (ks : List (Option (Option Nat))) : Prop :=
  ∃ (C : String) (T : u_T) (ty0 : Nat → FieldType), q_cls[ci]? = some (C, T, N) ∧ (∀ w ∈ u_ws C T N, w ∈ q_T) ∧ (∀ k, k < N → parseFieldDescriptor (T k).2.2.1 = some (ty0 k)) ∧ Cond.classLink own idx C ∈ q_T ∧ Cond.instantiable C N ∈ q_T ∧ Cond.initialized C ∈ q_T ∧ ∀ (E : q_E) (j : Nat), j < N → defaultValue (ty0 j) = vp_V (q_fl E (fun _ => 0) 0 ks) j
theorem q_new {idx ci N : Nat} {ks : List (Option (Option Nat))} (hf : q_nf (q_y Y).cls idx ci N ks) (hd : decode (q_cc Y) pc = .ok (.new idx, 3)) (hr : u + 1 ≤ (q_rm Y).cells ∧ v + N ≤ (q_rm Y).slots ∧ sh.length + 1 ≤ 1000000) (kk : q_G Y E (u + 1) (v + N) (pc + 3) ls (.ref sh.length :: st) (sh ++ [.inr (ci, ks)]) (q_put σ sh.length (fun _ => 0)) Q) : q_G Y E u v pc ls st sh σ Q := by
  intro p l e s m args below meth c A Z H locs lsA hC hF hW hl
  obtain ⟨C, T, ty0, h1, h2, h3, h4, h5, h6, h7⟩ := hf
  have hts := hC.2.2.2.2.1
  have ok : ∀ w ∈ q_T, w.before args s = true := fun w hw => hts w (List.mem_cons_of_mem _ hw)
  refine va_new (ci := ci) (fs := q_fl E (fun _ => 0) 0 ks) (C := C) (T := T) (N := N) hC.1 hC.2.1 hts (fun w hw => List.mem_cons_of_mem _ (h2 w hw)) ty0 h3 hC.2.2.2.1 (ok _ h4) (ok _ h5) (ok _ h6) hC.2.2.2.2.2.1 hW.1 hW.2.1 hW.2.2.1 hC.2.2.2.2.2.2.2.1 h1 (h7 E) hr.1 hr.2.1 hd (fun q H1 hP hD hS => ?_)
  intro T1 hT1 X1
  have hq := q_fresh hC hW hP hD hT1 X1
  subst hq
  have e0 : q_w E sh σ ++ [(q_h0 E + sh.length, .inr (ci, q_fl E (fun _ => 0) 0 ks))] = q_w E (sh ++ [.inr (ci, ks)]) (q_put σ sh.length (fun _ => 0)) := q_grow rfl
  rw [e0] at hP hD
  have k0 := kk p l e s m args below meth c A Z H1 locs lsA hC hF ⟨hP, hD, hS, ⟨by rw [List.length_append]; have := hW.2.2.2.1.1; simp; omega, hW.2.2.2.1.2⟩, by rw [List.length_append]; exact hr.2.2, hr.1, hr.2.1⟩ hl
  have e1 : (Value.ref sh.length :: st).map (q_v E) = .ref (q_h0 E + sh.length) :: st.map (q_v E) := by
    show Value.ref (q_a E sh.length) :: _ = _
    rw [q_a_lo (by omega)]
  rw [e1] at k0
  exact k0 T1 hT1 X1
theorem q_newa {at0 : ArrayType} {n : Int32} {N t : Nat} (ht : t < 3) (hty : newarray.typeOf at0 = [FieldType.int, .byte, .boolean].getD t .int) (hw : Cond.arrayClass (newarray.typeOf at0) ∈ q_T) (hd : decode (q_cc Y) pc = .ok (.newarray at0, 2)) (hn : ¬ n < 0 ∧ n.toNatClampNeg = N ∧ N ≤ 100000) (hr : u + 1 ≤ (q_rm Y).cells ∧ v + N ≤ (q_rm Y).slots ∧ sh.length + 1 ≤ 1000000) (kk : q_G Y E (u + 1) (v + N) (pc + 2) ls (.ref sh.length :: st) (sh ++ [.inl (t, N, none)]) (q_put σ sh.length (fun _ => 0)) Q) : q_G Y E u v pc ls (.int n :: st) sh σ Q := by
  intro p l e s m args below meth c A Z H locs lsA hC hF hW hl
  have hts := hC.2.2.2.2.1
  have ok : ∀ w ∈ q_T, w.before args s = true := fun w hw => hts w (List.mem_cons_of_mem _ hw)
  have hK := hC.2.2.2.2.2.1
  refine va_newa (a0 := (N, .inl (fun _ => 0))) hC.1 hC.2.1 (ok _ hw) hty hK hW.1 hW.2.1 hW.2.2.1 hC.2.2.2.2.2.2.2.1 (fun cA => ?_) hn.1 hn.2.1 ?_ hr.1 hr.2.1 hd (fun q cA H1 hK1 hP hD hS => ?_)
  · rcases (show t = 0 ∨ t = 1 ∨ t = 2 by omega) with rfl | rfl | rfl <;> rfl
  · rcases (show t = 0 ∨ t = 1 ∨ t = 2 by omega) with rfl | rfl | rfl
    · show N * 4 ≤ 536870912
      omega
    · show N * 1 ≤ 536870912
      omega
    · show N * 1 ≤ 536870912
      omega
  · have hcA : cA = q_cT E t := by
      have g1 := (hK1.2 6 _ rfl).2
      rcases (show t = 0 ∨ t = 1 ∨ t = 2 by omega) with rfl | rfl | rfl
      · exact Option.some.inj ((show s.vm.findClass _ = some cA from g1).symm.trans (show s.vm.findClass _ = some _ from (hK.2 0 _ rfl).2))
      · exact Option.some.inj ((show s.vm.findClass _ = some cA from g1).symm.trans (show s.vm.findClass _ = some _ from (hK.2 1 _ rfl).2))
      · exact Option.some.inj ((show s.vm.findClass _ = some cA from g1).symm.trans (show s.vm.findClass _ = some _ from (hK.2 2 _ rfl).2))
    subst hcA
    intro T1 hT1 X1
    have hq := q_fresh hC hW hP hD hT1 X1
    subst hq
    have e0 : q_w E sh σ ++ [(q_h0 E + sh.length, .inl (q_cT E t, N, .inl (fun _ => 0)))] = q_w E (sh ++ [.inl (t, N, none)]) (q_put σ sh.length (fun _ => 0)) := q_grow rfl
    rw [e0] at hP hD
    have k0 := kk p l e s m args below meth c A Z H1 locs lsA hC hF ⟨hP, hD, hS, ⟨by rw [List.length_append]; have := hW.2.2.2.1.1; simp; omega, hW.2.2.2.1.2⟩, by rw [List.length_append]; exact hr.2.2, hr.1, hr.2.1⟩ hl
    have e1 : (Value.ref sh.length :: st).map (q_v E) = .ref (q_h0 E + sh.length) :: st.map (q_v E) := by
      show Value.ref (q_a E sh.length) :: _ = _
      rw [q_a_lo (by omega)]
    rw [e1] at k0
    exact k0 T1 hT1 X1
def q_oc (t : Nat) : String := ["", "", "", "DiverBottle$Diver", "DiverBottle$Scene", "DiverBottle$Sheet"].getD t ""
theorem q_newq {idx : Nat} {n : Int32} {N t : Nat} (ht : 3 ≤ t ∧ t < 6) (hw : Cond.classLink (q_y Y).cls idx (q_oc t) ∈ q_T) (hd : decode (q_cc Y) pc = .ok (.anewarray idx, 3)) (hn : ¬ n < 0 ∧ n.toNatClampNeg = N ∧ N ≤ 100000) (hr : u + 1 ≤ (q_rm Y).cells ∧ v + N ≤ (q_rm Y).slots ∧ sh.length + 1 ≤ 1000000) (kk : q_G Y E (u + 1) (v + N) (pc + 3) ls (.ref sh.length :: st) (sh ++ [.inl (t, N, some (fun _ => none))]) (q_put σ sh.length (fun _ => 0)) Q) : q_G Y E u v pc ls (.int n :: st) sh σ Q := by
  intro p l e s m args below meth c A Z H locs lsA hC hF hW hl
  have hts := hC.2.2.2.2.1
  have ok : ∀ w ∈ q_T, w.before args s = true := fun w hw => hts w (List.mem_cons_of_mem _ hw)
  have hK := hC.2.2.2.2.2.1
  have hov : va_AO (q_oc t) s := by
    have := hC.2.2.2.2.2.2.1.2.2.2.1
    rcases (show t = 3 ∨ t = 4 ∨ t = 5 by omega) with rfl | rfl | rfl
    · exact this.1
    · exact this.2.1
    · exact this.2.2
  refine va_newq (C := q_oc t) hC.1 hC.2.1 hC.2.2.2.1 (ok _ hw) hov hK hW.1 hW.2.1 hW.2.2.1 hC.2.2.2.2.2.2.2.1 hn.1 hn.2.1 (by omega) hr.1 hr.2.1 hd (fun q cA H1 hK1 hP hD hS => ?_)
  have hcA : cA = q_cT E t := by
    have g1 := (hK1.2 6 _ rfl).2
    obtain ⟨_, _, -, -, -, g1⟩ := g1
    rcases (show t = 3 ∨ t = 4 ∨ t = 5 by omega) with rfl | rfl | rfl
    · obtain ⟨_, _, -, -, -, g2⟩ := (hK.2 3 _ rfl).2
      exact Option.some.inj (g1.symm.trans g2)
    · obtain ⟨_, _, -, -, -, g2⟩ := (hK.2 4 _ rfl).2
      exact Option.some.inj (g1.symm.trans g2)
    · obtain ⟨_, _, -, -, -, g2⟩ := (hK.2 5 _ rfl).2
      exact Option.some.inj (g1.symm.trans g2)
  subst hcA
  intro T1 hT1 X1
  have hq := q_fresh hC hW hP hD hT1 X1
  subst hq
  have e0 : q_w E sh σ ++ [(q_h0 E + sh.length, .inl (q_cT E t, N, .inr (.inr (.inr (.inr (fun _ => none))))))] = q_w E (sh ++ [.inl (t, N, some (fun _ => none))]) (q_put σ sh.length (fun _ => 0)) := q_grow rfl
  rw [e0] at hP hD
  have k0 := kk p l e s m args below meth c A Z H1 locs lsA hC hF ⟨hP, hD, hS, ⟨by rw [List.length_append]; have := hW.2.2.2.1.1; simp; omega, hW.2.2.2.1.2⟩, by rw [List.length_append]; exact hr.2.2, hr.1, hr.2.1⟩ hl
  have e1 : (Value.ref sh.length :: st).map (q_v E) = .ref (q_h0 E + sh.length) :: st.map (q_v E) := by
    show Value.ref (q_a E sh.length) :: _ = _
    rw [q_a_lo (by omega)]
  rw [e1] at k0
  exact k0 T1 hT1 X1
theorem q_aast {a n t b ci : Nat} {g : Nat → Option Nat} {ks : List (Option (Option Nat))} {i : Int32} (ht : 3 ≤ t ∧ t < 6) (hs : sh[a]? = some (.inl (t, n, some g))) (hb : sh[b]? = some (.inr (ci, ks))) (hc : q_cls[ci]?.map (fun x => x.1) = some (q_oc t)) (hin : vp_in i n) (hd : decode (q_cc Y) pc = .ok (.aastore, 1)) (kk : q_G Y E u v (pc + 1) ls st (sh.set a (.inl (t, n, some (va_up g i.toNatClampNeg (some b))))) σ Q) : q_G Y E u v pc ls (.ref b :: .int i :: .ref a :: st) sh σ Q := by
  intro p l e s m args below meth c A Z H locs lsA hC hF hW hl
  show W p l e (q_rm Y) s m args below meth c H locs u v Z (F0 m pc lsA (.ref (q_a E b) :: .int i :: .ref (q_a E a) :: st.map (q_v E)))
  rw [q_lt hW hs, q_lt hW hb]
  obtain ⟨cq, hcq, hcc⟩ : ∃ cq, q_cls[ci]? = some cq ∧ cq.1 = q_oc t := by
    cases hq : q_cls[ci]? with
    | none => rw [hq] at hc; cases hc
    | some cq => rw [hq] at hc; exact ⟨cq, rfl, Option.some.inj hc⟩
  have ht' : (q_tys E)[t]? = some (q_cT E t, .object cq.1) := by
    rw [hcc]
    rcases (show t = 3 ∨ t = 4 ∨ t = 5 by omega) with rfl | rfl | rfl <;> rfl
  refine va_astq hC.1 hC.2.1 hC.2.2.2.2.2.1 hW.1 hW.2.1 hW.2.2.1 a t b ci (q_w_at hs) ht' (q_w_at hb) hcq hin hd (fun H1 locs1 hP hD hS => ?_)
  have e0 : (q_w E sh σ).set a (q_h0 E + a, .inl (q_cT E t, n, .inr (.inr (.inr (.inr (va_up (fun j => (g j).map (q_a E)) i.toNatClampNeg (some (q_h0 E + b)))))))) = q_w E (sh.set a (.inl (t, n, some (va_up g i.toNatClampNeg (some b))))) σ := by
    rw [← q_w_sets hs]
    congr 2
    show Sum.inl _ = Sum.inl _
    congr 5
    show _ = _
    congr 4
    funext j
    unfold va_up
    by_cases hj : j = i.toNatClampNeg
    · rw [if_pos hj, if_pos hj, ← q_lt hW hb]
      rfl
    · rw [if_neg hj, if_neg hj]
  rw [e0] at hP hD
  exact kk p l e s m args below meth c A Z H1 locs1 lsA hC hF ⟨hP, hD, hS, by rw [List.length_set]; exact hW.2.2.2.1, by rw [List.length_set]; exact hW.2.2.2.2.1, hW.2.2.2.2.2⟩ hl
theorem q_putF {idx ci k a b : Nat} {ty : FieldType} {ks : List (Option (Option Nat))} {x : Option Nat} (hf : q_fd (q_y Y).cls idx ci k ty true) (hini : (q_y Y).name = "<init>") (hty : ∀ z : Nat, narrow ty (.ref z) = .ref z ∧ fits ty (.ref z) = true) (hd : decode (q_cc Y) pc = .ok (.putfield idx, 3)) (hs : sh[a]? = some (.inr (ci, ks))) (hk : ks[k]? = some (some x)) (kk : q_G Y E u v (pc + 3) ls st (sh.set a (.inr (ci, ks.set k (some (some b))))) σ Q) : q_G Y E u v pc ls (.ref b :: .ref a :: st) sh σ Q := by
  intro p l e s m args below meth c A Z H locs lsA hC hF hW hl
  obtain ⟨C, T, N, ty0, h1, h2, h3, h4, h5, h6, h7, h8, h9⟩ := hf
  show W p l e (q_rm Y) s m args below meth c H locs u v Z (F0 m pc lsA (.ref (q_a E b) :: .ref (q_a E a) :: st.map (q_v E)))
  rw [q_lt hW hs]
  refine va_putF (D := q_D E) (cl := q_cls) (tys := q_tys E) (C := C) (T := T) (N := N) hC.1 hC.2.1 hC.2.2.2.2.1 (fun w hw => List.mem_cons_of_mem _ (h2 w hw)) ty0 h3 h4 hC.2.2.2.1 hC.2.2.2.2.2.1 hW.1 hW.2.1 hW.2.2.1 a (q_w_at hs) h1 k h5 (hC.2.2.2.2.1 _ (List.mem_cons_of_mem _ h9)) (fun _ h => h) h7 (hC.2.2.2.2.2.2.2.2.2 hini) (h8 rfl) h6 (hty _).1 (hty _).2 ?_ hd (fun H1 locs1 hP hD hS => ?_)
  · rw [q_fl_len]
    exact (List.getElem?_eq_some_iff.mp hk).1
  · have e0 : (q_w E sh σ).set a (q_h0 E + a, .inr (ci, (q_fl E (σ a) 0 ks).set k (.ref (q_a E b)))) = q_w E (sh.set a (.inr (ci, ks.set k (some (some b))))) σ := by
      rw [← q_w_sets hs]
      have := q_fl_setr (E := E) (f := σ a) (y := some b) ks 0 k hk
      show (q_w E sh σ).set a (_, .inr (ci, (q_fl E (σ a) 0 ks).set k (va_rf ((some b).map (q_a E))))) = _
      rw [this]
      rfl
    rw [e0] at hP hD
    exact kk p l e s m args below meth c A Z H1 locs1 lsA hC hF ⟨hP, hD, hS, by rw [List.length_set]; exact hW.2.2.2.1, by rw [List.length_set]; exact hW.2.2.2.2.1, hW.2.2.2.2.2⟩ hl
theorem q_objInit {idx a : Nat} (h1 : Cond.methodLink (q_y Y).cls idx Lib.objectInit ∈ q_T) (h2 : Cond.instanceMethod Lib.objectInit ∈ q_T) (h3 : Cond.code Lib.objectInit ⟨#[0xb1]⟩ 1 none ∈ q_T) (hd : decode (q_cc Y) pc = .ok (.invokespecial idx, 3)) (hr : 1 ≤ (q_rm Y).frames ∧ (st.map fun w => w.category).sum + 12 ≤ (q_rm Y).locals) (kk : q_G Y E u v (pc + 3) ls st sh σ Q) : q_G Y E u v pc ls (.ref a :: st) sh σ Q := by
  intro p l e s m args below meth c A Z H locs lsA hC hF hW hl
  have ok : ∀ w ∈ q_T, w.before args s = true := fun w hw => hC.2.2.2.2.1 w (List.mem_cons_of_mem _ hw)
  refine W.objInit hC.1 hC.2.1 hC.2.2.2.1 (ok _ h1) (ok _ h2) (ok _ h3) rfl (by rw [hC.2.2.1]; exact hl.1) (a := q_a E a) (rest := st.map (q_v E)) rfl hd hr.1 ?_ (kk p l e s m args below meth c A Z H locs lsA hC hF hW hl)
  rw [q_catsum]
  show 2 * 0 + _ + 12 ≤ _
  omega
end QO
