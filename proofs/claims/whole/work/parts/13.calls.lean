/-! CONTRACTS over the abstract world, and calls -/
def q_Pr (E : q_E) (sh : List q_S) (σ : q_M) (U : State) : Prop :=
  U.heap.size = q_h0 E + sh.length ∧ sh.length ≤ 1000000 ∧ va_P (q_D E) q_cls (q_w E sh σ) U.heap ∧ va_D (fun _ => True) (q_w E sh σ) ∧ q_K E U ∧ q_X E (va_A (q_w E sh σ) (q_h0 E + sh.length)) U U.heap
def q_Qc (Y : q_Y) (E : q_E) (sh : List q_S) (Q : q_P) (A : Nat → Prop) : Array Value → State → Outcome → State → Prop := fun _ st oc t =>
  (∃ (r : Option Int32) (sh' : List q_S) (σ' : q_M), oc = .returned (r.map Value.int) ∧ Q r sh' σ' ∧ va_P (q_D E) q_cls (q_w E sh' σ') t.heap ∧ va_D A (q_w E sh' σ') ∧ sh'.length = sh.length + (q_rm Y).cells ∧ sh'.length ≤ 1000000) ∧ va_F A st t
def q_Ct (Y : q_Y) (av : List Value) (sh : List q_S) (σ : q_M) (Q : q_P) : Prop :=
  ∀ (l : Launch) (E : q_E), Met l (q_y Y) (q_ws Y) (q_rm Y) (va_Pc (av.map (q_v E)) (q_Pr E sh σ)) (q_Qc Y E sh Q (va_A (q_w E sh σ) (q_h0 E + sh.length))) (q_rm Y).cells (q_rm Y).slots (va_A (q_w E sh σ) (q_h0 E + sh.length))
theorem q_Pr_blind (av : List Value) (E : q_E) (sh : List q_S) (σ : q_M) : FrameBlind (va_Pc av (q_Pr E sh σ)) := by
  intro a U g mk h
  obtain ⟨h0, h1, h2, h3, h4, h5, h6⟩ := h
  exact ⟨h0, h1, h2, h3, h4, va_K.moved (u := U) (U := U.calling g mk a) (Vm.Alike.refl U.vm) h5, q_X.same (s := U) (U := U.calling g mk a) rfl h6⟩
/-- arguments as locals -/
def q_ar : List Value → List (Option Value)
  | [] => []
  | w :: r => if w.category = 2 then some w :: none :: q_ar r else some w :: q_ar r
theorem q_ar_mem {E : q_E} : ∀ (av : List Value) (i : Nat) (q : Nat × Value), q ∈ q_en E i (q_ar av) → q ∈ lv_args i (av.map (q_v E))
  | [], _, _, h => by simp [q_ar, q_en] at h
  | w :: r, i, q, h => by
    rw [List.map_cons, lv_args, q_v_cat]
    unfold q_ar at h
    by_cases hc : w.category = 2
    · rw [if_pos hc] at h
      rw [if_pos hc]
      simp only [q_en, List.mem_cons] at h
      rcases h with h | h
      · exact List.mem_cons.mpr (Or.inl h)
      · exact List.mem_cons_of_mem _ (q_ar_mem r (i + 2) q h)
    · rw [if_neg hc] at h
      rw [if_neg hc]
      simp only [q_en, List.mem_cons] at h
      rcases h with h | h
      · exact List.mem_cons.mpr (Or.inl h)
      · exact List.mem_cons_of_mem _ (q_ar_mem r (i + 1) q h)
theorem q_en_pad {E : q_E} : ∀ (l : List (Option Value)) (n i : Nat), q_en E i (l ++ List.replicate n none) = q_en E i l
  | [], 0, _ => rfl
  | [], n + 1, i => by
    rw [List.nil_append, List.replicate_succ, q_en]
    exact q_en_pad [] n (i + 1)
  | none :: r, n, i => by
    rw [List.cons_append, q_en, q_en, q_en_pad r n (i + 1)]
  | some w :: r, n, i => by
    rw [List.cons_append, q_en, q_en, q_en_pad r n (i + 1)]
/-- a walk from the entry gives the contract -/
theorem q_ct {Y : q_Y} {av : List Value} {sh : List q_S} {σ : q_M} {Q : q_P} {ls : List (Option Value)} {n : Nat} (hy : plainName (q_y Y).cls = true) (hnl : (q_y Y).cls ≠ "DiverBottleLaw") (hls : q_ar av ++ List.replicate n none = ls) (hlen : ∀ E : q_E, (lg_sl (av.map (q_v E))).length ≤ q_mx Y)
    (k : ∀ E : q_E, q_G Y E 0 0 0 ls [] sh σ Q) : q_Ct Y av sh σ Q := by
  intro l E
  refine Met.ofW (cc := q_cc Y) (maxL := q_mx Y) (ret := q_rt Y) hy rfl ?_
  intro p e s m args below meth c s₁ B hml hv
  obtain ⟨rfl, hsz, hL, hP, hD0, hK, hX⟩ := hv
  have hts := atoms_spec (ws := q_ws Y) B.pre
  have hown : s.vm.findClass (q_y Y).cls = some m.cls := findClass_of_methodNamed B.named
  have hlocks := B.notSynchronized
  have hr := B.returns
  have hD : va_D (va_A (q_w E sh σ) (q_h0 E + sh.length)) (q_w E sh σ) := hD0.self
  have hA : ∀ q : Nat, s.heap.size ≤ q → va_A (q_w E sh σ) (q_h0 E + sh.length) q := fun q h => Or.inr (by rw [← hsz]; exact h)
  have hA2 : ∀ q : Nat, va_A (q_w E sh σ) (q_h0 E + sh.length) q → q_h0 E ≤ q := by
    intro q h
    rcases h with ⟨i, x, h⟩ | h
    · have hl : i < sh.length := by
        have := (List.getElem?_eq_some_iff.mp h).1
        rwa [q_w_len] at this
      have hs : sh[i]? = some sh[i] := List.getElem?_eq_getElem hl
      rw [q_w_at hs] at h
      cases h
      omega
    · omega
  have hl := lv_entry (av.map (q_v E)) (n := q_mx Y) (hlen E)
  rw [lg_entry_eq]
  refine k E p l e s m _ below meth c (va_A (q_w E sh σ) (q_h0 E + sh.length)) _ s.heap [] _ ⟨B.exec, B.bytes, hml, hown, hts, hK, hX, hA, hA2, fun hi => hi ▸ (name_of_methodNamed B.named B.method).1⟩ ?_ ⟨hP, hD, va_S.rf, ⟨by omega, by omega⟩, hL, Nat.zero_le _, Nat.zero_le _⟩ ?_
  · intro r u v sh' σ' H locs lsA pc hQ hW hu hd
    have hu : u = (q_rm Y).cells := by
      rcases hu with hu | hu
      · exact hu
      · exact absurd hu hnl
    obtain ⟨w1, w2, w3, ⟨w4, w4'⟩, w5, w6, w7⟩ := hW
    refine W.widen (k := (q_rm Y).cells) (n := (q_rm Y).slots) w6 w7 ?_
    have hl' : sh'.length = sh.length + (q_rm Y).cells := by omega
    cases r with
    | none => exact W.vret B.exec B.bytes (hr.trans hd.1) (fun t ht hW => ⟨⟨none, sh', σ', rfl, hQ, by rw [ht]; exact w1, w2, hl', w5⟩, w3.F ht⟩) w3.2.2 hd.2
    | some x =>
      obtain ⟨⟨ty, t1, t2⟩, hd⟩ := hd
      exact W.zret B.exec B.bytes (hr.trans t1) t2 (fun t ht hW => ⟨⟨some x, sh', σ', rfl, hQ, by rw [ht]; exact w1, w2, hl', w5⟩, w3.F ht⟩) w3.2.2 hd
  · refine ⟨hl.1, hl.2.1, fun q hq => hl.2.2 q ?_⟩
    rw [← hls, q_en_pad] at hq
    exact q_ar_mem av 0 q hq
section QC
variable {Y : q_Y} {E : q_E} {u v pc : Nat} {ls : List (Option Value)} {st : List Value} {sh : List q_S} {σ : q_M} {Q : q_P}
variable {p : Program} {l : Launch} {e : Env} {s : State} {m : MethodId} {args : Array Value} {below : List Frame} {meth : Method} {c : Code} {A : Nat → Prop} {Z : State → Prop} {H : Heap} {locs : List Loc} {lsA : Array Slot}
theorem q_size {T : State} (hW : q_Wd Y E u v sh σ A s H locs) (hT : T.heap = H) (X : Stand p l e (q_rm Y) s m args below meth c T locs u v) : H.size = q_h0 E + sh.length := by
  have h1 := X.heapSize
  rw [hT] at h1
  obtain ⟨w1, w2, w3, ⟨w4, w4'⟩, -⟩ := hW
  have h2 := w3.1
  rcases Nat.eq_zero_or_pos sh.length with h0 | h0
  · omega
  · have hs : sh[sh.length - 1]? = some sh[sh.length - 1] := List.getElem?_eq_getElem (by omega)
    have h3 : q_h0 E + (sh.length - 1) < H.size := (w1 _ _ (q_w_at hs)).lt
    omega
theorem q_A1 (hC : q_Cx Y E p s m args meth c A) (hW : q_Wd Y E u v sh σ A s H locs) : ∀ q, va_A (q_w E sh σ) (q_h0 E + sh.length) q → A q := by
  intro q h
  obtain ⟨w1, w2, w3, ⟨w4, w4'⟩, -⟩ := hW
  rcases h with ⟨i, x, h⟩ | h
  · exact w2.2 i _ h
  · exact hC.2.2.2.2.2.2.2.1 q (by omega)
/-- what the callee finds -/
theorem q_pre {T U : State} (hC : q_Cx Y E p s m args meth c A) (hW : q_Wd Y E u v sh σ A s H locs) (hT : T.heap = H) (X : Stand p l e (q_rm Y) s m args below meth c T locs u v) (hU : U.heap = H) (hWm : s.WarmedH U.vm) : q_Pr E sh σ U := by
  have hz := q_size hW hT X
  have hA1 := q_A1 hC hW
  refine ⟨by rw [hU]; exact hz, hW.2.2.2.2.1, by rw [hU]; exact hW.1, hW.2.1.weaken (fun _ _ _ _ => trivial), va_K.moved hWm.alike hC.2.2.2.2.2.1, ?_⟩
  rw [hU]
  exact q_X.warm hWm ((hC.2.2.2.2.2.2.1.kept hW.2.2.1.2.1).narrow hA1)
/-- behind the call -/
theorem q_cont {Y2 : q_Y} {Q2 : q_P} {rest st0 : List Value} {a : Array Value} {T : State} (hC : q_Cx Y E p s m args meth c A) (hF : q_Fn Y E p l e s m args below meth c A Z Q) (hW : q_Wd Y E u v sh σ A s H locs) (hl : q_ls E lsA (q_mx Y) ls)
    (hr : va_Run p l e (q_rm Y) s m args below meth c H locs u v (q_rm Y2).cells (q_rm Y2).slots (F0 m pc lsA st0) (rest.map (q_v E)) (q_Qc Y2 E sh Q2 (va_A (q_w E sh σ) (q_h0 E + sh.length)) a) (va_A (q_w E sh σ) (q_h0 E + sh.length)))
    (hu : u + (q_rm Y2).cells ≤ (q_rm Y).cells ∧ v + (q_rm Y2).slots ≤ (q_rm Y).slots)
    (kk : ∀ r sh' σ', Q2 r sh' σ' → q_G Y E (u + (q_rm Y2).cells) (v + (q_rm Y2).slots) (pc + 3) ls (r.toList.map Value.int ++ rest) sh' σ' Q)
    (hT : T.heap = H) (X : Stand p l e (q_rm Y) s m args below meth c T locs u v) : ∃ t, Steps p.tables e below (T.setTop (F0 m pc lsA st0)) t ∧ Z t := by
  have hz0 := q_size hW hT X
  have hA1 := q_A1 hC hW
  obtain ⟨v', st₀, t, T', L, h0, X', hL, e1, e2, ⟨⟨r, sh', σ', hv, hq, hP1, hD1, hl1, hl2⟩, hz, hk⟩, stp⟩ := hr T hT X
  rw [h0] at hz hk
  have hS := hW.2.2.1
  have hS' : va_S A s.heap T'.heap (locs ++ L) := ⟨Nat.le_trans hS.1 (by rw [e1]; exact hz), fun q h1 h2 => by rw [e1, hk q (Nat.lt_of_lt_of_le h1 hS.1) (fun z => h2 (hA1 q z))]; exact hS.2.1 q h1 h2, fun q hq => by
      rcases List.mem_append.mp hq with h | h
      · exact hS.2.2 q h
      · exact hA1 _ (hL q h)⟩
  have hsz := hW.2.2.2.1
  obtain ⟨t2, a1, b1⟩ := kk r sh' σ' hq p l e s m args below meth c A Z T'.heap (locs ++ L) lsA hC hF ⟨by rw [e1]; exact hP1, hD1.weaken (fun _ _ _ h => hA1 _ h), hS', ⟨by omega, hsz.2⟩, hl2, hu.1, hu.2⟩ hl T' rfl X'
  refine ⟨t2, stp t2 ?_, b1⟩
  cases r with
  | none =>
    cases hv
    exact a1
  | some x =>
    cases hv
    exact a1
end QC
def q_lk (own : String) (Y2 : q_Y) (idx n : Nat) (nest : Bool) : Prop :=
  Cond.code (q_y Y2) (q_cc Y2) (q_mx Y2) (q_rt Y2) ∈ q_T ∧ Cond.initialized (q_y Y2).cls ∈ q_T ∧ ((q_y Y2).cls ≠ "java/lang/invoke/MethodHandle" ∧ (q_y Y2).cls ≠ "java/lang/invoke/VarHandle" ∧ (parseMethodDescriptor (q_y Y2).desc).map (fun d => d.parameters.length) = some n) ∧ (nest = false → Cond.methodLink own idx (q_y Y2) ∈ q_T) ∧ (nest = true → Cond.methodLinkNest own idx (q_y Y2) "DiverBottle" ∈ q_N)
abbrev q_rr (Y Y2 : q_Y) (u v : Nat) : Prop := ((q_rm Y2).frames + 1 ≤ (q_rm Y).frames ∧ 8 + (q_mx Y2 + 11) + (q_rm Y2).locals ≤ (q_rm Y).locals) ∧ u + (q_rm Y2).cells ≤ (q_rm Y).cells ∧ v + (q_rm Y2).slots ≤ (q_rm Y).slots
theorem q_catsum (E : q_E) (l : List Value) : ((l.map (q_v E)).map fun w => w.category).sum = (l.map fun w => w.category).sum := by
  rw [List.map_map]
  congr 1
  apply List.map_congr_left
  intro w _
  exact q_v_cat E w
section QD
variable {Y : q_Y} {E : q_E} {u v pc : Nat} {ls : List (Option Value)} {st : List Value} {sh : List q_S} {σ : q_M} {Q : q_P}
theorem q_callS {Y2 : q_Y} {Q2 : q_P} {idx n : Nat} {nest : Bool} {av rest : List Value} (hk : q_lk (q_y Y).cls Y2 idx n nest) (hst2 : Cond.static (q_y Y2) ∈ q_T) (hd : decode (q_cc Y) pc = .ok (.invokestatic idx, 3)) (hc : q_Ct Y2 av sh σ Q2) (hst : av.reverse ++ rest = st) (hn : av.length = n) (hsm : (rest.map fun w => w.category).sum ≤ 8) (hR : q_rr Y Y2 u v)
    (kk : ∀ r sh' σ', Q2 r sh' σ' → q_G Y E (u + (q_rm Y2).cells) (v + (q_rm Y2).slots) (pc + 3) ls (r.toList.map Value.int ++ rest) sh' σ' Q) : q_G Y E u v pc ls st sh σ Q := by
  intro p l e s m args below meth c A Z H locs lsA hC hF hW hl T hT X
  subst hst
  obtain ⟨k1, k2, k3, k4, k5⟩ := hk
  have hts := hC.2.2.2.2.1
  have ok : ∀ w ∈ q_T, w.before args s = true := fun w hw => hts w (List.mem_cons_of_mem _ hw)
  refine q_cont (Y2 := Y2) (rest := rest) (a := (av.map (q_v E)).toArray) hC hF hW hl ?_ hR.2 kk hT X
  have hp : PreS s H (va_Pc (av.map (q_v E)) (q_Pr E sh σ)) (av.map (q_v E)) := ⟨q_Pr_blind _ E sh σ, fun U hU hWm => ⟨rfl, q_pre hC hW hT X hU hWm⟩⟩
  have hstk : (F0 m pc lsA ((av.reverse ++ rest).map (q_v E))).stack = (av.map (q_v E)).reverse ++ rest.map (q_v E) := by
    show (av.reverse ++ rest).map (q_v E) = _
    rw [List.map_append, List.map_reverse]
  have hroom : 2 * (F0 m pc lsA ((av.reverse ++ rest).map (q_v E))).monitorRoom + ((rest.map (q_v E)).map fun w => w.category).sum ≤ 8 := lv_room (by rw [q_catsum]; exact hsm)
  cases nest with
  | false => exact va_runS (As := av.map (q_v E)) (rest := rest.map (q_v E)) ⟨hC.1, hC.2.1, hC.2.2.1, hC.2.2.2.1, hts⟩ (hc l E) ⟨callB_of n hts (q_good k1) rfl rfl rfl (ok _ k2) (ok _ (k4 rfl)) k3 hR.1, ok _ hst2⟩ hp rfl (by rw [List.length_map]; exact hn) hl.1 hstk hroom hd hR.2
  | true => exact va_runSN (As := av.map (q_v E)) (rest := rest.map (q_v E)) ⟨hC.1, hC.2.1, hC.2.2.1, hC.2.2.2.1, hts⟩ (hc l E) ⟨va_cnB n hts (q_good k1) rfl rfl rfl (hC.2.2.2.2.2.2.1.2.2.1 _ (k5 rfl)) (ok _ k2) k3 hR.1, ok _ hst2, trivial⟩ hp rfl (by rw [List.length_map]; exact hn) hl.1 hstk hroom hd hR.2
theorem q_callI {Y2 : q_Y} {Q2 : q_P} {idx n b : Nat} {nest : Bool} {av rest : List Value} (hk : q_lk (q_y Y).cls Y2 idx n nest) (hst2 : Cond.instanceMethod (q_y Y2) ∈ q_T) (hini : (q_y Y2).name = "<init>" ∧ q_rt Y2 = none) (hd : decode (q_cc Y) pc = .ok (.invokespecial idx, 3)) (hc : q_Ct Y2 (.ref b :: av) sh σ Q2) (hst : av.reverse ++ .ref b :: rest = st) (hn : av.length = n) (hsm : (rest.map fun w => w.category).sum ≤ 8) (hR : q_rr Y Y2 u v)
    (kk : ∀ r sh' σ', Q2 r sh' σ' → q_G Y E (u + (q_rm Y2).cells) (v + (q_rm Y2).slots) (pc + 3) ls (r.toList.map Value.int ++ rest) sh' σ' Q) : q_G Y E u v pc ls st sh σ Q := by
  intro p l e s m args below meth c A Z H locs lsA hC hF hW hl T hT X
  subst hst
  obtain ⟨k1, k2, k3, k4, k5⟩ := hk
  obtain ⟨i1, i2⟩ := hini
  have hts := hC.2.2.2.2.1
  have ok : ∀ w ∈ q_T, w.before args s = true := fun w hw => hts w (List.mem_cons_of_mem _ hw)
  refine q_cont (Y2 := Y2) (rest := rest) (a := (Value.ref (q_a E b) :: av.map (q_v E)).toArray) hC hF hW hl ?_ hR.2 kk hT X
  have hp : PreS s H (va_Pc ((Value.ref b :: av).map (q_v E)) (q_Pr E sh σ)) (.ref (q_a E b) :: av.map (q_v E)) := ⟨q_Pr_blind _ E sh σ, fun U hU hWm => ⟨rfl, q_pre hC hW hT X hU hWm⟩⟩
  have hstk : (F0 m pc lsA ((av.reverse ++ .ref b :: rest).map (q_v E))).stack = (av.map (q_v E)).reverse ++ .ref (q_a E b) :: rest.map (q_v E) := by
    show (av.reverse ++ .ref b :: rest).map (q_v E) = _
    rw [List.map_append, List.map_reverse]
    rfl
  have hroom : 2 * (F0 m pc lsA ((av.reverse ++ .ref b :: rest).map (q_v E))).monitorRoom + ((rest.map (q_v E)).map fun w => w.category).sum ≤ 8 := lv_room (by rw [q_catsum]; exact hsm)
  have hwsn : q_ws Y2 = Cond.code (q_y Y2) (q_cc Y2) (q_mx Y2) none :: q_T := by unfold q_ws; rw [i2]
  cases nest with
  | false => exact va_runI (bytes := q_cc Y2) (maxL := q_mx Y2) (As := av.map (q_v E)) (rest := rest.map (q_v E)) ⟨hC.1, hC.2.1, hC.2.2.1, hC.2.2.2.1, hts⟩ (hc l E) ⟨callB_of n hts (q_good k1) hwsn rfl rfl (ok _ k2) (ok _ (k4 rfl)) k3 hR.1, i1, ok _ hst2⟩ hp rfl (by rw [List.length_map]; exact hn) hl.1 hstk hroom hd hR.2
  | true => exact va_runIN (bytes := q_cc Y2) (maxL := q_mx Y2) (As := av.map (q_v E)) (rest := rest.map (q_v E)) ⟨hC.1, hC.2.1, hC.2.2.1, hC.2.2.2.1, hts⟩ (hc l E) ⟨va_cnB n hts (q_good k1) hwsn rfl rfl (hC.2.2.2.2.2.2.1.2.2.1 _ (k5 rfl)) (ok _ k2) k3 hR.1, i1, ok _ hst2⟩ hp rfl (by rw [List.length_map]; exact hn) hl.1 hstk hroom hd hR.2
theorem q_callV {Y2 : q_Y} {Q2 : q_P} {idx n b ci : Nat} {nest : Bool} {av rest : List Value} {ks : List (Option (Option Nat))} (hk : q_lk (q_y Y).cls Y2 idx n nest) (hst2 : Cond.instanceMethod (q_y Y2) ∈ q_T ∧ Cond.selects (q_y Y2).cls (q_y Y2) (q_y Y2) ∈ q_T) (hcl : q_cls[ci]?.map (fun x => x.1) = some (q_y Y2).cls) (hd : decode (q_cc Y) pc = .ok (.invokevirtual idx, 3)) (hc : q_Ct Y2 (.ref b :: av) sh σ Q2) (hb : sh[b]? = some (.inr (ci, ks))) (hst : av.reverse ++ .ref b :: rest = st) (hn : av.length = n) (hsm : (rest.map fun w => w.category).sum ≤ 8) (hR : q_rr Y Y2 u v)
    (kk : ∀ r sh' σ', Q2 r sh' σ' → q_G Y E (u + (q_rm Y2).cells) (v + (q_rm Y2).slots) (pc + 3) ls (r.toList.map Value.int ++ rest) sh' σ' Q) : q_G Y E u v pc ls st sh σ Q := by
  intro p l e s m args below meth c A Z H locs lsA hC hF hW hl T hT X
  subst hst
  obtain ⟨k1, k2, k3, k4, k5⟩ := hk
  have hts := hC.2.2.2.2.1
  have ok : ∀ w ∈ q_T, w.before args s = true := fun w hw => hts w (List.mem_cons_of_mem _ hw)
  refine q_cont (Y2 := Y2) (rest := rest) (a := (Value.ref (q_a E b) :: av.map (q_v E)).toArray) hC hF hW hl ?_ hR.2 kk hT X
  obtain ⟨cq, hcq, hcc⟩ : ∃ cq, q_cls[ci]? = some cq ∧ cq.1 = (q_y Y2).cls := by
    cases hq : q_cls[ci]? with
    | none => rw [hq] at hcl; cases hcl
    | some cq => rw [hq] at hcl; exact ⟨cq, rfl, Option.some.inj hcl⟩
  have hrecv : ∃ cell : Cell, H[q_a E b]? = some cell ∧ cell.vm.isStatics = false ∧ s.vm.findClass (q_y Y2).cls = some cell.cls := by
    rw [q_lt hW hb, ← hcc]
    exact va_recv hC.2.2.2.2.2.1 hW.1 hcq (q_w_at hb)
  have hp : PreV s H (q_y Y2).cls (q_a E b) (va_Pc ((Value.ref b :: av).map (q_v E)) (q_Pr E sh σ)) (av.map (q_v E)) := ⟨q_Pr_blind _ E sh σ, hrecv, fun U hU hWm => ⟨rfl, q_pre hC hW hT X hU hWm⟩⟩
  have hstk : (F0 m pc lsA ((av.reverse ++ .ref b :: rest).map (q_v E))).stack = (av.map (q_v E)).reverse ++ .ref (q_a E b) :: rest.map (q_v E) := by
    show (av.reverse ++ .ref b :: rest).map (q_v E) = _
    rw [List.map_append, List.map_reverse]
    rfl
  have hroom : 2 * (F0 m pc lsA ((av.reverse ++ .ref b :: rest).map (q_v E))).monitorRoom + ((rest.map (q_v E)).map fun w => w.category).sum ≤ 8 := lv_room (by rw [q_catsum]; exact hsm)
  cases nest with
  | false => exact va_runV (As := av.map (q_v E)) (rest := rest.map (q_v E)) ⟨hC.1, hC.2.1, hC.2.2.1, hC.2.2.2.1, hts⟩ (hc l E) ⟨callB_of n hts (q_good k1) rfl rfl rfl (ok _ k2) (ok _ (k4 rfl)) k3 hR.1, ok _ hst2.1, ok _ hst2.2⟩ hp rfl (by rw [List.length_map]; exact hn) hl.1 hstk hroom hd hR.2
  | true => exact va_runVN (As := av.map (q_v E)) (rest := rest.map (q_v E)) ⟨hC.1, hC.2.1, hC.2.2.1, hC.2.2.2.1, hts⟩ (hc l E) ⟨va_cnB n hts (q_good k1) rfl rfl rfl (hC.2.2.2.2.2.2.1.2.2.1 _ (k5 rfl)) (ok _ k2) k3 hR.1, ok _ hst2.1, ok _ hst2.2⟩ hp rfl (by rw [List.length_map]; exact hn) hl.1 hstk hroom hd hR.2
end QD
