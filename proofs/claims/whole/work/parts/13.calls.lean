/-! CONTRACTS over the abstract world, and calls -/
def q_Pr (E : q_E) (sh : List q_S) (σ : q_M) (U : State) : Prop :=
  U.heap.size = q_h0 E + sh.length ∧ sh.length ≤ 1000000 ∧ va_P (q_D E) q_cls (q_w E sh σ) U.heap ∧ va_D (fun _ => True) (q_w E sh σ) ∧ q_K E U ∧ q_X E (va_A (q_w E sh σ) (q_h0 E + sh.length)) U U.heap
def q_Qc (Y : q_Y) (E : q_E) (sh : List q_S) (Q : q_P) (A : Nat → Prop) : Array Value → State → Outcome → State → Prop := fun _ st oc t =>
  (∃ (r : Option Int32) (sh' : List q_S) (σ' : q_M), oc = .returned (r.map Value.int) ∧ Q r sh' σ' ∧ va_P (q_D E) q_cls (q_w E sh' σ') t.heap ∧ va_D A (q_w E sh' σ') ∧ sh'.length = sh.length + (q_rm Y).cells ∧ sh'.length ≤ 1000000) ∧ va_F A st t
def q_Ct (Y : q_Y) (av : List Value) (sh : List q_S) (σ : q_M) (Q : q_P) : Prop :=
  ∀ (l : Launch) (E : q_E), Met l (q_y Y) (q_ws Y) (q_rm Y) (va_Pc (av.map (q_v E)) (q_Pr E sh σ)) (q_Qc Y E sh Q (va_A (q_w E sh σ) (q_h0 E + sh.length))) (q_rm Y).cells (q_rm Y).slots (va_A (q_w E sh σ) (q_h0 E + sh.length))
theorem q_Pr_blind (av : List Value) (E : q_E) (sh : List q_S) (σ : q_M) : FrameBlind (va_Pc av (q_Pr E sh σ)) := by
  intro a U g mk h
  obtain ⟨h0, h1, h2, h3, h4, h5, h6⟩ := h
  exact ⟨h0, h1, h2, h3, h4, va_K.moved (u := U) (U := U.calling g mk a) (Vm.Alike.refl U.vm) h5, q_X.same (s := U) (U := U.calling g mk a) rfl h6⟩
/-- arguments as locals -/
def q_ar : List Value → List (Option Value)
  | [] => []
  | w :: r => if w.category = 2 then some w :: none :: q_ar r else some w :: q_ar r
theorem q_ar_mem {E : q_E} : ∀ (av : List Value) (i : Nat) (q : Nat × Value), q ∈ q_en E i (q_ar av) → q ∈ lv_args i (av.map (q_v E))
  | [], _, _, h => by simp [q_ar, q_en] at h
  | w :: r, i, q, h => by
    rw [List.map_cons, lv_args, q_v_cat]
    unfold q_ar at h
    by_cases hc : w.category = 2
    · rw [if_pos hc] at h
      rw [if_pos hc]
      simp only [q_en, List.mem_cons] at h
      rcases h with h | h
      · exact List.mem_cons.mpr (Or.inl h)
      · exact List.mem_cons_of_mem _ (q_ar_mem r (i + 2) q h)
    · rw [if_neg hc] at h
      rw [if_neg hc]
      simp only [q_en, List.mem_cons] at h
      rcases h with h | h
      · exact List.mem_cons.mpr (Or.inl h)
      · exact List.mem_cons_of_mem _ (q_ar_mem r (i + 1) q h)
theorem q_en_pad {E : q_E} : ∀ (l : List (Option Value)) (n i : Nat), q_en E i (l ++ List.replicate n none) = q_en E i l
  | [], 0, _ => rfl
  | [], n + 1, i => by
    rw [List.nil_append, List.replicate_succ, q_en]
    exact q_en_pad [] n (i + 1)
  | none :: r, n, i => by
    rw [List.cons_append, q_en, q_en, q_en_pad r n (i + 1)]
  | some w :: r, n, i => by
    rw [List.cons_append, q_en, q_en, q_en_pad r n (i + 1)]
/-- a walk from the entry gives the contract -/
theorem q_ct {Y : q_Y} {av : List Value} {sh : List q_S} {σ : q_M} {Q : q_P} {ls : List (Option Value)} {n : Nat} (hy : plainName (q_y Y).cls = true) (hls : q_ar av ++ List.replicate n none = ls) (hlen : ∀ E : q_E, (lg_sl (av.map (q_v E))).length ≤ q_mx Y)
    (k : ∀ E : q_E, q_G Y E 0 0 0 ls [] sh σ Q) : q_Ct Y av sh σ Q := by
  intro l E
  refine Met.ofW (cc := q_cc Y) (maxL := q_mx Y) (ret := q_rt Y) hy rfl ?_
  intro p e s m args below meth c s₁ B hml hv
  obtain ⟨rfl, hsz, hL, hP, hD0, hK, hX⟩ := hv
  have hts := atoms_spec (ws := q_ws Y) B.pre
  have hown : s.vm.findClass (q_y Y).cls = some m.cls := findClass_of_methodNamed B.named
  have hlocks := B.notSynchronized
  have hr := B.returns
  have hD : va_D (va_A (q_w E sh σ) (q_h0 E + sh.length)) (q_w E sh σ) := hD0.self
  have hA : ∀ q : Nat, s.heap.size ≤ q → va_A (q_w E sh σ) (q_h0 E + sh.length) q := fun q h => Or.inr (by rw [← hsz]; exact h)
  have hA2 : ∀ q : Nat, va_A (q_w E sh σ) (q_h0 E + sh.length) q → q_h0 E ≤ q := by
    intro q h
    rcases h with ⟨i, x, h⟩ | h
    · have hl : i < sh.length := by
        have := (List.getElem?_eq_some_iff.mp h).1
        rwa [q_w_len] at this
      have hs : sh[i]? = some sh[i] := List.getElem?_eq_getElem hl
      rw [q_w_at hs] at h
      cases h
      omega
    · omega
  have hl := lv_entry (av.map (q_v E)) (n := q_mx Y) (hlen E)
  rw [lg_entry_eq]
  refine k E p l e s m _ below meth c (va_A (q_w E sh σ) (q_h0 E + sh.length)) _ s.heap [] _ ⟨B.exec, B.bytes, hml, hown, hts, hK, hX, hA, hA2, fun hi => hi ▸ (name_of_methodNamed B.named B.method).1⟩ ?_ ⟨hP, hD, va_S.rf, ⟨by omega, by omega⟩, hL, Nat.zero_le _, Nat.zero_le _⟩ ?_
  · intro r u v sh' σ' H locs lsA pc hQ hW hu hd
    have hu : u = (q_rm Y).cells := by
      rcases hu with hu | hu
      · exact hu
      · exact absurd hu (by sorry)
    obtain ⟨w1, w2, w3, ⟨w4, w4'⟩, w5, w6, w7⟩ := hW
    refine W.widen (k := (q_rm Y).cells) (n := (q_rm Y).slots) w6 w7 ?_
    have hl' : sh'.length = sh.length + (q_rm Y).cells := by omega
    cases r with
    | none => exact W.vret B.exec B.bytes (hr.trans hd.1) (fun t ht hW => ⟨⟨none, sh', σ', rfl, hQ, by rw [ht]; exact w1, w2, hl', w5⟩, w3.F ht⟩) w3.2.2 hd.2
    | some x =>
      obtain ⟨⟨ty, t1, t2⟩, hd⟩ := hd
      exact W.zret B.exec B.bytes (hr.trans t1) t2 (fun t ht hW => ⟨⟨some x, sh', σ', rfl, hQ, by rw [ht]; exact w1, w2, hl', w5⟩, w3.F ht⟩) w3.2.2 hd
  · refine ⟨hl.1, hl.2.1, fun q hq => hl.2.2 q ?_⟩
    rw [← hls, q_en_pad] at hq
    exact q_ar_mem av 0 q hq
