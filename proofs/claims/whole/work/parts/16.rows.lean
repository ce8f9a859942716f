/-! calls whose contract is a function; branches on truth values and on whole numbers -/
def q_is (r : Option Int32) (sh : List q_S) (σ : q_M) : q_P := fun r' a b => r' = r ∧ a = sh ∧ b = σ
def q_b (c : Bool) : Int32 := if c then 1 else 0
theorem q_b_nar (c : Bool) : narrow .boolean (.int (q_b c)) = .int (q_b c) := by cases c <;> rfl
theorem q_b_vn (c : Bool) : vp_nar .boolean (q_b c) = q_b c := by cases c <;> rfl
theorem q_b_fit (c : Bool) : fits .boolean (.int (q_b c)) = true := by cases c <;> rfl
theorem q_b_01 {x : Int32} (h : x = 0 ∨ x = 1) : ∃ c, x = q_b c := by
  rcases h with h | h
  · exact ⟨false, h⟩
  · exact ⟨true, h⟩
theorem q_b_eq0 {c : Bool} : q_b c = 0 ↔ c = false := by cases c <;> decide
theorem q_b_ne0 {c : Bool} : ¬ q_b c = 0 ↔ c = true := by cases c <;> decide
theorem q_b_inj {c d : Bool} : q_b c = q_b d ↔ c = d := by cases c <;> cases d <;> decide
def q_win (x lo hi : Int32) : Bool := decide (lo.toInt ≤ x.toInt ∧ x.toInt ≤ hi.toInt)
theorem q_win_t {x lo hi : Int32} (h : q_win x lo hi = true) : lo.toInt ≤ x.toInt ∧ x.toInt ≤ hi.toInt := of_decide_eq_true h
theorem q_win_f {x lo hi : Int32} (h : q_win x lo hi = false) : ¬ (lo.toInt ≤ x.toInt ∧ x.toInt ≤ hi.toInt) := of_decide_eq_false h
section QR
variable {Y : q_Y} {E : q_E} {u v pc : Nat} {ls : List (Option Value)} {st : List Value} {sh : List q_S} {σ : q_M} {Q : q_P}
theorem q_cSi {Y2 : q_Y} {idx n : Nat} {nest : Bool} {av rest : List Value} {x : Int32} {sh1 : List q_S} {σ1 : q_M} (hk : q_lk (q_y Y).cls Y2 idx n nest) (hst2 : Cond.static (q_y Y2) ∈ q_T) (hd : decode (q_cc Y) pc = .ok (.invokestatic idx, 3)) (hc : q_Ct Y2 av sh σ (q_is (some x) sh1 σ1)) (hst : av.reverse ++ rest = st) (hn : av.length = n) (hsm : (rest.map fun w => w.category).sum ≤ 8) (hR : q_rr Y Y2 u v)
    (kk : q_G Y E (u + (q_rm Y2).cells) (v + (q_rm Y2).slots) (pc + 3) ls (.int x :: rest) sh1 σ1 Q) : q_G Y E u v pc ls st sh σ Q :=
  q_callS hk hst2 hd hc hst hn hsm hR (fun r a b h => by obtain ⟨rfl, rfl, rfl⟩ := h; exact kk)
theorem q_cSv {Y2 : q_Y} {idx n : Nat} {nest : Bool} {av rest : List Value} {sh1 : List q_S} {σ1 : q_M} (hk : q_lk (q_y Y).cls Y2 idx n nest) (hst2 : Cond.static (q_y Y2) ∈ q_T) (hd : decode (q_cc Y) pc = .ok (.invokestatic idx, 3)) (hc : q_Ct Y2 av sh σ (q_is none sh1 σ1)) (hst : av.reverse ++ rest = st) (hn : av.length = n) (hsm : (rest.map fun w => w.category).sum ≤ 8) (hR : q_rr Y Y2 u v)
    (kk : q_G Y E (u + (q_rm Y2).cells) (v + (q_rm Y2).slots) (pc + 3) ls rest sh1 σ1 Q) : q_G Y E u v pc ls st sh σ Q :=
  q_callS hk hst2 hd hc hst hn hsm hR (fun r a b h => by obtain ⟨rfl, rfl, rfl⟩ := h; exact kk)
theorem q_cVi {Y2 : q_Y} {idx n b ci : Nat} {nest : Bool} {av rest : List Value} {ks : List (Option (Option Nat))} {x : Int32} {sh1 : List q_S} {σ1 : q_M} (hk : q_lk (q_y Y).cls Y2 idx n nest) (hst2 : Cond.instanceMethod (q_y Y2) ∈ q_T ∧ Cond.selects (q_y Y2).cls (q_y Y2) (q_y Y2) ∈ q_T) (hcl : q_cls[ci]?.map (fun x => x.1) = some (q_y Y2).cls) (hd : decode (q_cc Y) pc = .ok (.invokevirtual idx, 3)) (hc : q_Ct Y2 (.ref b :: av) sh σ (q_is (some x) sh1 σ1)) (hb : sh[b]? = some (.inr (ci, ks))) (hst : av.reverse ++ .ref b :: rest = st) (hn : av.length = n) (hsm : (rest.map fun w => w.category).sum ≤ 8) (hR : q_rr Y Y2 u v)
    (kk : q_G Y E (u + (q_rm Y2).cells) (v + (q_rm Y2).slots) (pc + 3) ls (.int x :: rest) sh1 σ1 Q) : q_G Y E u v pc ls st sh σ Q :=
  q_callV hk hst2 hcl hd hc hb hst hn hsm hR (fun r a b h => by obtain ⟨rfl, rfl, rfl⟩ := h; exact kk)
theorem q_cVv {Y2 : q_Y} {idx n b ci : Nat} {nest : Bool} {av rest : List Value} {ks : List (Option (Option Nat))} {sh1 : List q_S} {σ1 : q_M} (hk : q_lk (q_y Y).cls Y2 idx n nest) (hst2 : Cond.instanceMethod (q_y Y2) ∈ q_T ∧ Cond.selects (q_y Y2).cls (q_y Y2) (q_y Y2) ∈ q_T) (hcl : q_cls[ci]?.map (fun x => x.1) = some (q_y Y2).cls) (hd : decode (q_cc Y) pc = .ok (.invokevirtual idx, 3)) (hc : q_Ct Y2 (.ref b :: av) sh σ (q_is none sh1 σ1)) (hb : sh[b]? = some (.inr (ci, ks))) (hst : av.reverse ++ .ref b :: rest = st) (hn : av.length = n) (hsm : (rest.map fun w => w.category).sum ≤ 8) (hR : q_rr Y Y2 u v)
    (kk : q_G Y E (u + (q_rm Y2).cells) (v + (q_rm Y2).slots) (pc + 3) ls rest sh1 σ1 Q) : q_G Y E u v pc ls st sh σ Q :=
  q_callV hk hst2 hcl hd hc hb hst hn hsm hR (fun r a b h => by obtain ⟨rfl, rfl, rfl⟩ := h; exact kk)
theorem q_cIv {Y2 : q_Y} {idx n b : Nat} {nest : Bool} {av rest : List Value} {sh1 : List q_S} {σ1 : q_M} (hk : q_lk (q_y Y).cls Y2 idx n nest) (hst2 : Cond.instanceMethod (q_y Y2) ∈ q_T) (hini : (q_y Y2).name = "<init>" ∧ q_rt Y2 = none) (hd : decode (q_cc Y) pc = .ok (.invokespecial idx, 3)) (hc : q_Ct Y2 (.ref b :: av) sh σ (q_is none sh1 σ1)) (hst : av.reverse ++ .ref b :: rest = st) (hn : av.length = n) (hsm : (rest.map fun w => w.category).sum ≤ 8) (hR : q_rr Y Y2 u v)
    (kk : q_G Y E (u + (q_rm Y2).cells) (v + (q_rm Y2).slots) (pc + 3) ls rest sh1 σ1 Q) : q_G Y E u v pc ls st sh σ Q :=
  q_callI hk hst2 hini hd hc hst hn hsm hR (fun r a b h => by obtain ⟨rfl, rfl, rfl⟩ := h; exact kk)
-- truth values
theorem q_beq {c : Bool} {off : Int} (tgt : Nat) (hd : decode (q_cc Y) pc = .ok (.ifCond .eq off, 3)) (ht : (pc : Int) + off = (tgt : Int)) (kt : c = false → q_G Y E u v tgt ls st sh σ Q) (kf : c = true → q_G Y E u v (pc + 3) ls st sh σ Q) : q_G Y E u v pc ls (.int (q_b c) :: st) sh σ Q :=
  q_if_eq tgt hd ht (fun h => kt (q_b_eq0.mp h)) (fun h => kf (q_b_ne0.mp h))
theorem q_bne {c : Bool} {off : Int} (tgt : Nat) (hd : decode (q_cc Y) pc = .ok (.ifCond .ne off, 3)) (ht : (pc : Int) + off = (tgt : Int)) (kt : c = true → q_G Y E u v tgt ls st sh σ Q) (kf : c = false → q_G Y E u v (pc + 3) ls st sh σ Q) : q_G Y E u v pc ls (.int (q_b c) :: st) sh σ Q :=
  q_if_ne tgt hd ht (fun h => kt (q_b_ne0.mp h)) (fun h => kf (q_b_eq0.mp h))
theorem q_bret {c : Bool} (hd : decode (q_cc Y) pc = .ok (.ireturn, 1)) (hq : Q (some (q_b c)) sh σ) (hn : q_rt Y = some .boolean) (hu : u = (q_rm Y).cells) : q_G Y E u v pc ls [.int (q_b c)] sh σ Q :=
  q_iret hd hq ⟨_, hn, q_b_nar c⟩ (Or.inl hu)
theorem q_ret {x : Int32} (hd : decode (q_cc Y) pc = .ok (.ireturn, 1)) (hq : Q (some x) sh σ) (hn : q_rt Y = some .int) (hu : u = (q_rm Y).cells) : q_G Y E u v pc ls [.int x] sh σ Q :=
  q_iret hd hq ⟨_, hn, rfl⟩ (Or.inl hu)
theorem q_ret0 (hd : decode (q_cc Y) pc = .ok (.ireturn, 1)) (hq : Q (some (q_b false)) sh σ) (hn : q_rt Y = some .boolean) (hu : u = (q_rm Y).cells) : q_G Y E u v pc ls [.int 0] sh σ Q :=
  q_iret hd hq ⟨_, hn, rfl⟩ (Or.inl hu)
theorem q_ret1 (hd : decode (q_cc Y) pc = .ok (.ireturn, 1)) (hq : Q (some (q_b true)) sh σ) (hn : q_rt Y = some .boolean) (hu : u = (q_rm Y).cells) : q_G Y E u v pc ls [.int 1] sh σ Q :=
  q_iret hd hq ⟨_, hn, rfl⟩ (Or.inl hu)
-- whole numbers
theorem q_clt {x y : Int32} {off : Int} (tgt : Nat) (hd : decode (q_cc Y) pc = .ok (.if_icmp .lt off, 3)) (ht : (pc : Int) + off = (tgt : Int)) (kt : x.toInt < y.toInt → q_G Y E u v tgt ls st sh σ Q) (kf : y.toInt ≤ x.toInt → q_G Y E u v (pc + 3) ls st sh σ Q) : q_G Y E u v pc ls (.int y :: .int x :: st) sh σ Q :=
  q_icmp_lt tgt hd ht (fun h => kt (Int32.lt_iff_toInt_lt.mp h)) (fun h => kf (by have := mt Int32.lt_iff_toInt_lt.mpr h; omega))
theorem q_cge {x y : Int32} {off : Int} (tgt : Nat) (hd : decode (q_cc Y) pc = .ok (.if_icmp .ge off, 3)) (ht : (pc : Int) + off = (tgt : Int)) (kt : y.toInt ≤ x.toInt → q_G Y E u v tgt ls st sh σ Q) (kf : x.toInt < y.toInt → q_G Y E u v (pc + 3) ls st sh σ Q) : q_G Y E u v pc ls (.int y :: .int x :: st) sh σ Q :=
  q_icmp_ge tgt hd ht (fun h => kt (Int32.le_iff_toInt_le.mp h)) (fun h => kf (by have := mt Int32.le_iff_toInt_le.mpr h; omega))
theorem q_cgt {x y : Int32} {off : Int} (tgt : Nat) (hd : decode (q_cc Y) pc = .ok (.if_icmp .gt off, 3)) (ht : (pc : Int) + off = (tgt : Int)) (kt : y.toInt < x.toInt → q_G Y E u v tgt ls st sh σ Q) (kf : x.toInt ≤ y.toInt → q_G Y E u v (pc + 3) ls st sh σ Q) : q_G Y E u v pc ls (.int y :: .int x :: st) sh σ Q :=
  q_icmp_gt tgt hd ht (fun h => kt (Int32.lt_iff_toInt_lt.mp h)) (fun h => kf (by have := mt Int32.lt_iff_toInt_lt.mpr h; omega))
theorem q_cle {x y : Int32} {off : Int} (tgt : Nat) (hd : decode (q_cc Y) pc = .ok (.if_icmp .le off, 3)) (ht : (pc : Int) + off = (tgt : Int)) (kt : x.toInt ≤ y.toInt → q_G Y E u v tgt ls st sh σ Q) (kf : y.toInt < x.toInt → q_G Y E u v (pc + 3) ls st sh σ Q) : q_G Y E u v pc ls (.int y :: .int x :: st) sh σ Q :=
  q_icmp_le tgt hd ht (fun h => kt (Int32.le_iff_toInt_le.mp h)) (fun h => kf (by have := mt Int32.le_iff_toInt_le.mpr h; omega))
theorem q_zlt {x : Int32} {off : Int} (tgt : Nat) (hd : decode (q_cc Y) pc = .ok (.ifCond .lt off, 3)) (ht : (pc : Int) + off = (tgt : Int)) (kt : x.toInt < 0 → q_G Y E u v tgt ls st sh σ Q) (kf : 0 ≤ x.toInt → q_G Y E u v (pc + 3) ls st sh σ Q) : q_G Y E u v pc ls (.int x :: st) sh σ Q :=
  q_if_lt tgt hd ht (fun h => kt (Int32.lt_iff_toInt_lt.mp h)) (fun h => kf (by have h2 := mt Int32.lt_iff_toInt_lt.mpr h; have e : (0 : Int32).toInt = 0 := rfl; omega))
theorem q_zge {x : Int32} {off : Int} (tgt : Nat) (hd : decode (q_cc Y) pc = .ok (.ifCond .ge off, 3)) (ht : (pc : Int) + off = (tgt : Int)) (kt : 0 ≤ x.toInt → q_G Y E u v tgt ls st sh σ Q) (kf : x.toInt < 0 → q_G Y E u v (pc + 3) ls st sh σ Q) : q_G Y E u v pc ls (.int x :: st) sh σ Q :=
  q_if_ge tgt hd ht (fun h => kt (Int32.le_iff_toInt_le.mp h)) (fun h => kf (by have h2 := mt Int32.le_iff_toInt_le.mpr h; have e : (0 : Int32).toInt = 0 := rfl; omega))
theorem q_zgt {x : Int32} {off : Int} (tgt : Nat) (hd : decode (q_cc Y) pc = .ok (.ifCond .gt off, 3)) (ht : (pc : Int) + off = (tgt : Int)) (kt : 0 < x.toInt → q_G Y E u v tgt ls st sh σ Q) (kf : x.toInt ≤ 0 → q_G Y E u v (pc + 3) ls st sh σ Q) : q_G Y E u v pc ls (.int x :: st) sh σ Q :=
  q_if_gt tgt hd ht (fun h => kt (Int32.lt_iff_toInt_lt.mp h)) (fun h => kf (by have h2 := mt Int32.lt_iff_toInt_lt.mpr h; have e : (0 : Int32).toInt = 0 := rfl; omega))
theorem q_zle {x : Int32} {off : Int} (tgt : Nat) (hd : decode (q_cc Y) pc = .ok (.ifCond .le off, 3)) (ht : (pc : Int) + off = (tgt : Int)) (kt : x.toInt ≤ 0 → q_G Y E u v tgt ls st sh σ Q) (kf : 0 < x.toInt → q_G Y E u v (pc + 3) ls st sh σ Q) : q_G Y E u v pc ls (.int x :: st) sh σ Q :=
  q_if_le tgt hd ht (fun h => kt (Int32.le_iff_toInt_le.mp h)) (fun h => kf (by have h2 := mt Int32.le_iff_toInt_le.mpr h; have e : (0 : Int32).toInt = 0 := rfl; omega))
end QR
theorem q_ofW {l : Launch} {y : MethodName} {ws ws' : List Cond} {rm : Room} {Pc : Array Value → State → Prop} {Qc : Array Value → State → Outcome → State → Prop} {mc ms : Nat} {free : Addr → Prop} {cc : ByteArray} {maxL : Nat} {ret : Option FieldType}
    (hy : plainFor y = true) (hw : ws = Cond.code y cc maxL ret :: ws')
    (body : ∀ p e s m args below meth c s₁, BodyLoose p l y (headSpec ws rm) cc maxL ret e s m args below meth c s₁ → c.maxLocals = maxL → Pc args s →
      W p l e (headSpec ws rm).room s m args below meth c s.heap [] 0 0 (MQ below Qc args s mc ms free) (entryFrame m args maxL)) : Met l y ws rm Pc Qc mc ms free := by
  refine MetFree.of_bodySF (code := cc) (maxLocals := maxL) (ret := ret) hy (fun args s m h hn => ?_) (fun p e s m args below meth c s₁ B hml hP _ => ?_)
  · have h0 := Cond.code_spec hn (atoms_spec (ws := ws) h _ (by rw [hw]; exact List.mem_cons_self))
    obtain ⟨meth, c, h1, h2, h3, h4, h5, h6, -⟩ := h0
    exact ⟨meth, c, h1, h2, h3, h4, h5, h6⟩
  · obtain ⟨t, a1, o, b1, b2, b3⟩ := body p e s m args below meth c s₁ B hml hP s₁ (by rw [B.state]; rfl) (Stand.of_body B)
    exact ⟨t, o, a1, b1, b2, b3⟩
/-- a walk from the entry gives the contract (a method of a JDK class) -/
theorem q_ctJ {Y : q_Y} {av : List Value} {sh : List q_S} {σ : q_M} {Q : q_P} {ls : List (Option Value)} {n : Nat} (hy : plainFor (q_y Y) = true) (hnl : (q_y Y).cls ≠ "DiverBottleLaw") (hls : q_ar av ++ List.replicate n none = ls) (hlen : ∀ E : q_E, (lg_sl (av.map (q_v E))).length ≤ q_mx Y)
    (k : ∀ E : q_E, q_G Y E 0 0 0 ls [] sh σ Q) : q_Ct Y av sh σ Q := by
  intro l E
  refine q_ofW (cc := q_cc Y) (maxL := q_mx Y) (ret := q_rt Y) hy rfl ?_
  intro p e s m args below meth c s₁ B hml hv
  obtain ⟨rfl, hsz, hL, hP, hD0, hK, hX⟩ := hv
  have hts := atoms_spec (ws := q_ws Y) B.pre
  have hown : s.vm.findClass (q_y Y).cls = some m.cls := findClass_of_methodNamed B.named
  have hlocks := B.notSynchronized
  have hr := B.returns
  have hD : va_D (va_A (q_w E sh σ) (q_h0 E + sh.length)) (q_w E sh σ) := hD0.self
  have hA : ∀ q : Nat, s.heap.size ≤ q → va_A (q_w E sh σ) (q_h0 E + sh.length) q := fun q h => Or.inr (by rw [← hsz]; exact h)
  have hA2 : ∀ q : Nat, va_A (q_w E sh σ) (q_h0 E + sh.length) q → q_h0 E ≤ q := by
    intro q h
    rcases h with ⟨i, x, h⟩ | h
    · have hl : i < sh.length := by
        have := (List.getElem?_eq_some_iff.mp h).1
        rwa [q_w_len] at this
      have hs : sh[i]? = some sh[i] := List.getElem?_eq_getElem hl
      rw [q_w_at hs] at h
      cases h
      omega
    · omega
  have hl := lv_entry (av.map (q_v E)) (n := q_mx Y) (hlen E)
  rw [lg_entry_eq]
  refine k E p l e s m _ below meth c (va_A (q_w E sh σ) (q_h0 E + sh.length)) _ s.heap [] _ ⟨B.exec, B.bytes, hml, hown, hts, hK, hX, hA, hA2, fun hi => hi ▸ (name_of_methodNamed B.named B.method).1⟩ ?_ ⟨hP, hD, va_S.rf, ⟨by omega, by omega⟩, hL, Nat.zero_le _, Nat.zero_le _⟩ ?_
  · intro r u v sh' σ' H locs lsA pc hQ hW hu hd
    have hu : u = (q_rm Y).cells := by
      rcases hu with hu | hu
      · exact hu
      · exact absurd hu hnl
    obtain ⟨w1, w2, w3, ⟨w4, w4'⟩, w5, w6, w7⟩ := hW
    refine W.widen (k := (q_rm Y).cells) (n := (q_rm Y).slots) w6 w7 ?_
    have hl' : sh'.length = sh.length + (q_rm Y).cells := by omega
    cases r with
    | none => exact W.vret B.exec B.bytes (hr.trans hd.1) (fun t ht hW => ⟨⟨none, sh', σ', rfl, hQ, by rw [ht]; exact w1, w2, hl', w5⟩, w3.F ht⟩) w3.2.2 hd.2
    | some x =>
      obtain ⟨⟨ty, t1, t2⟩, hd⟩ := hd
      exact W.zret B.exec B.bytes (hr.trans t1) t2 (fun t ht hW => ⟨⟨some x, sh', σ', rfl, hQ, by rw [ht]; exact w1, w2, hl', w5⟩, w3.F ht⟩) w3.2.2 hd
  · refine ⟨hl.1, hl.2.1, fun q hq => hl.2.2 q ?_⟩
    rw [← hls, q_en_pad] at hq
    exact q_ar_mem av 0 q hq
