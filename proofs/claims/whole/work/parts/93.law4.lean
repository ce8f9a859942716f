/-! THE LAW: what holds at its entry -/
section EN
variable {args : Array Value} {s : State}
theorem e_D (hts : ∀ w ∈ lw_tbl, w.before args s = true) : ∃ D : va_G, ∀ (c : Nat) (q : vw_C), q_cls[c]? = some q → u_Kn s q.1 q.2.1 q.2.2 (D.1 c) (D.2 c) := by
  have hq : ∀ w ∈ q_T, w.before args s = true := fun w hw => hts w (List.mem_filter.mp hw).1
  have H : ∀ c : Nat, ∃ d : ClassId × (Nat → Nat), ∀ q, q_cls[c]? = some q → u_Kn s q.1 q.2.1 q.2.2 d.1 d.2 := by
    intro c
    match c with
    | 0 =>
      obtain ⟨cC, iS, z⟩ := u_known (C := RX0) (T := TX0) (N := 8) (n := 8) hq wX0 (hts (.instantiable RX0 8) (by decide +kernel))
      exact ⟨(cC, iS), fun q e => by cases e; exact z⟩
    | 1 =>
      obtain ⟨cC, iS, z⟩ := u_known (C := RX1) (T := TX1) (N := 6) (n := 6) hq wX1 (hts (.instantiable RX1 6) (by decide +kernel))
      exact ⟨(cC, iS), fun q e => by cases e; exact z⟩
    | 2 =>
      obtain ⟨cC, iS, z⟩ := u_known (C := RX2) (T := TX2) (N := 13) (n := 13) hq wX2 (hts (.instantiable RX2 13) (by decide +kernel))
      exact ⟨(cC, iS), fun q e => by cases e; exact z⟩
    | 3 =>
      obtain ⟨cC, iS, z⟩ := u_known (C := RX3) (T := TX3) (N := 8) (n := 8) hq wX3 (hts (.instantiable RX3 8) (by decide +kernel))
      exact ⟨(cC, iS), fun q e => by cases e; exact z⟩
    | 4 =>
      obtain ⟨cC, iS, z⟩ := u_known (C := RX4) (T := TX4) (N := 4) (n := 4) hq wX4 (hts (.instantiable RX4 4) (by decide +kernel))
      exact ⟨(cC, iS), fun q e => by cases e; exact z⟩
    | 5 =>
      obtain ⟨cC, iS, z⟩ := u_known (C := RX5) (T := TX5) (N := 3) (n := 3) hq wX5 (hts (.instantiable RX5 3) (by decide +kernel))
      exact ⟨(cC, iS), fun q e => by cases e; exact z⟩
    | 6 =>
      obtain ⟨cC, iS, z⟩ := u_known (C := RX6) (T := TX6) (N := 2) (n := 2) hq wX6 (hts (.instantiable RX6 2) (by decide +kernel))
      exact ⟨(cC, iS), fun q e => by cases e; exact z⟩
    | 7 =>
      obtain ⟨cC, iS, z⟩ := u_known (C := RX7) (T := TX7) (N := 11) (n := 11) hq wX7 (hts (.instantiable RX7 11) (by decide +kernel))
      exact ⟨(cC, iS), fun q e => by cases e; exact z⟩
    | 8 =>
      obtain ⟨cC, iS, z⟩ := u_known (C := RX8) (T := TX8) (N := 31) (n := 31) hq wX8 (hts (.instantiable RX8 31) (by decide +kernel))
      exact ⟨(cC, iS), fun q e => by cases e; exact z⟩
    | k + 9 => exact ⟨((0 : Nat), fun _ => 0), fun q e => by simp [q_cls] at e⟩
  obtain ⟨f, hf⟩ := Classical.axiomOfChoice H
  exact ⟨(fun c => (f c).1, fun c => (f c).2), fun c q e => hf c q e⟩
theorem e_T (hts : ∀ w ∈ lw_tbl, w.before args s = true) : ∃ cT : Nat → ClassId, ∀ (k : Nat) (q : ClassId × FieldType), ([(cT 0, FieldType.int), (cT 1, .byte), (cT 2, .boolean), (cT 3, .object "DiverBottle$Diver"), (cT 4, .object "DiverBottle$Scene"), (cT 5, .object "DiverBottle$Sheet")] : List (ClassId × FieldType))[k]? = some q → ArrOfT s q.1 q.2 ∧ va_RA s q.1 q.2 := by
  have A : ∀ ty : FieldType, (Cond.arrayClass ty).before args s = true → ∃ cA, ArrOfT s cA ty ∧ s.vm.findClass ("[" ++ ty.toString) = some cA := fun ty h => by
    obtain ⟨c, k, comp, h1, h2, h3⟩ := Cond.arrayClass_spec h
    exact ⟨c, fun n z => ⟨fun k h => (by cases h), k, h2, comp, h3⟩, h1⟩
  have O : ∀ C : String, (Cond.arrayOver (.object C)).before args s = true → ∃ cA, ArrOfT s cA (.object C) ∧ va_RA s cA (.object C) := fun C h => by
    obtain ⟨comp, c, k, h1, h2, h3, h4, h5⟩ := Cond.arrayOver_spec h
    exact ⟨c, fun n z => ⟨fun k h => (by cases h), k, h3, comp, h4⟩, k, comp, h3, h4, h1, h5⟩
  obtain ⟨c0, a0, b0⟩ := A .int (hts _ (by decide +kernel))
  obtain ⟨c1, a1, b1⟩ := A .byte (hts _ (by decide +kernel))
  obtain ⟨c2, a2, b2⟩ := A .boolean (hts _ (by decide +kernel))
  obtain ⟨c3, a3⟩ := O "DiverBottle$Diver" (hts _ (by decide +kernel))
  obtain ⟨c4, a4⟩ := O "DiverBottle$Scene" (hts _ (by decide +kernel))
  obtain ⟨c5, a5⟩ := O "DiverBottle$Sheet" (hts _ (by decide +kernel))
  refine ⟨fun i => if i = 0 then c0 else if i = 1 then c1 else if i = 2 then c2 else if i = 3 then c3 else if i = 4 then c4 else c5, fun k q e => ?_⟩
  match k, e with
  | 0, e => cases e; exact ⟨a0, b0⟩
  | 1, e => cases e; exact ⟨a1, b1⟩
  | 2, e => cases e; exact ⟨a2, b2⟩
  | 3, e => cases e; exact a3
  | 4, e => cases e; exact a4
  | 5, e => cases e; exact a5
  | k + 6, e => simp at e
abbrev e_G : List Cond := flatC (Jvm.Cond.and given_1 narrow_1)
theorem e_tab {A : Nat → Prop} (hts : ∀ w ∈ lw_tbl, w.before args s = true) (hg : ∀ w ∈ e_G, w.before args s = true) (hA : ∀ a : Nat, a < s.heap.size → ¬ A a) (j : Nat) (h1 : 1 ≤ j) (h3 : j ≤ 3) : ∃ t, va_T .int t 7 (fun k => .int (q_tab j k)) A s s.heap ∧ va_Z "DiverBottle" (q_nm j) "[I" (.ref t) A s s.heap := by
  have w1 : ∀ j, j < 4 → 1 ≤ j → Cond.arrayOf (.static "DiverBottle" (q_nm j) "[I") .int ∈ e_G ∧ Cond.eq (.length (.static "DiverBottle" (q_nm j) "[I")) (.int (Int32.ofNat 7)) ∈ e_G ∧ Cond.laysStatic "DiverBottle" (q_nm j) "[I" ∈ lw_tbl := by decide +kernel
  have w2 : ∀ j, j < 4 → 1 ≤ j → ∀ k, k < 7 → Cond.eq (.elem (.static "DiverBottle" (q_nm j) "[I") (.int (Int32.ofNat k))) (.int (q_tab j k)) ∈ e_G := by decide +kernel
  obtain ⟨v1, v2, v3⟩ := w1 j (by omega) h1
  obtain ⟨t, ht, hT⟩ := va_Tof (tm := .static "DiverBottle" (q_nm j) "[I") (f := fun k => .int (q_tab j k)) (A := A) (N := 7) (by decide) (hg _ v1) (va_eqt (hg _ v2)) (fun k hk => va_eqt (hg _ (w2 j (by omega) h1 k hk))) hA
  exact ⟨t, hT, va_Zof (hts _ v3) (hts (.initialized "DiverBottle") (by decide +kernel)) ht hA⟩
theorem e_str {A : Nat → Prop} (hts : ∀ w ∈ lw_tbl, w.before args s = true) (hg : ∀ w ∈ e_G, w.before args s = true) (hA : ∀ a : Nat, a < s.heap.size → ¬ A a) : ∃ adK adV : Nat → Nat, vk_S 11 q_strl q_sby adK adV A s s.heap ∧ ∀ i, i < 11 → vk_R "DiverBottle$Reader" (q_six i) (q_stx i) (adK i) s := by
  have w1 : ∀ i, i < 11 → q_strl.getD i 0 < 2 ^ 31 := by decide
  have w2 : ∀ i, i < 11 → Cond.exactly (.string "DiverBottle$Reader" (q_six i)) "java/lang/String" ∈ e_G ∧ Cond.eq (.field (.string "DiverBottle$Reader" (q_six i)) "java/lang/String" "coder" "B") (.int 0) ∈ e_G ∧ Cond.arrayOf (.field (.string "DiverBottle$Reader" (q_six i)) "java/lang/String" "value" "[B") .byte ∈ e_G ∧ Cond.eq (.length (.field (.string "DiverBottle$Reader" (q_six i)) "java/lang/String" "value" "[B")) (.int (Int32.ofNat (q_strl.getD i 0))) ∈ e_G ∧ Cond.stringRef "DiverBottle$Reader" (q_six i) (q_stx i) ∈ lw_tbl := by decide +kernel
  have w3 : ∀ i, i < 11 → ∀ j, j < q_strl.getD i 0 → Cond.eq (.elem (.field (.string "DiverBottle$Reader" (q_six i)) "java/lang/String" "value" "[B") (.int (Int32.ofNat j))) (.int ((q_sby.getD i []).getD j 0)) ∈ e_G := by decide +kernel
  have w4 : ∀ i, i < 11 → ∀ j, j < 11 → ¬ i = j → Cond.not (.eq (.string "DiverBottle$Reader" (q_six i)) (.string "DiverBottle$Reader" (q_six j))) ∈ e_G ∨ Cond.not (.eq (.string "DiverBottle$Reader" (q_six j)) (.string "DiverBottle$Reader" (q_six i))) ∈ e_G := by decide +kernel
  obtain ⟨adK, adV, h1, h2⟩ := vk_Sof (args := args) (s := s) (N := 11) (tm := fun i => .string "DiverBottle$Reader" (q_six i)) (len := q_strl) (byt := q_sby) (A := A) w1 (fun i hi => hg _ (w2 i hi).1) (fun i hi => hg _ (w2 i hi).2.1) (fun i hi => hg _ (w2 i hi).2.2.1) (fun i hi => hg _ (w2 i hi).2.2.2.1) (fun i hi j hj => hg _ (w3 i hi j hj)) (fun i j hi hj hn => (w4 i hi j hj hn).imp (fun z => hg _ z) (fun z => hg _ z)) hA
  exact ⟨adK, adV, h1, fun i hi => vk_R.of (A := args) (hts _ (w2 i hi).2.2.2.2) (h2 i hi)⟩
/-- the constants of the whole run -/
theorem e_X {A : Nat → Prop} {b L : Nat} {xs : Nat → Int32} {D : va_G} {cT : Nat → ClassId} {h0 : Nat} (hts : ∀ w ∈ lw_tbl, w.before args s = true) (hg : ∀ w ∈ e_G, w.before args s = true) (hA : ∀ a : Nat, a < s.heap.size → ¬ A a) (hX : va_X b L xs s s.heap) (hb : b < s.heap.size) : ∃ aS : Nat → Nat, aS 0 = b ∧ q_X (D, cT, h0, aS, L, xs) A s s.heap := by
  obtain ⟨t1, a1, z1⟩ := e_tab (A := A) hts hg hA 1 (by decide) (by decide)
  obtain ⟨t2, a2, z2⟩ := e_tab (A := A) hts hg hA 2 (by decide) (by decide)
  obtain ⟨t3, a3, z3⟩ := e_tab (A := A) hts hg hA 3 (by decide) (by decide)
  obtain ⟨adK, adV, hS, hR⟩ := e_str (A := A) hts hg hA
  have hc : va_Z "java/lang/String" "COMPACT_STRINGS" "Z" (.int 1) A s s.heap := va_Zof (hts _ (by decide +kernel)) (hts _ (by decide +kernel)) (va_eqt (hg _ (by decide +kernel))) hA
  obtain ⟨tq, hq⟩ : ∃ tq, va_Z "jdk/internal/util/Preconditions" "SIOOBE_FORMATTER" "Ljava/util/function/BiFunction;" .null A s s.heap ∨ va_Z "jdk/internal/util/Preconditions" "SIOOBE_FORMATTER" "Ljava/util/function/BiFunction;" (.ref tq) A s s.heap := by
    have z := va_Zqof (C := "jdk/internal/util/Preconditions") (n := "SIOOBE_FORMATTER") (d := "Ljava/util/function/BiFunction;") (A := A) (hts _ (by decide +kernel)) (hts _ (by decide +kernel)) (hg _ (by decide +kernel)) hA
    rcases z with z | ⟨t, z⟩
    · exact ⟨0, Or.inl z⟩
    · exact ⟨t, Or.inr z⟩
  have hsc : va_T .int b L (fun k => .int (xs k)) A s s.heap := by
    obtain ⟨scr, x1, x2, x3, x4, x5⟩ := hX
    exact ⟨scr, x1, x2, x3, by omega, by rw [x4], x5, hA b hb⟩
  have hn : ∀ w ∈ q_N, va_Nw w s := fun w hw => by
    have z := List.mem_filter.mp hw
    have ht : w.onTables = true := by
      have z2 := z.2
      cases w <;> first | rfl | cases z2
    exact va_Nw.of ht (hts w z.1)
  refine ⟨fun k => if k = 0 then b else if k = 1 then t1 else if k = 2 then t2 else if k = 3 then t3 else if k = 300 then tq else if k < 200 then adK (k - 100) else adV (k - 200), rfl, fun j h1 h3 => ?_, hsc, hn, ⟨va_AO.of (hts _ (by decide +kernel)), va_AO.of (hts _ (by decide +kernel)), va_AO.of (hts _ (by decide +kernel))⟩, hc, hq, ?_, fun i hi => ?_⟩
  · rcases (show j = 1 ∨ j = 2 ∨ j = 3 by omega) with rfl | rfl | rfl
    · exact ⟨a1, z1⟩
    · exact ⟨a2, z2⟩
    · exact ⟨a3, z3⟩
  · have ek : ∀ i, i < 11 → (fun k => if k = 0 then b else if k = 1 then t1 else if k = 2 then t2 else if k = 3 then t3 else if k = 300 then tq else if k < 200 then adK (k - 100) else adV (k - 200)) (100 + i) = adK i := fun i hi => by
      show (if 100 + i = 0 then b else if 100 + i = 1 then t1 else if 100 + i = 2 then t2 else if 100 + i = 3 then t3 else if 100 + i = 300 then tq else if 100 + i < 200 then adK (100 + i - 100) else adV (100 + i - 200)) = adK i
      rw [if_neg (by omega), if_neg (by omega), if_neg (by omega), if_neg (by omega), if_neg (by omega), if_pos (by omega), show 100 + i - 100 = i by omega]
    have ev : ∀ i, i < 11 → (fun k => if k = 0 then b else if k = 1 then t1 else if k = 2 then t2 else if k = 3 then t3 else if k = 300 then tq else if k < 200 then adK (k - 100) else adV (k - 200)) (200 + i) = adV i := fun i hi => by
      show (if 200 + i = 0 then b else if 200 + i = 1 then t1 else if 200 + i = 2 then t2 else if 200 + i = 3 then t3 else if 200 + i = 300 then tq else if 200 + i < 200 then adK (200 + i - 100) else adV (200 + i - 200)) = adV i
      rw [if_neg (by omega), if_neg (by omega), if_neg (by omega), if_neg (by omega), if_neg (by omega), if_neg (by omega), show 200 + i - 200 = i by omega]
    refine ⟨fun i hi => ?_, fun i j hi hj e => hS.2 i j hi hj ?_⟩
    · have z := hS.1 i hi
      rw [← ek i hi, ← ev i hi] at z
      exact z
    · have e2 := (ek i hi).symm.trans (e.trans (ek j hj))
      exact e2
  · have z := hR i hi
    have ek : (fun k => if k = 0 then b else if k = 1 then t1 else if k = 2 then t2 else if k = 3 then t3 else if k = 300 then tq else if k < 200 then adK (k - 100) else adV (k - 200)) (100 + i) = adK i := by
      show (if 100 + i = 0 then b else if 100 + i = 1 then t1 else if 100 + i = 2 then t2 else if 100 + i = 3 then t3 else if 100 + i = 300 then tq else if 100 + i < 200 then adK (100 + i - 100) else adV (100 + i - 200)) = adK i
      rw [if_neg (by omega), if_neg (by omega), if_neg (by omega), if_neg (by omega), if_neg (by omega), if_pos (by omega), show 100 + i - 100 = i by omega]
    rw [← ek] at z
    exact z
end EN
