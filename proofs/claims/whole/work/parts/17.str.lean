/-! STRINGS: the words of the text as constants, and String's own methods over them -/
theorem fS_v : Cond.fieldLink "java/lang/String" 9 "java/lang/String" "value" "[B" ∈ q_T := q_in 1399 (by decide +kernel) rfl
theorem fS_c : Cond.fieldLink "java/lang/String" 15 "java/lang/String" "coder" "B" ∈ q_T := q_in 1400 (by decide +kernel) rfl
theorem fS_k : Cond.fieldLink "java/lang/String" 38 "java/lang/String" "COMPACT_STRINGS" "Z" ∈ q_T := q_in 439 (by decide +kernel) rfl
theorem fS_f : Cond.fieldLink "java/lang/String" 1053 "jdk/internal/util/Preconditions" "SIOOBE_FORMATTER" "Ljava/util/function/BiFunction;" ∈ q_T := q_in 455 (by decide +kernel) rfl
theorem lJ0_335 : q_lk "java/lang/String" YJ0_coder_7d493 335 0 false := ⟨q_in 438 (by decide +kernel) rfl, q_in 88 (by decide +kernel) rfl, by decide +kernel, fun _ => q_in 435 (by decide +kernel) rfl, fun h => absurd h (by decide)⟩
theorem lJ0_492 : q_lk "java/lang/String" YJ0_isLatin1_aae02 492 0 false := ⟨q_in 448 (by decide +kernel) rfl, q_in 88 (by decide +kernel) rfl, by decide +kernel, fun _ => q_in 445 (by decide +kernel) rfl, fun h => absurd h (by decide)⟩
theorem lJ0_495 : q_lk "java/lang/String" YJ1_charAt_3b067 495 2 false := ⟨q_in 451 (by decide +kernel) rfl, q_in 89 (by decide +kernel) rfl, by decide +kernel, fun _ => q_in 449 (by decide +kernel) rfl, fun h => absurd h (by decide)⟩
theorem lJ1_9 : q_lk "java/lang/StringLatin1" YJ0_checkIndex_df160 9 2 false := ⟨q_in 454 (by decide +kernel) rfl, q_in 88 (by decide +kernel) rfl, by decide +kernel, fun _ => q_in 452 (by decide +kernel) rfl, fun h => absurd h (by decide)⟩
theorem lJ0_1059 : q_lk "java/lang/String" YJ3_checkIndex_8e157 1059 3 false := ⟨q_in 459 (by decide +kernel) rfl, q_in 90 (by decide +kernel) rfl, by decide +kernel, fun _ => q_in 457 (by decide +kernel) rfl, fun h => absurd h (by decide)⟩
section QT
variable {Y : q_Y} {E : q_E} {u v pc : Nat} {ls : List (Option Value)} {st : List Value} {sh : List q_S} {σ : q_M} {Q : q_P}
theorem q_i2c {x : Int32} (hd : decode (q_cc Y) pc = .ok (.i2c, 1)) (k : q_G Y E u v (pc + 1) ls (.int (x.toUInt32 % 65536).toInt32 :: st) sh σ Q) : q_G Y E u v pc ls (.int x :: st) sh σ Q :=
  fun p l e s m args below meth c A Z H locs lsA hC hF hW hl => lv_i2c hC.1 hC.2.1 hd rfl (k p l e s m args below meth c A Z H locs lsA hC hF hW hl)
theorem q_ldcS (j : Nat) (hj : j < 11) (hy : (q_y Y).cls = "DiverBottle$Reader") (hd : decode (q_cc Y) pc = .ok (.ldc (q_six j), 2)) (kk : q_G Y E u v (pc + 2) ls (.ref (1000000 + (100 + j)) :: st) sh σ Q) : q_G Y E u v pc ls st sh σ Q := by
  intro p l e s m args below meth c A Z H locs lsA hC hF hW hl
  have k0 := kk p l e s m args below meth c A Z H locs lsA hC hF hW hl
  have e0 : (Value.ref (1000000 + (100 + j)) :: st).map (q_v E) = .ref (q_aS E (100 + j)) :: st.map (q_v E) := by
    show Value.ref (q_a E (1000000 + (100 + j))) :: _ = _
    rw [q_a_hi]
  rw [e0] at k0
  exact va_ldcS hC.1 hC.2.1 (by have := hC.2.2.2.1; rw [hy] at this; exact this) (hC.2.2.2.2.2.2.1.2.2.2.2.2.2.2 j hj) hd k0
theorem q_sgv (j : Nat) (hj : j < 11) (hy : (q_y Y).cls = "java/lang/String") (hd : decode (q_cc Y) pc = .ok (.getfield 9, 3)) (kk : q_G Y E u v (pc + 3) ls (.ref (1000000 + (200 + j)) :: st) sh σ Q) : q_G Y E u v pc ls (.ref (1000000 + (100 + j)) :: st) sh σ Q := by
  intro p l e s m args below meth c A Z H locs lsA hC hF hW hl
  have k0 := kk p l e s m args below meth c A Z H locs lsA hC hF hW hl
  have e0 : (Value.ref (1000000 + (200 + j)) :: st).map (q_v E) = .ref (q_aS E (200 + j)) :: st.map (q_v E) := by
    show Value.ref (q_a E (1000000 + (200 + j))) :: _ = _
    rw [q_a_hi]
  rw [e0] at k0
  show W p l e (q_rm Y) s m args below meth c H locs u v Z (F0 m pc lsA (.ref (q_a E (1000000 + (100 + j))) :: st.map (q_v E)))
  rw [q_a_hi]
  exact vk_getf hC.1 hC.2.1 (hC.2.2.2.2.2.2.1.2.2.2.2.2.2.1.1 j hj).2.2.1 hW.2.2.1 (by have := hC.2.2.2.1; rw [hy] at this; exact this) (hC.2.2.2.2.1 _ (List.mem_cons_of_mem _ fS_v)) (fun _ h => h) hd k0
theorem q_sgc (j : Nat) (hj : j < 11) (hy : (q_y Y).cls = "java/lang/String") (hd : decode (q_cc Y) pc = .ok (.getfield 15, 3)) (kk : q_G Y E u v (pc + 3) ls (.int 0 :: st) sh σ Q) : q_G Y E u v pc ls (.ref (1000000 + (100 + j)) :: st) sh σ Q := by
  intro p l e s m args below meth c A Z H locs lsA hC hF hW hl
  have k0 := kk p l e s m args below meth c A Z H locs lsA hC hF hW hl
  show W p l e (q_rm Y) s m args below meth c H locs u v Z (F0 m pc lsA (.ref (q_a E (1000000 + (100 + j))) :: st.map (q_v E)))
  rw [q_a_hi]
  exact vk_getf hC.1 hC.2.1 (hC.2.2.2.2.2.2.1.2.2.2.2.2.2.1.1 j hj).2.1 hW.2.2.1 (by have := hC.2.2.2.1; rw [hy] at this; exact this) (hC.2.2.2.2.1 _ (List.mem_cons_of_mem _ fS_c)) (fun _ h => h) hd k0
theorem q_sal (j : Nat) (hj : j < 11) (hd : decode (q_cc Y) pc = .ok (.arraylength, 1)) (kk : q_G Y E u v (pc + 1) ls (.int (Int32.ofNat (q_strl.getD j 0)) :: st) sh σ Q) : q_G Y E u v pc ls (.ref (1000000 + (200 + j)) :: st) sh σ Q := by
  intro p l e s m args below meth c A Z H locs lsA hC hF hW hl
  show W p l e (q_rm Y) s m args below meth c H locs u v Z (F0 m pc lsA (.ref (q_a E (1000000 + (200 + j))) :: st.map (q_v E)))
  rw [q_a_hi]
  exact va_tlen hC.1 hC.2.1 (hC.2.2.2.2.2.2.1.2.2.2.2.2.2.1.1 j hj).2.2.2 hW.2.2.1 rfl hd (kk p l e s m args below meth c A Z H locs lsA hC hF hW hl)
theorem q_sbl (j k : Nat) (hj : j < 11) {i : Int32} (hk : i.toInt = (k : Int)) (hn : k < q_strl.getD j 0) (hd : decode (q_cc Y) pc = .ok (.baload, 1)) (kk : q_G Y E u v (pc + 1) ls (.int ((q_sby.getD j []).getD k 0) :: st) sh σ Q) : q_G Y E u v pc ls (.int i :: .ref (1000000 + (200 + j)) :: st) sh σ Q := by
  intro p l e s m args below meth c A Z H locs lsA hC hF hW hl
  obtain ⟨h1, h2⟩ := q_ix hk hn
  show W p l e (q_rm Y) s m args below meth c H locs u v Z (F0 m pc lsA (.int i :: .ref (q_a E (1000000 + (200 + j))) :: st.map (q_v E)))
  rw [q_a_hi]
  exact va_tb hC.1 hC.2.1 (hC.2.2.2.2.2.2.1.2.2.2.2.2.2.1.1 j hj).2.2.2 hW.2.2.1 h1 (by rw [h2]; rfl) hd (kk p l e s m args below meth c A Z H locs lsA hC hF hW hl)
theorem q_gsk (hy : (q_y Y).cls = "java/lang/String") (hd : decode (q_cc Y) pc = .ok (.getstatic 38, 3)) (kk : q_G Y E u v (pc + 3) ls (.int 1 :: st) sh σ Q) : q_G Y E u v pc ls st sh σ Q := by
  intro p l e s m args below meth c A Z H locs lsA hC hF hW hl
  exact va_gets hC.1 hC.2.1 hC.2.2.2.2.2.2.1.2.2.2.2.1 hW.2.2.1 (by have := hC.2.2.2.1; rw [hy] at this; exact this) (hC.2.2.2.2.1 _ (List.mem_cons_of_mem _ fS_k)) (fun _ h => h) hd (kk p l e s m args below meth c A Z H locs lsA hC hF hW hl)
theorem q_gsf (hy : (q_y Y).cls = "java/lang/String") (hd : decode (q_cc Y) pc = .ok (.getstatic 1053, 3)) (kk : ∀ w, w = .null ∨ w = .ref (1000000 + 300) → q_G Y E u v (pc + 3) ls (w :: st) sh σ Q) : q_G Y E u v pc ls st sh σ Q := by
  intro p l e s m args below meth c A Z H locs lsA hC hF hW hl
  rcases hC.2.2.2.2.2.2.1.2.2.2.2.2.1 with hz | hz
  · exact va_gets hC.1 hC.2.1 hz hW.2.2.1 (by have := hC.2.2.2.1; rw [hy] at this; exact this) (hC.2.2.2.2.1 _ (List.mem_cons_of_mem _ fS_f)) (fun _ h => h) hd (kk .null (Or.inl rfl) p l e s m args below meth c A Z H locs lsA hC hF hW hl)
  · have k0 := kk (.ref (1000000 + 300)) (Or.inr rfl) p l e s m args below meth c A Z H locs lsA hC hF hW hl
    have e0 : (Value.ref (1000000 + 300) :: st).map (q_v E) = .ref (q_aS E 300) :: st.map (q_v E) := by
      show Value.ref (q_a E (1000000 + 300)) :: _ = _
      rw [q_a_hi]
    rw [e0] at k0
    exact va_gets hC.1 hC.2.1 hz hW.2.2.1 (by have := hC.2.2.2.1; rw [hy] at this; exact this) (hC.2.2.2.2.1 _ (List.mem_cons_of_mem _ fS_f)) (fun _ h => h) hd k0
theorem q_callT {Y2 : q_Y} {idx n : Nat} {av rest : List Value} {x : Int32} (j : Nat) (hj : j < 11) (hk : q_lk (q_y Y).cls Y2 idx n false) (hst2 : Cond.instanceMethod (q_y Y2) ∈ q_T ∧ Cond.selects (q_y Y2).cls (q_y Y2) (q_y Y2) ∈ q_T) (hcl : (q_y Y2).cls = "java/lang/String") (hd : decode (q_cc Y) pc = .ok (.invokevirtual idx, 3)) (hc : q_Ct Y2 (.ref (1000000 + (100 + j)) :: av) sh σ (q_is (some x) sh σ)) (hst : av.reverse ++ .ref (1000000 + (100 + j)) :: rest = st) (hn : av.length = n) (hsm : (rest.map fun w => w.category).sum ≤ 8) (hR : q_rr Y Y2 u v)
    (kk : q_G Y E (u + (q_rm Y2).cells) (v + (q_rm Y2).slots) (pc + 3) ls (.int x :: rest) sh σ Q) : q_G Y E u v pc ls st sh σ Q := by
  intro p l e s m args below meth c A Z H locs lsA hC hF hW hl T hT X
  subst hst
  obtain ⟨k1, k2, k3, k4, k5⟩ := hk
  have hts := hC.2.2.2.2.1
  have ok : ∀ w ∈ q_T, w.before args s = true := fun w hw => hts w (List.mem_cons_of_mem _ hw)
  refine q_cont (Y2 := Y2) (Q2 := q_is (some x) sh σ) (rest := rest) (a := (Value.ref (q_a E (1000000 + (100 + j))) :: av.map (q_v E)).toArray) hC hF hW hl ?_ hR.2 (fun r a b h => by obtain ⟨rfl, rfl, rfl⟩ := h; exact kk) hT X
  have hrecv : ∃ cell : Cell, H[q_a E (1000000 + (100 + j))]? = some cell ∧ cell.vm.isStatics = false ∧ s.vm.findClass (q_y Y2).cls = some cell.cls := by
    rw [q_a_hi, hcl]
    exact vk_recv (i := j) (adK := fun i => q_aS E (100 + i)) hC.2.2.2.2.2.2.1.2.2.2.2.2.2.1 hj hW.2.2.1
  have hp : PreV s H (q_y Y2).cls (q_a E (1000000 + (100 + j))) (va_Pc ((Value.ref (1000000 + (100 + j)) :: av).map (q_v E)) (q_Pr E sh σ)) (av.map (q_v E)) := ⟨q_Pr_blind _ E sh σ, hrecv, fun U hU hWm => ⟨rfl, q_pre hC hW hT X hU hWm⟩⟩
  have hstk : (F0 m pc lsA ((av.reverse ++ .ref (1000000 + (100 + j)) :: rest).map (q_v E))).stack = (av.map (q_v E)).reverse ++ .ref (q_a E (1000000 + (100 + j))) :: rest.map (q_v E) := by
    show (av.reverse ++ .ref (1000000 + (100 + j)) :: rest).map (q_v E) = _
    rw [List.map_append, List.map_reverse]
    rfl
  have hroom : 2 * (F0 m pc lsA ((av.reverse ++ .ref (1000000 + (100 + j)) :: rest).map (q_v E))).monitorRoom + ((rest.map (q_v E)).map fun w => w.category).sum ≤ 8 := lv_room (by rw [q_catsum]; exact hsm)
  exact va_runV (As := av.map (q_v E)) (rest := rest.map (q_v E)) ⟨hC.1, hC.2.1, hC.2.2.1, hC.2.2.2.1, hts⟩ (hc l E) ⟨callB_of n hts (q_good k1) rfl rfl rfl (ok _ k2) (ok _ (k4 rfl)) k3 hR.1, ok _ hst2.1, ok _ hst2.2⟩ hp rfl (by rw [List.length_map]; exact hn) hl.1 hstk hroom hd hR.2
end QT

set_option maxHeartbeats 4000000 in
set_option maxRecDepth 100000 in
theorem kS_coder {sh : List q_S} {σ : q_M} (j : Nat) (hj : j < 11) : q_Ct YJ0_coder_7d493 [.ref (1000000 + (100 + j))] sh σ (q_is (some 0) sh σ) := by
  refine q_ctJ (n := 0) (by decide +kernel) (by decide) rfl (fun _ => Nat.le_of_ble_eq_true rfl) (fun E => ?_)
  refine q_gsk rfl dJ0_coder_7d493_0 ?_
  refine q_if_eq 13 dJ0_coder_7d493_3 (by decide) (fun h => absurd h (by decide)) (fun _ => ?_)
  refine q_aload_n dJ0_coder_7d493_6 rfl ?_
  refine q_sgc j hj rfl dJ0_coder_7d493_7 ?_
  refine q_goto 14 dJ0_coder_7d493_10 (by decide) ?_
  exact q_iret dJ0_coder_7d493_14 ⟨rfl, rfl, rfl⟩ ⟨_, rfl, rfl⟩ (Or.inl rfl)

set_option maxHeartbeats 4000000 in
set_option maxRecDepth 100000 in
theorem kS_lat {sh : List q_S} {σ : q_M} (j : Nat) (hj : j < 11) : q_Ct YJ0_isLatin1_aae02 [.ref (1000000 + (100 + j))] sh σ (q_is (some 1) sh σ) := by
  refine q_ctJ (n := 0) (by decide +kernel) (by decide) rfl (fun _ => Nat.le_of_ble_eq_true rfl) (fun E => ?_)
  refine q_gsk rfl dJ0_isLatin1_aae02_0 ?_
  refine q_if_eq 17 dJ0_isLatin1_aae02_3 (by decide) (fun h => absurd h (by decide)) (fun _ => ?_)
  refine q_aload_n dJ0_isLatin1_aae02_6 rfl ?_
  refine q_sgc j hj rfl dJ0_isLatin1_aae02_7 ?_
  refine q_if_ne 17 dJ0_isLatin1_aae02_10 (by decide) (fun h => absurd rfl h) (fun _ => ?_)
  refine q_iconst (x := 1) dJ0_isLatin1_aae02_13 (by decide) ?_
  refine q_goto 18 dJ0_isLatin1_aae02_14 (by decide) ?_
  exact q_iret dJ0_isLatin1_aae02_18 ⟨rfl, rfl, rfl⟩ ⟨_, rfl, rfl⟩ (Or.inl rfl)

set_option maxHeartbeats 4000000 in
set_option maxRecDepth 100000 in
theorem kS_len {sh : List q_S} {σ : q_M} (j : Nat) (hj : j < 11) : q_Ct YJ0_length_8abf5 [.ref (1000000 + (100 + j))] sh σ (q_is (some (Int32.ofNat (q_strl.getD j 0))) sh σ) := by
  refine q_ctJ (n := 0) (by decide +kernel) (by decide) rfl (fun _ => Nat.le_of_ble_eq_true rfl) (fun E => ?_)
  refine q_aload_n dJ0_length_8abf5_0 rfl ?_
  refine q_sgv j hj rfl dJ0_length_8abf5_1 ?_
  refine q_sal j hj dJ0_length_8abf5_4 ?_
  refine q_aload_n dJ0_length_8abf5_5 rfl ?_
  refine q_callT j hj lJ0_335 vJ0_coder_7d493 rfl dJ0_length_8abf5_6 (kS_coder j hj) rfl rfl (Nat.le_of_ble_eq_true rfl) (by decide) ?_
  refine q_ishr dJ0_length_8abf5_9 ?_
  refine q_iret dJ0_length_8abf5_10 ⟨congrArg some (sb_shr0 _), rfl, rfl⟩ ⟨_, rfl, rfl⟩ (Or.inl rfl)

set_option maxHeartbeats 4000000 in
set_option maxRecDepth 100000 in
theorem kS_pre {sh : List q_S} {σ : q_M} {i n : Int32} {w : Value} (hw : w = .null ∨ w = .ref (1000000 + 300)) (h0 : 0 ≤ i.toInt) (h1 : i.toInt < n.toInt) : q_Ct YJ3_checkIndex_8e157 [.int i, .int n, w] sh σ (q_is (some i) sh σ) := by
  rcases hw with rfl | rfl <;> refine q_ctJ (n := 0) (by decide +kernel) (by decide) rfl (fun _ => Nat.le_of_ble_eq_true rfl) (fun E => ?_)
  all_goals
    (refine q_iload_n dJ3_checkIndex_8e157_0 rfl ?_
     refine q_zlt 9 dJ3_checkIndex_8e157_1 (by decide) (fun h => absurd h (by omega)) (fun _ => ?_)
     refine q_iload_n dJ3_checkIndex_8e157_4 rfl ?_
     refine q_iload_n dJ3_checkIndex_8e157_5 rfl ?_
     refine q_clt 16 dJ3_checkIndex_8e157_6 (by decide) (fun _ => ?_) (fun h => absurd h (by omega))
     refine q_iload_n dJ3_checkIndex_8e157_16 rfl ?_
     exact q_iret dJ3_checkIndex_8e157_17 ⟨rfl, rfl, rfl⟩ ⟨_, rfl, rfl⟩ (Or.inl rfl))

set_option maxHeartbeats 4000000 in
set_option maxRecDepth 100000 in
theorem kS_chk {sh : List q_S} {σ : q_M} {i n : Int32} (h0 : 0 ≤ i.toInt) (h1 : i.toInt < n.toInt) : q_Ct YJ0_checkIndex_df160 [.int i, .int n] sh σ (q_is none sh σ) := by
  refine q_ctJ (n := 0) (by decide +kernel) (by decide) rfl (fun _ => Nat.le_of_ble_eq_true rfl) (fun E => ?_)
  refine q_iload_n dJ0_checkIndex_df160_0 rfl ?_
  refine q_iload_n dJ0_checkIndex_df160_1 rfl ?_
  refine q_gsf rfl dJ0_checkIndex_df160_2 (fun w hw => ?_)
  refine q_cSi lJ0_1059 sJ3_checkIndex_8e157 dJ0_checkIndex_df160_5 (kS_pre hw h0 h1) rfl rfl (Nat.le_of_ble_eq_true rfl) (by decide) ?_
  refine q_pop rfl dJ0_checkIndex_df160_8 ?_
  exact q_vret dJ0_checkIndex_df160_9 ⟨rfl, rfl, rfl⟩ rfl rfl

set_option maxHeartbeats 4000000 in
set_option maxRecDepth 100000 in
theorem kS_lchar {sh : List q_S} {σ : q_M} (j : Nat) (hj : j < 11) {i : Int32} {k : Nat} (hk : i.toInt = (k : Int)) (hn : k < q_strl.getD j 0) (hl : q_strl.getD j 0 < 2 ^ 31) : q_Ct YJ1_charAt_3b067 [.ref (1000000 + (200 + j)), .int i] sh σ (q_is (some (((q_sby.getD j []).getD k 0 &&& 255).toUInt32 % 65536).toInt32) sh σ) := by
  refine q_ctJ (n := 0) (by decide +kernel) (by decide) rfl (fun _ => Nat.le_of_ble_eq_true rfl) (fun E => ?_)
  refine q_iload_n dJ1_charAt_3b067_0 rfl ?_
  refine q_aload_n dJ1_charAt_3b067_1 rfl ?_
  refine q_sal j hj dJ1_charAt_3b067_2 ?_
  refine q_cSv lJ1_9 sJ0_checkIndex_df160 dJ1_charAt_3b067_3 (kS_chk (by omega) (by rw [hk]; have := nI_toInt hl; unfold nI at this; rw [this]; omega)) rfl rfl (Nat.le_of_ble_eq_true rfl) (by decide) ?_
  refine q_aload_n dJ1_charAt_3b067_6 rfl ?_
  refine q_iload_n dJ1_charAt_3b067_7 rfl ?_
  refine q_sbl j k hj hk hn dJ1_charAt_3b067_8 ?_
  refine q_sipush (x := 255) dJ1_charAt_3b067_9 (by decide) ?_
  refine q_iand dJ1_charAt_3b067_12 ?_
  refine q_i2c dJ1_charAt_3b067_13 ?_
  exact q_iret dJ1_charAt_3b067_14 ⟨rfl, rfl, rfl⟩ ⟨_, rfl, pk_nc _⟩ (Or.inl rfl)

set_option maxHeartbeats 4000000 in
set_option maxRecDepth 100000 in
theorem kS_char {sh : List q_S} {σ : q_M} (j : Nat) (hj : j < 11) {i : Int32} {k : Nat} (hk : i.toInt = (k : Int)) (hn : k < q_strl.getD j 0) (hl : q_strl.getD j 0 < 2 ^ 31) : q_Ct YJ0_charAt_5068e [.ref (1000000 + (100 + j)), .int i] sh σ (q_is (some (((q_sby.getD j []).getD k 0 &&& 255).toUInt32 % 65536).toInt32) sh σ) := by
  refine q_ctJ (n := 0) (by decide +kernel) (by decide) rfl (fun _ => Nat.le_of_ble_eq_true rfl) (fun E => ?_)
  refine q_aload_n dJ0_charAt_5068e_0 rfl ?_
  refine q_callT j hj lJ0_492 vJ0_isLatin1_aae02 rfl dJ0_charAt_5068e_1 (kS_lat j hj) rfl rfl (Nat.le_of_ble_eq_true rfl) (by decide) ?_
  refine q_if_eq 16 dJ0_charAt_5068e_4 (by decide) (fun h => absurd h (by decide)) (fun _ => ?_)
  refine q_aload_n dJ0_charAt_5068e_7 rfl ?_
  refine q_sgv j hj rfl dJ0_charAt_5068e_8 ?_
  refine q_iload_n dJ0_charAt_5068e_11 rfl ?_
  refine q_cSi lJ0_495 sJ1_charAt_3b067 dJ0_charAt_5068e_12 (kS_lchar j hj hk hn hl) rfl rfl (Nat.le_of_ble_eq_true rfl) (by decide) ?_
  exact q_iret dJ0_charAt_5068e_15 ⟨rfl, rfl, rfl⟩ ⟨_, rfl, pk_nc _⟩ (Or.inl rfl)
