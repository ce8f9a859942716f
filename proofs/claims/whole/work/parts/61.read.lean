/-! read, on both sides -/
theorem q_lr {Y : q_Y} {E : q_E} {u v pc : Nat} {ls ls' : List (Option Value)} {st : List Value} {sh : List q_S} {σ : q_M} {Q : q_P} (h : ls = ls') (k : q_G Y E u v pc ls' st sh σ Q) : q_G Y E u v pc ls st sh σ Q := h ▸ k
def rs_f (ln sz asked : Int32) (P : Int) : Int32 := if ln = -4 then 1 else if ¬ ln = asked then 3 else if 0 ≤ P ∧ P + 2 < sz.toInt then 0 else 2
def rs_g (ce : Nat → Int32) (p0 i : Nat) : Int32 × Int32 × Int32 := (ce (p0 + 3 * i), ce (p0 + 3 * i + 1), q_b (decide (ce (p0 + 3 * i + 2) = 1)))
def rs_v (H : Int32) (ce : Nat → Int32) (p0 i : Nat) : Bool := q_win (ce (p0 + 3 * i)) 0 500 && q_win (ce (p0 + 3 * i + 1)) 0 H && q_win (ce (p0 + 3 * i + 2)) 0 1
def rs_r (ln sz asked f0 H : Int32) (ce : Nat → Int32) (sc : Nat) : Nat → Nat → Int32 ⊕ (Nat × Int32)
  | 0, i => .inr (i, 0)
  | n + 1, i => if ¬ rs_f ln sz asked (f0.toInt + 3 * i) = 0 then .inr (i, rs_f ln sz asked (f0.toInt + 3 * i)) else if rs_v H ce f0.toInt.toNat i = false then .inl (-20 - nI i) else if 12 ≤ sc + i then .inl (-3) else rs_r ln sz asked f0 H ce sc n (i + 1)
theorem rs_f_0 {ln sz asked : Int32} {P : Int} (h : rs_f ln sz asked P = 0) : ¬ ln = -4 ∧ ln = asked ∧ 0 ≤ P ∧ P + 2 < sz.toInt := by
  unfold rs_f at h
  split at h
  · exact absurd h (by decide)
  split at h
  · exact absurd h (by decide)
  split at h
  · rename_i h1 h2 h3
    exact ⟨h1, Decidable.of_not_not h2, h3⟩
  · exact absurd h (by decide)
theorem rs_f3 {ln sz asked at0 : Int32} (h0 : 0 ≤ sz.toInt) (h40 : sz.toInt ≤ 40) : q_f3 ln sz asked at0 = rs_f ln sz asked at0.toInt := by
  have e0 : (0 : Int32).toInt = 0 := rfl
  have e1 : (1 : Int32).toInt = 1 := rfl
  have e2 : (2 : Int32).toInt = 2 := rfl
  have es : (sz - 1).toInt = sz.toInt - 1 := by rw [i_sub (by omega) (by omega), e1]
  unfold q_f3 rs_f
  by_cases h4 : ln = -4
  · rw [if_neg (fun z => z.1 h4), if_pos h4]
    have ha : ∀ x, q_fa ln sz x = 1 := fun x => if_pos h4
    rw [ha, if_pos (by decide)]
  · by_cases ha : ln = asked
    · rw [if_neg (fun z => z.2 ha), if_neg h4, if_neg (show ¬ ¬ ln = asked from fun z => z ha)]
      have hf : ∀ x, q_fa ln sz x = if 0 ≤ x.toInt ∧ x.toInt < sz.toInt then 0 else 2 := by
        intro x
        unfold q_fa
        rw [if_neg h4]
        by_cases hx : 0 ≤ x.toInt ∧ x.toInt < sz.toInt
        · rw [if_pos hx, if_pos (show q_win x 0 (sz - 1) = true from decide_eq_true (by omega))]
        · rw [if_neg hx, if_neg (by intro z; exact hx (by have := q_win_t z; omega))]
      by_cases hx : 0 ≤ at0.toInt ∧ at0.toInt < sz.toInt
      · have a1 : (at0 + 1).toInt = at0.toInt + 1 := by rw [i_add (by omega) (by omega), e1]
        have a2 : (at0 + 2).toInt = at0.toInt + 2 := by rw [i_add (by omega) (by omega), e2]
        have f0 : q_fa ln sz at0 = 0 := by rw [hf, if_pos hx]
        rw [f0, if_neg (fun z => z rfl)]
        by_cases hy : at0.toInt + 1 < sz.toInt
        · have f1 : q_fa ln sz (at0 + 1) = 0 := by rw [hf, if_pos (by omega)]
          rw [f1, if_neg (fun z => z rfl), hf]
          by_cases hz : at0.toInt + 2 < sz.toInt
          · rw [if_pos (show 0 ≤ at0.toInt ∧ at0.toInt + 2 < sz.toInt by omega), if_pos (by omega)]
          · rw [if_neg (show ¬ (0 ≤ at0.toInt ∧ at0.toInt + 2 < sz.toInt) by omega), if_neg (by omega)]
        · have f1 : q_fa ln sz (at0 + 1) = 2 := by rw [hf, if_neg (by omega)]
          rw [f1, if_pos (by decide), if_neg (by omega)]
      · have f0 : q_fa ln sz at0 = 2 := by rw [hf, if_neg hx]
        rw [f0, if_pos (by decide), if_neg (by omega)]
    · rw [if_pos ⟨h4, ha⟩, if_neg h4, if_pos ha]
theorem rs_r_ok {ln sz asked f0 H : Int32} {ce : Nat → Int32} {sc : Nat} : ∀ (n i : Nat) (y : Nat × Int32), rs_r ln sz asked f0 H ce sc n i = .inr y → i ≤ y.1 ∧ y.1 ≤ i + n ∧ ∀ k, i ≤ k → k < y.1 → rs_f ln sz asked (f0.toInt + 3 * k) = 0 ∧ rs_v H ce f0.toInt.toNat k = true ∧ sc + k < 12
  | 0, i, y, h => by
    cases h
    exact ⟨Nat.le_refl _, Nat.le_refl _, fun k h1 h2 => by have h2' : k < i := h2; omega⟩
  | n + 1, i, y, h => by
    rw [rs_r] at h
    split at h
    · cases h
      exact ⟨Nat.le_refl _, Nat.le_add_right _ _, fun k h1 h2 => by have h2' : k < i := h2; omega⟩
    split at h
    · cases h
    split at h
    · cases h
    · rename_i g1 g2 g3
      obtain ⟨a, b, d⟩ := rs_r_ok n (i + 1) y h
      refine ⟨by omega, by omega, fun k h1 h2 => ?_⟩
      by_cases hk : k = i
      · subst hk
        exact ⟨Decidable.of_not_not g1, by simpa using g2, by omega⟩
      · exact d k (by omega) h2
def rs_ap (σ : q_M) (a t p k : Nat) (gg : Nat → Int32 × Int32 × Int32) (s : Nat) : Nat → q_M
  | 0 => σ
  | i + 1 => q_sn (rs_ap σ a t p k gg s i) a t p k (s + i) (gg i).1 (gg i).2.1 (gg i).2.2
theorem rs_ap_ne {σ : q_M} {a t p k : Nat} {gg : Nat → Int32 × Int32 × Int32} {s x : Nat} (h1 : x ≠ a) (h2 : x ≠ t) (h3 : x ≠ p) (h4 : x ≠ k) : ∀ i, rs_ap σ a t p k gg s i x = σ x
  | 0 => rfl
  | i + 1 => by
    rw [rs_ap, q_sn, q_up_ne h1, q_up_ne h4, q_up_ne h3, q_up_ne h2]
    exact rs_ap_ne h1 h2 h3 h4 i
theorem rs_ap_a {σ : q_M} {a t p k : Nat} {gg : Nat → Int32 × Int32 × Int32} {s : Nat} (h : σ a 3 = nI s) : ∀ i, rs_ap σ a t p k gg s i a 3 = nI (s + i)
  | 0 => h
  | i + 1 => q_up_at _ _ _ _
theorem rs_ap_o {σ : q_M} {a t p k : Nat} {gg : Nat → Int32 × Int32 × Int32} {s : Nat} (h2 : a ≠ t) (h3 : a ≠ p) (h4 : a ≠ k) {j : Nat} (hj : ¬ j = 3) : ∀ i, rs_ap σ a t p k gg s i a j = σ a j
  | 0 => rfl
  | i + 1 => by
    rw [rs_ap, q_sn, q_up_f hj, q_up_ne h4, q_up_ne h3, q_up_ne h2]
    exact rs_ap_o h2 h3 h4 hj i
theorem rs_ap_t {σ : q_M} {a t p k : Nat} {gg : Nat → Int32 × Int32 × Int32} {s : Nat} (h1 : t ≠ a) (h2 : t ≠ p) (h3 : t ≠ k) {j : Nat} : ∀ i, rs_ap σ a t p k gg s i t j = if s ≤ j ∧ j < s + i then (gg (j - s)).1 else σ t j
  | 0 => by rw [if_neg (by omega)]; rfl
  | i + 1 => by
    rw [rs_ap, q_sn, q_up_ne h1, q_up_ne h3, q_up_ne h2]
    by_cases hj : j = s + i
    · subst hj
      rw [q_up_at, if_pos (by omega), show s + i - s = i by omega]
    · rw [q_up_f hj, rs_ap_t h1 h2 h3 i]
      by_cases hj2 : s ≤ j ∧ j < s + i
      · rw [if_pos hj2, if_pos (by omega)]
      · rw [if_neg hj2, if_neg (by omega)]
theorem rs_ap_p {σ : q_M} {a t p k : Nat} {gg : Nat → Int32 × Int32 × Int32} {s : Nat} (h1 : p ≠ a) (h2 : p ≠ t) (h3 : p ≠ k) {j : Nat} : ∀ i, rs_ap σ a t p k gg s i p j = if s ≤ j ∧ j < s + i then (gg (j - s)).2.1 else σ p j
  | 0 => by rw [if_neg (by omega)]; rfl
  | i + 1 => by
    rw [rs_ap, q_sn, q_up_ne h1, q_up_ne h3]
    by_cases hj : j = s + i
    · subst hj
      rw [q_up_at, if_pos (by omega), show s + i - s = i by omega]
    · rw [q_up_f hj, q_up_ne h2, rs_ap_p h1 h2 h3 i]
      by_cases hj2 : s ≤ j ∧ j < s + i
      · rw [if_pos hj2, if_pos (by omega)]
      · rw [if_neg hj2, if_neg (by omega)]
theorem rs_ap_k {σ : q_M} {a t p k : Nat} {gg : Nat → Int32 × Int32 × Int32} {s : Nat} (h1 : k ≠ a) (h2 : k ≠ t) (h3 : k ≠ p) {j : Nat} : ∀ i, rs_ap σ a t p k gg s i k j = if s ≤ j ∧ j < s + i then (gg (j - s)).2.2 else σ k j
  | 0 => by rw [if_neg (by omega)]; rfl
  | i + 1 => by
    rw [rs_ap, q_sn, q_up_ne h1]
    by_cases hj : j = s + i
    · subst hj
      rw [q_up_at, if_pos (by omega), show s + i - s = i by omega]
    · rw [q_up_f hj, q_up_ne h3, q_up_ne h2, rs_ap_k h1 h2 h3 i]
      by_cases hj2 : s ≤ j ∧ j < s + i
      · rw [if_pos hj2, if_pos (by omega)]
      · rw [if_neg hj2, if_neg (by omega)]
def rs_cm (σ : q_M) (j : Nat) (f0 : Int32) (i : Nat) : q_M := rs_ap (q_up σ 64 3 0) 64 65 66 67 (rs_g (σ (57 + 2 * j)) f0.toInt.toNat) 0 i
theorem rs_cm_ne {σ : q_M} {j : Nat} {f0 : Int32} {i x : Nat} (h : x < 64 ∨ 67 < x) : rs_cm σ j f0 i x = σ x := by
  unfold rs_cm
  rw [rs_ap_ne (by omega) (by omega) (by omega) (by omega), q_up_ne (by omega)]
theorem rs_cm_3 (σ : q_M) (j : Nat) (f0 : Int32) (i : Nat) : rs_cm σ j f0 i 64 3 = nI i := by
  unfold rs_cm
  rw [rs_ap_a (show q_up σ 64 3 0 64 3 = nI 0 from q_up_at _ _ _ _), Nat.zero_add]
def rs_PC (σ : q_M) (j : Nat) (f0 : Int32) (sc : Nat) (res : Int32 ⊕ (Nat × Int32)) : q_P := fun r a τ => a = q_SH ∧ match res with
  | .inl x => r = some x ∧ ∀ x, ¬ (64 ≤ x ∧ x ≤ 67) → τ x = σ x
  | .inr y => r = some (nI y.1) ∧ τ = q_up (rs_ap (rs_cm σ j f0 y.1) 19 20 21 22 (rs_g (σ (57 + 2 * j)) f0.toInt.toNat) sc y.1) 0 10 y.2

set_option maxHeartbeats 1000000 in
set_option maxRecDepth 100000 in
theorem lpX7_read2 {E : q_E} {σ : q_M} {j n0 w sc : Nat} {l f0 rs : Int32} {o8 o9 o10 o11 : Option Value} (hsc : σ 19 3 = nI sc) (h12 : sc + w ≤ 12) : ∀ (n : Nat) (i : Nat), w + 1 ≤ i + n → i ≤ w → q_G YX7_read E 0 0 207 [some (.ref 0), some (.int (nI j)), some (.int l), some (.int f0), some (.int (nI n0)), some (.ref (56 + 2 * j)), some (.int (rs)), some (.int (nI i)), o8, o9, o10, o11] [] q_SH (rs_ap (rs_cm σ j f0 w) 19 20 21 22 (rs_g (σ (57 + 2 * j)) f0.toInt.toNat) sc i) (rs_PC σ j f0 sc (.inr (w, rs))) := by
  intro n
  induction n with
  | zero =>
    intro i hm h0
    exact absurd hm (by omega)
  | succ n ih =>
    intro i hm h0
    have hit := nI_toInt (n := i) (by omega)
    have hwt := nI_toInt (n := w) (by omega)
    have hsc2 : rs_cm σ j f0 w 19 3 = nI sc := by rw [rs_cm_ne (by decide)]; exact hsc
    have hb : ((rs_g (σ (57 + 2 * j)) f0.toInt.toNat) i).2.2 = 0 ∨ ((rs_g (σ (57 + 2 * j)) f0.toInt.toNat) i).2.2 = 1 := by
      show q_b _ = 0 ∨ q_b _ = 1
      cases decide (σ (57 + 2 * j) (f0.toInt.toNat + 3 * i + 2) = 1)
      · exact Or.inl rfl
      · exact Or.inr rfl
    refine q_iload dX7_read_207 rfl ?_
    refine q_aload_n dX7_read_209 rfl ?_
    refine q_getr fX7_48 dX7_read_210 (by first | rfl | assumption) (by rfl) ?_
    refine q_get fX7_296 dX7_read_213 (by first | rfl | assumption) (by rfl) ?_
    refine q_tope (y := nI w) (by rw [rs_ap_ne (by decide) (by decide) (by decide) (by decide)]; exact rs_cm_3 _ _ _ _) ?_
    refine q_cge 266 dX7_read_216 (by decide) (fun h216 => ?_) (fun h216 => ?_)
    · have e : i = w := by omega
      subst e
      refine q_aload_n dX7_read_266 rfl ?_
      refine q_iload dX7_read_267 rfl ?_
      refine q_put_i pX7_337 dX7_read_269 (by first | rfl | assumption) (by rfl) rfl rfl ?_
      refine q_aload_n dX7_read_272 rfl ?_
      refine q_getr fX7_48 dX7_read_273 (by first | rfl | assumption) (by rfl) ?_
      refine q_get fX7_296 dX7_read_276 (by first | rfl | assumption) (by rfl) ?_
      refine q_tope (y := nI i) (by rw [q_up_ne (by decide), rs_ap_ne (by decide) (by decide) (by decide) (by decide)]; exact rs_cm_3 _ _ _ _) ?_
      refine q_ret dX7_read_279 ?_ rfl rfl
      exact ⟨rfl, rfl, rfl⟩
    · refine q_aload_n dX7_read_219 rfl ?_
      refine q_getr fX7_26 dX7_read_220 (by first | rfl | assumption) (by rfl) ?_
      refine q_getr fX7_289 dX7_read_223 (by first | rfl | assumption) (by rfl) ?_
      refine q_aload_n dX7_read_226 rfl ?_
      refine q_getr fX7_48 dX7_read_227 (by first | rfl | assumption) (by rfl) ?_
      refine q_getr fX7_302 dX7_read_230 (by first | rfl | assumption) (by rfl) ?_
      refine q_iload dX7_read_233 rfl ?_
      refine q_ild i (by first | rfl | assumption) hit (by omega) dX7_read_235 ?_
      refine q_tope (y := ((rs_g (σ (57 + 2 * j)) f0.toInt.toNat) i).1) (by rw [rs_ap_ne (by decide) (by decide) (by decide) (by decide)]; unfold rs_cm; rw [rs_ap_t (by decide) (by decide) (by decide), if_pos (by omega)]; rfl) ?_
      refine q_aload_n dX7_read_236 rfl ?_
      refine q_getr fX7_48 dX7_read_237 (by first | rfl | assumption) (by rfl) ?_
      refine q_getr fX7_299 dX7_read_240 (by first | rfl | assumption) (by rfl) ?_
      refine q_iload dX7_read_243 rfl ?_
      refine q_ild i (by first | rfl | assumption) hit (by omega) dX7_read_245 ?_
      refine q_tope (y := ((rs_g (σ (57 + 2 * j)) f0.toInt.toNat) i).2.1) (by rw [rs_ap_ne (by decide) (by decide) (by decide) (by decide)]; unfold rs_cm; rw [rs_ap_p (by decide) (by decide) (by decide), if_pos (by omega)]; rfl) ?_
      refine q_aload_n dX7_read_246 rfl ?_
      refine q_getr fX7_48 dX7_read_247 (by first | rfl | assumption) (by rfl) ?_
      refine q_getr fX7_305 dX7_read_250 (by first | rfl | assumption) (by rfl) ?_
      refine q_iload dX7_read_253 rfl ?_
      refine q_zld i (by first | rfl | assumption) hit (by omega) dX7_read_255 ?_
      refine q_tope (y := ((rs_g (σ (57 + 2 * j)) f0.toInt.toNat) i).2.2) (by rw [rs_ap_ne (by decide) (by decide) (by decide) (by decide)]; unfold rs_cm; rw [rs_ap_k (by decide) (by decide) (by decide), if_pos (by omega)]; rfl) ?_
      refine q_cVi lX7_292 vX4_add (ci := 4) rfl dX7_read_256 (kX4_add (sh := q_SH) (a := 19) (t := 20) (p := 21) (k := 22) rfl rfl rfl rfl (by decide) (by decide) (by decide) (rs_ap_a hsc2 i) (by omega) hb) (by first | rfl | assumption) rfl rfl (Nat.le_of_ble_eq_true rfl) (by decide) ?_
      refine q_pop rfl dX7_read_259 ?_
      refine q_inc 1 dX7_read_260 (by decide) rfl (by decide) rfl ?_
      refine q_goto 207 dX7_read_263 (by decide) ?_
      rw [nI_1]
      refine q_mem (τ := rs_ap (rs_cm σ j f0 w) 19 20 21 22 (rs_g (σ (57 + 2 * j)) f0.toInt.toNat) sc (i + 1)) rfl ?_
      exact ih (i + 1) (by omega) (by omega)

set_option maxHeartbeats 1000000 in
set_option maxRecDepth 100000 in
theorem sgX7_read2 {E : q_E} {σ : q_M} {j n0 i sc : Nat} {l f0 rs : Int32} {o8 o9 o10 o11 : Option Value} {x : Int32} (hsc : σ 19 3 = nI sc) (h12 : sc + i ≤ 12) : q_G YX7_read E 0 0 204 [some (.ref 0), some (.int (nI j)), some (.int l), some (.int f0), some (.int (nI n0)), some (.ref (56 + 2 * j)), some (.int rs), some (.int x), o8, o9, o10, o11] [] q_SH (rs_cm σ j f0 i) (rs_PC σ j f0 sc (.inr (i, rs))) := by
  refine q_iconst (x := 0) dX7_read_204 (by decide) ?_
  refine q_istore dX7_read_205 (by decide) rfl ?_
  exact lpX7_read2 hsc h12 (i + 1) 0 (by omega) (by omega)

set_option maxHeartbeats 1000000 in
set_option maxRecDepth 100000 in
theorem lpX7_read1 {E : q_E} {σ : q_M} {j n0 m sc : Nat} {l f0 : Int32} (h4 : j < 4) (hn12 : n0 ≤ 12) (hm : σ (56 + 2 * j) 2 = nI m) (h40 : m ≤ 40) (hsc : σ 19 3 = nI sc) (h12 : sc ≤ 12) {res : Int32 ⊕ (Nat × Int32)} : ∀ (n : Nat) (i : Nat) (fd : Int32) (o8 o9 o10 o11 : Option Value), n0 + 1 ≤ i + n → i ≤ n0 → sc + i ≤ 12 → (i = 0 ∨ (0 ≤ f0.toInt ∧ f0.toInt + 3 * i ≤ 60)) → fd = 0 → rs_r (σ (56 + 2 * j) 1) (nI m) l f0 (σ 15 0) (σ (57 + 2 * j)) sc (n0 - i) i = res → q_G YX7_read E 0 0 49 [some (.ref 0), some (.int (nI j)), some (.int l), some (.int f0), some (.int (nI n0)), some (.ref (56 + 2 * j)), some (.int (fd)), some (.int (nI i)), o8, o9, o10, o11] [] q_SH (rs_cm σ j f0 i) (rs_PC σ j f0 sc res) := by
  intro n
  induction n with
  | zero =>
    intro i fd o8 o9 o10 o11 hmm h0 hsi hov hfd hres
    exact absurd hmm (by omega)
  | succ n ih =>
    intro i fd o8 o9 o10 o11 hmm h0 hsi hov hfd hres
    have hit := nI_toInt (n := i) (by omega)
    have hnt := nI_toInt (n := n0) (by omega)
    have hmt := nI_toInt (n := m) (by omega)
    have hsct := nI_toInt (n := sc + i) (by omega)
    have e1 : (1 : Int32).toInt = 1 := rfl
    have e2 : (2 : Int32).toInt = 2 := rfl
    have h3t := nI_toInt (n := 3 * i) (by omega)
    have fl := f0.toInt_lt
    have fg := f0.le_toInt
    have hat : (f0 + nI (3 * i)).toInt = f0.toInt + 3 * i := by rw [i_add (by omega) (by omega), h3t]; omega
    have e12 : (12 : Int32).toInt = 12 := rfl
    have h64 := rs_cm_3 σ j f0 i
    refine q_iload dX7_read_49 rfl ?_
    refine q_iload dX7_read_51 rfl ?_
    refine q_cge 204 dX7_read_53 (by decide) (fun h53 => ?_) (fun h53 => ?_)
    · have e : i = n0 := by omega
      subst e
      rw [Nat.sub_self] at hres
      have hres2 : Sum.inr (i, 0) = res := hres
      subst hres2
      subst hfd
      exact sgX7_read2 hsc (by omega)
    · obtain ⟨q, hq⟩ : ∃ q, n0 - i = q + 1 := ⟨n0 - i - 1, by omega⟩
      rw [hq, rs_r] at hres
      refine q_iload_n dX7_read_56 rfl ?_
      refine q_iconst (x := 3) dX7_read_57 (by decide) ?_
      refine q_iload dX7_read_58 rfl ?_
      refine q_imul dX7_read_60 ?_
      refine q_tope (y := nI (3 * i)) (pk_mul 3 i) ?_
      refine q_iadd dX7_read_61 ?_
      refine q_istore dX7_read_62 (by decide) rfl ?_
      refine q_lr (ls' := [some (.ref 0), some (.int (nI j)), some (.int l), some (.int f0), some (.int (nI n0)), some (.ref (56 + 2 * j)), some (.int (fd)), some (.int (nI i)), some (.int (f0 + nI (3 * i))), o9, o10, o11]) rfl ?_
      refine q_aload dX7_read_64 rfl ?_
      refine q_iload_n dX7_read_66 rfl ?_
      refine q_iload dX7_read_67 rfl ?_
      refine q_cVi lX7_331 vX5_faultOfThree (ci := 5) rfl dX7_read_69 (kX5_faultOfThree (q_SH_st h4).1 (q_SH_st h4).2) (q_SH_st h4).1 rfl rfl (Nat.le_of_ble_eq_true rfl) (by decide) ?_
      refine q_tope (y := rs_f (σ (56 + 2 * j) 1) (nI m) l (f0.toInt + 3 * i)) (by rw [rs_cm_ne (by omega), hm, rs_f3 (by omega) (by omega), hat]) ?_
      refine q_istore dX7_read_72 (by decide) rfl ?_
      refine q_lr (ls' := [some (.ref 0), some (.int (nI j)), some (.int l), some (.int f0), some (.int (nI n0)), some (.ref (56 + 2 * j)), some (.int (rs_f (σ (56 + 2 * j) 1) (nI m) l (f0.toInt + 3 * i))), some (.int (nI i)), some (.int (f0 + nI (3 * i))), o9, o10, o11]) rfl ?_
      refine q_iload dX7_read_74 rfl ?_
      refine q_if_eq 82 dX7_read_76 (by decide) (fun h76 => ?_) (fun h76 => ?_)
      · have hf := rs_f_0 h76
        have hp0 : 0 ≤ f0.toInt := by omega
        rw [if_neg (fun z : ¬ _ = _ => z h76)] at hres
        have hP : (f0 + nI (3 * i)).toInt = ((f0.toInt.toNat + 3 * i : Nat) : Int) := by omega
        have hP1 : (f0 + nI (3 * i) + 1).toInt = ((f0.toInt.toNat + 3 * i + 1 : Nat) : Int) := by rw [i_add (by omega) (by omega), e1]; omega
        have hP2 : (f0 + nI (3 * i) + 2).toInt = ((f0.toInt.toNat + 3 * i + 2 : Nat) : Int) := by rw [i_add (by omega) (by omega), e2]; omega
        refine q_aload dX7_read_82 rfl ?_
        refine q_getr fX7_334 dX7_read_84 (q_SH_st h4).1 (by rfl) ?_
        refine q_iload dX7_read_87 rfl ?_
        refine q_ild (f0.toInt.toNat + 3 * i) (q_SH_st h4).2 hP (by omega) dX7_read_89 ?_
        refine q_tope (y := σ (57 + 2 * j) (f0.toInt.toNat + 3 * i)) (by rw [rs_cm_ne (by omega)]) ?_
        refine q_istore dX7_read_90 (by decide) rfl ?_
        refine q_lr (ls' := [some (.ref 0), some (.int (nI j)), some (.int l), some (.int f0), some (.int (nI n0)), some (.ref (56 + 2 * j)), some (.int (rs_f (σ (56 + 2 * j) 1) (nI m) l (f0.toInt + 3 * i))), some (.int (nI i)), some (.int (f0 + nI (3 * i))), some (.int (σ (57 + 2 * j) (f0.toInt.toNat + 3 * i))), o10, o11]) rfl ?_
        refine q_aload dX7_read_92 rfl ?_
        refine q_getr fX7_334 dX7_read_94 (q_SH_st h4).1 (by rfl) ?_
        refine q_iload dX7_read_97 rfl ?_
        refine q_iconst (x := 1) dX7_read_99 (by decide) ?_
        refine q_iadd dX7_read_100 ?_
        refine q_ild (f0.toInt.toNat + 3 * i + 1) (q_SH_st h4).2 hP1 (by omega) dX7_read_101 ?_
        refine q_tope (y := σ (57 + 2 * j) (f0.toInt.toNat + 3 * i + 1)) (by rw [rs_cm_ne (by omega)]) ?_
        refine q_istore dX7_read_102 (by decide) rfl ?_
        refine q_lr (ls' := [some (.ref 0), some (.int (nI j)), some (.int l), some (.int f0), some (.int (nI n0)), some (.ref (56 + 2 * j)), some (.int (rs_f (σ (56 + 2 * j) 1) (nI m) l (f0.toInt + 3 * i))), some (.int (nI i)), some (.int (f0 + nI (3 * i))), some (.int (σ (57 + 2 * j) (f0.toInt.toNat + 3 * i))), some (.int (σ (57 + 2 * j) (f0.toInt.toNat + 3 * i + 1))), o11]) rfl ?_
        refine q_aload dX7_read_104 rfl ?_
        refine q_getr fX7_334 dX7_read_106 (q_SH_st h4).1 (by rfl) ?_
        refine q_iload dX7_read_109 rfl ?_
        refine q_iconst (x := 2) dX7_read_111 (by decide) ?_
        refine q_iadd dX7_read_112 ?_
        refine q_ild (f0.toInt.toNat + 3 * i + 2) (q_SH_st h4).2 hP2 (by omega) dX7_read_113 ?_
        refine q_tope (y := σ (57 + 2 * j) (f0.toInt.toNat + 3 * i + 2)) (by rw [rs_cm_ne (by omega)]) ?_
        refine q_istore dX7_read_114 (by decide) rfl ?_
        refine q_lr (ls' := [some (.ref 0), some (.int (nI j)), some (.int l), some (.int f0), some (.int (nI n0)), some (.ref (56 + 2 * j)), some (.int (rs_f (σ (56 + 2 * j) 1) (nI m) l (f0.toInt + 3 * i))), some (.int (nI i)), some (.int (f0 + nI (3 * i))), some (.int (σ (57 + 2 * j) (f0.toInt.toNat + 3 * i))), some (.int (σ (57 + 2 * j) (f0.toInt.toNat + 3 * i + 1))), some (.int (σ (57 + 2 * j) (f0.toInt.toNat + 3 * i + 2)))]) rfl ?_
        refine q_iload dX7_read_116 rfl ?_
        refine q_cSi lX7_164 sX7_isThumb dX7_read_118 kX7_isThumb rfl rfl (Nat.le_of_ble_eq_true rfl) (by decide) ?_
        refine q_beq 143 dX7_read_121 (by decide) (fun h121 => ?_) (fun h121 => ?_)
        · refine q_bipush (x := (-20)) dX7_read_143 (by decide) ?_
          refine q_iload dX7_read_145 rfl ?_
          refine q_isub dX7_read_147 ?_
          refine q_ret dX7_read_148 ?_ rfl rfl
          have hv : rs_v (σ 15 0) (σ (57 + 2 * j)) f0.toInt.toNat i = false := by
            first
              | rw [rs_v, h121, Bool.false_and, Bool.false_and]
              | rw [rs_v, h130, Bool.and_false, Bool.false_and]
              | rw [rs_v, h140, Bool.and_false]
          rw [if_pos hv] at hres
          subst hres
          exact ⟨rfl, rfl, fun x hx => rs_cm_ne (by omega)⟩
        · refine q_aload_n dX7_read_124 rfl ?_
          refine q_iload dX7_read_125 rfl ?_
          refine q_cVi lX7_188 vX7_isDepth (ci := 7) rfl dX7_read_127 kX7_isDepth (by first | rfl | assumption) rfl rfl (Nat.le_of_ble_eq_true rfl) (by decide) ?_
          refine q_tope (y := q_b (q_win (σ (57 + 2 * j) (f0.toInt.toNat + 3 * i + 1)) 0 (σ 15 0))) (by rw [rs_cm_ne (by decide)]) ?_
          refine q_beq 143 dX7_read_130 (by decide) (fun h130 => ?_) (fun h130 => ?_)
          · refine q_bipush (x := (-20)) dX7_read_143 (by decide) ?_
            refine q_iload dX7_read_145 rfl ?_
            refine q_isub dX7_read_147 ?_
            refine q_ret dX7_read_148 ?_ rfl rfl
            have hv : rs_v (σ 15 0) (σ (57 + 2 * j)) f0.toInt.toNat i = false := by
              first
                | rw [rs_v, h121, Bool.false_and, Bool.false_and]
                | rw [rs_v, h130, Bool.and_false, Bool.false_and]
                | rw [rs_v, h140, Bool.and_false]
            rw [if_pos hv] at hres
            subst hres
            exact ⟨rfl, rfl, fun x hx => rs_cm_ne (by omega)⟩
          · refine q_iload dX7_read_133 rfl ?_
            refine q_iconst (x := 0) dX7_read_135 (by decide) ?_
            refine q_iconst (x := 1) dX7_read_136 (by decide) ?_
            refine q_cSi lX7_77 sX7_within dX7_read_137 kX7_within rfl rfl (Nat.le_of_ble_eq_true rfl) (by decide) ?_
            refine q_bne 149 dX7_read_140 (by decide) (fun h140 => ?_) (fun h140 => ?_)
            · have hv : rs_v (σ 15 0) (σ (57 + 2 * j)) f0.toInt.toNat i = true := by rw [rs_v, h121, h130, h140]; rfl
              rw [if_neg (sp_nt hv)] at hres
              refine q_aload_n dX7_read_149 rfl ?_
              refine q_getr fX7_26 dX7_read_150 (by first | rfl | assumption) (by rfl) ?_
              refine q_getr fX7_289 dX7_read_153 (by first | rfl | assumption) (by rfl) ?_
              refine q_get fX7_296 dX7_read_156 (by first | rfl | assumption) (by rfl) ?_
              refine q_tope (y := nI sc) (by rw [rs_cm_ne (by decide)]; exact hsc) ?_
              refine q_aload_n dX7_read_159 rfl ?_
              refine q_getr fX7_48 dX7_read_160 (by first | rfl | assumption) (by rfl) ?_
              refine q_get fX7_296 dX7_read_163 (by first | rfl | assumption) (by rfl) ?_
              refine q_tope (y := nI i) h64 ?_
              refine q_iadd dX7_read_166 ?_
              refine q_tope (y := nI (sc + i)) (nI_add _ _) ?_
              refine q_bipush (x := 12) dX7_read_167 (by decide) ?_
              refine q_clt 175 dX7_read_169 (by decide) (fun h169 => ?_) (fun h169 => ?_)
              · rw [if_neg (by omega)] at hres
                refine q_aload_n dX7_read_175 rfl ?_
                refine q_getr fX7_48 dX7_read_176 (by first | rfl | assumption) (by rfl) ?_
                refine q_iload dX7_read_179 rfl ?_
                refine q_iload dX7_read_181 rfl ?_
                refine q_iload dX7_read_183 rfl ?_
                refine q_iconst (x := 1) dX7_read_185 (by decide) ?_
                refine q_icmp_ne 193 dX7_read_186 (by decide) (fun h186 => ?_) (fun h186 => ?_)
                · have hb : (1 : Int32) = 1 := rfl
                  have hgb : ((rs_g (σ (57 + 2 * j)) f0.toInt.toNat) i).2.2 = 0 := by show q_b (decide (σ (57 + 2 * j) (f0.toInt.toNat + 3 * i + 2) = 1)) = 0; rw [decide_eq_false h186]; rfl
                  refine q_iconst (x := 0) dX7_read_193 (by decide) ?_
                  refine q_cVi lX7_292 vX4_add (ci := 4) rfl dX7_read_194 (kX4_add (sh := q_SH) (a := 64) (t := 65) (p := 66) (k := 67) rfl rfl rfl rfl (by decide) (by decide) (by decide) h64 (by omega) (by decide)) (by first | rfl | assumption) rfl rfl (Nat.le_of_ble_eq_true rfl) (by decide) ?_
                  refine q_pop rfl dX7_read_197 ?_
                  refine q_inc 1 dX7_read_198 (by decide) rfl (by decide) rfl ?_
                  refine q_goto 49 dX7_read_201 (by decide) ?_
                  rw [nI_1]
                  refine q_mem (τ := rs_cm σ j f0 (i + 1)) (by unfold rs_cm; rw [rs_ap, hgb, Nat.zero_add]; rfl) ?_
                  exact ih (i + 1) _ _ _ _ _ (by omega) (by omega) (by omega) (Or.inr (by omega)) h76 (by rw [show n0 - (i + 1) = q by omega]; exact hres)
                · have hgb : ((rs_g (σ (57 + 2 * j)) f0.toInt.toNat) i).2.2 = 1 := by show q_b (decide (σ (57 + 2 * j) (f0.toInt.toNat + 3 * i + 2) = 1)) = 1; rw [decide_eq_true h186]; rfl
                  refine q_iconst (x := 1) dX7_read_189 (by decide) ?_
                  refine q_goto 194 dX7_read_190 (by decide) ?_
                  refine q_cVi lX7_292 vX4_add (ci := 4) rfl dX7_read_194 (kX4_add (sh := q_SH) (a := 64) (t := 65) (p := 66) (k := 67) rfl rfl rfl rfl (by decide) (by decide) (by decide) h64 (by omega) (by decide)) (by first | rfl | assumption) rfl rfl (Nat.le_of_ble_eq_true rfl) (by decide) ?_
                  refine q_pop rfl dX7_read_197 ?_
                  refine q_inc 1 dX7_read_198 (by decide) rfl (by decide) rfl ?_
                  refine q_goto 49 dX7_read_201 (by decide) ?_
                  rw [nI_1]
                  refine q_mem (τ := rs_cm σ j f0 (i + 1)) (by unfold rs_cm; rw [rs_ap, hgb, Nat.zero_add]; rfl) ?_
                  exact ih (i + 1) _ _ _ _ _ (by omega) (by omega) (by omega) (Or.inr (by omega)) h76 (by rw [show n0 - (i + 1) = q by omega]; exact hres)
              · rw [if_pos (by omega)] at hres
                subst hres
                refine q_bipush (x := (-3)) dX7_read_172 (by decide) ?_
                refine q_ret dX7_read_174 ?_ rfl rfl
                exact ⟨rfl, rfl, fun x hx => rs_cm_ne (by omega)⟩
            · refine q_bipush (x := (-20)) dX7_read_143 (by decide) ?_
              refine q_iload dX7_read_145 rfl ?_
              refine q_isub dX7_read_147 ?_
              refine q_ret dX7_read_148 ?_ rfl rfl
              have hv : rs_v (σ 15 0) (σ (57 + 2 * j)) f0.toInt.toNat i = false := by
                first
                  | rw [rs_v, h121, Bool.false_and, Bool.false_and]
                  | rw [rs_v, h130, Bool.and_false, Bool.false_and]
                  | rw [rs_v, h140, Bool.and_false]
              rw [if_pos hv] at hres
              subst hres
              exact ⟨rfl, rfl, fun x hx => rs_cm_ne (by omega)⟩
      · rw [if_pos h76] at hres
        subst hres
        refine q_goto 204 dX7_read_79 (by decide) ?_
        exact sgX7_read2 hsc (by omega)
