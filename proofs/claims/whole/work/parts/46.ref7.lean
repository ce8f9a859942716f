/-! the reference: hold, late, step -/
theorem q_tope {Y : q_Y} {E : q_E} {u v pc : Nat} {ls : List (Option Value)} {st : List Value} {sh : List q_S} {σ : q_M} {Q : q_P} {x y : Int32} (h : x = y) (k : q_G Y E u v pc ls (.int y :: st) sh σ Q) : q_G Y E u v pc ls (.int x :: st) sh σ Q := by
  rw [h]
  exact k
theorem q_mem {Y : q_Y} {E : q_E} {u v pc : Nat} {ls : List (Option Value)} {st : List Value} {sh : List q_S} {σ τ : q_M} {Q : q_P} (h : σ = τ) (k : q_G Y E u v pc ls st sh τ Q) : q_G Y E u v pc ls st sh σ Q := by
  rw [h]
  exact k
def qm_se (σ : q_M) (i l : Nat) : Int32 := σ 82 (if i < l then 0 else i - l)
def qm_t0 (s goal step : Int32) : Int32 := if s.toInt < goal.toInt then step else if goal.toInt < s.toInt then -step else 0
def qm_t2 (th : Int32) : Int32 := if th.toInt < 0 then 0 else if (500 : Int32).toInt < th.toInt then 500 else th
def qm_tw (σ : q_M) (i l : Nat) (goal step : Int32) : Int32 := qm_t2 (σ 72 26 + qm_t0 (qm_se σ i l) goal step)
def qm_mv (σ : q_M) (j : Nat) (th : Int32) : Int32 × Int32 := q_mv (σ 72 17) (σ 72 18) (q_wt (σ 75 1) (σ 75 4) (σ 75 5) (σ 73 (8 * j + 0) + σ 73 (8 * j + 5)) (σ 73 (8 * j + 1)) (σ 73 49) (σ 72 17 / 64) th) (σ 75 3) (64 * σ 75 0)
def qm_h4 (σ : q_M) (j i : Nat) (th : Int32) : q_M := q_up (q_up (q_up (q_up σ 72 26 th) 72 17 (qm_mv σ j th).1) 72 18 (qm_mv σ j th).2) 82 (i + 1) (qm_mv σ j th).1
def qm_fa (σ : q_M) (j : Nat) (th goal : Int32) : Int32 := if (σ 72 25).toInt < (q_abs ((qm_mv σ j th).1 - goal)).toInt then q_abs ((qm_mv σ j th).1 - goal) else σ 72 25
def qm_lo (σ : q_M) (j i : Nat) (th : Int32) : Int32 := if (qm_mv σ j th).1 = 0 ∨ (qm_mv σ j th).1 = 64 * σ 75 0 then nI (i + 1) else -4
def qm_hz (σ : q_M) (j i : Nat) (goal th : Int32) : q_M := q_up (q_up (qm_h4 σ j i th) 72 25 (qm_fa σ j th goal)) 72 24 (qm_lo σ j i th)
def qm_hs (j l : Nat) (goal step : Int32) (i : Nat) (σ : q_M) : q_M := qm_hz σ j i goal (qm_tw σ i l goal step)
/-- N - i ticks of a hold, from the tick i on -/
def qm_hl (j l : Nat) (goal step : Int32) (N : Nat) : Nat → q_M → q_M
  | 0, σ => σ
  | m + 1, σ => if σ 72 24 = -4 then qm_hl j l goal step N m (qm_hs j l goal step (N - (m + 1)) σ) else σ
def qm_h0 (σ : q_M) (goal t : Int32) : q_M := q_up (q_up (q_up (q_up (q_up (q_up σ 72 17 goal) 72 18 0) 82 0 goal) 72 24 (-4)) 72 25 0) 72 26 t
def qm_hh (σ : q_M) (j : Nat) (goal t : Int32) (l : Nat) (step : Int32) (N : Nat) : q_M := qm_hl j l goal step N N (qm_h0 σ goal t)
/-- what a move of the hand's needs -/
def qm_hok (σ : q_M) : Prop := 0 < (σ 75 3).toInt ∧ ∀ th : Int32, 0 ≤ th.toInt → th.toInt ≤ 500 → 0 < (σ 75 1 + th + σ 72 17 / 64).toInt
theorem qm_t2_r (x : Int32) : 0 ≤ (qm_t2 x).toInt ∧ (qm_t2 x).toInt ≤ 500 := by
  have e0 : (0 : Int32).toInt = 0 := rfl
  have e5 : (500 : Int32).toInt = 500 := rfl
  unfold qm_t2
  split
  · omega
  · split <;> omega

theorem q_sbI {a b : Nat} (h : b ≤ a) (ha : a < 1000) : (nI a - nI b).toInt = ((a - b : Nat) : Int) := by
  rw [pk_sub_toInt (by omega) (by omega)]
  omega

set_option maxHeartbeats 1000000 in
set_option maxRecDepth 100000 in
theorem sgX8_h6 {E : q_E} {σ : q_M} {j l N i : Nat} {dep t step goal : Int32} {Q : q_P} {s x : Int32} (K : q_G YX8_holds E 0 0 46 [some (.ref 72), some (.int (nI j)), some (.int dep), some (.int t), some (.int (nI l)), some (.int step), some (.int (nI N)), some (.int goal), some (.int (nI (i + 1))), none] [] q_SH (q_up σ 72 24 x) Q) : q_G YX8_holds E 0 0 253 [some (.ref 72), some (.int (nI j)), some (.int dep), some (.int t), some (.int (nI l)), some (.int step), some (.int (nI N)), some (.int goal), some (.int (nI i)), some (.int s)] [.int x, .ref 72] q_SH σ Q := by
  refine q_put_i pX8_254 dX8_holds_253 (by first | rfl | assumption) (by rfl) rfl rfl ?_
  refine q_inc 1 dX8_holds_256 (by decide) rfl (by decide) rfl ?_
  refine q_goto 46 dX8_holds_259 (by decide) ?_
  rw [nI_1]
  have z := K
  refine q_lz z ?_
  exact ⟨rfl, rfl, rfl, rfl, rfl, rfl, rfl, rfl, rfl, trivial⟩

set_option maxHeartbeats 1000000 in
set_option maxRecDepth 100000 in
theorem sgX8_h5 {E : q_E} {σ : q_M} {j l N i : Nat} {dep t step goal : Int32} {Q : q_P} {s th : Int32} (K : q_G YX8_holds E 0 0 46 [some (.ref 72), some (.int (nI j)), some (.int dep), some (.int t), some (.int (nI l)), some (.int step), some (.int (nI N)), some (.int goal), some (.int (nI (i + 1))), none] [] q_SH (qm_hz σ j i goal th) Q) : q_G YX8_holds E 0 0 222 [some (.ref 72), some (.int (nI j)), some (.int dep), some (.int t), some (.int (nI l)), some (.int step), some (.int (nI N)), some (.int goal), some (.int (nI i)), some (.int s)] [.int (qm_fa σ j th goal), .ref 72] q_SH (qm_h4 σ j i th) Q := by
  refine q_put_i pX8_257 dX8_holds_222 (by first | rfl | assumption) (by rfl) rfl rfl ?_
  refine q_aload_n dX8_holds_225 rfl ?_
  refine q_aload_n dX8_holds_226 rfl ?_
  refine q_get fX8_184 dX8_holds_227 (by first | rfl | assumption) (by rfl) ?_
  refine q_tope (y := (qm_mv σ j th).1) rfl ?_
  refine q_if_eq 244 dX8_holds_230 (by decide) (fun h230 => ?_) (fun h230 => ?_)
  · have hl : qm_lo σ j i th = nI (i + 1) := if_pos (Or.inl h230)
    refine q_iload dX8_holds_244 rfl ?_
    refine q_iconst (x := 1) dX8_holds_246 (by decide) ?_
    refine q_iadd dX8_holds_247 ?_
    refine q_tope (y := nI (i + 1)) (nI_1 i) ?_
    refine q_goto 253 dX8_holds_248 (by decide) ?_
    rw [← hl]
    exact sgX8_h6 K
  · refine q_aload_n dX8_holds_233 rfl ?_
    refine q_get fX8_184 dX8_holds_234 (by first | rfl | assumption) (by rfl) ?_
    refine q_tope (y := (qm_mv σ j th).1) rfl ?_
    refine q_aload_n dX8_holds_237 rfl ?_
    refine q_cVi lX8_187 vX8_floor (ci := 8) rfl dX8_holds_238 kX8_floor (by first | rfl | assumption) rfl rfl (Nat.le_of_ble_eq_true rfl) (by decide) ?_
    refine q_tope (y := 64 * σ 75 0) rfl ?_
    refine q_icmp_ne 251 dX8_holds_241 (by decide) (fun h241 => ?_) (fun h241 => ?_)
    · have hl : qm_lo σ j i th = -4 := if_neg (fun z => z.elim h230 h241)
      refine q_bipush (x := (-4)) dX8_holds_251 (by decide) ?_
      rw [← hl]
      exact sgX8_h6 K
    · have hl : qm_lo σ j i th = nI (i + 1) := if_pos (Or.inr h241)
      refine q_iload dX8_holds_244 rfl ?_
      refine q_iconst (x := 1) dX8_holds_246 (by decide) ?_
      refine q_iadd dX8_holds_247 ?_
      refine q_tope (y := nI (i + 1)) (nI_1 i) ?_
      refine q_goto 253 dX8_holds_248 (by decide) ?_
      rw [← hl]
      exact sgX8_h6 K

set_option maxHeartbeats 1000000 in
set_option maxRecDepth 100000 in
theorem sgX8_h4 {E : q_E} {σ : q_M} {j l N i : Nat} {dep t step goal : Int32} {Q : q_P} (hj : j < 6) (hi : i < 1000 - 1) (hok : qm_hok σ) {s w th : Int32} (ht : 0 ≤ th.toInt) (ht5 : th.toInt ≤ 500) (K : q_G YX8_holds E 0 0 46 [some (.ref 72), some (.int (nI j)), some (.int dep), some (.int t), some (.int (nI l)), some (.int step), some (.int (nI N)), some (.int goal), some (.int (nI (i + 1))), none] [] q_SH (qm_hz σ j i goal th) Q) : q_G YX8_holds E 0 0 152 [some (.ref 72), some (.int (nI j)), some (.int dep), some (.int t), some (.int (nI l)), some (.int step), some (.int (nI N)), some (.int goal), some (.int (nI i)), some (.int s)] [.int th, .ref 72] q_SH (q_up σ 72 26 w) Q := by
  refine q_put_i pX8_260 dX8_holds_152 (by first | rfl | assumption) (by rfl) rfl rfl ?_
  rw [q_uu]
  refine q_aload_n dX8_holds_155 rfl ?_
  refine q_aload_n dX8_holds_156 rfl ?_
  refine q_iload_n dX8_holds_157 rfl ?_
  refine q_cVi lX8_156 vX8_heavy (ci := 8) rfl dX8_holds_158 (kX8_heavy hj) (by first | rfl | assumption) rfl rfl (Nat.le_of_ble_eq_true rfl) (by decide) ?_
  refine q_tope (y := σ 73 (8 * j + 0) + σ 73 (8 * j + 5)) rfl ?_
  refine q_aload_n dX8_holds_161 rfl ?_
  refine q_iload_n dX8_holds_162 rfl ?_
  refine q_iconst (x := 1) dX8_holds_163 (by decide) ?_
  refine q_cVi lX8_153 vX8_of (ci := 8) rfl dX8_holds_164 (kX8_of (w := 1) hj (by decide)) (by first | rfl | assumption) rfl rfl (Nat.le_of_ble_eq_true rfl) (by decide) ?_
  refine q_tope (y := σ 73 (8 * j + 1)) rfl ?_
  refine q_aload_n dX8_holds_167 rfl ?_
  refine q_get fX8_260 dX8_holds_168 (by first | rfl | assumption) (by rfl) ?_
  refine q_tope (y := th) rfl ?_
  refine q_cVv lX8_190 vX8_moves (ci := 8) rfl dX8_holds_171 (kX8_moves (a0 := σ 72 17) (p0 := σ 72 18) rfl rfl hok.1 (hok.2 th ht ht5)) (by first | rfl | assumption) rfl rfl (Nat.le_of_ble_eq_true rfl) (by decide) ?_
  change q_G _ _ _ _ _ _ _ _ (q_up (q_up (q_up σ 72 26 th) 72 17 (qm_mv σ j th).1) 72 18 (qm_mv σ j th).2) _
  refine q_aload_n dX8_holds_174 rfl ?_
  refine q_getr fX8_38 dX8_holds_175 (by first | rfl | assumption) (by rfl) ?_
  refine q_iload dX8_holds_178 rfl ?_
  refine q_iconst (x := 1) dX8_holds_180 (by decide) ?_
  refine q_iadd dX8_holds_181 ?_
  refine q_tope (y := nI (i + 1)) (nI_1 i) ?_
  refine q_aload_n dX8_holds_182 rfl ?_
  refine q_get fX8_184 dX8_holds_183 (by first | rfl | assumption) (by rfl) ?_
  refine q_tope (y := (qm_mv σ j th).1) rfl ?_
  refine q_isto (i + 1) (by first | rfl | assumption) (nI_toInt (by omega)) (by omega) dX8_holds_186 ?_
  change q_G _ _ _ _ _ _ _ _ (qm_h4 σ j i th) _
  refine q_aload_n dX8_holds_187 rfl ?_
  refine q_aload_n dX8_holds_188 rfl ?_
  refine q_get fX8_184 dX8_holds_189 (by first | rfl | assumption) (by rfl) ?_
  refine q_tope (y := (qm_mv σ j th).1) rfl ?_
  refine q_iload dX8_holds_192 rfl ?_
  refine q_isub dX8_holds_194 ?_
  refine q_cSi lX8_214 sX8_size dX8_holds_195 kX8_size rfl rfl (Nat.le_of_ble_eq_true rfl) (by decide) ?_
  refine q_aload_n dX8_holds_198 rfl ?_
  refine q_get fX8_257 dX8_holds_199 (by first | rfl | assumption) (by rfl) ?_
  refine q_tope (y := σ 72 25) rfl ?_
  refine q_cle 218 dX8_holds_202 (by decide) (fun h202 => ?_) (fun h202 => ?_)
  · have hf : qm_fa σ j th goal = σ 72 25 := if_neg (by omega)
    refine q_aload_n dX8_holds_218 rfl ?_
    refine q_get fX8_257 dX8_holds_219 (by first | rfl | assumption) (by rfl) ?_
    refine q_tope (y := σ 72 25) rfl ?_
    rw [← hf]
    exact sgX8_h5 K
  · have hf : qm_fa σ j th goal = q_abs ((qm_mv σ j th).1 - goal) := if_pos h202
    refine q_aload_n dX8_holds_205 rfl ?_
    refine q_get fX8_184 dX8_holds_206 (by first | rfl | assumption) (by rfl) ?_
    refine q_tope (y := (qm_mv σ j th).1) rfl ?_
    refine q_iload dX8_holds_209 rfl ?_
    refine q_isub dX8_holds_211 ?_
    refine q_cSi lX8_214 sX8_size dX8_holds_212 kX8_size rfl rfl (Nat.le_of_ble_eq_true rfl) (by decide) ?_
    refine q_goto 222 dX8_holds_215 (by decide) ?_
    rw [← hf]
    exact sgX8_h5 K

set_option maxHeartbeats 1000000 in
set_option maxRecDepth 100000 in
theorem sgX8_h3 {E : q_E} {σ : q_M} {j l N i : Nat} {dep t step goal : Int32} {Q : q_P} (hj : j < 6) (hi : i < 1000 - 1) (hok : qm_hok σ) {s d : Int32} (K : q_G YX8_holds E 0 0 46 [some (.ref 72), some (.int (nI j)), some (.int dep), some (.int t), some (.int (nI l)), some (.int step), some (.int (nI N)), some (.int goal), some (.int (nI (i + 1))), none] [] q_SH (qm_hz σ j i goal (qm_t2 (σ 72 26 + d))) Q) : q_G YX8_holds E 0 0 116 [some (.ref 72), some (.int (nI j)), some (.int dep), some (.int t), some (.int (nI l)), some (.int step), some (.int (nI N)), some (.int goal), some (.int (nI i)), some (.int s)] [.int d, .int (σ 72 26), .ref 72] q_SH σ Q := by
  refine q_iadd dX8_holds_116 ?_
  refine q_put_i pX8_260 dX8_holds_117 (by first | rfl | assumption) (by rfl) rfl rfl ?_
  refine q_aload_n dX8_holds_120 rfl ?_
  refine q_aload_n dX8_holds_121 rfl ?_
  refine q_get fX8_260 dX8_holds_122 (by first | rfl | assumption) (by rfl) ?_
  refine q_tope (y := σ 72 26 + d) rfl ?_
  refine q_zge 132 dX8_holds_125 (by decide) (fun h125 => ?_) (fun h125 => ?_)
  · refine q_aload_n dX8_holds_132 rfl ?_
    refine q_get fX8_260 dX8_holds_133 (by first | rfl | assumption) (by rfl) ?_
    refine q_tope (y := σ 72 26 + d) rfl ?_
    refine q_sipush (x := 500) dX8_holds_136 (by decide) ?_
    refine q_cle 148 dX8_holds_139 (by decide) (fun h139 => ?_) (fun h139 => ?_)
    · have ht : qm_t2 (σ 72 26 + d) = σ 72 26 + d := by rw [qm_t2, if_neg (by omega), if_neg (by omega)]
      refine q_aload_n dX8_holds_148 rfl ?_
      refine q_get fX8_260 dX8_holds_149 (by first | rfl | assumption) (by rfl) ?_
      refine q_tope (y := σ 72 26 + d) rfl ?_
      rw [← ht]
      have hr := qm_t2_r (σ 72 26 + d)
      exact sgX8_h4 hj hi hok hr.1 hr.2 K
    · have ht : qm_t2 (σ 72 26 + d) = 500 := by rw [qm_t2, if_neg (by omega), if_pos h139]
      refine q_sipush (x := 500) dX8_holds_142 (by decide) ?_
      refine q_goto 152 dX8_holds_145 (by decide) ?_
      rw [← ht]
      have hr := qm_t2_r (σ 72 26 + d)
      exact sgX8_h4 hj hi hok hr.1 hr.2 K
  · have ht : qm_t2 (σ 72 26 + d) = 0 := if_pos h125
    refine q_iconst (x := 0) dX8_holds_128 (by decide) ?_
    refine q_goto 152 dX8_holds_129 (by decide) ?_
    rw [← ht]
    have hr := qm_t2_r (σ 72 26 + d)
    exact sgX8_h4 hj hi hok hr.1 hr.2 K

set_option maxHeartbeats 1000000 in
set_option maxRecDepth 100000 in
theorem sgX8_h2 {E : q_E} {σ : q_M} {j l N i : Nat} {dep t step goal : Int32} {Q : q_P} (hj : j < 6) (hi : i < 1000 - 1) (hok : qm_hok σ) {s : Int32} (K : q_G YX8_holds E 0 0 46 [some (.ref 72), some (.int (nI j)), some (.int dep), some (.int t), some (.int (nI l)), some (.int step), some (.int (nI N)), some (.int goal), some (.int (nI (i + 1))), none] [] q_SH (qm_hz σ j i goal (qm_t2 (σ 72 26 + qm_t0 s goal step))) Q) : q_G YX8_holds E 0 0 83 [some (.ref 72), some (.int (nI j)), some (.int dep), some (.int t), some (.int (nI l)), some (.int step), some (.int (nI N)), some (.int goal), some (.int (nI i)), none] [.int s] q_SH σ Q := by
  refine q_istore dX8_holds_83 (by decide) rfl ?_
  refine q_aload_n dX8_holds_85 rfl ?_
  refine q_dup rfl dX8_holds_86 ?_
  refine q_get fX8_260 dX8_holds_87 (by first | rfl | assumption) (by rfl) ?_
  refine q_iload dX8_holds_90 rfl ?_
  refine q_iload dX8_holds_92 rfl ?_
  refine q_cge 102 dX8_holds_94 (by decide) (fun h94 => ?_) (fun h94 => ?_)
  · refine q_iload dX8_holds_102 rfl ?_
    refine q_iload dX8_holds_104 rfl ?_
    refine q_cle 115 dX8_holds_106 (by decide) (fun h106 => ?_) (fun h106 => ?_)
    · have hd : qm_t0 s goal step = 0 := by rw [qm_t0, if_neg (by omega), if_neg (by omega)]
      refine q_iconst (x := 0) dX8_holds_115 (by decide) ?_
      rw [hd] at K
      exact sgX8_h3 hj hi hok K
    · have hd : qm_t0 s goal step = -step := by rw [qm_t0, if_neg (by omega), if_pos h106]
      refine q_iload dX8_holds_109 rfl ?_
      refine q_ineg dX8_holds_111 ?_
      refine q_goto 116 dX8_holds_112 (by decide) ?_
      rw [hd] at K
      exact sgX8_h3 hj hi hok K
  · have hd : qm_t0 s goal step = step := if_pos h94
    refine q_iload dX8_holds_97 rfl ?_
    refine q_goto 116 dX8_holds_99 (by decide) ?_
    rw [hd] at K
    exact sgX8_h3 hj hi hok K

set_option maxHeartbeats 1000000 in
set_option maxRecDepth 100000 in
theorem sgX8_h1 {E : q_E} {σ : q_M} {j l N i : Nat} {dep t step goal : Int32} {Q : q_P} (hj : j < 6) (hi : i < 1000 - 1) (hl : l < 1000) (hok : qm_hok σ) (K : q_G YX8_holds E 0 0 46 [some (.ref 72), some (.int (nI j)), some (.int dep), some (.int t), some (.int (nI l)), some (.int step), some (.int (nI N)), some (.int goal), some (.int (nI (i + 1))), none] [] q_SH (qm_hs j l goal step i σ) Q) : q_G YX8_holds E 0 0 62 [some (.ref 72), some (.int (nI j)), some (.int dep), some (.int t), some (.int (nI l)), some (.int step), some (.int (nI N)), some (.int goal), some (.int (nI i)), none] [] q_SH σ Q := by
  have hit := nI_toInt (n := i) (by omega)
  have hlt := nI_toInt (n := l) (by omega)
  refine q_aload_n dX8_holds_62 rfl ?_
  refine q_getr fX8_38 dX8_holds_63 (by first | rfl | assumption) (by rfl) ?_
  refine q_iload dX8_holds_66 rfl ?_
  refine q_iload dX8_holds_68 rfl ?_
  refine q_cge 77 dX8_holds_70 (by decide) (fun h70 => ?_) (fun h70 => ?_)
  · have he : (if i < l then 0 else i - l) = i - l := if_neg (by omega)
    refine q_iload dX8_holds_77 rfl ?_
    refine q_iload dX8_holds_79 rfl ?_
    refine q_isub dX8_holds_81 ?_
    refine q_ild (if i < l then 0 else i - l) (by first | rfl | assumption) (by rw [he]; first | rfl | exact q_sbI (by omega) (by omega)) (by rw [he]; omega) dX8_holds_82 ?_
    exact sgX8_h2 hj hi hok K
  · have he : (if i < l then 0 else i - l) = 0 := if_pos (by omega)
    refine q_iconst (x := 0) dX8_holds_73 (by decide) ?_
    refine q_goto 82 dX8_holds_74 (by decide) ?_
    refine q_ild (if i < l then 0 else i - l) (by first | rfl | assumption) (by rw [he]; first | rfl | exact q_sbI (by omega) (by omega)) (by rw [he]; omega) dX8_holds_82 ?_
    exact sgX8_h2 hj hi hok K

set_option maxHeartbeats 1000000 in
set_option maxRecDepth 100000 in
theorem lpX8_holds {E : q_E} {j l N : Nat} {dep t step goal : Int32} (hj : j < 6) (hN : N < 1000) (hl : l < 1000) {I : q_M → Prop} (hI : ∀ τ, I τ → qm_hok τ) (hinv : ∀ τ i, i < N → I τ → I (qm_hs j l goal step i τ)) : ∀ (n : Nat) (i : Nat) (σ : q_M), N + 1 ≤ i + n → i ≤ N → I σ → q_G YX8_holds E 0 0 46 [some (.ref 72), some (.int (nI j)), some (.int dep), some (.int t), some (.int (nI l)), some (.int step), some (.int (nI N)), some (.int goal), some (.int (nI i)), none] [] q_SH σ (q_is none q_SH (qm_hl j l goal step N (N - i) σ)) := by
  intro n
  induction n with
  | zero =>
    intro i σ hm h0 hs
    exact absurd hm (by omega)
  | succ n ih =>
    intro i σ hm h0 hs
    have hi := nI_toInt (n := i) (by omega)
    have hNt := nI_toInt (n := N) (by omega)
    refine q_iload dX8_holds_46 rfl ?_
    refine q_iload dX8_holds_48 rfl ?_
    refine q_cge 262 dX8_holds_50 (by decide) (fun h50 => ?_) (fun h50 => ?_)
    · rw [show N - i = 0 by omega]
      refine q_vret dX8_holds_262 ?_ rfl rfl
      exact ⟨rfl, rfl, rfl⟩
    · refine q_aload_n dX8_holds_53 rfl ?_
      refine q_get fX8_254 dX8_holds_54 (by first | rfl | assumption) (by rfl) ?_
      refine q_bipush (x := (-4)) dX8_holds_57 (by decide) ?_
      refine q_icmp_ne 262 dX8_holds_59 (by decide) (fun h59 => ?_) (fun h59 => ?_)
      · rw [show N - i = (N - (i + 1)) + 1 by omega, qm_hl, if_neg h59]
        refine q_vret dX8_holds_262 ?_ rfl rfl
        exact ⟨rfl, rfl, rfl⟩
      · rw [show N - i = (N - (i + 1)) + 1 by omega, qm_hl, if_pos h59, show N - (N - (i + 1) + 1) = i by omega]
        exact sgX8_h1 hj (by omega) hl (hI σ hs) (ih (i + 1) _ (by omega) (by omega) (hinv σ i (by omega) hs))

set_option maxHeartbeats 1000000 in
set_option maxRecDepth 100000 in
theorem kX8_holds {σ : q_M} {j l N : Nat} {dep t step : Int32} (hj : j < 6) (hN : N < 1000) (hl : l < 1000) {I : q_M → Prop} (hI : ∀ τ, I τ → qm_hok τ) (hinv : ∀ τ i, i < N → I τ → I (qm_hs j l (64 * dep) step i τ)) (h0 : I (qm_h0 σ (64 * dep) t)) : q_Ct YX8_holds [.ref 72, .int (nI j), .int dep, .int t, .int (nI l), .int step, .int (nI N)] q_SH σ (q_is none q_SH (qm_hh σ j (64 * dep) t l step N)) := by
  refine q_ct (n := 3) (by decide) (by decide) rfl (fun _ => Nat.le_of_ble_eq_true rfl) (fun E => ?_)
  refine q_bipush (x := 64) dX8_holds_0 (by decide) ?_
  refine q_iload_n dX8_holds_2 rfl ?_
  refine q_imul dX8_holds_3 ?_
  refine q_istore dX8_holds_4 (by decide) rfl ?_
  refine q_aload_n dX8_holds_6 rfl ?_
  refine q_iload dX8_holds_7 rfl ?_
  refine q_put_i pX8_184 dX8_holds_9 (by first | rfl | assumption) (by rfl) rfl rfl ?_
  refine q_aload_n dX8_holds_12 rfl ?_
  refine q_iconst (x := 0) dX8_holds_13 (by decide) ?_
  refine q_put_i pX8_181 dX8_holds_14 (by first | rfl | assumption) (by rfl) rfl rfl ?_
  refine q_aload_n dX8_holds_17 rfl ?_
  refine q_getr fX8_38 dX8_holds_18 (by first | rfl | assumption) (by rfl) ?_
  refine q_iconst (x := 0) dX8_holds_21 (by decide) ?_
  refine q_aload_n dX8_holds_22 rfl ?_
  refine q_get fX8_184 dX8_holds_23 (by first | rfl | assumption) (by rfl) ?_
  refine q_tope (y := 64 * dep) rfl ?_
  refine q_isto 0 (by first | rfl | assumption) rfl (by decide) dX8_holds_26 ?_
  refine q_aload_n dX8_holds_27 rfl ?_
  refine q_bipush (x := (-4)) dX8_holds_28 (by decide) ?_
  refine q_put_i pX8_254 dX8_holds_30 (by first | rfl | assumption) (by rfl) rfl rfl ?_
  refine q_aload_n dX8_holds_33 rfl ?_
  refine q_iconst (x := 0) dX8_holds_34 (by decide) ?_
  refine q_put_i pX8_257 dX8_holds_35 (by first | rfl | assumption) (by rfl) rfl rfl ?_
  refine q_aload_n dX8_holds_38 rfl ?_
  refine q_iload_n dX8_holds_39 rfl ?_
  refine q_put_i pX8_260 dX8_holds_40 (by first | rfl | assumption) (by rfl) rfl rfl ?_
  refine q_iconst (x := 0) dX8_holds_43 (by decide) ?_
  refine q_istore dX8_holds_44 (by decide) rfl ?_
  have z := lpX8_holds (E := E) (dep := dep) (t := t) hj hN hl hI hinv (N + 1) 0 (qm_h0 σ (64 * dep) t) (by omega) (by omega) h0
  exact z
