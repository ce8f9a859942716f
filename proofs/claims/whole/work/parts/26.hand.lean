/-! Scene.begin and copyFrom, Hand -/

set_option maxHeartbeats 4000000 in
set_option maxRecDepth 100000 in
theorem kX3_begin {sh : List q_S} {σ : q_M} {x w r q fr c N : Nat} (hx : q_isSc sh x) (hw : sh[w]? = some (.inr (6, [some (some r), some (some q)]))) (hr : sh[r]? = some (.inl (0, 7, none))) (hfr : sh[fr]? = some (.inl (3, 6, some (q_ra c 6)))) (hc : ∀ k, k < 6 → sh[c + k]? = some q_sD) (hd : x + 12 ≤ c ∨ c + 6 ≤ x) (hrx : r < x ∨ x + 12 ≤ r) (h6 : N ≤ 6) (hz : ∀ k, k < N → σ (c + k) 7 = 0 ∨ σ (c + k) 7 = 1) : q_Ct YX3_begin [.ref x, .ref w, .ref fr, .int (nI N)] sh σ (q_is none sh (q_up (q_up (q_up (q_up (q_up (q_up (q_cd (q_up σ x 2 (nI N)) (x + 6) c N) (x + 2) 3 0) x 3 0) x 4 (σ r 2)) x 5 0) x 6 0) x 7 (q_b (decide (0 < (σ r 6).toInt))))) := by
  refine q_ct (n := 0) (by decide) (by decide) rfl (fun _ => Nat.le_of_ble_eq_true rfl) (fun E => ?_)
  have x0 := hx.1
  have sn0 := hx.2.2.1.1
  refine q_aload_n dX3_begin_0 rfl ?_
  refine q_aload_n dX3_begin_1 rfl ?_
  refine q_iload_n dX3_begin_2 rfl ?_
  refine q_cVv lX3_25 vX3_copyDivers (ci := 3) rfl dX3_begin_3 (kX3_copyDivers hx hfr hc hd h6 hz) (by first | assumption | rfl) rfl rfl (Nat.le_of_ble_eq_true rfl) (by decide) ?_
  refine q_aload_n dX3_begin_6 rfl ?_
  refine q_getr fX3_20 dX3_begin_7 (by first | assumption | rfl) (by rfl) ?_
  refine q_iconst (x := 0) dX3_begin_10 (by decide) ?_
  refine q_put_i pX3_29 dX3_begin_11 sn0 (by rfl) rfl rfl ?_
  refine q_aload_n dX3_begin_14 rfl ?_
  refine q_iconst (x := 0) dX3_begin_15 (by decide) ?_
  refine q_put_i pX3_33 dX3_begin_16 (by first | assumption | rfl) (by rfl) rfl rfl ?_
  refine q_aload_n dX3_begin_19 rfl ?_
  refine q_aload_n dX3_begin_20 rfl ?_
  refine q_getr fX3_36 dX3_begin_21 (by first | assumption | rfl) (by rfl) ?_
  refine q_iconst (x := 2) dX3_begin_24 (by decide) ?_
  refine q_ild 2 (by first | assumption | rfl) rfl (by decide) dX3_begin_25 ?_
  simp only [q_up_g (show r ≠ x by omega), q_up_g (show r ≠ x + 2 by omega)]
  rw [q_cd_ne (x := r) (by omega), q_up_g (by omega)]
  refine q_put_i pX3_42 dX3_begin_26 (by first | assumption | rfl) (by rfl) rfl rfl ?_
  refine q_aload_n dX3_begin_29 rfl ?_
  refine q_iconst (x := 0) dX3_begin_30 (by decide) ?_
  refine q_put_i pX3_45 dX3_begin_31 (by first | assumption | rfl) (by rfl) rfl rfl ?_
  refine q_aload_n dX3_begin_34 rfl ?_
  refine q_iconst (x := 0) dX3_begin_35 (by decide) ?_
  refine q_put_i pX3_48 dX3_begin_36 (by first | assumption | rfl) (by rfl) rfl rfl ?_
  refine q_aload_n dX3_begin_39 rfl ?_
  refine q_aload_n dX3_begin_40 rfl ?_
  refine q_getr fX3_36 dX3_begin_41 (by first | assumption | rfl) (by rfl) ?_
  refine q_bipush (x := 6) dX3_begin_44 (by decide) ?_
  refine q_ild 6 (by first | assumption | rfl) rfl (by decide) dX3_begin_46 ?_
  simp only [q_up_g (show r ≠ x by omega), q_up_g (show r ≠ x + 2 by omega)]
  rw [q_cd_ne (x := r) (by omega), q_up_g (by omega)]
  refine q_zle 54 dX3_begin_47 (by decide) (fun h47 => ?_) (fun h47 => ?_)
  · have hq : q_b (decide (0 < (σ r 6).toInt)) = 0 := by rw [decide_eq_false (by omega)]; rfl
    refine q_iconst (x := 0) dX3_begin_54 (by decide) ?_
    refine q_put_i pX3_51 dX3_begin_55 (by first | assumption | rfl) (by rfl) rfl rfl ?_
    refine q_vret dX3_begin_58 ?_ rfl rfl
    exact ⟨rfl, rfl, by rw [hq]⟩
  · have hq : q_b (decide (0 < (σ r 6).toInt)) = 1 := by rw [decide_eq_true (by omega)]; rfl
    refine q_iconst (x := 1) dX3_begin_50 (by decide) ?_
    refine q_goto 55 dX3_begin_51 (by decide) ?_
    refine q_put_i pX3_51 dX3_begin_55 (by first | assumption | rfl) (by rfl) rfl rfl ?_
    refine q_vret dX3_begin_58 ?_ rfl rfl
    exact ⟨rfl, rfl, by rw [hq]⟩

set_option maxHeartbeats 4000000 in
set_option maxRecDepth 100000 in
theorem kX3_copyFrom {sh : List q_S} {σ : q_M} {x y N n : Nat} (hx : q_isSc sh x) (hy : q_isSc sh y) (hxy : x + 12 ≤ y ∨ y + 12 ≤ x) (hN : σ y 2 = nI N) (h6 : N ≤ 6) (hz : ∀ k, k < N → σ (y + 6 + k) 7 = 0 ∨ σ (y + 6 + k) 7 = 1) (hn : σ (y + 2) 3 = nI n) (h12 : n ≤ 12) (hs : ∀ i, i < n → σ (y + 2 + 3) i = 0 ∨ σ (y + 2 + 3) i = 1) (hl : σ y 7 = 0 ∨ σ y 7 = 1) : q_Ct YX3_copyFrom [.ref x, .ref y] sh σ (q_is none sh (q_up (q_up (q_up (q_up (q_up (q_cs (q_cd (q_up σ x 2 (nI N)) (x + 6) (y + 6) N) (x + 2) (y + 2) n) x 3 (σ y 3)) x 4 (σ y 4)) x 5 (σ y 5)) x 6 (σ y 6)) x 7 (σ y 7))) := by
  refine q_ct (n := 0) (by decide) (by decide) rfl (fun _ => Nat.le_of_ble_eq_true rfl) (fun E => ?_)
  have x0 := hx.1
  have y0 := hy.1
  refine q_aload_n dX3_copyFrom_0 rfl ?_
  refine q_aload_n dX3_copyFrom_1 rfl ?_
  refine q_getr fX3_11 dX3_copyFrom_2 (by first | assumption | rfl) (by rfl) ?_
  refine q_aload_n dX3_copyFrom_5 rfl ?_
  refine q_get fX3_55 dX3_copyFrom_6 (by first | assumption | rfl) (by rfl) ?_
  rw [hN]
  refine q_cVv lX3_25 vX3_copyDivers (ci := 3) rfl dX3_copyFrom_9 (kX3_copyDivers (c := y + 6) hx hy.2.1 hy.2.2.2 (by omega) h6 hz) (by first | assumption | rfl) rfl rfl (Nat.le_of_ble_eq_true rfl) (by decide) ?_
  refine q_aload_n dX3_copyFrom_12 rfl ?_
  refine q_getr fX3_20 dX3_copyFrom_13 (by first | assumption | rfl) (by rfl) ?_
  refine q_aload_n dX3_copyFrom_16 rfl ?_
  refine q_getr fX3_20 dX3_copyFrom_17 (by first | assumption | rfl) (by rfl) ?_
  refine q_cVv lX3_58 vX4_copyFrom (ci := 4) rfl dX3_copyFrom_20 (kX4_copyFrom hx.2.2.1 hy.2.2.1 (by omega) (by rw [q_cd_ne (by omega), q_up_g (by omega)]; exact hn) h12 (fun i hi => by rw [q_cd_ne (by omega), q_up_g (by omega)]; exact hs i hi)) hx.2.2.1.1 rfl rfl (Nat.le_of_ble_eq_true rfl) (by decide) ?_
  refine q_aload_n dX3_copyFrom_23 rfl ?_
  refine q_aload_n dX3_copyFrom_24 rfl ?_
  refine q_get fX3_33 dX3_copyFrom_25 (by first | assumption | rfl) (by rfl) ?_
  try simp only [q_up_g (show y ≠ x by omega)]
  rw [q_cs_ne (c := y) (by omega), q_cd_ne (x := y) (by omega), q_up_g (by omega)]
  refine q_put_i pX3_33 dX3_copyFrom_28 (by first | assumption | rfl) (by rfl) rfl rfl ?_
  refine q_aload_n dX3_copyFrom_31 rfl ?_
  refine q_aload_n dX3_copyFrom_32 rfl ?_
  refine q_get fX3_42 dX3_copyFrom_33 (by first | assumption | rfl) (by rfl) ?_
  try simp only [q_up_g (show y ≠ x by omega)]
  rw [q_cs_ne (c := y) (by omega), q_cd_ne (x := y) (by omega), q_up_g (by omega)]
  refine q_put_i pX3_42 dX3_copyFrom_36 (by first | assumption | rfl) (by rfl) rfl rfl ?_
  refine q_aload_n dX3_copyFrom_39 rfl ?_
  refine q_aload_n dX3_copyFrom_40 rfl ?_
  refine q_get fX3_45 dX3_copyFrom_41 (by first | assumption | rfl) (by rfl) ?_
  try simp only [q_up_g (show y ≠ x by omega)]
  rw [q_cs_ne (c := y) (by omega), q_cd_ne (x := y) (by omega), q_up_g (by omega)]
  refine q_put_i pX3_45 dX3_copyFrom_44 (by first | assumption | rfl) (by rfl) rfl rfl ?_
  refine q_aload_n dX3_copyFrom_47 rfl ?_
  refine q_aload_n dX3_copyFrom_48 rfl ?_
  refine q_get fX3_48 dX3_copyFrom_49 (by first | assumption | rfl) (by rfl) ?_
  try simp only [q_up_g (show y ≠ x by omega)]
  rw [q_cs_ne (c := y) (by omega), q_cd_ne (x := y) (by omega), q_up_g (by omega)]
  refine q_put_i pX3_48 dX3_copyFrom_52 (by first | assumption | rfl) (by rfl) rfl rfl ?_
  refine q_aload_n dX3_copyFrom_55 rfl ?_
  refine q_aload_n dX3_copyFrom_56 rfl ?_
  refine q_get fX3_51 dX3_copyFrom_57 (by first | assumption | rfl) (by rfl) ?_
  try simp only [q_up_g (show y ≠ x by omega)]
  rw [q_cs_ne (c := y) (by omega), q_cd_ne (x := y) (by omega), q_up_g (by omega)]
  refine q_put_i pX3_51 dX3_copyFrom_60 (by first | assumption | rfl) (by rfl) (by rcases hl with h | h <;> rw [h] <;> rfl) (by rcases hl with h | h <;> rw [h] <;> rfl) ?_
  refine q_vret dX3_copyFrom_63 ?_ rfl rfl
  exact ⟨rfl, rfl, rfl⟩

theorem q_fm_x : ∀ m, m < 1000 → 0 ≤ (nI m ^^^ 51).toInt := by decide +kernel
set_option maxHeartbeats 4000000 in
set_option maxRecDepth 100000 in
theorem kfm {sh : List q_S} {σ : q_M} {a : Nat} (ha : a < 1000) : q_Ct YJ9_floorMod_7cf53 [.int (nI a), .int 51] sh σ (q_is (some (nI (a % 51))) sh σ) := by
  refine q_ctJ (n := 1) (by decide +kernel) (by decide) rfl (fun _ => Nat.le_of_ble_eq_true rfl) (fun E => ?_)
  refine q_iload_n dJ9_floorMod_7cf53_0 rfl ?_
  refine q_iload_n dJ9_floorMod_7cf53_1 rfl ?_
  refine q_irem (by decide) dJ9_floorMod_7cf53_2 ?_
  rw [show nI a - nI a / 51 * 51 = nI (a % 51) from pk_rem (a := a) (d := 51) (by omega) (by omega) (by omega)]
  refine q_istore_n dJ9_floorMod_7cf53_3 (by decide) rfl ?_
  refine q_iload_n dJ9_floorMod_7cf53_4 rfl ?_
  refine q_iload_n dJ9_floorMod_7cf53_5 rfl ?_
  refine q_ixor dJ9_floorMod_7cf53_6 ?_
  refine q_zge 18 dJ9_floorMod_7cf53_7 (by decide) (fun _ => ?_) (fun h => absurd h (by have := q_fm_x a ha; omega))
  refine q_iload_n dJ9_floorMod_7cf53_18 rfl ?_
  exact q_iret dJ9_floorMod_7cf53_19 ⟨rfl, rfl, rfl⟩ ⟨_, rfl, rfl⟩ (Or.inl rfl)

/-- the hand takes up the diver in cell d -/
def q_tk (σ : q_M) (d : Nat) (dep t : Int32) : q_M := q_up (q_up (q_up (q_up (q_up (q_up (q_up (q_up (q_up (q_up (q_up (q_up (q_up (q_up σ 69 0 (σ d 0)) 69 1 (σ d 1)) 69 2 (σ d 2)) 69 3 (σ d 3)) 69 7 (σ d 7)) 69 4 (σ d 4)) 69 5 (σ d 5)) 69 6 (σ d 6)) 68 2 (dep * 64)) 69 5 (dep * 64)) 69 6 0) 68 3 t) 68 4 (-4)) 68 5 0
/-- what the hand sees, turns the thumb by -/
def q_sg (σ : q_M) (a b : Nat) : Int32 := if a < b then σ 68 2 else q_up σ 70 (a % 51) (σ 69 5) 70 ((a - b) % 51)
def q_tt (th sight tgt step : Int32) : Int32 := if sight.toInt < tgt.toInt then q_min 500 (th + step) else if tgt.toInt < sight.toInt then q_max 0 (th - step) else th
def q_tn (σ : q_M) (a b : Nat) (step : Int32) : q_M := q_up (q_up σ 70 (a % 51) (σ 69 5)) 68 3 (q_tt (σ 68 3) (q_sg σ a b) (σ 68 2) step)
def q_mk (σ : q_M) (tick fl : Int32) : q_M := if σ 69 5 = 0 ∨ σ 69 5 = fl then q_up (q_up σ 68 5 (q_max (σ 68 5) (q_abs (σ 69 5 - σ 68 2)))) 68 4 tick else q_up σ 68 5 (q_max (σ 68 5) (q_abs (σ 69 5 - σ 68 2)))
theorem q_up_self (σ : q_M) (a k : Nat) : q_up σ a k (σ a k) = σ := by
  funext b j
  by_cases h : b = a
  · subst h
    by_cases h2 : j = k
    · subst h2
      simp [q_up, upd]
    · simp [q_up, upd, h2]
  · simp [q_up, h]

set_option maxHeartbeats 4000000 in
set_option maxRecDepth 100000 in
theorem kX1_takeUp {σ : q_M} {d : Nat} (hd : q_SH[d]? = some q_sD) (hne : d ≠ 69) (hb : σ d 7 = 0 ∨ σ d 7 = 1) {dep t : Int32} : q_Ct YX1_takeUp [.ref 68, .ref d, .int dep, .int t] q_SH σ (q_is none q_SH (q_tk σ d dep t)) := by
  refine q_ct (n := 0) (by decide) (by decide) rfl (fun _ => Nat.le_of_ble_eq_true rfl) (fun E => ?_)
  refine q_aload_n dX1_takeUp_0 rfl ?_
  refine q_getr fX1_12 dX1_takeUp_1 (by first | assumption | rfl) (by rfl) ?_
  refine q_aload_n dX1_takeUp_4 rfl ?_
  refine q_cVv lX1_22 vX0_copyFrom (ci := 0) rfl dX1_takeUp_5 (kX0_copyFrom (by rfl) hd hne hb) (by first | assumption | rfl) rfl rfl (Nat.le_of_ble_eq_true rfl) (by decide) ?_
  refine q_aload_n dX1_takeUp_8 rfl ?_
  refine q_iload_n dX1_takeUp_9 rfl ?_
  refine q_bipush (x := 64) dX1_takeUp_10 (by decide) ?_
  refine q_imul dX1_takeUp_12 ?_
  refine q_put_i pX1_26 dX1_takeUp_13 (by first | assumption | rfl) (by rfl) rfl rfl ?_
  refine q_aload_n dX1_takeUp_16 rfl ?_
  refine q_getr fX1_12 dX1_takeUp_17 (by first | assumption | rfl) (by rfl) ?_
  refine q_aload_n dX1_takeUp_20 rfl ?_
  refine q_get fX1_26 dX1_takeUp_21 (by first | assumption | rfl) (by rfl) ?_
  rw [q_up_at]
  refine q_put_i pX1_30 dX1_takeUp_24 (by first | assumption | rfl) (by rfl) rfl rfl ?_
  refine q_aload_n dX1_takeUp_27 rfl ?_
  refine q_getr fX1_12 dX1_takeUp_28 (by first | assumption | rfl) (by rfl) ?_
  refine q_iconst (x := 0) dX1_takeUp_31 (by decide) ?_
  refine q_put_i pX1_33 dX1_takeUp_32 (by first | assumption | rfl) (by rfl) rfl rfl ?_
  refine q_aload_n dX1_takeUp_35 rfl ?_
  refine q_iload_n dX1_takeUp_36 rfl ?_
  refine q_put_i pX1_36 dX1_takeUp_37 (by first | assumption | rfl) (by rfl) rfl rfl ?_
  refine q_aload_n dX1_takeUp_40 rfl ?_
  refine q_bipush (x := (-4)) dX1_takeUp_41 (by decide) ?_
  refine q_put_i pX1_39 dX1_takeUp_43 (by first | assumption | rfl) (by rfl) rfl rfl ?_
  refine q_aload_n dX1_takeUp_46 rfl ?_
  refine q_iconst (x := 0) dX1_takeUp_47 (by decide) ?_
  refine q_put_i pX1_42 dX1_takeUp_48 (by first | assumption | rfl) (by rfl) rfl rfl ?_
  refine q_vret dX1_takeUp_51 ?_ rfl rfl
  exact ⟨rfl, rfl, rfl⟩

set_option maxHeartbeats 4000000 in
set_option maxRecDepth 100000 in
theorem kX1_turnThumb {σ : q_M} {a b : Nat} (ha : a < 1000) (hb : b < 1000) {st : Int32} : q_Ct YX1_turnThumb [.ref 68, .int (nI a), .int (nI b), .int st] q_SH σ (q_is none q_SH (q_tn σ a b st)) := by
  refine q_ct (n := 1) (by decide) (by decide) rfl (fun _ => Nat.le_of_ble_eq_true rfl) (fun E => ?_)
  have hat := nI_toInt (n := a) (by omega)
  have hbt := nI_toInt (n := b) (by omega)
  have hm := nI_toInt (n := a % 51) (by omega)
  refine q_aload_n dX1_turnThumb_0 rfl ?_
  refine q_getr fX1_18 dX1_turnThumb_1 (by first | assumption | rfl) (by rfl) ?_
  refine q_iload_n dX1_turnThumb_4 rfl ?_
  refine q_aload_n dX1_turnThumb_5 rfl ?_
  refine q_getr fX1_18 dX1_turnThumb_6 (by first | assumption | rfl) (by rfl) ?_
  refine q_alen (t := 0) (by decide) (by first | assumption | rfl) dX1_turnThumb_9 ?_
  refine q_cSi lX1_45 sJ9_floorMod_7cf53 dX1_turnThumb_10 (kfm ha) rfl rfl (Nat.le_of_ble_eq_true rfl) (by decide) ?_
  refine q_aload_n dX1_turnThumb_13 rfl ?_
  refine q_getr fX1_12 dX1_turnThumb_14 (by first | assumption | rfl) (by rfl) ?_
  refine q_get fX1_30 dX1_turnThumb_17 (by first | assumption | rfl) (by rfl) ?_
  refine q_isto (a % 51) (by first | assumption | rfl) hm (Nat.mod_lt _ (by decide)) dX1_turnThumb_20 ?_
  refine q_iload_n dX1_turnThumb_21 rfl ?_
  refine q_iload_n dX1_turnThumb_22 rfl ?_
  refine q_cge 33 dX1_turnThumb_23 (by decide) (fun h23 => ?_) (fun h23 => ?_)
  · refine q_aload_n dX1_turnThumb_33 rfl ?_
    refine q_getr fX1_18 dX1_turnThumb_34 (by first | assumption | rfl) (by rfl) ?_
    refine q_iload_n dX1_turnThumb_37 rfl ?_
    refine q_iload_n dX1_turnThumb_38 rfl ?_
    refine q_isub dX1_turnThumb_39 ?_
    rw [pk_sub (by omega)]
    refine q_aload_n dX1_turnThumb_40 rfl ?_
    refine q_getr fX1_18 dX1_turnThumb_41 (by first | assumption | rfl) (by rfl) ?_
    refine q_alen (t := 0) (by decide) (by first | assumption | rfl) dX1_turnThumb_44 ?_
    refine q_cSi lX1_45 sJ9_floorMod_7cf53 dX1_turnThumb_45 (kfm (by omega)) rfl rfl (Nat.le_of_ble_eq_true rfl) (by decide) ?_
    have hm2 := nI_toInt (n := (a - b) % 51) (by omega)
    refine q_ild ((a - b) % 51) (by first | assumption | rfl) hm2 (Nat.mod_lt _ (by decide)) dX1_turnThumb_48 ?_
    refine q_istore dX1_turnThumb_49 (by decide) rfl ?_
    refine q_iload dX1_turnThumb_51 rfl ?_
    refine q_aload_n dX1_turnThumb_53 rfl ?_
    refine q_get fX1_26 dX1_turnThumb_54 (by first | assumption | rfl) (by rfl) ?_
    simp only [q_up_g (show (68 : Nat) ≠ 70 by decide)]
    refine q_cge 76 dX1_turnThumb_57 (by decide) (fun h57 => ?_) (fun h57 => ?_)
    · refine q_iload dX1_turnThumb_76 rfl ?_
      refine q_aload_n dX1_turnThumb_78 rfl ?_
      refine q_get fX1_26 dX1_turnThumb_79 (by first | assumption | rfl) (by rfl) ?_
      try simp only [q_up_g (show (68 : Nat) ≠ 70 by decide), q_up_f (show (2 : Nat) ≠ 3 by decide)]
      refine q_cle 99 dX1_turnThumb_82 (by decide) (fun h82 => ?_) (fun h82 => ?_)
      · refine q_vret dX1_turnThumb_99 ?_ rfl rfl
        refine ⟨rfl, rfl, ?_⟩
        first
          | (exfalso; omega)
          | (first
              | rw [q_tn, show q_sg σ a b = σ 68 2 by rw [q_sg, if_pos (by omega)]]
              | rw [q_tn, show q_sg σ a b = q_up σ 70 (a % 51) (σ 69 5) 70 ((a - b) % 51) by rw [q_sg, if_neg (by omega)]]
             first
              | rw [q_tt, if_pos (by omega)]
              | rw [q_tt, if_neg (by omega), if_pos (by omega)]
              | (rw [q_tt, if_neg (by omega), if_neg (by omega)]
                 have e := q_up_self (q_up σ 70 (a % 51) (σ 69 5)) 68 3
                 rw [q_up_g (by decide)] at e
                 exact e.symm))
      · refine q_aload_n dX1_turnThumb_85 rfl ?_
        refine q_iconst (x := 0) dX1_turnThumb_86 (by decide) ?_
        refine q_aload_n dX1_turnThumb_87 rfl ?_
        refine q_get fX1_36 dX1_turnThumb_88 (by first | assumption | rfl) (by rfl) ?_
        try simp only [q_up_g (show (68 : Nat) ≠ 70 by decide), q_up_at]
        refine q_iload_n dX1_turnThumb_91 rfl ?_
        refine q_isub dX1_turnThumb_92 ?_
        refine q_cSi lX1_54 sJ9_max_7cf53 dX1_turnThumb_93 kmax rfl rfl (Nat.le_of_ble_eq_true rfl) (by decide) ?_
        refine q_put_i pX1_36 dX1_turnThumb_96 (by first | assumption | rfl) (by rfl) rfl rfl ?_
        refine q_vret dX1_turnThumb_99 ?_ rfl rfl
        refine ⟨rfl, rfl, ?_⟩
        first
          | (exfalso; omega)
          | (first
              | rw [q_tn, show q_sg σ a b = σ 68 2 by rw [q_sg, if_pos (by omega)]]
              | rw [q_tn, show q_sg σ a b = q_up σ 70 (a % 51) (σ 69 5) 70 ((a - b) % 51) by rw [q_sg, if_neg (by omega)]]
             first
              | rw [q_tt, if_pos (by omega)]
              | rw [q_tt, if_neg (by omega), if_pos (by omega)]
              | (rw [q_tt, if_neg (by omega), if_neg (by omega)]
                 have e := q_up_self (q_up σ 70 (a % 51) (σ 69 5)) 68 3
                 rw [q_up_g (by decide)] at e
                 exact e.symm))
    · refine q_aload_n dX1_turnThumb_60 rfl ?_
      refine q_sipush (x := 500) dX1_turnThumb_61 (by decide) ?_
      refine q_aload_n dX1_turnThumb_64 rfl ?_
      refine q_get fX1_36 dX1_turnThumb_65 (by first | assumption | rfl) (by rfl) ?_
      simp only [q_up_g (show (68 : Nat) ≠ 70 by decide)]
      refine q_iload_n dX1_turnThumb_68 rfl ?_
      refine q_iadd dX1_turnThumb_69 ?_
      refine q_cSi lX1_51 sJ9_min_7cf53 dX1_turnThumb_70 kmin rfl rfl (Nat.le_of_ble_eq_true rfl) (by decide) ?_
      refine q_put_i pX1_36 dX1_turnThumb_73 (by first | assumption | rfl) (by rfl) rfl rfl ?_
      refine q_iload dX1_turnThumb_76 rfl ?_
      refine q_aload_n dX1_turnThumb_78 rfl ?_
      refine q_get fX1_26 dX1_turnThumb_79 (by first | assumption | rfl) (by rfl) ?_
      try simp only [q_up_g (show (68 : Nat) ≠ 70 by decide), q_up_f (show (2 : Nat) ≠ 3 by decide)]
      refine q_cle 99 dX1_turnThumb_82 (by decide) (fun h82 => ?_) (fun h82 => ?_)
      · refine q_vret dX1_turnThumb_99 ?_ rfl rfl
        refine ⟨rfl, rfl, ?_⟩
        first
          | (exfalso; omega)
          | (first
              | rw [q_tn, show q_sg σ a b = σ 68 2 by rw [q_sg, if_pos (by omega)]]
              | rw [q_tn, show q_sg σ a b = q_up σ 70 (a % 51) (σ 69 5) 70 ((a - b) % 51) by rw [q_sg, if_neg (by omega)]]
             first
              | rw [q_tt, if_pos (by omega)]
              | rw [q_tt, if_neg (by omega), if_pos (by omega)]
              | (rw [q_tt, if_neg (by omega), if_neg (by omega)]
                 have e := q_up_self (q_up σ 70 (a % 51) (σ 69 5)) 68 3
                 rw [q_up_g (by decide)] at e
                 exact e.symm))
      · refine q_aload_n dX1_turnThumb_85 rfl ?_
        refine q_iconst (x := 0) dX1_turnThumb_86 (by decide) ?_
        refine q_aload_n dX1_turnThumb_87 rfl ?_
        refine q_get fX1_36 dX1_turnThumb_88 (by first | assumption | rfl) (by rfl) ?_
        try simp only [q_up_g (show (68 : Nat) ≠ 70 by decide), q_up_at]
        refine q_iload_n dX1_turnThumb_91 rfl ?_
        refine q_isub dX1_turnThumb_92 ?_
        refine q_cSi lX1_54 sJ9_max_7cf53 dX1_turnThumb_93 kmax rfl rfl (Nat.le_of_ble_eq_true rfl) (by decide) ?_
        refine q_put_i pX1_36 dX1_turnThumb_96 (by first | assumption | rfl) (by rfl) rfl rfl ?_
        refine q_vret dX1_turnThumb_99 ?_ rfl rfl
        refine ⟨rfl, rfl, ?_⟩
        first
          | (exfalso; omega)
          | (first
              | rw [q_tn, show q_sg σ a b = σ 68 2 by rw [q_sg, if_pos (by omega)]]
              | rw [q_tn, show q_sg σ a b = q_up σ 70 (a % 51) (σ 69 5) 70 ((a - b) % 51) by rw [q_sg, if_neg (by omega)]]
             first
              | rw [q_tt, if_pos (by omega)]
              | rw [q_tt, if_neg (by omega), if_pos (by omega)]
              | (rw [q_tt, if_neg (by omega), if_neg (by omega)]
                 have e := q_up_self (q_up σ 70 (a % 51) (σ 69 5)) 68 3
                 rw [q_up_g (by decide)] at e
                 exact e.symm))
  · refine q_aload_n dX1_turnThumb_26 rfl ?_
    refine q_get fX1_26 dX1_turnThumb_27 (by first | assumption | rfl) (by rfl) ?_
    simp only [q_up_g (show (68 : Nat) ≠ 70 by decide)]
    refine q_goto 49 dX1_turnThumb_30 (by decide) ?_
    refine q_istore dX1_turnThumb_49 (by decide) rfl ?_
    refine q_iload dX1_turnThumb_51 rfl ?_
    refine q_aload_n dX1_turnThumb_53 rfl ?_
    refine q_get fX1_26 dX1_turnThumb_54 (by first | assumption | rfl) (by rfl) ?_
    simp only [q_up_g (show (68 : Nat) ≠ 70 by decide)]
    refine q_cge 76 dX1_turnThumb_57 (by decide) (fun h57 => ?_) (fun h57 => ?_)
    · refine q_iload dX1_turnThumb_76 rfl ?_
      refine q_aload_n dX1_turnThumb_78 rfl ?_
      refine q_get fX1_26 dX1_turnThumb_79 (by first | assumption | rfl) (by rfl) ?_
      try simp only [q_up_g (show (68 : Nat) ≠ 70 by decide), q_up_f (show (2 : Nat) ≠ 3 by decide)]
      refine q_cle 99 dX1_turnThumb_82 (by decide) (fun h82 => ?_) (fun h82 => ?_)
      · refine q_vret dX1_turnThumb_99 ?_ rfl rfl
        refine ⟨rfl, rfl, ?_⟩
        first
          | (exfalso; omega)
          | (first
              | rw [q_tn, show q_sg σ a b = σ 68 2 by rw [q_sg, if_pos (by omega)]]
              | rw [q_tn, show q_sg σ a b = q_up σ 70 (a % 51) (σ 69 5) 70 ((a - b) % 51) by rw [q_sg, if_neg (by omega)]]
             first
              | rw [q_tt, if_pos (by omega)]
              | rw [q_tt, if_neg (by omega), if_pos (by omega)]
              | (rw [q_tt, if_neg (by omega), if_neg (by omega)]
                 have e := q_up_self (q_up σ 70 (a % 51) (σ 69 5)) 68 3
                 rw [q_up_g (by decide)] at e
                 exact e.symm))
      · refine q_aload_n dX1_turnThumb_85 rfl ?_
        refine q_iconst (x := 0) dX1_turnThumb_86 (by decide) ?_
        refine q_aload_n dX1_turnThumb_87 rfl ?_
        refine q_get fX1_36 dX1_turnThumb_88 (by first | assumption | rfl) (by rfl) ?_
        try simp only [q_up_g (show (68 : Nat) ≠ 70 by decide), q_up_at]
        refine q_iload_n dX1_turnThumb_91 rfl ?_
        refine q_isub dX1_turnThumb_92 ?_
        refine q_cSi lX1_54 sJ9_max_7cf53 dX1_turnThumb_93 kmax rfl rfl (Nat.le_of_ble_eq_true rfl) (by decide) ?_
        refine q_put_i pX1_36 dX1_turnThumb_96 (by first | assumption | rfl) (by rfl) rfl rfl ?_
        refine q_vret dX1_turnThumb_99 ?_ rfl rfl
        refine ⟨rfl, rfl, ?_⟩
        first
          | (exfalso; omega)
          | (first
              | rw [q_tn, show q_sg σ a b = σ 68 2 by rw [q_sg, if_pos (by omega)]]
              | rw [q_tn, show q_sg σ a b = q_up σ 70 (a % 51) (σ 69 5) 70 ((a - b) % 51) by rw [q_sg, if_neg (by omega)]]
             first
              | rw [q_tt, if_pos (by omega)]
              | rw [q_tt, if_neg (by omega), if_pos (by omega)]
              | (rw [q_tt, if_neg (by omega), if_neg (by omega)]
                 have e := q_up_self (q_up σ 70 (a % 51) (σ 69 5)) 68 3
                 rw [q_up_g (by decide)] at e
                 exact e.symm))
    · refine q_aload_n dX1_turnThumb_60 rfl ?_
      refine q_sipush (x := 500) dX1_turnThumb_61 (by decide) ?_
      refine q_aload_n dX1_turnThumb_64 rfl ?_
      refine q_get fX1_36 dX1_turnThumb_65 (by first | assumption | rfl) (by rfl) ?_
      simp only [q_up_g (show (68 : Nat) ≠ 70 by decide)]
      refine q_iload_n dX1_turnThumb_68 rfl ?_
      refine q_iadd dX1_turnThumb_69 ?_
      refine q_cSi lX1_51 sJ9_min_7cf53 dX1_turnThumb_70 kmin rfl rfl (Nat.le_of_ble_eq_true rfl) (by decide) ?_
      refine q_put_i pX1_36 dX1_turnThumb_73 (by first | assumption | rfl) (by rfl) rfl rfl ?_
      refine q_iload dX1_turnThumb_76 rfl ?_
      refine q_aload_n dX1_turnThumb_78 rfl ?_
      refine q_get fX1_26 dX1_turnThumb_79 (by first | assumption | rfl) (by rfl) ?_
      try simp only [q_up_g (show (68 : Nat) ≠ 70 by decide), q_up_f (show (2 : Nat) ≠ 3 by decide)]
      refine q_cle 99 dX1_turnThumb_82 (by decide) (fun h82 => ?_) (fun h82 => ?_)
      · refine q_vret dX1_turnThumb_99 ?_ rfl rfl
        refine ⟨rfl, rfl, ?_⟩
        first
          | (exfalso; omega)
          | (first
              | rw [q_tn, show q_sg σ a b = σ 68 2 by rw [q_sg, if_pos (by omega)]]
              | rw [q_tn, show q_sg σ a b = q_up σ 70 (a % 51) (σ 69 5) 70 ((a - b) % 51) by rw [q_sg, if_neg (by omega)]]
             first
              | rw [q_tt, if_pos (by omega)]
              | rw [q_tt, if_neg (by omega), if_pos (by omega)]
              | (rw [q_tt, if_neg (by omega), if_neg (by omega)]
                 have e := q_up_self (q_up σ 70 (a % 51) (σ 69 5)) 68 3
                 rw [q_up_g (by decide)] at e
                 exact e.symm))
      · refine q_aload_n dX1_turnThumb_85 rfl ?_
        refine q_iconst (x := 0) dX1_turnThumb_86 (by decide) ?_
        refine q_aload_n dX1_turnThumb_87 rfl ?_
        refine q_get fX1_36 dX1_turnThumb_88 (by first | assumption | rfl) (by rfl) ?_
        try simp only [q_up_g (show (68 : Nat) ≠ 70 by decide), q_up_at]
        refine q_iload_n dX1_turnThumb_91 rfl ?_
        refine q_isub dX1_turnThumb_92 ?_
        refine q_cSi lX1_54 sJ9_max_7cf53 dX1_turnThumb_93 kmax rfl rfl (Nat.le_of_ble_eq_true rfl) (by decide) ?_
        refine q_put_i pX1_36 dX1_turnThumb_96 (by first | assumption | rfl) (by rfl) rfl rfl ?_
        refine q_vret dX1_turnThumb_99 ?_ rfl rfl
        refine ⟨rfl, rfl, ?_⟩
        first
          | (exfalso; omega)
          | (first
              | rw [q_tn, show q_sg σ a b = σ 68 2 by rw [q_sg, if_pos (by omega)]]
              | rw [q_tn, show q_sg σ a b = q_up σ 70 (a % 51) (σ 69 5) 70 ((a - b) % 51) by rw [q_sg, if_neg (by omega)]]
             first
              | rw [q_tt, if_pos (by omega)]
              | rw [q_tt, if_neg (by omega), if_pos (by omega)]
              | (rw [q_tt, if_neg (by omega), if_neg (by omega)]
                 have e := q_up_self (q_up σ 70 (a % 51) (σ 69 5)) 68 3
                 rw [q_up_g (by decide)] at e
                 exact e.symm))

set_option maxHeartbeats 4000000 in
set_option maxRecDepth 100000 in
theorem kX1_mark {σ : q_M} {tick fl : Int32} : q_Ct YX1_mark [.ref 68, .int tick, .int fl] q_SH σ (q_is none q_SH (q_mk σ tick fl)) := by
  refine q_ct (n := 0) (by decide) (by decide) rfl (fun _ => Nat.le_of_ble_eq_true rfl) (fun E => ?_)
  refine q_aload_n dX1_mark_0 rfl ?_
  refine q_aload_n dX1_mark_1 rfl ?_
  refine q_get fX1_42 dX1_mark_2 (by first | assumption | rfl) (by rfl) ?_
  refine q_aload_n dX1_mark_5 rfl ?_
  refine q_getr fX1_12 dX1_mark_6 (by first | assumption | rfl) (by rfl) ?_
  refine q_get fX1_30 dX1_mark_9 (by first | assumption | rfl) (by rfl) ?_
  refine q_aload_n dX1_mark_12 rfl ?_
  refine q_get fX1_26 dX1_mark_13 (by first | assumption | rfl) (by rfl) ?_
  refine q_isub dX1_mark_16 ?_
  refine q_cSi lX1_57 sJ9_abs_0f7a4 dX1_mark_17 kabs rfl rfl (Nat.le_of_ble_eq_true rfl) (by decide) ?_
  refine q_cSi lX1_54 sJ9_max_7cf53 dX1_mark_20 kmax rfl rfl (Nat.le_of_ble_eq_true rfl) (by decide) ?_
  refine q_put_i pX1_42 dX1_mark_23 (by first | assumption | rfl) (by rfl) rfl rfl ?_
  refine q_aload_n dX1_mark_26 rfl ?_
  refine q_getr fX1_12 dX1_mark_27 (by first | assumption | rfl) (by rfl) ?_
  refine q_get fX1_30 dX1_mark_30 (by first | assumption | rfl) (by rfl) ?_
  simp only [q_up_g (show (69 : Nat) ≠ 68 by decide)]
  refine q_if_eq 47 dX1_mark_33 (by decide) (fun h33 => ?_) (fun h33 => ?_)
  · refine q_aload_n dX1_mark_47 rfl ?_
    refine q_iload_n dX1_mark_48 rfl ?_
    refine q_put_i pX1_39 dX1_mark_49 (by first | assumption | rfl) (by rfl) rfl rfl ?_
    refine q_vret dX1_mark_52 ?_ rfl rfl
    exact ⟨rfl, rfl, by simp [q_mk, *]⟩
  · refine q_aload_n dX1_mark_36 rfl ?_
    refine q_getr fX1_12 dX1_mark_37 (by first | assumption | rfl) (by rfl) ?_
    refine q_get fX1_30 dX1_mark_40 (by first | assumption | rfl) (by rfl) ?_
    simp only [q_up_g (show (69 : Nat) ≠ 68 by decide)]
    refine q_iload_n dX1_mark_43 rfl ?_
    refine q_icmp_ne 52 dX1_mark_44 (by decide) (fun h44 => ?_) (fun h44 => ?_)
    · refine q_vret dX1_mark_52 ?_ rfl rfl
      exact ⟨rfl, rfl, by simp [q_mk, *]⟩
    · refine q_aload_n dX1_mark_47 rfl ?_
      refine q_iload_n dX1_mark_48 rfl ?_
      refine q_put_i pX1_39 dX1_mark_49 (by first | assumption | rfl) (by rfl) rfl rfl ?_
      refine q_vret dX1_mark_52 ?_ rfl rfl
      exact ⟨rfl, rfl, by simp [q_mk, *]⟩
