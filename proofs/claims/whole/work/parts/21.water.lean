/-! Water and Diver: what needs no loop -/
def q_lt0 (dep salt more : Int32) : Int32 := if salt.toInt ≤ dep.toInt then more else 0
def q_wt (air salt more mass bub warm dep th : Int32) : Int32 := mass - q_dc (bub * warm) (air + th + dep) - q_lt0 dep salt more
def q_lb (vol warm pr : Int32) : Int32 := if vol.toInt ≤ 0 then 0 else q_du (vol * pr) warm
abbrev q_sD : q_S := .inr (0, [none, none, none, none, none, none, none, none])
def q_mp (p w drag : Int32) : Int32 := p + w - q_dc (p + w) drag
def q_mv (f p w drag floor : Int32) : Int32 × Int32 := if (f + q_mp p w drag).toInt ≤ 0 ∧ (q_mp p w drag).toInt < 0 then (0, 0) else if floor.toInt ≤ (f + q_mp p w drag).toInt ∧ 0 < (q_mp p w drag).toInt then (floor, 0) else (f + q_mp p w drag, q_mp p w drag)
theorem q_uu (σ : q_M) (a k : Nat) (x y : Int32) : q_up (q_up σ a k x) a k y = q_up σ a k y := by
  funext b j
  by_cases h1 : b = a <;> by_cases h2 : j = k <;> simp [q_up, upd, h1, h2]
theorem q_us (σ : q_M) (a b : Nat) {k j : Nat} (x y : Int32) (h : ¬ (a = b ∧ k = j)) : q_up (q_up σ a k x) b j y = q_up (q_up σ b j y) a k x := by
  funext c i
  simp only [q_up, upd]
  by_cases h1 : c = a <;> by_cases h2 : c = b <;> by_cases h3 : i = k <;> by_cases h4 : i = j <;> simp_all [upd]

set_option maxHeartbeats 4000000 in
set_option maxRecDepth 100000 in
theorem kX7_tellRange {sh : List q_S} {σ : q_M} {l g w : Int32} : q_Ct YX7_tellRange [.int l, .int g, .int w] sh σ (q_is (some (q_tell l g w)) sh σ) := by
  refine q_ct (n := 1) (by decide) (by decide) rfl (fun _ => Nat.le_of_ble_eq_true rfl) (fun E => ?_)
  refine q_iload_n dX7_tellRange_0 rfl ?_
  refine q_sipush (x := 9999) dX7_tellRange_1 (by decide) ?_
  refine q_cSi lX7_216 sJ9_min_7cf53 dX7_tellRange_4 kmin rfl rfl (Nat.le_of_ble_eq_true rfl) (by decide) ?_
  refine q_istore_n dX7_tellRange_7 (by decide) rfl ?_
  refine q_iload_n dX7_tellRange_8 rfl ?_
  refine q_if_ne 22 dX7_tellRange_9 (by decide) (fun h9 => ?_) (fun h9 => ?_)
  · refine q_iload_n dX7_tellRange_22 rfl ?_
    refine q_iload_n dX7_tellRange_23 rfl ?_
    refine q_cge 30 dX7_tellRange_24 (by decide) (fun h24 => ?_) (fun h24 => ?_)
    · have h24 : ¬ (q_min g 9999).toInt < l.toInt := by omega
      refine q_iload_n dX7_tellRange_30 rfl ?_
      refine q_iconst (x := 1) dX7_tellRange_31 (by decide) ?_
      refine q_icmp_ne 39 dX7_tellRange_32 (by decide) (fun h32 => ?_) (fun h32 => ?_)
      · refine q_iload_n dX7_tellRange_39 rfl ?_
        refine q_ret dX7_tellRange_40 ?_ rfl rfl
        exact ⟨congrArg some (by unfold q_tell; simp_all; try (intros; omega)), rfl, rfl⟩
      · refine q_iload_n dX7_tellRange_35 rfl ?_
        refine q_goto 40 dX7_tellRange_36 (by decide) ?_
        refine q_ret dX7_tellRange_40 ?_ rfl rfl
        exact ⟨congrArg some (by unfold q_tell; simp_all; try (intros; omega)), rfl, rfl⟩
    · refine q_bipush (x := (-4)) dX7_tellRange_27 (by decide) ?_
      refine q_ret dX7_tellRange_29 ?_ rfl rfl
      exact ⟨congrArg some (by unfold q_tell; simp_all; try (intros; omega)), rfl, rfl⟩
  · refine q_iconst (x := 0) dX7_tellRange_12 (by decide) ?_
    refine q_iload_n dX7_tellRange_13 rfl ?_
    refine q_iload_n dX7_tellRange_14 rfl ?_
    refine q_isub dX7_tellRange_15 ?_
    refine q_iconst (x := 1) dX7_tellRange_16 (by decide) ?_
    refine q_iadd dX7_tellRange_17 ?_
    refine q_cSi lX7_280 sJ9_max_7cf53 dX7_tellRange_18 kmax rfl rfl (Nat.le_of_ble_eq_true rfl) (by decide) ?_
    refine q_ret dX7_tellRange_21 ?_ rfl rfl
    exact ⟨congrArg some (by unfold q_tell; simp_all; try (intros; omega)), rfl, rfl⟩

set_option maxHeartbeats 4000000 in
set_option maxRecDepth 100000 in
theorem kX6_floor {sh : List q_S} {σ : q_M} {w r q : Nat} (hw : sh[w]? = some (.inr (6, [some (some r), some (some q)]))) (hr : sh[r]? = some (.inl (0, 7, none))) : q_Ct YX6_floor [.ref w] sh σ (q_is (some (σ r 0 * 64)) sh σ) := by
  refine q_ct (n := 0) (by decide) (by decide) rfl (fun _ => Nat.le_of_ble_eq_true rfl) (fun E => ?_)
  refine q_aload_n dX6_floor_0 rfl ?_
  refine q_getr fX6_9 dX6_floor_1 (by first | assumption | rfl) (by rfl) ?_
  refine q_iconst (x := 0) dX6_floor_4 (by decide) ?_
  refine q_ild 0 (by first | assumption | rfl) rfl (by decide) dX6_floor_5 ?_
  refine q_bipush (x := 64) dX6_floor_6 (by decide) ?_
  refine q_imul dX6_floor_8 ?_
  refine q_ret dX6_floor_9 ?_ rfl rfl
  exact ⟨rfl, rfl, rfl⟩

set_option maxHeartbeats 4000000 in
set_option maxRecDepth 100000 in
theorem kX6_pressAt {sh : List q_S} {σ : q_M} {w r q : Nat} (hw : sh[w]? = some (.inr (6, [some (some r), some (some q)]))) (hr : sh[r]? = some (.inl (0, 7, none))) {dep th : Int32} : q_Ct YX6_pressAt [.ref w, .int dep, .int th] sh σ (q_is (some (σ r 1 + th + dep)) sh σ) := by
  refine q_ct (n := 0) (by decide) (by decide) rfl (fun _ => Nat.le_of_ble_eq_true rfl) (fun E => ?_)
  refine q_aload_n dX6_pressAt_0 rfl ?_
  refine q_getr fX6_9 dX6_pressAt_1 (by first | assumption | rfl) (by rfl) ?_
  refine q_iconst (x := 1) dX6_pressAt_4 (by decide) ?_
  refine q_ild 1 (by first | assumption | rfl) rfl (by decide) dX6_pressAt_5 ?_
  refine q_iload_n dX6_pressAt_6 rfl ?_
  refine q_iadd dX6_pressAt_7 ?_
  refine q_iload_n dX6_pressAt_8 rfl ?_
  refine q_iadd dX6_pressAt_9 ?_
  refine q_ret dX6_pressAt_10 ?_ rfl rfl
  exact ⟨rfl, rfl, rfl⟩

set_option maxHeartbeats 4000000 in
set_option maxRecDepth 100000 in
theorem kX6_lighterAt {sh : List q_S} {σ : q_M} {w r q : Nat} (hw : sh[w]? = some (.inr (6, [some (some r), some (some q)]))) (hr : sh[r]? = some (.inl (0, 7, none))) {dep : Int32} : q_Ct YX6_lighterAt [.ref w, .int dep] sh σ (q_is (some (q_lt0 dep (σ r 4) (σ r 5))) sh σ) := by
  refine q_ct (n := 0) (by decide) (by decide) rfl (fun _ => Nat.le_of_ble_eq_true rfl) (fun E => ?_)
  refine q_iload_n dX6_lighterAt_0 rfl ?_
  refine q_aload_n dX6_lighterAt_1 rfl ?_
  refine q_getr fX6_9 dX6_lighterAt_2 (by first | assumption | rfl) (by rfl) ?_
  refine q_iconst (x := 4) dX6_lighterAt_5 (by decide) ?_
  refine q_ild 4 (by first | assumption | rfl) rfl (by decide) dX6_lighterAt_6 ?_
  refine q_clt 19 dX6_lighterAt_7 (by decide) (fun h7 => ?_) (fun h7 => ?_)
  · refine q_iconst (x := 0) dX6_lighterAt_19 (by decide) ?_
    refine q_ret dX6_lighterAt_20 ?_ rfl rfl
    exact ⟨congrArg some (by unfold q_lt0; first | rw [if_pos (by omega)] | rw [if_neg (by omega)]), rfl, rfl⟩
  · refine q_aload_n dX6_lighterAt_10 rfl ?_
    refine q_getr fX6_9 dX6_lighterAt_11 (by first | assumption | rfl) (by rfl) ?_
    refine q_iconst (x := 5) dX6_lighterAt_14 (by decide) ?_
    refine q_ild 5 (by first | assumption | rfl) rfl (by decide) dX6_lighterAt_15 ?_
    refine q_goto 20 dX6_lighterAt_16 (by decide) ?_
    refine q_ret dX6_lighterAt_20 ?_ rfl rfl
    exact ⟨congrArg some (by unfold q_lt0; first | rw [if_pos (by omega)] | rw [if_neg (by omega)]), rfl, rfl⟩

set_option maxHeartbeats 4000000 in
set_option maxRecDepth 100000 in
theorem kX6_weight {sh : List q_S} {σ : q_M} {w r q : Nat} (hw : sh[w]? = some (.inr (6, [some (some r), some (some q)]))) (hr : sh[r]? = some (.inl (0, 7, none))) {mass bub warm dep th : Int32} : q_Ct YX6_weight [.ref w, .int mass, .int bub, .int warm, .int dep, .int th] sh σ (q_is (some (q_wt (σ r 1) (σ r 4) (σ r 5) mass bub warm dep th)) sh σ) := by
  refine q_ct (n := 1) (by decide) (by decide) rfl (fun _ => Nat.le_of_ble_eq_true rfl) (fun E => ?_)
  refine q_iload_n dX6_weight_0 rfl ?_
  refine q_iload_n dX6_weight_1 rfl ?_
  refine q_imul dX6_weight_2 ?_
  refine q_aload_n dX6_weight_3 rfl ?_
  refine q_iload dX6_weight_4 rfl ?_
  refine q_iload dX6_weight_6 rfl ?_
  refine q_cVi lX6_27 vX6_pressAt (ci := 6) rfl dX6_weight_8 (kX6_pressAt (by first | assumption | rfl) (by first | assumption | rfl)) (by first | assumption | rfl) rfl rfl (Nat.le_of_ble_eq_true rfl) (by decide) ?_
  refine q_cSi lX6_31 sX7_divideCut dX6_weight_11 kX7_divideCut rfl rfl (Nat.le_of_ble_eq_true rfl) (by decide) ?_
  refine q_istore dX6_weight_14 (by decide) rfl ?_
  refine q_iload_n dX6_weight_16 rfl ?_
  refine q_iload dX6_weight_17 rfl ?_
  refine q_isub dX6_weight_19 ?_
  refine q_aload_n dX6_weight_20 rfl ?_
  refine q_iload dX6_weight_21 rfl ?_
  refine q_cVi lX6_34 vX6_lighterAt (ci := 6) rfl dX6_weight_23 (kX6_lighterAt (by first | assumption | rfl) (by first | assumption | rfl)) (by first | assumption | rfl) rfl rfl (Nat.le_of_ble_eq_true rfl) (by decide) ?_
  refine q_isub dX6_weight_26 ?_
  refine q_ret dX6_weight_27 ?_ rfl rfl
  exact ⟨rfl, rfl, rfl⟩

set_option maxHeartbeats 4000000 in
set_option maxRecDepth 100000 in
theorem kX6_leastBubble {sh : List q_S} {σ : q_M} {w r q : Nat} {vol warm pr : Int32} : q_Ct YX6_leastBubble [.ref w, .int vol, .int warm, .int pr] sh σ (q_is (some (q_lb vol warm pr)) sh σ) := by
  refine q_ct (n := 0) (by decide) (by decide) rfl (fun _ => Nat.le_of_ble_eq_true rfl) (fun E => ?_)
  refine q_iload_n dX6_leastBubble_0 rfl ?_
  refine q_zgt 8 dX6_leastBubble_1 (by decide) (fun h1 => ?_) (fun h1 => ?_)
  · refine q_iload_n dX6_leastBubble_8 rfl ?_
    refine q_iload_n dX6_leastBubble_9 rfl ?_
    refine q_imul dX6_leastBubble_10 ?_
    refine q_iload_n dX6_leastBubble_11 rfl ?_
    refine q_cSi lX6_38 sX7_divideUp dX6_leastBubble_12 kX7_divideUp rfl rfl (Nat.le_of_ble_eq_true rfl) (by decide) ?_
    refine q_ret dX6_leastBubble_15 ?_ rfl rfl
    exact ⟨congrArg some (by unfold q_lb; first | rw [if_pos (by omega)] | rw [if_neg (by omega)]), rfl, rfl⟩
  · refine q_iconst (x := 0) dX6_leastBubble_4 (by decide) ?_
    refine q_goto 15 dX6_leastBubble_5 (by decide) ?_
    refine q_ret dX6_leastBubble_15 ?_ rfl rfl
    exact ⟨congrArg some (by unfold q_lb; first | rw [if_pos (by omega)] | rw [if_neg (by omega)]), rfl, rfl⟩

set_option maxHeartbeats 4000000 in
set_option maxRecDepth 100000 in
theorem kX0_init {sh : List q_S} {σ : q_M} {d : Nat} : q_Ct YX0_init [.ref d] sh σ (q_is none sh σ) := by
  refine q_ct (n := 0) (by decide) (by decide) rfl (fun _ => Nat.le_of_ble_eq_true rfl) (fun E => ?_)
  refine q_aload_n dX0_init_0 rfl ?_
  refine q_objInit oX0_3 q_oi2 q_oi3 dX0_init_1 ⟨by decide, by decide⟩ ?_
  refine q_vret dX0_init_4 ?_ rfl rfl
  exact ⟨rfl, rfl, rfl⟩

set_option maxHeartbeats 4000000 in
set_option maxRecDepth 100000 in
theorem kX0_depth {sh : List q_S} {σ : q_M} {d : Nat} (hd : sh[d]? = some q_sD) : q_Ct YX0_depth [.ref d] sh σ (q_is (some (q_dc (σ d 5) 64)) sh σ) := by
  refine q_ct (n := 0) (by decide) (by decide) rfl (fun _ => Nat.le_of_ble_eq_true rfl) (fun E => ?_)
  refine q_aload_n dX0_depth_0 rfl ?_
  refine q_get fX0_31 dX0_depth_1 (by first | assumption | rfl) (by rfl) ?_
  refine q_bipush (x := 64) dX0_depth_4 (by decide) ?_
  refine q_cSi lX0_37 sX7_divideCut dX0_depth_6 kX7_divideCut rfl rfl (Nat.le_of_ble_eq_true rfl) (by decide) ?_
  refine q_ret dX0_depth_9 ?_ rfl rfl
  exact ⟨rfl, rfl, rfl⟩

set_option maxHeartbeats 4000000 in
set_option maxRecDepth 100000 in
theorem kX0_stopAt {sh : List q_S} {σ : q_M} {d : Nat} (hd : sh[d]? = some q_sD) {x : Int32} : q_Ct YX0_stopAt [.ref d, .int x] sh σ (q_is none sh (q_up (q_up σ d 5 x) d 6 0)) := by
  refine q_ct (n := 0) (by decide) (by decide) rfl (fun _ => Nat.le_of_ble_eq_true rfl) (fun E => ?_)
  refine q_aload_n dX0_stopAt_0 rfl ?_
  refine q_iload_n dX0_stopAt_1 rfl ?_
  refine q_put_i pX0_31 dX0_stopAt_2 (by first | assumption | rfl) (by rfl) rfl rfl ?_
  refine q_aload_n dX0_stopAt_5 rfl ?_
  refine q_iconst (x := 0) dX0_stopAt_6 (by decide) ?_
  refine q_put_i pX0_34 dX0_stopAt_7 (by first | assumption | rfl) (by rfl) rfl rfl ?_
  refine q_vret dX0_stopAt_10 ?_ rfl rfl
  exact ⟨rfl, rfl, rfl⟩

set_option maxHeartbeats 4000000 in
set_option maxRecDepth 100000 in
theorem kX0_begin {sh : List q_S} {σ : q_M} {d : Nat} (hd : sh[d]? = some q_sD) {x y : Int32} : q_Ct YX0_begin [.ref d, .int x, .int y] sh σ (q_is none sh (q_up (q_up (q_up (q_up (q_up (q_up (q_up (q_up σ d 0 x) d 1 y) d 2 0) d 3 0) d 7 0) d 4 0) d 5 0) d 6 0)) := by
  refine q_ct (n := 0) (by decide) (by decide) rfl (fun _ => Nat.le_of_ble_eq_true rfl) (fun E => ?_)
  refine q_aload_n dX0_begin_0 rfl ?_
  refine q_iload_n dX0_begin_1 rfl ?_
  refine q_put_i pX0_9 dX0_begin_2 (by first | assumption | rfl) (by rfl) rfl rfl ?_
  refine q_aload_n dX0_begin_5 rfl ?_
  refine q_iload_n dX0_begin_6 rfl ?_
  refine q_put_i pX0_15 dX0_begin_7 (by first | assumption | rfl) (by rfl) rfl rfl ?_
  refine q_aload_n dX0_begin_10 rfl ?_
  refine q_iconst (x := 0) dX0_begin_11 (by decide) ?_
  refine q_put_i pX0_18 dX0_begin_12 (by first | assumption | rfl) (by rfl) rfl rfl ?_
  refine q_aload_n dX0_begin_15 rfl ?_
  refine q_iconst (x := 0) dX0_begin_16 (by decide) ?_
  refine q_put_i pX0_21 dX0_begin_17 (by first | assumption | rfl) (by rfl) rfl rfl ?_
  refine q_aload_n dX0_begin_20 rfl ?_
  refine q_iconst (x := 0) dX0_begin_21 (by decide) ?_
  refine q_put_i pX0_24 dX0_begin_22 (by first | assumption | rfl) (by rfl) rfl rfl ?_
  refine q_aload_n dX0_begin_25 rfl ?_
  refine q_iconst (x := 0) dX0_begin_26 (by decide) ?_
  refine q_put_i pX0_28 dX0_begin_27 (by first | assumption | rfl) (by rfl) rfl rfl ?_
  refine q_aload_n dX0_begin_30 rfl ?_
  refine q_iconst (x := 0) dX0_begin_31 (by decide) ?_
  refine q_put_i pX0_31 dX0_begin_32 (by first | assumption | rfl) (by rfl) rfl rfl ?_
  refine q_aload_n dX0_begin_35 rfl ?_
  refine q_iconst (x := 0) dX0_begin_36 (by decide) ?_
  refine q_put_i pX0_34 dX0_begin_37 (by first | assumption | rfl) (by rfl) rfl rfl ?_
  refine q_vret dX0_begin_40 ?_ rfl rfl
  exact ⟨rfl, rfl, rfl⟩
