/-! spread -/
section R80
variable {σ : q_M}
theorem i_dn {a p : Int} (ha : 0 ≤ a) (hp : 0 < p) : a / (p + 1) ≤ a / p := by
  rw [Int.le_ediv_iff_mul_le hp]
  have h1 : a / (p + 1) * (p + 1) ≤ a := Int.ediv_mul_le a (by omega)
  have h2 : 0 ≤ a / (p + 1) := Int.ediv_nonneg ha (by omega)
  rw [Int.mul_add, Int.mul_one] at h1
  omega
/-- more thumb, more bubbles that go -/
theorem r_Fm (h : r_R σ) {N n : Nat} (hs : r_s σ 17 0 N n) {hv : Int32} (hh : 1 ≤ hv.toInt ∧ hv.toInt ≤ 999) {b : Nat} (hb : b ≤ 9999) {t : Nat} (ht : t + 1 ≤ 500) (hg : (b : Int) < (q_ff σ hv 0 (nI t)).toInt) : (b : Int) < (q_ff σ hv 0 (nI (t + 1))).toInt := by
  have e1 := nI_toInt (n := t) (by omega)
  have e2 := nI_toInt (n := t + 1) (by omega)
  have eb := nI_toInt (n := b) (by omega)
  have z0 : (0 : Int32).toInt = 0 := rfl
  have w1 := r_ffw h hs (mass := hv) (dep := 0) (th := nI t) (by omega) (by decide) (by omega) hb
  have w2 := r_ffw h hs (mass := hv) (dep := 0) (th := nI (t + 1)) (by omega) (by decide) (by omega) hb
  have hk := r_k hs
  have f1 := (i_wt (s := σ 15 4) (mass := hv) (b := nI b) (dep := 0) (th := nI t) (r_a h) (r_m h) (by omega) (by omega) hk (by decide) (by omega)).1
  have f2 := (i_wt (s := σ 15 4) (mass := hv) (b := nI b) (dep := 0) (th := nI (t + 1)) (r_a h) (r_m h) (by omega) (by omega) hk (by decide) (by omega)).1
  have hA := r_a h
  rw [e1, z0, Int.add_zero, eb] at f1
  rw [e2, z0, Int.add_zero, eb] at f2
  have p1 : 0 ≤ (b : Int) * (σ 17 4).toInt := Int.mul_nonneg (by omega) (by omega)
  have hd := i_dn (a := (b : Int) * (σ 17 4).toInt) (p := (σ 15 1).toInt + t) p1 (by omega)
  rw [show (σ 15 1).toInt + (t : Int) + 1 = (σ 15 1).toInt + ((t + 1 : Nat) : Int) by omega] at hd
  omega
theorem r_Fm' (h : r_R σ) {N n : Nat} (hs : r_s σ 17 0 N n) {hv : Int32} (hh : 1 ≤ hv.toInt ∧ hv.toInt ≤ 999) {b : Nat} (hb : b ≤ 9999) {t : Nat} (hg : (b : Int) < (q_ff σ hv 0 (nI t)).toInt) : ∀ d, t + d ≤ 500 → (b : Int) < (q_ff σ hv 0 (nI (t + d))).toInt
  | 0, _ => hg
  | d + 1, hd => r_Fm h hs hh hb (t := t + d) (by omega) (r_Fm' h hs hh hb hg d (by omega))
end R80
theorem q_fN_sp {p : Nat → Bool} {n : Nat} : ∀ k, k ≤ n → n - k ≤ q_fN p n k ∧ q_fN p n k ≤ n ∧ (∀ m, n - k ≤ m → m < q_fN p n k → p m = false) ∧ (q_fN p n k < n → p (q_fN p n k) = true)
  | 0, _ => ⟨by rw [q_fN]; omega, Nat.le_refl n, fun m h1 h2 => by rw [q_fN] at h2; omega, fun h => by rw [q_fN] at h; omega⟩
  | k + 1, hk => by
    rw [q_fN]
    cases hp : p (n - (k + 1)) with
    | true =>
      rw [if_pos rfl]
      exact ⟨Nat.le_refl _, by omega, fun m h1 h2 => by omega, fun _ => hp⟩
    | false =>
      rw [if_neg (by decide)]
      obtain ⟨a, b, c, d⟩ := q_fN_sp (p := p) (n := n) k (by omega)
      refine ⟨by omega, b, fun m h1 h2 => ?_, d⟩
      by_cases z : m = n - (k + 1)
      · rw [z]; exact hp
      · exact c m (by omega) h2
theorem qm_gb_c {σ τ : q_M} (h1 : τ 75 = σ 75) (h2 : τ 73 = σ 73) (hv b th : Int32) : qm_gb τ hv b th = qm_gb σ hv b th := by
  unfold qm_gb qm_w
  rw [h1, h2]
theorem qm_cb_c {σ τ : q_M} (h1 : τ 75 = σ 75) (h2 : τ 73 = σ 73) (hv b : Int32) : qm_cb τ hv b = qm_cb σ hv b := by
  unfold qm_cb qm_w
  rw [h1, h2]
theorem r_ly {σ : q_M} (h : r_R σ) {N nn : Nat} (hs : r_s σ 17 0 N nn) {hv : Int32} (hh : 1 ≤ hv.toInt ∧ hv.toInt ≤ 999) : ∀ (n t : Nat) (τ : q_M), n ≤ 10000 → t ≤ 501 → (∀ t0, t0 < t → (q_ff σ hv 0 (nI t0)).toInt ≤ 10000 - (n : Int)) → τ 75 = σ 75 → τ 73 = σ 73 → (∀ x, ¬ x = 81 → qm_ly hv n t τ x = τ x) ∧ ∀ x, x ≤ 500 → (¬ qm_ly hv n t τ 81 x = 0 ↔ (¬ τ 81 x = 0 ∨ ∃ b : Nat, 10000 - n ≤ b ∧ b ≤ 9999 ∧ (q_max (q_ff σ (hv + 1) 0 0) (q_ff σ (hv + 1) (σ 15 0) 0)).toInt ≤ b ∧ (b : Int) < (q_ff σ hv 0 (nI x)).toInt ∧ (x = 0 ∨ (q_ff σ hv 0 (nI (x - 1))).toInt ≤ b)))
  | 0, t, τ, _, _, _, _, _ => by
    refine ⟨fun _ _ => rfl, fun x hx => ⟨fun q => Or.inl q, fun q => ?_⟩⟩
    rcases q with q | ⟨b, h1, h2, -⟩
    · exact q
    · omega
  | n + 1, t, τ, hn, ht, hF, h75, h73 => by
    rw [qm_ly]
    by_cases c : 500 < t
    · rw [if_pos c]
      refine ⟨fun _ _ => rfl, fun x hx => ⟨fun q => Or.inl q, fun q => ?_⟩⟩
      rcases q with q | ⟨b, h1, h2, -, h4, -⟩
      · exact q
      · have := hF x (by omega)
        omega
    · rw [if_neg c]
      obtain ⟨s1, s2, s3, s4⟩ := q_fN_sp (p := fun t => qm_gb τ hv (nI (9999 - n)) (nI t)) (n := 501) (501 - t) (by omega)
      have eT : qm_ad τ hv (9999 - n) (501 - t) = q_fN (fun t => qm_gb τ hv (nI (9999 - n)) (nI t)) 501 (501 - t) := rfl
      generalize hT : q_fN (fun t => qm_gb τ hv (nI (9999 - n)) (nI t)) 501 (501 - t) = T at s1 s2 s3 s4 eT
      rw [eT]
      have gT : T < 501 → ((9999 - n : Nat) : Int) < (q_ff σ hv 0 (nI T)).toInt := fun hl => by
        have := s4 hl
        rw [qm_gb_c h75 h73, r_gb h hs hh (by omega) (by omega)] at this
        exact of_decide_eq_true this
      have fT : ∀ t0, t0 < T → (q_ff σ hv 0 (nI t0)).toInt ≤ ((9999 - n : Nat) : Int) := fun t0 h0 => by
        by_cases z : t0 < t
        · have := hF t0 z
          omega
        · have := s3 t0 (by omega) h0
          rw [qm_gb_c h75 h73, r_gb h hs hh (by omega) (by omega)] at this
          have := of_decide_eq_false this
          omega
      have m75 : qm_mk τ hv (9999 - n) T 75 = σ 75 := by
        unfold qm_mk
        split
        · rw [q_up_ne (by decide)]; exact h75
        · exact h75
      have m73 : qm_mk τ hv (9999 - n) T 73 = σ 73 := by
        unfold qm_mk
        split
        · rw [q_up_ne (by decide)]; exact h73
        · exact h73
      obtain ⟨i1, i2⟩ := r_ly h hs hh n T (qm_mk τ hv (9999 - n) T) (by omega) (by omega) (fun t0 h0 => by have := fT t0 h0; omega) m75 m73
      refine ⟨fun x hx => ?_, fun x hx => ?_⟩
      · rw [i1 x hx]
        unfold qm_mk
        split
        · rw [q_up_ne hx]
        · rfl
      · rw [i2 x hx]
        have hm : ¬ qm_mk τ hv (9999 - n) T 81 x = 0 ↔ (¬ τ 81 x = 0 ∨ ((q_max (q_ff σ (hv + 1) 0 0) (q_ff σ (hv + 1) (σ 15 0) 0)).toInt ≤ ((9999 - n : Nat) : Int) ∧ ((9999 - n : Nat) : Int) < (q_ff σ hv 0 (nI x)).toInt ∧ (x = 0 ∨ (q_ff σ hv 0 (nI (x - 1))).toInt ≤ ((9999 - n : Nat) : Int)))) := by
          unfold qm_mk
          rw [qm_cb_c h75 h73, r_cb h hs hh (by omega)]
          by_cases d : T ≤ 500 ∧ decide ((q_max (q_ff σ (hv + 1) 0 0) (q_ff σ (hv + 1) (σ 15 0) 0)).toInt ≤ ((9999 - n : Nat) : Int)) = true
          · rw [if_pos d]
            have d2 := of_decide_eq_true d.2
            by_cases e : x = T
            · subst e
              rw [q_up_at]
              refine ⟨fun _ => Or.inr ⟨d2, gT (by omega), ?_⟩, fun _ => by decide⟩
              by_cases x0 : x = 0
              · exact Or.inl x0
              · exact Or.inr (fT (x - 1) (by omega))
            · rw [q_up_f e]
              refine ⟨fun q => Or.inl q, fun q => ?_⟩
              rcases q with q | ⟨-, q2, q3⟩
              · exact q
              · exfalso
                rcases Nat.lt_trichotomy x T with z | z | z
                · have := fT x z
                  omega
                · exact e z
                · have g2 := r_Fm' h hs hh (b := 9999 - n) (by omega) (gT (by omega)) (x - 1 - T) (by omega)
                  rw [show T + (x - 1 - T) = x - 1 by omega] at g2
                  rcases q3 with q3 | q3
                  · omega
                  · omega
          · rw [if_neg d]
            refine ⟨fun q => Or.inl q, fun q => ?_⟩
            rcases q with q | ⟨q1, q2, -⟩
            · exact q
            · exfalso
              have hT5 : ¬ T ≤ 500 := fun z => d ⟨z, decide_eq_true q1⟩
              have := fT x (by omega)
              omega
        rw [hm]
        constructor
        · rintro ((q | ⟨q1, q2, q3⟩) | ⟨b, b1, b2, b3⟩)
          · exact Or.inl q
          · exact Or.inr ⟨9999 - n, by omega, by omega, q1, q2, q3⟩
          · exact Or.inr ⟨b, by omega, b2, b3⟩
        · rintro (q | ⟨b, b1, b2, b3⟩)
          · exact Or.inl (Or.inl q)
          · by_cases z : b = 9999 - n
            · subst z
              exact Or.inl (Or.inr b3)
            · exact Or.inr ⟨b, by omega, b2, b3⟩
/-! taking thumbs apart -/
theorem q_ga_c {p q : Nat → Bool} {g : Nat} : ∀ n, (∀ t, t < n → p t = q t) → q_ga p g n = q_ga q g n
  | 0, _ => rfl
  | n + 1, h => by rw [q_ga, q_ga, q_ga_c n (fun t ht => h t (by omega)), h n (by omega)]
theorem q_ga_b {p : Nat → Bool} {g : Nat} : ∀ n, (q_ga p g n).2 ≤ n + g ∧ (q_ga p g n).1 ≤ n ∧ (0 < (q_ga p g n).1 → ∃ t, t < n ∧ p t = true)
  | 0 => ⟨Nat.zero_le _, Nat.le_refl _, fun z => absurd z (by show ¬ 0 < 0; omega)⟩
  | n + 1 => by
    obtain ⟨a, b, c⟩ := q_ga_b (p := p) (g := g) n
    rw [q_ga]
    split
    · rename_i hc
      exact ⟨by show n + g ≤ n + 1 + g; omega, by show (q_ga p g n).1 + 1 ≤ n + 1; omega, fun _ => ⟨n, by omega, hc.1⟩⟩
    · refine ⟨by omega, by omega, fun z => ?_⟩
      obtain ⟨t, h1, h2⟩ := c z
      exact ⟨t, by omega, h2⟩
theorem q_ga_a {p : Nat → Bool} {g g' : Nat} (hg : g ≤ g') : ∀ n, (q_ga p g' n).1 < (q_ga p g n).1 ∨ ((q_ga p g' n).1 = (q_ga p g n).1 ∧ (q_ga p g n).2 ≤ (q_ga p g' n).2)
  | 0 => Or.inr ⟨rfl, Nat.le_refl _⟩
  | n + 1 => by
    have ih := q_ga_a (p := p) hg n
    have hb := (q_ga_b (p := p) (g := g) n).1
    rw [q_ga, q_ga]
    by_cases c : p n = true ∧ (q_ga p g n).2 ≤ n
    · rw [if_pos c]
      by_cases c' : p n = true ∧ (q_ga p g' n).2 ≤ n
      · rw [if_pos c']
        show (q_ga p g' n).1 + 1 < (q_ga p g n).1 + 1 ∨ ((q_ga p g' n).1 + 1 = (q_ga p g n).1 + 1 ∧ n + g ≤ n + g')
        omega
      · rw [if_neg c']
        show (q_ga p g' n).1 < (q_ga p g n).1 + 1 ∨ _
        left
        omega
    · rw [if_neg c]
      by_cases c' : p n = true ∧ (q_ga p g' n).2 ≤ n
      · rw [if_pos c']
        show (q_ga p g' n).1 + 1 < (q_ga p g n).1 ∨ ((q_ga p g' n).1 + 1 = (q_ga p g n).1 ∧ (q_ga p g n).2 ≤ n + g')
        rcases ih with z | ⟨z1, z2⟩
        · omega
        · exact absurd ⟨c'.1, by omega⟩ c
      · rw [if_neg c']
        exact ih
theorem q_ga_an {p : Nat → Bool} {g g' : Nat} (hg : g ≤ g') (n : Nat) : (q_ga p g' n).1 ≤ (q_ga p g n).1 := by
  rcases q_ga_a (p := p) hg n with z | z
  · omega
  · omega
theorem r_tk {ρ : q_M} {g : Nat} (h1 : 1 ≤ g) (h5 : g ≤ 500) : ∀ n, n ≤ 501 → (qm_tk ρ (nI g) n).1 = nI (q_ga (fun t => decide (¬ ρ 81 t = 0)) g n).1 ∧ (((q_ga (fun t => decide (¬ ρ 81 t = 0)) g n).2 = 0 ∧ (qm_tk ρ (nI g) n).2 = -500) ∨ ∃ y, y < n ∧ (qm_tk ρ (nI g) n).2 = nI y ∧ (q_ga (fun t => decide (¬ ρ 81 t = 0)) g n).2 = y + g)
  | 0, _ => ⟨rfl, Or.inl ⟨rfl, rfl⟩⟩
  | n + 1, hn => by
    obtain ⟨a, b⟩ := r_tk (ρ := ρ) h1 h5 n (by omega)
    have eg := nI_toInt (n := g) (by omega)
    have en := nI_toInt (n := n) (by omega)
    have hc : (¬ ρ 81 n = 0 ∧ (nI g).toInt ≤ (nI n - (qm_tk ρ (nI g) n).2).toInt) ↔ ((fun t => decide (¬ ρ 81 t = 0)) n = true ∧ (q_ga (fun t => decide (¬ ρ 81 t = 0)) g n).2 ≤ n) := by
      show _ ↔ (decide (¬ ρ 81 n = 0) = true ∧ _)
      rw [decide_eq_true_iff]
      rcases b with ⟨b1, b2⟩ | ⟨y, b0, b1, b2⟩
      · have z5 : (-500 : Int32).toInt = -500 := rfl
        have e : (nI n - (-500)).toInt = n + 500 := by rw [i_sub (by omega) (by omega), en, z5]; omega
        rw [b1, b2, e, eg]
        exact ⟨fun q => ⟨q.1, by omega⟩, fun q => ⟨q.1, by omega⟩⟩
      · rw [b1, b2, pk_sub_toInt (by omega) (by omega), eg]
        exact ⟨fun q => ⟨q.1, by omega⟩, fun q => ⟨q.1, by omega⟩⟩
    rw [qm_tk, q_ga]
    by_cases c : ¬ ρ 81 n = 0 ∧ (nI g).toInt ≤ (nI n - (qm_tk ρ (nI g) n).2).toInt
    · rw [if_pos c, if_pos (hc.mp c), a]
      exact ⟨nI_1 _, Or.inr ⟨n, by omega, rfl, rfl⟩⟩
    · rw [if_neg c, if_neg (fun z => c (hc.mpr z))]
      refine ⟨a, ?_⟩
      rcases b with z | ⟨y, b0, b1⟩
      · exact Or.inl z
      · exact Or.inr ⟨y, by omega, b1⟩
theorem q_gg_sp {ok : Nat → Bool} : ∀ f lo hi, lo < hi → hi ≤ lo + f + 1 → hi ≤ 501 → ok lo = true → (hi = 501 ∨ ok hi = false) → ok (q_gg ok f lo hi) = true ∧ lo ≤ q_gg ok f lo hi ∧ q_gg ok f lo hi < hi ∧ (q_gg ok f lo hi + 1 = 501 ∨ ok (q_gg ok f lo hi + 1) = false)
  | 0, lo, hi, h1, h2, h3, h4, h5 => by
    rw [q_gg]
    obtain rfl : hi = lo + 1 := by omega
    exact ⟨h4, Nat.le_refl _, by omega, h5⟩
  | f + 1, lo, hi, h1, h2, h3, h4, h5 => by
    rw [q_gg]
    by_cases c : hi - lo ≤ 1
    · rw [if_pos c]
      obtain rfl : hi = lo + 1 := by omega
      exact ⟨h4, Nat.le_refl _, by omega, h5⟩
    · rw [if_neg c]
      cases hm : ok ((lo + hi) / 2) with
      | true =>
        rw [if_pos rfl]
        obtain ⟨a, b, d, e⟩ := q_gg_sp (ok := ok) f ((lo + hi) / 2) hi (by omega) (by omega) h3 hm h5
        exact ⟨a, by omega, d, e⟩
      | false =>
        rw [if_neg (by decide)]
        obtain ⟨a, b, d, e⟩ := q_gg_sp (ok := ok) f lo ((lo + hi) / 2) (by omega) (by omega) (by omega) h4 (Or.inr hm)
        exact ⟨a, b, by omega, e⟩
theorem r_go {σ : q_M} (h : r_R σ) {N n : Nat} (hs : r_s σ 17 0 N n) {hv : Int32} (hh : 1 ≤ hv.toInt ∧ hv.toInt ≤ 999) {t : Nat} (ht : t ≤ 500) : q_t (q_gf σ hv t) = decide (∃ b : Nat, b ≤ 9999 ∧ (q_max (q_ff σ (hv + 1) 0 0) (q_ff σ (hv + 1) (σ 15 0) 0)).toInt ≤ b ∧ (b : Int) < (q_ff σ hv 0 (nI t)).toInt ∧ (t = 0 ∨ (q_ff σ hv 0 (nI (t - 1))).toInt ≤ b)) := by
  have z0 : (0 : Int32).toInt = 0 := rfl
  have z1 : (1 : Int32).toInt = 1 := rfl
  have z9 : (9999 : Int32).toInt = 9999 := rfl
  have et := nI_toInt (n := t) (by omega)
  have e1 : (hv + 1).toInt = hv.toInt + 1 := by rw [i_add (by omega) (by omega), z1]
  have b1 := r_ffb h hs (mass := hv + 1) (dep := 0) (th := 0) (by omega) (by decide) (by decide)
  have b2 := r_ffb h hs (mass := hv + 1) (dep := σ 15 0) (th := 0) (by omega) (r_hd h) (by decide)
  have b3 := r_ffb h hs (mass := hv) (dep := 0) (th := nI t) (by omega) (by decide) (by omega)
  have bk : 0 ≤ (q_max (q_ff σ (hv + 1) 0 0) (q_ff σ (hv + 1) (σ 15 0) 0)).toInt ∧ (q_max (q_ff σ (hv + 1) 0 0) (q_ff σ (hv + 1) (σ 15 0) 0)).toInt ≤ 100000 := by rw [i_max]; omega
  have e3 : (q_ff σ hv 0 (nI t) - 1).toInt = (q_ff σ hv 0 (nI t)).toInt - 1 := by rw [i_sub (by omega) (by omega), z1]
  have el : ∃ L : Int32, (if nI t = 0 then 0 else q_ff σ hv 0 (nI t - 1)) = L ∧ (0 ≤ L.toInt ∧ L.toInt ≤ 100000) ∧ ∀ b : Nat, (t = 0 ∨ (q_ff σ hv 0 (nI (t - 1))).toInt ≤ b) ↔ L.toInt ≤ b := by
    by_cases t0 : t = 0
    · subst t0
      exact ⟨0, if_pos rfl, by decide, fun b => ⟨fun _ => by omega, fun _ => Or.inl rfl⟩⟩
    · have ne : ¬ nI t = 0 := fun q => t0 (sp_eq (b := 0) (by omega) (by decide) q)
      have em : nI t - 1 = nI (t - 1) := pk_sub (b := 1) (by omega)
      have e1 := nI_toInt (n := t - 1) (by omega)
      refine ⟨_, if_neg ne, ?_, fun b => ?_⟩
      · rw [em]
        exact r_ffb h hs (by omega) (by decide) (by omega)
      · rw [em]
        exact ⟨fun q => q.resolve_left t0, fun q => Or.inr q⟩
  obtain ⟨L, hL, hLb, hLp⟩ := el
  unfold q_gf
  rw [hL]
  have eq : ∀ c : Bool, q_t (q_b c) = c := fun c => by cases c <;> decide
  rw [eq, decide_eq_decide]
  have el2 : (q_max (q_max (q_ff σ (hv + 1) 0 0) (q_ff σ (hv + 1) (σ 15 0) 0)) L).toInt = max (q_max (q_ff σ (hv + 1) 0 0) (q_ff σ (hv + 1) (σ 15 0) 0)).toInt L.toInt := i_max
  generalize q_max (q_max (q_ff σ (hv + 1) 0 0) (q_ff σ (hv + 1) (σ 15 0) 0)) L = LL at el2
  generalize (q_max (q_ff σ (hv + 1) 0 0) (q_ff σ (hv + 1) (σ 15 0) 0)).toInt = B at bk el2
  have em : (q_min (q_ff σ hv 0 (nI t) - 1) 9999).toInt = min ((q_ff σ hv 0 (nI t)).toInt - 1) 9999 := by rw [i_min, e3, z9]
  have s1 : (q_min (q_ff σ hv 0 (nI t) - 1) 9999 - LL).toInt = min ((q_ff σ hv 0 (nI t)).toInt - 1) 9999 - LL.toInt := by rw [i_sub (by omega) (by omega), em]
  have s2 : (q_min (q_ff σ hv 0 (nI t) - 1) 9999 - LL + 1).toInt = min ((q_ff σ hv 0 (nI t)).toInt - 1) 9999 - LL.toInt + 1 := by rw [i_add (by omega) (by omega), s1, z1]
  have ht : q_tell LL (q_ff σ hv 0 (nI t) - 1) 0 = q_max 0 (q_min (q_ff σ hv 0 (nI t) - 1) 9999 - LL + 1) := if_pos rfl
  rw [ht, i_max, s2, z0]
  constructor
  · intro q
    refine ⟨LL.toInt.toNat, by omega, by omega, by omega, (hLp _).mpr (by omega)⟩
  · rintro ⟨b, q1, q2, q3, q4⟩
    have := (hLp b).mp q4
    omega
theorem rE_spread {hv x w : Int32} : r_E YX7_spread YX8_spread [.int hv, .int x, .int w] := r_E.mk (fun σ h => by
  obtain ⟨N, n, hs⟩ := h.m17
  obtain ⟨H, hH, h10, h200, hH2⟩ := r_wH h
  obtain ⟨A, hA, a1, a2, hA2⟩ := r_wA h
  by_cases hc : (q_win hv 1 999 && q_win x 2 6 && q_win w 0 1) = true
  · rw [Bool.and_eq_true, Bool.and_eq_true] at hc
    obtain ⟨n0, rfl, hn2, hn6⟩ := q_win_n hc.1.2 (by decide)
    have z2 : (2 : Int32).toInt = 2 := rfl
    have z6 : (6 : Int32).toInt = 6 := rfl
    have z1 : (1 : Int32).toInt = 1 := rfl
    have z0 : (0 : Int32).toInt = 0 := rfl
    have hh : 1 ≤ hv.toInt ∧ hv.toInt ≤ 999 := q_win_t hc.1.1
    have c1 := kX7_spread (σ := σ) (hv := hv) (w := w) (n0 := n0) (by omega) (by omega) hc.1.1 hc.2
    have o : ∀ b, ¬ b = 71 → q_sv σ hv b = σ b := fun b hb => q_fill_ne hb
    have m1 := kX8_spread (σ := q_sv σ hv) (ar := A) (H := H) (by omega) (by omega) h200 ⟨by rw [o 75 (by decide)]; exact hH2, by rw [o 75 (by decide)]; exact hA2⟩ (hv := hv) (x := nI n0) (w := w) hc.1.1 hc.1.2 hc.2
    obtain ⟨y1, y2⟩ := r_ly h hs hh 10000 0 (q_fill (q_sv σ hv) 81 (fun _ => 0) 501) (Nat.le_refl _) (by omega) (fun t0 h0 => by omega) (by rw [q_fill_ne (by decide), o 75 (by decide)]) (by rw [q_fill_ne (by decide), o 73 (by decide)])
    generalize hρ : qm_ly hv 10000 0 (q_fill (q_sv σ hv) 81 (fun _ => 0) 501) = ρ at m1 y1 y2
    have hp : ∀ t, t < 501 → q_gr (q_sv σ hv) t = decide (¬ ρ 81 t = 0) := fun t ht => by
      show q_t (q_fill σ 71 (q_gf σ hv) 501 71 t) = _
      rw [q_fill_lo ht, r_go h hs hh (by omega), decide_eq_decide, y2 t (by omega), q_fill_lo ht]
      constructor
      · rintro ⟨b, q1, q2, q3, q4⟩
        exact Or.inr ⟨b, by omega, q1, q2, q3, q4⟩
      · rintro (q | ⟨b, -, q1, q2, q3, q4⟩)
        · exact absurd rfl q
        · exact ⟨b, q1, q2, q3, q4⟩
    have hcnt : ∀ g, (q_ga (q_gr (q_sv σ hv)) g 501).1 = (q_ga (fun t => decide (¬ ρ 81 t = 0)) g 501).1 := fun g => by rw [q_ga_c 501 hp]
    have hfar : ∀ f, f < 500 → decide ((qm_tk ρ (nI (f + 1)) 501).1.toInt < (nI n0).toInt) = decide ((q_ga (fun t => decide (¬ ρ 81 t = 0)) (f + 1) 501).1 < n0) := fun f hf => by
      have hb := (q_ga_b (p := fun t => decide (¬ ρ 81 t = 0)) (g := f + 1) 501).2.1
      rw [(r_tk (by omega) (by omega) 501 (Nat.le_refl _)).1, nI_toInt (by omega), nI_toInt (by omega), decide_eq_decide]
      omega
    obtain ⟨s1, s2, s3, s4⟩ := q_fN_sp (p := fun f => decide ((qm_tk ρ (nI (f + 1)) 501).1.toInt < (nI n0).toInt)) (n := 500) 500 (Nat.le_refl _)
    unfold qm_sr at m1
    generalize hFr : q_fN (fun f => decide ((qm_tk ρ (nI (f + 1)) 501).1.toInt < (nI n0).toInt)) 500 500 = F at m1 s1 s2 s3 s4
    have hans : (if (q_ga (q_gr (q_sv σ hv)) 1 501).1 < n0 then (-4 : Int32) else if w = 1 then q_fst (fun t => q_t (q_sv σ hv 71 t)) 501 501 else nI (q_gg (q_ok (q_sv σ hv) n0) 501 1 501)) = if F = 0 then -4 else if w = 0 then nI F else nI (q_fN (fun t => decide (¬ ρ 81 t = 0)) 500 500) := by
      rw [hcnt]
      by_cases c : (q_ga (fun t => decide (¬ ρ 81 t = 0)) 1 501).1 < n0
      · have hF0 : F = 0 := by
          by_cases z : F = 0
          · exact z
          · have := s3 0 (by omega) (by omega)
            rw [hfar 0 (by omega)] at this
            exact absurd c (of_decide_eq_false this)
        rw [if_pos c, if_pos hF0]
      · have hF0 : ¬ F = 0 := fun z => by
          have := s4 (by omega)
          rw [hfar F (by omega), z] at this
          exact c (of_decide_eq_true this)
        rw [if_neg c, if_neg hF0]
        have hw := q_win_t hc.2
        have w01 : w = 0 ∨ w = 1 := by
          rcases (show w.toInt = 0 ∨ w.toInt = 1 by omega) with z | z
          · exact Or.inl (i_ext (by omega))
          · exact Or.inr (i_ext (by omega))
        rcases w01 with rfl | rfl
        · rw [if_neg (by decide), if_pos rfl]
          have hok : ∀ m, q_ok (q_sv σ hv) n0 m = decide (n0 ≤ (q_ga (fun t => decide (¬ ρ 81 t = 0)) m 501).1) := fun m => by
            unfold q_ok
            rw [hcnt]
          obtain ⟨r1, r2, r3, r4⟩ := q_gg_sp (ok := q_ok (q_sv σ hv) n0) 501 1 501 (by omega) (by omega) (by omega) (by rw [hok]; exact decide_eq_true (by omega)) (Or.inl rfl)
          generalize q_gg (q_ok (q_sv σ hv) n0) 501 1 501 = r at r1 r2 r3 r4
          rw [hok] at r1
          have r1' := of_decide_eq_true r1
          refine congrArg nI ?_
          rcases Nat.lt_trichotomy r F with z | z | z
          · have k1 := s3 r (by omega) z
            rw [hfar r (by omega)] at k1
            have k1' := of_decide_eq_false k1
            rcases r4 with q | q
            · omega
            · rw [hok] at q
              exact absurd (by omega) (of_decide_eq_false q)
          · exact z
          · have k1 := s4 (by omega)
            rw [hfar F (by omega)] at k1
            have k1' := of_decide_eq_true k1
            have := q_ga_an (p := fun t => decide (¬ ρ 81 t = 0)) (g := F + 1) (g' := r) (by omega) 501
            omega
        · rw [if_pos rfl, if_neg (by decide)]
          obtain ⟨t1, ht1, ht2⟩ := (q_ga_b (p := fun t => decide (¬ ρ 81 t = 0)) (g := 1) 501).2.2 (by omega)
          have e : q_fst (fun t => q_t (q_sv σ hv 71 t)) 501 501 = q_fst (fun t => decide (¬ ρ 81 t = 0)) 501 501 := q_fst_c 501 (Nat.le_refl _) hp
          rw [e]
          obtain ⟨u1, u2, u3, u4⟩ := q_fN_sp (p := fun t => decide (¬ ρ 81 t = 0)) (n := 500) 500 (Nat.le_refl _)
          rcases q_fst_sp (p := fun t => decide (¬ ρ 81 t = 0)) (n := 501) 501 (Nat.le_refl _) with ⟨i, -, v2, v3, v4, v5⟩ | ⟨v1, -⟩
          · rw [v5]
            generalize q_fN (fun t => decide (¬ ρ 81 t = 0)) 500 500 = J at u1 u2 u3 u4
            refine congrArg nI ?_
            rcases Nat.lt_trichotomy i J with z | z | z
            · exact absurd v4 (by rw [u3 i (by omega) z]; decide)
            · exact z
            · exact absurd (u4 (by omega)) (by rw [v3 _ (by omega) z]; decide)
          · exact absurd ht2 (by rw [v1 t1 (by omega) ht1]; decide)
    rw [hans] at c1
    refine ⟨_, _, _, c1, m1, h.of (fun b hb => ?_) (fun b h1 h2 h3 h4 => ?_) (fun k hk => ?_)⟩
    · rw [y1 b (by omega), q_fill_ne (by omega), o b (by omega)]
    · rw [y1 b h3, q_fill_ne h3, o b (by omega)]
    · rw [y1 72 (by decide), q_fill_ne (by decide), o 72 (by decide)]
  · have hc' : (q_win hv 1 999 && q_win x 2 6 && q_win w 0 1) = false := by simpa using hc
    exact ⟨_, _, _, kX7_spreadF hc', kX8_spreadB hc', h⟩)
