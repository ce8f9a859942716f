/-! THE LAW: each case of its switch -/
def YL_law : q_Y := (yL_law, cL_law, 4, ret, room_1)
theorem q_sin {L i k : Nat} (hi : i + 8 ≤ L) (hL : L ≤ 4096) (hk : k < 8) : vp_in (nI i + nI k) L := by
  rw [nI_add]
  exact (q_ix (j := i + k) (nI_toInt (by omega)) (by omega)).1
section QRE
variable {Y : q_Y} {E : q_E} {u v pc : Nat} {ls : List (Option Value)} {st : List Value} {σ : q_M} {Q : q_P}
/-- what the first of two calls leaves for the second -/
def r_F (Y2 : q_Y) (av : List Value) (x : Int32) (τ : q_M) : Prop := ∃ Q2, q_Ct Y2 (.ref 72 :: av) q_SH τ Q2 ∧ ∀ r2 s2 ρ, Q2 r2 s2 ρ → s2 = q_SH ∧ r2 = some x ∧ r_R ρ
theorem q_rE1 {Y1 Y2 : q_Y} {idx n ci : Nat} {nest : Bool} {av rest : List Value} {ks : List (Option (Option Nat))} (hk : q_lk (q_y Y).cls Y1 idx n nest) (hst2 : Cond.instanceMethod (q_y Y1) ∈ q_T ∧ Cond.selects (q_y Y1).cls (q_y Y1) (q_y Y1) ∈ q_T) (hcl : q_cls[ci]?.map (fun x => x.1) = some (q_y Y1).cls) (hd : decode (q_cc Y) pc = .ok (.invokevirtual idx, 3)) (hE : r_E Y1 Y2 av) (hR : r_R σ) (hb : q_SH[0]? = some (.inr (ci, ks))) (hst : av.reverse ++ .ref 0 :: rest = st) (hn : av.length = n) (hsm : (rest.map fun w => w.category).sum ≤ 8) (hr : q_rr Y Y1 u v) (h0 : (q_rm Y1).cells = 0 ∧ (q_rm Y1).slots = 0)
    (kk : ∀ x τ, r_F Y2 av x τ → q_G Y E u v (pc + 3) ls (.int x :: rest) q_SH τ Q) : q_G Y E u v pc ls st q_SH σ Q := by
  obtain ⟨Q1, c1, c2⟩ := hE σ hR
  refine q_callV hk hst2 hcl hd c1 hb hst hn hsm hr (fun r a τ hq => ?_)
  obtain ⟨rfl, x, rfl, hF⟩ := c2 r a τ hq
  rw [h0.1, h0.2]
  exact kk x τ hF
theorem q_rE2 {Y2 : q_Y} {x : Int32} {idx n ci : Nat} {nest : Bool} {av rest : List Value} {ks : List (Option (Option Nat))} (hk : q_lk (q_y Y).cls Y2 idx n nest) (hst2 : Cond.instanceMethod (q_y Y2) ∈ q_T ∧ Cond.selects (q_y Y2).cls (q_y Y2) (q_y Y2) ∈ q_T) (hcl : q_cls[ci]?.map (fun x => x.1) = some (q_y Y2).cls) (hd : decode (q_cc Y) pc = .ok (.invokevirtual idx, 3)) (hF : r_F Y2 av x σ) (hb : q_SH[72]? = some (.inr (ci, ks))) (hst : av.reverse ++ .ref 72 :: rest = st) (hn : av.length = n) (hsm : (rest.map fun w => w.category).sum ≤ 8) (hr : q_rr Y Y2 u v) (h0 : (q_rm Y2).cells = 0 ∧ (q_rm Y2).slots = 0)
    (kk : ∀ ρ, r_R ρ → q_G Y E u v (pc + 3) ls (.int x :: rest) q_SH ρ Q) : q_G Y E u v pc ls st q_SH σ Q := by
  obtain ⟨Q2, c1, c2⟩ := hF
  refine q_callV hk hst2 hcl hd c1 hb hst hn hsm hr (fun r a τ hq => ?_)
  obtain ⟨rfl, rfl, hR⟩ := c2 r a τ hq
  rw [h0.1, h0.2]
  exact kk τ hR
end QRE
set_option maxHeartbeats 1000000 in
set_option maxRecDepth 100000 in
theorem cs_0 {E : q_E} {i : Nat} {σ : q_M} {Q : q_P} (hi : i + 8 ≤ q_L E) (hL : q_L E ≤ 4096) (hR : r_R σ) (K : ∀ ρ, r_R ρ → q_G YL_law E 86 3995 1604 [some (.ref 1000000), some (.ref 0), some (.ref 72), some (.int (nI i))] [] q_SH ρ Q) : q_G YL_law E 86 3995 216 [some (.ref 1000000), some (.ref 0), some (.ref 72), some (.int (nI i))] [] q_SH σ Q := by
  refine q_aload_n dL_law_216 rfl ?_
  refine q_aload_n dL_law_217 rfl ?_
  refine q_iload_n dL_law_218 rfl ?_
  refine q_iconst (x := 1) dL_law_219 (by decide) ?_
  refine q_iadd dL_law_220 ?_
  refine q_sald (q_sin (k := 1) hi hL (by decide)) dL_law_221 ?_
  refine q_i2l dL_law_222 ?_
  refine q_bipush (x := 32) dL_law_223 (by decide) ?_
  refine q_lshl dL_law_225 ?_
  refine q_aload_n dL_law_226 rfl ?_
  refine q_iload_n dL_law_227 rfl ?_
  refine q_iconst (x := 2) dL_law_228 (by decide) ?_
  refine q_iadd dL_law_229 ?_
  refine q_sald (q_sin (k := 2) hi hL (by decide)) dL_law_230 ?_
  refine q_i2l dL_law_231 ?_
  refine q_ldc2 kL_13 dL_law_232 ?_
  refine q_land dL_law_235 ?_
  refine q_lor dL_law_236 ?_
  refine q_rE1 lL_15 vX7_feed (ci := 7) rfl dL_law_237 rE_feed hR rfl rfl rfl (Nat.le_of_ble_eq_true rfl) ⟨⟨by decide, by decide⟩, by decide, by decide⟩ ⟨rfl, rfl⟩ (fun x τ hF => ?_)
  refine q_aload_n dL_law_240 rfl ?_
  refine q_aload_n dL_law_241 rfl ?_
  refine q_iload_n dL_law_242 rfl ?_
  refine q_iconst (x := 1) dL_law_243 (by decide) ?_
  refine q_iadd dL_law_244 ?_
  refine q_sald (q_sin (k := 1) hi hL (by decide)) dL_law_245 ?_
  refine q_i2l dL_law_246 ?_
  refine q_bipush (x := 32) dL_law_247 (by decide) ?_
  refine q_lshl dL_law_249 ?_
  refine q_aload_n dL_law_250 rfl ?_
  refine q_iload_n dL_law_251 rfl ?_
  refine q_iconst (x := 2) dL_law_252 (by decide) ?_
  refine q_iadd dL_law_253 ?_
  refine q_sald (q_sin (k := 2) hi hL (by decide)) dL_law_254 ?_
  refine q_i2l dL_law_255 ?_
  refine q_ldc2 kL_13 dL_law_256 ?_
  refine q_land dL_law_259 ?_
  refine q_lor dL_law_260 ?_
  refine q_rE2 lL_19 vX8_feed (ci := 8) rfl dL_law_261 hF rfl rfl rfl (Nat.le_of_ble_eq_true rfl) ⟨⟨by decide, by decide⟩, by decide, by decide⟩ ⟨rfl, rfl⟩ (fun ρ hρ => ?_)
  exact q_icmp_eq 1604 dL_law_264 (by decide) (fun _ => K ρ hρ) (fun z => absurd rfl z)
set_option maxHeartbeats 1000000 in
set_option maxRecDepth 100000 in
theorem cs_1 {E : q_E} {i : Nat} {σ : q_M} {Q : q_P} (hi : i + 8 ≤ q_L E) (hL : q_L E ≤ 4096) (hR : r_R σ) (K : ∀ ρ, r_R ρ → q_G YL_law E 86 3995 1604 [some (.ref 1000000), some (.ref 0), some (.ref 72), some (.int (nI i))] [] q_SH ρ Q) : q_G YL_law E 86 3995 269 [some (.ref 1000000), some (.ref 0), some (.ref 72), some (.int (nI i))] [] q_SH σ Q := by
  refine q_aload_n dL_law_269 rfl ?_
  refine q_aload_n dL_law_270 rfl ?_
  refine q_iload_n dL_law_271 rfl ?_
  refine q_iconst (x := 1) dL_law_272 (by decide) ?_
  refine q_iadd dL_law_273 ?_
  refine q_sald (q_sin (k := 1) hi hL (by decide)) dL_law_274 ?_
  refine q_rE1 lL_20 vX7_end (ci := 7) rfl dL_law_275 rE_end hR rfl rfl rfl (Nat.le_of_ble_eq_true rfl) ⟨⟨by decide, by decide⟩, by decide, by decide⟩ ⟨rfl, rfl⟩ (fun x τ hF => ?_)
  refine q_aload_n dL_law_278 rfl ?_
  refine q_aload_n dL_law_279 rfl ?_
  refine q_iload_n dL_law_280 rfl ?_
  refine q_iconst (x := 1) dL_law_281 (by decide) ?_
  refine q_iadd dL_law_282 ?_
  refine q_sald (q_sin (k := 1) hi hL (by decide)) dL_law_283 ?_
  refine q_rE2 lL_24 vX8_end (ci := 8) rfl dL_law_284 hF rfl rfl rfl (Nat.le_of_ble_eq_true rfl) ⟨⟨by decide, by decide⟩, by decide, by decide⟩ ⟨rfl, rfl⟩ (fun ρ hρ => ?_)
  exact q_icmp_eq 1604 dL_law_287 (by decide) (fun _ => K ρ hρ) (fun z => absurd rfl z)
set_option maxHeartbeats 1000000 in
set_option maxRecDepth 100000 in
theorem cs_2 {E : q_E} {i : Nat} {σ : q_M} {Q : q_P} (hi : i + 8 ≤ q_L E) (hL : q_L E ≤ 4096) (hR : r_R σ) (K : ∀ ρ, r_R ρ → q_G YL_law E 86 3995 1604 [some (.ref 1000000), some (.ref 0), some (.ref 72), some (.int (nI i))] [] q_SH ρ Q) : q_G YL_law E 86 3995 292 [some (.ref 1000000), some (.ref 0), some (.ref 72), some (.int (nI i))] [] q_SH σ Q := by
  refine q_aload_n dL_law_292 rfl ?_
  refine q_rE1 lL_25 vX7_text (ci := 7) rfl dL_law_293 rE_text hR rfl rfl rfl (Nat.le_of_ble_eq_true rfl) ⟨⟨by decide, by decide⟩, by decide, by decide⟩ ⟨rfl, rfl⟩ (fun x τ hF => ?_)
  refine q_aload_n dL_law_296 rfl ?_
  refine q_rE2 lL_29 vX8_text (ci := 8) rfl dL_law_297 hF rfl rfl rfl (Nat.le_of_ble_eq_true rfl) ⟨⟨by decide, by decide⟩, by decide, by decide⟩ ⟨rfl, rfl⟩ (fun ρ hρ => ?_)
  exact q_icmp_eq 1604 dL_law_300 (by decide) (fun _ => K ρ hρ) (fun z => absurd rfl z)
set_option maxHeartbeats 1000000 in
set_option maxRecDepth 100000 in
theorem cs_3 {E : q_E} {i : Nat} {σ : q_M} {Q : q_P} (hi : i + 8 ≤ q_L E) (hL : q_L E ≤ 4096) (hR : r_R σ) (K : ∀ ρ, r_R ρ → q_G YL_law E 86 3995 1604 [some (.ref 1000000), some (.ref 0), some (.ref 72), some (.int (nI i))] [] q_SH ρ Q) : q_G YL_law E 86 3995 305 [some (.ref 1000000), some (.ref 0), some (.ref 72), some (.int (nI i))] [] q_SH σ Q := by
  refine q_aload_n dL_law_305 rfl ?_
  refine q_rE1 lL_30 vX7_fault (ci := 7) rfl dL_law_306 rE_fault hR rfl rfl rfl (Nat.le_of_ble_eq_true rfl) ⟨⟨by decide, by decide⟩, by decide, by decide⟩ ⟨rfl, rfl⟩ (fun x τ hF => ?_)
  refine q_aload_n dL_law_309 rfl ?_
  refine q_rE2 lL_33 vX8_fault (ci := 8) rfl dL_law_310 hF rfl rfl rfl (Nat.le_of_ble_eq_true rfl) ⟨⟨by decide, by decide⟩, by decide, by decide⟩ ⟨rfl, rfl⟩ (fun ρ hρ => ?_)
  exact q_icmp_eq 1604 dL_law_313 (by decide) (fun _ => K ρ hρ) (fun z => absurd rfl z)
set_option maxHeartbeats 1000000 in
set_option maxRecDepth 100000 in
theorem cs_4 {E : q_E} {i : Nat} {σ : q_M} {Q : q_P} (hi : i + 8 ≤ q_L E) (hL : q_L E ≤ 4096) (hR : r_R σ) (K : ∀ ρ, r_R ρ → q_G YL_law E 86 3995 1604 [some (.ref 1000000), some (.ref 0), some (.ref 72), some (.int (nI i))] [] q_SH ρ Q) : q_G YL_law E 86 3995 318 [some (.ref 1000000), some (.ref 0), some (.ref 72), some (.int (nI i))] [] q_SH σ Q := by
  refine q_aload_n dL_law_318 rfl ?_
  refine q_aload_n dL_law_319 rfl ?_
  refine q_iload_n dL_law_320 rfl ?_
  refine q_iconst (x := 1) dL_law_321 (by decide) ?_
  refine q_iadd dL_law_322 ?_
  refine q_sald (q_sin (k := 1) hi hL (by decide)) dL_law_323 ?_
  refine q_rE1 lL_34 vX7_rule (ci := 7) rfl dL_law_324 rE_rule hR rfl rfl rfl (Nat.le_of_ble_eq_true rfl) ⟨⟨by decide, by decide⟩, by decide, by decide⟩ ⟨rfl, rfl⟩ (fun x τ hF => ?_)
  refine q_aload_n dL_law_327 rfl ?_
  refine q_aload_n dL_law_328 rfl ?_
  refine q_iload_n dL_law_329 rfl ?_
  refine q_iconst (x := 1) dL_law_330 (by decide) ?_
  refine q_iadd dL_law_331 ?_
  refine q_sald (q_sin (k := 1) hi hL (by decide)) dL_law_332 ?_
  refine q_rE2 lL_37 vX8_rule (ci := 8) rfl dL_law_333 hF rfl rfl rfl (Nat.le_of_ble_eq_true rfl) ⟨⟨by decide, by decide⟩, by decide, by decide⟩ ⟨rfl, rfl⟩ (fun ρ hρ => ?_)
  exact q_icmp_eq 1604 dL_law_336 (by decide) (fun _ => K ρ hρ) (fun z => absurd rfl z)
set_option maxHeartbeats 1000000 in
set_option maxRecDepth 100000 in
theorem cs_5 {E : q_E} {i : Nat} {σ : q_M} {Q : q_P} (hi : i + 8 ≤ q_L E) (hL : q_L E ≤ 4096) (hR : r_R σ) (K : ∀ ρ, r_R ρ → q_G YL_law E 86 3995 1604 [some (.ref 1000000), some (.ref 0), some (.ref 72), some (.int (nI i))] [] q_SH ρ Q) : q_G YL_law E 86 3995 341 [some (.ref 1000000), some (.ref 0), some (.ref 72), some (.int (nI i))] [] q_SH σ Q := by
  refine q_aload_n dL_law_341 rfl ?_
  refine q_aload_n dL_law_342 rfl ?_
  refine q_iload_n dL_law_343 rfl ?_
  refine q_iconst (x := 1) dL_law_344 (by decide) ?_
  refine q_iadd dL_law_345 ?_
  refine q_sald (q_sin (k := 1) hi hL (by decide)) dL_law_346 ?_
  refine q_aload_n dL_law_347 rfl ?_
  refine q_iload_n dL_law_348 rfl ?_
  refine q_iconst (x := 2) dL_law_349 (by decide) ?_
  refine q_iadd dL_law_350 ?_
  refine q_sald (q_sin (k := 2) hi hL (by decide)) dL_law_351 ?_
  refine q_rE1 lL_38 vX7_diver (ci := 7) rfl dL_law_352 rE_diver hR rfl rfl rfl (Nat.le_of_ble_eq_true rfl) ⟨⟨by decide, by decide⟩, by decide, by decide⟩ ⟨rfl, rfl⟩ (fun x τ hF => ?_)
  refine q_aload_n dL_law_355 rfl ?_
  refine q_aload_n dL_law_356 rfl ?_
  refine q_iload_n dL_law_357 rfl ?_
  refine q_iconst (x := 1) dL_law_358 (by decide) ?_
  refine q_iadd dL_law_359 ?_
  refine q_sald (q_sin (k := 1) hi hL (by decide)) dL_law_360 ?_
  refine q_aload_n dL_law_361 rfl ?_
  refine q_iload_n dL_law_362 rfl ?_
  refine q_iconst (x := 2) dL_law_363 (by decide) ?_
  refine q_iadd dL_law_364 ?_
  refine q_sald (q_sin (k := 2) hi hL (by decide)) dL_law_365 ?_
  refine q_rE2 lL_42 vX8_diver (ci := 8) rfl dL_law_366 hF rfl rfl rfl (Nat.le_of_ble_eq_true rfl) ⟨⟨by decide, by decide⟩, by decide, by decide⟩ ⟨rfl, rfl⟩ (fun ρ hρ => ?_)
  exact q_icmp_eq 1604 dL_law_369 (by decide) (fun _ => K ρ hρ) (fun z => absurd rfl z)
set_option maxHeartbeats 1000000 in
set_option maxRecDepth 100000 in
theorem cs_6 {E : q_E} {i : Nat} {σ : q_M} {Q : q_P} (hi : i + 8 ≤ q_L E) (hL : q_L E ≤ 4096) (hR : r_R σ) (K : ∀ ρ, r_R ρ → q_G YL_law E 86 3995 1604 [some (.ref 1000000), some (.ref 0), some (.ref 72), some (.int (nI i))] [] q_SH ρ Q) : q_G YL_law E 86 3995 374 [some (.ref 1000000), some (.ref 0), some (.ref 72), some (.int (nI i))] [] q_SH σ Q := by
  refine q_aload_n dL_law_374 rfl ?_
  refine q_aload_n dL_law_375 rfl ?_
  refine q_iload_n dL_law_376 rfl ?_
  refine q_iconst (x := 1) dL_law_377 (by decide) ?_
  refine q_iadd dL_law_378 ?_
  refine q_sald (q_sin (k := 1) hi hL (by decide)) dL_law_379 ?_
  refine q_rE1 lL_43 vX7_thumb (ci := 7) rfl dL_law_380 rE_thumb hR rfl rfl rfl (Nat.le_of_ble_eq_true rfl) ⟨⟨by decide, by decide⟩, by decide, by decide⟩ ⟨rfl, rfl⟩ (fun x τ hF => ?_)
  refine q_aload_n dL_law_383 rfl ?_
  refine q_aload_n dL_law_384 rfl ?_
  refine q_iload_n dL_law_385 rfl ?_
  refine q_iconst (x := 1) dL_law_386 (by decide) ?_
  refine q_iadd dL_law_387 ?_
  refine q_sald (q_sin (k := 1) hi hL (by decide)) dL_law_388 ?_
  refine q_rE2 lL_46 vX8_thumb (ci := 8) rfl dL_law_389 hF rfl rfl rfl (Nat.le_of_ble_eq_true rfl) ⟨⟨by decide, by decide⟩, by decide, by decide⟩ ⟨rfl, rfl⟩ (fun ρ hρ => ?_)
  exact q_icmp_eq 1604 dL_law_392 (by decide) (fun _ => K ρ hρ) (fun z => absurd rfl z)
set_option maxHeartbeats 1000000 in
set_option maxRecDepth 100000 in
theorem cs_7 {E : q_E} {i : Nat} {σ : q_M} {Q : q_P} (hi : i + 8 ≤ q_L E) (hL : q_L E ≤ 4096) (hR : r_R σ) (K : ∀ ρ, r_R ρ → q_G YL_law E 86 3995 1604 [some (.ref 1000000), some (.ref 0), some (.ref 72), some (.int (nI i))] [] q_SH ρ Q) : q_G YL_law E 86 3995 397 [some (.ref 1000000), some (.ref 0), some (.ref 72), some (.int (nI i))] [] q_SH σ Q := by
  refine q_aload_n dL_law_397 rfl ?_
  refine q_aload_n dL_law_398 rfl ?_
  refine q_iload_n dL_law_399 rfl ?_
  refine q_iconst (x := 1) dL_law_400 (by decide) ?_
  refine q_iadd dL_law_401 ?_
  refine q_sald (q_sin (k := 1) hi hL (by decide)) dL_law_402 ?_
  refine q_rE1 lL_47 vX7_warm (ci := 7) rfl dL_law_403 rE_warm hR rfl rfl rfl (Nat.le_of_ble_eq_true rfl) ⟨⟨by decide, by decide⟩, by decide, by decide⟩ ⟨rfl, rfl⟩ (fun x τ hF => ?_)
  refine q_aload_n dL_law_406 rfl ?_
  refine q_aload_n dL_law_407 rfl ?_
  refine q_iload_n dL_law_408 rfl ?_
  refine q_iconst (x := 1) dL_law_409 (by decide) ?_
  refine q_iadd dL_law_410 ?_
  refine q_sald (q_sin (k := 1) hi hL (by decide)) dL_law_411 ?_
  refine q_rE2 lL_50 vX8_warm (ci := 8) rfl dL_law_412 hF rfl rfl rfl (Nat.le_of_ble_eq_true rfl) ⟨⟨by decide, by decide⟩, by decide, by decide⟩ ⟨rfl, rfl⟩ (fun ρ hρ => ?_)
  exact q_icmp_eq 1604 dL_law_415 (by decide) (fun _ => K ρ hρ) (fun z => absurd rfl z)
set_option maxHeartbeats 1000000 in
set_option maxRecDepth 100000 in
theorem cs_8 {E : q_E} {i : Nat} {σ : q_M} {Q : q_P} (hi : i + 8 ≤ q_L E) (hL : q_L E ≤ 4096) (hR : r_R σ) (K : ∀ ρ, r_R ρ → q_G YL_law E 86 3995 1604 [some (.ref 1000000), some (.ref 0), some (.ref 72), some (.int (nI i))] [] q_SH ρ Q) : q_G YL_law E 86 3995 420 [some (.ref 1000000), some (.ref 0), some (.ref 72), some (.int (nI i))] [] q_SH σ Q := by
  refine q_aload_n dL_law_420 rfl ?_
  refine q_aload_n dL_law_421 rfl ?_
  refine q_iload_n dL_law_422 rfl ?_
  refine q_iconst (x := 1) dL_law_423 (by decide) ?_
  refine q_iadd dL_law_424 ?_
  refine q_sald (q_sin (k := 1) hi hL (by decide)) dL_law_425 ?_
  refine q_rE1 lL_51 vX7_go (ci := 7) rfl dL_law_426 rE_go hR rfl rfl rfl (Nat.le_of_ble_eq_true rfl) ⟨⟨by decide, by decide⟩, by decide, by decide⟩ ⟨rfl, rfl⟩ (fun x τ hF => ?_)
  refine q_aload_n dL_law_429 rfl ?_
  refine q_aload_n dL_law_430 rfl ?_
  refine q_iload_n dL_law_431 rfl ?_
  refine q_iconst (x := 1) dL_law_432 (by decide) ?_
  refine q_iadd dL_law_433 ?_
  refine q_sald (q_sin (k := 1) hi hL (by decide)) dL_law_434 ?_
  refine q_rE2 lL_54 vX8_go (ci := 8) rfl dL_law_435 hF rfl rfl rfl (Nat.le_of_ble_eq_true rfl) ⟨⟨by decide, by decide⟩, by decide, by decide⟩ ⟨rfl, rfl⟩ (fun ρ hρ => ?_)
  exact q_icmp_eq 1604 dL_law_438 (by decide) (fun _ => K ρ hρ) (fun z => absurd rfl z)
set_option maxHeartbeats 1000000 in
set_option maxRecDepth 100000 in
theorem cs_9 {E : q_E} {i : Nat} {σ : q_M} {Q : q_P} (hi : i + 8 ≤ q_L E) (hL : q_L E ≤ 4096) (hR : r_R σ) (K : ∀ ρ, r_R ρ → q_G YL_law E 86 3995 1604 [some (.ref 1000000), some (.ref 0), some (.ref 72), some (.int (nI i))] [] q_SH ρ Q) : q_G YL_law E 86 3995 443 [some (.ref 1000000), some (.ref 0), some (.ref 72), some (.int (nI i))] [] q_SH σ Q := by
  refine q_aload_n dL_law_443 rfl ?_
  refine q_aload_n dL_law_444 rfl ?_
  refine q_iload_n dL_law_445 rfl ?_
  refine q_iconst (x := 1) dL_law_446 (by decide) ?_
  refine q_iadd dL_law_447 ?_
  refine q_sald (q_sin (k := 1) hi hL (by decide)) dL_law_448 ?_
  refine q_aload_n dL_law_449 rfl ?_
  refine q_iload_n dL_law_450 rfl ?_
  refine q_iconst (x := 2) dL_law_451 (by decide) ?_
  refine q_iadd dL_law_452 ?_
  refine q_sald (q_sin (k := 2) hi hL (by decide)) dL_law_453 ?_
  refine q_rE1 lL_55 vX7_set (ci := 7) rfl dL_law_454 rE_set hR rfl rfl rfl (Nat.le_of_ble_eq_true rfl) ⟨⟨by decide, by decide⟩, by decide, by decide⟩ ⟨rfl, rfl⟩ (fun x τ hF => ?_)
  refine q_aload_n dL_law_457 rfl ?_
  refine q_aload_n dL_law_458 rfl ?_
  refine q_iload_n dL_law_459 rfl ?_
  refine q_iconst (x := 1) dL_law_460 (by decide) ?_
  refine q_iadd dL_law_461 ?_
  refine q_sald (q_sin (k := 1) hi hL (by decide)) dL_law_462 ?_
  refine q_aload_n dL_law_463 rfl ?_
  refine q_iload_n dL_law_464 rfl ?_
  refine q_iconst (x := 2) dL_law_465 (by decide) ?_
  refine q_iadd dL_law_466 ?_
  refine q_sald (q_sin (k := 2) hi hL (by decide)) dL_law_467 ?_
  refine q_rE2 lL_58 vX8_set (ci := 8) rfl dL_law_468 hF rfl rfl rfl (Nat.le_of_ble_eq_true rfl) ⟨⟨by decide, by decide⟩, by decide, by decide⟩ ⟨rfl, rfl⟩ (fun ρ hρ => ?_)
  exact q_icmp_eq 1604 dL_law_471 (by decide) (fun _ => K ρ hρ) (fun z => absurd rfl z)
set_option maxHeartbeats 1000000 in
set_option maxRecDepth 100000 in
theorem cs_10 {E : q_E} {i : Nat} {σ : q_M} {Q : q_P} (hi : i + 8 ≤ q_L E) (hL : q_L E ≤ 4096) (hR : r_R σ) (K : ∀ ρ, r_R ρ → q_G YL_law E 86 3995 1604 [some (.ref 1000000), some (.ref 0), some (.ref 72), some (.int (nI i))] [] q_SH ρ Q) : q_G YL_law E 86 3995 476 [some (.ref 1000000), some (.ref 0), some (.ref 72), some (.int (nI i))] [] q_SH σ Q := by
  refine q_aload_n dL_law_476 rfl ?_
  refine q_aload_n dL_law_477 rfl ?_
  refine q_iload_n dL_law_478 rfl ?_
  refine q_iconst (x := 1) dL_law_479 (by decide) ?_
  refine q_iadd dL_law_480 ?_
  refine q_sald (q_sin (k := 1) hi hL (by decide)) dL_law_481 ?_
  refine q_rE1 lL_59 vX7_now (ci := 7) rfl dL_law_482 rE_now hR rfl rfl rfl (Nat.le_of_ble_eq_true rfl) ⟨⟨by decide, by decide⟩, by decide, by decide⟩ ⟨rfl, rfl⟩ (fun x τ hF => ?_)
  refine q_aload_n dL_law_485 rfl ?_
  refine q_aload_n dL_law_486 rfl ?_
  refine q_iload_n dL_law_487 rfl ?_
  refine q_iconst (x := 1) dL_law_488 (by decide) ?_
  refine q_iadd dL_law_489 ?_
  refine q_sald (q_sin (k := 1) hi hL (by decide)) dL_law_490 ?_
  refine q_rE2 lL_62 vX8_now (ci := 8) rfl dL_law_491 hF rfl rfl rfl (Nat.le_of_ble_eq_true rfl) ⟨⟨by decide, by decide⟩, by decide, by decide⟩ ⟨rfl, rfl⟩ (fun ρ hρ => ?_)
  exact q_icmp_eq 1604 dL_law_494 (by decide) (fun _ => K ρ hρ) (fun z => absurd rfl z)
set_option maxHeartbeats 1000000 in
set_option maxRecDepth 100000 in
theorem cs_11 {E : q_E} {i : Nat} {σ : q_M} {Q : q_P} (hi : i + 8 ≤ q_L E) (hL : q_L E ≤ 4096) (hR : r_R σ) (K : ∀ ρ, r_R ρ → q_G YL_law E 86 3995 1604 [some (.ref 1000000), some (.ref 0), some (.ref 72), some (.int (nI i))] [] q_SH ρ Q) : q_G YL_law E 86 3995 499 [some (.ref 1000000), some (.ref 0), some (.ref 72), some (.int (nI i))] [] q_SH σ Q := by
  refine q_aload_n dL_law_499 rfl ?_
  refine q_rE1 lL_63 vX7_drop (ci := 7) rfl dL_law_500 rE_drop hR rfl rfl rfl (Nat.le_of_ble_eq_true rfl) ⟨⟨by decide, by decide⟩, by decide, by decide⟩ ⟨rfl, rfl⟩ (fun x τ hF => ?_)
  refine q_aload_n dL_law_503 rfl ?_
  refine q_rE2 lL_66 vX8_drop (ci := 8) rfl dL_law_504 hF rfl rfl rfl (Nat.le_of_ble_eq_true rfl) ⟨⟨by decide, by decide⟩, by decide, by decide⟩ ⟨rfl, rfl⟩ (fun ρ hρ => ?_)
  exact q_icmp_eq 1604 dL_law_507 (by decide) (fun _ => K ρ hρ) (fun z => absurd rfl z)
set_option maxHeartbeats 1000000 in
set_option maxRecDepth 100000 in
theorem cs_12 {E : q_E} {i : Nat} {σ : q_M} {Q : q_P} (hi : i + 8 ≤ q_L E) (hL : q_L E ≤ 4096) (hR : r_R σ) (K : ∀ ρ, r_R ρ → q_G YL_law E 86 3995 1604 [some (.ref 1000000), some (.ref 0), some (.ref 72), some (.int (nI i))] [] q_SH ρ Q) : q_G YL_law E 86 3995 512 [some (.ref 1000000), some (.ref 0), some (.ref 72), some (.int (nI i))] [] q_SH σ Q := by
  refine q_aload_n dL_law_512 rfl ?_
  refine q_aload_n dL_law_513 rfl ?_
  refine q_iload_n dL_law_514 rfl ?_
  refine q_iconst (x := 1) dL_law_515 (by decide) ?_
  refine q_iadd dL_law_516 ?_
  refine q_sald (q_sin (k := 1) hi hL (by decide)) dL_law_517 ?_
  refine q_rE1 lL_67 vX7_press (ci := 7) rfl dL_law_518 rE_press hR rfl rfl rfl (Nat.le_of_ble_eq_true rfl) ⟨⟨by decide, by decide⟩, by decide, by decide⟩ ⟨rfl, rfl⟩ (fun x τ hF => ?_)
  refine q_aload_n dL_law_521 rfl ?_
  refine q_aload_n dL_law_522 rfl ?_
  refine q_iload_n dL_law_523 rfl ?_
  refine q_iconst (x := 1) dL_law_524 (by decide) ?_
  refine q_iadd dL_law_525 ?_
  refine q_sald (q_sin (k := 1) hi hL (by decide)) dL_law_526 ?_
  refine q_rE2 lL_70 vX8_press (ci := 8) rfl dL_law_527 hF rfl rfl rfl (Nat.le_of_ble_eq_true rfl) ⟨⟨by decide, by decide⟩, by decide, by decide⟩ ⟨rfl, rfl⟩ (fun ρ hρ => ?_)
  exact q_icmp_eq 1604 dL_law_530 (by decide) (fun _ => K ρ hρ) (fun z => absurd rfl z)
set_option maxHeartbeats 1000000 in
set_option maxRecDepth 100000 in
theorem cs_13 {E : q_E} {i : Nat} {σ : q_M} {Q : q_P} (hi : i + 8 ≤ q_L E) (hL : q_L E ≤ 4096) (hR : r_R σ) (K : ∀ ρ, r_R ρ → q_G YL_law E 86 3995 1604 [some (.ref 1000000), some (.ref 0), some (.ref 72), some (.int (nI i))] [] q_SH ρ Q) : q_G YL_law E 86 3995 535 [some (.ref 1000000), some (.ref 0), some (.ref 72), some (.int (nI i))] [] q_SH σ Q := by
  refine q_aload_n dL_law_535 rfl ?_
  refine q_aload_n dL_law_536 rfl ?_
  refine q_iload_n dL_law_537 rfl ?_
  refine q_iconst (x := 1) dL_law_538 (by decide) ?_
  refine q_iadd dL_law_539 ?_
  refine q_sald (q_sin (k := 1) hi hL (by decide)) dL_law_540 ?_
  refine q_aload_n dL_law_541 rfl ?_
  refine q_iload_n dL_law_542 rfl ?_
  refine q_iconst (x := 2) dL_law_543 (by decide) ?_
  refine q_iadd dL_law_544 ?_
  refine q_sald (q_sin (k := 2) hi hL (by decide)) dL_law_545 ?_
  refine q_aload_n dL_law_546 rfl ?_
  refine q_iload_n dL_law_547 rfl ?_
  refine q_iconst (x := 3) dL_law_548 (by decide) ?_
  refine q_iadd dL_law_549 ?_
  refine q_sald (q_sin (k := 3) hi hL (by decide)) dL_law_550 ?_
  refine q_rE1 lL_71 vX7_weighs (ci := 7) rfl dL_law_551 rE_weighs hR rfl rfl rfl (Nat.le_of_ble_eq_true rfl) ⟨⟨by decide, by decide⟩, by decide, by decide⟩ ⟨rfl, rfl⟩ (fun x τ hF => ?_)
  refine q_aload_n dL_law_554 rfl ?_
  refine q_aload_n dL_law_555 rfl ?_
  refine q_iload_n dL_law_556 rfl ?_
  refine q_iconst (x := 1) dL_law_557 (by decide) ?_
  refine q_iadd dL_law_558 ?_
  refine q_sald (q_sin (k := 1) hi hL (by decide)) dL_law_559 ?_
  refine q_aload_n dL_law_560 rfl ?_
  refine q_iload_n dL_law_561 rfl ?_
  refine q_iconst (x := 2) dL_law_562 (by decide) ?_
  refine q_iadd dL_law_563 ?_
  refine q_sald (q_sin (k := 2) hi hL (by decide)) dL_law_564 ?_
  refine q_aload_n dL_law_565 rfl ?_
  refine q_iload_n dL_law_566 rfl ?_
  refine q_iconst (x := 3) dL_law_567 (by decide) ?_
  refine q_iadd dL_law_568 ?_
  refine q_sald (q_sin (k := 3) hi hL (by decide)) dL_law_569 ?_
  refine q_rE2 lL_75 vX8_weighs (ci := 8) rfl dL_law_570 hF rfl rfl rfl (Nat.le_of_ble_eq_true rfl) ⟨⟨by decide, by decide⟩, by decide, by decide⟩ ⟨rfl, rfl⟩ (fun ρ hρ => ?_)
  exact q_icmp_eq 1604 dL_law_573 (by decide) (fun _ => K ρ hρ) (fun z => absurd rfl z)
set_option maxHeartbeats 1000000 in
set_option maxRecDepth 100000 in
theorem cs_14 {E : q_E} {i : Nat} {σ : q_M} {Q : q_P} (hi : i + 8 ≤ q_L E) (hL : q_L E ≤ 4096) (hR : r_R σ) (K : ∀ ρ, r_R ρ → q_G YL_law E 86 3995 1604 [some (.ref 1000000), some (.ref 0), some (.ref 72), some (.int (nI i))] [] q_SH ρ Q) : q_G YL_law E 86 3995 578 [some (.ref 1000000), some (.ref 0), some (.ref 72), some (.int (nI i))] [] q_SH σ Q := by
  refine q_aload_n dL_law_578 rfl ?_
  refine q_aload_n dL_law_579 rfl ?_
  refine q_iload_n dL_law_580 rfl ?_
  refine q_iconst (x := 1) dL_law_581 (by decide) ?_
  refine q_iadd dL_law_582 ?_
  refine q_sald (q_sin (k := 1) hi hL (by decide)) dL_law_583 ?_
  refine q_aload_n dL_law_584 rfl ?_
  refine q_iload_n dL_law_585 rfl ?_
  refine q_iconst (x := 2) dL_law_586 (by decide) ?_
  refine q_iadd dL_law_587 ?_
  refine q_sald (q_sin (k := 2) hi hL (by decide)) dL_law_588 ?_
  refine q_rE1 lL_76 vX7_turning (ci := 7) rfl dL_law_589 rE_turning hR rfl rfl rfl (Nat.le_of_ble_eq_true rfl) ⟨⟨by decide, by decide⟩, by decide, by decide⟩ ⟨rfl, rfl⟩ (fun x τ hF => ?_)
  refine q_aload_n dL_law_592 rfl ?_
  refine q_aload_n dL_law_593 rfl ?_
  refine q_iload_n dL_law_594 rfl ?_
  refine q_iconst (x := 1) dL_law_595 (by decide) ?_
  refine q_iadd dL_law_596 ?_
  refine q_sald (q_sin (k := 1) hi hL (by decide)) dL_law_597 ?_
  refine q_aload_n dL_law_598 rfl ?_
  refine q_iload_n dL_law_599 rfl ?_
  refine q_iconst (x := 2) dL_law_600 (by decide) ?_
  refine q_iadd dL_law_601 ?_
  refine q_sald (q_sin (k := 2) hi hL (by decide)) dL_law_602 ?_
  refine q_rE2 lL_79 vX8_turning (ci := 8) rfl dL_law_603 hF rfl rfl rfl (Nat.le_of_ble_eq_true rfl) ⟨⟨by decide, by decide⟩, by decide, by decide⟩ ⟨rfl, rfl⟩ (fun ρ hρ => ?_)
  exact q_icmp_eq 1604 dL_law_606 (by decide) (fun _ => K ρ hρ) (fun z => absurd rfl z)
set_option maxHeartbeats 1000000 in
set_option maxRecDepth 100000 in
theorem cs_15 {E : q_E} {i : Nat} {σ : q_M} {Q : q_P} (hi : i + 8 ≤ q_L E) (hL : q_L E ≤ 4096) (hR : r_R σ) (K : ∀ ρ, r_R ρ → q_G YL_law E 86 3995 1604 [some (.ref 1000000), some (.ref 0), some (.ref 72), some (.int (nI i))] [] q_SH ρ Q) : q_G YL_law E 86 3995 611 [some (.ref 1000000), some (.ref 0), some (.ref 72), some (.int (nI i))] [] q_SH σ Q := by
  refine q_aload_n dL_law_611 rfl ?_
  refine q_aload_n dL_law_612 rfl ?_
  refine q_iload_n dL_law_613 rfl ?_
  refine q_iconst (x := 1) dL_law_614 (by decide) ?_
  refine q_iadd dL_law_615 ?_
  refine q_sald (q_sin (k := 1) hi hL (by decide)) dL_law_616 ?_
  refine q_aload_n dL_law_617 rfl ?_
  refine q_iload_n dL_law_618 rfl ?_
  refine q_iconst (x := 2) dL_law_619 (by decide) ?_
  refine q_iadd dL_law_620 ?_
  refine q_sald (q_sin (k := 2) hi hL (by decide)) dL_law_621 ?_
  refine q_rE1 lL_80 vX7_holding (ci := 7) rfl dL_law_622 rE_holding hR rfl rfl rfl (Nat.le_of_ble_eq_true rfl) ⟨⟨by decide, by decide⟩, by decide, by decide⟩ ⟨rfl, rfl⟩ (fun x τ hF => ?_)
  refine q_aload_n dL_law_625 rfl ?_
  refine q_aload_n dL_law_626 rfl ?_
  refine q_iload_n dL_law_627 rfl ?_
  refine q_iconst (x := 1) dL_law_628 (by decide) ?_
  refine q_iadd dL_law_629 ?_
  refine q_sald (q_sin (k := 1) hi hL (by decide)) dL_law_630 ?_
  refine q_aload_n dL_law_631 rfl ?_
  refine q_iload_n dL_law_632 rfl ?_
  refine q_iconst (x := 2) dL_law_633 (by decide) ?_
  refine q_iadd dL_law_634 ?_
  refine q_sald (q_sin (k := 2) hi hL (by decide)) dL_law_635 ?_
  refine q_rE2 lL_83 vX8_holding (ci := 8) rfl dL_law_636 hF rfl rfl rfl (Nat.le_of_ble_eq_true rfl) ⟨⟨by decide, by decide⟩, by decide, by decide⟩ ⟨rfl, rfl⟩ (fun ρ hρ => ?_)
  exact q_icmp_eq 1604 dL_law_639 (by decide) (fun _ => K ρ hρ) (fun z => absurd rfl z)
set_option maxHeartbeats 1000000 in
set_option maxRecDepth 100000 in
theorem cs_16 {E : q_E} {i : Nat} {σ : q_M} {Q : q_P} (hi : i + 8 ≤ q_L E) (hL : q_L E ≤ 4096) (hR : r_R σ) (K : ∀ ρ, r_R ρ → q_G YL_law E 86 3995 1604 [some (.ref 1000000), some (.ref 0), some (.ref 72), some (.int (nI i))] [] q_SH ρ Q) : q_G YL_law E 86 3995 644 [some (.ref 1000000), some (.ref 0), some (.ref 72), some (.int (nI i))] [] q_SH σ Q := by
  refine q_aload_n dL_law_644 rfl ?_
  refine q_aload_n dL_law_645 rfl ?_
  refine q_iload_n dL_law_646 rfl ?_
  refine q_iconst (x := 1) dL_law_647 (by decide) ?_
  refine q_iadd dL_law_648 ?_
  refine q_sald (q_sin (k := 1) hi hL (by decide)) dL_law_649 ?_
  refine q_rE1 lL_84 vX7_back (ci := 7) rfl dL_law_650 rE_back hR rfl rfl rfl (Nat.le_of_ble_eq_true rfl) ⟨⟨by decide, by decide⟩, by decide, by decide⟩ ⟨rfl, rfl⟩ (fun x τ hF => ?_)
  refine q_aload_n dL_law_653 rfl ?_
  refine q_aload_n dL_law_654 rfl ?_
  refine q_iload_n dL_law_655 rfl ?_
  refine q_iconst (x := 1) dL_law_656 (by decide) ?_
  refine q_iadd dL_law_657 ?_
  refine q_sald (q_sin (k := 1) hi hL (by decide)) dL_law_658 ?_
  refine q_rE2 lL_87 vX8_back (ci := 8) rfl dL_law_659 hF rfl rfl rfl (Nat.le_of_ble_eq_true rfl) ⟨⟨by decide, by decide⟩, by decide, by decide⟩ ⟨rfl, rfl⟩ (fun ρ hρ => ?_)
  exact q_icmp_eq 1604 dL_law_662 (by decide) (fun _ => K ρ hρ) (fun z => absurd rfl z)
set_option maxHeartbeats 1000000 in
set_option maxRecDepth 100000 in
theorem cs_17 {E : q_E} {i : Nat} {σ : q_M} {Q : q_P} (hi : i + 8 ≤ q_L E) (hL : q_L E ≤ 4096) (hR : r_R σ) (K : ∀ ρ, r_R ρ → q_G YL_law E 86 3995 1604 [some (.ref 1000000), some (.ref 0), some (.ref 72), some (.int (nI i))] [] q_SH ρ Q) : q_G YL_law E 86 3995 667 [some (.ref 1000000), some (.ref 0), some (.ref 72), some (.int (nI i))] [] q_SH σ Q := by
  refine q_aload_n dL_law_667 rfl ?_
  refine q_aload_n dL_law_668 rfl ?_
  refine q_iload_n dL_law_669 rfl ?_
  refine q_iconst (x := 1) dL_law_670 (by decide) ?_
  refine q_iadd dL_law_671 ?_
  refine q_sald (q_sin (k := 1) hi hL (by decide)) dL_law_672 ?_
  refine q_rE1 lL_88 vX7_goesAt (ci := 7) rfl dL_law_673 rE_goesAt hR rfl rfl rfl (Nat.le_of_ble_eq_true rfl) ⟨⟨by decide, by decide⟩, by decide, by decide⟩ ⟨rfl, rfl⟩ (fun x τ hF => ?_)
  refine q_aload_n dL_law_676 rfl ?_
  refine q_aload_n dL_law_677 rfl ?_
  refine q_iload_n dL_law_678 rfl ?_
  refine q_iconst (x := 1) dL_law_679 (by decide) ?_
  refine q_iadd dL_law_680 ?_
  refine q_sald (q_sin (k := 1) hi hL (by decide)) dL_law_681 ?_
  refine q_rE2 lL_91 vX8_goesAt (ci := 8) rfl dL_law_682 hF rfl rfl rfl (Nat.le_of_ble_eq_true rfl) ⟨⟨by decide, by decide⟩, by decide, by decide⟩ ⟨rfl, rfl⟩ (fun ρ hρ => ?_)
  exact q_icmp_eq 1604 dL_law_685 (by decide) (fun _ => K ρ hρ) (fun z => absurd rfl z)
set_option maxHeartbeats 1000000 in
set_option maxRecDepth 100000 in
theorem cs_18 {E : q_E} {i : Nat} {σ : q_M} {Q : q_P} (hi : i + 8 ≤ q_L E) (hL : q_L E ≤ 4096) (hR : r_R σ) (K : ∀ ρ, r_R ρ → q_G YL_law E 86 3995 1604 [some (.ref 1000000), some (.ref 0), some (.ref 72), some (.int (nI i))] [] q_SH ρ Q) : q_G YL_law E 86 3995 690 [some (.ref 1000000), some (.ref 0), some (.ref 72), some (.int (nI i))] [] q_SH σ Q := by
  refine q_aload_n dL_law_690 rfl ?_
  refine q_aload_n dL_law_691 rfl ?_
  refine q_iload_n dL_law_692 rfl ?_
  refine q_iconst (x := 1) dL_law_693 (by decide) ?_
  refine q_iadd dL_law_694 ?_
  refine q_sald (q_sin (k := 1) hi hL (by decide)) dL_law_695 ?_
  refine q_rE1 lL_92 vX7_order (ci := 7) rfl dL_law_696 rE_order hR rfl rfl rfl (Nat.le_of_ble_eq_true rfl) ⟨⟨by decide, by decide⟩, by decide, by decide⟩ ⟨rfl, rfl⟩ (fun x τ hF => ?_)
  refine q_aload_n dL_law_699 rfl ?_
  refine q_aload_n dL_law_700 rfl ?_
  refine q_iload_n dL_law_701 rfl ?_
  refine q_iconst (x := 1) dL_law_702 (by decide) ?_
  refine q_iadd dL_law_703 ?_
  refine q_sald (q_sin (k := 1) hi hL (by decide)) dL_law_704 ?_
  refine q_rE2 lL_95 vX8_order (ci := 8) rfl dL_law_705 hF rfl rfl rfl (Nat.le_of_ble_eq_true rfl) ⟨⟨by decide, by decide⟩, by decide, by decide⟩ ⟨rfl, rfl⟩ (fun ρ hρ => ?_)
  exact q_icmp_eq 1604 dL_law_708 (by decide) (fun _ => K ρ hρ) (fun z => absurd rfl z)
set_option maxHeartbeats 1000000 in
set_option maxRecDepth 100000 in
theorem cs_19 {E : q_E} {i : Nat} {σ : q_M} {Q : q_P} (hi : i + 8 ≤ q_L E) (hL : q_L E ≤ 4096) (hR : r_R σ) (K : ∀ ρ, r_R ρ → q_G YL_law E 86 3995 1604 [some (.ref 1000000), some (.ref 0), some (.ref 72), some (.int (nI i))] [] q_SH ρ Q) : q_G YL_law E 86 3995 713 [some (.ref 1000000), some (.ref 0), some (.ref 72), some (.int (nI i))] [] q_SH σ Q := by
  refine q_aload_n dL_law_713 rfl ?_
  refine q_rE1 lL_96 vX7_apart (ci := 7) rfl dL_law_714 rE_apart hR rfl rfl rfl (Nat.le_of_ble_eq_true rfl) ⟨⟨by decide, by decide⟩, by decide, by decide⟩ ⟨rfl, rfl⟩ (fun x τ hF => ?_)
  refine q_aload_n dL_law_717 rfl ?_
  refine q_rE2 lL_99 vX8_apart (ci := 8) rfl dL_law_718 hF rfl rfl rfl (Nat.le_of_ble_eq_true rfl) ⟨⟨by decide, by decide⟩, by decide, by decide⟩ ⟨rfl, rfl⟩ (fun ρ hρ => ?_)
  exact q_icmp_eq 1604 dL_law_721 (by decide) (fun _ => K ρ hρ) (fun z => absurd rfl z)
set_option maxHeartbeats 1000000 in
set_option maxRecDepth 100000 in
theorem cs_20 {E : q_E} {i : Nat} {σ : q_M} {Q : q_P} (hi : i + 8 ≤ q_L E) (hL : q_L E ≤ 4096) (hR : r_R σ) (K : ∀ ρ, r_R ρ → q_G YL_law E 86 3995 1604 [some (.ref 1000000), some (.ref 0), some (.ref 72), some (.int (nI i))] [] q_SH ρ Q) : q_G YL_law E 86 3995 726 [some (.ref 1000000), some (.ref 0), some (.ref 72), some (.int (nI i))] [] q_SH σ Q := by
  refine q_aload_n dL_law_726 rfl ?_
  refine q_aload_n dL_law_727 rfl ?_
  refine q_iload_n dL_law_728 rfl ?_
  refine q_iconst (x := 1) dL_law_729 (by decide) ?_
  refine q_iadd dL_law_730 ?_
  refine q_sald (q_sin (k := 1) hi hL (by decide)) dL_law_731 ?_
  refine q_rE1 lL_100 vX7_lifts (ci := 7) rfl dL_law_732 rE_lifts hR rfl rfl rfl (Nat.le_of_ble_eq_true rfl) ⟨⟨by decide, by decide⟩, by decide, by decide⟩ ⟨rfl, rfl⟩ (fun x τ hF => ?_)
  refine q_aload_n dL_law_735 rfl ?_
  refine q_aload_n dL_law_736 rfl ?_
  refine q_iload_n dL_law_737 rfl ?_
  refine q_iconst (x := 1) dL_law_738 (by decide) ?_
  refine q_iadd dL_law_739 ?_
  refine q_sald (q_sin (k := 1) hi hL (by decide)) dL_law_740 ?_
  refine q_rE2 lL_103 vX8_lifts (ci := 8) rfl dL_law_741 hF rfl rfl rfl (Nat.le_of_ble_eq_true rfl) ⟨⟨by decide, by decide⟩, by decide, by decide⟩ ⟨rfl, rfl⟩ (fun ρ hρ => ?_)
  exact q_icmp_eq 1604 dL_law_744 (by decide) (fun _ => K ρ hρ) (fun z => absurd rfl z)
