/-! THE JUDGEMENT: a method at a place, over the abstract world, comes to a return that Q allows -/
abbrev q_Y : Type := MethodName × ByteArray × Nat × Option FieldType × Room
abbrev q_y (Y : q_Y) : MethodName := Y.1
abbrev q_cc (Y : q_Y) : ByteArray := Y.2.1
abbrev q_mx (Y : q_Y) : Nat := Y.2.2.1
abbrev q_rt (Y : q_Y) : Option FieldType := Y.2.2.2.1
abbrev q_rm (Y : q_Y) : Room := Y.2.2.2.2
abbrev q_P : Type := Option Int32 → List q_S → q_M → Prop
def q_T : List Cond := lw_tbl.filter goodWord
theorem q_in (i : Nat) {w : Cond} (h : lw_tbl[i]? = some w) (hg : goodWord w = true) : w ∈ q_T := List.mem_filter.mpr ⟨List.mem_of_getElem? h, hg⟩
theorem q_T_good : ∀ w ∈ q_T, goodWord w = true := fun _ h => (List.mem_filter.mp h).2
def q_ws (Y : q_Y) : List Cond := Cond.code (q_y Y) (q_cc Y) (q_mx Y) (q_rt Y) :: q_T
theorem q_good {Y Y2 : q_Y} (h : Cond.code (q_y Y2) (q_cc Y2) (q_mx Y2) (q_rt Y2) ∈ q_T) : GoodIn (q_ws Y) (q_ws Y2) := by
  intro w hw
  rcases List.mem_cons.mp hw with rfl | hw
  · exact ⟨List.mem_cons_of_mem _ h, good_of_word rfl⟩
  · exact ⟨List.mem_cons_of_mem _ hw, good_of_word (q_T_good w hw)⟩
def q_tys (E : q_E) : List (ClassId × FieldType) := [(q_cT E 0, .int), (q_cT E 1, .byte), (q_cT E 2, .boolean), (q_cT E 3, .object "DiverBottle$Diver"), (q_cT E 4, .object "DiverBottle$Scene"), (q_cT E 5, .object "DiverBottle$Sheet")]
def q_K (E : q_E) (U : State) : Prop := va_K (q_D E) q_cls (q_tys E) U
/-- constants: the three static rows, the script, words of nest mates and of rows of references -/
def q_tab : Nat → Nat → Int32
  | 1, k => [10, 800, 250, 1, 0, 0, 0].getD k 0
  | 2, k => [200, 1200, 350, 64, 201, 99, 999].getD k 0
  | 3, k => [100, 1000, 293, 8, 201, 0, 0].getD k 0
  | _, _ => 0
def q_nm : Nat → String
  | 1 => "RULE_LEAST"
  | 2 => "RULE_MOST"
  | _ => "RULE_FIRST"
def q_nest : Cond → Bool
  | .methodLinkNest .. => true
  | .fieldLinkNest .. => true
  | _ => false
def q_N : List Cond := lw_tbl.filter q_nest
theorem q_inN (i : Nat) {w : Cond} (h : lw_tbl[i]? = some w) (hg : q_nest w = true) : w ∈ q_N := List.mem_filter.mpr ⟨List.mem_of_getElem? h, hg⟩
/-- the words of the text, as String constants -/
def q_six : Nat → Nat := fun i => [50, 155, 159, 163, 59, 119, 121, 123, 125, 127, 129].getD i 0
def q_stx : Nat → String := fun i => ["diver", "leak", "rate", "hook", "hour", "height", "air", "warm", "drag", "salt", "ring"].getD i ""
def q_strl : List Nat := [5, 4, 4, 4, 4, 6, 3, 4, 4, 4, 4]
def q_sby : List (List Int32) := [[100, 105, 118, 101, 114], [108, 101, 97, 107], [114, 97, 116, 101], [104, 111, 111, 107], [104, 111, 117, 114], [104, 101, 105, 103, 104, 116], [97, 105, 114], [119, 97, 114, 109], [100, 114, 97, 103], [115, 97, 108, 116], [114, 105, 110, 103]]
def q_Xs (E : q_E) (A : Nat → Prop) (U : State) (H : Heap) : Prop :=
  va_Z "java/lang/String" "COMPACT_STRINGS" "Z" (.int 1) A U H ∧
  (va_Z "jdk/internal/util/Preconditions" "SIOOBE_FORMATTER" "Ljava/util/function/BiFunction;" .null A U H ∨ va_Z "jdk/internal/util/Preconditions" "SIOOBE_FORMATTER" "Ljava/util/function/BiFunction;" (.ref (q_aS E 300)) A U H) ∧
  vk_S 11 q_strl q_sby (fun i => q_aS E (100 + i)) (fun i => q_aS E (200 + i)) A U H ∧ ∀ i, i < 11 → vk_R "DiverBottle$Reader" (q_six i) (q_stx i) (q_aS E (100 + i)) U
theorem q_Xs.kept {E : q_E} {A : Nat → Prop} {U : State} {H H1 : Heap} (h : q_Xs E A U H) (hq : ∀ a : Nat, a < H.size → ¬ A a → H1[a]? = H[a]?) : q_Xs E A U H1 :=
  ⟨h.1.kept hq, h.2.1.imp (fun z => z.kept hq) (fun z => z.kept hq), h.2.2.1.kept hq, h.2.2.2⟩
theorem q_Xs.narrow {E : q_E} {A B : Nat → Prop} {U : State} {H : Heap} (h : q_Xs E A U H) (hAB : ∀ q, B q → A q) : q_Xs E B U H :=
  ⟨h.1.narrow hAB, h.2.1.imp (fun z => z.narrow hAB) (fun z => z.narrow hAB), h.2.2.1.narrow hAB, h.2.2.2⟩
theorem q_Xs.warm {E : q_E} {A : Nat → Prop} {s U : State} {H : Heap} (hW : s.WarmedH U.vm) (h : q_Xs E A s H) : q_Xs E A U H :=
  ⟨h.1.moved hW.alike, h.2.1.imp (fun z => z.moved hW.alike) (fun z => z.moved hW.alike), h.2.2.1.moved hW.alike, fun i hi => (h.2.2.2 i hi).warm hW⟩
theorem q_Xs.same {E : q_E} {A : Nat → Prop} {s U : State} {H : Heap} (hv : s.vm = U.vm) (h : q_Xs E A s H) : q_Xs E A U H :=
  ⟨h.1.moved (hv ▸ Vm.Alike.refl s.vm), h.2.1.imp (fun z => z.moved (hv ▸ Vm.Alike.refl s.vm)) (fun z => z.moved (hv ▸ Vm.Alike.refl s.vm)), h.2.2.1.moved (hv ▸ Vm.Alike.refl s.vm), fun i hi => (h.2.2.2 i hi).same hv.symm⟩
def q_X (E : q_E) (A : Nat → Prop) (U : State) (H : Heap) : Prop :=
  (∀ j, 1 ≤ j → j ≤ 3 → va_T .int (q_aS E j) 7 (fun k => .int (q_tab j k)) A U H ∧ va_Z "DiverBottle" (q_nm j) "[I" (.ref (q_aS E j)) A U H) ∧
  va_T .int (q_aS E 0) (q_L E) (fun k => .int (q_xs E k)) A U H ∧ (∀ w ∈ q_N, va_Nw w U) ∧
  ((va_AO "DiverBottle$Diver" U ∧ va_AO "DiverBottle$Scene" U ∧ va_AO "DiverBottle$Sheet" U) ∧ q_Xs E A U H)
theorem q_X.kept {E : q_E} {A : Nat → Prop} {U : State} {H H1 : Heap} (h : q_X E A U H) (hq : ∀ a : Nat, a < H.size → ¬ A a → H1[a]? = H[a]?) : q_X E A U H1 :=
  ⟨fun j h1 h2 => ⟨(h.1 j h1 h2).1.kept hq, (h.1 j h1 h2).2.kept hq⟩, h.2.1.kept hq, h.2.2.1, h.2.2.2.1, h.2.2.2.2.kept hq⟩
theorem q_X.narrow {E : q_E} {A B : Nat → Prop} {U : State} {H : Heap} (h : q_X E A U H) (hAB : ∀ q, B q → A q) : q_X E B U H :=
  ⟨fun j h1 h2 => ⟨(h.1 j h1 h2).1.narrow hAB, (h.1 j h1 h2).2.narrow hAB⟩, h.2.1.narrow hAB, h.2.2.1, h.2.2.2.1, h.2.2.2.2.narrow hAB⟩
theorem q_Nw_warm {w : Cond} (hw : q_nest w = true) {s U : State} (hW : s.WarmedH U.vm) (h : va_Nw w s) : va_Nw w U := by
  cases w <;> first | exact va_Nw.warmF hW h | exact va_Nw.warmM hW h | cases hw
theorem q_Nw_same {w : Cond} (hw : q_nest w = true) {s U : State} (hv : s.vm = U.vm) (h : va_Nw w s) : va_Nw w U := by
  cases w <;> first | exact va_Nw.same rfl hv h | cases hw
theorem q_X.warm {E : q_E} {A : Nat → Prop} {s U : State} {H : Heap} (hW : s.WarmedH U.vm) (h : q_X E A s H) : q_X E A U H :=
  ⟨fun j h1 h2 => ⟨(h.1 j h1 h2).1.moved hW.alike, (h.1 j h1 h2).2.moved hW.alike⟩, h.2.1.moved hW.alike, fun w hw => q_Nw_warm (List.mem_filter.mp hw).2 hW (h.2.2.1 w hw), ⟨va_AO.moved hW.alike h.2.2.2.1.1, va_AO.moved hW.alike h.2.2.2.1.2.1, va_AO.moved hW.alike h.2.2.2.1.2.2⟩, h.2.2.2.2.warm hW⟩
theorem q_X.same {E : q_E} {A : Nat → Prop} {s U : State} {H : Heap} (hv : s.vm = U.vm) (h : q_X E A s H) : q_X E A U H :=
  ⟨fun j h1 h2 => ⟨(h.1 j h1 h2).1.moved (hv ▸ Vm.Alike.refl s.vm), (h.1 j h1 h2).2.moved (hv ▸ Vm.Alike.refl s.vm)⟩, h.2.1.moved (hv ▸ Vm.Alike.refl s.vm), fun w hw => q_Nw_same (List.mem_filter.mp hw).2 hv (h.2.2.1 w hw), ⟨va_AO.moved (hv ▸ Vm.Alike.refl s.vm) h.2.2.2.1.1, va_AO.moved (hv ▸ Vm.Alike.refl s.vm) h.2.2.2.1.2.1, va_AO.moved (hv ▸ Vm.Alike.refl s.vm) h.2.2.2.1.2.2⟩, h.2.2.2.2.same hv⟩
/-- the machine around a method that runs -/
def q_Cx (Y : q_Y) (E : q_E) (p : Program) (s : State) (m : MethodId) (args : Array Value) (meth : Method) (c : Code) (A : Nat → Prop) : Prop :=
  p.tables.exec = Jvm.exec ∧ c.code = q_cc Y ∧ c.maxLocals = q_mx Y ∧ s.vm.findClass (q_y Y).cls = some m.cls ∧ (∀ w ∈ q_ws Y, w.before args s = true) ∧ q_K E s ∧ q_X E A s s.heap ∧ (∀ q, s.heap.size ≤ q → A q) ∧ (∀ q, A q → q_h0 E ≤ q) ∧ ((q_y Y).name = "<init>" → meth.name = "<init>")
def q_Wd (Y : q_Y) (E : q_E) (u v : Nat) (sh : List q_S) (σ : q_M) (A : Nat → Prop) (s : State) (H : Heap) (locs : List Loc) : Prop :=
  va_P (q_D E) q_cls (q_w E sh σ) H ∧ va_D A (q_w E sh σ) ∧ va_S A s.heap H locs ∧ (s.heap.size + u = q_h0 E + sh.length ∧ q_h0 E ≤ s.heap.size) ∧ sh.length ≤ 1000000 ∧ u ≤ (q_rm Y).cells ∧ v ≤ (q_rm Y).slots
def q_Fn (Y : q_Y) (E : q_E) (p : Program) (l : Launch) (e : Env) (s : State) (m : MethodId) (args : Array Value) (below : List Frame) (meth : Method) (c : Code) (A : Nat → Prop) (Z : State → Prop) (Q : q_P) : Prop :=
  ∀ (r : Option Int32) (u v : Nat) (sh : List q_S) (σ : q_M) (H : Heap) (locs : List Loc) (lsA : Array Slot) (pc : Nat), Q r sh σ → q_Wd Y E u v sh σ A s H locs → (u = (q_rm Y).cells ∨ (q_y Y).cls = "DiverBottleLaw") →
    (match r with
      | none => q_rt Y = none ∧ decode (q_cc Y) pc = .ok (.return_, 1)
      | some x => (∃ ty, q_rt Y = some ty ∧ narrow ty (.int x) = .int x) ∧ decode (q_cc Y) pc = .ok (.ireturn, 1)) →
    W p l e (q_rm Y) s m args below meth c H locs u v Z (F0 m pc lsA (r.toList.map Value.int))
def q_G (Y : q_Y) (E : q_E) (u v : Nat) (pc : Nat) (ls : List (Option Value)) (st : List Value) (sh : List q_S) (σ : q_M) (Q : q_P) : Prop :=
  ∀ (p : Program) (l : Launch) (e : Env) (s : State) (m : MethodId) (args : Array Value) (below : List Frame) (meth : Method) (c : Code) (A : Nat → Prop) (Z : State → Prop) (H : Heap) (locs : List Loc) (lsA : Array Slot),
    q_Cx Y E p s m args meth c A → q_Fn Y E p l e s m args below meth c A Z Q → q_Wd Y E u v sh σ A s H locs → q_ls E lsA (q_mx Y) ls →
    W p l e (q_rm Y) s m args below meth c H locs u v Z (F0 m pc lsA (st.map (q_v E)))
section QG
variable {Y : q_Y} {E : q_E} {u v pc : Nat} {ls : List (Option Value)} {st : List Value} {sh : List q_S} {σ : q_M} {Q : q_P}
theorem q_iret {x : Int32} (hd : decode (q_cc Y) pc = .ok (.ireturn, 1)) (hq : Q (some x) sh σ) (hn : ∃ ty, q_rt Y = some ty ∧ narrow ty (.int x) = .int x) (hu : u = (q_rm Y).cells ∨ (q_y Y).cls = "DiverBottleLaw") : q_G Y E u v pc ls [.int x] sh σ Q :=
  fun _ _ _ _ _ _ _ _ _ _ _ _ _ _ _ hF hW _ => hF (some x) u v sh σ _ _ _ pc hq hW hu ⟨hn, hd⟩
theorem q_vret (hd : decode (q_cc Y) pc = .ok (.return_, 1)) (hq : Q none sh σ) (hn : q_rt Y = none) (hu : u = (q_rm Y).cells) : q_G Y E u v pc ls [] sh σ Q :=
  fun _ _ _ _ _ _ _ _ _ _ _ _ _ _ _ hF hW _ => hF none u v sh σ _ _ _ pc hq hW (Or.inl hu) ⟨hn, hd⟩
theorem q_lsub {ls' : List (Option Value)} (hs : ∀ (k : Nat) (w : Value), ls'[k]? = some (some w) → ls[k]? = some (some w)) (k : q_G Y E u v pc ls' st sh σ Q) : q_G Y E u v pc ls st sh σ Q :=
  fun p l e s m args below meth c A Z H locs lsA hC hF hW hl => k p l e s m args below meth c A Z H locs lsA hC hF hW (q_ls_sub hl hs)
theorem q_weak {Q' : q_P} (hs : ∀ r a b, Q' r a b → Q r a b) (k : q_G Y E u v pc ls st sh σ Q') : q_G Y E u v pc ls st sh σ Q :=
  fun p l e s m args below meth c A Z H locs lsA hC hF hW hl => k p l e s m args below meth c A Z H locs lsA hC (fun r u v sh σ H locs lsA pc hq hW hu hd => hF r u v sh σ H locs lsA pc (hs _ _ _ hq) hW hu hd) hW hl
-- constants
theorem q_iconst {n : Int} {x : Int32} (hd : decode (q_cc Y) pc = .ok (.iconst n, 1)) (hx : Int32.ofInt n = x) (k : q_G Y E u v (pc + 1) ls (.int x :: st) sh σ Q) : q_G Y E u v pc ls st sh σ Q :=
  fun p l e s m args below meth c A Z H locs lsA hC hF hW hl => lv_iconst hC.1 hC.2.1 hd hx (k p l e s m args below meth c A Z H locs lsA hC hF hW hl)
theorem q_bipush {n : Int} {x : Int32} (hd : decode (q_cc Y) pc = .ok (.bipush n, 2)) (hx : (Int8.ofInt n).toInt32 = x) (k : q_G Y E u v (pc + 2) ls (.int x :: st) sh σ Q) : q_G Y E u v pc ls st sh σ Q :=
  fun p l e s m args below meth c A Z H locs lsA hC hF hW hl => lv_bipush hC.1 hC.2.1 hd hx (k p l e s m args below meth c A Z H locs lsA hC hF hW hl)
theorem q_sipush {n : Int} {x : Int32} (hd : decode (q_cc Y) pc = .ok (.sipush n, 3)) (hx : (Int16.ofInt n).toInt32 = x) (k : q_G Y E u v (pc + 3) ls (.int x :: st) sh σ Q) : q_G Y E u v pc ls st sh σ Q :=
  fun p l e s m args below meth c A Z H locs lsA hC hF hW hl => lv_sipush hC.1 hC.2.1 hd hx (k p l e s m args below meth c A Z H locs lsA hC hF hW hl)
theorem q_lconst {n : Fin 2} {x : Int64} (hd : decode (q_cc Y) pc = .ok (.lconst n, 1)) (hx : Int64.ofNat (n : Nat) = x) (k : q_G Y E u v (pc + 1) ls (.long x :: st) sh σ Q) : q_G Y E u v pc ls st sh σ Q :=
  fun p l e s m args below meth c A Z H locs lsA hC hF hW hl => lv_lconst hC.1 hC.2.1 hd hx (k p l e s m args below meth c A Z H locs lsA hC hF hW hl)
theorem q_ldc {i : Nat} {x : Int32} (hw : Cond.constant (q_y Y).cls i x ∈ q_T) (hd : decode (q_cc Y) pc = .ok (.ldc i, 2)) (k : q_G Y E u v (pc + 2) ls (.int x :: st) sh σ Q) : q_G Y E u v pc ls st sh σ Q :=
  fun p l e s m args below meth c A Z H locs lsA hC hF hW hl => lv_ldc hC.1 hC.2.1 hC.2.2.2.1 (hC.2.2.2.2.1 _ (List.mem_cons_of_mem _ hw)) hd (k p l e s m args below meth c A Z H locs lsA hC hF hW hl)
theorem q_ldc2 {i : Nat} {x : Int64} (hw : Cond.constantLong (q_y Y).cls i x ∈ q_T) (hd : decode (q_cc Y) pc = .ok (.ldc2_w i, 3)) (k : q_G Y E u v (pc + 3) ls (.long x :: st) sh σ Q) : q_G Y E u v pc ls st sh σ Q :=
  fun p l e s m args below meth c A Z H locs lsA hC hF hW hl => lv_ldc2 hC.1 hC.2.1 hC.2.2.2.1 (hC.2.2.2.2.1 _ (List.mem_cons_of_mem _ hw)) hd (k p l e s m args below meth c A Z H locs lsA hC hF hW hl)
-- locals
theorem q_iload_n {n : Fin 4} {x : Int32} (hd : decode (q_cc Y) pc = .ok (.iload_n n, 1)) (hl0 : ls[(n : Nat)]? = some (some (.int x))) (k : q_G Y E u v (pc + 1) ls (.int x :: st) sh σ Q) : q_G Y E u v pc ls st sh σ Q :=
  fun p l e s m args below meth c A Z H locs lsA hC hF hW hl => lv_iload_n hC.1 hC.2.1 hd rfl (q_ls_at hl hl0) (k p l e s m args below meth c A Z H locs lsA hC hF hW hl)
theorem q_iload {n : Nat} {x : Int32} (hd : decode (q_cc Y) pc = .ok (.iload n, 2)) (hl0 : ls[n]? = some (some (.int x))) (k : q_G Y E u v (pc + 2) ls (.int x :: st) sh σ Q) : q_G Y E u v pc ls st sh σ Q :=
  fun p l e s m args below meth c A Z H locs lsA hC hF hW hl => lv_iload hC.1 hC.2.1 hd (q_ls_at hl hl0) (k p l e s m args below meth c A Z H locs lsA hC hF hW hl)
theorem q_lload_n {n : Fin 4} {x : Int64} (hd : decode (q_cc Y) pc = .ok (.lload_n n, 1)) (hl0 : ls[(n : Nat)]? = some (some (.long x))) (k : q_G Y E u v (pc + 1) ls (.long x :: st) sh σ Q) : q_G Y E u v pc ls st sh σ Q :=
  fun p l e s m args below meth c A Z H locs lsA hC hF hW hl => lv_lload_n hC.1 hC.2.1 hd rfl (q_ls_at hl hl0) (k p l e s m args below meth c A Z H locs lsA hC hF hW hl)
theorem q_lload {n : Nat} {x : Int64} (hd : decode (q_cc Y) pc = .ok (.lload n, 2)) (hl0 : ls[n]? = some (some (.long x))) (k : q_G Y E u v (pc + 2) ls (.long x :: st) sh σ Q) : q_G Y E u v pc ls st sh σ Q :=
  fun p l e s m args below meth c A Z H locs lsA hC hF hW hl => lv_lload hC.1 hC.2.1 hd (q_ls_at hl hl0) (k p l e s m args below meth c A Z H locs lsA hC hF hW hl)
theorem q_aload_n {n : Fin 4} {x : Nat} (hd : decode (q_cc Y) pc = .ok (.aload_n n, 1)) (hl0 : ls[(n : Nat)]? = some (some (.ref x))) (k : q_G Y E u v (pc + 1) ls (.ref x :: st) sh σ Q) : q_G Y E u v pc ls st sh σ Q :=
  fun p l e s m args below meth c A Z H locs lsA hC hF hW hl => lv_aload_n hC.1 hC.2.1 hd rfl (q_ls_at hl hl0) (k p l e s m args below meth c A Z H locs lsA hC hF hW hl)
theorem q_aload {n : Nat} {x : Nat} (hd : decode (q_cc Y) pc = .ok (.aload n, 2)) (hl0 : ls[n]? = some (some (.ref x))) (k : q_G Y E u v (pc + 2) ls (.ref x :: st) sh σ Q) : q_G Y E u v pc ls st sh σ Q :=
  fun p l e s m args below meth c A Z H locs lsA hC hF hW hl => lv_aload hC.1 hC.2.1 hd (q_ls_at hl hl0) (k p l e s m args below meth c A Z H locs lsA hC hF hW hl)
theorem q_istore_n {n : Fin 4} {x : Int32} {ls' : List (Option Value)} (hd : decode (q_cc Y) pc = .ok (.istore_n n, 1)) (hn : (n : Nat) < q_mx Y) (hs : q_st ls n (.int x) = ls') (k : q_G Y E u v (pc + 1) ls' st sh σ Q) : q_G Y E u v pc ls (.int x :: st) sh σ Q :=
  fun p l e s m args below meth c A Z H locs lsA hC hF hW hl => lv_istore_n hC.1 hC.2.1 hd rfl hl hn rfl (fun lsB hB => k p l e s m args below meth c A Z H locs lsB hC hF hW (hs ▸ q_ls_st (v := .int x) hB))
theorem q_istore {n : Nat} {x : Int32} {ls' : List (Option Value)} (hd : decode (q_cc Y) pc = .ok (.istore n, 2)) (hn : n < q_mx Y) (hs : q_st ls n (.int x) = ls') (k : q_G Y E u v (pc + 2) ls' st sh σ Q) : q_G Y E u v pc ls (.int x :: st) sh σ Q :=
  fun p l e s m args below meth c A Z H locs lsA hC hF hW hl => lv_istore hC.1 hC.2.1 hd hl hn rfl (fun lsB hB => k p l e s m args below meth c A Z H locs lsB hC hF hW (hs ▸ q_ls_st (v := .int x) hB))
theorem q_astore_n {n : Fin 4} {x : Nat} {ls' : List (Option Value)} (hd : decode (q_cc Y) pc = .ok (.astore_n n, 1)) (hn : (n : Nat) < q_mx Y) (hs : q_st ls n (.ref x) = ls') (k : q_G Y E u v (pc + 1) ls' st sh σ Q) : q_G Y E u v pc ls (.ref x :: st) sh σ Q :=
  fun p l e s m args below meth c A Z H locs lsA hC hF hW hl => lv_astore_n hC.1 hC.2.1 hd rfl hl hn rfl (fun lsB hB => k p l e s m args below meth c A Z H locs lsB hC hF hW (hs ▸ q_ls_st (v := .ref x) hB))
theorem q_astore {n : Nat} {x : Nat} {ls' : List (Option Value)} (hd : decode (q_cc Y) pc = .ok (.astore n, 2)) (hn : n < q_mx Y) (hs : q_st ls n (.ref x) = ls') (k : q_G Y E u v (pc + 2) ls' st sh σ Q) : q_G Y E u v pc ls (.ref x :: st) sh σ Q :=
  fun p l e s m args below meth c A Z H locs lsA hC hF hW hl => lv_astore hC.1 hC.2.1 hd hl hn rfl (fun lsB hB => k p l e s m args below meth c A Z H locs lsB hC hF hW (hs ▸ q_ls_st (v := .ref x) hB))
theorem q_lstore {n : Nat} {x : Int64} {ls' : List (Option Value)} (hd : decode (q_cc Y) pc = .ok (.lstore n, 2)) (hn : n + 1 < q_mx Y) (hs : q_st2 ls n (.long x) = ls') (k : q_G Y E u v (pc + 2) ls' st sh σ Q) : q_G Y E u v pc ls (.long x :: st) sh σ Q :=
  fun p l e s m args below meth c A Z H locs lsA hC hF hW hl => lv_lstore hC.1 hC.2.1 hd hl hn rfl (fun lsB hB => k p l e s m args below meth c A Z H locs lsB hC hF hW (hs ▸ q_ls_st2 (v := .long x) hB))
theorem q_iinc {n : Nat} {d : Int} {x y : Int32} {ls' : List (Option Value)} (hd : decode (q_cc Y) pc = .ok (.iinc n d, 3)) (hl0 : ls[n]? = some (some (.int x))) (hy : x + Int32.ofInt d = y) (hn : n < q_mx Y) (hs : q_st ls n (.int y) = ls') (k : q_G Y E u v (pc + 3) ls' st sh σ Q) : q_G Y E u v pc ls st sh σ Q := by
  intro p l e s m args below meth c A Z H locs lsA hC hF hW hl
  have hm : (n, Value.int x) ∈ q_en E 0 ls := (q_en_mem ls 0 _).mpr ⟨n, .int x, hl0, by rw [Nat.zero_add]; rfl⟩
  obtain ⟨j, hj⟩ := List.getElem?_of_mem hm
  exact lv_iinc hC.1 hC.2.1 hd hl hj hy hn rfl (fun lsB hB => k p l e s m args below meth c A Z H locs lsB hC hF hW (hs ▸ q_ls_st (v := .int y) hB))
-- arithmetic
theorem q_iadd {x y : Int32} (hd : decode (q_cc Y) pc = .ok (.iadd, 1)) (k : q_G Y E u v (pc + 1) ls (.int (x + y) :: st) sh σ Q) : q_G Y E u v pc ls (.int y :: .int x :: st) sh σ Q :=
  fun p l e s m args below meth c A Z H locs lsA hC hF hW hl => lv_iadd hC.1 hC.2.1 hd (k p l e s m args below meth c A Z H locs lsA hC hF hW hl)
theorem q_isub {x y : Int32} (hd : decode (q_cc Y) pc = .ok (.isub, 1)) (k : q_G Y E u v (pc + 1) ls (.int (x - y) :: st) sh σ Q) : q_G Y E u v pc ls (.int y :: .int x :: st) sh σ Q :=
  fun p l e s m args below meth c A Z H locs lsA hC hF hW hl => lv_isub hC.1 hC.2.1 hd (k p l e s m args below meth c A Z H locs lsA hC hF hW hl)
theorem q_imul {x y : Int32} (hd : decode (q_cc Y) pc = .ok (.imul, 1)) (k : q_G Y E u v (pc + 1) ls (.int (x * y) :: st) sh σ Q) : q_G Y E u v pc ls (.int y :: .int x :: st) sh σ Q :=
  fun p l e s m args below meth c A Z H locs lsA hC hF hW hl => lv_imul hC.1 hC.2.1 hd (k p l e s m args below meth c A Z H locs lsA hC hF hW hl)
theorem q_iand {x y : Int32} (hd : decode (q_cc Y) pc = .ok (.iand, 1)) (k : q_G Y E u v (pc + 1) ls (.int (x &&& y) :: st) sh σ Q) : q_G Y E u v pc ls (.int y :: .int x :: st) sh σ Q :=
  fun p l e s m args below meth c A Z H locs lsA hC hF hW hl => lv_iand hC.1 hC.2.1 hd (k p l e s m args below meth c A Z H locs lsA hC hF hW hl)
theorem q_ior {x y : Int32} (hd : decode (q_cc Y) pc = .ok (.ior, 1)) (k : q_G Y E u v (pc + 1) ls (.int (x ||| y) :: st) sh σ Q) : q_G Y E u v pc ls (.int y :: .int x :: st) sh σ Q :=
  fun p l e s m args below meth c A Z H locs lsA hC hF hW hl => lv_ior hC.1 hC.2.1 hd (k p l e s m args below meth c A Z H locs lsA hC hF hW hl)
theorem q_idiv {x y : Int32} (hne : ¬ y = 0) (hd : decode (q_cc Y) pc = .ok (.idiv, 1)) (k : q_G Y E u v (pc + 1) ls (.int (x / y) :: st) sh σ Q) : q_G Y E u v pc ls (.int y :: .int x :: st) sh σ Q :=
  fun p l e s m args below meth c A Z H locs lsA hC hF hW hl => lv_idiv hC.1 hC.2.1 hd hne (k p l e s m args below meth c A Z H locs lsA hC hF hW hl)
theorem q_irem {x y : Int32} (hne : ¬ y = 0) (hd : decode (q_cc Y) pc = .ok (.irem, 1)) (k : q_G Y E u v (pc + 1) ls (.int (x - x / y * y) :: st) sh σ Q) : q_G Y E u v pc ls (.int y :: .int x :: st) sh σ Q :=
  fun p l e s m args below meth c A Z H locs lsA hC hF hW hl => lv_irem hC.1 hC.2.1 hd hne (k p l e s m args below meth c A Z H locs lsA hC hF hW hl)
theorem q_ixor {x y : Int32} (hd : decode (q_cc Y) pc = .ok (.ixor, 1)) (k : q_G Y E u v (pc + 1) ls (.int (x ^^^ y) :: st) sh σ Q) : q_G Y E u v pc ls (.int y :: .int x :: st) sh σ Q :=
  fun p l e s m args below meth c A Z H locs lsA hC hF hW hl => lv_ixor hC.1 hC.2.1 hd (k p l e s m args below meth c A Z H locs lsA hC hF hW hl)
theorem q_ineg {x : Int32} (hd : decode (q_cc Y) pc = .ok (.ineg, 1)) (k : q_G Y E u v (pc + 1) ls (.int (-x) :: st) sh σ Q) : q_G Y E u v pc ls (.int x :: st) sh σ Q :=
  fun p l e s m args below meth c A Z H locs lsA hC hF hW hl => lv_ineg hC.1 hC.2.1 hd (k p l e s m args below meth c A Z H locs lsA hC hF hW hl)
theorem q_ishl {x y : Int32} (hd : decode (q_cc Y) pc = .ok (.ishl, 1)) (k : q_G Y E u v (pc + 1) ls (.int (x <<< (y &&& 31)) :: st) sh σ Q) : q_G Y E u v pc ls (.int y :: .int x :: st) sh σ Q :=
  fun p l e s m args below meth c A Z H locs lsA hC hF hW hl => lv_ishl hC.1 hC.2.1 hd (k p l e s m args below meth c A Z H locs lsA hC hF hW hl)
theorem q_ishr {x y : Int32} (hd : decode (q_cc Y) pc = .ok (.ishr, 1)) (k : q_G Y E u v (pc + 1) ls (.int (x >>> (y &&& 31)) :: st) sh σ Q) : q_G Y E u v pc ls (.int y :: .int x :: st) sh σ Q :=
  fun p l e s m args below meth c A Z H locs lsA hC hF hW hl => lv_ishr hC.1 hC.2.1 hd (k p l e s m args below meth c A Z H locs lsA hC hF hW hl)
theorem q_ladd {x y : Int64} (hd : decode (q_cc Y) pc = .ok (.ladd, 1)) (k : q_G Y E u v (pc + 1) ls (.long (x + y) :: st) sh σ Q) : q_G Y E u v pc ls (.long y :: .long x :: st) sh σ Q :=
  fun p l e s m args below meth c A Z H locs lsA hC hF hW hl => lv_ladd hC.1 hC.2.1 hd (k p l e s m args below meth c A Z H locs lsA hC hF hW hl)
theorem q_land {x y : Int64} (hd : decode (q_cc Y) pc = .ok (.land, 1)) (k : q_G Y E u v (pc + 1) ls (.long (x &&& y) :: st) sh σ Q) : q_G Y E u v pc ls (.long y :: .long x :: st) sh σ Q :=
  fun p l e s m args below meth c A Z H locs lsA hC hF hW hl => lv_land hC.1 hC.2.1 hd (k p l e s m args below meth c A Z H locs lsA hC hF hW hl)
theorem q_lor {x y : Int64} (hd : decode (q_cc Y) pc = .ok (.lor, 1)) (k : q_G Y E u v (pc + 1) ls (.long (x ||| y) :: st) sh σ Q) : q_G Y E u v pc ls (.long y :: .long x :: st) sh σ Q :=
  fun p l e s m args below meth c A Z H locs lsA hC hF hW hl => lv_lor hC.1 hC.2.1 hd (k p l e s m args below meth c A Z H locs lsA hC hF hW hl)
theorem q_lshl {x : Int64} {y : Int32} (hd : decode (q_cc Y) pc = .ok (.lshl, 1)) (k : q_G Y E u v (pc + 1) ls (.long (x <<< (y.toInt64 &&& 63)) :: st) sh σ Q) : q_G Y E u v pc ls (.int y :: .long x :: st) sh σ Q :=
  fun p l e s m args below meth c A Z H locs lsA hC hF hW hl => lv_lshl hC.1 hC.2.1 hd rfl (k p l e s m args below meth c A Z H locs lsA hC hF hW hl)
theorem q_lshr {x : Int64} {y : Int32} (hd : decode (q_cc Y) pc = .ok (.lshr, 1)) (k : q_G Y E u v (pc + 1) ls (.long (x >>> (y.toInt64 &&& 63)) :: st) sh σ Q) : q_G Y E u v pc ls (.int y :: .long x :: st) sh σ Q :=
  fun p l e s m args below meth c A Z H locs lsA hC hF hW hl => lv_lshr hC.1 hC.2.1 hd rfl (k p l e s m args below meth c A Z H locs lsA hC hF hW hl)
theorem q_i2l {x : Int32} (hd : decode (q_cc Y) pc = .ok (.i2l, 1)) (k : q_G Y E u v (pc + 1) ls (.long x.toInt64 :: st) sh σ Q) : q_G Y E u v pc ls (.int x :: st) sh σ Q :=
  fun p l e s m args below meth c A Z H locs lsA hC hF hW hl => lv_i2l hC.1 hC.2.1 hd rfl (k p l e s m args below meth c A Z H locs lsA hC hF hW hl)
theorem q_l2i {x : Int64} (hd : decode (q_cc Y) pc = .ok (.l2i, 1)) (k : q_G Y E u v (pc + 1) ls (.int x.toInt32 :: st) sh σ Q) : q_G Y E u v pc ls (.long x :: st) sh σ Q :=
  fun p l e s m args below meth c A Z H locs lsA hC hF hW hl => lv_l2i hC.1 hC.2.1 hd rfl (k p l e s m args below meth c A Z H locs lsA hC hF hW hl)
theorem q_i2b {x : Int32} (hd : decode (q_cc Y) pc = .ok (.i2b, 1)) (k : q_G Y E u v (pc + 1) ls (.int x.toInt8.toInt32 :: st) sh σ Q) : q_G Y E u v pc ls (.int x :: st) sh σ Q :=
  fun p l e s m args below meth c A Z H locs lsA hC hF hW hl => lv_i2b hC.1 hC.2.1 hd rfl (k p l e s m args below meth c A Z H locs lsA hC hF hW hl)
theorem q_i2s {x : Int32} (hd : decode (q_cc Y) pc = .ok (.i2s, 1)) (k : q_G Y E u v (pc + 1) ls (.int x.toInt16.toInt32 :: st) sh σ Q) : q_G Y E u v pc ls (.int x :: st) sh σ Q :=
  fun p l e s m args below meth c A Z H locs lsA hC hF hW hl => lv_i2s hC.1 hC.2.1 hd rfl (k p l e s m args below meth c A Z H locs lsA hC hF hW hl)
theorem q_lcmp {x y : Int64} (hd : decode (q_cc Y) pc = .ok (.lcmp, 1)) (k : q_G Y E u v (pc + 1) ls (.int (lg_cmp x y) :: st) sh σ Q) : q_G Y E u v pc ls (.long y :: .long x :: st) sh σ Q :=
  fun p l e s m args below meth c A Z H locs lsA hC hF hW hl => W.lcmp hC.1 hC.2.1 hd (k p l e s m args below meth c A Z H locs lsA hC hF hW hl)
-- the stack
theorem q_dup {w : Value} (hw : w.category = 1) (hd : decode (q_cc Y) pc = .ok (.dup, 1)) (k : q_G Y E u v (pc + 1) ls (w :: w :: st) sh σ Q) : q_G Y E u v pc ls (w :: st) sh σ Q :=
  fun p l e s m args below meth c A Z H locs lsA hC hF hW hl => lv_dup hC.1 hC.2.1 hd (by rw [q_v_cat]; exact hw) (k p l e s m args below meth c A Z H locs lsA hC hF hW hl)
theorem q_pop {w : Value} (hw : w.category = 1) (hd : decode (q_cc Y) pc = .ok (.pop, 1)) (k : q_G Y E u v (pc + 1) ls st sh σ Q) : q_G Y E u v pc ls (w :: st) sh σ Q :=
  fun p l e s m args below meth c A Z H locs lsA hC hF hW hl => lv_pop hC.1 hC.2.1 hd (by rw [q_v_cat]; exact hw) (k p l e s m args below meth c A Z H locs lsA hC hF hW hl)
theorem q_dup2 {w w2 : Value} (hw : w.category = 1) (hw2 : w2.category = 1) (hd : decode (q_cc Y) pc = .ok (.dup2, 1)) (k : q_G Y E u v (pc + 1) ls (w :: w2 :: w :: w2 :: st) sh σ Q) : q_G Y E u v pc ls (w :: w2 :: st) sh σ Q :=
  fun p l e s m args below meth c A Z H locs lsA hC hF hW hl => lv_dup2_11 hC.1 hC.2.1 hd (by rw [q_v_cat]; exact hw) (by rw [q_v_cat]; exact hw2) (k p l e s m args below meth c A Z H locs lsA hC hF hW hl)
-- jumps
theorem q_goto {off : Int} (tgt : Nat) (hd : decode (q_cc Y) pc = .ok (.goto off, 3)) (ht : (pc : Int) + off = (tgt : Int)) (k : q_G Y E u v tgt ls st sh σ Q) : q_G Y E u v pc ls st sh σ Q :=
  fun p l e s m args below meth c A Z H locs lsA hC hF hW hl => lv_goto hC.1 hC.2.1 hd ht (k p l e s m args below meth c A Z H locs lsA hC hF hW hl)
theorem q_if_eq {x : Int32} {off : Int} (tgt : Nat) (hd : decode (q_cc Y) pc = .ok (.ifCond .eq off, 3)) (ht : (pc : Int) + off = (tgt : Int)) (kt : x = 0 → q_G Y E u v tgt ls st sh σ Q) (kf : ¬ x = 0 → q_G Y E u v (pc + 3) ls st sh σ Q) : q_G Y E u v pc ls (.int x :: st) sh σ Q :=
  fun p l e s m args below meth c A Z H locs lsA hC hF hW hl => lv_if_eq hC.1 hC.2.1 hd ht (fun h => kt h p l e s m args below meth c A Z H locs lsA hC hF hW hl) (fun h => kf h p l e s m args below meth c A Z H locs lsA hC hF hW hl)
theorem q_icmp_eq {x y : Int32} {off : Int} (tgt : Nat) (hd : decode (q_cc Y) pc = .ok (.if_icmp .eq off, 3)) (ht : (pc : Int) + off = (tgt : Int)) (kt : x = y → q_G Y E u v tgt ls st sh σ Q) (kf : ¬ x = y → q_G Y E u v (pc + 3) ls st sh σ Q) : q_G Y E u v pc ls (.int y :: .int x :: st) sh σ Q :=
  fun p l e s m args below meth c A Z H locs lsA hC hF hW hl => lv_icmp_eq hC.1 hC.2.1 hd ht (fun h => kt h p l e s m args below meth c A Z H locs lsA hC hF hW hl) (fun h => kf h p l e s m args below meth c A Z H locs lsA hC hF hW hl)
theorem q_if_ne {x : Int32} {off : Int} (tgt : Nat) (hd : decode (q_cc Y) pc = .ok (.ifCond .ne off, 3)) (ht : (pc : Int) + off = (tgt : Int)) (kt : ¬ x = 0 → q_G Y E u v tgt ls st sh σ Q) (kf : x = 0 → q_G Y E u v (pc + 3) ls st sh σ Q) : q_G Y E u v pc ls (.int x :: st) sh σ Q :=
  fun p l e s m args below meth c A Z H locs lsA hC hF hW hl => lv_if_ne hC.1 hC.2.1 hd ht (fun h => kt h p l e s m args below meth c A Z H locs lsA hC hF hW hl) (fun h => kf h p l e s m args below meth c A Z H locs lsA hC hF hW hl)
theorem q_icmp_ne {x y : Int32} {off : Int} (tgt : Nat) (hd : decode (q_cc Y) pc = .ok (.if_icmp .ne off, 3)) (ht : (pc : Int) + off = (tgt : Int)) (kt : ¬ x = y → q_G Y E u v tgt ls st sh σ Q) (kf : x = y → q_G Y E u v (pc + 3) ls st sh σ Q) : q_G Y E u v pc ls (.int y :: .int x :: st) sh σ Q :=
  fun p l e s m args below meth c A Z H locs lsA hC hF hW hl => lv_icmp_ne hC.1 hC.2.1 hd ht (fun h => kt h p l e s m args below meth c A Z H locs lsA hC hF hW hl) (fun h => kf h p l e s m args below meth c A Z H locs lsA hC hF hW hl)
theorem q_if_lt {x : Int32} {off : Int} (tgt : Nat) (hd : decode (q_cc Y) pc = .ok (.ifCond .lt off, 3)) (ht : (pc : Int) + off = (tgt : Int)) (kt : x < 0 → q_G Y E u v tgt ls st sh σ Q) (kf : ¬ x < 0 → q_G Y E u v (pc + 3) ls st sh σ Q) : q_G Y E u v pc ls (.int x :: st) sh σ Q :=
  fun p l e s m args below meth c A Z H locs lsA hC hF hW hl => lv_if_lt hC.1 hC.2.1 hd ht (fun h => kt h p l e s m args below meth c A Z H locs lsA hC hF hW hl) (fun h => kf h p l e s m args below meth c A Z H locs lsA hC hF hW hl)
theorem q_icmp_lt {x y : Int32} {off : Int} (tgt : Nat) (hd : decode (q_cc Y) pc = .ok (.if_icmp .lt off, 3)) (ht : (pc : Int) + off = (tgt : Int)) (kt : x < y → q_G Y E u v tgt ls st sh σ Q) (kf : ¬ x < y → q_G Y E u v (pc + 3) ls st sh σ Q) : q_G Y E u v pc ls (.int y :: .int x :: st) sh σ Q :=
  fun p l e s m args below meth c A Z H locs lsA hC hF hW hl => lv_icmp_lt hC.1 hC.2.1 hd ht (fun h => kt h p l e s m args below meth c A Z H locs lsA hC hF hW hl) (fun h => kf h p l e s m args below meth c A Z H locs lsA hC hF hW hl)
theorem q_if_ge {x : Int32} {off : Int} (tgt : Nat) (hd : decode (q_cc Y) pc = .ok (.ifCond .ge off, 3)) (ht : (pc : Int) + off = (tgt : Int)) (kt : 0 ≤ x → q_G Y E u v tgt ls st sh σ Q) (kf : ¬ 0 ≤ x → q_G Y E u v (pc + 3) ls st sh σ Q) : q_G Y E u v pc ls (.int x :: st) sh σ Q :=
  fun p l e s m args below meth c A Z H locs lsA hC hF hW hl => lv_if_ge hC.1 hC.2.1 hd ht (fun h => kt h p l e s m args below meth c A Z H locs lsA hC hF hW hl) (fun h => kf h p l e s m args below meth c A Z H locs lsA hC hF hW hl)
theorem q_icmp_ge {x y : Int32} {off : Int} (tgt : Nat) (hd : decode (q_cc Y) pc = .ok (.if_icmp .ge off, 3)) (ht : (pc : Int) + off = (tgt : Int)) (kt : y ≤ x → q_G Y E u v tgt ls st sh σ Q) (kf : ¬ y ≤ x → q_G Y E u v (pc + 3) ls st sh σ Q) : q_G Y E u v pc ls (.int y :: .int x :: st) sh σ Q :=
  fun p l e s m args below meth c A Z H locs lsA hC hF hW hl => lv_icmp_ge hC.1 hC.2.1 hd ht (fun h => kt h p l e s m args below meth c A Z H locs lsA hC hF hW hl) (fun h => kf h p l e s m args below meth c A Z H locs lsA hC hF hW hl)
theorem q_if_gt {x : Int32} {off : Int} (tgt : Nat) (hd : decode (q_cc Y) pc = .ok (.ifCond .gt off, 3)) (ht : (pc : Int) + off = (tgt : Int)) (kt : 0 < x → q_G Y E u v tgt ls st sh σ Q) (kf : ¬ 0 < x → q_G Y E u v (pc + 3) ls st sh σ Q) : q_G Y E u v pc ls (.int x :: st) sh σ Q :=
  fun p l e s m args below meth c A Z H locs lsA hC hF hW hl => lv_if_gt hC.1 hC.2.1 hd ht (fun h => kt h p l e s m args below meth c A Z H locs lsA hC hF hW hl) (fun h => kf h p l e s m args below meth c A Z H locs lsA hC hF hW hl)
theorem q_icmp_gt {x y : Int32} {off : Int} (tgt : Nat) (hd : decode (q_cc Y) pc = .ok (.if_icmp .gt off, 3)) (ht : (pc : Int) + off = (tgt : Int)) (kt : y < x → q_G Y E u v tgt ls st sh σ Q) (kf : ¬ y < x → q_G Y E u v (pc + 3) ls st sh σ Q) : q_G Y E u v pc ls (.int y :: .int x :: st) sh σ Q :=
  fun p l e s m args below meth c A Z H locs lsA hC hF hW hl => lv_icmp_gt hC.1 hC.2.1 hd ht (fun h => kt h p l e s m args below meth c A Z H locs lsA hC hF hW hl) (fun h => kf h p l e s m args below meth c A Z H locs lsA hC hF hW hl)
theorem q_if_le {x : Int32} {off : Int} (tgt : Nat) (hd : decode (q_cc Y) pc = .ok (.ifCond .le off, 3)) (ht : (pc : Int) + off = (tgt : Int)) (kt : x ≤ 0 → q_G Y E u v tgt ls st sh σ Q) (kf : ¬ x ≤ 0 → q_G Y E u v (pc + 3) ls st sh σ Q) : q_G Y E u v pc ls (.int x :: st) sh σ Q :=
  fun p l e s m args below meth c A Z H locs lsA hC hF hW hl => lv_if_le hC.1 hC.2.1 hd ht (fun h => kt h p l e s m args below meth c A Z H locs lsA hC hF hW hl) (fun h => kf h p l e s m args below meth c A Z H locs lsA hC hF hW hl)
theorem q_icmp_le {x y : Int32} {off : Int} (tgt : Nat) (hd : decode (q_cc Y) pc = .ok (.if_icmp .le off, 3)) (ht : (pc : Int) + off = (tgt : Int)) (kt : x ≤ y → q_G Y E u v tgt ls st sh σ Q) (kf : ¬ x ≤ y → q_G Y E u v (pc + 3) ls st sh σ Q) : q_G Y E u v pc ls (.int y :: .int x :: st) sh σ Q :=
  fun p l e s m args below meth c A Z H locs lsA hC hF hW hl => lv_icmp_le hC.1 hC.2.1 hd ht (fun h => kt h p l e s m args below meth c A Z H locs lsA hC hF hW hl) (fun h => kf h p l e s m args below meth c A Z H locs lsA hC hF hW hl)
theorem q_tabIn {dflt lo hi : Int} {offs : Array Int} {len : Nat} {x : Int32} {off : Int} (tgt : Nat) (hd : decode (q_cc Y) pc = .ok (.tableswitch dflt lo hi offs, len)) (h1 : ¬ x.toInt < lo) (h2 : ¬ hi < x.toInt) (ho : offs[(x.toInt - lo).toNat]? = some off) (ht : (pc : Int) + off = (tgt : Int)) (k : q_G Y E u v tgt ls st sh σ Q) : q_G Y E u v pc ls (.int x :: st) sh σ Q :=
  fun p l e s m args below meth c A Z H locs lsA hC hF hW hl => lv_tableIn hC.1 hC.2.1 hd h1 h2 ho ht (k p l e s m args below meth c A Z H locs lsA hC hF hW hl)
theorem q_tabOut {dflt lo hi : Int} {offs : Array Int} {len : Nat} {x : Int32} (tgt : Nat) (hd : decode (q_cc Y) pc = .ok (.tableswitch dflt lo hi offs, len)) (h : x.toInt < lo ∨ hi < x.toInt) (ht : (pc : Int) + dflt = (tgt : Int)) (k : q_G Y E u v tgt ls st sh σ Q) : q_G Y E u v pc ls (.int x :: st) sh σ Q :=
  fun p l e s m args below meth c A Z H locs lsA hC hF hW hl => lv_tableOut hC.1 hC.2.1 hd h ht (k p l e s m args below meth c A Z H locs lsA hC hF hW hl)
end QG
