/-! the constructors: what p1 says of them, with one list of words; the model's rows of texts keep their class -/
theorem nm_cls {G : va_G} {k : Nat → ClassId} {s : State} {cA c0 : ClassId} (h : va_K G vwCl (KT k ++ [(cA, .object "java/lang/String")]) s) (hn : s.vm.findClass ("[" ++ (FieldType.object "java/lang/String").toString) = some c0) : cA = c0 := by
  obtain ⟨-, kA, comp, -, -, -, h4⟩ := h.2 4 (cA, .object "java/lang/String") rfl
  exact Option.some.inj (h4.symm.trans hn)
def PreXU (G : va_G) (k : Nat → ClassId) (av : List Value) (p0 : Nat) (sz : Nat) (ws : va_W) : Array Value → State → Prop := fun a U => PreX G k av sz ws a U ∧ (∀ i, i < 23 → va_Any "java/lang/String" U U.heap (k (111 + i)) ∧ k (111 + i) ≠ p0) ∧ U.vm.findClass ("[" ++ (FieldType.object "java/lang/String").toString) = some (k 4) ∧ U.vm.findClass ("[" ++ (FieldType.object "java/lang/String").toString) = some (k 5)
abbrev CMvU {S : Type} (l : Launch) (G : va_G) (k : Nat → ClassId) (y : MethodName) (wsy : List Cond) (rm : Room) (av : List Value) (p0 sz : Nat) (wc : va_W) (post : S → Prop) (w1 : S → va_W) : Prop := Met l y wsy rm (PreXU G k av p0 sz wc) (va_Qv post (PostX G (va_A wc sz) w1) (va_A wc sz)) rm.cells rm.slots (va_A wc sz)
abbrev wzX5_init : List Cond := .code yX5_init cX5_init 1 none :: wsL_law
abbrev wzX3_init : List Cond := .code yX3_init cX3_init 1 none :: wsL_law
abbrev wzX4_init : List Cond := .code yX4_init cX4_init 1 none :: wsL_law
abbrev wzX2_init : List Cond := .code yX2_init cX2_init 2 none :: wsL_law
abbrev wzX1_init : List Cond := .code yX1_init cX1_init 1 none :: wsL_law
abbrev wzX6_init : List Cond := .code yX6_init cX6_init 2 none :: wsL_law
abbrev wzX9_init : List Cond := .code yX9_init cX9_init 1 none :: wsL_law
abbrev wzX10_init : List Cond := .code yX10_init cX10_init 1 none :: wsL_law
set_option maxHeartbeats 4000000 in
set_option maxRecDepth 100000 in
theorem cX7_move_0 (l : Launch) (G : va_G) (k : Nat → ClassId) (sz : Nat) : CMi l G k yX7_move wzX7_move ({ frames := 0, cells := 0, slots := 0, locals := 0 }) [.int 268435455, .int 0] sz [] (fun r (u : Unit) => r = 268435455) (fun (u : Unit) => []) := by
  refine Met.ofW (cc := cX7_move) (maxL := 2) (ret := (some .int)) (by decide) rfl ?_
  intro p e s m args below meth c s₁ B hml hv
  obtain ⟨rfl, hsz, hP, hX, hD0, hZ0⟩ := hv
  have hx := B.exec
  have hb := B.bytes
  have hr := B.returns
  have hts := atoms_spec (ws := wzX7_move) B.pre
  have hown : s.vm.findClass RX7 = some m.cls := findClass_of_methodNamed B.named
  subst hsz
  have hD := hD0.self (sz := s.heap.size)
  have hZ := ZX.up hP hZ0
  generalize hAe : va_A [] s.heap.size = A at hD hZ ⊢
  have hA : ∀ q : Nat, s.heap.size ≤ q → A q := fun q h => by rw [← hAe]; exact Or.inr h
  have hS : va_S A s.heap s.heap [] := va_S.rf
  have hP : va_P G vwCl [] s.heap := hP
  have hl := lv_entry ([.int 268435455, .int 0]) (n := 2) (Nat.le_of_ble_eq_true rfl)
  rw [lg_entry_eq]
  generalize (lg_sl ([.int 268435455, .int 0]) ++ List.replicate (2 - (lg_sl ([.int 268435455, .int 0])).length) Slot.unset).toArray = ls at hl ⊢
  have hl : lv_has ls 2 [(0, .int 268435455), (1, .int 0)] := hl
  have h0w := hts (.constant RX7 11 (268435455)) (wz_at 5 12 rfl)
  refine lv_iload_n hx hb dX7_move_0 rfl (lv_at hl 0 rfl) ?_
  refine lv_ldc (v := 268435455) hx hb hown h0w dX7_move_1 ?_
  refine lv_iand hx hb dX7_move_3 ?_
  refine cz_ti (w := 268435455) (by decide +kernel) ?_
  refine lv_iload_n hx hb dX7_move_4 rfl (lv_at hl 1 rfl) ?_
  refine lv_bipush (v := 28) hx hb dX7_move_5 (by decide +kernel) ?_
  refine lv_ishl hx hb dX7_move_7 ?_
  refine cz_ti (w := 0) (by decide +kernel) ?_
  refine lv_ior hx hb dX7_move_8 ?_
  refine cz_ti (w := 268435455) (by decide +kernel) ?_
  have hP9 := hP.sub (ws' := []) [] rfl
  have hD9 := hD.sub (ws' := []) [] (by decide) rfl
  exact W.iret (v := 268435455) hx hb hr (fun t ht hW => ⟨⟨268435455, (), rfl, rfl, by rw [ht]; exact hP9, hD9⟩, hS.F ht⟩) hS.2.2 dX7_move_9

set_option maxHeartbeats 4000000 in
set_option maxRecDepth 100000 in
theorem cX5_clear_0 (l : Launch) (G : va_G) (k : Nat → ClassId) (p0 : Nat) (v1 : Value) (v2 : Value) (v3 : Value) (v4 : Value) (v5 : Value) (sz : Nat) : CMv l G k yX5_clear wzX5_clear ({ frames := 0, cells := 0, slots := 0, locals := 0 }) [.ref p0] sz [(p0, .inr (4, [v1, v2, v3, v4, v5]))] (fun (u : Unit) => True) (fun (u : Unit) => [(p0, .inr (4, [v1, v2, v3, .int 0, .int 0]))]) := by
  refine Met.ofW (cc := cX5_clear) (maxL := 1) (ret := none) (by decide) rfl ?_
  intro p e s m args below meth c s₁ B hml hv
  obtain ⟨rfl, hsz, hP, hX, hD0, hZ0⟩ := hv
  have hx := B.exec
  have hb := B.bytes
  have hr := B.returns
  have hts := atoms_spec (ws := wzX5_clear) B.pre
  have hown : s.vm.findClass RX5 = some m.cls := findClass_of_methodNamed B.named
  subst hsz
  have hD := hD0.self (sz := s.heap.size)
  have hZ := ZX.up hP hZ0
  generalize hAe : va_A [(p0, .inr (4, [v1, v2, v3, v4, v5]))] s.heap.size = A at hD hZ ⊢
  have hA : ∀ q : Nat, s.heap.size ≤ q → A q := fun q h => by rw [← hAe]; exact Or.inr h
  have hS : va_S A s.heap s.heap [] := va_S.rf
  have hP : va_P G vwCl [(p0, .inr (4, [v1, v2, v3, v4, v5]))] s.heap := hP
  have hl := lv_entry ([.ref p0]) (n := 1) (Nat.le_of_ble_eq_true rfl)
  rw [lg_entry_eq]
  generalize (lg_sl ([.ref p0]) ++ List.replicate (1 - (lg_sl ([.ref p0])).length) Slot.unset).toArray = ls at hl ⊢
  have hl : lv_has ls 1 [(0, .ref p0)] := hl
  have h0w := hts (.fieldLink RX5 24 "RopeTown$Rules" "length" "I") (wz_at 2 12 rfl)
  have h1w : ∀ w ∈ wsX50, w ∈ wzX5_clear := fun w h => List.mem_cons_of_mem _ (inlX5 w h)
  have h2w := hts (.fieldLink RX5 28 "RopeTown$Rules" "size" "I") (wz_at 2 13 rfl)
  refine lv_aload_n hx hb dX5_clear_0 rfl (lv_at hl 0 rfl) ?_
  refine lv_iconst (v := 0) hx hb dX5_clear_1 (by decide +kernel) ?_
  refine va_put (D := G) (ci := 4) (v := .int 0) (ty := .int) (C := RX5) (T := TX5) (N := 5) (ref := RX5) hx hb hts h1w tyX5 tyX5_ok nmX5 hown hX.1 hP hD hS 0 rfl rfl 3 (by decide) h0w (fun _ h9 => h9) rfl (by decide +kernel) rfl rfl (Nat.le_of_ble_eq_true rfl) dX5_clear_2 (fun H locs hP hD hS => ?_)
  refine lv_aload_n hx hb dX5_clear_5 rfl (lv_at hl 0 rfl) ?_
  refine lv_iconst (v := 0) hx hb dX5_clear_6 (by decide +kernel) ?_
  refine va_put (D := G) (ci := 4) (v := .int 0) (ty := .int) (C := RX5) (T := TX5) (N := 5) (ref := RX5) hx hb hts h1w tyX5 tyX5_ok nmX5 hown hX.1 hP hD hS 0 rfl rfl 4 (by decide) h2w (fun _ h9 => h9) rfl (by decide +kernel) rfl rfl (Nat.le_of_ble_eq_true rfl) dX5_clear_7 (fun H locs hP hD hS => ?_)
  have hP9 := hP.sub (ws' := [(p0, .inr (4, [v1, v2, v3, .int 0, .int 0]))]) [0] rfl
  have hD9 := hD.sub (ws' := [(p0, .inr (4, [v1, v2, v3, .int 0, .int 0]))]) [0] (by decide) rfl
  exact W.vret hx hb hr (fun t ht hW => ⟨⟨(), rfl, trivial, by rw [ht]; exact hP9, hD9⟩, hS.F ht⟩) hS.2.2 dX5_clear_10

set_option maxHeartbeats 4000000 in
set_option maxRecDepth 100000 in
theorem cX3_clear_0 (l : Launch) (G : va_G) (k : Nat → ClassId) (p0 : Nat) (v1 : Value) (v2 : Value) (v3 : Value) (v4 : Value) (v5 : Value) (v6 : Value) (v7 : Value) (v8 : Value) (v9 : Value) (v10 : Value) (v11 : Value) (v12 : Value) (p13 : Nat) (v14 : Value) (v15 : Value) (v16 : Value) (v17 : Value) (v18 : Value) (v19 : Value) (sz : Nat) : CMv l G k yX3_clear wzX3_clear ({ frames := 1, cells := 0, slots := 0, locals := 20 }) [.ref p0] sz [(p0, .inr (2, [v1, v2, v3, v4, v5, v6, v7, v8, v9, v10, v11, v12, .ref p13, v14])), (p13, .inr (4, [v15, v16, v17, v18, v19]))] (fun (u : Unit) => True) (fun (u : Unit) => [(p0, .inr (2, [.int 1, .int 0, .int 99, .int 0, .int 1, .int 20, .int 0, .int 0, v9, v10, v11, v12, .ref p13, v14])), (p13, .inr (4, [v15, v16, v17, .int 0, .int 0]))]) := by
  refine Met.ofW (cc := cX3_clear) (maxL := 1) (ret := none) (by decide) rfl ?_
  intro p e s m args below meth c s₁ B hml hv
  obtain ⟨rfl, hsz, hP, hX, hD0, hZ0⟩ := hv
  have hx := B.exec
  have hb := B.bytes
  have hr := B.returns
  have hts := atoms_spec (ws := wzX3_clear) B.pre
  have hown : s.vm.findClass RX3 = some m.cls := findClass_of_methodNamed B.named
  subst hsz
  have hD := hD0.self (sz := s.heap.size)
  have hZ := ZX.up hP hZ0
  generalize hAe : va_A [(p0, .inr (2, [v1, v2, v3, v4, v5, v6, v7, v8, v9, v10, v11, v12, .ref p13, v14])), (p13, .inr (4, [v15, v16, v17, v18, v19]))] s.heap.size = A at hD hZ ⊢
  have hA : ∀ q : Nat, s.heap.size ≤ q → A q := fun q h => by rw [← hAe]; exact Or.inr h
  have hS : va_S A s.heap s.heap [] := va_S.rf
  have hP : va_P G vwCl [(p0, .inr (2, [v1, v2, v3, v4, v5, v6, v7, v8, v9, v10, v11, v12, .ref p13, v14])), (p13, .inr (4, [v15, v16, v17, v18, v19]))] s.heap := hP
  have hl := lv_entry ([.ref p0]) (n := 1) (Nat.le_of_ble_eq_true rfl)
  rw [lg_entry_eq]
  generalize (lg_sl ([.ref p0]) ++ List.replicate (1 - (lg_sl ([.ref p0])).length) Slot.unset).toArray = ls at hl ⊢
  have hl : lv_has ls 1 [(0, .ref p0)] := hl
  have h0w := hts (.fieldLink RX3 37 "RopeTown$Plan" "bottom" "I") (wz_at 2 18 rfl)
  have h1w : ∀ w ∈ wsX30, w ∈ wzX3_clear := fun w h => List.mem_cons_of_mem _ (inlX3 w h)
  have h2w := hts (.fieldLink RX3 41 "RopeTown$Plan" "start" "I") (wz_at 2 19 rfl)
  have h3w := hts (.fieldLink RX3 44 "RopeTown$Plan" "cap" "I") (wz_at 2 20 rfl)
  have h4w := hts (.fieldLink RX3 47 "RopeTown$Plan" "rope" "I") (wz_at 2 21 rfl)
  have h5w := hts (.fieldLink RX3 50 "RopeTown$Plan" "needs" "I") (wz_at 2 22 rfl)
  have h6w := hts (.fieldLink RX3 53 "RopeTown$Plan" "most" "I") (wz_at 2 23 rfl)
  have h7w := hts (.fieldLink RX3 56 "RopeTown$Plan" "brake" "I") (wz_at 3 0 rfl)
  have h8w := hts (.fieldLink RX3 59 "RopeTown$Plan" "things" "I") (wz_at 3 1 rfl)
  have h9w := hts (.fieldLink RX3 27 "RopeTown$Plan" "rules" "LRopeTown$Rules;") (wz_at 2 0 rfl)
  have h10w := hts (.initialized RX5) (wz_at 1 23 rfl)
  have h11w := hts (.instanceMethod yX5_clear) (wz_at 2 9 rfl)
  have h12w := hts (.selects RX5 yX5_clear yX5_clear) (wz_at 2 10 rfl)
  refine lv_aload_n hx hb dX3_clear_0 rfl (lv_at hl 0 rfl) ?_
  refine lv_iconst (v := 1) hx hb dX3_clear_1 (by decide +kernel) ?_
  refine va_put (D := G) (ci := 2) (v := .int 1) (ty := .int) (C := RX3) (T := TX3) (N := 14) (ref := RX3) hx hb hts h1w tyX3 tyX3_ok nmX3 hown hX.1 hP hD hS 0 rfl rfl 0 (by decide) h0w (fun _ h9 => h9) rfl (by decide +kernel) rfl rfl (Nat.le_of_ble_eq_true rfl) dX3_clear_2 (fun H locs hP hD hS => ?_)
  refine lv_aload_n hx hb dX3_clear_5 rfl (lv_at hl 0 rfl) ?_
  refine lv_iconst (v := 0) hx hb dX3_clear_6 (by decide +kernel) ?_
  refine va_put (D := G) (ci := 2) (v := .int 0) (ty := .int) (C := RX3) (T := TX3) (N := 14) (ref := RX3) hx hb hts h1w tyX3 tyX3_ok nmX3 hown hX.1 hP hD hS 0 rfl rfl 1 (by decide) h2w (fun _ h9 => h9) rfl (by decide +kernel) rfl rfl (Nat.le_of_ble_eq_true rfl) dX3_clear_7 (fun H locs hP hD hS => ?_)
  refine lv_aload_n hx hb dX3_clear_10 rfl (lv_at hl 0 rfl) ?_
  refine lv_bipush (v := 99) hx hb dX3_clear_11 (by decide +kernel) ?_
  refine va_put (D := G) (ci := 2) (v := .int 99) (ty := .int) (C := RX3) (T := TX3) (N := 14) (ref := RX3) hx hb hts h1w tyX3 tyX3_ok nmX3 hown hX.1 hP hD hS 0 rfl rfl 2 (by decide) h3w (fun _ h9 => h9) rfl (by decide +kernel) rfl rfl (Nat.le_of_ble_eq_true rfl) dX3_clear_13 (fun H locs hP hD hS => ?_)
  refine lv_aload_n hx hb dX3_clear_16 rfl (lv_at hl 0 rfl) ?_
  refine lv_iconst (v := 0) hx hb dX3_clear_17 (by decide +kernel) ?_
  refine va_put (D := G) (ci := 2) (v := .int 0) (ty := .int) (C := RX3) (T := TX3) (N := 14) (ref := RX3) hx hb hts h1w tyX3 tyX3_ok nmX3 hown hX.1 hP hD hS 0 rfl rfl 3 (by decide) h4w (fun _ h9 => h9) rfl (by decide +kernel) rfl rfl (Nat.le_of_ble_eq_true rfl) dX3_clear_18 (fun H locs hP hD hS => ?_)
  refine lv_aload_n hx hb dX3_clear_21 rfl (lv_at hl 0 rfl) ?_
  refine lv_iconst (v := 1) hx hb dX3_clear_22 (by decide +kernel) ?_
  refine va_put (D := G) (ci := 2) (v := .int 1) (ty := .int) (C := RX3) (T := TX3) (N := 14) (ref := RX3) hx hb hts h1w tyX3 tyX3_ok nmX3 hown hX.1 hP hD hS 0 rfl rfl 4 (by decide) h5w (fun _ h9 => h9) rfl (by decide +kernel) rfl rfl (Nat.le_of_ble_eq_true rfl) dX3_clear_23 (fun H locs hP hD hS => ?_)
  refine lv_aload_n hx hb dX3_clear_26 rfl (lv_at hl 0 rfl) ?_
  refine lv_bipush (v := 20) hx hb dX3_clear_27 (by decide +kernel) ?_
  refine va_put (D := G) (ci := 2) (v := .int 20) (ty := .int) (C := RX3) (T := TX3) (N := 14) (ref := RX3) hx hb hts h1w tyX3 tyX3_ok nmX3 hown hX.1 hP hD hS 0 rfl rfl 5 (by decide) h6w (fun _ h9 => h9) rfl (by decide +kernel) rfl rfl (Nat.le_of_ble_eq_true rfl) dX3_clear_29 (fun H locs hP hD hS => ?_)
  obtain ⟨hP, hD⟩ : va_P G vwCl [(p0, .inr (2, [.int 1, .int 0, .int 99, .int 0, .int 1, .int 20, v7, v8, v9, v10, v11, v12, .ref p13, v14])), (p13, .inr (4, [v15, v16, v17, v18, v19]))] H ∧ va_D A [(p0, .inr (2, [.int 1, .int 0, .int 99, .int 0, .int 1, .int 20, v7, v8, v9, v10, v11, v12, .ref p13, v14])), (p13, .inr (4, [v15, v16, v17, v18, v19]))] := ⟨hP, hD⟩
  refine lv_aload_n hx hb dX3_clear_32 rfl (lv_at hl 0 rfl) ?_
  refine lv_iconst (v := 0) hx hb dX3_clear_33 (by decide +kernel) ?_
  refine va_put (D := G) (ci := 2) (v := .int 0) (ty := .int) (C := RX3) (T := TX3) (N := 14) (ref := RX3) hx hb hts h1w tyX3 tyX3_ok nmX3 hown hX.1 hP hD hS 0 rfl rfl 6 (by decide) h7w (fun _ h9 => h9) rfl (by decide +kernel) rfl rfl (Nat.le_of_ble_eq_true rfl) dX3_clear_34 (fun H locs hP hD hS => ?_)
  refine lv_aload_n hx hb dX3_clear_37 rfl (lv_at hl 0 rfl) ?_
  refine lv_iconst (v := 0) hx hb dX3_clear_38 (by decide +kernel) ?_
  refine va_put (D := G) (ci := 2) (v := .int 0) (ty := .int) (C := RX3) (T := TX3) (N := 14) (ref := RX3) hx hb hts h1w tyX3 tyX3_ok nmX3 hown hX.1 hP hD hS 0 rfl rfl 7 (by decide) h8w (fun _ h9 => h9) rfl (by decide +kernel) rfl rfl (Nat.le_of_ble_eq_true rfl) dX3_clear_39 (fun H locs hP hD hS => ?_)
  refine lv_aload_n hx hb dX3_clear_42 rfl (lv_at hl 0 rfl) ?_
  refine va_get (D := G) (ci := 2) (v := .ref p13) (C := RX3) (T := TX3) (N := 14) (ref := RX3) hx hb hts h1w hown hX.1 hP 0 rfl rfl 12 (by decide) h9w (fun _ h9 => h9) rfl dX3_clear_43 ?_
  refine cz_v (wr := [(p0, .inr (2, [.int 1, .int 0, .int 99, .int 0, .int 1, .int 20, .int 0, .int 0, v9, v10, v11, v12, .ref p13, v14]))]) (va_runVN (As := []) (rest := []) ⟨hx, hb, hml, hown, hts⟩ (cX5_clear_0 l G k p13 v15 v16 v17 v18 v19 H.size) ⟨va_cnB 0 hts (gz [] (.code yX5_clear cX5_clear 1 none) [(2, 11)] rfl) rfl rfl rfl (nm_2 hX.2.2.1) h10w (by decide +kernel) ⟨Nat.le_of_ble_eq_true rfl, Nat.le_of_ble_eq_true rfl⟩, h11w, h12w⟩ (cz_preV hZ hS hX hP hD [1] rfl rfl (ci := 4) (q0 := 1) rfl rfl) rfl rfl hl.1 rfl (lv_room (Nat.le_of_ble_eq_true rfl)) dX3_clear_46 ⟨Nat.le_of_ble_eq_true rfl, Nat.le_of_ble_eq_true rfl⟩) hP hD hS hA [1] [0] rfl rfl (by decide) (by decide) (fun u H locs hp hP hD hS => ?_)
  have hP9 := hP.sub (ws' := [(p0, .inr (2, [.int 1, .int 0, .int 99, .int 0, .int 1, .int 20, .int 0, .int 0, v9, v10, v11, v12, .ref p13, v14])), (p13, .inr (4, [v15, v16, v17, .int 0, .int 0]))]) [0, 1] rfl
  have hD9 := hD.sub (ws' := [(p0, .inr (2, [.int 1, .int 0, .int 99, .int 0, .int 1, .int 20, .int 0, .int 0, v9, v10, v11, v12, .ref p13, v14])), (p13, .inr (4, [v15, v16, v17, .int 0, .int 0]))]) [0, 1] (by decide) rfl
  exact W.vret hx hb hr (fun t ht hW => ⟨⟨(), rfl, trivial, by rw [ht]; exact hP9, hD9⟩, hS.F ht⟩) hS.2.2 dX3_clear_49

set_option maxHeartbeats 4000000 in
set_option maxRecDepth 100000 in
theorem cX5_init_0 (l : Launch) (G : va_G) (k : Nat → ClassId) (p0 : Nat) (v1 : Value) (v2 : Value) (v3 : Value) (v4 : Value) (v5 : Value) (sz : Nat) : CMv l G k yX5_init wzX5_init ({ frames := 1, cells := 3, slots := 636, locals := 20 }) [.ref p0] sz [(p0, .inr (4, [v1, v2, v3, v4, v5]))] (fun (u : Nat × Nat × Nat) => True) (fun (u : Nat × Nat × Nat) => [(u.1, .inl (k 0, 600, .inl (fun _ => 0))), (u.2.1, .inl (k 0, 4, .inl (fun _ => 0))), (u.2.2, .inl (k 0, 32, .inl (fun _ => 0))), (p0, .inr (4, [.ref u.1, .ref u.2.1, .ref u.2.2, .int 0, .int 0]))]) := by
  refine Met.ofW (cc := cX5_init) (maxL := 1) (ret := none) (by decide) rfl ?_
  intro p e s m args below meth c s₁ B hml hv
  obtain ⟨rfl, hsz, hP, hX, hD0, hZ0⟩ := hv
  have hx := B.exec
  have hb := B.bytes
  have hr := B.returns
  have hts := atoms_spec (ws := wzX5_init) B.pre
  have hown : s.vm.findClass RX5 = some m.cls := findClass_of_methodNamed B.named
  have hin : meth.name = "<init>" := (name_of_methodNamed B.named B.method).1
  subst hsz
  have hD := hD0.self (sz := s.heap.size)
  have hZ := ZX.up hP hZ0
  generalize hAe : va_A [(p0, .inr (4, [v1, v2, v3, v4, v5]))] s.heap.size = A at hD hZ ⊢
  have hA : ∀ q : Nat, s.heap.size ≤ q → A q := fun q h => by rw [← hAe]; exact Or.inr h
  have hS : va_S A s.heap s.heap [] := va_S.rf
  have hP : va_P G vwCl [(p0, .inr (4, [v1, v2, v3, v4, v5]))] s.heap := hP
  have hl := lv_entry ([.ref p0]) (n := 1) (Nat.le_of_ble_eq_true rfl)
  rw [lg_entry_eq]
  generalize (lg_sl ([.ref p0]) ++ List.replicate (1 - (lg_sl ([.ref p0])).length) Slot.unset).toArray = ls at hl ⊢
  have hl : lv_has ls 1 [(0, .ref p0)] := hl
  have h0w := hts (.methodLink RX5 3 objectInit) (wz_at 2 4 rfl)
  have h1w := hts (.instanceMethod objectInit) (wz_at 0 11 rfl)
  have h2w := hts (.code objectInit ⟨#[0xb1]⟩ 1 none) (wz_at 0 12 rfl)
  have h3w := hts (.arrayClass .int) (wz_at 1 12 rfl)
  have h4w := hts (.fieldLink RX5 9 "RopeTown$Rules" "code" "[I") (wz_at 2 5 rfl)
  have h5w : ∀ w ∈ wsX50, w ∈ wzX5_init := fun w h => List.mem_cons_of_mem _ (inlX5 w h)
  have h6w := hts (.fieldLink RX5 15 "RopeTown$Rules" "ends" "[I") (wz_at 2 6 rfl)
  have h7w := hts (.fieldLink RX5 18 "RopeTown$Rules" "held" "[I") (wz_at 2 7 rfl)
  refine lv_aload_n hx hb dX5_init_0 rfl (lv_at hl 0 rfl) ?_
  refine W.objInit hx hb hown h0w h1w h2w rfl (by rw [hml]; exact hl.1) rfl dX5_init_1 (Nat.le_of_ble_eq_true rfl) (Nat.le_of_ble_eq_true rfl) ?_
  refine W.eq (g2 := F0 m 4 ls []) rfl ?_
  refine lv_aload_n hx hb dX5_init_4 rfl (lv_at hl 0 rfl) ?_
  refine lv_sipush (v := 600) hx hb dX5_init_5 (by decide +kernel) ?_
  refine cz_newa (atype := .int) (N' := 600) (a0 := (600, .inl (fun _ => 0))) (ty := .int) hx hb h3w rfl hX hP hD hS hA 0 (by decide +kernel) (ha_int 600) (by decide +kernel) (by decide +kernel) (Nat.le_of_ble_eq_true rfl) (Nat.le_of_ble_eq_true rfl) (Nat.le_of_ble_eq_true rfl) dX5_init_8 (fun a8 H hP hD hS => ?_)
  refine W.widen (k := 1) (n := 600) (Nat.le_of_ble_eq_true rfl) (Nat.le_of_ble_eq_true rfl) ?_
  refine va_putF (D := G) (ci := 4) (v := .ref a8) (ty := .array .int) (C := RX5) (T := TX5) (N := 5) (ref := RX5) hx hb hts h5w tyX5 tyX5_ok nmX5 hown hX.1 hP hD hS 0 rfl rfl 0 (by decide) h4w (fun _ h9 => h9) rfl hin rfl (by decide +kernel) rfl rfl (Nat.le_of_ble_eq_true rfl) dX5_init_10 (fun H locs hP hD hS => ?_)
  refine lv_aload_n hx hb dX5_init_13 rfl (lv_at hl 0 rfl) ?_
  refine lv_iconst (v := 4) hx hb dX5_init_14 (by decide +kernel) ?_
  refine cz_newa (atype := .int) (N' := 4) (a0 := (4, .inl (fun _ => 0))) (ty := .int) hx hb h3w rfl hX hP hD hS hA 0 (by decide +kernel) (ha_int 4) (by decide +kernel) (by decide +kernel) (Nat.le_of_ble_eq_true rfl) (Nat.le_of_ble_eq_true rfl) (Nat.le_of_ble_eq_true rfl) dX5_init_15 (fun a15 H hP hD hS => ?_)
  refine W.widen (k := 2) (n := 604) (Nat.le_of_ble_eq_true rfl) (Nat.le_of_ble_eq_true rfl) ?_
  refine va_putF (D := G) (ci := 4) (v := .ref a15) (ty := .array .int) (C := RX5) (T := TX5) (N := 5) (ref := RX5) hx hb hts h5w tyX5 tyX5_ok nmX5 hown hX.1 hP hD hS 0 rfl rfl 1 (by decide) h6w (fun _ h9 => h9) rfl hin rfl (by decide +kernel) rfl rfl (Nat.le_of_ble_eq_true rfl) dX5_init_17 (fun H locs hP hD hS => ?_)
  refine lv_aload_n hx hb dX5_init_20 rfl (lv_at hl 0 rfl) ?_
  refine lv_bipush (v := 32) hx hb dX5_init_21 (by decide +kernel) ?_
  refine cz_newa (atype := .int) (N' := 32) (a0 := (32, .inl (fun _ => 0))) (ty := .int) hx hb h3w rfl hX hP hD hS hA 0 (by decide +kernel) (ha_int 32) (by decide +kernel) (by decide +kernel) (Nat.le_of_ble_eq_true rfl) (Nat.le_of_ble_eq_true rfl) (Nat.le_of_ble_eq_true rfl) dX5_init_23 (fun a23 H hP hD hS => ?_)
  refine W.widen (k := 3) (n := 636) (Nat.le_of_ble_eq_true rfl) (Nat.le_of_ble_eq_true rfl) ?_
  refine va_putF (D := G) (ci := 4) (v := .ref a23) (ty := .array .int) (C := RX5) (T := TX5) (N := 5) (ref := RX5) hx hb hts h5w tyX5 tyX5_ok nmX5 hown hX.1 hP hD hS 0 rfl rfl 2 (by decide) h7w (fun _ h9 => h9) rfl hin rfl (by decide +kernel) rfl rfl (Nat.le_of_ble_eq_true rfl) dX5_init_25 (fun H locs hP hD hS => ?_)
  obtain ⟨hP, hD⟩ : va_P G vwCl [(p0, .inr (4, [.ref a8, .ref a15, .ref a23, v4, v5])), (a8, .inl (k 0, 600, .inl (fun _ => 0))), (a15, .inl (k 0, 4, .inl (fun _ => 0))), (a23, .inl (k 0, 32, .inl (fun _ => 0)))] H ∧ va_D A [(p0, .inr (4, [.ref a8, .ref a15, .ref a23, v4, v5])), (a8, .inl (k 0, 600, .inl (fun _ => 0))), (a15, .inl (k 0, 4, .inl (fun _ => 0))), (a23, .inl (k 0, 32, .inl (fun _ => 0)))] := ⟨hP, hD⟩
  refine lv_aload_n hx hb dX5_init_28 rfl (lv_at hl 0 rfl) ?_
  refine cz_v (wr := [(a8, .inl (k 0, 600, .inl (fun _ => 0))), (a15, .inl (k 0, 4, .inl (fun _ => 0))), (a23, .inl (k 0, 32, .inl (fun _ => 0)))]) (va_runV (As := []) (rest := []) ⟨hx, hb, hml, hown, hts⟩ (cX5_clear_0 l G k p0 (.ref a8) (.ref a15) (.ref a23) v4 v5 H.size) (cwV 0 hts (gz [.methodLink RX5 21 yX5_clear, .instanceMethod yX5_clear, .selects RX5 yX5_clear yX5_clear, .initialized RX5] (.code yX5_clear cX5_clear 1 none) [(2, 8), (2, 9), (2, 10), (1, 23), (2, 11)] rfl) rfl rfl rfl (by decide +kernel) ⟨Nat.le_of_ble_eq_true rfl, Nat.le_of_ble_eq_true rfl⟩) (cz_preV hZ hS hX hP hD [0] rfl rfl (ci := 4) (q0 := 0) rfl rfl) rfl rfl hl.1 rfl (lv_room (Nat.le_of_ble_eq_true rfl)) dX5_init_29 ⟨Nat.le_of_ble_eq_true rfl, Nat.le_of_ble_eq_true rfl⟩) hP hD hS hA [0] [1, 2, 3] rfl rfl (by decide) (by decide) (fun u H locs hp hP hD hS => ?_)
  have hP9 := hP.sub (ws' := [(a8, .inl (k 0, 600, .inl (fun _ => 0))), (a15, .inl (k 0, 4, .inl (fun _ => 0))), (a23, .inl (k 0, 32, .inl (fun _ => 0))), (p0, .inr (4, [.ref a8, .ref a15, .ref a23, .int 0, .int 0]))]) [0, 1, 2, 3] rfl
  have hD9 := hD.sub (ws' := [(a8, .inl (k 0, 600, .inl (fun _ => 0))), (a15, .inl (k 0, 4, .inl (fun _ => 0))), (a23, .inl (k 0, 32, .inl (fun _ => 0))), (p0, .inr (4, [.ref a8, .ref a15, .ref a23, .int 0, .int 0]))]) [0, 1, 2, 3] (by decide) rfl
  refine W.widen (k := 3) (n := 636) (Nat.le_of_ble_eq_true rfl) (Nat.le_of_ble_eq_true rfl) ?_
  exact W.vret hx hb hr (fun t ht hW => ⟨⟨(a8, a15, a23), rfl, trivial, by rw [ht]; exact hP9, hD9⟩, hS.F ht⟩) hS.2.2 dX5_init_32

set_option maxHeartbeats 4000000 in
set_option maxRecDepth 100000 in
theorem cX3_init_0 (l : Launch) (G : va_G) (k : Nat → ClassId) (p0 : Nat) (v1 : Value) (v2 : Value) (v3 : Value) (v4 : Value) (v5 : Value) (v6 : Value) (v7 : Value) (v8 : Value) (v9 : Value) (v10 : Value) (v11 : Value) (v12 : Value) (v13 : Value) (sz : Nat) : CMv l G k yX3_init wzX3_init ({ frames := 2, cells := 9, slots := 676, locals := 40 }) [.ref p0] sz [(p0, .inr (2, [v1, v2, v3, v4, v5, v6, v7, v8, v9, v10, v11, v12, .null, v13]))] (fun (u : Nat × Nat × Nat × Nat × Nat × Nat × Nat × Nat × Nat) => True) (fun (u : Nat × Nat × Nat × Nat × Nat × Nat × Nat × Nat × Nat) => [(u.1, .inl (k 0, 7, .inl (fun _ => 0))), (u.2.1, .inl (k 0, 7, .inl (fun _ => 0))), (u.2.2.1, .inl (k 0, 7, .inl (fun _ => 0))), (u.2.2.2.1, .inl (k 0, 7, .inl (fun _ => 0))), (u.2.2.2.2.1, .inl (k 0, 600, .inl (fun _ => 0))), (u.2.2.2.2.2.1, .inl (k 0, 4, .inl (fun _ => 0))), (u.2.2.2.2.2.2.1, .inl (k 0, 32, .inl (fun _ => 0))), (u.2.2.2.2.2.2.2.1, .inl (k 0, 7, .inl (fun _ => 0))), (p0, .inr (2, [.int 1, .int 0, .int 99, .int 0, .int 1, .int 20, .int 0, .int 0, .ref u.1, .ref u.2.1, .ref u.2.2.1, .ref u.2.2.2.1, .ref u.2.2.2.2.2.2.2.2, .ref u.2.2.2.2.2.2.2.1])), (u.2.2.2.2.2.2.2.2, .inr (4, [.ref u.2.2.2.2.1, .ref u.2.2.2.2.2.1, .ref u.2.2.2.2.2.2.1, .int 0, .int 0]))]) := by
  refine Met.ofW (cc := cX3_init) (maxL := 1) (ret := none) (by decide) rfl ?_
  intro p e s m args below meth c s₁ B hml hv
  obtain ⟨rfl, hsz, hP, hX, hD0, hZ0⟩ := hv
  have hx := B.exec
  have hb := B.bytes
  have hr := B.returns
  have hts := atoms_spec (ws := wzX3_init) B.pre
  have hown : s.vm.findClass RX3 = some m.cls := findClass_of_methodNamed B.named
  have hin : meth.name = "<init>" := (name_of_methodNamed B.named B.method).1
  subst hsz
  have hD := hD0.self (sz := s.heap.size)
  have hZ := ZX.up hP hZ0
  generalize hAe : va_A [(p0, .inr (2, [v1, v2, v3, v4, v5, v6, v7, v8, v9, v10, v11, v12, .null, v13]))] s.heap.size = A at hD hZ ⊢
  have hA : ∀ q : Nat, s.heap.size ≤ q → A q := fun q h => by rw [← hAe]; exact Or.inr h
  have hS : va_S A s.heap s.heap [] := va_S.rf
  have hP : va_P G vwCl [(p0, .inr (2, [v1, v2, v3, v4, v5, v6, v7, v8, v9, v10, v11, v12, .null, v13]))] s.heap := hP
  have hl := lv_entry ([.ref p0]) (n := 1) (Nat.le_of_ble_eq_true rfl)
  rw [lg_entry_eq]
  generalize (lg_sl ([.ref p0]) ++ List.replicate (1 - (lg_sl ([.ref p0])).length) Slot.unset).toArray = ls at hl ⊢
  have hl : lv_has ls 1 [(0, .ref p0)] := hl
  have h0w := hts (.methodLink RX3 3 objectInit) (wz_at 1 16 rfl)
  have h1w := hts (.instanceMethod objectInit) (wz_at 0 11 rfl)
  have h2w := hts (.code objectInit ⟨#[0xb1]⟩ 1 none) (wz_at 0 12 rfl)
  have h3w := hts (.arrayClass .int) (wz_at 1 12 rfl)
  have h4w := hts (.fieldLink RX3 9 "RopeTown$Plan" "kind" "[I") (wz_at 1 17 rfl)
  have h5w : ∀ w ∈ wsX30, w ∈ wzX3_init := fun w h => List.mem_cons_of_mem _ (inlX3 w h)
  have h6w := hts (.fieldLink RX3 15 "RopeTown$Plan" "weight" "[I") (wz_at 1 18 rfl)
  have h7w := hts (.fieldLink RX3 18 "RopeTown$Plan" "first" "[I") (wz_at 1 19 rfl)
  have h8w := hts (.fieldLink RX3 21 "RopeTown$Plan" "aim" "[I") (wz_at 1 20 rfl)
  have h9w := hts (.classLink RX3 24 RX5) (wz_at 1 21 rfl)
  have h10w := hts (.instantiable RX5 5) (wz_at 1 22 rfl)
  have h11w := hts (.initialized RX5) (wz_at 1 23 rfl)
  have h12w : ∀ w ∈ wsX50, w ∈ wzX3_init := fun w h => List.mem_cons_of_mem _ (inlX5 w h)
  have h13w := hts (.instanceMethod yX5_init) (wz_at 2 2 rfl)
  have h14w := hts (.fieldLink RX3 27 "RopeTown$Plan" "rules" "LRopeTown$Rules;") (wz_at 2 0 rfl)
  have h15w := hts (.fieldLink RX3 31 "RopeTown$Plan" "values" "[I") (wz_at 2 1 rfl)
  refine lv_aload_n hx hb dX3_init_0 rfl (lv_at hl 0 rfl) ?_
  refine W.objInit hx hb hown h0w h1w h2w rfl (by rw [hml]; exact hl.1) rfl dX3_init_1 (Nat.le_of_ble_eq_true rfl) (Nat.le_of_ble_eq_true rfl) ?_
  refine W.eq (g2 := F0 m 4 ls []) rfl ?_
  refine lv_aload_n hx hb dX3_init_4 rfl (lv_at hl 0 rfl) ?_
  refine lv_bipush (v := 7) hx hb dX3_init_5 (by decide +kernel) ?_
  refine cz_newa (atype := .int) (N' := 7) (a0 := (7, .inl (fun _ => 0))) (ty := .int) hx hb h3w rfl hX hP hD hS hA 0 (by decide +kernel) (ha_int 7) (by decide +kernel) (by decide +kernel) (Nat.le_of_ble_eq_true rfl) (Nat.le_of_ble_eq_true rfl) (Nat.le_of_ble_eq_true rfl) dX3_init_7 (fun a7 H hP hD hS => ?_)
  refine W.widen (k := 1) (n := 7) (Nat.le_of_ble_eq_true rfl) (Nat.le_of_ble_eq_true rfl) ?_
  refine va_putF (D := G) (ci := 2) (v := .ref a7) (ty := .array .int) (C := RX3) (T := TX3) (N := 14) (ref := RX3) hx hb hts h5w tyX3 tyX3_ok nmX3 hown hX.1 hP hD hS 0 rfl rfl 8 (by decide) h4w (fun _ h9 => h9) rfl hin rfl (by decide +kernel) rfl rfl (Nat.le_of_ble_eq_true rfl) dX3_init_9 (fun H locs hP hD hS => ?_)
  refine lv_aload_n hx hb dX3_init_12 rfl (lv_at hl 0 rfl) ?_
  refine lv_bipush (v := 7) hx hb dX3_init_13 (by decide +kernel) ?_
  refine cz_newa (atype := .int) (N' := 7) (a0 := (7, .inl (fun _ => 0))) (ty := .int) hx hb h3w rfl hX hP hD hS hA 0 (by decide +kernel) (ha_int 7) (by decide +kernel) (by decide +kernel) (Nat.le_of_ble_eq_true rfl) (Nat.le_of_ble_eq_true rfl) (Nat.le_of_ble_eq_true rfl) dX3_init_15 (fun a15 H hP hD hS => ?_)
  refine W.widen (k := 2) (n := 14) (Nat.le_of_ble_eq_true rfl) (Nat.le_of_ble_eq_true rfl) ?_
  refine va_putF (D := G) (ci := 2) (v := .ref a15) (ty := .array .int) (C := RX3) (T := TX3) (N := 14) (ref := RX3) hx hb hts h5w tyX3 tyX3_ok nmX3 hown hX.1 hP hD hS 0 rfl rfl 9 (by decide) h6w (fun _ h9 => h9) rfl hin rfl (by decide +kernel) rfl rfl (Nat.le_of_ble_eq_true rfl) dX3_init_17 (fun H locs hP hD hS => ?_)
  refine lv_aload_n hx hb dX3_init_20 rfl (lv_at hl 0 rfl) ?_
  refine lv_bipush (v := 7) hx hb dX3_init_21 (by decide +kernel) ?_
  refine cz_newa (atype := .int) (N' := 7) (a0 := (7, .inl (fun _ => 0))) (ty := .int) hx hb h3w rfl hX hP hD hS hA 0 (by decide +kernel) (ha_int 7) (by decide +kernel) (by decide +kernel) (Nat.le_of_ble_eq_true rfl) (Nat.le_of_ble_eq_true rfl) (Nat.le_of_ble_eq_true rfl) dX3_init_23 (fun a23 H hP hD hS => ?_)
  refine W.widen (k := 3) (n := 21) (Nat.le_of_ble_eq_true rfl) (Nat.le_of_ble_eq_true rfl) ?_
  refine va_putF (D := G) (ci := 2) (v := .ref a23) (ty := .array .int) (C := RX3) (T := TX3) (N := 14) (ref := RX3) hx hb hts h5w tyX3 tyX3_ok nmX3 hown hX.1 hP hD hS 0 rfl rfl 10 (by decide) h7w (fun _ h9 => h9) rfl hin rfl (by decide +kernel) rfl rfl (Nat.le_of_ble_eq_true rfl) dX3_init_25 (fun H locs hP hD hS => ?_)
  obtain ⟨hP, hD⟩ : va_P G vwCl [(p0, .inr (2, [v1, v2, v3, v4, v5, v6, v7, v8, .ref a7, .ref a15, .ref a23, v12, .null, v13])), (a7, .inl (k 0, 7, .inl (fun _ => 0))), (a15, .inl (k 0, 7, .inl (fun _ => 0))), (a23, .inl (k 0, 7, .inl (fun _ => 0)))] H ∧ va_D A [(p0, .inr (2, [v1, v2, v3, v4, v5, v6, v7, v8, .ref a7, .ref a15, .ref a23, v12, .null, v13])), (a7, .inl (k 0, 7, .inl (fun _ => 0))), (a15, .inl (k 0, 7, .inl (fun _ => 0))), (a23, .inl (k 0, 7, .inl (fun _ => 0)))] := ⟨hP, hD⟩
  refine lv_aload_n hx hb dX3_init_28 rfl (lv_at hl 0 rfl) ?_
  refine lv_bipush (v := 7) hx hb dX3_init_29 (by decide +kernel) ?_
  refine cz_newa (atype := .int) (N' := 7) (a0 := (7, .inl (fun _ => 0))) (ty := .int) hx hb h3w rfl hX hP hD hS hA 0 (by decide +kernel) (ha_int 7) (by decide +kernel) (by decide +kernel) (Nat.le_of_ble_eq_true rfl) (Nat.le_of_ble_eq_true rfl) (Nat.le_of_ble_eq_true rfl) dX3_init_31 (fun a31 H hP hD hS => ?_)
  refine W.widen (k := 4) (n := 28) (Nat.le_of_ble_eq_true rfl) (Nat.le_of_ble_eq_true rfl) ?_
  refine va_putF (D := G) (ci := 2) (v := .ref a31) (ty := .array .int) (C := RX3) (T := TX3) (N := 14) (ref := RX3) hx hb hts h5w tyX3 tyX3_ok nmX3 hown hX.1 hP hD hS 0 rfl rfl 11 (by decide) h8w (fun _ h9 => h9) rfl hin rfl (by decide +kernel) rfl rfl (Nat.le_of_ble_eq_true rfl) dX3_init_33 (fun H locs hP hD hS => ?_)
  refine lv_aload_n hx hb dX3_init_36 rfl (lv_at hl 0 rfl) ?_
  refine va_new (ci := 4) (fs := [.null, .null, .null, .int 0, .int 0]) (C := RX5) (T := TX5) (N := 5) hx hb hts h12w tyX5 tyX5_ok hown h9w h10w h11w hX.1 hP hD hS hA rfl (cz_dvX5) (Nat.le_of_ble_eq_true rfl) (Nat.le_of_ble_eq_true rfl) dX3_init_37 (fun a37 H hP hD hS => ?_)
  refine W.widen (k := 5) (n := 33) (Nat.le_of_ble_eq_true rfl) (Nat.le_of_ble_eq_true rfl) ?_
  refine lv_dup hx hb dX3_init_40 rfl ?_
  refine cz_v (wr := [(p0, .inr (2, [v1, v2, v3, v4, v5, v6, v7, v8, .ref a7, .ref a15, .ref a23, .ref a31, .null, v13])), (a7, .inl (k 0, 7, .inl (fun _ => 0))), (a15, .inl (k 0, 7, .inl (fun _ => 0))), (a23, .inl (k 0, 7, .inl (fun _ => 0))), (a31, .inl (k 0, 7, .inl (fun _ => 0)))]) (va_runIN (As := []) (rest := [.ref a37, .ref p0]) ⟨hx, hb, hml, hown, hts⟩ (cX5_init_0 l G k a37 (.null) (.null) (.null) (.int 0) (.int 0) H.size) ⟨va_cnB 0 hts (gz [] (.code yX5_init cX5_init 1 none) [(2, 3)] rfl) rfl rfl rfl (nm_1 hX.2.2.1) h11w (by decide +kernel) ⟨Nat.le_of_ble_eq_true rfl, Nat.le_of_ble_eq_true rfl⟩, rfl, h13w⟩ (cz_preS hZ hS hX hP hD [5] rfl rfl) rfl rfl hl.1 rfl (lv_room (Nat.le_of_ble_eq_true rfl)) dX3_init_41 ⟨Nat.le_of_ble_eq_true rfl, Nat.le_of_ble_eq_true rfl⟩) hP hD hS hA [5] [0, 1, 2, 3, 4] rfl rfl (by decide) (by decide) (fun u H locs hp hP hD hS => ?_)
  obtain ⟨q_1, q_2, q_3⟩ := u
  refine W.widen (k := 8) (n := 669) (Nat.le_of_ble_eq_true rfl) (Nat.le_of_ble_eq_true rfl) ?_
  refine va_putF (D := G) (ci := 2) (v := .ref a37) (ty := .object "RopeTown$Rules") (C := RX3) (T := TX3) (N := 14) (ref := RX3) hx hb hts h5w tyX3 tyX3_ok nmX3 hown hX.1 hP hD hS 0 rfl rfl 12 (by decide) h14w (fun _ h9 => h9) rfl hin rfl (by decide +kernel) rfl rfl (Nat.le_of_ble_eq_true rfl) dX3_init_44 (fun H locs hP hD hS => ?_)
  refine lv_aload_n hx hb dX3_init_47 rfl (lv_at hl 0 rfl) ?_
  refine lv_bipush (v := 7) hx hb dX3_init_48 (by decide +kernel) ?_
  refine cz_newa (atype := .int) (N' := 7) (a0 := (7, .inl (fun _ => 0))) (ty := .int) hx hb h3w rfl hX hP hD hS hA 0 (by decide +kernel) (ha_int 7) (by decide +kernel) (by decide +kernel) (Nat.le_of_ble_eq_true rfl) (Nat.le_of_ble_eq_true rfl) (Nat.le_of_ble_eq_true rfl) dX3_init_50 (fun a50 H hP hD hS => ?_)
  obtain ⟨hP, hD⟩ : va_P G vwCl [(p0, .inr (2, [v1, v2, v3, v4, v5, v6, v7, v8, .ref a7, .ref a15, .ref a23, .ref a31, .ref a37, v13])), (a7, .inl (k 0, 7, .inl (fun _ => 0))), (a15, .inl (k 0, 7, .inl (fun _ => 0))), (a23, .inl (k 0, 7, .inl (fun _ => 0))), (a31, .inl (k 0, 7, .inl (fun _ => 0))), (q_1, .inl (k 0, 600, .inl (fun _ => 0))), (q_2, .inl (k 0, 4, .inl (fun _ => 0))), (q_3, .inl (k 0, 32, .inl (fun _ => 0))), (a37, .inr (4, [.ref q_1, .ref q_2, .ref q_3, .int 0, .int 0])), (a50, .inl (k 0, 7, .inl (fun _ => 0)))] H ∧ va_D A [(p0, .inr (2, [v1, v2, v3, v4, v5, v6, v7, v8, .ref a7, .ref a15, .ref a23, .ref a31, .ref a37, v13])), (a7, .inl (k 0, 7, .inl (fun _ => 0))), (a15, .inl (k 0, 7, .inl (fun _ => 0))), (a23, .inl (k 0, 7, .inl (fun _ => 0))), (a31, .inl (k 0, 7, .inl (fun _ => 0))), (q_1, .inl (k 0, 600, .inl (fun _ => 0))), (q_2, .inl (k 0, 4, .inl (fun _ => 0))), (q_3, .inl (k 0, 32, .inl (fun _ => 0))), (a37, .inr (4, [.ref q_1, .ref q_2, .ref q_3, .int 0, .int 0])), (a50, .inl (k 0, 7, .inl (fun _ => 0)))] := ⟨hP, hD⟩
  refine W.widen (k := 9) (n := 676) (Nat.le_of_ble_eq_true rfl) (Nat.le_of_ble_eq_true rfl) ?_
  refine va_putF (D := G) (ci := 2) (v := .ref a50) (ty := .array .int) (C := RX3) (T := TX3) (N := 14) (ref := RX3) hx hb hts h5w tyX3 tyX3_ok nmX3 hown hX.1 hP hD hS 0 rfl rfl 13 (by decide) h15w (fun _ h9 => h9) rfl hin rfl (by decide +kernel) rfl rfl (Nat.le_of_ble_eq_true rfl) dX3_init_52 (fun H locs hP hD hS => ?_)
  refine lv_aload_n hx hb dX3_init_55 rfl (lv_at hl 0 rfl) ?_
  refine cz_v (wr := [(a7, .inl (k 0, 7, .inl (fun _ => 0))), (a15, .inl (k 0, 7, .inl (fun _ => 0))), (a23, .inl (k 0, 7, .inl (fun _ => 0))), (a31, .inl (k 0, 7, .inl (fun _ => 0))), (q_1, .inl (k 0, 600, .inl (fun _ => 0))), (q_2, .inl (k 0, 4, .inl (fun _ => 0))), (q_3, .inl (k 0, 32, .inl (fun _ => 0))), (a50, .inl (k 0, 7, .inl (fun _ => 0)))]) (va_runV (As := []) (rest := []) ⟨hx, hb, hml, hown, hts⟩ (cX3_clear_0 l G k p0 v1 v2 v3 v4 v5 v6 v7 v8 (.ref a7) (.ref a15) (.ref a23) (.ref a31) a37 (.ref a50) (.ref q_1) (.ref q_2) (.ref q_3) (.int 0) (.int 0) H.size) (cwV 0 hts (gz [.methodLink RX3 34 yX3_clear, .instanceMethod yX3_clear, .selects RX3 yX3_clear yX3_clear, .initialized RX3] (.code yX3_clear cX3_clear 1 none) [(2, 14), (2, 15), (2, 16), (0, 19), (2, 17)] rfl) rfl rfl rfl (by decide +kernel) ⟨Nat.le_of_ble_eq_true rfl, Nat.le_of_ble_eq_true rfl⟩) (cz_preV hZ hS hX hP hD [0, 8] rfl rfl (ci := 2) (q0 := 0) rfl rfl) rfl rfl hl.1 rfl (lv_room (Nat.le_of_ble_eq_true rfl)) dX3_init_56 ⟨Nat.le_of_ble_eq_true rfl, Nat.le_of_ble_eq_true rfl⟩) hP hD hS hA [0, 8] [1, 2, 3, 4, 5, 6, 7, 9] rfl rfl (by decide) (by decide) (fun u H locs hp hP hD hS => ?_)
  have hP9 := hP.sub (ws' := [(a7, .inl (k 0, 7, .inl (fun _ => 0))), (a15, .inl (k 0, 7, .inl (fun _ => 0))), (a23, .inl (k 0, 7, .inl (fun _ => 0))), (a31, .inl (k 0, 7, .inl (fun _ => 0))), (q_1, .inl (k 0, 600, .inl (fun _ => 0))), (q_2, .inl (k 0, 4, .inl (fun _ => 0))), (q_3, .inl (k 0, 32, .inl (fun _ => 0))), (a50, .inl (k 0, 7, .inl (fun _ => 0))), (p0, .inr (2, [.int 1, .int 0, .int 99, .int 0, .int 1, .int 20, .int 0, .int 0, .ref a7, .ref a15, .ref a23, .ref a31, .ref a37, .ref a50])), (a37, .inr (4, [.ref q_1, .ref q_2, .ref q_3, .int 0, .int 0]))]) [0, 1, 2, 3, 4, 5, 6, 7, 8, 9] rfl
  have hD9 := hD.sub (ws' := [(a7, .inl (k 0, 7, .inl (fun _ => 0))), (a15, .inl (k 0, 7, .inl (fun _ => 0))), (a23, .inl (k 0, 7, .inl (fun _ => 0))), (a31, .inl (k 0, 7, .inl (fun _ => 0))), (q_1, .inl (k 0, 600, .inl (fun _ => 0))), (q_2, .inl (k 0, 4, .inl (fun _ => 0))), (q_3, .inl (k 0, 32, .inl (fun _ => 0))), (a50, .inl (k 0, 7, .inl (fun _ => 0))), (p0, .inr (2, [.int 1, .int 0, .int 99, .int 0, .int 1, .int 20, .int 0, .int 0, .ref a7, .ref a15, .ref a23, .ref a31, .ref a37, .ref a50])), (a37, .inr (4, [.ref q_1, .ref q_2, .ref q_3, .int 0, .int 0]))]) [0, 1, 2, 3, 4, 5, 6, 7, 8, 9] (by decide) rfl
  refine W.widen (k := 9) (n := 676) (Nat.le_of_ble_eq_true rfl) (Nat.le_of_ble_eq_true rfl) ?_
  exact W.vret hx hb hr (fun t ht hW => ⟨⟨(a7, a15, a23, a31, q_1, q_2, q_3, a50, a37), rfl, trivial, by rw [ht]; exact hP9, hD9⟩, hS.F ht⟩) hS.2.2 dX3_init_59

set_option maxHeartbeats 4000000 in
set_option maxRecDepth 100000 in
theorem cX4_init_0 (l : Launch) (G : va_G) (k : Nat → ClassId) (p0 : Nat) (v1 : Value) (v2 : Value) (v3 : Value) (v4 : Value) (v5 : Value) (v6 : Value) (v7 : Value) (v8 : Value) (sz : Nat) : CMv l G k yX4_init wzX4_init ({ frames := 1, cells := 1, slots := 0, locals := 12 }) [.ref p0] sz [(p0, .inr (3, [v1, v2, v3, v4, v5, v6, v7, v8]))] (fun (u : Nat) => True) (fun (u : Nat) => [(p0, .inr (3, [.ref u, .int 0, .int 0, .int 0, .int 0, .ref (k 9), .int 0, .int 0])), (u, .inl (k 1, 0, .inl (fun _ => 0)))]) := by
  refine Met.ofW (cc := cX4_init) (maxL := 1) (ret := none) (by decide) rfl ?_
  intro p e s m args below meth c s₁ B hml hv
  obtain ⟨rfl, hsz, hP, hX, hD0, hZ0⟩ := hv
  have hx := B.exec
  have hb := B.bytes
  have hr := B.returns
  have hts := atoms_spec (ws := wzX4_init) B.pre
  have hown : s.vm.findClass RX4 = some m.cls := findClass_of_methodNamed B.named
  have hin : meth.name = "<init>" := (name_of_methodNamed B.named B.method).1
  subst hsz
  have hD := hD0.self (sz := s.heap.size)
  have hZ := ZX.up hP hZ0
  generalize hAe : va_A [(p0, .inr (3, [v1, v2, v3, v4, v5, v6, v7, v8]))] s.heap.size = A at hD hZ ⊢
  have hA : ∀ q : Nat, s.heap.size ≤ q → A q := fun q h => by rw [← hAe]; exact Or.inr h
  have hS : va_S A s.heap s.heap [] := va_S.rf
  have hP : va_P G vwCl [(p0, .inr (3, [v1, v2, v3, v4, v5, v6, v7, v8]))] s.heap := hP
  have hl := lv_entry ([.ref p0]) (n := 1) (Nat.le_of_ble_eq_true rfl)
  rw [lg_entry_eq]
  generalize (lg_sl ([.ref p0]) ++ List.replicate (1 - (lg_sl ([.ref p0])).length) Slot.unset).toArray = ls at hl ⊢
  have hl : lv_has ls 1 [(0, .ref p0)] := hl
  have h0w := hts (.methodLink RX4 3 objectInit) (wz_at 3 15 rfl)
  have h1w := hts (.instanceMethod objectInit) (wz_at 0 11 rfl)
  have h2w := hts (.code objectInit ⟨#[0xb1]⟩ 1 none) (wz_at 0 12 rfl)
  have h3w := hts (.arrayClass .byte) (wz_at 0 13 rfl)
  have h4w := hts (.fieldLink RX4 9 "RopeTown$Reader" "text" "[B") (wz_at 3 16 rfl)
  have h5w : ∀ w ∈ wsX40, w ∈ wzX4_init := fun w h => List.mem_cons_of_mem _ (inlX4 w h)
  have h6w := hts (.fieldLink RX4 15 "RopeTown$Reader" "length" "I") (wz_at 3 17 rfl)
  have h7w := hts (.fieldLink RX4 19 "RopeTown$Reader" "start" "I") (wz_at 3 18 rfl)
  have h8w := hts (.fieldLink RX4 22 "RopeTown$Reader" "next" "I") (wz_at 3 19 rfl)
  have h9w := hts (.fieldLink RX4 25 "RopeTown$Reader" "kind" "I") (wz_at 3 20 rfl)
  have h10w := hts (.fieldLink RX4 28 "RopeTown$Word" "UNKNOWN" "LRopeTown$Word;") (wz_at 3 21 rfl)
  have h11w := hts (.fieldLink RX4 34 "RopeTown$Reader" "word" "LRopeTown$Word;") (wz_at 3 22 rfl)
  have h12w := hts (.fieldLink RX4 37 "RopeTown$Reader" "number" "I") (wz_at 3 23 rfl)
  have h13w := hts (.fieldLink RX4 40 "RopeTown$Reader" "sign" "I") (wz_at 4 0 rfl)
  refine lv_aload_n hx hb dX4_init_0 rfl (lv_at hl 0 rfl) ?_
  refine W.objInit hx hb hown h0w h1w h2w rfl (by rw [hml]; exact hl.1) rfl dX4_init_1 (Nat.le_of_ble_eq_true rfl) (Nat.le_of_ble_eq_true rfl) ?_
  refine W.eq (g2 := F0 m 4 ls []) rfl ?_
  refine lv_aload_n hx hb dX4_init_4 rfl (lv_at hl 0 rfl) ?_
  refine lv_iconst (v := 0) hx hb dX4_init_5 (by decide +kernel) ?_
  refine cz_newa (atype := .byte) (N' := 0) (a0 := (0, .inl (fun _ => 0))) (ty := .byte) hx hb h3w rfl hX hP hD hS hA 1 (by decide +kernel) (ha_byte 0) (by decide +kernel) (by decide +kernel) (Nat.le_of_ble_eq_true rfl) (Nat.le_of_ble_eq_true rfl) (Nat.le_of_ble_eq_true rfl) dX4_init_6 (fun a6 H hP hD hS => ?_)
  refine W.widen (k := 1) (n := 0) (Nat.le_of_ble_eq_true rfl) (Nat.le_of_ble_eq_true rfl) ?_
  refine va_put (D := G) (ci := 3) (v := .ref a6) (ty := .array .byte) (C := RX4) (T := TX4) (N := 8) (ref := RX4) hx hb hts h5w tyX4 tyX4_ok nmX4 hown hX.1 hP hD hS 0 rfl rfl 0 (by decide) h4w (fun _ h9 => h9) rfl (by decide +kernel) rfl rfl (Nat.le_of_ble_eq_true rfl) dX4_init_8 (fun H locs hP hD hS => ?_)
  refine lv_aload_n hx hb dX4_init_11 rfl (lv_at hl 0 rfl) ?_
  refine lv_iconst (v := 0) hx hb dX4_init_12 (by decide +kernel) ?_
  refine va_put (D := G) (ci := 3) (v := .int 0) (ty := .int) (C := RX4) (T := TX4) (N := 8) (ref := RX4) hx hb hts h5w tyX4 tyX4_ok nmX4 hown hX.1 hP hD hS 0 rfl rfl 1 (by decide) h6w (fun _ h9 => h9) rfl (by decide +kernel) rfl rfl (Nat.le_of_ble_eq_true rfl) dX4_init_13 (fun H locs hP hD hS => ?_)
  refine lv_aload_n hx hb dX4_init_16 rfl (lv_at hl 0 rfl) ?_
  refine lv_iconst (v := 0) hx hb dX4_init_17 (by decide +kernel) ?_
  refine va_put (D := G) (ci := 3) (v := .int 0) (ty := .int) (C := RX4) (T := TX4) (N := 8) (ref := RX4) hx hb hts h5w tyX4 tyX4_ok nmX4 hown hX.1 hP hD hS 0 rfl rfl 2 (by decide) h7w (fun _ h9 => h9) rfl (by decide +kernel) rfl rfl (Nat.le_of_ble_eq_true rfl) dX4_init_18 (fun H locs hP hD hS => ?_)
  refine lv_aload_n hx hb dX4_init_21 rfl (lv_at hl 0 rfl) ?_
  refine lv_iconst (v := 0) hx hb dX4_init_22 (by decide +kernel) ?_
  refine va_put (D := G) (ci := 3) (v := .int 0) (ty := .int) (C := RX4) (T := TX4) (N := 8) (ref := RX4) hx hb hts h5w tyX4 tyX4_ok nmX4 hown hX.1 hP hD hS 0 rfl rfl 3 (by decide) h8w (fun _ h9 => h9) rfl (by decide +kernel) rfl rfl (Nat.le_of_ble_eq_true rfl) dX4_init_23 (fun H locs hP hD hS => ?_)
  refine lv_aload_n hx hb dX4_init_26 rfl (lv_at hl 0 rfl) ?_
  refine lv_iconst (v := 0) hx hb dX4_init_27 (by decide +kernel) ?_
  refine va_put (D := G) (ci := 3) (v := .int 0) (ty := .int) (C := RX4) (T := TX4) (N := 8) (ref := RX4) hx hb hts h5w tyX4 tyX4_ok nmX4 hown hX.1 hP hD hS 0 rfl rfl 4 (by decide) h9w (fun _ h9 => h9) rfl (by decide +kernel) rfl rfl (Nat.le_of_ble_eq_true rfl) dX4_init_28 (fun H locs hP hD hS => ?_)
  obtain ⟨hP, hD⟩ : va_P G vwCl [(p0, .inr (3, [.ref a6, .int 0, .int 0, .int 0, .int 0, v6, v7, v8])), (a6, .inl (k 1, 0, .inl (fun _ => 0)))] H ∧ va_D A [(p0, .inr (3, [.ref a6, .int 0, .int 0, .int 0, .int 0, v6, v7, v8])), (a6, .inl (k 1, 0, .inl (fun _ => 0)))] := ⟨hP, hD⟩
  refine lv_aload_n hx hb dX4_init_31 rfl (lv_at hl 0 rfl) ?_
  refine va_gets hx hb hZ.1 hS hown h10w (fun _ h9 => h9) dX4_init_32 ?_
  refine va_put (D := G) (ci := 3) (v := .ref (k 9)) (ty := .object "RopeTown$Word") (C := RX4) (T := TX4) (N := 8) (ref := RX4) hx hb hts h5w tyX4 tyX4_ok nmX4 hown hX.1 hP hD hS 0 rfl rfl 5 (by decide) h11w (fun _ h9 => h9) rfl (by decide +kernel) rfl rfl (Nat.le_of_ble_eq_true rfl) dX4_init_35 (fun H locs hP hD hS => ?_)
  refine lv_aload_n hx hb dX4_init_38 rfl (lv_at hl 0 rfl) ?_
  refine lv_iconst (v := 0) hx hb dX4_init_39 (by decide +kernel) ?_
  refine va_put (D := G) (ci := 3) (v := .int 0) (ty := .int) (C := RX4) (T := TX4) (N := 8) (ref := RX4) hx hb hts h5w tyX4 tyX4_ok nmX4 hown hX.1 hP hD hS 0 rfl rfl 6 (by decide) h12w (fun _ h9 => h9) rfl (by decide +kernel) rfl rfl (Nat.le_of_ble_eq_true rfl) dX4_init_40 (fun H locs hP hD hS => ?_)
  refine lv_aload_n hx hb dX4_init_43 rfl (lv_at hl 0 rfl) ?_
  refine lv_iconst (v := 0) hx hb dX4_init_44 (by decide +kernel) ?_
  refine va_put (D := G) (ci := 3) (v := .int 0) (ty := .int) (C := RX4) (T := TX4) (N := 8) (ref := RX4) hx hb hts h5w tyX4 tyX4_ok nmX4 hown hX.1 hP hD hS 0 rfl rfl 7 (by decide) h13w (fun _ h9 => h9) rfl (by decide +kernel) rfl rfl (Nat.le_of_ble_eq_true rfl) dX4_init_45 (fun H locs hP hD hS => ?_)
  have hP9 := hP.sub (ws' := [(p0, .inr (3, [.ref a6, .int 0, .int 0, .int 0, .int 0, .ref (k 9), .int 0, .int 0])), (a6, .inl (k 1, 0, .inl (fun _ => 0)))]) [0, 1] rfl
  have hD9 := hD.sub (ws' := [(p0, .inr (3, [.ref a6, .int 0, .int 0, .int 0, .int 0, .ref (k 9), .int 0, .int 0])), (a6, .inl (k 1, 0, .inl (fun _ => 0)))]) [0, 1] (by decide) rfl
  refine W.widen (k := 1) (n := 0) (Nat.le_of_ble_eq_true rfl) (Nat.le_of_ble_eq_true rfl) ?_
  exact W.vret hx hb hr (fun t ht hW => ⟨⟨(a6), rfl, trivial, by rw [ht]; exact hP9, hD9⟩, hS.F ht⟩) hS.2.2 dX4_init_48

set_option maxHeartbeats 4000000 in
set_option maxRecDepth 100000 in
theorem cX2_init_0 (l : Launch) (G : va_G) (k : Nat → ClassId) (p0 : Nat) (p1 : Nat) (v2 : Value) (v3 : Value) (v4 : Value) (v5 : Value) (v6 : Value) (sz : Nat) : CMv l G k yX2_init wzX2_init ({ frames := 2, cells := 2, slots := 8, locals := 32 }) [.ref p0, .ref p1] sz [(p0, .inr (1, [v2, v3, v4, v5, v6]))] (fun (u : Nat × Nat) => True) (fun (u : Nat × Nat) => [(p0, .inr (1, [.ref u.1, .ref p1, .int 0, .int 0, .int (-1)])), (u.1, .inr (3, [.ref u.2, .int 0, .int 0, .int 0, .int 0, .ref (k 9), .int 0, .int 0])), (u.2, .inl (k 1, 0, .inl (fun _ => 0)))]) := by
  refine Met.ofW (cc := cX2_init) (maxL := 2) (ret := none) (by decide) rfl ?_
  intro p e s m args below meth c s₁ B hml hv
  obtain ⟨rfl, hsz, hP, hX, hD0, hZ0⟩ := hv
  have hx := B.exec
  have hb := B.bytes
  have hr := B.returns
  have hts := atoms_spec (ws := wzX2_init) B.pre
  have hown : s.vm.findClass RX2 = some m.cls := findClass_of_methodNamed B.named
  have hin : meth.name = "<init>" := (name_of_methodNamed B.named B.method).1
  subst hsz
  have hD := hD0.self (sz := s.heap.size)
  have hZ := ZX.up hP hZ0
  generalize hAe : va_A [(p0, .inr (1, [v2, v3, v4, v5, v6]))] s.heap.size = A at hD hZ ⊢
  have hA : ∀ q : Nat, s.heap.size ≤ q → A q := fun q h => by rw [← hAe]; exact Or.inr h
  have hS : va_S A s.heap s.heap [] := va_S.rf
  have hP : va_P G vwCl [(p0, .inr (1, [v2, v3, v4, v5, v6]))] s.heap := hP
  have hl := lv_entry ([.ref p0, .ref p1]) (n := 2) (Nat.le_of_ble_eq_true rfl)
  rw [lg_entry_eq]
  generalize (lg_sl ([.ref p0, .ref p1]) ++ List.replicate (2 - (lg_sl ([.ref p0, .ref p1])).length) Slot.unset).toArray = ls at hl ⊢
  have hl : lv_has ls 2 [(0, .ref p0), (1, .ref p1)] := hl
  have h0w := hts (.methodLink RX2 3 objectInit) (wz_at 3 4 rfl)
  have h1w := hts (.instanceMethod objectInit) (wz_at 0 11 rfl)
  have h2w := hts (.code objectInit ⟨#[0xb1]⟩ 1 none) (wz_at 0 12 rfl)
  have h3w := hts (.classLink RX2 9 RX4) (wz_at 3 5 rfl)
  have h4w := hts (.instantiable RX4 8) (wz_at 3 6 rfl)
  have h5w := hts (.initialized RX4) (wz_at 3 7 rfl)
  have h6w : ∀ w ∈ wsX40, w ∈ wzX2_init := fun w h => List.mem_cons_of_mem _ (inlX4 w h)
  have h7w := hts (.instanceMethod yX4_init) (wz_at 3 13 rfl)
  have h8w := hts (.fieldLink RX2 12 "RopeTown$Parser" "reader" "LRopeTown$Reader;") (wz_at 3 8 rfl)
  have h9w : ∀ w ∈ wsX20, w ∈ wzX2_init := fun w h => List.mem_cons_of_mem _ (inlX2 w h)
  have h10w := hts (.fieldLink RX2 18 "RopeTown$Parser" "plan" "LRopeTown$Plan;") (wz_at 3 9 rfl)
  have h11w := hts (.fieldLink RX2 22 "RopeTown$Parser" "told" "I") (wz_at 3 10 rfl)
  have h12w := hts (.fieldLink RX2 26 "RopeTown$Parser" "fault" "I") (wz_at 3 11 rfl)
  have h13w := hts (.fieldLink RX2 29 "RopeTown$Parser" "faultPlace" "I") (wz_at 3 12 rfl)
  refine lv_aload_n hx hb dX2_init_0 rfl (lv_at hl 0 rfl) ?_
  refine W.objInit hx hb hown h0w h1w h2w rfl (by rw [hml]; exact hl.1) rfl dX2_init_1 (Nat.le_of_ble_eq_true rfl) (Nat.le_of_ble_eq_true rfl) ?_
  refine W.eq (g2 := F0 m 4 ls []) rfl ?_
  refine lv_aload_n hx hb dX2_init_4 rfl (lv_at hl 0 rfl) ?_
  refine va_new (ci := 3) (fs := [.null, .int 0, .int 0, .int 0, .int 0, .null, .int 0, .int 0]) (C := RX4) (T := TX4) (N := 8) hx hb hts h6w tyX4 tyX4_ok hown h3w h4w h5w hX.1 hP hD hS hA rfl (cz_dvX4) (Nat.le_of_ble_eq_true rfl) (Nat.le_of_ble_eq_true rfl) dX2_init_5 (fun a5 H hP hD hS => ?_)
  refine W.widen (k := 1) (n := 8) (Nat.le_of_ble_eq_true rfl) (Nat.le_of_ble_eq_true rfl) ?_
  refine lv_dup hx hb dX2_init_8 rfl ?_
  refine cz_v (wr := [(p0, .inr (1, [v2, v3, v4, v5, v6]))]) (va_runIN (As := []) (rest := [.ref a5, .ref p0]) ⟨hx, hb, hml, hown, hts⟩ (cX4_init_0 l G k a5 (.null) (.int 0) (.int 0) (.int 0) (.int 0) (.null) (.int 0) (.int 0) H.size) ⟨va_cnB 0 hts (gz [] (.code yX4_init cX4_init 1 none) [(3, 14)] rfl) rfl rfl rfl (nm_4 hX.2.2.1) h5w (by decide +kernel) ⟨Nat.le_of_ble_eq_true rfl, Nat.le_of_ble_eq_true rfl⟩, rfl, h7w⟩ (cz_preS hZ hS hX hP hD [1] rfl rfl) rfl rfl hl.1 rfl (lv_room (Nat.le_of_ble_eq_true rfl)) dX2_init_9 ⟨Nat.le_of_ble_eq_true rfl, Nat.le_of_ble_eq_true rfl⟩) hP hD hS hA [1] [0] rfl rfl (by decide) (by decide) (fun u H locs hp hP hD hS => ?_)
  obtain ⟨q_1, rfl⟩ : ∃ z, z = u := ⟨_, rfl⟩
  refine W.widen (k := 2) (n := 8) (Nat.le_of_ble_eq_true rfl) (Nat.le_of_ble_eq_true rfl) ?_
  refine va_putF (D := G) (ci := 1) (v := .ref a5) (ty := .object "RopeTown$Reader") (C := RX2) (T := TX2) (N := 5) (ref := RX2) hx hb hts h9w tyX2 tyX2_ok nmX2 hown hX.1 hP hD hS 0 rfl rfl 0 (by decide) h8w (fun _ h9 => h9) rfl hin rfl (by decide +kernel) rfl rfl (Nat.le_of_ble_eq_true rfl) dX2_init_12 (fun H locs hP hD hS => ?_)
  refine lv_aload_n hx hb dX2_init_15 rfl (lv_at hl 0 rfl) ?_
  refine lv_aload_n hx hb dX2_init_16 rfl (lv_at hl 1 rfl) ?_
  refine va_put (D := G) (ci := 1) (v := .ref p1) (ty := .object "RopeTown$Plan") (C := RX2) (T := TX2) (N := 5) (ref := RX2) hx hb hts h9w tyX2 tyX2_ok nmX2 hown hX.1 hP hD hS 0 rfl rfl 1 (by decide) h10w (fun _ h9 => h9) rfl (by decide +kernel) rfl rfl (Nat.le_of_ble_eq_true rfl) dX2_init_17 (fun H locs hP hD hS => ?_)
  refine lv_aload_n hx hb dX2_init_20 rfl (lv_at hl 0 rfl) ?_
  refine lv_iconst (v := 0) hx hb dX2_init_21 (by decide +kernel) ?_
  refine va_put (D := G) (ci := 1) (v := .int 0) (ty := .int) (C := RX2) (T := TX2) (N := 5) (ref := RX2) hx hb hts h9w tyX2 tyX2_ok nmX2 hown hX.1 hP hD hS 0 rfl rfl 2 (by decide) h11w (fun _ h9 => h9) rfl (by decide +kernel) rfl rfl (Nat.le_of_ble_eq_true rfl) dX2_init_22 (fun H locs hP hD hS => ?_)
  refine lv_aload_n hx hb dX2_init_25 rfl (lv_at hl 0 rfl) ?_
  refine lv_iconst (v := 0) hx hb dX2_init_26 (by decide +kernel) ?_
  refine va_put (D := G) (ci := 1) (v := .int 0) (ty := .int) (C := RX2) (T := TX2) (N := 5) (ref := RX2) hx hb hts h9w tyX2 tyX2_ok nmX2 hown hX.1 hP hD hS 0 rfl rfl 3 (by decide) h12w (fun _ h9 => h9) rfl (by decide +kernel) rfl rfl (Nat.le_of_ble_eq_true rfl) dX2_init_27 (fun H locs hP hD hS => ?_)
  obtain ⟨hP, hD⟩ : va_P G vwCl [(p0, .inr (1, [.ref a5, .ref p1, .int 0, .int 0, v6])), (a5, .inr (3, [.ref q_1, .int 0, .int 0, .int 0, .int 0, .ref (k 9), .int 0, .int 0])), (q_1, .inl (k 1, 0, .inl (fun _ => 0)))] H ∧ va_D A [(p0, .inr (1, [.ref a5, .ref p1, .int 0, .int 0, v6])), (a5, .inr (3, [.ref q_1, .int 0, .int 0, .int 0, .int 0, .ref (k 9), .int 0, .int 0])), (q_1, .inl (k 1, 0, .inl (fun _ => 0)))] := ⟨hP, hD⟩
  refine lv_aload_n hx hb dX2_init_30 rfl (lv_at hl 0 rfl) ?_
  refine lv_iconst (v := (-1)) hx hb dX2_init_31 (by decide +kernel) ?_
  refine va_put (D := G) (ci := 1) (v := .int (-1)) (ty := .int) (C := RX2) (T := TX2) (N := 5) (ref := RX2) hx hb hts h9w tyX2 tyX2_ok nmX2 hown hX.1 hP hD hS 0 rfl rfl 4 (by decide) h13w (fun _ h9 => h9) rfl (by decide +kernel) rfl rfl (Nat.le_of_ble_eq_true rfl) dX2_init_32 (fun H locs hP hD hS => ?_)
  have hP9 := hP.sub (ws' := [(p0, .inr (1, [.ref a5, .ref p1, .int 0, .int 0, .int (-1)])), (a5, .inr (3, [.ref q_1, .int 0, .int 0, .int 0, .int 0, .ref (k 9), .int 0, .int 0])), (q_1, .inl (k 1, 0, .inl (fun _ => 0)))]) [0, 1, 2] rfl
  have hD9 := hD.sub (ws' := [(p0, .inr (1, [.ref a5, .ref p1, .int 0, .int 0, .int (-1)])), (a5, .inr (3, [.ref q_1, .int 0, .int 0, .int 0, .int 0, .ref (k 9), .int 0, .int 0])), (q_1, .inl (k 1, 0, .inl (fun _ => 0)))]) [0, 1, 2] (by decide) rfl
  refine W.widen (k := 2) (n := 8) (Nat.le_of_ble_eq_true rfl) (Nat.le_of_ble_eq_true rfl) ?_
  exact W.vret hx hb hr (fun t ht hW => ⟨⟨(a5, q_1), rfl, trivial, by rw [ht]; exact hP9, hD9⟩, hS.F ht⟩) hS.2.2 dX2_init_35

set_option maxHeartbeats 4000000 in
set_option maxRecDepth 100000 in
theorem cX1_init_0 (l : Launch) (G : va_G) (k : Nat → ClassId) (p0 : Nat) (v1 : Value) (v2 : Value) (v3 : Value) (v4 : Value) (v5 : Value) (v6 : Value) (v7 : Value) (v8 : Value) (v9 : Value) (v10 : Value) (v11 : Value) (v12 : Value) (sz : Nat) : CMv l G k yX1_init wzX1_init ({ frames := 1, cells := 7, slots := 309, locals := 12 }) [.ref p0] sz [(p0, .inr (0, [v1, v2, v3, v4, v5, v6, v7, v8, v9, v10, v11, v12]))] (fun (u : Nat × Nat × Nat × Nat × Nat × Nat × Nat) => True) (fun (u : Nat × Nat × Nat × Nat × Nat × Nat × Nat) => [(p0, .inr (0, [v1, v2, v3, v4, v5, .ref u.1, .ref u.2.1, .ref u.2.2.1, .ref u.2.2.2.1, .ref u.2.2.2.2.1, .ref u.2.2.2.2.2.1, .ref u.2.2.2.2.2.2])), (u.1, .inl (k 0, 60, .inl (fun _ => 0))), (u.2.1, .inl (k 0, 60, .inl (fun _ => 0))), (u.2.2.1, .inl (k 0, 60, .inl (fun _ => 0))), (u.2.2.2.1, .inl (k 0, 60, .inl (fun _ => 0))), (u.2.2.2.2.1, .inl (k 0, 60, .inl (fun _ => 0))), (u.2.2.2.2.2.1, .inl (k 0, 6, .inl (fun _ => 0))), (u.2.2.2.2.2.2, .inl (k 0, 3, .inl (fun _ => 0)))]) := by
  refine Met.ofW (cc := cX1_init) (maxL := 1) (ret := none) (by decide) rfl ?_
  intro p e s m args below meth c s₁ B hml hv
  obtain ⟨rfl, hsz, hP, hX, hD0, hZ0⟩ := hv
  have hx := B.exec
  have hb := B.bytes
  have hr := B.returns
  have hts := atoms_spec (ws := wzX1_init) B.pre
  have hown : s.vm.findClass RX1 = some m.cls := findClass_of_methodNamed B.named
  have hin : meth.name = "<init>" := (name_of_methodNamed B.named B.method).1
  subst hsz
  have hD := hD0.self (sz := s.heap.size)
  have hZ := ZX.up hP hZ0
  generalize hAe : va_A [(p0, .inr (0, [v1, v2, v3, v4, v5, v6, v7, v8, v9, v10, v11, v12]))] s.heap.size = A at hD hZ ⊢
  have hA : ∀ q : Nat, s.heap.size ≤ q → A q := fun q h => by rw [← hAe]; exact Or.inr h
  have hS : va_S A s.heap s.heap [] := va_S.rf
  have hP : va_P G vwCl [(p0, .inr (0, [v1, v2, v3, v4, v5, v6, v7, v8, v9, v10, v11, v12]))] s.heap := hP
  have hl := lv_entry ([.ref p0]) (n := 1) (Nat.le_of_ble_eq_true rfl)
  rw [lg_entry_eq]
  generalize (lg_sl ([.ref p0]) ++ List.replicate (1 - (lg_sl ([.ref p0])).length) Slot.unset).toArray = ls at hl ⊢
  have hl : lv_has ls 1 [(0, .ref p0)] := hl
  have h0w := hts (.methodLink RX1 3 objectInit) (wz_at 4 3 rfl)
  have h1w := hts (.instanceMethod objectInit) (wz_at 0 11 rfl)
  have h2w := hts (.code objectInit ⟨#[0xb1]⟩ 1 none) (wz_at 0 12 rfl)
  have h3w := hts (.arrayClass .int) (wz_at 1 12 rfl)
  have h4w := hts (.fieldLink RX1 9 "RopeTown$Book" "which" "[I") (wz_at 4 4 rfl)
  have h5w : ∀ w ∈ wsX10, w ∈ wzX1_init := fun w h => List.mem_cons_of_mem _ (inlX1 w h)
  have h6w := hts (.fieldLink RX1 15 "RopeTown$Book" "target" "[I") (wz_at 4 5 rfl)
  have h7w := hts (.fieldLink RX1 18 "RopeTown$Book" "manner" "[I") (wz_at 4 6 rfl)
  have h8w := hts (.fieldLink RX1 21 "RopeTown$Book" "before" "[I") (wz_at 4 7 rfl)
  have h9w := hts (.fieldLink RX1 24 "RopeTown$Book" "wound" "[I") (wz_at 4 8 rfl)
  have h10w := hts (.fieldLink RX1 27 "RopeTown$Book" "day" "[I") (wz_at 4 9 rfl)
  have h11w := hts (.fieldLink RX1 30 "RopeTown$Book" "status" "[I") (wz_at 4 10 rfl)
  refine lv_aload_n hx hb dX1_init_0 rfl (lv_at hl 0 rfl) ?_
  refine W.objInit hx hb hown h0w h1w h2w rfl (by rw [hml]; exact hl.1) rfl dX1_init_1 (Nat.le_of_ble_eq_true rfl) (Nat.le_of_ble_eq_true rfl) ?_
  refine W.eq (g2 := F0 m 4 ls []) rfl ?_
  refine lv_aload_n hx hb dX1_init_4 rfl (lv_at hl 0 rfl) ?_
  refine lv_bipush (v := 60) hx hb dX1_init_5 (by decide +kernel) ?_
  refine cz_newa (atype := .int) (N' := 60) (a0 := (60, .inl (fun _ => 0))) (ty := .int) hx hb h3w rfl hX hP hD hS hA 0 (by decide +kernel) (ha_int 60) (by decide +kernel) (by decide +kernel) (Nat.le_of_ble_eq_true rfl) (Nat.le_of_ble_eq_true rfl) (Nat.le_of_ble_eq_true rfl) dX1_init_7 (fun a7 H hP hD hS => ?_)
  refine W.widen (k := 1) (n := 60) (Nat.le_of_ble_eq_true rfl) (Nat.le_of_ble_eq_true rfl) ?_
  refine va_putF (D := G) (ci := 0) (v := .ref a7) (ty := .array .int) (C := RX1) (T := TX1) (N := 12) (ref := RX1) hx hb hts h5w tyX1 tyX1_ok nmX1 hown hX.1 hP hD hS 0 rfl rfl 5 (by decide) h4w (fun _ h9 => h9) rfl hin rfl (by decide +kernel) rfl rfl (Nat.le_of_ble_eq_true rfl) dX1_init_9 (fun H locs hP hD hS => ?_)
  refine lv_aload_n hx hb dX1_init_12 rfl (lv_at hl 0 rfl) ?_
  refine lv_bipush (v := 60) hx hb dX1_init_13 (by decide +kernel) ?_
  refine cz_newa (atype := .int) (N' := 60) (a0 := (60, .inl (fun _ => 0))) (ty := .int) hx hb h3w rfl hX hP hD hS hA 0 (by decide +kernel) (ha_int 60) (by decide +kernel) (by decide +kernel) (Nat.le_of_ble_eq_true rfl) (Nat.le_of_ble_eq_true rfl) (Nat.le_of_ble_eq_true rfl) dX1_init_15 (fun a15 H hP hD hS => ?_)
  refine W.widen (k := 2) (n := 120) (Nat.le_of_ble_eq_true rfl) (Nat.le_of_ble_eq_true rfl) ?_
  refine va_putF (D := G) (ci := 0) (v := .ref a15) (ty := .array .int) (C := RX1) (T := TX1) (N := 12) (ref := RX1) hx hb hts h5w tyX1 tyX1_ok nmX1 hown hX.1 hP hD hS 0 rfl rfl 6 (by decide) h6w (fun _ h9 => h9) rfl hin rfl (by decide +kernel) rfl rfl (Nat.le_of_ble_eq_true rfl) dX1_init_17 (fun H locs hP hD hS => ?_)
  refine lv_aload_n hx hb dX1_init_20 rfl (lv_at hl 0 rfl) ?_
  refine lv_bipush (v := 60) hx hb dX1_init_21 (by decide +kernel) ?_
  refine cz_newa (atype := .int) (N' := 60) (a0 := (60, .inl (fun _ => 0))) (ty := .int) hx hb h3w rfl hX hP hD hS hA 0 (by decide +kernel) (ha_int 60) (by decide +kernel) (by decide +kernel) (Nat.le_of_ble_eq_true rfl) (Nat.le_of_ble_eq_true rfl) (Nat.le_of_ble_eq_true rfl) dX1_init_23 (fun a23 H hP hD hS => ?_)
  refine W.widen (k := 3) (n := 180) (Nat.le_of_ble_eq_true rfl) (Nat.le_of_ble_eq_true rfl) ?_
  refine va_putF (D := G) (ci := 0) (v := .ref a23) (ty := .array .int) (C := RX1) (T := TX1) (N := 12) (ref := RX1) hx hb hts h5w tyX1 tyX1_ok nmX1 hown hX.1 hP hD hS 0 rfl rfl 7 (by decide) h7w (fun _ h9 => h9) rfl hin rfl (by decide +kernel) rfl rfl (Nat.le_of_ble_eq_true rfl) dX1_init_25 (fun H locs hP hD hS => ?_)
  obtain ⟨hP, hD⟩ : va_P G vwCl [(p0, .inr (0, [v1, v2, v3, v4, v5, .ref a7, .ref a15, .ref a23, v9, v10, v11, v12])), (a7, .inl (k 0, 60, .inl (fun _ => 0))), (a15, .inl (k 0, 60, .inl (fun _ => 0))), (a23, .inl (k 0, 60, .inl (fun _ => 0)))] H ∧ va_D A [(p0, .inr (0, [v1, v2, v3, v4, v5, .ref a7, .ref a15, .ref a23, v9, v10, v11, v12])), (a7, .inl (k 0, 60, .inl (fun _ => 0))), (a15, .inl (k 0, 60, .inl (fun _ => 0))), (a23, .inl (k 0, 60, .inl (fun _ => 0)))] := ⟨hP, hD⟩
  refine lv_aload_n hx hb dX1_init_28 rfl (lv_at hl 0 rfl) ?_
  refine lv_bipush (v := 60) hx hb dX1_init_29 (by decide +kernel) ?_
  refine cz_newa (atype := .int) (N' := 60) (a0 := (60, .inl (fun _ => 0))) (ty := .int) hx hb h3w rfl hX hP hD hS hA 0 (by decide +kernel) (ha_int 60) (by decide +kernel) (by decide +kernel) (Nat.le_of_ble_eq_true rfl) (Nat.le_of_ble_eq_true rfl) (Nat.le_of_ble_eq_true rfl) dX1_init_31 (fun a31 H hP hD hS => ?_)
  refine W.widen (k := 4) (n := 240) (Nat.le_of_ble_eq_true rfl) (Nat.le_of_ble_eq_true rfl) ?_
  refine va_putF (D := G) (ci := 0) (v := .ref a31) (ty := .array .int) (C := RX1) (T := TX1) (N := 12) (ref := RX1) hx hb hts h5w tyX1 tyX1_ok nmX1 hown hX.1 hP hD hS 0 rfl rfl 8 (by decide) h8w (fun _ h9 => h9) rfl hin rfl (by decide +kernel) rfl rfl (Nat.le_of_ble_eq_true rfl) dX1_init_33 (fun H locs hP hD hS => ?_)
  refine lv_aload_n hx hb dX1_init_36 rfl (lv_at hl 0 rfl) ?_
  refine lv_bipush (v := 60) hx hb dX1_init_37 (by decide +kernel) ?_
  refine cz_newa (atype := .int) (N' := 60) (a0 := (60, .inl (fun _ => 0))) (ty := .int) hx hb h3w rfl hX hP hD hS hA 0 (by decide +kernel) (ha_int 60) (by decide +kernel) (by decide +kernel) (Nat.le_of_ble_eq_true rfl) (Nat.le_of_ble_eq_true rfl) (Nat.le_of_ble_eq_true rfl) dX1_init_39 (fun a39 H hP hD hS => ?_)
  refine W.widen (k := 5) (n := 300) (Nat.le_of_ble_eq_true rfl) (Nat.le_of_ble_eq_true rfl) ?_
  refine va_putF (D := G) (ci := 0) (v := .ref a39) (ty := .array .int) (C := RX1) (T := TX1) (N := 12) (ref := RX1) hx hb hts h5w tyX1 tyX1_ok nmX1 hown hX.1 hP hD hS 0 rfl rfl 9 (by decide) h9w (fun _ h9 => h9) rfl hin rfl (by decide +kernel) rfl rfl (Nat.le_of_ble_eq_true rfl) dX1_init_41 (fun H locs hP hD hS => ?_)
  refine lv_aload_n hx hb dX1_init_44 rfl (lv_at hl 0 rfl) ?_
  refine lv_bipush (v := 6) hx hb dX1_init_45 (by decide +kernel) ?_
  refine cz_newa (atype := .int) (N' := 6) (a0 := (6, .inl (fun _ => 0))) (ty := .int) hx hb h3w rfl hX hP hD hS hA 0 (by decide +kernel) (ha_int 6) (by decide +kernel) (by decide +kernel) (Nat.le_of_ble_eq_true rfl) (Nat.le_of_ble_eq_true rfl) (Nat.le_of_ble_eq_true rfl) dX1_init_47 (fun a47 H hP hD hS => ?_)
  refine W.widen (k := 6) (n := 306) (Nat.le_of_ble_eq_true rfl) (Nat.le_of_ble_eq_true rfl) ?_
  refine va_putF (D := G) (ci := 0) (v := .ref a47) (ty := .array .int) (C := RX1) (T := TX1) (N := 12) (ref := RX1) hx hb hts h5w tyX1 tyX1_ok nmX1 hown hX.1 hP hD hS 0 rfl rfl 10 (by decide) h10w (fun _ h9 => h9) rfl hin rfl (by decide +kernel) rfl rfl (Nat.le_of_ble_eq_true rfl) dX1_init_49 (fun H locs hP hD hS => ?_)
  obtain ⟨hP, hD⟩ : va_P G vwCl [(p0, .inr (0, [v1, v2, v3, v4, v5, .ref a7, .ref a15, .ref a23, .ref a31, .ref a39, .ref a47, v12])), (a7, .inl (k 0, 60, .inl (fun _ => 0))), (a15, .inl (k 0, 60, .inl (fun _ => 0))), (a23, .inl (k 0, 60, .inl (fun _ => 0))), (a31, .inl (k 0, 60, .inl (fun _ => 0))), (a39, .inl (k 0, 60, .inl (fun _ => 0))), (a47, .inl (k 0, 6, .inl (fun _ => 0)))] H ∧ va_D A [(p0, .inr (0, [v1, v2, v3, v4, v5, .ref a7, .ref a15, .ref a23, .ref a31, .ref a39, .ref a47, v12])), (a7, .inl (k 0, 60, .inl (fun _ => 0))), (a15, .inl (k 0, 60, .inl (fun _ => 0))), (a23, .inl (k 0, 60, .inl (fun _ => 0))), (a31, .inl (k 0, 60, .inl (fun _ => 0))), (a39, .inl (k 0, 60, .inl (fun _ => 0))), (a47, .inl (k 0, 6, .inl (fun _ => 0)))] := ⟨hP, hD⟩
  refine lv_aload_n hx hb dX1_init_52 rfl (lv_at hl 0 rfl) ?_
  refine lv_iconst (v := 3) hx hb dX1_init_53 (by decide +kernel) ?_
  refine cz_newa (atype := .int) (N' := 3) (a0 := (3, .inl (fun _ => 0))) (ty := .int) hx hb h3w rfl hX hP hD hS hA 0 (by decide +kernel) (ha_int 3) (by decide +kernel) (by decide +kernel) (Nat.le_of_ble_eq_true rfl) (Nat.le_of_ble_eq_true rfl) (Nat.le_of_ble_eq_true rfl) dX1_init_54 (fun a54 H hP hD hS => ?_)
  refine W.widen (k := 7) (n := 309) (Nat.le_of_ble_eq_true rfl) (Nat.le_of_ble_eq_true rfl) ?_
  refine va_putF (D := G) (ci := 0) (v := .ref a54) (ty := .array .int) (C := RX1) (T := TX1) (N := 12) (ref := RX1) hx hb hts h5w tyX1 tyX1_ok nmX1 hown hX.1 hP hD hS 0 rfl rfl 11 (by decide) h11w (fun _ h9 => h9) rfl hin rfl (by decide +kernel) rfl rfl (Nat.le_of_ble_eq_true rfl) dX1_init_56 (fun H locs hP hD hS => ?_)
  have hP9 := hP.sub (ws' := [(p0, .inr (0, [v1, v2, v3, v4, v5, .ref a7, .ref a15, .ref a23, .ref a31, .ref a39, .ref a47, .ref a54])), (a7, .inl (k 0, 60, .inl (fun _ => 0))), (a15, .inl (k 0, 60, .inl (fun _ => 0))), (a23, .inl (k 0, 60, .inl (fun _ => 0))), (a31, .inl (k 0, 60, .inl (fun _ => 0))), (a39, .inl (k 0, 60, .inl (fun _ => 0))), (a47, .inl (k 0, 6, .inl (fun _ => 0))), (a54, .inl (k 0, 3, .inl (fun _ => 0)))]) [0, 1, 2, 3, 4, 5, 6, 7] rfl
  have hD9 := hD.sub (ws' := [(p0, .inr (0, [v1, v2, v3, v4, v5, .ref a7, .ref a15, .ref a23, .ref a31, .ref a39, .ref a47, .ref a54])), (a7, .inl (k 0, 60, .inl (fun _ => 0))), (a15, .inl (k 0, 60, .inl (fun _ => 0))), (a23, .inl (k 0, 60, .inl (fun _ => 0))), (a31, .inl (k 0, 60, .inl (fun _ => 0))), (a39, .inl (k 0, 60, .inl (fun _ => 0))), (a47, .inl (k 0, 6, .inl (fun _ => 0))), (a54, .inl (k 0, 3, .inl (fun _ => 0)))]) [0, 1, 2, 3, 4, 5, 6, 7] (by decide) rfl
  refine W.widen (k := 7) (n := 309) (Nat.le_of_ble_eq_true rfl) (Nat.le_of_ble_eq_true rfl) ?_
  exact W.vret hx hb hr (fun t ht hW => ⟨⟨(a7, a15, a23, a31, a39, a47, a54), rfl, trivial, by rw [ht]; exact hP9, hD9⟩, hS.F ht⟩) hS.2.2 dX1_init_59


set_option maxHeartbeats 4000000 in
set_option maxRecDepth 100000 in
theorem cX3_firstState_0 (l : Launch) (G : va_G) (k : Nat → ClassId) (p0 : Nat) (v1 : Value) (v2 : Value) (v3 : Value) (v4 : Value) (v5 : Value) (v6 : Value) (v7 : Value) (v8 : Value) (v9 : Value) (v10 : Value) (v11 : Value) (v12 : Value) (sz : Nat) : CMi l G k yX3_firstState wzX3_firstState ({ frames := 1, cells := 0, slots := 0, locals := 21 }) [.ref p0] sz [(p0, .inr (2, [v1, .int 0, v2, v3, v4, v5, v6, .int 0, v7, v8, v9, v10, v11, v12]))] (fun r (u : Unit) => r = 268435455) (fun (u : Unit) => [(p0, .inr (2, [v1, .int 0, v2, v3, v4, v5, v6, .int 0, v7, v8, v9, v10, v11, v12]))]) := by
  refine Met.ofW (cc := cX3_firstState) (maxL := 3) (ret := (some .int)) (by decide) rfl ?_
  intro p e s m args below meth c s₁ B hml hv
  obtain ⟨rfl, hsz, hP, hX, hD0, hZ0⟩ := hv
  have hx := B.exec
  have hb := B.bytes
  have hr := B.returns
  have hts := atoms_spec (ws := wzX3_firstState) B.pre
  have hown : s.vm.findClass RX3 = some m.cls := findClass_of_methodNamed B.named
  subst hsz
  have hD := hD0.self (sz := s.heap.size)
  have hZ := ZX.up hP hZ0
  generalize hAe : va_A [(p0, .inr (2, [v1, .int 0, v2, v3, v4, v5, v6, .int 0, v7, v8, v9, v10, v11, v12]))] s.heap.size = A at hD hZ ⊢
  have hA : ∀ q : Nat, s.heap.size ≤ q → A q := fun q h => by rw [← hAe]; exact Or.inr h
  have hS : va_S A s.heap s.heap [] := va_S.rf
  have hP : va_P G vwCl [(p0, .inr (2, [v1, .int 0, v2, v3, v4, v5, v6, .int 0, v7, v8, v9, v10, v11, v12]))] s.heap := hP
  have hl := lv_entry ([.ref p0]) (n := 3) (Nat.le_of_ble_eq_true rfl)
  rw [lg_entry_eq]
  generalize (lg_sl ([.ref p0]) ++ List.replicate (3 - (lg_sl ([.ref p0])).length) Slot.unset).toArray = ls at hl ⊢
  have hl : lv_has ls 3 [(0, .ref p0)] := hl
  have h0w := hts (.constant RX3 65 (268435455)) (wz_at 5 8 rfl)
  have h1w := hts (.fieldLink RX3 41 "RopeTown$Plan" "start" "I") (wz_at 2 19 rfl)
  have h2w : ∀ w ∈ wsX30, w ∈ wzX3_firstState := fun w h => List.mem_cons_of_mem _ (inlX3 w h)
  have h3w := hts (.initialized RX7) (wz_at 5 10 rfl)
  have h4w := hts (.static yX7_move) (wz_at 5 9 rfl)
  have h5w := hts (.fieldLink RX3 59 "RopeTown$Plan" "things" "I") (wz_at 3 1 rfl)
  refine lv_ldc (v := 268435455) hx hb hown h0w dX3_firstState_0 ?_
  refine lv_aload_n hx hb dX3_firstState_2 rfl (lv_at hl 0 rfl) ?_
  refine va_get (D := G) (ci := 2) (v := .int 0) (C := RX3) (T := TX3) (N := 14) (ref := RX3) hx hb hts h2w hown hX.1 hP 0 rfl rfl 1 (by decide) h1w (fun _ h9 => h9) rfl dX3_firstState_3 ?_
  refine cz_i (wr := [(p0, .inr (2, [v1, .int 0, v2, v3, v4, v5, v6, .int 0, v7, v8, v9, v10, v11, v12]))]) (va_runSN (As := [.int 268435455, .int 0]) (rest := []) ⟨hx, hb, hml, hown, hts⟩ (cX7_move_0 l G k s.heap.size) ⟨va_cnB 2 hts (gz [] (.code yX7_move cX7_move 2 (some .int)) [(5, 11)] rfl) rfl rfl rfl (nm_8 hX.2.2.1) h3w (by decide +kernel) ⟨Nat.le_of_ble_eq_true rfl, Nat.le_of_ble_eq_true rfl⟩, h4w, trivial⟩ (cz_preS hZ hS hX hP hD [] rfl rfl) rfl rfl hl.1 rfl (lv_room (Nat.le_of_ble_eq_true rfl)) dX3_firstState_6 ⟨Nat.le_of_ble_eq_true rfl, Nat.le_of_ble_eq_true rfl⟩) hP hD hS hA [] [0] rfl rfl (by decide) (by decide) (fun r u H locs hp hP hD hS => ?_)
  have hp : r = 268435455 := hp
  subst hp
  refine lv_istore_n (lv' := [(1, .int 268435455), (0, .ref p0)]) hx hb dX3_firstState_9 rfl hl (by decide) rfl (fun ls hl => ?_)
  refine lv_iconst (v := 0) hx hb dX3_firstState_10 (by decide +kernel) ?_
  refine lv_istore_n (lv' := [(2, .int 0), (1, .int 268435455), (0, .ref p0)]) hx hb dX3_firstState_11 rfl hl (by decide) rfl (fun ls hl => ?_)
  refine lv_iload_n hx hb dX3_firstState_12 rfl (lv_at hl 0 rfl) ?_
  refine lv_aload_n hx hb dX3_firstState_13 rfl (lv_at hl 2 rfl) ?_
  refine va_get (D := G) (ci := 2) (v := .int 0) (C := RX3) (T := TX3) (N := 14) (ref := RX3) hx hb hts h2w hown hX.1 hP 0 rfl rfl 7 (by decide) h5w (fun _ h9 => h9) rfl dX3_firstState_14 ?_
  refine lv_icmp_ge (tgt := 38) hx hb dX3_firstState_17 (by decide) (fun _ => ?_) (fun q => absurd (by decide +kernel) (q))
  refine lv_iload_n hx hb dX3_firstState_38 rfl (lv_at hl 1 rfl) ?_
  have hP9 := hP.sub (ws' := [(p0, .inr (2, [v1, .int 0, v2, v3, v4, v5, v6, .int 0, v7, v8, v9, v10, v11, v12]))]) [0] rfl
  have hD9 := hD.sub (ws' := [(p0, .inr (2, [v1, .int 0, v2, v3, v4, v5, v6, .int 0, v7, v8, v9, v10, v11, v12]))]) [0] (by decide) rfl
  exact W.iret (v := 268435455) hx hb hr (fun t ht hW => ⟨⟨268435455, (), rfl, rfl, by rw [ht]; exact hP9, hD9⟩, hS.F ht⟩) hS.2.2 dX3_firstState_39

set_option maxHeartbeats 4000000 in
set_option maxRecDepth 100000 in
theorem cX1_begin_0 (l : Launch) (G : va_G) (k : Nat → ClassId) (p0 : Nat) (v1 : Value) (v2 : Value) (v3 : Value) (v4 : Value) (v5 : Value) (v6 : Value) (v7 : Value) (v8 : Value) (v9 : Value) (v10 : Value) (v11 : Value) (v12 : Value) (sz : Nat) : CMv l G k yX1_begin wzX1_begin ({ frames := 0, cells := 0, slots := 0, locals := 0 }) [.ref p0, .int 268435455] sz [(p0, .inr (0, [v1, v2, v3, v4, v5, v6, v7, v8, v9, v10, v11, v12]))] (fun (u : Unit) => True) (fun (u : Unit) => [(p0, .inr (0, [.int 268435455, .int 0, .int 0, .int 0, .int 0, v6, v7, v8, v9, v10, v11, v12]))]) := by
  refine Met.ofW (cc := cX1_begin) (maxL := 2) (ret := none) (by decide) rfl ?_
  intro p e s m args below meth c s₁ B hml hv
  obtain ⟨rfl, hsz, hP, hX, hD0, hZ0⟩ := hv
  have hx := B.exec
  have hb := B.bytes
  have hr := B.returns
  have hts := atoms_spec (ws := wzX1_begin) B.pre
  have hown : s.vm.findClass RX1 = some m.cls := findClass_of_methodNamed B.named
  subst hsz
  have hD := hD0.self (sz := s.heap.size)
  have hZ := ZX.up hP hZ0
  generalize hAe : va_A [(p0, .inr (0, [v1, v2, v3, v4, v5, v6, v7, v8, v9, v10, v11, v12]))] s.heap.size = A at hD hZ ⊢
  have hA : ∀ q : Nat, s.heap.size ≤ q → A q := fun q h => by rw [← hAe]; exact Or.inr h
  have hS : va_S A s.heap s.heap [] := va_S.rf
  have hP : va_P G vwCl [(p0, .inr (0, [v1, v2, v3, v4, v5, v6, v7, v8, v9, v10, v11, v12]))] s.heap := hP
  have hl := lv_entry ([.ref p0, .int 268435455]) (n := 2) (Nat.le_of_ble_eq_true rfl)
  rw [lg_entry_eq]
  generalize (lg_sl ([.ref p0, .int 268435455]) ++ List.replicate (2 - (lg_sl ([.ref p0, .int 268435455])).length) Slot.unset).toArray = ls at hl ⊢
  have hl : lv_has ls 2 [(0, .ref p0), (1, .int 268435455)] := hl
  have h0w := hts (.fieldLink RX1 33 "RopeTown$Book" "state" "I") (wz_at 5 18 rfl)
  have h1w : ∀ w ∈ wsX10, w ∈ wzX1_begin := fun w h => List.mem_cons_of_mem _ (inlX1 w h)
  have h2w := hts (.fieldLink RX1 37 "RopeTown$Book" "moves" "I") (wz_at 5 19 rfl)
  have h3w := hts (.fieldLink RX1 40 "RopeTown$Book" "rides" "I") (wz_at 5 20 rfl)
  have h4w := hts (.fieldLink RX1 43 "RopeTown$Book" "cost" "I") (wz_at 5 21 rfl)
  have h5w := hts (.fieldLink RX1 46 "RopeTown$Book" "days" "I") (wz_at 5 22 rfl)
  refine lv_aload_n hx hb dX1_begin_0 rfl (lv_at hl 0 rfl) ?_
  refine lv_iload_n hx hb dX1_begin_1 rfl (lv_at hl 1 rfl) ?_
  refine va_put (D := G) (ci := 0) (v := .int 268435455) (ty := .int) (C := RX1) (T := TX1) (N := 12) (ref := RX1) hx hb hts h1w tyX1 tyX1_ok nmX1 hown hX.1 hP hD hS 0 rfl rfl 0 (by decide) h0w (fun _ h9 => h9) rfl (by decide +kernel) rfl rfl (Nat.le_of_ble_eq_true rfl) dX1_begin_2 (fun H locs hP hD hS => ?_)
  refine lv_aload_n hx hb dX1_begin_5 rfl (lv_at hl 0 rfl) ?_
  refine lv_iconst (v := 0) hx hb dX1_begin_6 (by decide +kernel) ?_
  refine va_put (D := G) (ci := 0) (v := .int 0) (ty := .int) (C := RX1) (T := TX1) (N := 12) (ref := RX1) hx hb hts h1w tyX1 tyX1_ok nmX1 hown hX.1 hP hD hS 0 rfl rfl 1 (by decide) h2w (fun _ h9 => h9) rfl (by decide +kernel) rfl rfl (Nat.le_of_ble_eq_true rfl) dX1_begin_7 (fun H locs hP hD hS => ?_)
  refine lv_aload_n hx hb dX1_begin_10 rfl (lv_at hl 0 rfl) ?_
  refine lv_iconst (v := 0) hx hb dX1_begin_11 (by decide +kernel) ?_
  refine va_put (D := G) (ci := 0) (v := .int 0) (ty := .int) (C := RX1) (T := TX1) (N := 12) (ref := RX1) hx hb hts h1w tyX1 tyX1_ok nmX1 hown hX.1 hP hD hS 0 rfl rfl 2 (by decide) h3w (fun _ h9 => h9) rfl (by decide +kernel) rfl rfl (Nat.le_of_ble_eq_true rfl) dX1_begin_12 (fun H locs hP hD hS => ?_)
  refine lv_aload_n hx hb dX1_begin_15 rfl (lv_at hl 0 rfl) ?_
  refine lv_iconst (v := 0) hx hb dX1_begin_16 (by decide +kernel) ?_
  refine va_put (D := G) (ci := 0) (v := .int 0) (ty := .int) (C := RX1) (T := TX1) (N := 12) (ref := RX1) hx hb hts h1w tyX1 tyX1_ok nmX1 hown hX.1 hP hD hS 0 rfl rfl 3 (by decide) h4w (fun _ h9 => h9) rfl (by decide +kernel) rfl rfl (Nat.le_of_ble_eq_true rfl) dX1_begin_17 (fun H locs hP hD hS => ?_)
  refine lv_aload_n hx hb dX1_begin_20 rfl (lv_at hl 0 rfl) ?_
  refine lv_iconst (v := 0) hx hb dX1_begin_21 (by decide +kernel) ?_
  refine va_put (D := G) (ci := 0) (v := .int 0) (ty := .int) (C := RX1) (T := TX1) (N := 12) (ref := RX1) hx hb hts h1w tyX1 tyX1_ok nmX1 hown hX.1 hP hD hS 0 rfl rfl 4 (by decide) h5w (fun _ h9 => h9) rfl (by decide +kernel) rfl rfl (Nat.le_of_ble_eq_true rfl) dX1_begin_22 (fun H locs hP hD hS => ?_)
  have hP9 := hP.sub (ws' := [(p0, .inr (0, [.int 268435455, .int 0, .int 0, .int 0, .int 0, v6, v7, v8, v9, v10, v11, v12]))]) [0] rfl
  have hD9 := hD.sub (ws' := [(p0, .inr (0, [.int 268435455, .int 0, .int 0, .int 0, .int 0, v6, v7, v8, v9, v10, v11, v12]))]) [0] (by decide) rfl
  exact W.vret hx hb hr (fun t ht hW => ⟨⟨(), rfl, trivial, by rw [ht]; exact hP9, hD9⟩, hS.F ht⟩) hS.2.2 dX1_begin_25


set_option maxHeartbeats 4000000 in
set_option maxRecDepth 100000 in
theorem cX6_init_0 (l : Launch) (G : va_G) (k : Nat → ClassId) (p0 : Nat) (p1 : Nat) (v2 : Value) (v3 : Value) (v4 : Value) (v5 : Value) (v6 : Value) (v7 : Value) (v8 : Value) (v9 : Value) (v10 : Value) (v11 : Value) (v12 : Value) (v13 : Value) (v14 : Value) (v15 : Value) (v16 : Value) (sz : Nat) : CMv l G k yX6_init wzX6_init ({ frames := 1, cells := 9, slots := 11672, locals := 12 }) [.ref p0, .ref p1] sz [(p0, .inr (5, [v2, v3, v4, v5, v6, v7, v8, v9, v10, v11, v12, v13, v14, v15, v16]))] (fun (u : Nat × Nat × Nat × Nat × Nat × Nat × Nat × Nat × Nat) => True) (fun (u : Nat × Nat × Nat × Nat × Nat × Nat × Nat × Nat × Nat) => [(p0, .inr (5, [.ref p1, .int 0, .int 0, .ref u.1, .ref u.2.1, .ref u.2.2.1, .int 0, .ref u.2.2.2.1, .ref u.2.2.2.2.1, .ref u.2.2.2.2.2.1, .ref u.2.2.2.2.2.2.1, .int 0, .int (-1), .ref u.2.2.2.2.2.2.2.1, .ref u.2.2.2.2.2.2.2.2])), (u.1, .inl (k 0, 1500, .inl (fun _ => 0))), (u.2.1, .inl (k 0, 1500, .inl (fun _ => 0))), (u.2.2.1, .inl (k 0, 1500, .inl (fun _ => 0))), (u.2.2.2.1, .inl (k 0, 1024, .inl (fun _ => 0))), (u.2.2.2.2.1, .inl (k 0, 1500, .inl (fun _ => 0))), (u.2.2.2.2.2.1, .inl (k 0, 1500, .inl (fun _ => 0))), (u.2.2.2.2.2.2.1, .inl (k 0, 1500, .inl (fun _ => 0))), (u.2.2.2.2.2.2.2.1, .inl (k 0, 7, .inl (fun _ => 0))), (u.2.2.2.2.2.2.2.2, .inl (k 0, 1641, .inl (fun _ => 0)))]) := by
  refine Met.ofW (cc := cX6_init) (maxL := 2) (ret := none) (by decide) rfl ?_
  intro p e s m args below meth c s₁ B hml hv
  obtain ⟨rfl, hsz, hP, hX, hD0, hZ0⟩ := hv
  have hx := B.exec
  have hb := B.bytes
  have hr := B.returns
  have hts := atoms_spec (ws := wzX6_init) B.pre
  have hown : s.vm.findClass RX6 = some m.cls := findClass_of_methodNamed B.named
  have hin : meth.name = "<init>" := (name_of_methodNamed B.named B.method).1
  subst hsz
  have hD := hD0.self (sz := s.heap.size)
  have hZ := ZX.up hP hZ0
  generalize hAe : va_A [(p0, .inr (5, [v2, v3, v4, v5, v6, v7, v8, v9, v10, v11, v12, v13, v14, v15, v16]))] s.heap.size = A at hD hZ ⊢
  have hA : ∀ q : Nat, s.heap.size ≤ q → A q := fun q h => by rw [← hAe]; exact Or.inr h
  have hS : va_S A s.heap s.heap [] := va_S.rf
  have hP : va_P G vwCl [(p0, .inr (5, [v2, v3, v4, v5, v6, v7, v8, v9, v10, v11, v12, v13, v14, v15, v16]))] s.heap := hP
  have hl := lv_entry ([.ref p0, .ref p1]) (n := 2) (Nat.le_of_ble_eq_true rfl)
  rw [lg_entry_eq]
  generalize (lg_sl ([.ref p0, .ref p1]) ++ List.replicate (2 - (lg_sl ([.ref p0, .ref p1])).length) Slot.unset).toArray = ls at hl ⊢
  have hl : lv_has ls 2 [(0, .ref p0), (1, .ref p1)] := hl
  have h0w := hts (.methodLink RX6 3 objectInit) (wz_at 4 13 rfl)
  have h1w := hts (.instanceMethod objectInit) (wz_at 0 11 rfl)
  have h2w := hts (.code objectInit ⟨#[0xb1]⟩ 1 none) (wz_at 0 12 rfl)
  have h3w := hts (.fieldLink RX6 9 "RopeTown$Search" "plan" "LRopeTown$Plan;") (wz_at 4 14 rfl)
  have h4w : ∀ w ∈ wsX60, w ∈ wzX6_init := fun w h => List.mem_cons_of_mem _ (inlX6 w h)
  have h5w := hts (.fieldLink RX6 15 "RopeTown$Search" "byHand" "Z") (wz_at 4 15 rfl)
  have h6w := hts (.fieldLink RX6 19 "RopeTown$Search" "isSpent" "Z") (wz_at 4 16 rfl)
  have h7w := hts (.fieldLink RX6 22 "RopeTown$Search" "size" "I") (wz_at 4 17 rfl)
  have h8w := hts (.fieldLink RX6 26 "RopeTown$Search" "waiting" "I") (wz_at 4 18 rfl)
  have h9w := hts (.fieldLink RX6 29 "RopeTown$Search" "current" "I") (wz_at 4 19 rfl)
  have h10w := hts (.arrayClass .int) (wz_at 1 12 rfl)
  have h11w := hts (.fieldLink RX6 32 "RopeTown$Search" "states" "[I") (wz_at 4 20 rfl)
  have h12w := hts (.fieldLink RX6 36 "RopeTown$Search" "costs" "[I") (wz_at 4 21 rfl)
  have h13w := hts (.fieldLink RX6 39 "RopeTown$Search" "parents" "[I") (wz_at 4 22 rfl)
  have h14w := hts (.fieldLink RX6 42 "RopeTown$Search" "heads" "[I") (wz_at 4 23 rfl)
  have h15w := hts (.fieldLink RX6 45 "RopeTown$Search" "links" "[I") (wz_at 5 0 rfl)
  have h16w := hts (.fieldLink RX6 48 "RopeTown$Search" "heap" "[I") (wz_at 5 1 rfl)
  have h17w := hts (.fieldLink RX6 51 "RopeTown$Search" "spots" "[I") (wz_at 5 2 rfl)
  have h18w := hts (.fieldLink RX6 54 "RopeTown$Search" "doors" "[I") (wz_at 5 3 rfl)
  have h19w := hts (.fieldLink RX6 57 "RopeTown$Search" "verdicts" "[I") (wz_at 5 4 rfl)
  refine lv_aload_n hx hb dX6_init_0 rfl (lv_at hl 0 rfl) ?_
  refine W.objInit hx hb hown h0w h1w h2w rfl (by rw [hml]; exact hl.1) rfl dX6_init_1 (Nat.le_of_ble_eq_true rfl) (Nat.le_of_ble_eq_true rfl) ?_
  refine W.eq (g2 := F0 m 4 ls []) rfl ?_
  refine lv_aload_n hx hb dX6_init_4 rfl (lv_at hl 0 rfl) ?_
  refine lv_aload_n hx hb dX6_init_5 rfl (lv_at hl 1 rfl) ?_
  refine va_put (D := G) (ci := 5) (v := .ref p1) (ty := .object "RopeTown$Plan") (C := RX6) (T := TX6) (N := 15) (ref := RX6) hx hb hts h4w tyX6 tyX6_ok nmX6 hown hX.1 hP hD hS 0 rfl rfl 0 (by decide) h3w (fun _ h9 => h9) rfl (by decide +kernel) rfl rfl (Nat.le_of_ble_eq_true rfl) dX6_init_6 (fun H locs hP hD hS => ?_)
  refine lv_aload_n hx hb dX6_init_9 rfl (lv_at hl 0 rfl) ?_
  refine lv_iconst (v := 0) hx hb dX6_init_10 (by decide +kernel) ?_
  refine va_put (D := G) (ci := 5) (v := .int 0) (ty := .boolean) (C := RX6) (T := TX6) (N := 15) (ref := RX6) hx hb hts h4w tyX6 tyX6_ok nmX6 hown hX.1 hP hD hS 0 rfl rfl 1 (by decide) h5w (fun _ h9 => h9) rfl (by decide +kernel) (by decide +kernel) rfl (Nat.le_of_ble_eq_true rfl) dX6_init_11 (fun H locs hP hD hS => ?_)
  refine lv_aload_n hx hb dX6_init_14 rfl (lv_at hl 0 rfl) ?_
  refine lv_iconst (v := 0) hx hb dX6_init_15 (by decide +kernel) ?_
  refine va_put (D := G) (ci := 5) (v := .int 0) (ty := .boolean) (C := RX6) (T := TX6) (N := 15) (ref := RX6) hx hb hts h4w tyX6 tyX6_ok nmX6 hown hX.1 hP hD hS 0 rfl rfl 2 (by decide) h6w (fun _ h9 => h9) rfl (by decide +kernel) (by decide +kernel) rfl (Nat.le_of_ble_eq_true rfl) dX6_init_16 (fun H locs hP hD hS => ?_)
  refine lv_aload_n hx hb dX6_init_19 rfl (lv_at hl 0 rfl) ?_
  refine lv_iconst (v := 0) hx hb dX6_init_20 (by decide +kernel) ?_
  refine va_put (D := G) (ci := 5) (v := .int 0) (ty := .int) (C := RX6) (T := TX6) (N := 15) (ref := RX6) hx hb hts h4w tyX6 tyX6_ok nmX6 hown hX.1 hP hD hS 0 rfl rfl 6 (by decide) h7w (fun _ h9 => h9) rfl (by decide +kernel) rfl rfl (Nat.le_of_ble_eq_true rfl) dX6_init_21 (fun H locs hP hD hS => ?_)
  refine lv_aload_n hx hb dX6_init_24 rfl (lv_at hl 0 rfl) ?_
  refine lv_iconst (v := 0) hx hb dX6_init_25 (by decide +kernel) ?_
  refine va_put (D := G) (ci := 5) (v := .int 0) (ty := .int) (C := RX6) (T := TX6) (N := 15) (ref := RX6) hx hb hts h4w tyX6 tyX6_ok nmX6 hown hX.1 hP hD hS 0 rfl rfl 11 (by decide) h8w (fun _ h9 => h9) rfl (by decide +kernel) rfl rfl (Nat.le_of_ble_eq_true rfl) dX6_init_26 (fun H locs hP hD hS => ?_)
  refine lv_aload_n hx hb dX6_init_29 rfl (lv_at hl 0 rfl) ?_
  refine lv_iconst (v := (-1)) hx hb dX6_init_30 (by decide +kernel) ?_
  refine va_put (D := G) (ci := 5) (v := .int (-1)) (ty := .int) (C := RX6) (T := TX6) (N := 15) (ref := RX6) hx hb hts h4w tyX6 tyX6_ok nmX6 hown hX.1 hP hD hS 0 rfl rfl 12 (by decide) h9w (fun _ h9 => h9) rfl (by decide +kernel) rfl rfl (Nat.le_of_ble_eq_true rfl) dX6_init_31 (fun H locs hP hD hS => ?_)
  obtain ⟨hP, hD⟩ : va_P G vwCl [(p0, .inr (5, [.ref p1, .int 0, .int 0, v5, v6, v7, .int 0, v9, v10, v11, v12, .int 0, .int (-1), v15, v16]))] H ∧ va_D A [(p0, .inr (5, [.ref p1, .int 0, .int 0, v5, v6, v7, .int 0, v9, v10, v11, v12, .int 0, .int (-1), v15, v16]))] := ⟨hP, hD⟩
  refine lv_aload_n hx hb dX6_init_34 rfl (lv_at hl 0 rfl) ?_
  refine lv_sipush (v := 1500) hx hb dX6_init_35 (by decide +kernel) ?_
  refine cz_newa (atype := .int) (N' := 1500) (a0 := (1500, .inl (fun _ => 0))) (ty := .int) hx hb h10w rfl hX hP hD hS hA 0 (by decide +kernel) (ha_int 1500) (by decide +kernel) (by decide +kernel) (Nat.le_of_ble_eq_true rfl) (Nat.le_of_ble_eq_true rfl) (Nat.le_of_ble_eq_true rfl) dX6_init_38 (fun a38 H hP hD hS => ?_)
  refine W.widen (k := 1) (n := 1500) (Nat.le_of_ble_eq_true rfl) (Nat.le_of_ble_eq_true rfl) ?_
  refine va_putF (D := G) (ci := 5) (v := .ref a38) (ty := .array .int) (C := RX6) (T := TX6) (N := 15) (ref := RX6) hx hb hts h4w tyX6 tyX6_ok nmX6 hown hX.1 hP hD hS 0 rfl rfl 3 (by decide) h11w (fun _ h9 => h9) rfl hin rfl (by decide +kernel) rfl rfl (Nat.le_of_ble_eq_true rfl) dX6_init_40 (fun H locs hP hD hS => ?_)
  refine lv_aload_n hx hb dX6_init_43 rfl (lv_at hl 0 rfl) ?_
  refine lv_sipush (v := 1500) hx hb dX6_init_44 (by decide +kernel) ?_
  refine cz_newa (atype := .int) (N' := 1500) (a0 := (1500, .inl (fun _ => 0))) (ty := .int) hx hb h10w rfl hX hP hD hS hA 0 (by decide +kernel) (ha_int 1500) (by decide +kernel) (by decide +kernel) (Nat.le_of_ble_eq_true rfl) (Nat.le_of_ble_eq_true rfl) (Nat.le_of_ble_eq_true rfl) dX6_init_47 (fun a47 H hP hD hS => ?_)
  refine W.widen (k := 2) (n := 3000) (Nat.le_of_ble_eq_true rfl) (Nat.le_of_ble_eq_true rfl) ?_
  refine va_putF (D := G) (ci := 5) (v := .ref a47) (ty := .array .int) (C := RX6) (T := TX6) (N := 15) (ref := RX6) hx hb hts h4w tyX6 tyX6_ok nmX6 hown hX.1 hP hD hS 0 rfl rfl 4 (by decide) h12w (fun _ h9 => h9) rfl hin rfl (by decide +kernel) rfl rfl (Nat.le_of_ble_eq_true rfl) dX6_init_49 (fun H locs hP hD hS => ?_)
  refine lv_aload_n hx hb dX6_init_52 rfl (lv_at hl 0 rfl) ?_
  refine lv_sipush (v := 1500) hx hb dX6_init_53 (by decide +kernel) ?_
  refine cz_newa (atype := .int) (N' := 1500) (a0 := (1500, .inl (fun _ => 0))) (ty := .int) hx hb h10w rfl hX hP hD hS hA 0 (by decide +kernel) (ha_int 1500) (by decide +kernel) (by decide +kernel) (Nat.le_of_ble_eq_true rfl) (Nat.le_of_ble_eq_true rfl) (Nat.le_of_ble_eq_true rfl) dX6_init_56 (fun a56 H hP hD hS => ?_)
  refine W.widen (k := 3) (n := 4500) (Nat.le_of_ble_eq_true rfl) (Nat.le_of_ble_eq_true rfl) ?_
  refine va_putF (D := G) (ci := 5) (v := .ref a56) (ty := .array .int) (C := RX6) (T := TX6) (N := 15) (ref := RX6) hx hb hts h4w tyX6 tyX6_ok nmX6 hown hX.1 hP hD hS 0 rfl rfl 5 (by decide) h13w (fun _ h9 => h9) rfl hin rfl (by decide +kernel) rfl rfl (Nat.le_of_ble_eq_true rfl) dX6_init_58 (fun H locs hP hD hS => ?_)
  obtain ⟨hP, hD⟩ : va_P G vwCl [(p0, .inr (5, [.ref p1, .int 0, .int 0, .ref a38, .ref a47, .ref a56, .int 0, v9, v10, v11, v12, .int 0, .int (-1), v15, v16])), (a38, .inl (k 0, 1500, .inl (fun _ => 0))), (a47, .inl (k 0, 1500, .inl (fun _ => 0))), (a56, .inl (k 0, 1500, .inl (fun _ => 0)))] H ∧ va_D A [(p0, .inr (5, [.ref p1, .int 0, .int 0, .ref a38, .ref a47, .ref a56, .int 0, v9, v10, v11, v12, .int 0, .int (-1), v15, v16])), (a38, .inl (k 0, 1500, .inl (fun _ => 0))), (a47, .inl (k 0, 1500, .inl (fun _ => 0))), (a56, .inl (k 0, 1500, .inl (fun _ => 0)))] := ⟨hP, hD⟩
  refine lv_aload_n hx hb dX6_init_61 rfl (lv_at hl 0 rfl) ?_
  refine lv_sipush (v := 1024) hx hb dX6_init_62 (by decide +kernel) ?_
  refine cz_newa (atype := .int) (N' := 1024) (a0 := (1024, .inl (fun _ => 0))) (ty := .int) hx hb h10w rfl hX hP hD hS hA 0 (by decide +kernel) (ha_int 1024) (by decide +kernel) (by decide +kernel) (Nat.le_of_ble_eq_true rfl) (Nat.le_of_ble_eq_true rfl) (Nat.le_of_ble_eq_true rfl) dX6_init_65 (fun a65 H hP hD hS => ?_)
  refine W.widen (k := 4) (n := 5524) (Nat.le_of_ble_eq_true rfl) (Nat.le_of_ble_eq_true rfl) ?_
  refine va_putF (D := G) (ci := 5) (v := .ref a65) (ty := .array .int) (C := RX6) (T := TX6) (N := 15) (ref := RX6) hx hb hts h4w tyX6 tyX6_ok nmX6 hown hX.1 hP hD hS 0 rfl rfl 7 (by decide) h14w (fun _ h9 => h9) rfl hin rfl (by decide +kernel) rfl rfl (Nat.le_of_ble_eq_true rfl) dX6_init_67 (fun H locs hP hD hS => ?_)
  refine lv_aload_n hx hb dX6_init_70 rfl (lv_at hl 0 rfl) ?_
  refine lv_sipush (v := 1500) hx hb dX6_init_71 (by decide +kernel) ?_
  refine cz_newa (atype := .int) (N' := 1500) (a0 := (1500, .inl (fun _ => 0))) (ty := .int) hx hb h10w rfl hX hP hD hS hA 0 (by decide +kernel) (ha_int 1500) (by decide +kernel) (by decide +kernel) (Nat.le_of_ble_eq_true rfl) (Nat.le_of_ble_eq_true rfl) (Nat.le_of_ble_eq_true rfl) dX6_init_74 (fun a74 H hP hD hS => ?_)
  refine W.widen (k := 5) (n := 7024) (Nat.le_of_ble_eq_true rfl) (Nat.le_of_ble_eq_true rfl) ?_
  refine va_putF (D := G) (ci := 5) (v := .ref a74) (ty := .array .int) (C := RX6) (T := TX6) (N := 15) (ref := RX6) hx hb hts h4w tyX6 tyX6_ok nmX6 hown hX.1 hP hD hS 0 rfl rfl 8 (by decide) h15w (fun _ h9 => h9) rfl hin rfl (by decide +kernel) rfl rfl (Nat.le_of_ble_eq_true rfl) dX6_init_76 (fun H locs hP hD hS => ?_)
  refine lv_aload_n hx hb dX6_init_79 rfl (lv_at hl 0 rfl) ?_
  refine lv_sipush (v := 1500) hx hb dX6_init_80 (by decide +kernel) ?_
  refine cz_newa (atype := .int) (N' := 1500) (a0 := (1500, .inl (fun _ => 0))) (ty := .int) hx hb h10w rfl hX hP hD hS hA 0 (by decide +kernel) (ha_int 1500) (by decide +kernel) (by decide +kernel) (Nat.le_of_ble_eq_true rfl) (Nat.le_of_ble_eq_true rfl) (Nat.le_of_ble_eq_true rfl) dX6_init_83 (fun a83 H hP hD hS => ?_)
  refine W.widen (k := 6) (n := 8524) (Nat.le_of_ble_eq_true rfl) (Nat.le_of_ble_eq_true rfl) ?_
  refine va_putF (D := G) (ci := 5) (v := .ref a83) (ty := .array .int) (C := RX6) (T := TX6) (N := 15) (ref := RX6) hx hb hts h4w tyX6 tyX6_ok nmX6 hown hX.1 hP hD hS 0 rfl rfl 9 (by decide) h16w (fun _ h9 => h9) rfl hin rfl (by decide +kernel) rfl rfl (Nat.le_of_ble_eq_true rfl) dX6_init_85 (fun H locs hP hD hS => ?_)
  obtain ⟨hP, hD⟩ : va_P G vwCl [(p0, .inr (5, [.ref p1, .int 0, .int 0, .ref a38, .ref a47, .ref a56, .int 0, .ref a65, .ref a74, .ref a83, v12, .int 0, .int (-1), v15, v16])), (a38, .inl (k 0, 1500, .inl (fun _ => 0))), (a47, .inl (k 0, 1500, .inl (fun _ => 0))), (a56, .inl (k 0, 1500, .inl (fun _ => 0))), (a65, .inl (k 0, 1024, .inl (fun _ => 0))), (a74, .inl (k 0, 1500, .inl (fun _ => 0))), (a83, .inl (k 0, 1500, .inl (fun _ => 0)))] H ∧ va_D A [(p0, .inr (5, [.ref p1, .int 0, .int 0, .ref a38, .ref a47, .ref a56, .int 0, .ref a65, .ref a74, .ref a83, v12, .int 0, .int (-1), v15, v16])), (a38, .inl (k 0, 1500, .inl (fun _ => 0))), (a47, .inl (k 0, 1500, .inl (fun _ => 0))), (a56, .inl (k 0, 1500, .inl (fun _ => 0))), (a65, .inl (k 0, 1024, .inl (fun _ => 0))), (a74, .inl (k 0, 1500, .inl (fun _ => 0))), (a83, .inl (k 0, 1500, .inl (fun _ => 0)))] := ⟨hP, hD⟩
  refine lv_aload_n hx hb dX6_init_88 rfl (lv_at hl 0 rfl) ?_
  refine lv_sipush (v := 1500) hx hb dX6_init_89 (by decide +kernel) ?_
  refine cz_newa (atype := .int) (N' := 1500) (a0 := (1500, .inl (fun _ => 0))) (ty := .int) hx hb h10w rfl hX hP hD hS hA 0 (by decide +kernel) (ha_int 1500) (by decide +kernel) (by decide +kernel) (Nat.le_of_ble_eq_true rfl) (Nat.le_of_ble_eq_true rfl) (Nat.le_of_ble_eq_true rfl) dX6_init_92 (fun a92 H hP hD hS => ?_)
  refine W.widen (k := 7) (n := 10024) (Nat.le_of_ble_eq_true rfl) (Nat.le_of_ble_eq_true rfl) ?_
  refine va_putF (D := G) (ci := 5) (v := .ref a92) (ty := .array .int) (C := RX6) (T := TX6) (N := 15) (ref := RX6) hx hb hts h4w tyX6 tyX6_ok nmX6 hown hX.1 hP hD hS 0 rfl rfl 10 (by decide) h17w (fun _ h9 => h9) rfl hin rfl (by decide +kernel) rfl rfl (Nat.le_of_ble_eq_true rfl) dX6_init_94 (fun H locs hP hD hS => ?_)
  refine lv_aload_n hx hb dX6_init_97 rfl (lv_at hl 0 rfl) ?_
  refine lv_bipush (v := 7) hx hb dX6_init_98 (by decide +kernel) ?_
  refine cz_newa (atype := .int) (N' := 7) (a0 := (7, .inl (fun _ => 0))) (ty := .int) hx hb h10w rfl hX hP hD hS hA 0 (by decide +kernel) (ha_int 7) (by decide +kernel) (by decide +kernel) (Nat.le_of_ble_eq_true rfl) (Nat.le_of_ble_eq_true rfl) (Nat.le_of_ble_eq_true rfl) dX6_init_100 (fun a100 H hP hD hS => ?_)
  refine W.widen (k := 8) (n := 10031) (Nat.le_of_ble_eq_true rfl) (Nat.le_of_ble_eq_true rfl) ?_
  refine va_putF (D := G) (ci := 5) (v := .ref a100) (ty := .array .int) (C := RX6) (T := TX6) (N := 15) (ref := RX6) hx hb hts h4w tyX6 tyX6_ok nmX6 hown hX.1 hP hD hS 0 rfl rfl 13 (by decide) h18w (fun _ h9 => h9) rfl hin rfl (by decide +kernel) rfl rfl (Nat.le_of_ble_eq_true rfl) dX6_init_102 (fun H locs hP hD hS => ?_)
  refine lv_aload_n hx hb dX6_init_105 rfl (lv_at hl 0 rfl) ?_
  refine lv_sipush (v := 1641) hx hb dX6_init_106 (by decide +kernel) ?_
  refine cz_newa (atype := .int) (N' := 1641) (a0 := (1641, .inl (fun _ => 0))) (ty := .int) hx hb h10w rfl hX hP hD hS hA 0 (by decide +kernel) (ha_int 1641) (by decide +kernel) (by decide +kernel) (Nat.le_of_ble_eq_true rfl) (Nat.le_of_ble_eq_true rfl) (Nat.le_of_ble_eq_true rfl) dX6_init_109 (fun a109 H hP hD hS => ?_)
  refine W.widen (k := 9) (n := 11672) (Nat.le_of_ble_eq_true rfl) (Nat.le_of_ble_eq_true rfl) ?_
  refine va_putF (D := G) (ci := 5) (v := .ref a109) (ty := .array .int) (C := RX6) (T := TX6) (N := 15) (ref := RX6) hx hb hts h4w tyX6 tyX6_ok nmX6 hown hX.1 hP hD hS 0 rfl rfl 14 (by decide) h19w (fun _ h9 => h9) rfl hin rfl (by decide +kernel) rfl rfl (Nat.le_of_ble_eq_true rfl) dX6_init_111 (fun H locs hP hD hS => ?_)
  obtain ⟨hP, hD⟩ : va_P G vwCl [(p0, .inr (5, [.ref p1, .int 0, .int 0, .ref a38, .ref a47, .ref a56, .int 0, .ref a65, .ref a74, .ref a83, .ref a92, .int 0, .int (-1), .ref a100, .ref a109])), (a38, .inl (k 0, 1500, .inl (fun _ => 0))), (a47, .inl (k 0, 1500, .inl (fun _ => 0))), (a56, .inl (k 0, 1500, .inl (fun _ => 0))), (a65, .inl (k 0, 1024, .inl (fun _ => 0))), (a74, .inl (k 0, 1500, .inl (fun _ => 0))), (a83, .inl (k 0, 1500, .inl (fun _ => 0))), (a92, .inl (k 0, 1500, .inl (fun _ => 0))), (a100, .inl (k 0, 7, .inl (fun _ => 0))), (a109, .inl (k 0, 1641, .inl (fun _ => 0)))] H ∧ va_D A [(p0, .inr (5, [.ref p1, .int 0, .int 0, .ref a38, .ref a47, .ref a56, .int 0, .ref a65, .ref a74, .ref a83, .ref a92, .int 0, .int (-1), .ref a100, .ref a109])), (a38, .inl (k 0, 1500, .inl (fun _ => 0))), (a47, .inl (k 0, 1500, .inl (fun _ => 0))), (a56, .inl (k 0, 1500, .inl (fun _ => 0))), (a65, .inl (k 0, 1024, .inl (fun _ => 0))), (a74, .inl (k 0, 1500, .inl (fun _ => 0))), (a83, .inl (k 0, 1500, .inl (fun _ => 0))), (a92, .inl (k 0, 1500, .inl (fun _ => 0))), (a100, .inl (k 0, 7, .inl (fun _ => 0))), (a109, .inl (k 0, 1641, .inl (fun _ => 0)))] := ⟨hP, hD⟩
  have hP9 := hP.sub (ws' := [(p0, .inr (5, [.ref p1, .int 0, .int 0, .ref a38, .ref a47, .ref a56, .int 0, .ref a65, .ref a74, .ref a83, .ref a92, .int 0, .int (-1), .ref a100, .ref a109])), (a38, .inl (k 0, 1500, .inl (fun _ => 0))), (a47, .inl (k 0, 1500, .inl (fun _ => 0))), (a56, .inl (k 0, 1500, .inl (fun _ => 0))), (a65, .inl (k 0, 1024, .inl (fun _ => 0))), (a74, .inl (k 0, 1500, .inl (fun _ => 0))), (a83, .inl (k 0, 1500, .inl (fun _ => 0))), (a92, .inl (k 0, 1500, .inl (fun _ => 0))), (a100, .inl (k 0, 7, .inl (fun _ => 0))), (a109, .inl (k 0, 1641, .inl (fun _ => 0)))]) [0, 1, 2, 3, 4, 5, 6, 7, 8, 9] rfl
  have hD9 := hD.sub (ws' := [(p0, .inr (5, [.ref p1, .int 0, .int 0, .ref a38, .ref a47, .ref a56, .int 0, .ref a65, .ref a74, .ref a83, .ref a92, .int 0, .int (-1), .ref a100, .ref a109])), (a38, .inl (k 0, 1500, .inl (fun _ => 0))), (a47, .inl (k 0, 1500, .inl (fun _ => 0))), (a56, .inl (k 0, 1500, .inl (fun _ => 0))), (a65, .inl (k 0, 1024, .inl (fun _ => 0))), (a74, .inl (k 0, 1500, .inl (fun _ => 0))), (a83, .inl (k 0, 1500, .inl (fun _ => 0))), (a92, .inl (k 0, 1500, .inl (fun _ => 0))), (a100, .inl (k 0, 7, .inl (fun _ => 0))), (a109, .inl (k 0, 1641, .inl (fun _ => 0)))]) [0, 1, 2, 3, 4, 5, 6, 7, 8, 9] (by decide) rfl
  refine W.widen (k := 9) (n := 11672) (Nat.le_of_ble_eq_true rfl) (Nat.le_of_ble_eq_true rfl) ?_
  exact W.vret hx hb hr (fun t ht hW => ⟨⟨(a38, a47, a56, a65, a74, a83, a92, a100, a109), rfl, trivial, by rw [ht]; exact hP9, hD9⟩, hS.F ht⟩) hS.2.2 dX6_init_114

set_option maxHeartbeats 4000000 in
set_option maxRecDepth 100000 in
theorem cX9_init_0 (l : Launch) (G : va_G) (k : Nat → ClassId) (p0 : Nat) (v1 : Value) (v2 : Value) (v3 : Value) (v4 : Value) (v5 : Value) (v6 : Value) (v7 : Value) (v8 : Value) (sz : Nat) : CMv l G k yX9_init wzX9_init ({ frames := 3, cells := 51, slots := 14450, locals := 60 }) [.ref p0] sz [(p0, .inr (6, [v1, v2, v3, v4, .null, .null, .null, v5, v6, v7, v8]))] (fun (u : Nat × Nat × Nat × Nat × Nat × Nat × Nat × Nat × Nat × Nat × Nat × Nat × Nat × Nat × Nat × Nat × Nat × Nat × Nat × Nat × Nat × Nat × Nat × Nat × Nat × Nat × Nat × Nat × Nat × Nat × Nat × Nat × Nat × Nat × Nat × Nat × Nat × Nat × Nat × Nat × Nat × Nat × Nat × Nat × Nat × Nat × Nat × Nat × Nat × Nat × Nat) => True) (fun (u : Nat × Nat × Nat × Nat × Nat × Nat × Nat × Nat × Nat × Nat × Nat × Nat × Nat × Nat × Nat × Nat × Nat × Nat × Nat × Nat × Nat × Nat × Nat × Nat × Nat × Nat × Nat × Nat × Nat × Nat × Nat × Nat × Nat × Nat × Nat × Nat × Nat × Nat × Nat × Nat × Nat × Nat × Nat × Nat × Nat × Nat × Nat × Nat × Nat × Nat × Nat) => ((p0, .inr (6, [.ref u.1, .int 0, .int (-1), .ref u.2.2.2.2.2.2.2.2.2.2.2.2.2.2.2.2.2.2.2.2.1, .ref u.2.2.2.2.2.2.2.2.2.2.2.2.2.2.2.2.2.2.2.2.2.2.2.2.2.2.2.2.2.2.2.2.2.2.2.2.2.2.2.2.2.2.2.2.2.2.2.2.2.1, .ref u.2.2.2.2.2.2.2.2.2.2.2.2.2.2.2.2.2.2.1, .ref u.2.2.2.2.2.2.2.2.2.2.2.2.2.2.2.2.2.2.2.2.2.2.2.2.2.2.2.2.2.2.2.2.2.2.2.2.2.2.2.2.2.2.2.2.2.2.2.2.2.2, .ref u.2.2.2.2.2.2.2.2.2.2.2.2.2.2.2.2.2.2.2.2.2.2.2.2.2.2.2.2.2.2.1, .int 0, .ref u.2.2.2.2.2.2.2.2.2.2.2.2.2.2.2.2.2.2.2.2.2.2.2.2.2.2.2.2.2.2.2.2.2.2.2.2.2.2.1, .ref u.2.2.2.2.2.2.2.2.2.2.2.2.2.2.2.2.2.2.2.2.2.2.2.2.2.2.2.2.2.2.2.2.2.2.2.2.2.2.2.2.2.2.2.2.2.2.2.2.1])) :: (u.1, .inl (k 1, 600, .inl (fun _ => 0))) :: (u.2.1, .inl (k 0, 7, .inl (fun _ => 0))) :: (u.2.2.1, .inl (k 0, 7, .inl (fun _ => 0))) :: (u.2.2.2.1, .inl (k 0, 7, .inl (fun _ => 0))) :: (u.2.2.2.2.1, .inl (k 0, 7, .inl (fun _ => 0))) :: (u.2.2.2.2.2.1, .inl (k 0, 600, .inl (fun _ => 0))) :: (u.2.2.2.2.2.2.1, .inl (k 0, 4, .inl (fun _ => 0))) :: (u.2.2.2.2.2.2.2.1, .inl (k 0, 32, .inl (fun _ => 0))) :: (u.2.2.2.2.2.2.2.2.1, .inl (k 0, 7, .inl (fun _ => 0))) :: (u.2.2.2.2.2.2.2.2.2.1, .inr (4, [.ref u.2.2.2.2.2.1, .ref u.2.2.2.2.2.2.1, .ref u.2.2.2.2.2.2.2.1, .int 0, .int 0])) :: (u.2.2.2.2.2.2.2.2.2.2.1, .inl (k 0, 7, .inl (fun _ => 0))) :: (u.2.2.2.2.2.2.2.2.2.2.2.1, .inl (k 0, 7, .inl (fun _ => 0))) :: (u.2.2.2.2.2.2.2.2.2.2.2.2.1, .inl (k 0, 7, .inl (fun _ => 0))) :: (u.2.2.2.2.2.2.2.2.2.2.2.2.2.1, .inl (k 0, 7, .inl (fun _ => 0))) :: (u.2.2.2.2.2.2.2.2.2.2.2.2.2.2.1, .inl (k 0, 600, .inl (fun _ => 0))) :: (u.2.2.2.2.2.2.2.2.2.2.2.2.2.2.2.1, .inl (k 0, 4, .inl (fun _ => 0))) :: (u.2.2.2.2.2.2.2.2.2.2.2.2.2.2.2.2.1, .inl (k 0, 32, .inl (fun _ => 0))) :: (u.2.2.2.2.2.2.2.2.2.2.2.2.2.2.2.2.2.1, .inl (k 0, 7, .inl (fun _ => 0))) :: (u.2.2.2.2.2.2.2.2.2.2.2.2.2.2.2.2.2.2.1, .inr (2, [.int 1, .int 0, .int 99, .int 0, .int 1, .int 20, .int 0, .int 0, .ref u.2.2.2.2.2.2.2.2.2.2.1, .ref u.2.2.2.2.2.2.2.2.2.2.2.1, .ref u.2.2.2.2.2.2.2.2.2.2.2.2.1, .ref u.2.2.2.2.2.2.2.2.2.2.2.2.2.1, .ref u.2.2.2.2.2.2.2.2.2.2.2.2.2.2.2.2.2.2.2.1, .ref u.2.2.2.2.2.2.2.2.2.2.2.2.2.2.2.2.2.1])) :: (u.2.2.2.2.2.2.2.2.2.2.2.2.2.2.2.2.2.2.2.1, .inr (4, [.ref u.2.2.2.2.2.2.2.2.2.2.2.2.2.2.1, .ref u.2.2.2.2.2.2.2.2.2.2.2.2.2.2.2.1, .ref u.2.2.2.2.2.2.2.2.2.2.2.2.2.2.2.2.1, .int 0, .int 0])) :: (u.2.2.2.2.2.2.2.2.2.2.2.2.2.2.2.2.2.2.2.2.1, .inr (1, [.ref u.2.2.2.2.2.2.2.2.2.2.2.2.2.2.2.2.2.2.2.2.2.1, .ref u.2.2.2.2.2.2.2.2.2.2.2.2.2.2.2.2.2.2.1, .int 0, .int 0, .int (-1)])) :: (u.2.2.2.2.2.2.2.2.2.2.2.2.2.2.2.2.2.2.2.2.2.1, .inr (3, [.ref u.2.2.2.2.2.2.2.2.2.2.2.2.2.2.2.2.2.2.2.2.2.2.1, .int 0, .int 0, .int 0, .int 0, .ref (k 9), .int 0, .int 0])) :: (u.2.2.2.2.2.2.2.2.2.2.2.2.2.2.2.2.2.2.2.2.2.2.1, .inl (k 1, 0, .inl (fun _ => 0))) :: (u.2.2.2.2.2.2.2.2.2.2.2.2.2.2.2.2.2.2.2.2.2.2.2.1, .inl (k 0, 60, .inl (fun _ => 0))) :: (u.2.2.2.2.2.2.2.2.2.2.2.2.2.2.2.2.2.2.2.2.2.2.2.2.1, .inl (k 0, 60, .inl (fun _ => 0))) :: (u.2.2.2.2.2.2.2.2.2.2.2.2.2.2.2.2.2.2.2.2.2.2.2.2.2.1, .inl (k 0, 60, .inl (fun _ => 0))) :: (u.2.2.2.2.2.2.2.2.2.2.2.2.2.2.2.2.2.2.2.2.2.2.2.2.2.2.1, .inl (k 0, 60, .inl (fun _ => 0))) :: (u.2.2.2.2.2.2.2.2.2.2.2.2.2.2.2.2.2.2.2.2.2.2.2.2.2.2.2.1, .inl (k 0, 60, .inl (fun _ => 0))) :: (u.2.2.2.2.2.2.2.2.2.2.2.2.2.2.2.2.2.2.2.2.2.2.2.2.2.2.2.2.1, .inl (k 0, 6, .inl (fun _ => 0))) :: (u.2.2.2.2.2.2.2.2.2.2.2.2.2.2.2.2.2.2.2.2.2.2.2.2.2.2.2.2.2.1, .inl (k 0, 3, .inl (fun _ => 0))) :: (u.2.2.2.2.2.2.2.2.2.2.2.2.2.2.2.2.2.2.2.2.2.2.2.2.2.2.2.2.2.2.1, .inr (0, [.int 0, .int 0, .int 0, .int 0, .int 0, .ref u.2.2.2.2.2.2.2.2.2.2.2.2.2.2.2.2.2.2.2.2.2.2.2.2.2.2.2.2.2.2.2.1, .ref u.2.2.2.2.2.2.2.2.2.2.2.2.2.2.2.2.2.2.2.2.2.2.2.2.2.2.2.2.2.2.2.2.1, .ref u.2.2.2.2.2.2.2.2.2.2.2.2.2.2.2.2.2.2.2.2.2.2.2.2.2.2.2.2.2.2.2.2.2.1, .ref u.2.2.2.2.2.2.2.2.2.2.2.2.2.2.2.2.2.2.2.2.2.2.2.2.2.2.2.2.2.2.2.2.2.2.1, .ref u.2.2.2.2.2.2.2.2.2.2.2.2.2.2.2.2.2.2.2.2.2.2.2.2.2.2.2.2.2.2.2.2.2.2.2.1, .ref u.2.2.2.2.2.2.2.2.2.2.2.2.2.2.2.2.2.2.2.2.2.2.2.2.2.2.2.2.2.2.2.2.2.2.2.2.1, .ref u.2.2.2.2.2.2.2.2.2.2.2.2.2.2.2.2.2.2.2.2.2.2.2.2.2.2.2.2.2.2.2.2.2.2.2.2.2.1])) :: (u.2.2.2.2.2.2.2.2.2.2.2.2.2.2.2.2.2.2.2.2.2.2.2.2.2.2.2.2.2.2.2.1, .inl (k 0, 60, .inl (fun _ => 0))) :: (u.2.2.2.2.2.2.2.2.2.2.2.2.2.2.2.2.2.2.2.2.2.2.2.2.2.2.2.2.2.2.2.2.1, .inl (k 0, 60, .inl (fun _ => 0))) :: (u.2.2.2.2.2.2.2.2.2.2.2.2.2.2.2.2.2.2.2.2.2.2.2.2.2.2.2.2.2.2.2.2.2.1, .inl (k 0, 60, .inl (fun _ => 0))) :: (u.2.2.2.2.2.2.2.2.2.2.2.2.2.2.2.2.2.2.2.2.2.2.2.2.2.2.2.2.2.2.2.2.2.2.1, .inl (k 0, 60, .inl (fun _ => 0))) :: (u.2.2.2.2.2.2.2.2.2.2.2.2.2.2.2.2.2.2.2.2.2.2.2.2.2.2.2.2.2.2.2.2.2.2.2.1, .inl (k 0, 60, .inl (fun _ => 0))) :: (u.2.2.2.2.2.2.2.2.2.2.2.2.2.2.2.2.2.2.2.2.2.2.2.2.2.2.2.2.2.2.2.2.2.2.2.2.1, .inl (k 0, 6, .inl (fun _ => 0))) :: (u.2.2.2.2.2.2.2.2.2.2.2.2.2.2.2.2.2.2.2.2.2.2.2.2.2.2.2.2.2.2.2.2.2.2.2.2.2.1, .inl (k 0, 3, .inl (fun _ => 0))) :: (u.2.2.2.2.2.2.2.2.2.2.2.2.2.2.2.2.2.2.2.2.2.2.2.2.2.2.2.2.2.2.2.2.2.2.2.2.2.2.1, .inr (5, [.ref u.2.2.2.2.2.2.2.2.2.2.2.2.2.2.2.2.2.2.2.2.2.2.2.2.2.2.2.2.2.2.2.2.2.2.2.2.2.2.2.2.2.2.2.2.2.2.2.2.2.1, .int 0, .int 0, .ref u.2.2.2.2.2.2.2.2.2.2.2.2.2.2.2.2.2.2.2.2.2.2.2.2.2.2.2.2.2.2.2.2.2.2.2.2.2.2.2.1, .ref u.2.2.2.2.2.2.2.2.2.2.2.2.2.2.2.2.2.2.2.2.2.2.2.2.2.2.2.2.2.2.2.2.2.2.2.2.2.2.2.2.1, .ref u.2.2.2.2.2.2.2.2.2.2.2.2.2.2.2.2.2.2.2.2.2.2.2.2.2.2.2.2.2.2.2.2.2.2.2.2.2.2.2.2.2.1, .int 0, .ref u.2.2.2.2.2.2.2.2.2.2.2.2.2.2.2.2.2.2.2.2.2.2.2.2.2.2.2.2.2.2.2.2.2.2.2.2.2.2.2.2.2.2.1, .ref u.2.2.2.2.2.2.2.2.2.2.2.2.2.2.2.2.2.2.2.2.2.2.2.2.2.2.2.2.2.2.2.2.2.2.2.2.2.2.2.2.2.2.2.1, .ref u.2.2.2.2.2.2.2.2.2.2.2.2.2.2.2.2.2.2.2.2.2.2.2.2.2.2.2.2.2.2.2.2.2.2.2.2.2.2.2.2.2.2.2.2.1, .ref u.2.2.2.2.2.2.2.2.2.2.2.2.2.2.2.2.2.2.2.2.2.2.2.2.2.2.2.2.2.2.2.2.2.2.2.2.2.2.2.2.2.2.2.2.2.1, .int 0, .int (-1), .ref u.2.2.2.2.2.2.2.2.2.2.2.2.2.2.2.2.2.2.2.2.2.2.2.2.2.2.2.2.2.2.2.2.2.2.2.2.2.2.2.2.2.2.2.2.2.2.1, .ref u.2.2.2.2.2.2.2.2.2.2.2.2.2.2.2.2.2.2.2.2.2.2.2.2.2.2.2.2.2.2.2.2.2.2.2.2.2.2.2.2.2.2.2.2.2.2.2.1])) :: (u.2.2.2.2.2.2.2.2.2.2.2.2.2.2.2.2.2.2.2.2.2.2.2.2.2.2.2.2.2.2.2.2.2.2.2.2.2.2.2.1, .inl (k 0, 1500, .inl (fun _ => 0))) :: (u.2.2.2.2.2.2.2.2.2.2.2.2.2.2.2.2.2.2.2.2.2.2.2.2.2.2.2.2.2.2.2.2.2.2.2.2.2.2.2.2.1, .inl (k 0, 1500, .inl (fun _ => 0))) :: (u.2.2.2.2.2.2.2.2.2.2.2.2.2.2.2.2.2.2.2.2.2.2.2.2.2.2.2.2.2.2.2.2.2.2.2.2.2.2.2.2.2.1, .inl (k 0, 1500, .inl (fun _ => 0))) :: (u.2.2.2.2.2.2.2.2.2.2.2.2.2.2.2.2.2.2.2.2.2.2.2.2.2.2.2.2.2.2.2.2.2.2.2.2.2.2.2.2.2.2.1, .inl (k 0, 1024, .inl (fun _ => 0))) :: (u.2.2.2.2.2.2.2.2.2.2.2.2.2.2.2.2.2.2.2.2.2.2.2.2.2.2.2.2.2.2.2.2.2.2.2.2.2.2.2.2.2.2.2.1, .inl (k 0, 1500, .inl (fun _ => 0))) :: (u.2.2.2.2.2.2.2.2.2.2.2.2.2.2.2.2.2.2.2.2.2.2.2.2.2.2.2.2.2.2.2.2.2.2.2.2.2.2.2.2.2.2.2.2.1, .inl (k 0, 1500, .inl (fun _ => 0))) :: (u.2.2.2.2.2.2.2.2.2.2.2.2.2.2.2.2.2.2.2.2.2.2.2.2.2.2.2.2.2.2.2.2.2.2.2.2.2.2.2.2.2.2.2.2.2.1, .inl (k 0, 1500, .inl (fun _ => 0))) :: (u.2.2.2.2.2.2.2.2.2.2.2.2.2.2.2.2.2.2.2.2.2.2.2.2.2.2.2.2.2.2.2.2.2.2.2.2.2.2.2.2.2.2.2.2.2.2.1, .inl (k 0, 7, .inl (fun _ => 0))) :: (u.2.2.2.2.2.2.2.2.2.2.2.2.2.2.2.2.2.2.2.2.2.2.2.2.2.2.2.2.2.2.2.2.2.2.2.2.2.2.2.2.2.2.2.2.2.2.2.1, .inl (k 0, 1641, .inl (fun _ => 0))) :: (u.2.2.2.2.2.2.2.2.2.2.2.2.2.2.2.2.2.2.2.2.2.2.2.2.2.2.2.2.2.2.2.2.2.2.2.2.2.2.2.2.2.2.2.2.2.2.2.2.1, .inl (k 0, 128, .inl (fun _ => 0))) :: (u.2.2.2.2.2.2.2.2.2.2.2.2.2.2.2.2.2.2.2.2.2.2.2.2.2.2.2.2.2.2.2.2.2.2.2.2.2.2.2.2.2.2.2.2.2.2.2.2.2.1, .inr (2, [.int 1, .int 0, .int 99, .int 0, .int 1, .int 20, .int 0, .int 0, .ref u.2.1, .ref u.2.2.1, .ref u.2.2.2.1, .ref u.2.2.2.2.1, .ref u.2.2.2.2.2.2.2.2.2.1, .ref u.2.2.2.2.2.2.2.2.1])) :: (u.2.2.2.2.2.2.2.2.2.2.2.2.2.2.2.2.2.2.2.2.2.2.2.2.2.2.2.2.2.2.2.2.2.2.2.2.2.2.2.2.2.2.2.2.2.2.2.2.2.2, .inr (0, [.int 268435455, .int 0, .int 0, .int 0, .int 0, .ref u.2.2.2.2.2.2.2.2.2.2.2.2.2.2.2.2.2.2.2.2.2.2.2.1, .ref u.2.2.2.2.2.2.2.2.2.2.2.2.2.2.2.2.2.2.2.2.2.2.2.2.1, .ref u.2.2.2.2.2.2.2.2.2.2.2.2.2.2.2.2.2.2.2.2.2.2.2.2.2.1, .ref u.2.2.2.2.2.2.2.2.2.2.2.2.2.2.2.2.2.2.2.2.2.2.2.2.2.2.1, .ref u.2.2.2.2.2.2.2.2.2.2.2.2.2.2.2.2.2.2.2.2.2.2.2.2.2.2.2.1, .ref u.2.2.2.2.2.2.2.2.2.2.2.2.2.2.2.2.2.2.2.2.2.2.2.2.2.2.2.2.1, .ref u.2.2.2.2.2.2.2.2.2.2.2.2.2.2.2.2.2.2.2.2.2.2.2.2.2.2.2.2.2.1])) :: [])) := by
  refine Met.ofW (cc := cX9_init) (maxL := 1) (ret := none) (by decide) rfl ?_
  intro p e s m args below meth c s₁ B hml hv
  obtain ⟨rfl, hsz, hP, hX, hD0, hZ0⟩ := hv
  have hx := B.exec
  have hb := B.bytes
  have hr := B.returns
  have hts := atoms_spec (ws := wzX9_init) B.pre
  have hown : s.vm.findClass RX9 = some m.cls := findClass_of_methodNamed B.named
  have hin : meth.name = "<init>" := (name_of_methodNamed B.named B.method).1
  subst hsz
  have hD := hD0.self (sz := s.heap.size)
  have hZ := ZX.up hP hZ0
  generalize hAe : va_A [(p0, .inr (6, [v1, v2, v3, v4, .null, .null, .null, v5, v6, v7, v8]))] s.heap.size = A at hD hZ ⊢
  have hA : ∀ q : Nat, s.heap.size ≤ q → A q := fun q h => by rw [← hAe]; exact Or.inr h
  have hS : va_S A s.heap s.heap [] := va_S.rf
  have hP : va_P G vwCl [(p0, .inr (6, [v1, v2, v3, v4, .null, .null, .null, v5, v6, v7, v8]))] s.heap := hP
  have hl := lv_entry ([.ref p0]) (n := 1) (Nat.le_of_ble_eq_true rfl)
  rw [lg_entry_eq]
  generalize (lg_sl ([.ref p0]) ++ List.replicate (1 - (lg_sl ([.ref p0])).length) Slot.unset).toArray = ls at hl ⊢
  have hl : lv_has ls 1 [(0, .ref p0)] := hl
  have h0w := hts (.methodLink RX9 1 objectInit) (wz_at 0 10 rfl)
  have h1w := hts (.instanceMethod objectInit) (wz_at 0 11 rfl)
  have h2w := hts (.code objectInit ⟨#[0xb1]⟩ 1 none) (wz_at 0 12 rfl)
  have h3w := hts (.arrayClass .byte) (wz_at 0 13 rfl)
  have h4w := hts (.fieldLink RX9 9 "RopeTown" "tape" "[B") (wz_at 0 14 rfl)
  have h5w : ∀ w ∈ wsX90, w ∈ wzX9_init := fun w h => List.mem_cons_of_mem _ (inlX9 w h)
  have h6w := hts (.fieldLink RX9 13 "RopeTown" "fed" "I") (wz_at 0 15 rfl)
  have h7w := hts (.fieldLink RX9 17 "RopeTown" "faultPlace" "I") (wz_at 0 16 rfl)
  have h8w := hts (.classLink RX9 20 RX3) (wz_at 0 17 rfl)
  have h9w := hts (.instantiable RX3 14) (wz_at 0 18 rfl)
  have h10w := hts (.initialized RX3) (wz_at 0 19 rfl)
  have h11w : ∀ w ∈ wsX30, w ∈ wzX9_init := fun w h => List.mem_cons_of_mem _ (inlX3 w h)
  have h12w := hts (.instanceMethod yX3_init) (wz_at 1 14 rfl)
  have h13w := hts (.fieldLink RX9 23 "RopeTown" "plan" "LRopeTown$Plan;") (wz_at 0 20 rfl)
  have h14w := hts (.fieldLink RX9 27 "RopeTown" "draft" "LRopeTown$Plan;") (wz_at 0 21 rfl)
  have h15w := hts (.classLink RX9 30 RX2) (wz_at 0 22 rfl)
  have h16w := hts (.instantiable RX2 5) (wz_at 0 23 rfl)
  have h17w := hts (.initialized RX2) (wz_at 1 0 rfl)
  have h18w : ∀ w ∈ wsX20, w ∈ wzX9_init := fun w h => List.mem_cons_of_mem _ (inlX2 w h)
  have h19w := hts (.instanceMethod yX2_init) (wz_at 3 2 rfl)
  have h20w := hts (.fieldLink RX9 35 "RopeTown" "parser" "LRopeTown$Parser;") (wz_at 1 1 rfl)
  have h21w := hts (.classLink RX9 39 RX1) (wz_at 1 2 rfl)
  have h22w := hts (.instantiable RX1 12) (wz_at 1 3 rfl)
  have h23w := hts (.initialized RX1) (wz_at 1 4 rfl)
  have h24w : ∀ w ∈ wsX10, w ∈ wzX9_init := fun w h => List.mem_cons_of_mem _ (inlX1 w h)
  have h25w := hts (.instanceMethod yX1_init) (wz_at 4 1 rfl)
  have h26w := hts (.fieldLink RX9 42 "RopeTown" "book" "LRopeTown$Book;") (wz_at 1 5 rfl)
  have h27w := hts (.fieldLink RX9 46 "RopeTown" "kept" "LRopeTown$Book;") (wz_at 1 6 rfl)
  have h28w := hts (.fieldLink RX9 49 "RopeTown" "isKept" "Z") (wz_at 1 7 rfl)
  have h29w := hts (.classLink RX9 53 RX6) (wz_at 1 8 rfl)
  have h30w := hts (.instantiable RX6 15) (wz_at 1 9 rfl)
  have h31w := hts (.initialized RX6) (wz_at 1 10 rfl)
  have h32w : ∀ w ∈ wsX60, w ∈ wzX9_init := fun w h => List.mem_cons_of_mem _ (inlX6 w h)
  have h33w := hts (.instanceMethod yX6_init) (wz_at 4 11 rfl)
  have h34w := hts (.fieldLink RX9 56 "RopeTown" "search" "LRopeTown$Search;") (wz_at 1 11 rfl)
  have h35w := hts (.arrayClass .int) (wz_at 1 12 rfl)
  have h36w := hts (.fieldLink RX9 60 "RopeTown" "ways" "[I") (wz_at 1 13 rfl)
  have h37w := hts (.instanceMethod yX3_firstState) (wz_at 5 5 rfl)
  have h38w := hts (.selects RX3 yX3_firstState yX3_firstState) (wz_at 5 6 rfl)
  have h39w := hts (.instanceMethod yX1_begin) (wz_at 5 15 rfl)
  have h40w := hts (.selects RX1 yX1_begin yX1_begin) (wz_at 5 16 rfl)
  refine lv_aload_n hx hb dX9_init_0 rfl (lv_at hl 0 rfl) ?_
  refine W.objInit hx hb hown h0w h1w h2w rfl (by rw [hml]; exact hl.1) rfl dX9_init_1 (Nat.le_of_ble_eq_true rfl) (Nat.le_of_ble_eq_true rfl) ?_
  refine W.eq (g2 := F0 m 4 ls []) rfl ?_
  refine lv_aload_n hx hb dX9_init_4 rfl (lv_at hl 0 rfl) ?_
  refine lv_sipush (v := 600) hx hb dX9_init_5 (by decide +kernel) ?_
  refine cz_newa (atype := .byte) (N' := 600) (a0 := (600, .inl (fun _ => 0))) (ty := .byte) hx hb h3w rfl hX hP hD hS hA 1 (by decide +kernel) (ha_byte 600) (by decide +kernel) (by decide +kernel) (Nat.le_of_ble_eq_true rfl) (Nat.le_of_ble_eq_true rfl) (Nat.le_of_ble_eq_true rfl) dX9_init_8 (fun a8 H hP hD hS => ?_)
  refine W.widen (k := 1) (n := 600) (Nat.le_of_ble_eq_true rfl) (Nat.le_of_ble_eq_true rfl) ?_
  refine va_putF (D := G) (ci := 6) (v := .ref a8) (ty := .array .byte) (C := RX9) (T := TX9) (N := 11) (ref := RX9) hx hb hts h5w tyX9 tyX9_ok nmX9 hown hX.1 hP hD hS 0 rfl rfl 0 (by decide) h4w (fun _ h9 => h9) rfl hin rfl (by decide +kernel) rfl rfl (Nat.le_of_ble_eq_true rfl) dX9_init_10 (fun H locs hP hD hS => ?_)
  refine lv_aload_n hx hb dX9_init_13 rfl (lv_at hl 0 rfl) ?_
  refine lv_iconst (v := 0) hx hb dX9_init_14 (by decide +kernel) ?_
  refine va_put (D := G) (ci := 6) (v := .int 0) (ty := .int) (C := RX9) (T := TX9) (N := 11) (ref := RX9) hx hb hts h5w tyX9 tyX9_ok nmX9 hown hX.1 hP hD hS 0 rfl rfl 1 (by decide) h6w (fun _ h9 => h9) rfl (by decide +kernel) rfl rfl (Nat.le_of_ble_eq_true rfl) dX9_init_15 (fun H locs hP hD hS => ?_)
  refine lv_aload_n hx hb dX9_init_18 rfl (lv_at hl 0 rfl) ?_
  refine lv_iconst (v := (-1)) hx hb dX9_init_19 (by decide +kernel) ?_
  refine va_put (D := G) (ci := 6) (v := .int (-1)) (ty := .int) (C := RX9) (T := TX9) (N := 11) (ref := RX9) hx hb hts h5w tyX9 tyX9_ok nmX9 hown hX.1 hP hD hS 0 rfl rfl 2 (by decide) h7w (fun _ h9 => h9) rfl (by decide +kernel) rfl rfl (Nat.le_of_ble_eq_true rfl) dX9_init_20 (fun H locs hP hD hS => ?_)
  refine lv_aload_n hx hb dX9_init_23 rfl (lv_at hl 0 rfl) ?_
  refine va_new (ci := 2) (fs := [.int 0, .int 0, .int 0, .int 0, .int 0, .int 0, .int 0, .int 0, .null, .null, .null, .null, .null, .null]) (C := RX3) (T := TX3) (N := 14) hx hb hts h11w tyX3 tyX3_ok hown h8w h9w h10w hX.1 hP hD hS hA rfl (cz_dvX3) (Nat.le_of_ble_eq_true rfl) (Nat.le_of_ble_eq_true rfl) dX9_init_24 (fun a24 H hP hD hS => ?_)
  refine W.widen (k := 2) (n := 614) (Nat.le_of_ble_eq_true rfl) (Nat.le_of_ble_eq_true rfl) ?_
  refine lv_dup hx hb dX9_init_27 rfl ?_
  refine cz_v (wr := [(p0, .inr (6, [.ref a8, .int 0, .int (-1), v4, .null, .null, .null, v5, v6, v7, v8])), (a8, .inl (k 1, 600, .inl (fun _ => 0)))]) (va_runIN (As := []) (rest := [.ref a24, .ref p0]) ⟨hx, hb, hml, hown, hts⟩ (cX3_init_0 l G k a24 (.int 0) (.int 0) (.int 0) (.int 0) (.int 0) (.int 0) (.int 0) (.int 0) (.null) (.null) (.null) (.null) (.null) H.size) ⟨va_cnB 0 hts (gz [] (.code yX3_init cX3_init 1 none) [(1, 15)] rfl) rfl rfl rfl (nm_0 hX.2.2.1) h10w (by decide +kernel) ⟨Nat.le_of_ble_eq_true rfl, Nat.le_of_ble_eq_true rfl⟩, rfl, h12w⟩ (cz_preS hZ hS hX hP hD [2] rfl rfl) rfl rfl hl.1 rfl (lv_room (Nat.le_of_ble_eq_true rfl)) dX9_init_28 ⟨Nat.le_of_ble_eq_true rfl, Nat.le_of_ble_eq_true rfl⟩) hP hD hS hA [2] [0, 1] rfl rfl (by decide) (by decide) (fun u H locs hp hP hD hS => ?_)
  obtain ⟨q_1, q_2, q_3, q_4, q_5, q_6, q_7, q_8, q_9⟩ := u
  obtain ⟨hP, hD⟩ : va_P G vwCl [(p0, .inr (6, [.ref a8, .int 0, .int (-1), v4, .null, .null, .null, v5, v6, v7, v8])), (a8, .inl (k 1, 600, .inl (fun _ => 0))), (q_1, .inl (k 0, 7, .inl (fun _ => 0))), (q_2, .inl (k 0, 7, .inl (fun _ => 0))), (q_3, .inl (k 0, 7, .inl (fun _ => 0))), (q_4, .inl (k 0, 7, .inl (fun _ => 0))), (q_5, .inl (k 0, 600, .inl (fun _ => 0))), (q_6, .inl (k 0, 4, .inl (fun _ => 0))), (q_7, .inl (k 0, 32, .inl (fun _ => 0))), (q_8, .inl (k 0, 7, .inl (fun _ => 0))), (a24, .inr (2, [.int 1, .int 0, .int 99, .int 0, .int 1, .int 20, .int 0, .int 0, .ref q_1, .ref q_2, .ref q_3, .ref q_4, .ref q_9, .ref q_8])), (q_9, .inr (4, [.ref q_5, .ref q_6, .ref q_7, .int 0, .int 0]))] H ∧ va_D A [(p0, .inr (6, [.ref a8, .int 0, .int (-1), v4, .null, .null, .null, v5, v6, v7, v8])), (a8, .inl (k 1, 600, .inl (fun _ => 0))), (q_1, .inl (k 0, 7, .inl (fun _ => 0))), (q_2, .inl (k 0, 7, .inl (fun _ => 0))), (q_3, .inl (k 0, 7, .inl (fun _ => 0))), (q_4, .inl (k 0, 7, .inl (fun _ => 0))), (q_5, .inl (k 0, 600, .inl (fun _ => 0))), (q_6, .inl (k 0, 4, .inl (fun _ => 0))), (q_7, .inl (k 0, 32, .inl (fun _ => 0))), (q_8, .inl (k 0, 7, .inl (fun _ => 0))), (a24, .inr (2, [.int 1, .int 0, .int 99, .int 0, .int 1, .int 20, .int 0, .int 0, .ref q_1, .ref q_2, .ref q_3, .ref q_4, .ref q_9, .ref q_8])), (q_9, .inr (4, [.ref q_5, .ref q_6, .ref q_7, .int 0, .int 0]))] := ⟨hP, hD⟩
  refine W.widen (k := 11) (n := 1290) (Nat.le_of_ble_eq_true rfl) (Nat.le_of_ble_eq_true rfl) ?_
  refine va_put (D := G) (ci := 6) (v := .ref a24) (ty := .object "RopeTown$Plan") (C := RX9) (T := TX9) (N := 11) (ref := RX9) hx hb hts h5w tyX9 tyX9_ok nmX9 hown hX.1 hP hD hS 0 rfl rfl 4 (by decide) h13w (fun _ h9 => h9) rfl (by decide +kernel) rfl rfl (Nat.le_of_ble_eq_true rfl) dX9_init_31 (fun H locs hP hD hS => ?_)
  refine lv_aload_n hx hb dX9_init_34 rfl (lv_at hl 0 rfl) ?_
  refine va_new (ci := 2) (fs := [.int 0, .int 0, .int 0, .int 0, .int 0, .int 0, .int 0, .int 0, .null, .null, .null, .null, .null, .null]) (C := RX3) (T := TX3) (N := 14) hx hb hts h11w tyX3 tyX3_ok hown h8w h9w h10w hX.1 hP hD hS hA rfl (cz_dvX3) (Nat.le_of_ble_eq_true rfl) (Nat.le_of_ble_eq_true rfl) dX9_init_35 (fun a35 H hP hD hS => ?_)
  refine W.widen (k := 12) (n := 1304) (Nat.le_of_ble_eq_true rfl) (Nat.le_of_ble_eq_true rfl) ?_
  refine lv_dup hx hb dX9_init_38 rfl ?_
  refine cz_v (wr := [(p0, .inr (6, [.ref a8, .int 0, .int (-1), v4, .ref a24, .null, .null, v5, v6, v7, v8])), (a8, .inl (k 1, 600, .inl (fun _ => 0))), (q_1, .inl (k 0, 7, .inl (fun _ => 0))), (q_2, .inl (k 0, 7, .inl (fun _ => 0))), (q_3, .inl (k 0, 7, .inl (fun _ => 0))), (q_4, .inl (k 0, 7, .inl (fun _ => 0))), (q_5, .inl (k 0, 600, .inl (fun _ => 0))), (q_6, .inl (k 0, 4, .inl (fun _ => 0))), (q_7, .inl (k 0, 32, .inl (fun _ => 0))), (q_8, .inl (k 0, 7, .inl (fun _ => 0))), (a24, .inr (2, [.int 1, .int 0, .int 99, .int 0, .int 1, .int 20, .int 0, .int 0, .ref q_1, .ref q_2, .ref q_3, .ref q_4, .ref q_9, .ref q_8])), (q_9, .inr (4, [.ref q_5, .ref q_6, .ref q_7, .int 0, .int 0]))]) (va_runIN (As := []) (rest := [.ref a35, .ref p0]) ⟨hx, hb, hml, hown, hts⟩ (cX3_init_0 l G k a35 (.int 0) (.int 0) (.int 0) (.int 0) (.int 0) (.int 0) (.int 0) (.int 0) (.null) (.null) (.null) (.null) (.null) H.size) ⟨va_cnB 0 hts (gz [] (.code yX3_init cX3_init 1 none) [(1, 15)] rfl) rfl rfl rfl (nm_0 hX.2.2.1) h10w (by decide +kernel) ⟨Nat.le_of_ble_eq_true rfl, Nat.le_of_ble_eq_true rfl⟩, rfl, h12w⟩ (cz_preS hZ hS hX hP hD [12] rfl rfl) rfl rfl hl.1 rfl (lv_room (Nat.le_of_ble_eq_true rfl)) dX9_init_39 ⟨Nat.le_of_ble_eq_true rfl, Nat.le_of_ble_eq_true rfl⟩) hP hD hS hA [12] [0, 1, 2, 3, 4, 5, 6, 7, 8, 9, 10, 11] rfl rfl (by decide) (by decide) (fun u H locs hp hP hD hS => ?_)
  obtain ⟨q_10, q_11, q_12, q_13, q_14, q_15, q_16, q_17, q_18⟩ := u
  refine W.widen (k := 21) (n := 1980) (Nat.le_of_ble_eq_true rfl) (Nat.le_of_ble_eq_true rfl) ?_
  refine va_put (D := G) (ci := 6) (v := .ref a35) (ty := .object "RopeTown$Plan") (C := RX9) (T := TX9) (N := 11) (ref := RX9) hx hb hts h5w tyX9 tyX9_ok nmX9 hown hX.1 hP hD hS 0 rfl rfl 5 (by decide) h14w (fun _ h9 => h9) rfl (by decide +kernel) rfl rfl (Nat.le_of_ble_eq_true rfl) dX9_init_42 (fun H locs hP hD hS => ?_)
  refine lv_aload_n hx hb dX9_init_45 rfl (lv_at hl 0 rfl) ?_
  refine va_new (ci := 1) (fs := [.null, .null, .int 0, .int 0, .int 0]) (C := RX2) (T := TX2) (N := 5) hx hb hts h18w tyX2 tyX2_ok hown h15w h16w h17w hX.1 hP hD hS hA rfl (cz_dvX2) (Nat.le_of_ble_eq_true rfl) (Nat.le_of_ble_eq_true rfl) dX9_init_46 (fun a46 H hP hD hS => ?_)
  refine W.widen (k := 22) (n := 1985) (Nat.le_of_ble_eq_true rfl) (Nat.le_of_ble_eq_true rfl) ?_
  refine lv_dup hx hb dX9_init_49 rfl ?_
  refine lv_aload_n hx hb dX9_init_50 rfl (lv_at hl 0 rfl) ?_
  refine va_get (D := G) (ci := 6) (v := .ref a35) (C := RX9) (T := TX9) (N := 11) (ref := RX9) hx hb hts h5w hown hX.1 hP 0 rfl rfl 5 (by decide) h14w (fun _ h9 => h9) rfl dX9_init_51 ?_
  refine cz_v (wr := [(p0, .inr (6, [.ref a8, .int 0, .int (-1), v4, .ref a24, .ref a35, .null, v5, v6, v7, v8])), (a8, .inl (k 1, 600, .inl (fun _ => 0))), (q_1, .inl (k 0, 7, .inl (fun _ => 0))), (q_2, .inl (k 0, 7, .inl (fun _ => 0))), (q_3, .inl (k 0, 7, .inl (fun _ => 0))), (q_4, .inl (k 0, 7, .inl (fun _ => 0))), (q_5, .inl (k 0, 600, .inl (fun _ => 0))), (q_6, .inl (k 0, 4, .inl (fun _ => 0))), (q_7, .inl (k 0, 32, .inl (fun _ => 0))), (q_8, .inl (k 0, 7, .inl (fun _ => 0))), (a24, .inr (2, [.int 1, .int 0, .int 99, .int 0, .int 1, .int 20, .int 0, .int 0, .ref q_1, .ref q_2, .ref q_3, .ref q_4, .ref q_9, .ref q_8])), (q_9, .inr (4, [.ref q_5, .ref q_6, .ref q_7, .int 0, .int 0])), (q_10, .inl (k 0, 7, .inl (fun _ => 0))), (q_11, .inl (k 0, 7, .inl (fun _ => 0))), (q_12, .inl (k 0, 7, .inl (fun _ => 0))), (q_13, .inl (k 0, 7, .inl (fun _ => 0))), (q_14, .inl (k 0, 600, .inl (fun _ => 0))), (q_15, .inl (k 0, 4, .inl (fun _ => 0))), (q_16, .inl (k 0, 32, .inl (fun _ => 0))), (q_17, .inl (k 0, 7, .inl (fun _ => 0))), (a35, .inr (2, [.int 1, .int 0, .int 99, .int 0, .int 1, .int 20, .int 0, .int 0, .ref q_10, .ref q_11, .ref q_12, .ref q_13, .ref q_18, .ref q_17])), (q_18, .inr (4, [.ref q_14, .ref q_15, .ref q_16, .int 0, .int 0]))]) (va_runIN (As := [.ref a35]) (rest := [.ref a46, .ref p0]) ⟨hx, hb, hml, hown, hts⟩ (cX2_init_0 l G k a46 a35 (.null) (.null) (.int 0) (.int 0) (.int 0) H.size) ⟨va_cnB 1 hts (gz [] (.code yX2_init cX2_init 2 none) [(3, 3)] rfl) rfl rfl rfl (nm_3 hX.2.2.1) h17w (by decide +kernel) ⟨Nat.le_of_ble_eq_true rfl, Nat.le_of_ble_eq_true rfl⟩, rfl, h19w⟩ (cz_preS hZ hS hX hP hD [22] rfl rfl) rfl rfl hl.1 rfl (lv_room (Nat.le_of_ble_eq_true rfl)) dX9_init_54 ⟨Nat.le_of_ble_eq_true rfl, Nat.le_of_ble_eq_true rfl⟩) hP hD hS hA [22] [0, 1, 2, 3, 4, 5, 6, 7, 8, 9, 10, 11, 12, 13, 14, 15, 16, 17, 18, 19, 20, 21] rfl rfl (by decide) (by decide) (fun u H locs hp hP hD hS => ?_)
  obtain ⟨q_19, q_20⟩ := u
  obtain ⟨hP, hD⟩ : va_P G vwCl [(p0, .inr (6, [.ref a8, .int 0, .int (-1), v4, .ref a24, .ref a35, .null, v5, v6, v7, v8])), (a8, .inl (k 1, 600, .inl (fun _ => 0))), (q_1, .inl (k 0, 7, .inl (fun _ => 0))), (q_2, .inl (k 0, 7, .inl (fun _ => 0))), (q_3, .inl (k 0, 7, .inl (fun _ => 0))), (q_4, .inl (k 0, 7, .inl (fun _ => 0))), (q_5, .inl (k 0, 600, .inl (fun _ => 0))), (q_6, .inl (k 0, 4, .inl (fun _ => 0))), (q_7, .inl (k 0, 32, .inl (fun _ => 0))), (q_8, .inl (k 0, 7, .inl (fun _ => 0))), (a24, .inr (2, [.int 1, .int 0, .int 99, .int 0, .int 1, .int 20, .int 0, .int 0, .ref q_1, .ref q_2, .ref q_3, .ref q_4, .ref q_9, .ref q_8])), (q_9, .inr (4, [.ref q_5, .ref q_6, .ref q_7, .int 0, .int 0])), (q_10, .inl (k 0, 7, .inl (fun _ => 0))), (q_11, .inl (k 0, 7, .inl (fun _ => 0))), (q_12, .inl (k 0, 7, .inl (fun _ => 0))), (q_13, .inl (k 0, 7, .inl (fun _ => 0))), (q_14, .inl (k 0, 600, .inl (fun _ => 0))), (q_15, .inl (k 0, 4, .inl (fun _ => 0))), (q_16, .inl (k 0, 32, .inl (fun _ => 0))), (q_17, .inl (k 0, 7, .inl (fun _ => 0))), (a35, .inr (2, [.int 1, .int 0, .int 99, .int 0, .int 1, .int 20, .int 0, .int 0, .ref q_10, .ref q_11, .ref q_12, .ref q_13, .ref q_18, .ref q_17])), (q_18, .inr (4, [.ref q_14, .ref q_15, .ref q_16, .int 0, .int 0])), (a46, .inr (1, [.ref q_19, .ref a35, .int 0, .int 0, .int (-1)])), (q_19, .inr (3, [.ref q_20, .int 0, .int 0, .int 0, .int 0, .ref (k 9), .int 0, .int 0])), (q_20, .inl (k 1, 0, .inl (fun _ => 0)))] H ∧ va_D A [(p0, .inr (6, [.ref a8, .int 0, .int (-1), v4, .ref a24, .ref a35, .null, v5, v6, v7, v8])), (a8, .inl (k 1, 600, .inl (fun _ => 0))), (q_1, .inl (k 0, 7, .inl (fun _ => 0))), (q_2, .inl (k 0, 7, .inl (fun _ => 0))), (q_3, .inl (k 0, 7, .inl (fun _ => 0))), (q_4, .inl (k 0, 7, .inl (fun _ => 0))), (q_5, .inl (k 0, 600, .inl (fun _ => 0))), (q_6, .inl (k 0, 4, .inl (fun _ => 0))), (q_7, .inl (k 0, 32, .inl (fun _ => 0))), (q_8, .inl (k 0, 7, .inl (fun _ => 0))), (a24, .inr (2, [.int 1, .int 0, .int 99, .int 0, .int 1, .int 20, .int 0, .int 0, .ref q_1, .ref q_2, .ref q_3, .ref q_4, .ref q_9, .ref q_8])), (q_9, .inr (4, [.ref q_5, .ref q_6, .ref q_7, .int 0, .int 0])), (q_10, .inl (k 0, 7, .inl (fun _ => 0))), (q_11, .inl (k 0, 7, .inl (fun _ => 0))), (q_12, .inl (k 0, 7, .inl (fun _ => 0))), (q_13, .inl (k 0, 7, .inl (fun _ => 0))), (q_14, .inl (k 0, 600, .inl (fun _ => 0))), (q_15, .inl (k 0, 4, .inl (fun _ => 0))), (q_16, .inl (k 0, 32, .inl (fun _ => 0))), (q_17, .inl (k 0, 7, .inl (fun _ => 0))), (a35, .inr (2, [.int 1, .int 0, .int 99, .int 0, .int 1, .int 20, .int 0, .int 0, .ref q_10, .ref q_11, .ref q_12, .ref q_13, .ref q_18, .ref q_17])), (q_18, .inr (4, [.ref q_14, .ref q_15, .ref q_16, .int 0, .int 0])), (a46, .inr (1, [.ref q_19, .ref a35, .int 0, .int 0, .int (-1)])), (q_19, .inr (3, [.ref q_20, .int 0, .int 0, .int 0, .int 0, .ref (k 9), .int 0, .int 0])), (q_20, .inl (k 1, 0, .inl (fun _ => 0)))] := ⟨hP, hD⟩
  refine W.widen (k := 24) (n := 1993) (Nat.le_of_ble_eq_true rfl) (Nat.le_of_ble_eq_true rfl) ?_
  refine va_putF (D := G) (ci := 6) (v := .ref a46) (ty := .object "RopeTown$Parser") (C := RX9) (T := TX9) (N := 11) (ref := RX9) hx hb hts h5w tyX9 tyX9_ok nmX9 hown hX.1 hP hD hS 0 rfl rfl 3 (by decide) h20w (fun _ h9 => h9) rfl hin rfl (by decide +kernel) rfl rfl (Nat.le_of_ble_eq_true rfl) dX9_init_57 (fun H locs hP hD hS => ?_)
  refine lv_aload_n hx hb dX9_init_60 rfl (lv_at hl 0 rfl) ?_
  refine va_new (ci := 0) (fs := [.int 0, .int 0, .int 0, .int 0, .int 0, .null, .null, .null, .null, .null, .null, .null]) (C := RX1) (T := TX1) (N := 12) hx hb hts h24w tyX1 tyX1_ok hown h21w h22w h23w hX.1 hP hD hS hA rfl (cz_dvX1) (Nat.le_of_ble_eq_true rfl) (Nat.le_of_ble_eq_true rfl) dX9_init_61 (fun a61 H hP hD hS => ?_)
  refine W.widen (k := 25) (n := 2005) (Nat.le_of_ble_eq_true rfl) (Nat.le_of_ble_eq_true rfl) ?_
  refine lv_dup hx hb dX9_init_64 rfl ?_
  refine cz_v (wr := [(p0, .inr (6, [.ref a8, .int 0, .int (-1), .ref a46, .ref a24, .ref a35, .null, v5, v6, v7, v8])), (a8, .inl (k 1, 600, .inl (fun _ => 0))), (q_1, .inl (k 0, 7, .inl (fun _ => 0))), (q_2, .inl (k 0, 7, .inl (fun _ => 0))), (q_3, .inl (k 0, 7, .inl (fun _ => 0))), (q_4, .inl (k 0, 7, .inl (fun _ => 0))), (q_5, .inl (k 0, 600, .inl (fun _ => 0))), (q_6, .inl (k 0, 4, .inl (fun _ => 0))), (q_7, .inl (k 0, 32, .inl (fun _ => 0))), (q_8, .inl (k 0, 7, .inl (fun _ => 0))), (a24, .inr (2, [.int 1, .int 0, .int 99, .int 0, .int 1, .int 20, .int 0, .int 0, .ref q_1, .ref q_2, .ref q_3, .ref q_4, .ref q_9, .ref q_8])), (q_9, .inr (4, [.ref q_5, .ref q_6, .ref q_7, .int 0, .int 0])), (q_10, .inl (k 0, 7, .inl (fun _ => 0))), (q_11, .inl (k 0, 7, .inl (fun _ => 0))), (q_12, .inl (k 0, 7, .inl (fun _ => 0))), (q_13, .inl (k 0, 7, .inl (fun _ => 0))), (q_14, .inl (k 0, 600, .inl (fun _ => 0))), (q_15, .inl (k 0, 4, .inl (fun _ => 0))), (q_16, .inl (k 0, 32, .inl (fun _ => 0))), (q_17, .inl (k 0, 7, .inl (fun _ => 0))), (a35, .inr (2, [.int 1, .int 0, .int 99, .int 0, .int 1, .int 20, .int 0, .int 0, .ref q_10, .ref q_11, .ref q_12, .ref q_13, .ref q_18, .ref q_17])), (q_18, .inr (4, [.ref q_14, .ref q_15, .ref q_16, .int 0, .int 0])), (a46, .inr (1, [.ref q_19, .ref a35, .int 0, .int 0, .int (-1)])), (q_19, .inr (3, [.ref q_20, .int 0, .int 0, .int 0, .int 0, .ref (k 9), .int 0, .int 0])), (q_20, .inl (k 1, 0, .inl (fun _ => 0)))]) (va_runIN (As := []) (rest := [.ref a61, .ref p0]) ⟨hx, hb, hml, hown, hts⟩ (cX1_init_0 l G k a61 (.int 0) (.int 0) (.int 0) (.int 0) (.int 0) (.null) (.null) (.null) (.null) (.null) (.null) (.null) H.size) ⟨va_cnB 0 hts (gz [] (.code yX1_init cX1_init 1 none) [(4, 2)] rfl) rfl rfl rfl (nm_5 hX.2.2.1) h23w (by decide +kernel) ⟨Nat.le_of_ble_eq_true rfl, Nat.le_of_ble_eq_true rfl⟩, rfl, h25w⟩ (cz_preS hZ hS hX hP hD [25] rfl rfl) rfl rfl hl.1 rfl (lv_room (Nat.le_of_ble_eq_true rfl)) dX9_init_65 ⟨Nat.le_of_ble_eq_true rfl, Nat.le_of_ble_eq_true rfl⟩) hP hD hS hA [25] [0, 1, 2, 3, 4, 5, 6, 7, 8, 9, 10, 11, 12, 13, 14, 15, 16, 17, 18, 19, 20, 21, 22, 23, 24] rfl rfl (by decide) (by decide) (fun u H locs hp hP hD hS => ?_)
  obtain ⟨q_21, q_22, q_23, q_24, q_25, q_26, q_27⟩ := u
  refine W.widen (k := 32) (n := 2314) (Nat.le_of_ble_eq_true rfl) (Nat.le_of_ble_eq_true rfl) ?_
  refine va_putF (D := G) (ci := 6) (v := .ref a61) (ty := .object "RopeTown$Book") (C := RX9) (T := TX9) (N := 11) (ref := RX9) hx hb hts h5w tyX9 tyX9_ok nmX9 hown hX.1 hP hD hS 0 rfl rfl 6 (by decide) h26w (fun _ h9 => h9) rfl hin rfl (by decide +kernel) rfl rfl (Nat.le_of_ble_eq_true rfl) dX9_init_68 (fun H locs hP hD hS => ?_)
  refine lv_aload_n hx hb dX9_init_71 rfl (lv_at hl 0 rfl) ?_
  refine va_new (ci := 0) (fs := [.int 0, .int 0, .int 0, .int 0, .int 0, .null, .null, .null, .null, .null, .null, .null]) (C := RX1) (T := TX1) (N := 12) hx hb hts h24w tyX1 tyX1_ok hown h21w h22w h23w hX.1 hP hD hS hA rfl (cz_dvX1) (Nat.le_of_ble_eq_true rfl) (Nat.le_of_ble_eq_true rfl) dX9_init_72 (fun a72 H hP hD hS => ?_)
  refine W.widen (k := 33) (n := 2326) (Nat.le_of_ble_eq_true rfl) (Nat.le_of_ble_eq_true rfl) ?_
  refine lv_dup hx hb dX9_init_75 rfl ?_
  refine cz_v (wr := ((p0, .inr (6, [.ref a8, .int 0, .int (-1), .ref a46, .ref a24, .ref a35, .ref a61, v5, v6, v7, v8])) :: (a8, .inl (k 1, 600, .inl (fun _ => 0))) :: (q_1, .inl (k 0, 7, .inl (fun _ => 0))) :: (q_2, .inl (k 0, 7, .inl (fun _ => 0))) :: (q_3, .inl (k 0, 7, .inl (fun _ => 0))) :: (q_4, .inl (k 0, 7, .inl (fun _ => 0))) :: (q_5, .inl (k 0, 600, .inl (fun _ => 0))) :: (q_6, .inl (k 0, 4, .inl (fun _ => 0))) :: (q_7, .inl (k 0, 32, .inl (fun _ => 0))) :: (q_8, .inl (k 0, 7, .inl (fun _ => 0))) :: (a24, .inr (2, [.int 1, .int 0, .int 99, .int 0, .int 1, .int 20, .int 0, .int 0, .ref q_1, .ref q_2, .ref q_3, .ref q_4, .ref q_9, .ref q_8])) :: (q_9, .inr (4, [.ref q_5, .ref q_6, .ref q_7, .int 0, .int 0])) :: (q_10, .inl (k 0, 7, .inl (fun _ => 0))) :: (q_11, .inl (k 0, 7, .inl (fun _ => 0))) :: (q_12, .inl (k 0, 7, .inl (fun _ => 0))) :: (q_13, .inl (k 0, 7, .inl (fun _ => 0))) :: (q_14, .inl (k 0, 600, .inl (fun _ => 0))) :: (q_15, .inl (k 0, 4, .inl (fun _ => 0))) :: (q_16, .inl (k 0, 32, .inl (fun _ => 0))) :: (q_17, .inl (k 0, 7, .inl (fun _ => 0))) :: (a35, .inr (2, [.int 1, .int 0, .int 99, .int 0, .int 1, .int 20, .int 0, .int 0, .ref q_10, .ref q_11, .ref q_12, .ref q_13, .ref q_18, .ref q_17])) :: (q_18, .inr (4, [.ref q_14, .ref q_15, .ref q_16, .int 0, .int 0])) :: (a46, .inr (1, [.ref q_19, .ref a35, .int 0, .int 0, .int (-1)])) :: (q_19, .inr (3, [.ref q_20, .int 0, .int 0, .int 0, .int 0, .ref (k 9), .int 0, .int 0])) :: (q_20, .inl (k 1, 0, .inl (fun _ => 0))) :: (a61, .inr (0, [.int 0, .int 0, .int 0, .int 0, .int 0, .ref q_21, .ref q_22, .ref q_23, .ref q_24, .ref q_25, .ref q_26, .ref q_27])) :: (q_21, .inl (k 0, 60, .inl (fun _ => 0))) :: (q_22, .inl (k 0, 60, .inl (fun _ => 0))) :: (q_23, .inl (k 0, 60, .inl (fun _ => 0))) :: (q_24, .inl (k 0, 60, .inl (fun _ => 0))) :: (q_25, .inl (k 0, 60, .inl (fun _ => 0))) :: (q_26, .inl (k 0, 6, .inl (fun _ => 0))) :: (q_27, .inl (k 0, 3, .inl (fun _ => 0))) :: [])) (va_runIN (As := []) (rest := [.ref a72, .ref p0]) ⟨hx, hb, hml, hown, hts⟩ (cX1_init_0 l G k a72 (.int 0) (.int 0) (.int 0) (.int 0) (.int 0) (.null) (.null) (.null) (.null) (.null) (.null) (.null) H.size) ⟨va_cnB 0 hts (gz [] (.code yX1_init cX1_init 1 none) [(4, 2)] rfl) rfl rfl rfl (nm_5 hX.2.2.1) h23w (by decide +kernel) ⟨Nat.le_of_ble_eq_true rfl, Nat.le_of_ble_eq_true rfl⟩, rfl, h25w⟩ (cz_preS hZ hS hX hP hD [33] rfl rfl) rfl rfl hl.1 rfl (lv_room (Nat.le_of_ble_eq_true rfl)) dX9_init_76 ⟨Nat.le_of_ble_eq_true rfl, Nat.le_of_ble_eq_true rfl⟩) hP hD hS hA [33] [0, 1, 2, 3, 4, 5, 6, 7, 8, 9, 10, 11, 12, 13, 14, 15, 16, 17, 18, 19, 20, 21, 22, 23, 24, 25, 26, 27, 28, 29, 30, 31, 32] rfl rfl (by decide) (by decide) (fun u H locs hp hP hD hS => ?_)
  obtain ⟨q_28, q_29, q_30, q_31, q_32, q_33, q_34⟩ := u
  obtain ⟨hP, hD⟩ : va_P G vwCl ((p0, .inr (6, [.ref a8, .int 0, .int (-1), .ref a46, .ref a24, .ref a35, .ref a61, v5, v6, v7, v8])) :: (a8, .inl (k 1, 600, .inl (fun _ => 0))) :: (q_1, .inl (k 0, 7, .inl (fun _ => 0))) :: (q_2, .inl (k 0, 7, .inl (fun _ => 0))) :: (q_3, .inl (k 0, 7, .inl (fun _ => 0))) :: (q_4, .inl (k 0, 7, .inl (fun _ => 0))) :: (q_5, .inl (k 0, 600, .inl (fun _ => 0))) :: (q_6, .inl (k 0, 4, .inl (fun _ => 0))) :: (q_7, .inl (k 0, 32, .inl (fun _ => 0))) :: (q_8, .inl (k 0, 7, .inl (fun _ => 0))) :: (a24, .inr (2, [.int 1, .int 0, .int 99, .int 0, .int 1, .int 20, .int 0, .int 0, .ref q_1, .ref q_2, .ref q_3, .ref q_4, .ref q_9, .ref q_8])) :: (q_9, .inr (4, [.ref q_5, .ref q_6, .ref q_7, .int 0, .int 0])) :: (q_10, .inl (k 0, 7, .inl (fun _ => 0))) :: (q_11, .inl (k 0, 7, .inl (fun _ => 0))) :: (q_12, .inl (k 0, 7, .inl (fun _ => 0))) :: (q_13, .inl (k 0, 7, .inl (fun _ => 0))) :: (q_14, .inl (k 0, 600, .inl (fun _ => 0))) :: (q_15, .inl (k 0, 4, .inl (fun _ => 0))) :: (q_16, .inl (k 0, 32, .inl (fun _ => 0))) :: (q_17, .inl (k 0, 7, .inl (fun _ => 0))) :: (a35, .inr (2, [.int 1, .int 0, .int 99, .int 0, .int 1, .int 20, .int 0, .int 0, .ref q_10, .ref q_11, .ref q_12, .ref q_13, .ref q_18, .ref q_17])) :: (q_18, .inr (4, [.ref q_14, .ref q_15, .ref q_16, .int 0, .int 0])) :: (a46, .inr (1, [.ref q_19, .ref a35, .int 0, .int 0, .int (-1)])) :: (q_19, .inr (3, [.ref q_20, .int 0, .int 0, .int 0, .int 0, .ref (k 9), .int 0, .int 0])) :: (q_20, .inl (k 1, 0, .inl (fun _ => 0))) :: (a61, .inr (0, [.int 0, .int 0, .int 0, .int 0, .int 0, .ref q_21, .ref q_22, .ref q_23, .ref q_24, .ref q_25, .ref q_26, .ref q_27])) :: (q_21, .inl (k 0, 60, .inl (fun _ => 0))) :: (q_22, .inl (k 0, 60, .inl (fun _ => 0))) :: (q_23, .inl (k 0, 60, .inl (fun _ => 0))) :: (q_24, .inl (k 0, 60, .inl (fun _ => 0))) :: (q_25, .inl (k 0, 60, .inl (fun _ => 0))) :: (q_26, .inl (k 0, 6, .inl (fun _ => 0))) :: (q_27, .inl (k 0, 3, .inl (fun _ => 0))) :: (a72, .inr (0, [.int 0, .int 0, .int 0, .int 0, .int 0, .ref q_28, .ref q_29, .ref q_30, .ref q_31, .ref q_32, .ref q_33, .ref q_34])) :: (q_28, .inl (k 0, 60, .inl (fun _ => 0))) :: (q_29, .inl (k 0, 60, .inl (fun _ => 0))) :: (q_30, .inl (k 0, 60, .inl (fun _ => 0))) :: (q_31, .inl (k 0, 60, .inl (fun _ => 0))) :: (q_32, .inl (k 0, 60, .inl (fun _ => 0))) :: (q_33, .inl (k 0, 6, .inl (fun _ => 0))) :: (q_34, .inl (k 0, 3, .inl (fun _ => 0))) :: []) H ∧ va_D A ((p0, .inr (6, [.ref a8, .int 0, .int (-1), .ref a46, .ref a24, .ref a35, .ref a61, v5, v6, v7, v8])) :: (a8, .inl (k 1, 600, .inl (fun _ => 0))) :: (q_1, .inl (k 0, 7, .inl (fun _ => 0))) :: (q_2, .inl (k 0, 7, .inl (fun _ => 0))) :: (q_3, .inl (k 0, 7, .inl (fun _ => 0))) :: (q_4, .inl (k 0, 7, .inl (fun _ => 0))) :: (q_5, .inl (k 0, 600, .inl (fun _ => 0))) :: (q_6, .inl (k 0, 4, .inl (fun _ => 0))) :: (q_7, .inl (k 0, 32, .inl (fun _ => 0))) :: (q_8, .inl (k 0, 7, .inl (fun _ => 0))) :: (a24, .inr (2, [.int 1, .int 0, .int 99, .int 0, .int 1, .int 20, .int 0, .int 0, .ref q_1, .ref q_2, .ref q_3, .ref q_4, .ref q_9, .ref q_8])) :: (q_9, .inr (4, [.ref q_5, .ref q_6, .ref q_7, .int 0, .int 0])) :: (q_10, .inl (k 0, 7, .inl (fun _ => 0))) :: (q_11, .inl (k 0, 7, .inl (fun _ => 0))) :: (q_12, .inl (k 0, 7, .inl (fun _ => 0))) :: (q_13, .inl (k 0, 7, .inl (fun _ => 0))) :: (q_14, .inl (k 0, 600, .inl (fun _ => 0))) :: (q_15, .inl (k 0, 4, .inl (fun _ => 0))) :: (q_16, .inl (k 0, 32, .inl (fun _ => 0))) :: (q_17, .inl (k 0, 7, .inl (fun _ => 0))) :: (a35, .inr (2, [.int 1, .int 0, .int 99, .int 0, .int 1, .int 20, .int 0, .int 0, .ref q_10, .ref q_11, .ref q_12, .ref q_13, .ref q_18, .ref q_17])) :: (q_18, .inr (4, [.ref q_14, .ref q_15, .ref q_16, .int 0, .int 0])) :: (a46, .inr (1, [.ref q_19, .ref a35, .int 0, .int 0, .int (-1)])) :: (q_19, .inr (3, [.ref q_20, .int 0, .int 0, .int 0, .int 0, .ref (k 9), .int 0, .int 0])) :: (q_20, .inl (k 1, 0, .inl (fun _ => 0))) :: (a61, .inr (0, [.int 0, .int 0, .int 0, .int 0, .int 0, .ref q_21, .ref q_22, .ref q_23, .ref q_24, .ref q_25, .ref q_26, .ref q_27])) :: (q_21, .inl (k 0, 60, .inl (fun _ => 0))) :: (q_22, .inl (k 0, 60, .inl (fun _ => 0))) :: (q_23, .inl (k 0, 60, .inl (fun _ => 0))) :: (q_24, .inl (k 0, 60, .inl (fun _ => 0))) :: (q_25, .inl (k 0, 60, .inl (fun _ => 0))) :: (q_26, .inl (k 0, 6, .inl (fun _ => 0))) :: (q_27, .inl (k 0, 3, .inl (fun _ => 0))) :: (a72, .inr (0, [.int 0, .int 0, .int 0, .int 0, .int 0, .ref q_28, .ref q_29, .ref q_30, .ref q_31, .ref q_32, .ref q_33, .ref q_34])) :: (q_28, .inl (k 0, 60, .inl (fun _ => 0))) :: (q_29, .inl (k 0, 60, .inl (fun _ => 0))) :: (q_30, .inl (k 0, 60, .inl (fun _ => 0))) :: (q_31, .inl (k 0, 60, .inl (fun _ => 0))) :: (q_32, .inl (k 0, 60, .inl (fun _ => 0))) :: (q_33, .inl (k 0, 6, .inl (fun _ => 0))) :: (q_34, .inl (k 0, 3, .inl (fun _ => 0))) :: []) := ⟨hP, hD⟩
  refine W.widen (k := 40) (n := 2635) (Nat.le_of_ble_eq_true rfl) (Nat.le_of_ble_eq_true rfl) ?_
  refine va_putF (D := G) (ci := 6) (v := .ref a72) (ty := .object "RopeTown$Book") (C := RX9) (T := TX9) (N := 11) (ref := RX9) hx hb hts h5w tyX9 tyX9_ok nmX9 hown hX.1 hP hD hS 0 rfl rfl 7 (by decide) h27w (fun _ h9 => h9) rfl hin rfl (by decide +kernel) rfl rfl (Nat.le_of_ble_eq_true rfl) dX9_init_79 (fun H locs hP hD hS => ?_)
  refine lv_aload_n hx hb dX9_init_82 rfl (lv_at hl 0 rfl) ?_
  refine lv_iconst (v := 0) hx hb dX9_init_83 (by decide +kernel) ?_
  refine va_put (D := G) (ci := 6) (v := .int 0) (ty := .boolean) (C := RX9) (T := TX9) (N := 11) (ref := RX9) hx hb hts h5w tyX9 tyX9_ok nmX9 hown hX.1 hP hD hS 0 rfl rfl 8 (by decide) h28w (fun _ h9 => h9) rfl (by decide +kernel) (by decide +kernel) rfl (Nat.le_of_ble_eq_true rfl) dX9_init_84 (fun H locs hP hD hS => ?_)
  refine lv_aload_n hx hb dX9_init_87 rfl (lv_at hl 0 rfl) ?_
  refine va_new (ci := 5) (fs := [.null, .int 0, .int 0, .null, .null, .null, .int 0, .null, .null, .null, .null, .int 0, .int 0, .null, .null]) (C := RX6) (T := TX6) (N := 15) hx hb hts h32w tyX6 tyX6_ok hown h29w h30w h31w hX.1 hP hD hS hA rfl (cz_dvX6) (Nat.le_of_ble_eq_true rfl) (Nat.le_of_ble_eq_true rfl) dX9_init_88 (fun a88 H hP hD hS => ?_)
  refine W.widen (k := 41) (n := 2650) (Nat.le_of_ble_eq_true rfl) (Nat.le_of_ble_eq_true rfl) ?_
  refine lv_dup hx hb dX9_init_91 rfl ?_
  refine lv_aload_n hx hb dX9_init_92 rfl (lv_at hl 0 rfl) ?_
  refine va_get (D := G) (ci := 6) (v := .ref a24) (C := RX9) (T := TX9) (N := 11) (ref := RX9) hx hb hts h5w hown hX.1 hP 0 rfl rfl 4 (by decide) h13w (fun _ h9 => h9) rfl dX9_init_93 ?_
  refine cz_v (wr := ((p0, .inr (6, [.ref a8, .int 0, .int (-1), .ref a46, .ref a24, .ref a35, .ref a61, .ref a72, .int 0, v7, v8])) :: (a8, .inl (k 1, 600, .inl (fun _ => 0))) :: (q_1, .inl (k 0, 7, .inl (fun _ => 0))) :: (q_2, .inl (k 0, 7, .inl (fun _ => 0))) :: (q_3, .inl (k 0, 7, .inl (fun _ => 0))) :: (q_4, .inl (k 0, 7, .inl (fun _ => 0))) :: (q_5, .inl (k 0, 600, .inl (fun _ => 0))) :: (q_6, .inl (k 0, 4, .inl (fun _ => 0))) :: (q_7, .inl (k 0, 32, .inl (fun _ => 0))) :: (q_8, .inl (k 0, 7, .inl (fun _ => 0))) :: (a24, .inr (2, [.int 1, .int 0, .int 99, .int 0, .int 1, .int 20, .int 0, .int 0, .ref q_1, .ref q_2, .ref q_3, .ref q_4, .ref q_9, .ref q_8])) :: (q_9, .inr (4, [.ref q_5, .ref q_6, .ref q_7, .int 0, .int 0])) :: (q_10, .inl (k 0, 7, .inl (fun _ => 0))) :: (q_11, .inl (k 0, 7, .inl (fun _ => 0))) :: (q_12, .inl (k 0, 7, .inl (fun _ => 0))) :: (q_13, .inl (k 0, 7, .inl (fun _ => 0))) :: (q_14, .inl (k 0, 600, .inl (fun _ => 0))) :: (q_15, .inl (k 0, 4, .inl (fun _ => 0))) :: (q_16, .inl (k 0, 32, .inl (fun _ => 0))) :: (q_17, .inl (k 0, 7, .inl (fun _ => 0))) :: (a35, .inr (2, [.int 1, .int 0, .int 99, .int 0, .int 1, .int 20, .int 0, .int 0, .ref q_10, .ref q_11, .ref q_12, .ref q_13, .ref q_18, .ref q_17])) :: (q_18, .inr (4, [.ref q_14, .ref q_15, .ref q_16, .int 0, .int 0])) :: (a46, .inr (1, [.ref q_19, .ref a35, .int 0, .int 0, .int (-1)])) :: (q_19, .inr (3, [.ref q_20, .int 0, .int 0, .int 0, .int 0, .ref (k 9), .int 0, .int 0])) :: (q_20, .inl (k 1, 0, .inl (fun _ => 0))) :: (a61, .inr (0, [.int 0, .int 0, .int 0, .int 0, .int 0, .ref q_21, .ref q_22, .ref q_23, .ref q_24, .ref q_25, .ref q_26, .ref q_27])) :: (q_21, .inl (k 0, 60, .inl (fun _ => 0))) :: (q_22, .inl (k 0, 60, .inl (fun _ => 0))) :: (q_23, .inl (k 0, 60, .inl (fun _ => 0))) :: (q_24, .inl (k 0, 60, .inl (fun _ => 0))) :: (q_25, .inl (k 0, 60, .inl (fun _ => 0))) :: (q_26, .inl (k 0, 6, .inl (fun _ => 0))) :: (q_27, .inl (k 0, 3, .inl (fun _ => 0))) :: (a72, .inr (0, [.int 0, .int 0, .int 0, .int 0, .int 0, .ref q_28, .ref q_29, .ref q_30, .ref q_31, .ref q_32, .ref q_33, .ref q_34])) :: (q_28, .inl (k 0, 60, .inl (fun _ => 0))) :: (q_29, .inl (k 0, 60, .inl (fun _ => 0))) :: (q_30, .inl (k 0, 60, .inl (fun _ => 0))) :: (q_31, .inl (k 0, 60, .inl (fun _ => 0))) :: (q_32, .inl (k 0, 60, .inl (fun _ => 0))) :: (q_33, .inl (k 0, 6, .inl (fun _ => 0))) :: (q_34, .inl (k 0, 3, .inl (fun _ => 0))) :: [])) (va_runIN (As := [.ref a24]) (rest := [.ref a88, .ref p0]) ⟨hx, hb, hml, hown, hts⟩ (cX6_init_0 l G k a88 a24 (.null) (.int 0) (.int 0) (.null) (.null) (.null) (.int 0) (.null) (.null) (.null) (.null) (.int 0) (.int 0) (.null) (.null) H.size) ⟨va_cnB 1 hts (gz [] (.code yX6_init cX6_init 2 none) [(4, 12)] rfl) rfl rfl rfl (nm_6 hX.2.2.1) h31w (by decide +kernel) ⟨Nat.le_of_ble_eq_true rfl, Nat.le_of_ble_eq_true rfl⟩, rfl, h33w⟩ (cz_preS hZ hS hX hP hD [41] rfl rfl) rfl rfl hl.1 rfl (lv_room (Nat.le_of_ble_eq_true rfl)) dX9_init_96 ⟨Nat.le_of_ble_eq_true rfl, Nat.le_of_ble_eq_true rfl⟩) hP hD hS hA [41] [0, 1, 2, 3, 4, 5, 6, 7, 8, 9, 10, 11, 12, 13, 14, 15, 16, 17, 18, 19, 20, 21, 22, 23, 24, 25, 26, 27, 28, 29, 30, 31, 32, 33, 34, 35, 36, 37, 38, 39, 40] rfl rfl (by decide) (by decide) (fun u H locs hp hP hD hS => ?_)
  obtain ⟨q_35, q_36, q_37, q_38, q_39, q_40, q_41, q_42, q_43⟩ := u
  refine W.widen (k := 50) (n := 14322) (Nat.le_of_ble_eq_true rfl) (Nat.le_of_ble_eq_true rfl) ?_
  refine va_putF (D := G) (ci := 6) (v := .ref a88) (ty := .object "RopeTown$Search") (C := RX9) (T := TX9) (N := 11) (ref := RX9) hx hb hts h5w tyX9 tyX9_ok nmX9 hown hX.1 hP hD hS 0 rfl rfl 9 (by decide) h34w (fun _ h9 => h9) rfl hin rfl (by decide +kernel) rfl rfl (Nat.le_of_ble_eq_true rfl) dX9_init_99 (fun H locs hP hD hS => ?_)
  refine lv_aload_n hx hb dX9_init_102 rfl (lv_at hl 0 rfl) ?_
  refine lv_sipush (v := 128) hx hb dX9_init_103 (by decide +kernel) ?_
  refine cz_newa (atype := .int) (N' := 128) (a0 := (128, .inl (fun _ => 0))) (ty := .int) hx hb h35w rfl hX hP hD hS hA 0 (by decide +kernel) (ha_int 128) (by decide +kernel) (by decide +kernel) (Nat.le_of_ble_eq_true rfl) (Nat.le_of_ble_eq_true rfl) (Nat.le_of_ble_eq_true rfl) dX9_init_106 (fun a106 H hP hD hS => ?_)
  obtain ⟨hP, hD⟩ : va_P G vwCl ((p0, .inr (6, [.ref a8, .int 0, .int (-1), .ref a46, .ref a24, .ref a35, .ref a61, .ref a72, .int 0, .ref a88, v8])) :: (a8, .inl (k 1, 600, .inl (fun _ => 0))) :: (q_1, .inl (k 0, 7, .inl (fun _ => 0))) :: (q_2, .inl (k 0, 7, .inl (fun _ => 0))) :: (q_3, .inl (k 0, 7, .inl (fun _ => 0))) :: (q_4, .inl (k 0, 7, .inl (fun _ => 0))) :: (q_5, .inl (k 0, 600, .inl (fun _ => 0))) :: (q_6, .inl (k 0, 4, .inl (fun _ => 0))) :: (q_7, .inl (k 0, 32, .inl (fun _ => 0))) :: (q_8, .inl (k 0, 7, .inl (fun _ => 0))) :: (a24, .inr (2, [.int 1, .int 0, .int 99, .int 0, .int 1, .int 20, .int 0, .int 0, .ref q_1, .ref q_2, .ref q_3, .ref q_4, .ref q_9, .ref q_8])) :: (q_9, .inr (4, [.ref q_5, .ref q_6, .ref q_7, .int 0, .int 0])) :: (q_10, .inl (k 0, 7, .inl (fun _ => 0))) :: (q_11, .inl (k 0, 7, .inl (fun _ => 0))) :: (q_12, .inl (k 0, 7, .inl (fun _ => 0))) :: (q_13, .inl (k 0, 7, .inl (fun _ => 0))) :: (q_14, .inl (k 0, 600, .inl (fun _ => 0))) :: (q_15, .inl (k 0, 4, .inl (fun _ => 0))) :: (q_16, .inl (k 0, 32, .inl (fun _ => 0))) :: (q_17, .inl (k 0, 7, .inl (fun _ => 0))) :: (a35, .inr (2, [.int 1, .int 0, .int 99, .int 0, .int 1, .int 20, .int 0, .int 0, .ref q_10, .ref q_11, .ref q_12, .ref q_13, .ref q_18, .ref q_17])) :: (q_18, .inr (4, [.ref q_14, .ref q_15, .ref q_16, .int 0, .int 0])) :: (a46, .inr (1, [.ref q_19, .ref a35, .int 0, .int 0, .int (-1)])) :: (q_19, .inr (3, [.ref q_20, .int 0, .int 0, .int 0, .int 0, .ref (k 9), .int 0, .int 0])) :: (q_20, .inl (k 1, 0, .inl (fun _ => 0))) :: (a61, .inr (0, [.int 0, .int 0, .int 0, .int 0, .int 0, .ref q_21, .ref q_22, .ref q_23, .ref q_24, .ref q_25, .ref q_26, .ref q_27])) :: (q_21, .inl (k 0, 60, .inl (fun _ => 0))) :: (q_22, .inl (k 0, 60, .inl (fun _ => 0))) :: (q_23, .inl (k 0, 60, .inl (fun _ => 0))) :: (q_24, .inl (k 0, 60, .inl (fun _ => 0))) :: (q_25, .inl (k 0, 60, .inl (fun _ => 0))) :: (q_26, .inl (k 0, 6, .inl (fun _ => 0))) :: (q_27, .inl (k 0, 3, .inl (fun _ => 0))) :: (a72, .inr (0, [.int 0, .int 0, .int 0, .int 0, .int 0, .ref q_28, .ref q_29, .ref q_30, .ref q_31, .ref q_32, .ref q_33, .ref q_34])) :: (q_28, .inl (k 0, 60, .inl (fun _ => 0))) :: (q_29, .inl (k 0, 60, .inl (fun _ => 0))) :: (q_30, .inl (k 0, 60, .inl (fun _ => 0))) :: (q_31, .inl (k 0, 60, .inl (fun _ => 0))) :: (q_32, .inl (k 0, 60, .inl (fun _ => 0))) :: (q_33, .inl (k 0, 6, .inl (fun _ => 0))) :: (q_34, .inl (k 0, 3, .inl (fun _ => 0))) :: (a88, .inr (5, [.ref a24, .int 0, .int 0, .ref q_35, .ref q_36, .ref q_37, .int 0, .ref q_38, .ref q_39, .ref q_40, .ref q_41, .int 0, .int (-1), .ref q_42, .ref q_43])) :: (q_35, .inl (k 0, 1500, .inl (fun _ => 0))) :: (q_36, .inl (k 0, 1500, .inl (fun _ => 0))) :: (q_37, .inl (k 0, 1500, .inl (fun _ => 0))) :: (q_38, .inl (k 0, 1024, .inl (fun _ => 0))) :: (q_39, .inl (k 0, 1500, .inl (fun _ => 0))) :: (q_40, .inl (k 0, 1500, .inl (fun _ => 0))) :: (q_41, .inl (k 0, 1500, .inl (fun _ => 0))) :: (q_42, .inl (k 0, 7, .inl (fun _ => 0))) :: (q_43, .inl (k 0, 1641, .inl (fun _ => 0))) :: (a106, .inl (k 0, 128, .inl (fun _ => 0))) :: []) H ∧ va_D A ((p0, .inr (6, [.ref a8, .int 0, .int (-1), .ref a46, .ref a24, .ref a35, .ref a61, .ref a72, .int 0, .ref a88, v8])) :: (a8, .inl (k 1, 600, .inl (fun _ => 0))) :: (q_1, .inl (k 0, 7, .inl (fun _ => 0))) :: (q_2, .inl (k 0, 7, .inl (fun _ => 0))) :: (q_3, .inl (k 0, 7, .inl (fun _ => 0))) :: (q_4, .inl (k 0, 7, .inl (fun _ => 0))) :: (q_5, .inl (k 0, 600, .inl (fun _ => 0))) :: (q_6, .inl (k 0, 4, .inl (fun _ => 0))) :: (q_7, .inl (k 0, 32, .inl (fun _ => 0))) :: (q_8, .inl (k 0, 7, .inl (fun _ => 0))) :: (a24, .inr (2, [.int 1, .int 0, .int 99, .int 0, .int 1, .int 20, .int 0, .int 0, .ref q_1, .ref q_2, .ref q_3, .ref q_4, .ref q_9, .ref q_8])) :: (q_9, .inr (4, [.ref q_5, .ref q_6, .ref q_7, .int 0, .int 0])) :: (q_10, .inl (k 0, 7, .inl (fun _ => 0))) :: (q_11, .inl (k 0, 7, .inl (fun _ => 0))) :: (q_12, .inl (k 0, 7, .inl (fun _ => 0))) :: (q_13, .inl (k 0, 7, .inl (fun _ => 0))) :: (q_14, .inl (k 0, 600, .inl (fun _ => 0))) :: (q_15, .inl (k 0, 4, .inl (fun _ => 0))) :: (q_16, .inl (k 0, 32, .inl (fun _ => 0))) :: (q_17, .inl (k 0, 7, .inl (fun _ => 0))) :: (a35, .inr (2, [.int 1, .int 0, .int 99, .int 0, .int 1, .int 20, .int 0, .int 0, .ref q_10, .ref q_11, .ref q_12, .ref q_13, .ref q_18, .ref q_17])) :: (q_18, .inr (4, [.ref q_14, .ref q_15, .ref q_16, .int 0, .int 0])) :: (a46, .inr (1, [.ref q_19, .ref a35, .int 0, .int 0, .int (-1)])) :: (q_19, .inr (3, [.ref q_20, .int 0, .int 0, .int 0, .int 0, .ref (k 9), .int 0, .int 0])) :: (q_20, .inl (k 1, 0, .inl (fun _ => 0))) :: (a61, .inr (0, [.int 0, .int 0, .int 0, .int 0, .int 0, .ref q_21, .ref q_22, .ref q_23, .ref q_24, .ref q_25, .ref q_26, .ref q_27])) :: (q_21, .inl (k 0, 60, .inl (fun _ => 0))) :: (q_22, .inl (k 0, 60, .inl (fun _ => 0))) :: (q_23, .inl (k 0, 60, .inl (fun _ => 0))) :: (q_24, .inl (k 0, 60, .inl (fun _ => 0))) :: (q_25, .inl (k 0, 60, .inl (fun _ => 0))) :: (q_26, .inl (k 0, 6, .inl (fun _ => 0))) :: (q_27, .inl (k 0, 3, .inl (fun _ => 0))) :: (a72, .inr (0, [.int 0, .int 0, .int 0, .int 0, .int 0, .ref q_28, .ref q_29, .ref q_30, .ref q_31, .ref q_32, .ref q_33, .ref q_34])) :: (q_28, .inl (k 0, 60, .inl (fun _ => 0))) :: (q_29, .inl (k 0, 60, .inl (fun _ => 0))) :: (q_30, .inl (k 0, 60, .inl (fun _ => 0))) :: (q_31, .inl (k 0, 60, .inl (fun _ => 0))) :: (q_32, .inl (k 0, 60, .inl (fun _ => 0))) :: (q_33, .inl (k 0, 6, .inl (fun _ => 0))) :: (q_34, .inl (k 0, 3, .inl (fun _ => 0))) :: (a88, .inr (5, [.ref a24, .int 0, .int 0, .ref q_35, .ref q_36, .ref q_37, .int 0, .ref q_38, .ref q_39, .ref q_40, .ref q_41, .int 0, .int (-1), .ref q_42, .ref q_43])) :: (q_35, .inl (k 0, 1500, .inl (fun _ => 0))) :: (q_36, .inl (k 0, 1500, .inl (fun _ => 0))) :: (q_37, .inl (k 0, 1500, .inl (fun _ => 0))) :: (q_38, .inl (k 0, 1024, .inl (fun _ => 0))) :: (q_39, .inl (k 0, 1500, .inl (fun _ => 0))) :: (q_40, .inl (k 0, 1500, .inl (fun _ => 0))) :: (q_41, .inl (k 0, 1500, .inl (fun _ => 0))) :: (q_42, .inl (k 0, 7, .inl (fun _ => 0))) :: (q_43, .inl (k 0, 1641, .inl (fun _ => 0))) :: (a106, .inl (k 0, 128, .inl (fun _ => 0))) :: []) := ⟨hP, hD⟩
  refine W.widen (k := 51) (n := 14450) (Nat.le_of_ble_eq_true rfl) (Nat.le_of_ble_eq_true rfl) ?_
  refine va_putF (D := G) (ci := 6) (v := .ref a106) (ty := .array .int) (C := RX9) (T := TX9) (N := 11) (ref := RX9) hx hb hts h5w tyX9 tyX9_ok nmX9 hown hX.1 hP hD hS 0 rfl rfl 10 (by decide) h36w (fun _ h9 => h9) rfl hin rfl (by decide +kernel) rfl rfl (Nat.le_of_ble_eq_true rfl) dX9_init_108 (fun H locs hP hD hS => ?_)
  refine lv_aload_n hx hb dX9_init_111 rfl (lv_at hl 0 rfl) ?_
  refine va_get (D := G) (ci := 6) (v := .ref a61) (C := RX9) (T := TX9) (N := 11) (ref := RX9) hx hb hts h5w hown hX.1 hP 0 rfl rfl 6 (by decide) h26w (fun _ h9 => h9) rfl dX9_init_112 ?_
  refine lv_aload_n hx hb dX9_init_115 rfl (lv_at hl 0 rfl) ?_
  refine va_get (D := G) (ci := 6) (v := .ref a24) (C := RX9) (T := TX9) (N := 11) (ref := RX9) hx hb hts h5w hown hX.1 hP 0 rfl rfl 4 (by decide) h13w (fun _ h9 => h9) rfl dX9_init_116 ?_
  refine cz_i (wr := ((p0, .inr (6, [.ref a8, .int 0, .int (-1), .ref a46, .ref a24, .ref a35, .ref a61, .ref a72, .int 0, .ref a88, .ref a106])) :: (a8, .inl (k 1, 600, .inl (fun _ => 0))) :: (q_1, .inl (k 0, 7, .inl (fun _ => 0))) :: (q_2, .inl (k 0, 7, .inl (fun _ => 0))) :: (q_3, .inl (k 0, 7, .inl (fun _ => 0))) :: (q_4, .inl (k 0, 7, .inl (fun _ => 0))) :: (q_5, .inl (k 0, 600, .inl (fun _ => 0))) :: (q_6, .inl (k 0, 4, .inl (fun _ => 0))) :: (q_7, .inl (k 0, 32, .inl (fun _ => 0))) :: (q_8, .inl (k 0, 7, .inl (fun _ => 0))) :: (q_9, .inr (4, [.ref q_5, .ref q_6, .ref q_7, .int 0, .int 0])) :: (q_10, .inl (k 0, 7, .inl (fun _ => 0))) :: (q_11, .inl (k 0, 7, .inl (fun _ => 0))) :: (q_12, .inl (k 0, 7, .inl (fun _ => 0))) :: (q_13, .inl (k 0, 7, .inl (fun _ => 0))) :: (q_14, .inl (k 0, 600, .inl (fun _ => 0))) :: (q_15, .inl (k 0, 4, .inl (fun _ => 0))) :: (q_16, .inl (k 0, 32, .inl (fun _ => 0))) :: (q_17, .inl (k 0, 7, .inl (fun _ => 0))) :: (a35, .inr (2, [.int 1, .int 0, .int 99, .int 0, .int 1, .int 20, .int 0, .int 0, .ref q_10, .ref q_11, .ref q_12, .ref q_13, .ref q_18, .ref q_17])) :: (q_18, .inr (4, [.ref q_14, .ref q_15, .ref q_16, .int 0, .int 0])) :: (a46, .inr (1, [.ref q_19, .ref a35, .int 0, .int 0, .int (-1)])) :: (q_19, .inr (3, [.ref q_20, .int 0, .int 0, .int 0, .int 0, .ref (k 9), .int 0, .int 0])) :: (q_20, .inl (k 1, 0, .inl (fun _ => 0))) :: (a61, .inr (0, [.int 0, .int 0, .int 0, .int 0, .int 0, .ref q_21, .ref q_22, .ref q_23, .ref q_24, .ref q_25, .ref q_26, .ref q_27])) :: (q_21, .inl (k 0, 60, .inl (fun _ => 0))) :: (q_22, .inl (k 0, 60, .inl (fun _ => 0))) :: (q_23, .inl (k 0, 60, .inl (fun _ => 0))) :: (q_24, .inl (k 0, 60, .inl (fun _ => 0))) :: (q_25, .inl (k 0, 60, .inl (fun _ => 0))) :: (q_26, .inl (k 0, 6, .inl (fun _ => 0))) :: (q_27, .inl (k 0, 3, .inl (fun _ => 0))) :: (a72, .inr (0, [.int 0, .int 0, .int 0, .int 0, .int 0, .ref q_28, .ref q_29, .ref q_30, .ref q_31, .ref q_32, .ref q_33, .ref q_34])) :: (q_28, .inl (k 0, 60, .inl (fun _ => 0))) :: (q_29, .inl (k 0, 60, .inl (fun _ => 0))) :: (q_30, .inl (k 0, 60, .inl (fun _ => 0))) :: (q_31, .inl (k 0, 60, .inl (fun _ => 0))) :: (q_32, .inl (k 0, 60, .inl (fun _ => 0))) :: (q_33, .inl (k 0, 6, .inl (fun _ => 0))) :: (q_34, .inl (k 0, 3, .inl (fun _ => 0))) :: (a88, .inr (5, [.ref a24, .int 0, .int 0, .ref q_35, .ref q_36, .ref q_37, .int 0, .ref q_38, .ref q_39, .ref q_40, .ref q_41, .int 0, .int (-1), .ref q_42, .ref q_43])) :: (q_35, .inl (k 0, 1500, .inl (fun _ => 0))) :: (q_36, .inl (k 0, 1500, .inl (fun _ => 0))) :: (q_37, .inl (k 0, 1500, .inl (fun _ => 0))) :: (q_38, .inl (k 0, 1024, .inl (fun _ => 0))) :: (q_39, .inl (k 0, 1500, .inl (fun _ => 0))) :: (q_40, .inl (k 0, 1500, .inl (fun _ => 0))) :: (q_41, .inl (k 0, 1500, .inl (fun _ => 0))) :: (q_42, .inl (k 0, 7, .inl (fun _ => 0))) :: (q_43, .inl (k 0, 1641, .inl (fun _ => 0))) :: (a106, .inl (k 0, 128, .inl (fun _ => 0))) :: [])) (va_runVN (As := []) (rest := [.ref a61]) ⟨hx, hb, hml, hown, hts⟩ (cX3_firstState_0 l G k a24 (.int 1) (.int 99) (.int 0) (.int 1) (.int 20) (.int 0) (.ref q_1) (.ref q_2) (.ref q_3) (.ref q_4) (.ref q_9) (.ref q_8) H.size) ⟨va_cnB 0 hts (gz [] (.code yX3_firstState cX3_firstState 3 (some .int)) [(5, 7)] rfl) rfl rfl rfl (nm_7 hX.2.2.1) h10w (by decide +kernel) ⟨Nat.le_of_ble_eq_true rfl, Nat.le_of_ble_eq_true rfl⟩, h37w, h38w⟩ (cz_preV hZ hS hX hP hD [10] rfl rfl (ci := 2) (q0 := 10) rfl rfl) rfl rfl hl.1 rfl (lv_room (Nat.le_of_ble_eq_true rfl)) dX9_init_119 ⟨Nat.le_of_ble_eq_true rfl, Nat.le_of_ble_eq_true rfl⟩) hP hD hS hA [10] [0, 1, 2, 3, 4, 5, 6, 7, 8, 9, 11, 12, 13, 14, 15, 16, 17, 18, 19, 20, 21, 22, 23, 24, 25, 26, 27, 28, 29, 30, 31, 32, 33, 34, 35, 36, 37, 38, 39, 40, 41, 42, 43, 44, 45, 46, 47, 48, 49, 50, 51] rfl rfl (by decide) (by decide) (fun r u H locs hp hP hD hS => ?_)
  have hp : r = 268435455 := hp
  subst hp
  refine cz_v (wr := ((p0, .inr (6, [.ref a8, .int 0, .int (-1), .ref a46, .ref a24, .ref a35, .ref a61, .ref a72, .int 0, .ref a88, .ref a106])) :: (a8, .inl (k 1, 600, .inl (fun _ => 0))) :: (q_1, .inl (k 0, 7, .inl (fun _ => 0))) :: (q_2, .inl (k 0, 7, .inl (fun _ => 0))) :: (q_3, .inl (k 0, 7, .inl (fun _ => 0))) :: (q_4, .inl (k 0, 7, .inl (fun _ => 0))) :: (q_5, .inl (k 0, 600, .inl (fun _ => 0))) :: (q_6, .inl (k 0, 4, .inl (fun _ => 0))) :: (q_7, .inl (k 0, 32, .inl (fun _ => 0))) :: (q_8, .inl (k 0, 7, .inl (fun _ => 0))) :: (q_9, .inr (4, [.ref q_5, .ref q_6, .ref q_7, .int 0, .int 0])) :: (q_10, .inl (k 0, 7, .inl (fun _ => 0))) :: (q_11, .inl (k 0, 7, .inl (fun _ => 0))) :: (q_12, .inl (k 0, 7, .inl (fun _ => 0))) :: (q_13, .inl (k 0, 7, .inl (fun _ => 0))) :: (q_14, .inl (k 0, 600, .inl (fun _ => 0))) :: (q_15, .inl (k 0, 4, .inl (fun _ => 0))) :: (q_16, .inl (k 0, 32, .inl (fun _ => 0))) :: (q_17, .inl (k 0, 7, .inl (fun _ => 0))) :: (a35, .inr (2, [.int 1, .int 0, .int 99, .int 0, .int 1, .int 20, .int 0, .int 0, .ref q_10, .ref q_11, .ref q_12, .ref q_13, .ref q_18, .ref q_17])) :: (q_18, .inr (4, [.ref q_14, .ref q_15, .ref q_16, .int 0, .int 0])) :: (a46, .inr (1, [.ref q_19, .ref a35, .int 0, .int 0, .int (-1)])) :: (q_19, .inr (3, [.ref q_20, .int 0, .int 0, .int 0, .int 0, .ref (k 9), .int 0, .int 0])) :: (q_20, .inl (k 1, 0, .inl (fun _ => 0))) :: (q_21, .inl (k 0, 60, .inl (fun _ => 0))) :: (q_22, .inl (k 0, 60, .inl (fun _ => 0))) :: (q_23, .inl (k 0, 60, .inl (fun _ => 0))) :: (q_24, .inl (k 0, 60, .inl (fun _ => 0))) :: (q_25, .inl (k 0, 60, .inl (fun _ => 0))) :: (q_26, .inl (k 0, 6, .inl (fun _ => 0))) :: (q_27, .inl (k 0, 3, .inl (fun _ => 0))) :: (a72, .inr (0, [.int 0, .int 0, .int 0, .int 0, .int 0, .ref q_28, .ref q_29, .ref q_30, .ref q_31, .ref q_32, .ref q_33, .ref q_34])) :: (q_28, .inl (k 0, 60, .inl (fun _ => 0))) :: (q_29, .inl (k 0, 60, .inl (fun _ => 0))) :: (q_30, .inl (k 0, 60, .inl (fun _ => 0))) :: (q_31, .inl (k 0, 60, .inl (fun _ => 0))) :: (q_32, .inl (k 0, 60, .inl (fun _ => 0))) :: (q_33, .inl (k 0, 6, .inl (fun _ => 0))) :: (q_34, .inl (k 0, 3, .inl (fun _ => 0))) :: (a88, .inr (5, [.ref a24, .int 0, .int 0, .ref q_35, .ref q_36, .ref q_37, .int 0, .ref q_38, .ref q_39, .ref q_40, .ref q_41, .int 0, .int (-1), .ref q_42, .ref q_43])) :: (q_35, .inl (k 0, 1500, .inl (fun _ => 0))) :: (q_36, .inl (k 0, 1500, .inl (fun _ => 0))) :: (q_37, .inl (k 0, 1500, .inl (fun _ => 0))) :: (q_38, .inl (k 0, 1024, .inl (fun _ => 0))) :: (q_39, .inl (k 0, 1500, .inl (fun _ => 0))) :: (q_40, .inl (k 0, 1500, .inl (fun _ => 0))) :: (q_41, .inl (k 0, 1500, .inl (fun _ => 0))) :: (q_42, .inl (k 0, 7, .inl (fun _ => 0))) :: (q_43, .inl (k 0, 1641, .inl (fun _ => 0))) :: (a106, .inl (k 0, 128, .inl (fun _ => 0))) :: (a24, .inr (2, [.int 1, .int 0, .int 99, .int 0, .int 1, .int 20, .int 0, .int 0, .ref q_1, .ref q_2, .ref q_3, .ref q_4, .ref q_9, .ref q_8])) :: [])) (va_runVN (As := [.int 268435455]) (rest := []) ⟨hx, hb, hml, hown, hts⟩ (cX1_begin_0 l G k a61 (.int 0) (.int 0) (.int 0) (.int 0) (.int 0) (.ref q_21) (.ref q_22) (.ref q_23) (.ref q_24) (.ref q_25) (.ref q_26) (.ref q_27) H.size) ⟨va_cnB 1 hts (gz [] (.code yX1_begin cX1_begin 2 none) [(5, 17)] rfl) rfl rfl rfl (nm_10 hX.2.2.1) h23w (by decide +kernel) ⟨Nat.le_of_ble_eq_true rfl, Nat.le_of_ble_eq_true rfl⟩, h39w, h40w⟩ (cz_preV hZ hS hX hP hD [24] rfl rfl (ci := 0) (q0 := 24) rfl rfl) rfl rfl hl.1 rfl (lv_room (Nat.le_of_ble_eq_true rfl)) dX9_init_122 ⟨Nat.le_of_ble_eq_true rfl, Nat.le_of_ble_eq_true rfl⟩) hP hD hS hA [24] [0, 1, 2, 3, 4, 5, 6, 7, 8, 9, 10, 11, 12, 13, 14, 15, 16, 17, 18, 19, 20, 21, 22, 23, 25, 26, 27, 28, 29, 30, 31, 32, 33, 34, 35, 36, 37, 38, 39, 40, 41, 42, 43, 44, 45, 46, 47, 48, 49, 50, 51] rfl rfl (by decide) (by decide) (fun u H locs hp hP hD hS => ?_)
  have hP9 := hP.sub (ws' := ((p0, .inr (6, [.ref a8, .int 0, .int (-1), .ref a46, .ref a24, .ref a35, .ref a61, .ref a72, .int 0, .ref a88, .ref a106])) :: (a8, .inl (k 1, 600, .inl (fun _ => 0))) :: (q_1, .inl (k 0, 7, .inl (fun _ => 0))) :: (q_2, .inl (k 0, 7, .inl (fun _ => 0))) :: (q_3, .inl (k 0, 7, .inl (fun _ => 0))) :: (q_4, .inl (k 0, 7, .inl (fun _ => 0))) :: (q_5, .inl (k 0, 600, .inl (fun _ => 0))) :: (q_6, .inl (k 0, 4, .inl (fun _ => 0))) :: (q_7, .inl (k 0, 32, .inl (fun _ => 0))) :: (q_8, .inl (k 0, 7, .inl (fun _ => 0))) :: (q_9, .inr (4, [.ref q_5, .ref q_6, .ref q_7, .int 0, .int 0])) :: (q_10, .inl (k 0, 7, .inl (fun _ => 0))) :: (q_11, .inl (k 0, 7, .inl (fun _ => 0))) :: (q_12, .inl (k 0, 7, .inl (fun _ => 0))) :: (q_13, .inl (k 0, 7, .inl (fun _ => 0))) :: (q_14, .inl (k 0, 600, .inl (fun _ => 0))) :: (q_15, .inl (k 0, 4, .inl (fun _ => 0))) :: (q_16, .inl (k 0, 32, .inl (fun _ => 0))) :: (q_17, .inl (k 0, 7, .inl (fun _ => 0))) :: (a35, .inr (2, [.int 1, .int 0, .int 99, .int 0, .int 1, .int 20, .int 0, .int 0, .ref q_10, .ref q_11, .ref q_12, .ref q_13, .ref q_18, .ref q_17])) :: (q_18, .inr (4, [.ref q_14, .ref q_15, .ref q_16, .int 0, .int 0])) :: (a46, .inr (1, [.ref q_19, .ref a35, .int 0, .int 0, .int (-1)])) :: (q_19, .inr (3, [.ref q_20, .int 0, .int 0, .int 0, .int 0, .ref (k 9), .int 0, .int 0])) :: (q_20, .inl (k 1, 0, .inl (fun _ => 0))) :: (q_21, .inl (k 0, 60, .inl (fun _ => 0))) :: (q_22, .inl (k 0, 60, .inl (fun _ => 0))) :: (q_23, .inl (k 0, 60, .inl (fun _ => 0))) :: (q_24, .inl (k 0, 60, .inl (fun _ => 0))) :: (q_25, .inl (k 0, 60, .inl (fun _ => 0))) :: (q_26, .inl (k 0, 6, .inl (fun _ => 0))) :: (q_27, .inl (k 0, 3, .inl (fun _ => 0))) :: (a72, .inr (0, [.int 0, .int 0, .int 0, .int 0, .int 0, .ref q_28, .ref q_29, .ref q_30, .ref q_31, .ref q_32, .ref q_33, .ref q_34])) :: (q_28, .inl (k 0, 60, .inl (fun _ => 0))) :: (q_29, .inl (k 0, 60, .inl (fun _ => 0))) :: (q_30, .inl (k 0, 60, .inl (fun _ => 0))) :: (q_31, .inl (k 0, 60, .inl (fun _ => 0))) :: (q_32, .inl (k 0, 60, .inl (fun _ => 0))) :: (q_33, .inl (k 0, 6, .inl (fun _ => 0))) :: (q_34, .inl (k 0, 3, .inl (fun _ => 0))) :: (a88, .inr (5, [.ref a24, .int 0, .int 0, .ref q_35, .ref q_36, .ref q_37, .int 0, .ref q_38, .ref q_39, .ref q_40, .ref q_41, .int 0, .int (-1), .ref q_42, .ref q_43])) :: (q_35, .inl (k 0, 1500, .inl (fun _ => 0))) :: (q_36, .inl (k 0, 1500, .inl (fun _ => 0))) :: (q_37, .inl (k 0, 1500, .inl (fun _ => 0))) :: (q_38, .inl (k 0, 1024, .inl (fun _ => 0))) :: (q_39, .inl (k 0, 1500, .inl (fun _ => 0))) :: (q_40, .inl (k 0, 1500, .inl (fun _ => 0))) :: (q_41, .inl (k 0, 1500, .inl (fun _ => 0))) :: (q_42, .inl (k 0, 7, .inl (fun _ => 0))) :: (q_43, .inl (k 0, 1641, .inl (fun _ => 0))) :: (a106, .inl (k 0, 128, .inl (fun _ => 0))) :: (a24, .inr (2, [.int 1, .int 0, .int 99, .int 0, .int 1, .int 20, .int 0, .int 0, .ref q_1, .ref q_2, .ref q_3, .ref q_4, .ref q_9, .ref q_8])) :: (a61, .inr (0, [.int 268435455, .int 0, .int 0, .int 0, .int 0, .ref q_21, .ref q_22, .ref q_23, .ref q_24, .ref q_25, .ref q_26, .ref q_27])) :: [])) [0, 1, 2, 3, 4, 5, 6, 7, 8, 9, 10, 11, 12, 13, 14, 15, 16, 17, 18, 19, 20, 21, 22, 23, 24, 25, 26, 27, 28, 29, 30, 31, 32, 33, 34, 35, 36, 37, 38, 39, 40, 41, 42, 43, 44, 45, 46, 47, 48, 49, 50, 51] rfl
  have hD9 := hD.sub (ws' := ((p0, .inr (6, [.ref a8, .int 0, .int (-1), .ref a46, .ref a24, .ref a35, .ref a61, .ref a72, .int 0, .ref a88, .ref a106])) :: (a8, .inl (k 1, 600, .inl (fun _ => 0))) :: (q_1, .inl (k 0, 7, .inl (fun _ => 0))) :: (q_2, .inl (k 0, 7, .inl (fun _ => 0))) :: (q_3, .inl (k 0, 7, .inl (fun _ => 0))) :: (q_4, .inl (k 0, 7, .inl (fun _ => 0))) :: (q_5, .inl (k 0, 600, .inl (fun _ => 0))) :: (q_6, .inl (k 0, 4, .inl (fun _ => 0))) :: (q_7, .inl (k 0, 32, .inl (fun _ => 0))) :: (q_8, .inl (k 0, 7, .inl (fun _ => 0))) :: (q_9, .inr (4, [.ref q_5, .ref q_6, .ref q_7, .int 0, .int 0])) :: (q_10, .inl (k 0, 7, .inl (fun _ => 0))) :: (q_11, .inl (k 0, 7, .inl (fun _ => 0))) :: (q_12, .inl (k 0, 7, .inl (fun _ => 0))) :: (q_13, .inl (k 0, 7, .inl (fun _ => 0))) :: (q_14, .inl (k 0, 600, .inl (fun _ => 0))) :: (q_15, .inl (k 0, 4, .inl (fun _ => 0))) :: (q_16, .inl (k 0, 32, .inl (fun _ => 0))) :: (q_17, .inl (k 0, 7, .inl (fun _ => 0))) :: (a35, .inr (2, [.int 1, .int 0, .int 99, .int 0, .int 1, .int 20, .int 0, .int 0, .ref q_10, .ref q_11, .ref q_12, .ref q_13, .ref q_18, .ref q_17])) :: (q_18, .inr (4, [.ref q_14, .ref q_15, .ref q_16, .int 0, .int 0])) :: (a46, .inr (1, [.ref q_19, .ref a35, .int 0, .int 0, .int (-1)])) :: (q_19, .inr (3, [.ref q_20, .int 0, .int 0, .int 0, .int 0, .ref (k 9), .int 0, .int 0])) :: (q_20, .inl (k 1, 0, .inl (fun _ => 0))) :: (q_21, .inl (k 0, 60, .inl (fun _ => 0))) :: (q_22, .inl (k 0, 60, .inl (fun _ => 0))) :: (q_23, .inl (k 0, 60, .inl (fun _ => 0))) :: (q_24, .inl (k 0, 60, .inl (fun _ => 0))) :: (q_25, .inl (k 0, 60, .inl (fun _ => 0))) :: (q_26, .inl (k 0, 6, .inl (fun _ => 0))) :: (q_27, .inl (k 0, 3, .inl (fun _ => 0))) :: (a72, .inr (0, [.int 0, .int 0, .int 0, .int 0, .int 0, .ref q_28, .ref q_29, .ref q_30, .ref q_31, .ref q_32, .ref q_33, .ref q_34])) :: (q_28, .inl (k 0, 60, .inl (fun _ => 0))) :: (q_29, .inl (k 0, 60, .inl (fun _ => 0))) :: (q_30, .inl (k 0, 60, .inl (fun _ => 0))) :: (q_31, .inl (k 0, 60, .inl (fun _ => 0))) :: (q_32, .inl (k 0, 60, .inl (fun _ => 0))) :: (q_33, .inl (k 0, 6, .inl (fun _ => 0))) :: (q_34, .inl (k 0, 3, .inl (fun _ => 0))) :: (a88, .inr (5, [.ref a24, .int 0, .int 0, .ref q_35, .ref q_36, .ref q_37, .int 0, .ref q_38, .ref q_39, .ref q_40, .ref q_41, .int 0, .int (-1), .ref q_42, .ref q_43])) :: (q_35, .inl (k 0, 1500, .inl (fun _ => 0))) :: (q_36, .inl (k 0, 1500, .inl (fun _ => 0))) :: (q_37, .inl (k 0, 1500, .inl (fun _ => 0))) :: (q_38, .inl (k 0, 1024, .inl (fun _ => 0))) :: (q_39, .inl (k 0, 1500, .inl (fun _ => 0))) :: (q_40, .inl (k 0, 1500, .inl (fun _ => 0))) :: (q_41, .inl (k 0, 1500, .inl (fun _ => 0))) :: (q_42, .inl (k 0, 7, .inl (fun _ => 0))) :: (q_43, .inl (k 0, 1641, .inl (fun _ => 0))) :: (a106, .inl (k 0, 128, .inl (fun _ => 0))) :: (a24, .inr (2, [.int 1, .int 0, .int 99, .int 0, .int 1, .int 20, .int 0, .int 0, .ref q_1, .ref q_2, .ref q_3, .ref q_4, .ref q_9, .ref q_8])) :: (a61, .inr (0, [.int 268435455, .int 0, .int 0, .int 0, .int 0, .ref q_21, .ref q_22, .ref q_23, .ref q_24, .ref q_25, .ref q_26, .ref q_27])) :: [])) [0, 1, 2, 3, 4, 5, 6, 7, 8, 9, 10, 11, 12, 13, 14, 15, 16, 17, 18, 19, 20, 21, 22, 23, 24, 25, 26, 27, 28, 29, 30, 31, 32, 33, 34, 35, 36, 37, 38, 39, 40, 41, 42, 43, 44, 45, 46, 47, 48, 49, 50, 51] (by decide) rfl
  refine W.widen (k := 51) (n := 14450) (Nat.le_of_ble_eq_true rfl) (Nat.le_of_ble_eq_true rfl) ?_
  exact W.vret hx hb hr (fun t ht hW => ⟨⟨(a8, q_1, q_2, q_3, q_4, q_5, q_6, q_7, q_8, q_9, q_10, q_11, q_12, q_13, q_14, q_15, q_16, q_17, a35, q_18, a46, q_19, q_20, q_21, q_22, q_23, q_24, q_25, q_26, q_27, a72, q_28, q_29, q_30, q_31, q_32, q_33, q_34, a88, q_35, q_36, q_37, q_38, q_39, q_40, q_41, q_42, q_43, a106, a24, a61), rfl, trivial, by rw [ht]; exact hP9, hD9⟩, hS.F ht⟩) hS.2.2 dX9_init_125


