set_option maxHeartbeats 4000000 in
set_option maxRecDepth 100000 in
theorem cX5_clear_0 (l : Launch) (G : va_G) (k : Nat → ClassId) (p0 : Nat) (v1 : Value) (v2 : Value) (v3 : Value) (v4 : Value) (v5 : Value) (sz : Nat) : CMv l G k yX5_clear wsX5_clear ({ frames := 0, cells := 0, slots := 0, locals := 0 }) [.ref p0] sz [(p0, .inr (4, [v1, v2, v3, v4, v5]))] (fun (u : Unit) => True) (fun (u : Unit) => [(p0, .inr (4, [v1, v2, v3, .int 0, .int 0]))]) := by
  refine Met.ofW (cc := cX5_clear) (maxL := 1) (ret := none) (by decide) rfl ?_
  intro p e s m args below meth c s₁ B hml hv
  obtain ⟨rfl, hsz, hP, hX, hD0, hZ0⟩ := hv
  have hx := B.exec
  have hb := B.bytes
  have hr := B.returns
  have hts := atoms_spec (ws := wsX5_clear) B.pre
  have hown : s.vm.findClass RX5 = some m.cls := findClass_of_methodNamed B.named
  subst hsz
  have hD := hD0.self (sz := s.heap.size)
  have hZ := ZX.up hP hZ0
  generalize hAe : va_A [(p0, .inr (4, [v1, v2, v3, v4, v5]))] s.heap.size = A at hD hZ ⊢
  have hA : ∀ q : Nat, s.heap.size ≤ q → A q := fun q h => by rw [← hAe]; exact Or.inr h
  have hS : va_S A s.heap s.heap [] := va_S.rf
  have hP : va_P G vwCl [(p0, .inr (4, [v1, v2, v3, v4, v5]))] s.heap := hP
  have hl := lv_entry ([.ref p0]) (n := 1) (Nat.le_of_ble_eq_true rfl)
  rw [lg_entry_eq]
  generalize (lg_sl ([.ref p0]) ++ List.replicate (1 - (lg_sl ([.ref p0])).length) Slot.unset).toArray = ls at hl ⊢
  have hl : lv_has ls 1 [(0, .ref p0)] := hl
  have h0w := hts (.fieldLink RX5 24 "RopeTown$Rules" "length" "I") (by decide +kernel)
  have h1w : ∀ w ∈ wsX50, w ∈ wsX5_clear := by decide +kernel
  have h2w := hts (.fieldLink RX5 28 "RopeTown$Rules" "size" "I") (by decide +kernel)
  refine lv_aload_n hx hb dX5_clear_0 rfl (lv_at hl 0 rfl) ?_
  refine lv_iconst (v := 0) hx hb dX5_clear_1 (by decide +kernel) ?_
  refine va_put (D := G) (ci := 4) (v := .int 0) (ty := .int) (C := RX5) (T := TX5) (N := 5) (ref := RX5) hx hb hts h1w tyX5 tyX5_ok nmX5 hown hX.1 hP hD hS 0 rfl rfl 3 (by decide) h0w (fun _ h9 => h9) rfl (by decide +kernel) rfl rfl (Nat.le_of_ble_eq_true rfl) dX5_clear_2 (fun H locs hP hD hS => ?_)
  refine lv_aload_n hx hb dX5_clear_5 rfl (lv_at hl 0 rfl) ?_
  refine lv_iconst (v := 0) hx hb dX5_clear_6 (by decide +kernel) ?_
  refine va_put (D := G) (ci := 4) (v := .int 0) (ty := .int) (C := RX5) (T := TX5) (N := 5) (ref := RX5) hx hb hts h1w tyX5 tyX5_ok nmX5 hown hX.1 hP hD hS 0 rfl rfl 4 (by decide) h2w (fun _ h9 => h9) rfl (by decide +kernel) rfl rfl (Nat.le_of_ble_eq_true rfl) dX5_clear_7 (fun H locs hP hD hS => ?_)
  have hP9 := hP.sub (ws' := [(p0, .inr (4, [v1, v2, v3, .int 0, .int 0]))]) [0] rfl
  have hD9 := hD.sub (ws' := [(p0, .inr (4, [v1, v2, v3, .int 0, .int 0]))]) [0] (by decide) rfl
  exact W.vret hx hb hr (fun t ht hW => ⟨⟨(), rfl, trivial, by rw [ht]; exact hP9, hD9⟩, hS.F ht⟩) hS.2.2 dX5_clear_10

set_option maxHeartbeats 4000000 in
set_option maxRecDepth 100000 in
theorem cX5_init_0 (l : Launch) (G : va_G) (k : Nat → ClassId) (p0 : Nat) (v1 : Value) (v2 : Value) (v3 : Value) (v4 : Value) (v5 : Value) (sz : Nat) : CMv l G k yX5_init wsX5_init ({ frames := 1, cells := 3, slots := 636, locals := 20 }) [.ref p0] sz [(p0, .inr (4, [v1, v2, v3, v4, v5]))] (fun (u : Nat × Nat × Nat) => True) (fun (u : Nat × Nat × Nat) => [(u.1, .inl (k 0, 600, .inl (fun _ => 0))), (u.2.1, .inl (k 0, 4, .inl (fun _ => 0))), (u.2.2, .inl (k 0, 32, .inl (fun _ => 0))), (p0, .inr (4, [.ref u.1, .ref u.2.1, .ref u.2.2, .int 0, .int 0]))]) := by
  refine Met.ofW (cc := cX5_init) (maxL := 1) (ret := none) (by decide) rfl ?_
  intro p e s m args below meth c s₁ B hml hv
  obtain ⟨rfl, hsz, hP, hX, hD0, hZ0⟩ := hv
  have hx := B.exec
  have hb := B.bytes
  have hr := B.returns
  have hts := atoms_spec (ws := wsX5_init) B.pre
  have hown : s.vm.findClass RX5 = some m.cls := findClass_of_methodNamed B.named
  have hin : meth.name = "<init>" := (name_of_methodNamed B.named B.method).1
  subst hsz
  have hD := hD0.self (sz := s.heap.size)
  have hZ := ZX.up hP hZ0
  generalize hAe : va_A [(p0, .inr (4, [v1, v2, v3, v4, v5]))] s.heap.size = A at hD hZ ⊢
  have hA : ∀ q : Nat, s.heap.size ≤ q → A q := fun q h => by rw [← hAe]; exact Or.inr h
  have hS : va_S A s.heap s.heap [] := va_S.rf
  have hP : va_P G vwCl [(p0, .inr (4, [v1, v2, v3, v4, v5]))] s.heap := hP
  have hl := lv_entry ([.ref p0]) (n := 1) (Nat.le_of_ble_eq_true rfl)
  rw [lg_entry_eq]
  generalize (lg_sl ([.ref p0]) ++ List.replicate (1 - (lg_sl ([.ref p0])).length) Slot.unset).toArray = ls at hl ⊢
  have hl : lv_has ls 1 [(0, .ref p0)] := hl
  have h0w := hts (.methodLink RX5 3 objectInit) (by decide +kernel)
  have h1w := hts (.instanceMethod objectInit) (by decide +kernel)
  have h2w := hts (.code objectInit ⟨#[0xb1]⟩ 1 none) (by decide +kernel)
  have h3w := hts (.arrayClass .int) (by decide +kernel)
  have h4w := hts (.fieldLink RX5 9 "RopeTown$Rules" "code" "[I") (by decide +kernel)
  have h5w : ∀ w ∈ wsX50, w ∈ wsX5_init := by decide +kernel
  have h6w := hts (.fieldLink RX5 15 "RopeTown$Rules" "ends" "[I") (by decide +kernel)
  have h7w := hts (.fieldLink RX5 18 "RopeTown$Rules" "held" "[I") (by decide +kernel)
  refine lv_aload_n hx hb dX5_init_0 rfl (lv_at hl 0 rfl) ?_
  refine W.objInit hx hb hown h0w h1w h2w rfl (by rw [hml]; exact hl.1) rfl dX5_init_1 (Nat.le_of_ble_eq_true rfl) (Nat.le_of_ble_eq_true rfl) ?_
  refine W.eq (g2 := F0 m 4 ls []) rfl ?_
  refine lv_aload_n hx hb dX5_init_4 rfl (lv_at hl 0 rfl) ?_
  refine lv_sipush (v := 600) hx hb dX5_init_5 (by decide +kernel) ?_
  refine cz_newa (atype := .int) (N' := 600) (a0 := (600, .inl (fun _ => 0))) (ty := .int) hx hb h3w rfl hX hP hD hS hA 0 (by decide +kernel) (ha_int 600) (by decide +kernel) (by decide +kernel) (Nat.le_of_ble_eq_true rfl) (Nat.le_of_ble_eq_true rfl) (Nat.le_of_ble_eq_true rfl) dX5_init_8 (fun a8 H hP hD hS => ?_)
  refine W.widen (k := 1) (n := 600) (Nat.le_of_ble_eq_true rfl) (Nat.le_of_ble_eq_true rfl) ?_
  refine va_putF (D := G) (ci := 4) (v := .ref a8) (ty := .array .int) (C := RX5) (T := TX5) (N := 5) (ref := RX5) hx hb hts h5w tyX5 tyX5_ok nmX5 hown hX.1 hP hD hS 0 rfl rfl 0 (by decide) h4w (fun _ h9 => h9) rfl hin rfl (by decide +kernel) rfl rfl (Nat.le_of_ble_eq_true rfl) dX5_init_10 (fun H locs hP hD hS => ?_)
  refine lv_aload_n hx hb dX5_init_13 rfl (lv_at hl 0 rfl) ?_
  refine lv_iconst (v := 4) hx hb dX5_init_14 (by decide +kernel) ?_
  refine cz_newa (atype := .int) (N' := 4) (a0 := (4, .inl (fun _ => 0))) (ty := .int) hx hb h3w rfl hX hP hD hS hA 0 (by decide +kernel) (ha_int 4) (by decide +kernel) (by decide +kernel) (Nat.le_of_ble_eq_true rfl) (Nat.le_of_ble_eq_true rfl) (Nat.le_of_ble_eq_true rfl) dX5_init_15 (fun a15 H hP hD hS => ?_)
  refine W.widen (k := 2) (n := 604) (Nat.le_of_ble_eq_true rfl) (Nat.le_of_ble_eq_true rfl) ?_
  refine va_putF (D := G) (ci := 4) (v := .ref a15) (ty := .array .int) (C := RX5) (T := TX5) (N := 5) (ref := RX5) hx hb hts h5w tyX5 tyX5_ok nmX5 hown hX.1 hP hD hS 0 rfl rfl 1 (by decide) h6w (fun _ h9 => h9) rfl hin rfl (by decide +kernel) rfl rfl (Nat.le_of_ble_eq_true rfl) dX5_init_17 (fun H locs hP hD hS => ?_)
  refine lv_aload_n hx hb dX5_init_20 rfl (lv_at hl 0 rfl) ?_
  refine lv_bipush (v := 32) hx hb dX5_init_21 (by decide +kernel) ?_
  refine cz_newa (atype := .int) (N' := 32) (a0 := (32, .inl (fun _ => 0))) (ty := .int) hx hb h3w rfl hX hP hD hS hA 0 (by decide +kernel) (ha_int 32) (by decide +kernel) (by decide +kernel) (Nat.le_of_ble_eq_true rfl) (Nat.le_of_ble_eq_true rfl) (Nat.le_of_ble_eq_true rfl) dX5_init_23 (fun a23 H hP hD hS => ?_)
  refine W.widen (k := 3) (n := 636) (Nat.le_of_ble_eq_true rfl) (Nat.le_of_ble_eq_true rfl) ?_
  refine va_putF (D := G) (ci := 4) (v := .ref a23) (ty := .array .int) (C := RX5) (T := TX5) (N := 5) (ref := RX5) hx hb hts h5w tyX5 tyX5_ok nmX5 hown hX.1 hP hD hS 0 rfl rfl 2 (by decide) h7w (fun _ h9 => h9) rfl hin rfl (by decide +kernel) rfl rfl (Nat.le_of_ble_eq_true rfl) dX5_init_25 (fun H locs hP hD hS => ?_)
  obtain ⟨hP, hD⟩ : va_P G vwCl [(p0, .inr (4, [.ref a8, .ref a15, .ref a23, v4, v5])), (a8, .inl (k 0, 600, .inl (fun _ => 0))), (a15, .inl (k 0, 4, .inl (fun _ => 0))), (a23, .inl (k 0, 32, .inl (fun _ => 0)))] H ∧ va_D A [(p0, .inr (4, [.ref a8, .ref a15, .ref a23, v4, v5])), (a8, .inl (k 0, 600, .inl (fun _ => 0))), (a15, .inl (k 0, 4, .inl (fun _ => 0))), (a23, .inl (k 0, 32, .inl (fun _ => 0)))] := ⟨hP, hD⟩
  refine lv_aload_n hx hb dX5_init_28 rfl (lv_at hl 0 rfl) ?_
  refine cz_v (wr := [(a8, .inl (k 0, 600, .inl (fun _ => 0))), (a15, .inl (k 0, 4, .inl (fun _ => 0))), (a23, .inl (k 0, 32, .inl (fun _ => 0)))]) (va_runV (As := []) (rest := []) ⟨hx, hb, hml, hown, hts⟩ (cX5_clear_0 l G k p0 (.ref a8) (.ref a15) (.ref a23) v4 v5 H.size) (cwV 0 hts gX5_init_X5_clear rfl rfl rfl (by decide +kernel) ⟨Nat.le_of_ble_eq_true rfl, Nat.le_of_ble_eq_true rfl⟩) (cz_preV hZ hS hX hP hD [0] rfl rfl (ci := 4) (q0 := 0) rfl rfl) rfl rfl hl.1 rfl (lv_room (Nat.le_of_ble_eq_true rfl)) dX5_init_29 ⟨Nat.le_of_ble_eq_true rfl, Nat.le_of_ble_eq_true rfl⟩) hP hD hS hA [0] [1, 2, 3] rfl rfl (by decide) (by decide) (fun u H locs hp hP hD hS => ?_)
  have hP9 := hP.sub (ws' := [(a8, .inl (k 0, 600, .inl (fun _ => 0))), (a15, .inl (k 0, 4, .inl (fun _ => 0))), (a23, .inl (k 0, 32, .inl (fun _ => 0))), (p0, .inr (4, [.ref a8, .ref a15, .ref a23, .int 0, .int 0]))]) [0, 1, 2, 3] rfl
  have hD9 := hD.sub (ws' := [(a8, .inl (k 0, 600, .inl (fun _ => 0))), (a15, .inl (k 0, 4, .inl (fun _ => 0))), (a23, .inl (k 0, 32, .inl (fun _ => 0))), (p0, .inr (4, [.ref a8, .ref a15, .ref a23, .int 0, .int 0]))]) [0, 1, 2, 3] (by decide) rfl
  refine W.widen (k := 3) (n := 636) (Nat.le_of_ble_eq_true rfl) (Nat.le_of_ble_eq_true rfl) ?_
  exact W.vret hx hb hr (fun t ht hW => ⟨⟨(a8, a15, a23), rfl, trivial, by rw [ht]; exact hP9, hD9⟩, hS.F ht⟩) hS.2.2 dX5_init_32

set_option maxHeartbeats 4000000 in
set_option maxRecDepth 100000 in
theorem cX3_clear_0 (l : Launch) (G : va_G) (k : Nat → ClassId) (p0 : Nat) (v1 : Value) (v2 : Value) (v3 : Value) (v4 : Value) (v5 : Value) (v6 : Value) (v7 : Value) (v8 : Value) (v9 : Value) (v10 : Value) (v11 : Value) (v12 : Value) (p13 : Nat) (v14 : Value) (v15 : Value) (v16 : Value) (v17 : Value) (v18 : Value) (v19 : Value) (sz : Nat) : CMv l G k yX3_clear wsX3_clear ({ frames := 1, cells := 0, slots := 0, locals := 20 }) [.ref p0] sz [(p0, .inr (2, [v1, v2, v3, v4, v5, v6, v7, v8, v9, v10, v11, v12, .ref p13, v14])), (p13, .inr (4, [v15, v16, v17, v18, v19]))] (fun (u : Unit) => True) (fun (u : Unit) => [(p0, .inr (2, [.int 1, .int 0, .int 99, .int 0, .int 1, .int 20, .int 0, .int 0, v9, v10, v11, v12, .ref p13, v14])), (p13, .inr (4, [v15, v16, v17, .int 0, .int 0]))]) := by
  refine Met.ofW (cc := cX3_clear) (maxL := 1) (ret := none) (by decide) rfl ?_
  intro p e s m args below meth c s₁ B hml hv
  obtain ⟨rfl, hsz, hP, hX, hD0, hZ0⟩ := hv
  have hx := B.exec
  have hb := B.bytes
  have hr := B.returns
  have hts := atoms_spec (ws := wsX3_clear) B.pre
  have hown : s.vm.findClass RX3 = some m.cls := findClass_of_methodNamed B.named
  subst hsz
  have hD := hD0.self (sz := s.heap.size)
  have hZ := ZX.up hP hZ0
  generalize hAe : va_A [(p0, .inr (2, [v1, v2, v3, v4, v5, v6, v7, v8, v9, v10, v11, v12, .ref p13, v14])), (p13, .inr (4, [v15, v16, v17, v18, v19]))] s.heap.size = A at hD hZ ⊢
  have hA : ∀ q : Nat, s.heap.size ≤ q → A q := fun q h => by rw [← hAe]; exact Or.inr h
  have hS : va_S A s.heap s.heap [] := va_S.rf
  have hP : va_P G vwCl [(p0, .inr (2, [v1, v2, v3, v4, v5, v6, v7, v8, v9, v10, v11, v12, .ref p13, v14])), (p13, .inr (4, [v15, v16, v17, v18, v19]))] s.heap := hP
  have hl := lv_entry ([.ref p0]) (n := 1) (Nat.le_of_ble_eq_true rfl)
  rw [lg_entry_eq]
  generalize (lg_sl ([.ref p0]) ++ List.replicate (1 - (lg_sl ([.ref p0])).length) Slot.unset).toArray = ls at hl ⊢
  have hl : lv_has ls 1 [(0, .ref p0)] := hl
  have h0w := hts (.fieldLink RX3 37 "RopeTown$Plan" "bottom" "I") (by decide +kernel)
  have h1w : ∀ w ∈ wsX30, w ∈ wsX3_clear := by decide +kernel
  have h2w := hts (.fieldLink RX3 41 "RopeTown$Plan" "start" "I") (by decide +kernel)
  have h3w := hts (.fieldLink RX3 44 "RopeTown$Plan" "cap" "I") (by decide +kernel)
  have h4w := hts (.fieldLink RX3 47 "RopeTown$Plan" "rope" "I") (by decide +kernel)
  have h5w := hts (.fieldLink RX3 50 "RopeTown$Plan" "needs" "I") (by decide +kernel)
  have h6w := hts (.fieldLink RX3 53 "RopeTown$Plan" "most" "I") (by decide +kernel)
  have h7w := hts (.fieldLink RX3 56 "RopeTown$Plan" "brake" "I") (by decide +kernel)
  have h8w := hts (.fieldLink RX3 59 "RopeTown$Plan" "things" "I") (by decide +kernel)
  have h9w := hts (.fieldLink RX3 27 "RopeTown$Plan" "rules" "LRopeTown$Rules;") (by decide +kernel)
  have h10w := hts (.initialized RX5) (by decide +kernel)
  have h11w := hts (.instanceMethod yX5_clear) (by decide +kernel)
  have h12w := hts (.selects RX5 yX5_clear yX5_clear) (by decide +kernel)
  refine lv_aload_n hx hb dX3_clear_0 rfl (lv_at hl 0 rfl) ?_
  refine lv_iconst (v := 1) hx hb dX3_clear_1 (by decide +kernel) ?_
  refine va_put (D := G) (ci := 2) (v := .int 1) (ty := .int) (C := RX3) (T := TX3) (N := 14) (ref := RX3) hx hb hts h1w tyX3 tyX3_ok nmX3 hown hX.1 hP hD hS 0 rfl rfl 0 (by decide) h0w (fun _ h9 => h9) rfl (by decide +kernel) rfl rfl (Nat.le_of_ble_eq_true rfl) dX3_clear_2 (fun H locs hP hD hS => ?_)
  refine lv_aload_n hx hb dX3_clear_5 rfl (lv_at hl 0 rfl) ?_
  refine lv_iconst (v := 0) hx hb dX3_clear_6 (by decide +kernel) ?_
  refine va_put (D := G) (ci := 2) (v := .int 0) (ty := .int) (C := RX3) (T := TX3) (N := 14) (ref := RX3) hx hb hts h1w tyX3 tyX3_ok nmX3 hown hX.1 hP hD hS 0 rfl rfl 1 (by decide) h2w (fun _ h9 => h9) rfl (by decide +kernel) rfl rfl (Nat.le_of_ble_eq_true rfl) dX3_clear_7 (fun H locs hP hD hS => ?_)
  refine lv_aload_n hx hb dX3_clear_10 rfl (lv_at hl 0 rfl) ?_
  refine lv_bipush (v := 99) hx hb dX3_clear_11 (by decide +kernel) ?_
  refine va_put (D := G) (ci := 2) (v := .int 99) (ty := .int) (C := RX3) (T := TX3) (N := 14) (ref := RX3) hx hb hts h1w tyX3 tyX3_ok nmX3 hown hX.1 hP hD hS 0 rfl rfl 2 (by decide) h3w (fun _ h9 => h9) rfl (by decide +kernel) rfl rfl (Nat.le_of_ble_eq_true rfl) dX3_clear_13 (fun H locs hP hD hS => ?_)
  refine lv_aload_n hx hb dX3_clear_16 rfl (lv_at hl 0 rfl) ?_
  refine lv_iconst (v := 0) hx hb dX3_clear_17 (by decide +kernel) ?_
  refine va_put (D := G) (ci := 2) (v := .int 0) (ty := .int) (C := RX3) (T := TX3) (N := 14) (ref := RX3) hx hb hts h1w tyX3 tyX3_ok nmX3 hown hX.1 hP hD hS 0 rfl rfl 3 (by decide) h4w (fun _ h9 => h9) rfl (by decide +kernel) rfl rfl (Nat.le_of_ble_eq_true rfl) dX3_clear_18 (fun H locs hP hD hS => ?_)
  refine lv_aload_n hx hb dX3_clear_21 rfl (lv_at hl 0 rfl) ?_
  refine lv_iconst (v := 1) hx hb dX3_clear_22 (by decide +kernel) ?_
  refine va_put (D := G) (ci := 2) (v := .int 1) (ty := .int) (C := RX3) (T := TX3) (N := 14) (ref := RX3) hx hb hts h1w tyX3 tyX3_ok nmX3 hown hX.1 hP hD hS 0 rfl rfl 4 (by decide) h5w (fun _ h9 => h9) rfl (by decide +kernel) rfl rfl (Nat.le_of_ble_eq_true rfl) dX3_clear_23 (fun H locs hP hD hS => ?_)
  refine lv_aload_n hx hb dX3_clear_26 rfl (lv_at hl 0 rfl) ?_
  refine lv_bipush (v := 20) hx hb dX3_clear_27 (by decide +kernel) ?_
  refine va_put (D := G) (ci := 2) (v := .int 20) (ty := .int) (C := RX3) (T := TX3) (N := 14) (ref := RX3) hx hb hts h1w tyX3 tyX3_ok nmX3 hown hX.1 hP hD hS 0 rfl rfl 5 (by decide) h6w (fun _ h9 => h9) rfl (by decide +kernel) rfl rfl (Nat.le_of_ble_eq_true rfl) dX3_clear_29 (fun H locs hP hD hS => ?_)
  obtain ⟨hP, hD⟩ : va_P G vwCl [(p0, .inr (2, [.int 1, .int 0, .int 99, .int 0, .int 1, .int 20, v7, v8, v9, v10, v11, v12, .ref p13, v14])), (p13, .inr (4, [v15, v16, v17, v18, v19]))] H ∧ va_D A [(p0, .inr (2, [.int 1, .int 0, .int 99, .int 0, .int 1, .int 20, v7, v8, v9, v10, v11, v12, .ref p13, v14])), (p13, .inr (4, [v15, v16, v17, v18, v19]))] := ⟨hP, hD⟩
  refine lv_aload_n hx hb dX3_clear_32 rfl (lv_at hl 0 rfl) ?_
  refine lv_iconst (v := 0) hx hb dX3_clear_33 (by decide +kernel) ?_
  refine va_put (D := G) (ci := 2) (v := .int 0) (ty := .int) (C := RX3) (T := TX3) (N := 14) (ref := RX3) hx hb hts h1w tyX3 tyX3_ok nmX3 hown hX.1 hP hD hS 0 rfl rfl 6 (by decide) h7w (fun _ h9 => h9) rfl (by decide +kernel) rfl rfl (Nat.le_of_ble_eq_true rfl) dX3_clear_34 (fun H locs hP hD hS => ?_)
  refine lv_aload_n hx hb dX3_clear_37 rfl (lv_at hl 0 rfl) ?_
  refine lv_iconst (v := 0) hx hb dX3_clear_38 (by decide +kernel) ?_
  refine va_put (D := G) (ci := 2) (v := .int 0) (ty := .int) (C := RX3) (T := TX3) (N := 14) (ref := RX3) hx hb hts h1w tyX3 tyX3_ok nmX3 hown hX.1 hP hD hS 0 rfl rfl 7 (by decide) h8w (fun _ h9 => h9) rfl (by decide +kernel) rfl rfl (Nat.le_of_ble_eq_true rfl) dX3_clear_39 (fun H locs hP hD hS => ?_)
  refine lv_aload_n hx hb dX3_clear_42 rfl (lv_at hl 0 rfl) ?_
  refine va_get (D := G) (ci := 2) (v := .ref p13) (C := RX3) (T := TX3) (N := 14) (ref := RX3) hx hb hts h1w hown hX.1 hP 0 rfl rfl 12 (by decide) h9w (fun _ h9 => h9) rfl dX3_clear_43 ?_
  refine cz_v (wr := [(p0, .inr (2, [.int 1, .int 0, .int 99, .int 0, .int 1, .int 20, .int 0, .int 0, v9, v10, v11, v12, .ref p13, v14]))]) (va_runVN (As := []) (rest := []) ⟨hx, hb, hml, hown, hts⟩ (cX5_clear_0 l G k p13 v15 v16 v17 v18 v19 H.size) ⟨va_cnB 0 hts gX3_clear_X5_clear_n62 rfl rfl rfl (nm_2 hX.2.2.1) h10w (by decide +kernel) ⟨Nat.le_of_ble_eq_true rfl, Nat.le_of_ble_eq_true rfl⟩, h11w, h12w⟩ (cz_preV hZ hS hX hP hD [1] rfl rfl (ci := 4) (q0 := 1) rfl rfl) rfl rfl hl.1 rfl (lv_room (Nat.le_of_ble_eq_true rfl)) dX3_clear_46 ⟨Nat.le_of_ble_eq_true rfl, Nat.le_of_ble_eq_true rfl⟩) hP hD hS hA [1] [0] rfl rfl (by decide) (by decide) (fun u H locs hp hP hD hS => ?_)
  have hP9 := hP.sub (ws' := [(p0, .inr (2, [.int 1, .int 0, .int 99, .int 0, .int 1, .int 20, .int 0, .int 0, v9, v10, v11, v12, .ref p13, v14])), (p13, .inr (4, [v15, v16, v17, .int 0, .int 0]))]) [0, 1] rfl
  have hD9 := hD.sub (ws' := [(p0, .inr (2, [.int 1, .int 0, .int 99, .int 0, .int 1, .int 20, .int 0, .int 0, v9, v10, v11, v12, .ref p13, v14])), (p13, .inr (4, [v15, v16, v17, .int 0, .int 0]))]) [0, 1] (by decide) rfl
  exact W.vret hx hb hr (fun t ht hW => ⟨⟨(), rfl, trivial, by rw [ht]; exact hP9, hD9⟩, hS.F ht⟩) hS.2.2 dX3_clear_49

set_option maxHeartbeats 4000000 in
set_option maxRecDepth 100000 in
theorem cX3_init_0 (l : Launch) (G : va_G) (k : Nat → ClassId) (p0 : Nat) (v1 : Value) (v2 : Value) (v3 : Value) (v4 : Value) (v5 : Value) (v6 : Value) (v7 : Value) (v8 : Value) (v9 : Value) (v10 : Value) (v11 : Value) (v12 : Value) (v13 : Value) (sz : Nat) : CMv l G k yX3_init wsX3_init ({ frames := 2, cells := 9, slots := 676, locals := 40 }) [.ref p0] sz [(p0, .inr (2, [v1, v2, v3, v4, v5, v6, v7, v8, v9, v10, v11, v12, .null, v13]))] (fun (u : Nat × Nat × Nat × Nat × Nat × Nat × Nat × Nat × Nat) => True) (fun (u : Nat × Nat × Nat × Nat × Nat × Nat × Nat × Nat × Nat) => [(u.1, .inl (k 0, 7, .inl (fun _ => 0))), (u.2.1, .inl (k 0, 7, .inl (fun _ => 0))), (u.2.2.1, .inl (k 0, 7, .inl (fun _ => 0))), (u.2.2.2.1, .inl (k 0, 7, .inl (fun _ => 0))), (u.2.2.2.2.1, .inl (k 0, 600, .inl (fun _ => 0))), (u.2.2.2.2.2.1, .inl (k 0, 4, .inl (fun _ => 0))), (u.2.2.2.2.2.2.1, .inl (k 0, 32, .inl (fun _ => 0))), (u.2.2.2.2.2.2.2.1, .inl (k 0, 7, .inl (fun _ => 0))), (p0, .inr (2, [.int 1, .int 0, .int 99, .int 0, .int 1, .int 20, .int 0, .int 0, .ref u.1, .ref u.2.1, .ref u.2.2.1, .ref u.2.2.2.1, .ref u.2.2.2.2.2.2.2.2, .ref u.2.2.2.2.2.2.2.1])), (u.2.2.2.2.2.2.2.2, .inr (4, [.ref u.2.2.2.2.1, .ref u.2.2.2.2.2.1, .ref u.2.2.2.2.2.2.1, .int 0, .int 0]))]) := by
  refine Met.ofW (cc := cX3_init) (maxL := 1) (ret := none) (by decide) rfl ?_
  intro p e s m args below meth c s₁ B hml hv
  obtain ⟨rfl, hsz, hP, hX, hD0, hZ0⟩ := hv
  have hx := B.exec
  have hb := B.bytes
  have hr := B.returns
  have hts := atoms_spec (ws := wsX3_init) B.pre
  have hown : s.vm.findClass RX3 = some m.cls := findClass_of_methodNamed B.named
  have hin : meth.name = "<init>" := (name_of_methodNamed B.named B.method).1
  subst hsz
  have hD := hD0.self (sz := s.heap.size)
  have hZ := ZX.up hP hZ0
  generalize hAe : va_A [(p0, .inr (2, [v1, v2, v3, v4, v5, v6, v7, v8, v9, v10, v11, v12, .null, v13]))] s.heap.size = A at hD hZ ⊢
  have hA : ∀ q : Nat, s.heap.size ≤ q → A q := fun q h => by rw [← hAe]; exact Or.inr h
  have hS : va_S A s.heap s.heap [] := va_S.rf
  have hP : va_P G vwCl [(p0, .inr (2, [v1, v2, v3, v4, v5, v6, v7, v8, v9, v10, v11, v12, .null, v13]))] s.heap := hP
  have hl := lv_entry ([.ref p0]) (n := 1) (Nat.le_of_ble_eq_true rfl)
  rw [lg_entry_eq]
  generalize (lg_sl ([.ref p0]) ++ List.replicate (1 - (lg_sl ([.ref p0])).length) Slot.unset).toArray = ls at hl ⊢
  have hl : lv_has ls 1 [(0, .ref p0)] := hl
  have h0w := hts (.methodLink RX3 3 objectInit) (by decide +kernel)
  have h1w := hts (.instanceMethod objectInit) (by decide +kernel)
  have h2w := hts (.code objectInit ⟨#[0xb1]⟩ 1 none) (by decide +kernel)
  have h3w := hts (.arrayClass .int) (by decide +kernel)
  have h4w := hts (.fieldLink RX3 9 "RopeTown$Plan" "kind" "[I") (by decide +kernel)
  have h5w : ∀ w ∈ wsX30, w ∈ wsX3_init := by decide +kernel
  have h6w := hts (.fieldLink RX3 15 "RopeTown$Plan" "weight" "[I") (by decide +kernel)
  have h7w := hts (.fieldLink RX3 18 "RopeTown$Plan" "first" "[I") (by decide +kernel)
  have h8w := hts (.fieldLink RX3 21 "RopeTown$Plan" "aim" "[I") (by decide +kernel)
  have h9w := hts (.classLink RX3 24 RX5) (by decide +kernel)
  have h10w := hts (.instantiable RX5 5) (by decide +kernel)
  have h11w := hts (.initialized RX5) (by decide +kernel)
  have h12w : ∀ w ∈ wsX50, w ∈ wsX3_init := by decide +kernel
  have h13w := hts (.instanceMethod yX5_init) (by decide +kernel)
  have h14w := hts (.fieldLink RX3 27 "RopeTown$Plan" "rules" "LRopeTown$Rules;") (by decide +kernel)
  have h15w := hts (.fieldLink RX3 31 "RopeTown$Plan" "values" "[I") (by decide +kernel)
  refine lv_aload_n hx hb dX3_init_0 rfl (lv_at hl 0 rfl) ?_
  refine W.objInit hx hb hown h0w h1w h2w rfl (by rw [hml]; exact hl.1) rfl dX3_init_1 (Nat.le_of_ble_eq_true rfl) (Nat.le_of_ble_eq_true rfl) ?_
  refine W.eq (g2 := F0 m 4 ls []) rfl ?_
  refine lv_aload_n hx hb dX3_init_4 rfl (lv_at hl 0 rfl) ?_
  refine lv_bipush (v := 7) hx hb dX3_init_5 (by decide +kernel) ?_
  refine cz_newa (atype := .int) (N' := 7) (a0 := (7, .inl (fun _ => 0))) (ty := .int) hx hb h3w rfl hX hP hD hS hA 0 (by decide +kernel) (ha_int 7) (by decide +kernel) (by decide +kernel) (Nat.le_of_ble_eq_true rfl) (Nat.le_of_ble_eq_true rfl) (Nat.le_of_ble_eq_true rfl) dX3_init_7 (fun a7 H hP hD hS => ?_)
  refine W.widen (k := 1) (n := 7) (Nat.le_of_ble_eq_true rfl) (Nat.le_of_ble_eq_true rfl) ?_
  refine va_putF (D := G) (ci := 2) (v := .ref a7) (ty := .array .int) (C := RX3) (T := TX3) (N := 14) (ref := RX3) hx hb hts h5w tyX3 tyX3_ok nmX3 hown hX.1 hP hD hS 0 rfl rfl 8 (by decide) h4w (fun _ h9 => h9) rfl hin rfl (by decide +kernel) rfl rfl (Nat.le_of_ble_eq_true rfl) dX3_init_9 (fun H locs hP hD hS => ?_)
  refine lv_aload_n hx hb dX3_init_12 rfl (lv_at hl 0 rfl) ?_
  refine lv_bipush (v := 7) hx hb dX3_init_13 (by decide +kernel) ?_
  refine cz_newa (atype := .int) (N' := 7) (a0 := (7, .inl (fun _ => 0))) (ty := .int) hx hb h3w rfl hX hP hD hS hA 0 (by decide +kernel) (ha_int 7) (by decide +kernel) (by decide +kernel) (Nat.le_of_ble_eq_true rfl) (Nat.le_of_ble_eq_true rfl) (Nat.le_of_ble_eq_true rfl) dX3_init_15 (fun a15 H hP hD hS => ?_)
  refine W.widen (k := 2) (n := 14) (Nat.le_of_ble_eq_true rfl) (Nat.le_of_ble_eq_true rfl) ?_
  refine va_putF (D := G) (ci := 2) (v := .ref a15) (ty := .array .int) (C := RX3) (T := TX3) (N := 14) (ref := RX3) hx hb hts h5w tyX3 tyX3_ok nmX3 hown hX.1 hP hD hS 0 rfl rfl 9 (by decide) h6w (fun _ h9 => h9) rfl hin rfl (by decide +kernel) rfl rfl (Nat.le_of_ble_eq_true rfl) dX3_init_17 (fun H locs hP hD hS => ?_)
  refine lv_aload_n hx hb dX3_init_20 rfl (lv_at hl 0 rfl) ?_
  refine lv_bipush (v := 7) hx hb dX3_init_21 (by decide +kernel) ?_
  refine cz_newa (atype := .int) (N' := 7) (a0 := (7, .inl (fun _ => 0))) (ty := .int) hx hb h3w rfl hX hP hD hS hA 0 (by decide +kernel) (ha_int 7) (by decide +kernel) (by decide +kernel) (Nat.le_of_ble_eq_true rfl) (Nat.le_of_ble_eq_true rfl) (Nat.le_of_ble_eq_true rfl) dX3_init_23 (fun a23 H hP hD hS => ?_)
  refine W.widen (k := 3) (n := 21) (Nat.le_of_ble_eq_true rfl) (Nat.le_of_ble_eq_true rfl) ?_
  refine va_putF (D := G) (ci := 2) (v := .ref a23) (ty := .array .int) (C := RX3) (T := TX3) (N := 14) (ref := RX3) hx hb hts h5w tyX3 tyX3_ok nmX3 hown hX.1 hP hD hS 0 rfl rfl 10 (by decide) h7w (fun _ h9 => h9) rfl hin rfl (by decide +kernel) rfl rfl (Nat.le_of_ble_eq_true rfl) dX3_init_25 (fun H locs hP hD hS => ?_)
  obtain ⟨hP, hD⟩ : va_P G vwCl [(p0, .inr (2, [v1, v2, v3, v4, v5, v6, v7, v8, .ref a7, .ref a15, .ref a23, v12, .null, v13])), (a7, .inl (k 0, 7, .inl (fun _ => 0))), (a15, .inl (k 0, 7, .inl (fun _ => 0))), (a23, .inl (k 0, 7, .inl (fun _ => 0)))] H ∧ va_D A [(p0, .inr (2, [v1, v2, v3, v4, v5, v6, v7, v8, .ref a7, .ref a15, .ref a23, v12, .null, v13])), (a7, .inl (k 0, 7, .inl (fun _ => 0))), (a15, .inl (k 0, 7, .inl (fun _ => 0))), (a23, .inl (k 0, 7, .inl (fun _ => 0)))] := ⟨hP, hD⟩
  refine lv_aload_n hx hb dX3_init_28 rfl (lv_at hl 0 rfl) ?_
  refine lv_bipush (v := 7) hx hb dX3_init_29 (by decide +kernel) ?_
  refine cz_newa (atype := .int) (N' := 7) (a0 := (7, .inl (fun _ => 0))) (ty := .int) hx hb h3w rfl hX hP hD hS hA 0 (by decide +kernel) (ha_int 7) (by decide +kernel) (by decide +kernel) (Nat.le_of_ble_eq_true rfl) (Nat.le_of_ble_eq_true rfl) (Nat.le_of_ble_eq_true rfl) dX3_init_31 (fun a31 H hP hD hS => ?_)
  refine W.widen (k := 4) (n := 28) (Nat.le_of_ble_eq_true rfl) (Nat.le_of_ble_eq_true rfl) ?_
  refine va_putF (D := G) (ci := 2) (v := .ref a31) (ty := .array .int) (C := RX3) (T := TX3) (N := 14) (ref := RX3) hx hb hts h5w tyX3 tyX3_ok nmX3 hown hX.1 hP hD hS 0 rfl rfl 11 (by decide) h8w (fun _ h9 => h9) rfl hin rfl (by decide +kernel) rfl rfl (Nat.le_of_ble_eq_true rfl) dX3_init_33 (fun H locs hP hD hS => ?_)
  refine lv_aload_n hx hb dX3_init_36 rfl (lv_at hl 0 rfl) ?_
  refine va_new (ci := 4) (fs := [.null, .null, .null, .int 0, .int 0]) (C := RX5) (T := TX5) (N := 5) hx hb hts h12w tyX5 tyX5_ok hown h9w h10w h11w hX.1 hP hD hS hA rfl (cz_dvX5) (Nat.le_of_ble_eq_true rfl) (Nat.le_of_ble_eq_true rfl) dX3_init_37 (fun a37 H hP hD hS => ?_)
  refine W.widen (k := 5) (n := 33) (Nat.le_of_ble_eq_true rfl) (Nat.le_of_ble_eq_true rfl) ?_
  refine lv_dup hx hb dX3_init_40 rfl ?_
  refine cz_v (wr := [(p0, .inr (2, [v1, v2, v3, v4, v5, v6, v7, v8, .ref a7, .ref a15, .ref a23, .ref a31, .null, v13])), (a7, .inl (k 0, 7, .inl (fun _ => 0))), (a15, .inl (k 0, 7, .inl (fun _ => 0))), (a23, .inl (k 0, 7, .inl (fun _ => 0))), (a31, .inl (k 0, 7, .inl (fun _ => 0)))]) (va_runIN (As := []) (rest := [.ref a37, .ref p0]) ⟨hx, hb, hml, hown, hts⟩ (cX5_init_0 l G k a37 (.null) (.null) (.null) (.int 0) (.int 0) H.size) ⟨va_cnB 0 hts gX3_init_X5_init_n26 rfl rfl rfl (nm_1 hX.2.2.1) h11w (by decide +kernel) ⟨Nat.le_of_ble_eq_true rfl, Nat.le_of_ble_eq_true rfl⟩, rfl, h13w⟩ (cz_preS hZ hS hX hP hD [5] rfl rfl) rfl rfl hl.1 rfl (lv_room (Nat.le_of_ble_eq_true rfl)) dX3_init_41 ⟨Nat.le_of_ble_eq_true rfl, Nat.le_of_ble_eq_true rfl⟩) hP hD hS hA [5] [0, 1, 2, 3, 4] rfl rfl (by decide) (by decide) (fun u H locs hp hP hD hS => ?_)
  obtain ⟨q_1, q_2, q_3⟩ := u
  refine W.widen (k := 8) (n := 669) (Nat.le_of_ble_eq_true rfl) (Nat.le_of_ble_eq_true rfl) ?_
  refine va_putF (D := G) (ci := 2) (v := .ref a37) (ty := .object "RopeTown$Rules") (C := RX3) (T := TX3) (N := 14) (ref := RX3) hx hb hts h5w tyX3 tyX3_ok nmX3 hown hX.1 hP hD hS 0 rfl rfl 12 (by decide) h14w (fun _ h9 => h9) rfl hin rfl (by decide +kernel) rfl rfl (Nat.le_of_ble_eq_true rfl) dX3_init_44 (fun H locs hP hD hS => ?_)
  refine lv_aload_n hx hb dX3_init_47 rfl (lv_at hl 0 rfl) ?_
  refine lv_bipush (v := 7) hx hb dX3_init_48 (by decide +kernel) ?_
  refine cz_newa (atype := .int) (N' := 7) (a0 := (7, .inl (fun _ => 0))) (ty := .int) hx hb h3w rfl hX hP hD hS hA 0 (by decide +kernel) (ha_int 7) (by decide +kernel) (by decide +kernel) (Nat.le_of_ble_eq_true rfl) (Nat.le_of_ble_eq_true rfl) (Nat.le_of_ble_eq_true rfl) dX3_init_50 (fun a50 H hP hD hS => ?_)
  obtain ⟨hP, hD⟩ : va_P G vwCl [(p0, .inr (2, [v1, v2, v3, v4, v5, v6, v7, v8, .ref a7, .ref a15, .ref a23, .ref a31, .ref a37, v13])), (a7, .inl (k 0, 7, .inl (fun _ => 0))), (a15, .inl (k 0, 7, .inl (fun _ => 0))), (a23, .inl (k 0, 7, .inl (fun _ => 0))), (a31, .inl (k 0, 7, .inl (fun _ => 0))), (q_1, .inl (k 0, 600, .inl (fun _ => 0))), (q_2, .inl (k 0, 4, .inl (fun _ => 0))), (q_3, .inl (k 0, 32, .inl (fun _ => 0))), (a37, .inr (4, [.ref q_1, .ref q_2, .ref q_3, .int 0, .int 0])), (a50, .inl (k 0, 7, .inl (fun _ => 0)))] H ∧ va_D A [(p0, .inr (2, [v1, v2, v3, v4, v5, v6, v7, v8, .ref a7, .ref a15, .ref a23, .ref a31, .ref a37, v13])), (a7, .inl (k 0, 7, .inl (fun _ => 0))), (a15, .inl (k 0, 7, .inl (fun _ => 0))), (a23, .inl (k 0, 7, .inl (fun _ => 0))), (a31, .inl (k 0, 7, .inl (fun _ => 0))), (q_1, .inl (k 0, 600, .inl (fun _ => 0))), (q_2, .inl (k 0, 4, .inl (fun _ => 0))), (q_3, .inl (k 0, 32, .inl (fun _ => 0))), (a37, .inr (4, [.ref q_1, .ref q_2, .ref q_3, .int 0, .int 0])), (a50, .inl (k 0, 7, .inl (fun _ => 0)))] := ⟨hP, hD⟩
  refine W.widen (k := 9) (n := 676) (Nat.le_of_ble_eq_true rfl) (Nat.le_of_ble_eq_true rfl) ?_
  refine va_putF (D := G) (ci := 2) (v := .ref a50) (ty := .array .int) (C := RX3) (T := TX3) (N := 14) (ref := RX3) hx hb hts h5w tyX3 tyX3_ok nmX3 hown hX.1 hP hD hS 0 rfl rfl 13 (by decide) h15w (fun _ h9 => h9) rfl hin rfl (by decide +kernel) rfl rfl (Nat.le_of_ble_eq_true rfl) dX3_init_52 (fun H locs hP hD hS => ?_)
  refine lv_aload_n hx hb dX3_init_55 rfl (lv_at hl 0 rfl) ?_
  refine cz_v (wr := [(a7, .inl (k 0, 7, .inl (fun _ => 0))), (a15, .inl (k 0, 7, .inl (fun _ => 0))), (a23, .inl (k 0, 7, .inl (fun _ => 0))), (a31, .inl (k 0, 7, .inl (fun _ => 0))), (q_1, .inl (k 0, 600, .inl (fun _ => 0))), (q_2, .inl (k 0, 4, .inl (fun _ => 0))), (q_3, .inl (k 0, 32, .inl (fun _ => 0))), (a50, .inl (k 0, 7, .inl (fun _ => 0)))]) (va_runV (As := []) (rest := []) ⟨hx, hb, hml, hown, hts⟩ (cX3_clear_0 l G k p0 v1 v2 v3 v4 v5 v6 v7 v8 (.ref a7) (.ref a15) (.ref a23) (.ref a31) a37 (.ref a50) (.ref q_1) (.ref q_2) (.ref q_3) (.int 0) (.int 0) H.size) (cwV 0 hts gX3_init_X3_clear rfl rfl rfl (by decide +kernel) ⟨Nat.le_of_ble_eq_true rfl, Nat.le_of_ble_eq_true rfl⟩) (cz_preV hZ hS hX hP hD [0, 8] rfl rfl (ci := 2) (q0 := 0) rfl rfl) rfl rfl hl.1 rfl (lv_room (Nat.le_of_ble_eq_true rfl)) dX3_init_56 ⟨Nat.le_of_ble_eq_true rfl, Nat.le_of_ble_eq_true rfl⟩) hP hD hS hA [0, 8] [1, 2, 3, 4, 5, 6, 7, 9] rfl rfl (by decide) (by decide) (fun u H locs hp hP hD hS => ?_)
  have hP9 := hP.sub (ws' := [(a7, .inl (k 0, 7, .inl (fun _ => 0))), (a15, .inl (k 0, 7, .inl (fun _ => 0))), (a23, .inl (k 0, 7, .inl (fun _ => 0))), (a31, .inl (k 0, 7, .inl (fun _ => 0))), (q_1, .inl (k 0, 600, .inl (fun _ => 0))), (q_2, .inl (k 0, 4, .inl (fun _ => 0))), (q_3, .inl (k 0, 32, .inl (fun _ => 0))), (a50, .inl (k 0, 7, .inl (fun _ => 0))), (p0, .inr (2, [.int 1, .int 0, .int 99, .int 0, .int 1, .int 20, .int 0, .int 0, .ref a7, .ref a15, .ref a23, .ref a31, .ref a37, .ref a50])), (a37, .inr (4, [.ref q_1, .ref q_2, .ref q_3, .int 0, .int 0]))]) [0, 1, 2, 3, 4, 5, 6, 7, 8, 9] rfl
  have hD9 := hD.sub (ws' := [(a7, .inl (k 0, 7, .inl (fun _ => 0))), (a15, .inl (k 0, 7, .inl (fun _ => 0))), (a23, .inl (k 0, 7, .inl (fun _ => 0))), (a31, .inl (k 0, 7, .inl (fun _ => 0))), (q_1, .inl (k 0, 600, .inl (fun _ => 0))), (q_2, .inl (k 0, 4, .inl (fun _ => 0))), (q_3, .inl (k 0, 32, .inl (fun _ => 0))), (a50, .inl (k 0, 7, .inl (fun _ => 0))), (p0, .inr (2, [.int 1, .int 0, .int 99, .int 0, .int 1, .int 20, .int 0, .int 0, .ref a7, .ref a15, .ref a23, .ref a31, .ref a37, .ref a50])), (a37, .inr (4, [.ref q_1, .ref q_2, .ref q_3, .int 0, .int 0]))]) [0, 1, 2, 3, 4, 5, 6, 7, 8, 9] (by decide) rfl
  refine W.widen (k := 9) (n := 676) (Nat.le_of_ble_eq_true rfl) (Nat.le_of_ble_eq_true rfl) ?_
  exact W.vret hx hb hr (fun t ht hW => ⟨⟨(a7, a15, a23, a31, q_1, q_2, q_3, a50, a37), rfl, trivial, by rw [ht]; exact hP9, hD9⟩, hS.F ht⟩) hS.2.2 dX3_init_59

set_option maxHeartbeats 4000000 in
set_option maxRecDepth 100000 in
theorem cX4_init_0 (l : Launch) (G : va_G) (k : Nat → ClassId) (p0 : Nat) (v1 : Value) (v2 : Value) (v3 : Value) (v4 : Value) (v5 : Value) (v6 : Value) (v7 : Value) (v8 : Value) (sz : Nat) : CMv l G k yX4_init wsX4_init ({ frames := 1, cells := 1, slots := 0, locals := 12 }) [.ref p0] sz [(p0, .inr (3, [v1, v2, v3, v4, v5, v6, v7, v8]))] (fun (u : Nat) => True) (fun (u : Nat) => [(p0, .inr (3, [.ref u, .int 0, .int 0, .int 0, .int 0, .ref (k 9), .int 0, .int 0])), (u, .inl (k 1, 0, .inl (fun _ => 0)))]) := by
  refine Met.ofW (cc := cX4_init) (maxL := 1) (ret := none) (by decide) rfl ?_
  intro p e s m args below meth c s₁ B hml hv
  obtain ⟨rfl, hsz, hP, hX, hD0, hZ0⟩ := hv
  have hx := B.exec
  have hb := B.bytes
  have hr := B.returns
  have hts := atoms_spec (ws := wsX4_init) B.pre
  have hown : s.vm.findClass RX4 = some m.cls := findClass_of_methodNamed B.named
  have hin : meth.name = "<init>" := (name_of_methodNamed B.named B.method).1
  subst hsz
  have hD := hD0.self (sz := s.heap.size)
  have hZ := ZX.up hP hZ0
  generalize hAe : va_A [(p0, .inr (3, [v1, v2, v3, v4, v5, v6, v7, v8]))] s.heap.size = A at hD hZ ⊢
  have hA : ∀ q : Nat, s.heap.size ≤ q → A q := fun q h => by rw [← hAe]; exact Or.inr h
  have hS : va_S A s.heap s.heap [] := va_S.rf
  have hP : va_P G vwCl [(p0, .inr (3, [v1, v2, v3, v4, v5, v6, v7, v8]))] s.heap := hP
  have hl := lv_entry ([.ref p0]) (n := 1) (Nat.le_of_ble_eq_true rfl)
  rw [lg_entry_eq]
  generalize (lg_sl ([.ref p0]) ++ List.replicate (1 - (lg_sl ([.ref p0])).length) Slot.unset).toArray = ls at hl ⊢
  have hl : lv_has ls 1 [(0, .ref p0)] := hl
  have h0w := hts (.methodLink RX4 3 objectInit) (by decide +kernel)
  have h1w := hts (.instanceMethod objectInit) (by decide +kernel)
  have h2w := hts (.code objectInit ⟨#[0xb1]⟩ 1 none) (by decide +kernel)
  have h3w := hts (.arrayClass .byte) (by decide +kernel)
  have h4w := hts (.fieldLink RX4 9 "RopeTown$Reader" "text" "[B") (by decide +kernel)
  have h5w : ∀ w ∈ wsX40, w ∈ wsX4_init := by decide +kernel
  have h6w := hts (.fieldLink RX4 15 "RopeTown$Reader" "length" "I") (by decide +kernel)
  have h7w := hts (.fieldLink RX4 19 "RopeTown$Reader" "start" "I") (by decide +kernel)
  have h8w := hts (.fieldLink RX4 22 "RopeTown$Reader" "next" "I") (by decide +kernel)
  have h9w := hts (.fieldLink RX4 25 "RopeTown$Reader" "kind" "I") (by decide +kernel)
  have h10w := hts (.fieldLink RX4 28 "RopeTown$Word" "UNKNOWN" "LRopeTown$Word;") (by decide +kernel)
  have h11w := hts (.fieldLink RX4 34 "RopeTown$Reader" "word" "LRopeTown$Word;") (by decide +kernel)
  have h12w := hts (.fieldLink RX4 37 "RopeTown$Reader" "number" "I") (by decide +kernel)
  have h13w := hts (.fieldLink RX4 40 "RopeTown$Reader" "sign" "I") (by decide +kernel)
  refine lv_aload_n hx hb dX4_init_0 rfl (lv_at hl 0 rfl) ?_
  refine W.objInit hx hb hown h0w h1w h2w rfl (by rw [hml]; exact hl.1) rfl dX4_init_1 (Nat.le_of_ble_eq_true rfl) (Nat.le_of_ble_eq_true rfl) ?_
  refine W.eq (g2 := F0 m 4 ls []) rfl ?_
  refine lv_aload_n hx hb dX4_init_4 rfl (lv_at hl 0 rfl) ?_
  refine lv_iconst (v := 0) hx hb dX4_init_5 (by decide +kernel) ?_
  refine cz_newa (atype := .byte) (N' := 0) (a0 := (0, .inl (fun _ => 0))) (ty := .byte) hx hb h3w rfl hX hP hD hS hA 1 (by decide +kernel) (ha_byte 0) (by decide +kernel) (by decide +kernel) (Nat.le_of_ble_eq_true rfl) (Nat.le_of_ble_eq_true rfl) (Nat.le_of_ble_eq_true rfl) dX4_init_6 (fun a6 H hP hD hS => ?_)
  refine W.widen (k := 1) (n := 0) (Nat.le_of_ble_eq_true rfl) (Nat.le_of_ble_eq_true rfl) ?_
  refine va_put (D := G) (ci := 3) (v := .ref a6) (ty := .array .byte) (C := RX4) (T := TX4) (N := 8) (ref := RX4) hx hb hts h5w tyX4 tyX4_ok nmX4 hown hX.1 hP hD hS 0 rfl rfl 0 (by decide) h4w (fun _ h9 => h9) rfl (by decide +kernel) rfl rfl (Nat.le_of_ble_eq_true rfl) dX4_init_8 (fun H locs hP hD hS => ?_)
  refine lv_aload_n hx hb dX4_init_11 rfl (lv_at hl 0 rfl) ?_
  refine lv_iconst (v := 0) hx hb dX4_init_12 (by decide +kernel) ?_
  refine va_put (D := G) (ci := 3) (v := .int 0) (ty := .int) (C := RX4) (T := TX4) (N := 8) (ref := RX4) hx hb hts h5w tyX4 tyX4_ok nmX4 hown hX.1 hP hD hS 0 rfl rfl 1 (by decide) h6w (fun _ h9 => h9) rfl (by decide +kernel) rfl rfl (Nat.le_of_ble_eq_true rfl) dX4_init_13 (fun H locs hP hD hS => ?_)
  refine lv_aload_n hx hb dX4_init_16 rfl (lv_at hl 0 rfl) ?_
  refine lv_iconst (v := 0) hx hb dX4_init_17 (by decide +kernel) ?_
  refine va_put (D := G) (ci := 3) (v := .int 0) (ty := .int) (C := RX4) (T := TX4) (N := 8) (ref := RX4) hx hb hts h5w tyX4 tyX4_ok nmX4 hown hX.1 hP hD hS 0 rfl rfl 2 (by decide) h7w (fun _ h9 => h9) rfl (by decide +kernel) rfl rfl (Nat.le_of_ble_eq_true rfl) dX4_init_18 (fun H locs hP hD hS => ?_)
  refine lv_aload_n hx hb dX4_init_21 rfl (lv_at hl 0 rfl) ?_
  refine lv_iconst (v := 0) hx hb dX4_init_22 (by decide +kernel) ?_
  refine va_put (D := G) (ci := 3) (v := .int 0) (ty := .int) (C := RX4) (T := TX4) (N := 8) (ref := RX4) hx hb hts h5w tyX4 tyX4_ok nmX4 hown hX.1 hP hD hS 0 rfl rfl 3 (by decide) h8w (fun _ h9 => h9) rfl (by decide +kernel) rfl rfl (Nat.le_of_ble_eq_true rfl) dX4_init_23 (fun H locs hP hD hS => ?_)
  refine lv_aload_n hx hb dX4_init_26 rfl (lv_at hl 0 rfl) ?_
  refine lv_iconst (v := 0) hx hb dX4_init_27 (by decide +kernel) ?_
  refine va_put (D := G) (ci := 3) (v := .int 0) (ty := .int) (C := RX4) (T := TX4) (N := 8) (ref := RX4) hx hb hts h5w tyX4 tyX4_ok nmX4 hown hX.1 hP hD hS 0 rfl rfl 4 (by decide) h9w (fun _ h9 => h9) rfl (by decide +kernel) rfl rfl (Nat.le_of_ble_eq_true rfl) dX4_init_28 (fun H locs hP hD hS => ?_)
  obtain ⟨hP, hD⟩ : va_P G vwCl [(p0, .inr (3, [.ref a6, .int 0, .int 0, .int 0, .int 0, v6, v7, v8])), (a6, .inl (k 1, 0, .inl (fun _ => 0)))] H ∧ va_D A [(p0, .inr (3, [.ref a6, .int 0, .int 0, .int 0, .int 0, v6, v7, v8])), (a6, .inl (k 1, 0, .inl (fun _ => 0)))] := ⟨hP, hD⟩
  refine lv_aload_n hx hb dX4_init_31 rfl (lv_at hl 0 rfl) ?_
  refine va_gets hx hb hZ.1 hS hown h10w (fun _ h9 => h9) dX4_init_32 ?_
  refine va_put (D := G) (ci := 3) (v := .ref (k 9)) (ty := .object "RopeTown$Word") (C := RX4) (T := TX4) (N := 8) (ref := RX4) hx hb hts h5w tyX4 tyX4_ok nmX4 hown hX.1 hP hD hS 0 rfl rfl 5 (by decide) h11w (fun _ h9 => h9) rfl (by decide +kernel) rfl rfl (Nat.le_of_ble_eq_true rfl) dX4_init_35 (fun H locs hP hD hS => ?_)
  refine lv_aload_n hx hb dX4_init_38 rfl (lv_at hl 0 rfl) ?_
  refine lv_iconst (v := 0) hx hb dX4_init_39 (by decide +kernel) ?_
  refine va_put (D := G) (ci := 3) (v := .int 0) (ty := .int) (C := RX4) (T := TX4) (N := 8) (ref := RX4) hx hb hts h5w tyX4 tyX4_ok nmX4 hown hX.1 hP hD hS 0 rfl rfl 6 (by decide) h12w (fun _ h9 => h9) rfl (by decide +kernel) rfl rfl (Nat.le_of_ble_eq_true rfl) dX4_init_40 (fun H locs hP hD hS => ?_)
  refine lv_aload_n hx hb dX4_init_43 rfl (lv_at hl 0 rfl) ?_
  refine lv_iconst (v := 0) hx hb dX4_init_44 (by decide +kernel) ?_
  refine va_put (D := G) (ci := 3) (v := .int 0) (ty := .int) (C := RX4) (T := TX4) (N := 8) (ref := RX4) hx hb hts h5w tyX4 tyX4_ok nmX4 hown hX.1 hP hD hS 0 rfl rfl 7 (by decide) h13w (fun _ h9 => h9) rfl (by decide +kernel) rfl rfl (Nat.le_of_ble_eq_true rfl) dX4_init_45 (fun H locs hP hD hS => ?_)
  have hP9 := hP.sub (ws' := [(p0, .inr (3, [.ref a6, .int 0, .int 0, .int 0, .int 0, .ref (k 9), .int 0, .int 0])), (a6, .inl (k 1, 0, .inl (fun _ => 0)))]) [0, 1] rfl
  have hD9 := hD.sub (ws' := [(p0, .inr (3, [.ref a6, .int 0, .int 0, .int 0, .int 0, .ref (k 9), .int 0, .int 0])), (a6, .inl (k 1, 0, .inl (fun _ => 0)))]) [0, 1] (by decide) rfl
  refine W.widen (k := 1) (n := 0) (Nat.le_of_ble_eq_true rfl) (Nat.le_of_ble_eq_true rfl) ?_
  exact W.vret hx hb hr (fun t ht hW => ⟨⟨(a6), rfl, trivial, by rw [ht]; exact hP9, hD9⟩, hS.F ht⟩) hS.2.2 dX4_init_48

set_option maxHeartbeats 4000000 in
set_option maxRecDepth 100000 in
theorem cX2_init_0 (l : Launch) (G : va_G) (k : Nat → ClassId) (p0 : Nat) (p1 : Nat) (v2 : Value) (v3 : Value) (v4 : Value) (v5 : Value) (v6 : Value) (sz : Nat) : CMv l G k yX2_init wsX2_init ({ frames := 2, cells := 2, slots := 8, locals := 32 }) [.ref p0, .ref p1] sz [(p0, .inr (1, [v2, v3, v4, v5, v6]))] (fun (u : Nat × Nat) => True) (fun (u : Nat × Nat) => [(p0, .inr (1, [.ref u.1, .ref p1, .int 0, .int 0, .int (-1)])), (u.1, .inr (3, [.ref u.2, .int 0, .int 0, .int 0, .int 0, .ref (k 9), .int 0, .int 0])), (u.2, .inl (k 1, 0, .inl (fun _ => 0)))]) := by
  refine Met.ofW (cc := cX2_init) (maxL := 2) (ret := none) (by decide) rfl ?_
  intro p e s m args below meth c s₁ B hml hv
  obtain ⟨rfl, hsz, hP, hX, hD0, hZ0⟩ := hv
  have hx := B.exec
  have hb := B.bytes
  have hr := B.returns
  have hts := atoms_spec (ws := wsX2_init) B.pre
  have hown : s.vm.findClass RX2 = some m.cls := findClass_of_methodNamed B.named
  have hin : meth.name = "<init>" := (name_of_methodNamed B.named B.method).1
  subst hsz
  have hD := hD0.self (sz := s.heap.size)
  have hZ := ZX.up hP hZ0
  generalize hAe : va_A [(p0, .inr (1, [v2, v3, v4, v5, v6]))] s.heap.size = A at hD hZ ⊢
  have hA : ∀ q : Nat, s.heap.size ≤ q → A q := fun q h => by rw [← hAe]; exact Or.inr h
  have hS : va_S A s.heap s.heap [] := va_S.rf
  have hP : va_P G vwCl [(p0, .inr (1, [v2, v3, v4, v5, v6]))] s.heap := hP
  have hl := lv_entry ([.ref p0, .ref p1]) (n := 2) (Nat.le_of_ble_eq_true rfl)
  rw [lg_entry_eq]
  generalize (lg_sl ([.ref p0, .ref p1]) ++ List.replicate (2 - (lg_sl ([.ref p0, .ref p1])).length) Slot.unset).toArray = ls at hl ⊢
  have hl : lv_has ls 2 [(0, .ref p0), (1, .ref p1)] := hl
  have h0w := hts (.methodLink RX2 3 objectInit) (by decide +kernel)
  have h1w := hts (.instanceMethod objectInit) (by decide +kernel)
  have h2w := hts (.code objectInit ⟨#[0xb1]⟩ 1 none) (by decide +kernel)
  have h3w := hts (.classLink RX2 9 RX4) (by decide +kernel)
  have h4w := hts (.instantiable RX4 8) (by decide +kernel)
  have h5w := hts (.initialized RX4) (by decide +kernel)
  have h6w : ∀ w ∈ wsX40, w ∈ wsX2_init := by decide +kernel
  have h7w := hts (.instanceMethod yX4_init) (by decide +kernel)
  have h8w := hts (.fieldLink RX2 12 "RopeTown$Parser" "reader" "LRopeTown$Reader;") (by decide +kernel)
  have h9w : ∀ w ∈ wsX20, w ∈ wsX2_init := by decide +kernel
  have h10w := hts (.fieldLink RX2 18 "RopeTown$Parser" "plan" "LRopeTown$Plan;") (by decide +kernel)
  have h11w := hts (.fieldLink RX2 22 "RopeTown$Parser" "told" "I") (by decide +kernel)
  have h12w := hts (.fieldLink RX2 26 "RopeTown$Parser" "fault" "I") (by decide +kernel)
  have h13w := hts (.fieldLink RX2 29 "RopeTown$Parser" "faultPlace" "I") (by decide +kernel)
  refine lv_aload_n hx hb dX2_init_0 rfl (lv_at hl 0 rfl) ?_
  refine W.objInit hx hb hown h0w h1w h2w rfl (by rw [hml]; exact hl.1) rfl dX2_init_1 (Nat.le_of_ble_eq_true rfl) (Nat.le_of_ble_eq_true rfl) ?_
  refine W.eq (g2 := F0 m 4 ls []) rfl ?_
  refine lv_aload_n hx hb dX2_init_4 rfl (lv_at hl 0 rfl) ?_
  refine va_new (ci := 3) (fs := [.null, .int 0, .int 0, .int 0, .int 0, .null, .int 0, .int 0]) (C := RX4) (T := TX4) (N := 8) hx hb hts h6w tyX4 tyX4_ok hown h3w h4w h5w hX.1 hP hD hS hA rfl (cz_dvX4) (Nat.le_of_ble_eq_true rfl) (Nat.le_of_ble_eq_true rfl) dX2_init_5 (fun a5 H hP hD hS => ?_)
  refine W.widen (k := 1) (n := 8) (Nat.le_of_ble_eq_true rfl) (Nat.le_of_ble_eq_true rfl) ?_
  refine lv_dup hx hb dX2_init_8 rfl ?_
  refine cz_v (wr := [(p0, .inr (1, [v2, v3, v4, v5, v6]))]) (va_runIN (As := []) (rest := [.ref a5, .ref p0]) ⟨hx, hb, hml, hown, hts⟩ (cX4_init_0 l G k a5 (.null) (.int 0) (.int 0) (.int 0) (.int 0) (.null) (.int 0) (.int 0) H.size) ⟨va_cnB 0 hts gX2_init_X4_init_n11 rfl rfl rfl (nm_4 hX.2.2.1) h5w (by decide +kernel) ⟨Nat.le_of_ble_eq_true rfl, Nat.le_of_ble_eq_true rfl⟩, rfl, h7w⟩ (cz_preS hZ hS hX hP hD [1] rfl rfl) rfl rfl hl.1 rfl (lv_room (Nat.le_of_ble_eq_true rfl)) dX2_init_9 ⟨Nat.le_of_ble_eq_true rfl, Nat.le_of_ble_eq_true rfl⟩) hP hD hS hA [1] [0] rfl rfl (by decide) (by decide) (fun u H locs hp hP hD hS => ?_)
  obtain ⟨q_1, rfl⟩ : ∃ z, z = u := ⟨_, rfl⟩
  refine W.widen (k := 2) (n := 8) (Nat.le_of_ble_eq_true rfl) (Nat.le_of_ble_eq_true rfl) ?_
  refine va_putF (D := G) (ci := 1) (v := .ref a5) (ty := .object "RopeTown$Reader") (C := RX2) (T := TX2) (N := 5) (ref := RX2) hx hb hts h9w tyX2 tyX2_ok nmX2 hown hX.1 hP hD hS 0 rfl rfl 0 (by decide) h8w (fun _ h9 => h9) rfl hin rfl (by decide +kernel) rfl rfl (Nat.le_of_ble_eq_true rfl) dX2_init_12 (fun H locs hP hD hS => ?_)
  refine lv_aload_n hx hb dX2_init_15 rfl (lv_at hl 0 rfl) ?_
  refine lv_aload_n hx hb dX2_init_16 rfl (lv_at hl 1 rfl) ?_
  refine va_put (D := G) (ci := 1) (v := .ref p1) (ty := .object "RopeTown$Plan") (C := RX2) (T := TX2) (N := 5) (ref := RX2) hx hb hts h9w tyX2 tyX2_ok nmX2 hown hX.1 hP hD hS 0 rfl rfl 1 (by decide) h10w (fun _ h9 => h9) rfl (by decide +kernel) rfl rfl (Nat.le_of_ble_eq_true rfl) dX2_init_17 (fun H locs hP hD hS => ?_)
  refine lv_aload_n hx hb dX2_init_20 rfl (lv_at hl 0 rfl) ?_
  refine lv_iconst (v := 0) hx hb dX2_init_21 (by decide +kernel) ?_
  refine va_put (D := G) (ci := 1) (v := .int 0) (ty := .int) (C := RX2) (T := TX2) (N := 5) (ref := RX2) hx hb hts h9w tyX2 tyX2_ok nmX2 hown hX.1 hP hD hS 0 rfl rfl 2 (by decide) h11w (fun _ h9 => h9) rfl (by decide +kernel) rfl rfl (Nat.le_of_ble_eq_true rfl) dX2_init_22 (fun H locs hP hD hS => ?_)
  refine lv_aload_n hx hb dX2_init_25 rfl (lv_at hl 0 rfl) ?_
  refine lv_iconst (v := 0) hx hb dX2_init_26 (by decide +kernel) ?_
  refine va_put (D := G) (ci := 1) (v := .int 0) (ty := .int) (C := RX2) (T := TX2) (N := 5) (ref := RX2) hx hb hts h9w tyX2 tyX2_ok nmX2 hown hX.1 hP hD hS 0 rfl rfl 3 (by decide) h12w (fun _ h9 => h9) rfl (by decide +kernel) rfl rfl (Nat.le_of_ble_eq_true rfl) dX2_init_27 (fun H locs hP hD hS => ?_)
  obtain ⟨hP, hD⟩ : va_P G vwCl [(p0, .inr (1, [.ref a5, .ref p1, .int 0, .int 0, v6])), (a5, .inr (3, [.ref q_1, .int 0, .int 0, .int 0, .int 0, .ref (k 9), .int 0, .int 0])), (q_1, .inl (k 1, 0, .inl (fun _ => 0)))] H ∧ va_D A [(p0, .inr (1, [.ref a5, .ref p1, .int 0, .int 0, v6])), (a5, .inr (3, [.ref q_1, .int 0, .int 0, .int 0, .int 0, .ref (k 9), .int 0, .int 0])), (q_1, .inl (k 1, 0, .inl (fun _ => 0)))] := ⟨hP, hD⟩
  refine lv_aload_n hx hb dX2_init_30 rfl (lv_at hl 0 rfl) ?_
  refine lv_iconst (v := (-1)) hx hb dX2_init_31 (by decide +kernel) ?_
  refine va_put (D := G) (ci := 1) (v := .int (-1)) (ty := .int) (C := RX2) (T := TX2) (N := 5) (ref := RX2) hx hb hts h9w tyX2 tyX2_ok nmX2 hown hX.1 hP hD hS 0 rfl rfl 4 (by decide) h13w (fun _ h9 => h9) rfl (by decide +kernel) rfl rfl (Nat.le_of_ble_eq_true rfl) dX2_init_32 (fun H locs hP hD hS => ?_)
  have hP9 := hP.sub (ws' := [(p0, .inr (1, [.ref a5, .ref p1, .int 0, .int 0, .int (-1)])), (a5, .inr (3, [.ref q_1, .int 0, .int 0, .int 0, .int 0, .ref (k 9), .int 0, .int 0])), (q_1, .inl (k 1, 0, .inl (fun _ => 0)))]) [0, 1, 2] rfl
  have hD9 := hD.sub (ws' := [(p0, .inr (1, [.ref a5, .ref p1, .int 0, .int 0, .int (-1)])), (a5, .inr (3, [.ref q_1, .int 0, .int 0, .int 0, .int 0, .ref (k 9), .int 0, .int 0])), (q_1, .inl (k 1, 0, .inl (fun _ => 0)))]) [0, 1, 2] (by decide) rfl
  refine W.widen (k := 2) (n := 8) (Nat.le_of_ble_eq_true rfl) (Nat.le_of_ble_eq_true rfl) ?_
  exact W.vret hx hb hr (fun t ht hW => ⟨⟨(a5, q_1), rfl, trivial, by rw [ht]; exact hP9, hD9⟩, hS.F ht⟩) hS.2.2 dX2_init_35

set_option maxHeartbeats 4000000 in
set_option maxRecDepth 100000 in
theorem cX1_init_0 (l : Launch) (G : va_G) (k : Nat → ClassId) (p0 : Nat) (v1 : Value) (v2 : Value) (v3 : Value) (v4 : Value) (v5 : Value) (v6 : Value) (v7 : Value) (v8 : Value) (v9 : Value) (v10 : Value) (v11 : Value) (v12 : Value) (sz : Nat) : CMv l G k yX1_init wsX1_init ({ frames := 1, cells := 7, slots := 309, locals := 12 }) [.ref p0] sz [(p0, .inr (0, [v1, v2, v3, v4, v5, v6, v7, v8, v9, v10, v11, v12]))] (fun (u : Nat × Nat × Nat × Nat × Nat × Nat × Nat) => True) (fun (u : Nat × Nat × Nat × Nat × Nat × Nat × Nat) => [(p0, .inr (0, [v1, v2, v3, v4, v5, .ref u.1, .ref u.2.1, .ref u.2.2.1, .ref u.2.2.2.1, .ref u.2.2.2.2.1, .ref u.2.2.2.2.2.1, .ref u.2.2.2.2.2.2])), (u.1, .inl (k 0, 60, .inl (fun _ => 0))), (u.2.1, .inl (k 0, 60, .inl (fun _ => 0))), (u.2.2.1, .inl (k 0, 60, .inl (fun _ => 0))), (u.2.2.2.1, .inl (k 0, 60, .inl (fun _ => 0))), (u.2.2.2.2.1, .inl (k 0, 60, .inl (fun _ => 0))), (u.2.2.2.2.2.1, .inl (k 0, 6, .inl (fun _ => 0))), (u.2.2.2.2.2.2, .inl (k 0, 3, .inl (fun _ => 0)))]) := by
  refine Met.ofW (cc := cX1_init) (maxL := 1) (ret := none) (by decide) rfl ?_
  intro p e s m args below meth c s₁ B hml hv
  obtain ⟨rfl, hsz, hP, hX, hD0, hZ0⟩ := hv
  have hx := B.exec
  have hb := B.bytes
  have hr := B.returns
  have hts := atoms_spec (ws := wsX1_init) B.pre
  have hown : s.vm.findClass RX1 = some m.cls := findClass_of_methodNamed B.named
  have hin : meth.name = "<init>" := (name_of_methodNamed B.named B.method).1
  subst hsz
  have hD := hD0.self (sz := s.heap.size)
  have hZ := ZX.up hP hZ0
  generalize hAe : va_A [(p0, .inr (0, [v1, v2, v3, v4, v5, v6, v7, v8, v9, v10, v11, v12]))] s.heap.size = A at hD hZ ⊢
  have hA : ∀ q : Nat, s.heap.size ≤ q → A q := fun q h => by rw [← hAe]; exact Or.inr h
  have hS : va_S A s.heap s.heap [] := va_S.rf
  have hP : va_P G vwCl [(p0, .inr (0, [v1, v2, v3, v4, v5, v6, v7, v8, v9, v10, v11, v12]))] s.heap := hP
  have hl := lv_entry ([.ref p0]) (n := 1) (Nat.le_of_ble_eq_true rfl)
  rw [lg_entry_eq]
  generalize (lg_sl ([.ref p0]) ++ List.replicate (1 - (lg_sl ([.ref p0])).length) Slot.unset).toArray = ls at hl ⊢
  have hl : lv_has ls 1 [(0, .ref p0)] := hl
  have h0w := hts (.methodLink RX1 3 objectInit) (by decide +kernel)
  have h1w := hts (.instanceMethod objectInit) (by decide +kernel)
  have h2w := hts (.code objectInit ⟨#[0xb1]⟩ 1 none) (by decide +kernel)
  have h3w := hts (.arrayClass .int) (by decide +kernel)
  have h4w := hts (.fieldLink RX1 9 "RopeTown$Book" "which" "[I") (by decide +kernel)
  have h5w : ∀ w ∈ wsX10, w ∈ wsX1_init := by decide +kernel
  have h6w := hts (.fieldLink RX1 15 "RopeTown$Book" "target" "[I") (by decide +kernel)
  have h7w := hts (.fieldLink RX1 18 "RopeTown$Book" "manner" "[I") (by decide +kernel)
  have h8w := hts (.fieldLink RX1 21 "RopeTown$Book" "before" "[I") (by decide +kernel)
  have h9w := hts (.fieldLink RX1 24 "RopeTown$Book" "wound" "[I") (by decide +kernel)
  have h10w := hts (.fieldLink RX1 27 "RopeTown$Book" "day" "[I") (by decide +kernel)
  have h11w := hts (.fieldLink RX1 30 "RopeTown$Book" "status" "[I") (by decide +kernel)
  refine lv_aload_n hx hb dX1_init_0 rfl (lv_at hl 0 rfl) ?_
  refine W.objInit hx hb hown h0w h1w h2w rfl (by rw [hml]; exact hl.1) rfl dX1_init_1 (Nat.le_of_ble_eq_true rfl) (Nat.le_of_ble_eq_true rfl) ?_
  refine W.eq (g2 := F0 m 4 ls []) rfl ?_
  refine lv_aload_n hx hb dX1_init_4 rfl (lv_at hl 0 rfl) ?_
  refine lv_bipush (v := 60) hx hb dX1_init_5 (by decide +kernel) ?_
  refine cz_newa (atype := .int) (N' := 60) (a0 := (60, .inl (fun _ => 0))) (ty := .int) hx hb h3w rfl hX hP hD hS hA 0 (by decide +kernel) (ha_int 60) (by decide +kernel) (by decide +kernel) (Nat.le_of_ble_eq_true rfl) (Nat.le_of_ble_eq_true rfl) (Nat.le_of_ble_eq_true rfl) dX1_init_7 (fun a7 H hP hD hS => ?_)
  refine W.widen (k := 1) (n := 60) (Nat.le_of_ble_eq_true rfl) (Nat.le_of_ble_eq_true rfl) ?_
  refine va_putF (D := G) (ci := 0) (v := .ref a7) (ty := .array .int) (C := RX1) (T := TX1) (N := 12) (ref := RX1) hx hb hts h5w tyX1 tyX1_ok nmX1 hown hX.1 hP hD hS 0 rfl rfl 5 (by decide) h4w (fun _ h9 => h9) rfl hin rfl (by decide +kernel) rfl rfl (Nat.le_of_ble_eq_true rfl) dX1_init_9 (fun H locs hP hD hS => ?_)
  refine lv_aload_n hx hb dX1_init_12 rfl (lv_at hl 0 rfl) ?_
  refine lv_bipush (v := 60) hx hb dX1_init_13 (by decide +kernel) ?_
  refine cz_newa (atype := .int) (N' := 60) (a0 := (60, .inl (fun _ => 0))) (ty := .int) hx hb h3w rfl hX hP hD hS hA 0 (by decide +kernel) (ha_int 60) (by decide +kernel) (by decide +kernel) (Nat.le_of_ble_eq_true rfl) (Nat.le_of_ble_eq_true rfl) (Nat.le_of_ble_eq_true rfl) dX1_init_15 (fun a15 H hP hD hS => ?_)
  refine W.widen (k := 2) (n := 120) (Nat.le_of_ble_eq_true rfl) (Nat.le_of_ble_eq_true rfl) ?_
  refine va_putF (D := G) (ci := 0) (v := .ref a15) (ty := .array .int) (C := RX1) (T := TX1) (N := 12) (ref := RX1) hx hb hts h5w tyX1 tyX1_ok nmX1 hown hX.1 hP hD hS 0 rfl rfl 6 (by decide) h6w (fun _ h9 => h9) rfl hin rfl (by decide +kernel) rfl rfl (Nat.le_of_ble_eq_true rfl) dX1_init_17 (fun H locs hP hD hS => ?_)
  refine lv_aload_n hx hb dX1_init_20 rfl (lv_at hl 0 rfl) ?_
  refine lv_bipush (v := 60) hx hb dX1_init_21 (by decide +kernel) ?_
  refine cz_newa (atype := .int) (N' := 60) (a0 := (60, .inl (fun _ => 0))) (ty := .int) hx hb h3w rfl hX hP hD hS hA 0 (by decide +kernel) (ha_int 60) (by decide +kernel) (by decide +kernel) (Nat.le_of_ble_eq_true rfl) (Nat.le_of_ble_eq_true rfl) (Nat.le_of_ble_eq_true rfl) dX1_init_23 (fun a23 H hP hD hS => ?_)
  refine W.widen (k := 3) (n := 180) (Nat.le_of_ble_eq_true rfl) (Nat.le_of_ble_eq_true rfl) ?_
  refine va_putF (D := G) (ci := 0) (v := .ref a23) (ty := .array .int) (C := RX1) (T := TX1) (N := 12) (ref := RX1) hx hb hts h5w tyX1 tyX1_ok nmX1 hown hX.1 hP hD hS 0 rfl rfl 7 (by decide) h7w (fun _ h9 => h9) rfl hin rfl (by decide +kernel) rfl rfl (Nat.le_of_ble_eq_true rfl) dX1_init_25 (fun H locs hP hD hS => ?_)
  obtain ⟨hP, hD⟩ : va_P G vwCl [(p0, .inr (0, [v1, v2, v3, v4, v5, .ref a7, .ref a15, .ref a23, v9, v10, v11, v12])), (a7, .inl (k 0, 60, .inl (fun _ => 0))), (a15, .inl (k 0, 60, .inl (fun _ => 0))), (a23, .inl (k 0, 60, .inl (fun _ => 0)))] H ∧ va_D A [(p0, .inr (0, [v1, v2, v3, v4, v5, .ref a7, .ref a15, .ref a23, v9, v10, v11, v12])), (a7, .inl (k 0, 60, .inl (fun _ => 0))), (a15, .inl (k 0, 60, .inl (fun _ => 0))), (a23, .inl (k 0, 60, .inl (fun _ => 0)))] := ⟨hP, hD⟩
  refine lv_aload_n hx hb dX1_init_28 rfl (lv_at hl 0 rfl) ?_
  refine lv_bipush (v := 60) hx hb dX1_init_29 (by decide +kernel) ?_
  refine cz_newa (atype := .int) (N' := 60) (a0 := (60, .inl (fun _ => 0))) (ty := .int) hx hb h3w rfl hX hP hD hS hA 0 (by decide +kernel) (ha_int 60) (by decide +kernel) (by decide +kernel) (Nat.le_of_ble_eq_true rfl) (Nat.le_of_ble_eq_true rfl) (Nat.le_of_ble_eq_true rfl) dX1_init_31 (fun a31 H hP hD hS => ?_)
  refine W.widen (k := 4) (n := 240) (Nat.le_of_ble_eq_true rfl) (Nat.le_of_ble_eq_true rfl) ?_
  refine va_putF (D := G) (ci := 0) (v := .ref a31) (ty := .array .int) (C := RX1) (T := TX1) (N := 12) (ref := RX1) hx hb hts h5w tyX1 tyX1_ok nmX1 hown hX.1 hP hD hS 0 rfl rfl 8 (by decide) h8w (fun _ h9 => h9) rfl hin rfl (by decide +kernel) rfl rfl (Nat.le_of_ble_eq_true rfl) dX1_init_33 (fun H locs hP hD hS => ?_)
  refine lv_aload_n hx hb dX1_init_36 rfl (lv_at hl 0 rfl) ?_
  refine lv_bipush (v := 60) hx hb dX1_init_37 (by decide +kernel) ?_
  refine cz_newa (atype := .int) (N' := 60) (a0 := (60, .inl (fun _ => 0))) (ty := .int) hx hb h3w rfl hX hP hD hS hA 0 (by decide +kernel) (ha_int 60) (by decide +kernel) (by decide +kernel) (Nat.le_of_ble_eq_true rfl) (Nat.le_of_ble_eq_true rfl) (Nat.le_of_ble_eq_true rfl) dX1_init_39 (fun a39 H hP hD hS => ?_)
  refine W.widen (k := 5) (n := 300) (Nat.le_of_ble_eq_true rfl) (Nat.le_of_ble_eq_true rfl) ?_
  refine va_putF (D := G) (ci := 0) (v := .ref a39) (ty := .array .int) (C := RX1) (T := TX1) (N := 12) (ref := RX1) hx hb hts h5w tyX1 tyX1_ok nmX1 hown hX.1 hP hD hS 0 rfl rfl 9 (by decide) h9w (fun _ h9 => h9) rfl hin rfl (by decide +kernel) rfl rfl (Nat.le_of_ble_eq_true rfl) dX1_init_41 (fun H locs hP hD hS => ?_)
  refine lv_aload_n hx hb dX1_init_44 rfl (lv_at hl 0 rfl) ?_
  refine lv_bipush (v := 6) hx hb dX1_init_45 (by decide +kernel) ?_
  refine cz_newa (atype := .int) (N' := 6) (a0 := (6, .inl (fun _ => 0))) (ty := .int) hx hb h3w rfl hX hP hD hS hA 0 (by decide +kernel) (ha_int 6) (by decide +kernel) (by decide +kernel) (Nat.le_of_ble_eq_true rfl) (Nat.le_of_ble_eq_true rfl) (Nat.le_of_ble_eq_true rfl) dX1_init_47 (fun a47 H hP hD hS => ?_)
  refine W.widen (k := 6) (n := 306) (Nat.le_of_ble_eq_true rfl) (Nat.le_of_ble_eq_true rfl) ?_
  refine va_putF (D := G) (ci := 0) (v := .ref a47) (ty := .array .int) (C := RX1) (T := TX1) (N := 12) (ref := RX1) hx hb hts h5w tyX1 tyX1_ok nmX1 hown hX.1 hP hD hS 0 rfl rfl 10 (by decide) h10w (fun _ h9 => h9) rfl hin rfl (by decide +kernel) rfl rfl (Nat.le_of_ble_eq_true rfl) dX1_init_49 (fun H locs hP hD hS => ?_)
  obtain ⟨hP, hD⟩ : va_P G vwCl [(p0, .inr (0, [v1, v2, v3, v4, v5, .ref a7, .ref a15, .ref a23, .ref a31, .ref a39, .ref a47, v12])), (a7, .inl (k 0, 60, .inl (fun _ => 0))), (a15, .inl (k 0, 60, .inl (fun _ => 0))), (a23, .inl (k 0, 60, .inl (fun _ => 0))), (a31, .inl (k 0, 60, .inl (fun _ => 0))), (a39, .inl (k 0, 60, .inl (fun _ => 0))), (a47, .inl (k 0, 6, .inl (fun _ => 0)))] H ∧ va_D A [(p0, .inr (0, [v1, v2, v3, v4, v5, .ref a7, .ref a15, .ref a23, .ref a31, .ref a39, .ref a47, v12])), (a7, .inl (k 0, 60, .inl (fun _ => 0))), (a15, .inl (k 0, 60, .inl (fun _ => 0))), (a23, .inl (k 0, 60, .inl (fun _ => 0))), (a31, .inl (k 0, 60, .inl (fun _ => 0))), (a39, .inl (k 0, 60, .inl (fun _ => 0))), (a47, .inl (k 0, 6, .inl (fun _ => 0)))] := ⟨hP, hD⟩
  refine lv_aload_n hx hb dX1_init_52 rfl (lv_at hl 0 rfl) ?_
  refine lv_iconst (v := 3) hx hb dX1_init_53 (by decide +kernel) ?_
  refine cz_newa (atype := .int) (N' := 3) (a0 := (3, .inl (fun _ => 0))) (ty := .int) hx hb h3w rfl hX hP hD hS hA 0 (by decide +kernel) (ha_int 3) (by decide +kernel) (by decide +kernel) (Nat.le_of_ble_eq_true rfl) (Nat.le_of_ble_eq_true rfl) (Nat.le_of_ble_eq_true rfl) dX1_init_54 (fun a54 H hP hD hS => ?_)
  refine W.widen (k := 7) (n := 309) (Nat.le_of_ble_eq_true rfl) (Nat.le_of_ble_eq_true rfl) ?_
  refine va_putF (D := G) (ci := 0) (v := .ref a54) (ty := .array .int) (C := RX1) (T := TX1) (N := 12) (ref := RX1) hx hb hts h5w tyX1 tyX1_ok nmX1 hown hX.1 hP hD hS 0 rfl rfl 11 (by decide) h11w (fun _ h9 => h9) rfl hin rfl (by decide +kernel) rfl rfl (Nat.le_of_ble_eq_true rfl) dX1_init_56 (fun H locs hP hD hS => ?_)
  have hP9 := hP.sub (ws' := [(p0, .inr (0, [v1, v2, v3, v4, v5, .ref a7, .ref a15, .ref a23, .ref a31, .ref a39, .ref a47, .ref a54])), (a7, .inl (k 0, 60, .inl (fun _ => 0))), (a15, .inl (k 0, 60, .inl (fun _ => 0))), (a23, .inl (k 0, 60, .inl (fun _ => 0))), (a31, .inl (k 0, 60, .inl (fun _ => 0))), (a39, .inl (k 0, 60, .inl (fun _ => 0))), (a47, .inl (k 0, 6, .inl (fun _ => 0))), (a54, .inl (k 0, 3, .inl (fun _ => 0)))]) [0, 1, 2, 3, 4, 5, 6, 7] rfl
  have hD9 := hD.sub (ws' := [(p0, .inr (0, [v1, v2, v3, v4, v5, .ref a7, .ref a15, .ref a23, .ref a31, .ref a39, .ref a47, .ref a54])), (a7, .inl (k 0, 60, .inl (fun _ => 0))), (a15, .inl (k 0, 60, .inl (fun _ => 0))), (a23, .inl (k 0, 60, .inl (fun _ => 0))), (a31, .inl (k 0, 60, .inl (fun _ => 0))), (a39, .inl (k 0, 60, .inl (fun _ => 0))), (a47, .inl (k 0, 6, .inl (fun _ => 0))), (a54, .inl (k 0, 3, .inl (fun _ => 0)))]) [0, 1, 2, 3, 4, 5, 6, 7] (by decide) rfl
  refine W.widen (k := 7) (n := 309) (Nat.le_of_ble_eq_true rfl) (Nat.le_of_ble_eq_true rfl) ?_
  exact W.vret hx hb hr (fun t ht hW => ⟨⟨(a7, a15, a23, a31, a39, a47, a54), rfl, trivial, by rw [ht]; exact hP9, hD9⟩, hS.F ht⟩) hS.2.2 dX1_init_59

