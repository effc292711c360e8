set_option maxHeartbeats 4000000 in
set_option maxRecDepth 100000 in
theorem cX9_winding_2 (l : Launch) (G : va_G) (k : Nat → ClassId) (p0 : Nat) (v1 : Value) (v2 : Value) (v3 : Value) (v4 : Value) (p5 : Nat) (v6 : Value) (p7 : Nat) (v8 : Value) (v9 : Value) (v10 : Value) (v11 : Value) (v12 : Value) (v13 : Value) (v14 : Value) (v15 : Value) (v16 : Value) (v17 : Value) (v18 : Value) (v19 : Value) (v20 : Value) (v21 : Value) (v22 : Value) (v23 : Value) (v24 : Value) (v25 : Value) (v26 : Value) (v27 : Value) (v28 : Value) (v29 : Value) (v30 : Value) (v31 : Value) (v32 : Value) (sz : Nat) : CMi l G k yX9_winding wsX9_winding ({ frames := 2, cells := 0, slots := 0, locals := 50 }) [.ref p0, .int 1] sz [(p0, .inr (6, [v1, v2, v3, v4, .ref p5, v6, .ref p7, v8, v9, v10, v11])), (p5, .inr (2, [.int 1, v12, v13, .int 0, .int 1, v14, v15, .int 0, v16, v17, v18, v19, v20, v21])), (p7, .inr (0, [.int 268435455, v22, v23, v24, v25, v26, v27, v28, v29, v30, v31, v32]))] (fun r (u : Unit) => r = 1) (fun (u : Unit) => [(p0, .inr (6, [v1, v2, v3, v4, .ref p5, v6, .ref p7, v8, v9, v10, v11])), (p7, .inr (0, [.int 268435455, v22, v23, v24, v25, v26, v27, v28, v29, v30, v31, v32])), (p5, .inr (2, [.int 1, v12, v13, .int 0, .int 1, v14, v15, .int 0, v16, v17, v18, v19, v20, v21]))]) := by
  refine Met.ofW (cc := cX9_winding) (maxL := 2) (ret := (some .int)) (by decide) rfl ?_
  intro p e s m args below meth c s₁ B hml hv
  obtain ⟨rfl, hsz, hP, hX, hD0, hZ0⟩ := hv
  have hx := B.exec
  have hb := B.bytes
  have hr := B.returns
  have hts := atoms_spec (ws := wsX9_winding) B.pre
  have hown : s.vm.findClass RX9 = some m.cls := findClass_of_methodNamed B.named
  subst hsz
  have hD := hD0.self (sz := s.heap.size)
  have hZ := ZX.up hP hZ0
  generalize hAe : va_A [(p0, .inr (6, [v1, v2, v3, v4, .ref p5, v6, .ref p7, v8, v9, v10, v11])), (p5, .inr (2, [.int 1, v12, v13, .int 0, .int 1, v14, v15, .int 0, v16, v17, v18, v19, v20, v21])), (p7, .inr (0, [.int 268435455, v22, v23, v24, v25, v26, v27, v28, v29, v30, v31, v32]))] s.heap.size = A at hD hZ ⊢
  have hA : ∀ q : Nat, s.heap.size ≤ q → A q := fun q h => by rw [← hAe]; exact Or.inr h
  have hS : va_S A s.heap s.heap [] := va_S.rf
  have hP : va_P G vwCl [(p0, .inr (6, [v1, v2, v3, v4, .ref p5, v6, .ref p7, v8, v9, v10, v11])), (p5, .inr (2, [.int 1, v12, v13, .int 0, .int 1, v14, v15, .int 0, v16, v17, v18, v19, v20, v21])), (p7, .inr (0, [.int 268435455, v22, v23, v24, v25, v26, v27, v28, v29, v30, v31, v32]))] s.heap := hP
  have hl := lv_entry ([.ref p0, .int 1]) (n := 2) (Nat.le_of_ble_eq_true rfl)
  rw [lg_entry_eq]
  generalize (lg_sl ([.ref p0, .int 1]) ++ List.replicate (2 - (lg_sl ([.ref p0, .int 1])).length) Slot.unset).toArray = ls at hl ⊢
  have hl : lv_has ls 2 [(0, .ref p0), (1, .int 1)] := hl
  have h0w := hts (.fieldLink RX9 23 "RopeTown" "plan" "LRopeTown$Plan;") (by decide +kernel)
  have h1w : ∀ w ∈ wsX90, w ∈ wsX9_winding := by decide +kernel
  have h2w := hts (.initialized RX3) (by decide +kernel)
  have h3w := hts (.instanceMethod yX3_hasDepth) (by decide +kernel)
  have h4w := hts (.selects RX3 yX3_hasDepth yX3_hasDepth) (by decide +kernel)
  have h5w := hts (.fieldLink RX9 42 "RopeTown" "book" "LRopeTown$Book;") (by decide +kernel)
  have h6w : ∀ w ∈ wsX10, w ∈ wsX9_winding := by decide +kernel
  have h7w := hts (.initialized RX7) (by decide +kernel)
  have h8w := hts (.static yX7_depth) (by decide +kernel)
  have h9w := hts (.instanceMethod yX3_windingTo) (by decide +kernel)
  have h10w := hts (.selects RX3 yX3_windingTo yX3_windingTo) (by decide +kernel)
  refine lv_aload_n hx hb dX9_winding_0 rfl (lv_at hl 0 rfl) ?_
  refine va_get (D := G) (ci := 6) (v := .ref p5) (C := RX9) (T := TX9) (N := 11) (ref := RX9) hx hb hts h1w hown hX.1 hP 0 rfl rfl 4 (by decide) h0w (fun _ h9 => h9) rfl dX9_winding_1 ?_
  refine lv_iload_n hx hb dX9_winding_4 rfl (lv_at hl 1 rfl) ?_
  refine cz_i (wr := [(p0, .inr (6, [v1, v2, v3, v4, .ref p5, v6, .ref p7, v8, v9, v10, v11])), (p7, .inr (0, [.int 268435455, v22, v23, v24, v25, v26, v27, v28, v29, v30, v31, v32]))]) (va_runVN (As := [.int 1]) (rest := []) ⟨hx, hb, hml, hown, hts⟩ (cX3_hasDepth_3 l G k p5 v12 v13 (.int 0) (.int 1) v14 v15 (.int 0) v16 v17 v18 v19 v20 v21 s.heap.size) ⟨va_cnB 1 hts gX9_winding_X3_hasDepth_n222 rfl rfl rfl (nm_23 hX.2.2.1) h2w (by decide +kernel) ⟨Nat.le_of_ble_eq_true rfl, Nat.le_of_ble_eq_true rfl⟩, h3w, h4w⟩ (cz_preV hZ hS hX hP hD [1] rfl rfl (ci := 2) (q0 := 1) rfl rfl) rfl rfl hl.1 rfl (lv_room (Nat.le_of_ble_eq_true rfl)) dX9_winding_5 ⟨Nat.le_of_ble_eq_true rfl, Nat.le_of_ble_eq_true rfl⟩) hP hD hS hA [1] [0, 2] rfl rfl (by decide) (by decide) (fun r u H locs hp hP hD hS => ?_)
  have hp : r = 1 := hp
  subst hp
  refine lv_if_eq (tgt := 25) hx hb dX9_winding_8 (by decide) (fun q => absurd (q) (by decide +kernel)) (fun _ => ?_)
  refine lv_iload_n hx hb dX9_winding_11 rfl (lv_at hl 1 rfl) ?_
  refine lv_aload_n hx hb dX9_winding_12 rfl (lv_at hl 0 rfl) ?_
  refine va_get (D := G) (ci := 6) (v := .ref p7) (C := RX9) (T := TX9) (N := 11) (ref := RX9) hx hb hts h1w hown hX.1 hP 0 rfl rfl 6 (by decide) h5w (fun _ h9 => h9) rfl dX9_winding_13 ?_
  refine va_getN (D := G) (ci := 0) (v := .int 268435455) (C := RX1) (T := TX1) (N := 12) (ref := RX1) (host := RX9) hx hb hts h6w hown hX.1 hP 1 rfl rfl 0 (by decide) (nf_37 hX.2.2.1) (fun _ h9 => h9) rfl dX9_winding_16 ?_
  refine cz_i (wr := [(p0, .inr (6, [v1, v2, v3, v4, .ref p5, v6, .ref p7, v8, v9, v10, v11])), (p7, .inr (0, [.int 268435455, v22, v23, v24, v25, v26, v27, v28, v29, v30, v31, v32])), (p5, .inr (2, [.int 1, v12, v13, .int 0, .int 1, v14, v15, .int 0, v16, v17, v18, v19, v20, v21]))]) (va_runSN (As := [.int 268435455]) (rest := [.int 1]) ⟨hx, hb, hml, hown, hts⟩ (cX7_depth_0 l G k H.size) ⟨va_cnB 1 hts gX9_winding_X7_depth_n126 rfl rfl rfl (nm_24 hX.2.2.1) h7w (by decide +kernel) ⟨Nat.le_of_ble_eq_true rfl, Nat.le_of_ble_eq_true rfl⟩, h8w, trivial⟩ (cz_preS hZ hS hX hP hD [] rfl rfl) rfl rfl hl.1 rfl (lv_room (Nat.le_of_ble_eq_true rfl)) dX9_winding_19 ⟨Nat.le_of_ble_eq_true rfl, Nat.le_of_ble_eq_true rfl⟩) hP hD hS hA [] [0, 1, 2] rfl rfl (by decide) (by decide) (fun r u H locs hp hP hD hS => ?_)
  have hp : r = 0 := hp
  subst hp
  refine lv_icmp_ne (tgt := 27) hx hb dX9_winding_22 (by decide) (fun _ => ?_) (fun q => absurd (q) (by decide +kernel))
  refine lv_aload_n hx hb dX9_winding_27 rfl (lv_at hl 0 rfl) ?_
  refine va_get (D := G) (ci := 6) (v := .ref p5) (C := RX9) (T := TX9) (N := 11) (ref := RX9) hx hb hts h1w hown hX.1 hP 0 rfl rfl 4 (by decide) h0w (fun _ h9 => h9) rfl dX9_winding_28 ?_
  refine lv_aload_n hx hb dX9_winding_31 rfl (lv_at hl 0 rfl) ?_
  refine va_get (D := G) (ci := 6) (v := .ref p7) (C := RX9) (T := TX9) (N := 11) (ref := RX9) hx hb hts h1w hown hX.1 hP 0 rfl rfl 6 (by decide) h5w (fun _ h9 => h9) rfl dX9_winding_32 ?_
  refine va_getN (D := G) (ci := 0) (v := .int 268435455) (C := RX1) (T := TX1) (N := 12) (ref := RX1) (host := RX9) hx hb hts h6w hown hX.1 hP 1 rfl rfl 0 (by decide) (nf_37 hX.2.2.1) (fun _ h9 => h9) rfl dX9_winding_35 ?_
  refine lv_iload_n hx hb dX9_winding_38 rfl (lv_at hl 1 rfl) ?_
  refine cz_i (wr := [(p0, .inr (6, [v1, v2, v3, v4, .ref p5, v6, .ref p7, v8, v9, v10, v11])), (p7, .inr (0, [.int 268435455, v22, v23, v24, v25, v26, v27, v28, v29, v30, v31, v32]))]) (va_runVN (As := [.int 268435455, .int 1]) (rest := []) ⟨hx, hb, hml, hown, hts⟩ (cX3_windingTo_0 l G k p5 v12 v13 v14 v15 v16 v17 v18 v19 v20 v21 H.size) ⟨va_cnB 2 hts gX9_winding_X3_windingTo_n216 rfl rfl rfl (nm_21 hX.2.2.1) h2w (by decide +kernel) ⟨Nat.le_of_ble_eq_true rfl, Nat.le_of_ble_eq_true rfl⟩, h9w, h10w⟩ (cz_preV hZ hS hX hP hD [2] rfl rfl (ci := 2) (q0 := 2) rfl rfl) rfl rfl hl.1 rfl (lv_room (Nat.le_of_ble_eq_true rfl)) dX9_winding_39 ⟨Nat.le_of_ble_eq_true rfl, Nat.le_of_ble_eq_true rfl⟩) hP hD hS hA [2] [0, 1] rfl rfl (by decide) (by decide) (fun r u H locs hp hP hD hS => ?_)
  have hp : r = 1 := hp
  subst hp
  have hP9 := hP.sub (ws' := [(p0, .inr (6, [v1, v2, v3, v4, .ref p5, v6, .ref p7, v8, v9, v10, v11])), (p7, .inr (0, [.int 268435455, v22, v23, v24, v25, v26, v27, v28, v29, v30, v31, v32])), (p5, .inr (2, [.int 1, v12, v13, .int 0, .int 1, v14, v15, .int 0, v16, v17, v18, v19, v20, v21]))]) [0, 1, 2] rfl
  have hD9 := hD.sub (ws' := [(p0, .inr (6, [v1, v2, v3, v4, .ref p5, v6, .ref p7, v8, v9, v10, v11])), (p7, .inr (0, [.int 268435455, v22, v23, v24, v25, v26, v27, v28, v29, v30, v31, v32])), (p5, .inr (2, [.int 1, v12, v13, .int 0, .int 1, v14, v15, .int 0, v16, v17, v18, v19, v20, v21]))]) [0, 1, 2] (by decide) rfl
  exact W.iret (v := 1) hx hb hr (fun t ht hW => ⟨⟨1, (), rfl, rfl, by rw [ht]; exact hP9, hD9⟩, hS.F ht⟩) hS.2.2 dX9_winding_42

set_option maxHeartbeats 4000000 in
set_option maxRecDepth 100000 in
theorem cX9_winding_3 (l : Launch) (G : va_G) (k : Nat → ClassId) (p0 : Nat) (i1 : Int32) (v2 : Value) (v3 : Value) (v4 : Value) (v5 : Value) (p6 : Nat) (v7 : Value) (v8 : Value) (v9 : Value) (v10 : Value) (v11 : Value) (v12 : Value) (v13 : Value) (v14 : Value) (v15 : Value) (v16 : Value) (v17 : Value) (v18 : Value) (v19 : Value) (v20 : Value) (v21 : Value) (v22 : Value) (v23 : Value) (v24 : Value) (v25 : Value) (sz : Nat) (hi1 : 1 < i1) : CMi l G k yX9_winding wsX9_winding ({ frames := 1, cells := 0, slots := 0, locals := 21 }) [.ref p0, .int i1] sz [(p0, .inr (6, [v2, v3, v4, v5, .ref p6, v7, v8, v9, v10, v11, v12])), (p6, .inr (2, [.int 1, v13, v14, v15, v16, v17, v18, v19, v20, v21, v22, v23, v24, v25]))] (fun r (u : Unit) => r = (-1)) (fun (u : Unit) => [(p0, .inr (6, [v2, v3, v4, v5, .ref p6, v7, v8, v9, v10, v11, v12])), (p6, .inr (2, [.int 1, v13, v14, v15, v16, v17, v18, v19, v20, v21, v22, v23, v24, v25]))]) := by
  refine Met.ofW (cc := cX9_winding) (maxL := 2) (ret := (some .int)) (by decide) rfl ?_
  intro p e s m args below meth c s₁ B hml hv
  obtain ⟨rfl, hsz, hP, hX, hD0, hZ0⟩ := hv
  have hx := B.exec
  have hb := B.bytes
  have hr := B.returns
  have hts := atoms_spec (ws := wsX9_winding) B.pre
  have hown : s.vm.findClass RX9 = some m.cls := findClass_of_methodNamed B.named
  subst hsz
  have hD := hD0.self (sz := s.heap.size)
  have hZ := ZX.up hP hZ0
  generalize hAe : va_A [(p0, .inr (6, [v2, v3, v4, v5, .ref p6, v7, v8, v9, v10, v11, v12])), (p6, .inr (2, [.int 1, v13, v14, v15, v16, v17, v18, v19, v20, v21, v22, v23, v24, v25]))] s.heap.size = A at hD hZ ⊢
  have hA : ∀ q : Nat, s.heap.size ≤ q → A q := fun q h => by rw [← hAe]; exact Or.inr h
  have hS : va_S A s.heap s.heap [] := va_S.rf
  have hP : va_P G vwCl [(p0, .inr (6, [v2, v3, v4, v5, .ref p6, v7, v8, v9, v10, v11, v12])), (p6, .inr (2, [.int 1, v13, v14, v15, v16, v17, v18, v19, v20, v21, v22, v23, v24, v25]))] s.heap := hP
  have hl := lv_entry ([.ref p0, .int i1]) (n := 2) (Nat.le_of_ble_eq_true rfl)
  rw [lg_entry_eq]
  generalize (lg_sl ([.ref p0, .int i1]) ++ List.replicate (2 - (lg_sl ([.ref p0, .int i1])).length) Slot.unset).toArray = ls at hl ⊢
  have hl : lv_has ls 2 [(0, .ref p0), (1, .int i1)] := hl
  have h0w := hts (.fieldLink RX9 23 "RopeTown" "plan" "LRopeTown$Plan;") (by decide +kernel)
  have h1w : ∀ w ∈ wsX90, w ∈ wsX9_winding := by decide +kernel
  have h2w := hts (.initialized RX3) (by decide +kernel)
  have h3w := hts (.instanceMethod yX3_hasDepth) (by decide +kernel)
  have h4w := hts (.selects RX3 yX3_hasDepth yX3_hasDepth) (by decide +kernel)
  refine lv_aload_n hx hb dX9_winding_0 rfl (lv_at hl 0 rfl) ?_
  refine va_get (D := G) (ci := 6) (v := .ref p6) (C := RX9) (T := TX9) (N := 11) (ref := RX9) hx hb hts h1w hown hX.1 hP 0 rfl rfl 4 (by decide) h0w (fun _ h9 => h9) rfl dX9_winding_1 ?_
  refine lv_iload_n hx hb dX9_winding_4 rfl (lv_at hl 1 rfl) ?_
  refine cz_i (wr := [(p0, .inr (6, [v2, v3, v4, v5, .ref p6, v7, v8, v9, v10, v11, v12]))]) (va_runVN (As := [.int i1]) (rest := []) ⟨hx, hb, hml, hown, hts⟩ (cX3_hasDepth_1 l G k p6 i1 v13 v14 v15 v16 v17 v18 v19 v20 v21 v22 v23 v24 v25 s.heap.size hi1) ⟨va_cnB 1 hts gX9_winding_X3_hasDepth_n222 rfl rfl rfl (nm_23 hX.2.2.1) h2w (by decide +kernel) ⟨Nat.le_of_ble_eq_true rfl, Nat.le_of_ble_eq_true rfl⟩, h3w, h4w⟩ (cz_preV hZ hS hX hP hD [1] rfl rfl (ci := 2) (q0 := 1) rfl rfl) rfl rfl hl.1 rfl (lv_room (Nat.le_of_ble_eq_true rfl)) dX9_winding_5 ⟨Nat.le_of_ble_eq_true rfl, Nat.le_of_ble_eq_true rfl⟩) hP hD hS hA [1] [0] rfl rfl (by decide) (by decide) (fun r u H locs hp hP hD hS => ?_)
  have hp : r = 0 := hp
  subst hp
  refine lv_if_eq (tgt := 25) hx hb dX9_winding_8 (by decide) (fun _ => ?_) (fun q => absurd (by decide +kernel) (q))
  refine lv_iconst (v := (-1)) hx hb dX9_winding_25 (by decide +kernel) ?_
  have hP9 := hP.sub (ws' := [(p0, .inr (6, [v2, v3, v4, v5, .ref p6, v7, v8, v9, v10, v11, v12])), (p6, .inr (2, [.int 1, v13, v14, v15, v16, v17, v18, v19, v20, v21, v22, v23, v24, v25]))]) [0, 1] rfl
  have hD9 := hD.sub (ws' := [(p0, .inr (6, [v2, v3, v4, v5, .ref p6, v7, v8, v9, v10, v11, v12])), (p6, .inr (2, [.int 1, v13, v14, v15, v16, v17, v18, v19, v20, v21, v22, v23, v24, v25]))]) [0, 1] (by decide) rfl
  exact W.iret (v := (-1)) hx hb hr (fun t ht hW => ⟨⟨(-1), (), rfl, rfl, by rw [ht]; exact hP9, hD9⟩, hS.F ht⟩) hS.2.2 dX9_winding_26

set_option maxHeartbeats 4000000 in
set_option maxRecDepth 100000 in
theorem cX9_may_0 (l : Launch) (G : va_G) (k : Nat → ClassId) (p0 : Nat) (i1 : Int32) (v2 : Value) (v3 : Value) (v4 : Value) (v5 : Value) (p6 : Nat) (v7 : Value) (p8 : Nat) (v9 : Value) (v10 : Value) (v11 : Value) (v12 : Value) (v13 : Value) (v14 : Value) (v15 : Value) (v16 : Value) (v17 : Value) (v18 : Value) (v19 : Value) (v20 : Value) (v21 : Value) (v22 : Value) (v23 : Value) (v24 : Value) (v25 : Value) (v26 : Value) (v27 : Value) (v28 : Value) (v29 : Value) (v30 : Value) (v31 : Value) (v32 : Value) (v33 : Value) (v34 : Value) (v35 : Value) (v36 : Value) (sz : Nat) (hi1 : i1 < 0) : CMi l G k yX9_may wsX9_may ({ frames := 2, cells := 0, slots := 0, locals := 44 }) [.ref p0, .int i1] sz [(p0, .inr (6, [v2, v3, v4, v5, .ref p6, v7, .ref p8, v9, v10, v11, v12])), (p8, .inr (0, [.int 268435455, .int 0, v13, v14, v15, v16, v17, v18, v19, v20, v21, v22])), (p6, .inr (2, [v23, v24, v25, v26, v27, v28, v29, v30, v31, v32, v33, v34, v35, v36]))] (fun r (u : Unit) => r = 0) (fun (u : Unit) => [(p0, .inr (6, [v2, v3, v4, v5, .ref p6, v7, .ref p8, v9, v10, v11, v12])), (p8, .inr (0, [.int 268435455, .int 0, v13, v14, v15, v16, v17, v18, v19, v20, v21, v22])), (p6, .inr (2, [v23, v24, v25, v26, v27, v28, v29, v30, v31, v32, v33, v34, v35, v36]))]) := by
  refine Met.ofW (cc := cX9_may) (maxL := 4) (ret := (some .int)) (by decide) rfl ?_
  intro p e s m args below meth c s₁ B hml hv
  obtain ⟨rfl, hsz, hP, hX, hD0, hZ0⟩ := hv
  have hx := B.exec
  have hb := B.bytes
  have hr := B.returns
  have hts := atoms_spec (ws := wsX9_may) B.pre
  have hown : s.vm.findClass RX9 = some m.cls := findClass_of_methodNamed B.named
  subst hsz
  have hD := hD0.self (sz := s.heap.size)
  have hZ := ZX.up hP hZ0
  generalize hAe : va_A [(p0, .inr (6, [v2, v3, v4, v5, .ref p6, v7, .ref p8, v9, v10, v11, v12])), (p8, .inr (0, [.int 268435455, .int 0, v13, v14, v15, v16, v17, v18, v19, v20, v21, v22])), (p6, .inr (2, [v23, v24, v25, v26, v27, v28, v29, v30, v31, v32, v33, v34, v35, v36]))] s.heap.size = A at hD hZ ⊢
  have hA : ∀ q : Nat, s.heap.size ≤ q → A q := fun q h => by rw [← hAe]; exact Or.inr h
  have hS : va_S A s.heap s.heap [] := va_S.rf
  have hP : va_P G vwCl [(p0, .inr (6, [v2, v3, v4, v5, .ref p6, v7, .ref p8, v9, v10, v11, v12])), (p8, .inr (0, [.int 268435455, .int 0, v13, v14, v15, v16, v17, v18, v19, v20, v21, v22])), (p6, .inr (2, [v23, v24, v25, v26, v27, v28, v29, v30, v31, v32, v33, v34, v35, v36]))] s.heap := hP
  have hl := lv_entry ([.ref p0, .int i1]) (n := 4) (Nat.le_of_ble_eq_true rfl)
  rw [lg_entry_eq]
  generalize (lg_sl ([.ref p0, .int i1]) ++ List.replicate (4 - (lg_sl ([.ref p0, .int i1])).length) Slot.unset).toArray = ls at hl ⊢
  have hl : lv_has ls 4 [(0, .ref p0), (1, .int i1)] := hl
  have h0w := hts (.fieldLink RX9 42 "RopeTown" "book" "LRopeTown$Book;") (by decide +kernel)
  have h1w : ∀ w ∈ wsX90, w ∈ wsX9_may := by decide +kernel
  have h2w : ∀ w ∈ wsX10, w ∈ wsX9_may := by decide +kernel
  have h3w := hts (.fieldLink RX9 23 "RopeTown" "plan" "LRopeTown$Plan;") (by decide +kernel)
  have h4w := hts (.initialized RX3) (by decide +kernel)
  have h5w := hts (.instanceMethod yX3_rideTrouble) (by decide +kernel)
  have h6w := hts (.selects RX3 yX3_rideTrouble yX3_rideTrouble) (by decide +kernel)
  refine lv_aload_n hx hb dX9_may_0 rfl (lv_at hl 0 rfl) ?_
  refine va_get (D := G) (ci := 6) (v := .ref p8) (C := RX9) (T := TX9) (N := 11) (ref := RX9) hx hb hts h1w hown hX.1 hP 0 rfl rfl 6 (by decide) h0w (fun _ h9 => h9) rfl dX9_may_1 ?_
  refine va_getN (D := G) (ci := 0) (v := .int 0) (C := RX1) (T := TX1) (N := 12) (ref := RX1) (host := RX9) hx hb hts h2w hown hX.1 hP 1 rfl rfl 1 (by decide) (nf_38 hX.2.2.1) (fun _ h9 => h9) rfl dX9_may_4 ?_
  refine lv_bipush (v := 60) hx hb dX9_may_7 (by decide +kernel) ?_
  refine lv_icmp_lt (tgt := 14) hx hb dX9_may_9 (by decide) (fun _ => ?_) (fun q => absurd (by decide +kernel) (q))
  refine lv_iconst (v := 0) hx hb dX9_may_14 (by decide +kernel) ?_
  refine lv_istore_n (lv' := [(2, .int 0), (0, .ref p0), (1, .int i1)]) hx hb dX9_may_15 rfl hl (by decide) rfl (fun ls hl => ?_)
  refine lv_iconst (v := 0) hx hb dX9_may_16 (by decide +kernel) ?_
  refine lv_istore_n (lv' := [(3, .int 0), (2, .int 0), (0, .ref p0), (1, .int i1)]) hx hb dX9_may_17 rfl hl (by decide) rfl (fun ls hl => ?_)
  refine lv_iload_n hx hb dX9_may_18 rfl (lv_at hl 0 rfl) ?_
  refine lv_iconst (v := 2) hx hb dX9_may_19 (by decide +kernel) ?_
  refine lv_icmp_gt (tgt := 54) hx hb dX9_may_20 (by decide) (fun q => absurd (q) (by decide +kernel)) (fun _ => ?_)
  refine lv_aload_n hx hb dX9_may_23 rfl (lv_at hl 2 rfl) ?_
  refine va_get (D := G) (ci := 6) (v := .ref p6) (C := RX9) (T := TX9) (N := 11) (ref := RX9) hx hb hts h1w hown hX.1 hP 0 rfl rfl 4 (by decide) h3w (fun _ h9 => h9) rfl dX9_may_24 ?_
  refine lv_aload_n hx hb dX9_may_27 rfl (lv_at hl 2 rfl) ?_
  refine va_get (D := G) (ci := 6) (v := .ref p8) (C := RX9) (T := TX9) (N := 11) (ref := RX9) hx hb hts h1w hown hX.1 hP 0 rfl rfl 6 (by decide) h0w (fun _ h9 => h9) rfl dX9_may_28 ?_
  refine va_getN (D := G) (ci := 0) (v := .int 268435455) (C := RX1) (T := TX1) (N := 12) (ref := RX1) (host := RX9) hx hb hts h2w hown hX.1 hP 1 rfl rfl 0 (by decide) (nf_37 hX.2.2.1) (fun _ h9 => h9) rfl dX9_may_31 ?_
  refine lv_iload_n hx hb dX9_may_34 rfl (lv_at hl 3 rfl) ?_
  refine lv_iload_n hx hb dX9_may_35 rfl (lv_at hl 0 rfl) ?_
  refine cz_i (wr := [(p0, .inr (6, [v2, v3, v4, v5, .ref p6, v7, .ref p8, v9, v10, v11, v12])), (p8, .inr (0, [.int 268435455, .int 0, v13, v14, v15, v16, v17, v18, v19, v20, v21, v22]))]) (va_runVN (As := [.int 268435455, .int i1, .int 0]) (rest := []) ⟨hx, hb, hml, hown, hts⟩ (cX3_rideTrouble_0 l G k p6 i1 0 v23 v24 v25 v26 v27 v28 v29 v30 v31 v32 v33 v34 v35 v36 s.heap.size hi1) ⟨va_cnB 3 hts gX9_may_X3_rideTrouble_n213 rfl rfl rfl (nm_19 hX.2.2.1) h4w (by decide +kernel) ⟨Nat.le_of_ble_eq_true rfl, Nat.le_of_ble_eq_true rfl⟩, h5w, h6w⟩ (cz_preV hZ hS hX hP hD [2] rfl rfl (ci := 2) (q0 := 2) rfl rfl) rfl rfl hl.1 rfl (lv_room (Nat.le_of_ble_eq_true rfl)) dX9_may_36 ⟨Nat.le_of_ble_eq_true rfl, Nat.le_of_ble_eq_true rfl⟩) hP hD hS hA [2] [0, 1] rfl rfl (by decide) (by decide) (fun r u H locs hp hP hD hS => ?_)
  have hp : r = 1 := hp
  subst hp
  refine lv_if_ne (tgt := 48) hx hb dX9_may_39 (by decide) (fun _ => ?_) (fun q => absurd (q) (by decide +kernel))
  refine lv_iinc (v := 1) (lv' := [(3, .int 1), (2, .int 0), (0, .ref p0), (1, .int i1)]) hx hb dX9_may_48 hl (k := 0) rfl (by decide +kernel) (by decide) rfl (fun ls hl => ?_)
  refine lv_goto (tgt := 18) hx hb dX9_may_51 (by decide) ?_
  refine lv_iload_n hx hb dX9_may_18 rfl (lv_at hl 0 rfl) ?_
  refine lv_iconst (v := 2) hx hb dX9_may_19 (by decide +kernel) ?_
  refine lv_icmp_gt (tgt := 54) hx hb dX9_may_20 (by decide) (fun q => absurd (q) (by decide +kernel)) (fun _ => ?_)
  refine lv_aload_n hx hb dX9_may_23 rfl (lv_at hl 2 rfl) ?_
  refine va_get (D := G) (ci := 6) (v := .ref p6) (C := RX9) (T := TX9) (N := 11) (ref := RX9) hx hb hts h1w hown hX.1 hP 0 rfl rfl 4 (by decide) h3w (fun _ h9 => h9) rfl dX9_may_24 ?_
  refine lv_aload_n hx hb dX9_may_27 rfl (lv_at hl 2 rfl) ?_
  refine va_get (D := G) (ci := 6) (v := .ref p8) (C := RX9) (T := TX9) (N := 11) (ref := RX9) hx hb hts h1w hown hX.1 hP 0 rfl rfl 6 (by decide) h0w (fun _ h9 => h9) rfl dX9_may_28 ?_
  refine va_getN (D := G) (ci := 0) (v := .int 268435455) (C := RX1) (T := TX1) (N := 12) (ref := RX1) (host := RX9) hx hb hts h2w hown hX.1 hP 1 rfl rfl 0 (by decide) (nf_37 hX.2.2.1) (fun _ h9 => h9) rfl dX9_may_31 ?_
  refine lv_iload_n hx hb dX9_may_34 rfl (lv_at hl 3 rfl) ?_
  refine lv_iload_n hx hb dX9_may_35 rfl (lv_at hl 0 rfl) ?_
  refine cz_i (wr := [(p0, .inr (6, [v2, v3, v4, v5, .ref p6, v7, .ref p8, v9, v10, v11, v12])), (p8, .inr (0, [.int 268435455, .int 0, v13, v14, v15, v16, v17, v18, v19, v20, v21, v22]))]) (va_runVN (As := [.int 268435455, .int i1, .int 1]) (rest := []) ⟨hx, hb, hml, hown, hts⟩ (cX3_rideTrouble_0 l G k p6 i1 1 v23 v24 v25 v26 v27 v28 v29 v30 v31 v32 v33 v34 v35 v36 H.size hi1) ⟨va_cnB 3 hts gX9_may_X3_rideTrouble_n213 rfl rfl rfl (nm_19 hX.2.2.1) h4w (by decide +kernel) ⟨Nat.le_of_ble_eq_true rfl, Nat.le_of_ble_eq_true rfl⟩, h5w, h6w⟩ (cz_preV hZ hS hX hP hD [2] rfl rfl (ci := 2) (q0 := 2) rfl rfl) rfl rfl hl.1 rfl (lv_room (Nat.le_of_ble_eq_true rfl)) dX9_may_36 ⟨Nat.le_of_ble_eq_true rfl, Nat.le_of_ble_eq_true rfl⟩) hP hD hS hA [2] [0, 1] rfl rfl (by decide) (by decide) (fun r u H locs hp hP hD hS => ?_)
  have hp : r = 1 := hp
  subst hp
  refine lv_if_ne (tgt := 48) hx hb dX9_may_39 (by decide) (fun _ => ?_) (fun q => absurd (q) (by decide +kernel))
  refine lv_iinc (v := 2) (lv' := [(3, .int 2), (2, .int 0), (0, .ref p0), (1, .int i1)]) hx hb dX9_may_48 hl (k := 0) rfl (by decide +kernel) (by decide) rfl (fun ls hl => ?_)
  refine lv_goto (tgt := 18) hx hb dX9_may_51 (by decide) ?_
  refine lv_iload_n hx hb dX9_may_18 rfl (lv_at hl 0 rfl) ?_
  refine lv_iconst (v := 2) hx hb dX9_may_19 (by decide +kernel) ?_
  refine lv_icmp_gt (tgt := 54) hx hb dX9_may_20 (by decide) (fun q => absurd (q) (by decide +kernel)) (fun _ => ?_)
  refine lv_aload_n hx hb dX9_may_23 rfl (lv_at hl 2 rfl) ?_
  refine va_get (D := G) (ci := 6) (v := .ref p6) (C := RX9) (T := TX9) (N := 11) (ref := RX9) hx hb hts h1w hown hX.1 hP 0 rfl rfl 4 (by decide) h3w (fun _ h9 => h9) rfl dX9_may_24 ?_
  refine lv_aload_n hx hb dX9_may_27 rfl (lv_at hl 2 rfl) ?_
  refine va_get (D := G) (ci := 6) (v := .ref p8) (C := RX9) (T := TX9) (N := 11) (ref := RX9) hx hb hts h1w hown hX.1 hP 0 rfl rfl 6 (by decide) h0w (fun _ h9 => h9) rfl dX9_may_28 ?_
  refine va_getN (D := G) (ci := 0) (v := .int 268435455) (C := RX1) (T := TX1) (N := 12) (ref := RX1) (host := RX9) hx hb hts h2w hown hX.1 hP 1 rfl rfl 0 (by decide) (nf_37 hX.2.2.1) (fun _ h9 => h9) rfl dX9_may_31 ?_
  refine lv_iload_n hx hb dX9_may_34 rfl (lv_at hl 3 rfl) ?_
  refine lv_iload_n hx hb dX9_may_35 rfl (lv_at hl 0 rfl) ?_
  refine cz_i (wr := [(p0, .inr (6, [v2, v3, v4, v5, .ref p6, v7, .ref p8, v9, v10, v11, v12])), (p8, .inr (0, [.int 268435455, .int 0, v13, v14, v15, v16, v17, v18, v19, v20, v21, v22]))]) (va_runVN (As := [.int 268435455, .int i1, .int 2]) (rest := []) ⟨hx, hb, hml, hown, hts⟩ (cX3_rideTrouble_0 l G k p6 i1 2 v23 v24 v25 v26 v27 v28 v29 v30 v31 v32 v33 v34 v35 v36 H.size hi1) ⟨va_cnB 3 hts gX9_may_X3_rideTrouble_n213 rfl rfl rfl (nm_19 hX.2.2.1) h4w (by decide +kernel) ⟨Nat.le_of_ble_eq_true rfl, Nat.le_of_ble_eq_true rfl⟩, h5w, h6w⟩ (cz_preV hZ hS hX hP hD [2] rfl rfl (ci := 2) (q0 := 2) rfl rfl) rfl rfl hl.1 rfl (lv_room (Nat.le_of_ble_eq_true rfl)) dX9_may_36 ⟨Nat.le_of_ble_eq_true rfl, Nat.le_of_ble_eq_true rfl⟩) hP hD hS hA [2] [0, 1] rfl rfl (by decide) (by decide) (fun r u H locs hp hP hD hS => ?_)
  have hp : r = 1 := hp
  subst hp
  refine lv_if_ne (tgt := 48) hx hb dX9_may_39 (by decide) (fun _ => ?_) (fun q => absurd (q) (by decide +kernel))
  refine lv_iinc (v := 3) (lv' := [(3, .int 3), (2, .int 0), (0, .ref p0), (1, .int i1)]) hx hb dX9_may_48 hl (k := 0) rfl (by decide +kernel) (by decide) rfl (fun ls hl => ?_)
  refine lv_goto (tgt := 18) hx hb dX9_may_51 (by decide) ?_
  refine lv_iload_n hx hb dX9_may_18 rfl (lv_at hl 0 rfl) ?_
  refine lv_iconst (v := 2) hx hb dX9_may_19 (by decide +kernel) ?_
  refine lv_icmp_gt (tgt := 54) hx hb dX9_may_20 (by decide) (fun _ => ?_) (fun q => absurd (by decide +kernel) (q))
  refine lv_iload_n hx hb dX9_may_54 rfl (lv_at hl 1 rfl) ?_
  have hP9 := hP.sub (ws' := [(p0, .inr (6, [v2, v3, v4, v5, .ref p6, v7, .ref p8, v9, v10, v11, v12])), (p8, .inr (0, [.int 268435455, .int 0, v13, v14, v15, v16, v17, v18, v19, v20, v21, v22])), (p6, .inr (2, [v23, v24, v25, v26, v27, v28, v29, v30, v31, v32, v33, v34, v35, v36]))]) [0, 1, 2] rfl
  have hD9 := hD.sub (ws' := [(p0, .inr (6, [v2, v3, v4, v5, .ref p6, v7, .ref p8, v9, v10, v11, v12])), (p8, .inr (0, [.int 268435455, .int 0, v13, v14, v15, v16, v17, v18, v19, v20, v21, v22])), (p6, .inr (2, [v23, v24, v25, v26, v27, v28, v29, v30, v31, v32, v33, v34, v35, v36]))]) [0, 1, 2] (by decide) rfl
  exact W.iret (v := 0) hx hb hr (fun t ht hW => ⟨⟨0, (), rfl, rfl, by rw [ht]; exact hP9, hD9⟩, hS.F ht⟩) hS.2.2 dX9_may_55

set_option maxHeartbeats 4000000 in
set_option maxRecDepth 100000 in
theorem cX9_may_1 (l : Launch) (G : va_G) (k : Nat → ClassId) (p0 : Nat) (v1 : Value) (v2 : Value) (v3 : Value) (v4 : Value) (p5 : Nat) (v6 : Value) (p7 : Nat) (v8 : Value) (v9 : Value) (v10 : Value) (v11 : Value) (v12 : Value) (v13 : Value) (v14 : Value) (v15 : Value) (v16 : Value) (v17 : Value) (v18 : Value) (v19 : Value) (v20 : Value) (v21 : Value) (v22 : Value) (v23 : Value) (v24 : Value) (v25 : Value) (v26 : Value) (v27 : Value) (v28 : Value) (v29 : Value) (v30 : Value) (v31 : Value) (v32 : Value) (v33 : Value) (v34 : Value) (sz : Nat) : CMi l G k yX9_may wsX9_may ({ frames := 2, cells := 0, slots := 0, locals := 44 }) [.ref p0, .int 0] sz [(p0, .inr (6, [v1, v2, v3, v4, .ref p5, v6, .ref p7, v8, v9, v10, v11])), (p7, .inr (0, [.int 268435455, .int 0, v12, v13, v14, v15, v16, v17, v18, v19, v20, v21])), (p5, .inr (2, [.int 1, v22, v23, v24, v25, v26, v27, v28, v29, v30, v31, v32, v33, v34]))] (fun r (u : Unit) => r = 0) (fun (u : Unit) => [(p0, .inr (6, [v1, v2, v3, v4, .ref p5, v6, .ref p7, v8, v9, v10, v11])), (p7, .inr (0, [.int 268435455, .int 0, v12, v13, v14, v15, v16, v17, v18, v19, v20, v21])), (p5, .inr (2, [.int 1, v22, v23, v24, v25, v26, v27, v28, v29, v30, v31, v32, v33, v34]))]) := by
  refine Met.ofW (cc := cX9_may) (maxL := 4) (ret := (some .int)) (by decide) rfl ?_
  intro p e s m args below meth c s₁ B hml hv
  obtain ⟨rfl, hsz, hP, hX, hD0, hZ0⟩ := hv
  have hx := B.exec
  have hb := B.bytes
  have hr := B.returns
  have hts := atoms_spec (ws := wsX9_may) B.pre
  have hown : s.vm.findClass RX9 = some m.cls := findClass_of_methodNamed B.named
  subst hsz
  have hD := hD0.self (sz := s.heap.size)
  have hZ := ZX.up hP hZ0
  generalize hAe : va_A [(p0, .inr (6, [v1, v2, v3, v4, .ref p5, v6, .ref p7, v8, v9, v10, v11])), (p7, .inr (0, [.int 268435455, .int 0, v12, v13, v14, v15, v16, v17, v18, v19, v20, v21])), (p5, .inr (2, [.int 1, v22, v23, v24, v25, v26, v27, v28, v29, v30, v31, v32, v33, v34]))] s.heap.size = A at hD hZ ⊢
  have hA : ∀ q : Nat, s.heap.size ≤ q → A q := fun q h => by rw [← hAe]; exact Or.inr h
  have hS : va_S A s.heap s.heap [] := va_S.rf
  have hP : va_P G vwCl [(p0, .inr (6, [v1, v2, v3, v4, .ref p5, v6, .ref p7, v8, v9, v10, v11])), (p7, .inr (0, [.int 268435455, .int 0, v12, v13, v14, v15, v16, v17, v18, v19, v20, v21])), (p5, .inr (2, [.int 1, v22, v23, v24, v25, v26, v27, v28, v29, v30, v31, v32, v33, v34]))] s.heap := hP
  have hl := lv_entry ([.ref p0, .int 0]) (n := 4) (Nat.le_of_ble_eq_true rfl)
  rw [lg_entry_eq]
  generalize (lg_sl ([.ref p0, .int 0]) ++ List.replicate (4 - (lg_sl ([.ref p0, .int 0])).length) Slot.unset).toArray = ls at hl ⊢
  have hl : lv_has ls 4 [(0, .ref p0), (1, .int 0)] := hl
  have h0w := hts (.fieldLink RX9 42 "RopeTown" "book" "LRopeTown$Book;") (by decide +kernel)
  have h1w : ∀ w ∈ wsX90, w ∈ wsX9_may := by decide +kernel
  have h2w : ∀ w ∈ wsX10, w ∈ wsX9_may := by decide +kernel
  have h3w := hts (.fieldLink RX9 23 "RopeTown" "plan" "LRopeTown$Plan;") (by decide +kernel)
  have h4w := hts (.initialized RX3) (by decide +kernel)
  have h5w := hts (.instanceMethod yX3_rideTrouble) (by decide +kernel)
  have h6w := hts (.selects RX3 yX3_rideTrouble yX3_rideTrouble) (by decide +kernel)
  refine lv_aload_n hx hb dX9_may_0 rfl (lv_at hl 0 rfl) ?_
  refine va_get (D := G) (ci := 6) (v := .ref p7) (C := RX9) (T := TX9) (N := 11) (ref := RX9) hx hb hts h1w hown hX.1 hP 0 rfl rfl 6 (by decide) h0w (fun _ h9 => h9) rfl dX9_may_1 ?_
  refine va_getN (D := G) (ci := 0) (v := .int 0) (C := RX1) (T := TX1) (N := 12) (ref := RX1) (host := RX9) hx hb hts h2w hown hX.1 hP 1 rfl rfl 1 (by decide) (nf_38 hX.2.2.1) (fun _ h9 => h9) rfl dX9_may_4 ?_
  refine lv_bipush (v := 60) hx hb dX9_may_7 (by decide +kernel) ?_
  refine lv_icmp_lt (tgt := 14) hx hb dX9_may_9 (by decide) (fun _ => ?_) (fun q => absurd (by decide +kernel) (q))
  refine lv_iconst (v := 0) hx hb dX9_may_14 (by decide +kernel) ?_
  refine lv_istore_n (lv' := [(2, .int 0), (0, .ref p0), (1, .int 0)]) hx hb dX9_may_15 rfl hl (by decide) rfl (fun ls hl => ?_)
  refine lv_iconst (v := 0) hx hb dX9_may_16 (by decide +kernel) ?_
  refine lv_istore_n (lv' := [(3, .int 0), (2, .int 0), (0, .ref p0), (1, .int 0)]) hx hb dX9_may_17 rfl hl (by decide) rfl (fun ls hl => ?_)
  refine lv_iload_n hx hb dX9_may_18 rfl (lv_at hl 0 rfl) ?_
  refine lv_iconst (v := 2) hx hb dX9_may_19 (by decide +kernel) ?_
  refine lv_icmp_gt (tgt := 54) hx hb dX9_may_20 (by decide) (fun q => absurd (q) (by decide +kernel)) (fun _ => ?_)
  refine lv_aload_n hx hb dX9_may_23 rfl (lv_at hl 2 rfl) ?_
  refine va_get (D := G) (ci := 6) (v := .ref p5) (C := RX9) (T := TX9) (N := 11) (ref := RX9) hx hb hts h1w hown hX.1 hP 0 rfl rfl 4 (by decide) h3w (fun _ h9 => h9) rfl dX9_may_24 ?_
  refine lv_aload_n hx hb dX9_may_27 rfl (lv_at hl 2 rfl) ?_
  refine va_get (D := G) (ci := 6) (v := .ref p7) (C := RX9) (T := TX9) (N := 11) (ref := RX9) hx hb hts h1w hown hX.1 hP 0 rfl rfl 6 (by decide) h0w (fun _ h9 => h9) rfl dX9_may_28 ?_
  refine va_getN (D := G) (ci := 0) (v := .int 268435455) (C := RX1) (T := TX1) (N := 12) (ref := RX1) (host := RX9) hx hb hts h2w hown hX.1 hP 1 rfl rfl 0 (by decide) (nf_37 hX.2.2.1) (fun _ h9 => h9) rfl dX9_may_31 ?_
  refine lv_iload_n hx hb dX9_may_34 rfl (lv_at hl 3 rfl) ?_
  refine lv_iload_n hx hb dX9_may_35 rfl (lv_at hl 0 rfl) ?_
  refine cz_i (wr := [(p0, .inr (6, [v1, v2, v3, v4, .ref p5, v6, .ref p7, v8, v9, v10, v11])), (p7, .inr (0, [.int 268435455, .int 0, v12, v13, v14, v15, v16, v17, v18, v19, v20, v21]))]) (va_runVN (As := [.int 268435455, .int 0, .int 0]) (rest := []) ⟨hx, hb, hml, hown, hts⟩ (cX3_rideTrouble_3 l G k p5 v22 v23 v24 v25 v26 v27 v28 v29 v30 v31 v32 v33 v34 s.heap.size) ⟨va_cnB 3 hts gX9_may_X3_rideTrouble_n213 rfl rfl rfl (nm_19 hX.2.2.1) h4w (by decide +kernel) ⟨Nat.le_of_ble_eq_true rfl, Nat.le_of_ble_eq_true rfl⟩, h5w, h6w⟩ (cz_preV hZ hS hX hP hD [2] rfl rfl (ci := 2) (q0 := 2) rfl rfl) rfl rfl hl.1 rfl (lv_room (Nat.le_of_ble_eq_true rfl)) dX9_may_36 ⟨Nat.le_of_ble_eq_true rfl, Nat.le_of_ble_eq_true rfl⟩) hP hD hS hA [2] [0, 1] rfl rfl (by decide) (by decide) (fun r u H locs hp hP hD hS => ?_)
  have hp : r = 3 := hp
  subst hp
  refine lv_if_ne (tgt := 48) hx hb dX9_may_39 (by decide) (fun _ => ?_) (fun q => absurd (q) (by decide +kernel))
  refine lv_iinc (v := 1) (lv' := [(3, .int 1), (2, .int 0), (0, .ref p0), (1, .int 0)]) hx hb dX9_may_48 hl (k := 0) rfl (by decide +kernel) (by decide) rfl (fun ls hl => ?_)
  refine lv_goto (tgt := 18) hx hb dX9_may_51 (by decide) ?_
  refine lv_iload_n hx hb dX9_may_18 rfl (lv_at hl 0 rfl) ?_
  refine lv_iconst (v := 2) hx hb dX9_may_19 (by decide +kernel) ?_
  refine lv_icmp_gt (tgt := 54) hx hb dX9_may_20 (by decide) (fun q => absurd (q) (by decide +kernel)) (fun _ => ?_)
  refine lv_aload_n hx hb dX9_may_23 rfl (lv_at hl 2 rfl) ?_
  refine va_get (D := G) (ci := 6) (v := .ref p5) (C := RX9) (T := TX9) (N := 11) (ref := RX9) hx hb hts h1w hown hX.1 hP 0 rfl rfl 4 (by decide) h3w (fun _ h9 => h9) rfl dX9_may_24 ?_
  refine lv_aload_n hx hb dX9_may_27 rfl (lv_at hl 2 rfl) ?_
  refine va_get (D := G) (ci := 6) (v := .ref p7) (C := RX9) (T := TX9) (N := 11) (ref := RX9) hx hb hts h1w hown hX.1 hP 0 rfl rfl 6 (by decide) h0w (fun _ h9 => h9) rfl dX9_may_28 ?_
  refine va_getN (D := G) (ci := 0) (v := .int 268435455) (C := RX1) (T := TX1) (N := 12) (ref := RX1) (host := RX9) hx hb hts h2w hown hX.1 hP 1 rfl rfl 0 (by decide) (nf_37 hX.2.2.1) (fun _ h9 => h9) rfl dX9_may_31 ?_
  refine lv_iload_n hx hb dX9_may_34 rfl (lv_at hl 3 rfl) ?_
  refine lv_iload_n hx hb dX9_may_35 rfl (lv_at hl 0 rfl) ?_
  refine cz_i (wr := [(p0, .inr (6, [v1, v2, v3, v4, .ref p5, v6, .ref p7, v8, v9, v10, v11])), (p7, .inr (0, [.int 268435455, .int 0, v12, v13, v14, v15, v16, v17, v18, v19, v20, v21]))]) (va_runVN (As := [.int 268435455, .int 0, .int 1]) (rest := []) ⟨hx, hb, hml, hown, hts⟩ (cX3_rideTrouble_4 l G k p5 v22 v23 v24 v25 v26 v27 v28 v29 v30 v31 v32 v33 v34 H.size) ⟨va_cnB 3 hts gX9_may_X3_rideTrouble_n213 rfl rfl rfl (nm_19 hX.2.2.1) h4w (by decide +kernel) ⟨Nat.le_of_ble_eq_true rfl, Nat.le_of_ble_eq_true rfl⟩, h5w, h6w⟩ (cz_preV hZ hS hX hP hD [2] rfl rfl (ci := 2) (q0 := 2) rfl rfl) rfl rfl hl.1 rfl (lv_room (Nat.le_of_ble_eq_true rfl)) dX9_may_36 ⟨Nat.le_of_ble_eq_true rfl, Nat.le_of_ble_eq_true rfl⟩) hP hD hS hA [2] [0, 1] rfl rfl (by decide) (by decide) (fun r u H locs hp hP hD hS => ?_)
  have hp : r = 3 := hp
  subst hp
  refine lv_if_ne (tgt := 48) hx hb dX9_may_39 (by decide) (fun _ => ?_) (fun q => absurd (q) (by decide +kernel))
  refine lv_iinc (v := 2) (lv' := [(3, .int 2), (2, .int 0), (0, .ref p0), (1, .int 0)]) hx hb dX9_may_48 hl (k := 0) rfl (by decide +kernel) (by decide) rfl (fun ls hl => ?_)
  refine lv_goto (tgt := 18) hx hb dX9_may_51 (by decide) ?_
  refine lv_iload_n hx hb dX9_may_18 rfl (lv_at hl 0 rfl) ?_
  refine lv_iconst (v := 2) hx hb dX9_may_19 (by decide +kernel) ?_
  refine lv_icmp_gt (tgt := 54) hx hb dX9_may_20 (by decide) (fun q => absurd (q) (by decide +kernel)) (fun _ => ?_)
  refine lv_aload_n hx hb dX9_may_23 rfl (lv_at hl 2 rfl) ?_
  refine va_get (D := G) (ci := 6) (v := .ref p5) (C := RX9) (T := TX9) (N := 11) (ref := RX9) hx hb hts h1w hown hX.1 hP 0 rfl rfl 4 (by decide) h3w (fun _ h9 => h9) rfl dX9_may_24 ?_
  refine lv_aload_n hx hb dX9_may_27 rfl (lv_at hl 2 rfl) ?_
  refine va_get (D := G) (ci := 6) (v := .ref p7) (C := RX9) (T := TX9) (N := 11) (ref := RX9) hx hb hts h1w hown hX.1 hP 0 rfl rfl 6 (by decide) h0w (fun _ h9 => h9) rfl dX9_may_28 ?_
  refine va_getN (D := G) (ci := 0) (v := .int 268435455) (C := RX1) (T := TX1) (N := 12) (ref := RX1) (host := RX9) hx hb hts h2w hown hX.1 hP 1 rfl rfl 0 (by decide) (nf_37 hX.2.2.1) (fun _ h9 => h9) rfl dX9_may_31 ?_
  refine lv_iload_n hx hb dX9_may_34 rfl (lv_at hl 3 rfl) ?_
  refine lv_iload_n hx hb dX9_may_35 rfl (lv_at hl 0 rfl) ?_
  refine cz_i (wr := [(p0, .inr (6, [v1, v2, v3, v4, .ref p5, v6, .ref p7, v8, v9, v10, v11])), (p7, .inr (0, [.int 268435455, .int 0, v12, v13, v14, v15, v16, v17, v18, v19, v20, v21]))]) (va_runVN (As := [.int 268435455, .int 0, .int 2]) (rest := []) ⟨hx, hb, hml, hown, hts⟩ (cX3_rideTrouble_5 l G k p5 v22 v23 v24 v25 v26 v27 v28 v29 v30 v31 v32 v33 v34 H.size) ⟨va_cnB 3 hts gX9_may_X3_rideTrouble_n213 rfl rfl rfl (nm_19 hX.2.2.1) h4w (by decide +kernel) ⟨Nat.le_of_ble_eq_true rfl, Nat.le_of_ble_eq_true rfl⟩, h5w, h6w⟩ (cz_preV hZ hS hX hP hD [2] rfl rfl (ci := 2) (q0 := 2) rfl rfl) rfl rfl hl.1 rfl (lv_room (Nat.le_of_ble_eq_true rfl)) dX9_may_36 ⟨Nat.le_of_ble_eq_true rfl, Nat.le_of_ble_eq_true rfl⟩) hP hD hS hA [2] [0, 1] rfl rfl (by decide) (by decide) (fun r u H locs hp hP hD hS => ?_)
  have hp : r = 3 := hp
  subst hp
  refine lv_if_ne (tgt := 48) hx hb dX9_may_39 (by decide) (fun _ => ?_) (fun q => absurd (q) (by decide +kernel))
  refine lv_iinc (v := 3) (lv' := [(3, .int 3), (2, .int 0), (0, .ref p0), (1, .int 0)]) hx hb dX9_may_48 hl (k := 0) rfl (by decide +kernel) (by decide) rfl (fun ls hl => ?_)
  refine lv_goto (tgt := 18) hx hb dX9_may_51 (by decide) ?_
  refine lv_iload_n hx hb dX9_may_18 rfl (lv_at hl 0 rfl) ?_
  refine lv_iconst (v := 2) hx hb dX9_may_19 (by decide +kernel) ?_
  refine lv_icmp_gt (tgt := 54) hx hb dX9_may_20 (by decide) (fun _ => ?_) (fun q => absurd (by decide +kernel) (q))
  refine lv_iload_n hx hb dX9_may_54 rfl (lv_at hl 1 rfl) ?_
  have hP9 := hP.sub (ws' := [(p0, .inr (6, [v1, v2, v3, v4, .ref p5, v6, .ref p7, v8, v9, v10, v11])), (p7, .inr (0, [.int 268435455, .int 0, v12, v13, v14, v15, v16, v17, v18, v19, v20, v21])), (p5, .inr (2, [.int 1, v22, v23, v24, v25, v26, v27, v28, v29, v30, v31, v32, v33, v34]))]) [0, 1, 2] rfl
  have hD9 := hD.sub (ws' := [(p0, .inr (6, [v1, v2, v3, v4, .ref p5, v6, .ref p7, v8, v9, v10, v11])), (p7, .inr (0, [.int 268435455, .int 0, v12, v13, v14, v15, v16, v17, v18, v19, v20, v21])), (p5, .inr (2, [.int 1, v22, v23, v24, v25, v26, v27, v28, v29, v30, v31, v32, v33, v34]))]) [0, 1, 2] (by decide) rfl
  exact W.iret (v := 0) hx hb hr (fun t ht hW => ⟨⟨0, (), rfl, rfl, by rw [ht]; exact hP9, hD9⟩, hS.F ht⟩) hS.2.2 dX9_may_55

set_option maxHeartbeats 4000000 in
set_option maxRecDepth 100000 in
theorem cX9_may_2 (l : Launch) (G : va_G) (k : Nat → ClassId) (p0 : Nat) (v1 : Value) (v2 : Value) (v3 : Value) (v4 : Value) (p5 : Nat) (v6 : Value) (p7 : Nat) (v8 : Value) (v9 : Value) (v10 : Value) (v11 : Value) (v12 : Value) (v13 : Value) (v14 : Value) (v15 : Value) (v16 : Value) (v17 : Value) (v18 : Value) (v19 : Value) (v20 : Value) (v21 : Value) (v22 : Value) (v23 : Value) (v24 : Value) (v25 : Value) (v26 : Value) (p27 : Nat) (v28 : Value) (v29 : Value) (v30 : Value) (v31 : Value) (v32 : Value) (sz : Nat) : CMi l G k yX9_may wsX9_may ({ frames := 3, cells := 0, slots := 0, locals := 75 }) [.ref p0, .int 1] sz [(p0, .inr (6, [v1, v2, v3, v4, .ref p5, v6, .ref p7, v8, v9, v10, v11])), (p7, .inr (0, [.int 268435455, .int 0, v12, v13, v14, v15, v16, v17, v18, v19, v20, v21])), (p5, .inr (2, [.int 1, v22, .int 99, .int 0, .int 1, .int 20, .int 0, .int 0, v23, v24, v25, v26, .ref p27, v28])), (p27, .inr (4, [v29, v30, v31, v32, .int 0]))] (fun r (u : Unit) => r = 4) (fun (u : Unit) => [(p0, .inr (6, [v1, v2, v3, v4, .ref p5, v6, .ref p7, v8, v9, v10, v11])), (p7, .inr (0, [.int 268435455, .int 0, v12, v13, v14, v15, v16, v17, v18, v19, v20, v21])), (p5, .inr (2, [.int 1, v22, .int 99, .int 0, .int 1, .int 20, .int 0, .int 0, v23, v24, v25, v26, .ref p27, v28])), (p27, .inr (4, [v29, v30, v31, v32, .int 0]))]) := by
  refine Met.ofW (cc := cX9_may) (maxL := 4) (ret := (some .int)) (by decide) rfl ?_
  intro p e s m args below meth c s₁ B hml hv
  obtain ⟨rfl, hsz, hP, hX, hD0, hZ0⟩ := hv
  have hx := B.exec
  have hb := B.bytes
  have hr := B.returns
  have hts := atoms_spec (ws := wsX9_may) B.pre
  have hown : s.vm.findClass RX9 = some m.cls := findClass_of_methodNamed B.named
  subst hsz
  have hD := hD0.self (sz := s.heap.size)
  have hZ := ZX.up hP hZ0
  generalize hAe : va_A [(p0, .inr (6, [v1, v2, v3, v4, .ref p5, v6, .ref p7, v8, v9, v10, v11])), (p7, .inr (0, [.int 268435455, .int 0, v12, v13, v14, v15, v16, v17, v18, v19, v20, v21])), (p5, .inr (2, [.int 1, v22, .int 99, .int 0, .int 1, .int 20, .int 0, .int 0, v23, v24, v25, v26, .ref p27, v28])), (p27, .inr (4, [v29, v30, v31, v32, .int 0]))] s.heap.size = A at hD hZ ⊢
  have hA : ∀ q : Nat, s.heap.size ≤ q → A q := fun q h => by rw [← hAe]; exact Or.inr h
  have hS : va_S A s.heap s.heap [] := va_S.rf
  have hP : va_P G vwCl [(p0, .inr (6, [v1, v2, v3, v4, .ref p5, v6, .ref p7, v8, v9, v10, v11])), (p7, .inr (0, [.int 268435455, .int 0, v12, v13, v14, v15, v16, v17, v18, v19, v20, v21])), (p5, .inr (2, [.int 1, v22, .int 99, .int 0, .int 1, .int 20, .int 0, .int 0, v23, v24, v25, v26, .ref p27, v28])), (p27, .inr (4, [v29, v30, v31, v32, .int 0]))] s.heap := hP
  have hl := lv_entry ([.ref p0, .int 1]) (n := 4) (Nat.le_of_ble_eq_true rfl)
  rw [lg_entry_eq]
  generalize (lg_sl ([.ref p0, .int 1]) ++ List.replicate (4 - (lg_sl ([.ref p0, .int 1])).length) Slot.unset).toArray = ls at hl ⊢
  have hl : lv_has ls 4 [(0, .ref p0), (1, .int 1)] := hl
  have h0w := hts (.fieldLink RX9 42 "RopeTown" "book" "LRopeTown$Book;") (by decide +kernel)
  have h1w : ∀ w ∈ wsX90, w ∈ wsX9_may := by decide +kernel
  have h2w : ∀ w ∈ wsX10, w ∈ wsX9_may := by decide +kernel
  have h3w := hts (.fieldLink RX9 23 "RopeTown" "plan" "LRopeTown$Plan;") (by decide +kernel)
  have h4w := hts (.initialized RX3) (by decide +kernel)
  have h5w := hts (.instanceMethod yX3_rideTrouble) (by decide +kernel)
  have h6w := hts (.selects RX3 yX3_rideTrouble yX3_rideTrouble) (by decide +kernel)
  refine lv_aload_n hx hb dX9_may_0 rfl (lv_at hl 0 rfl) ?_
  refine va_get (D := G) (ci := 6) (v := .ref p7) (C := RX9) (T := TX9) (N := 11) (ref := RX9) hx hb hts h1w hown hX.1 hP 0 rfl rfl 6 (by decide) h0w (fun _ h9 => h9) rfl dX9_may_1 ?_
  refine va_getN (D := G) (ci := 0) (v := .int 0) (C := RX1) (T := TX1) (N := 12) (ref := RX1) (host := RX9) hx hb hts h2w hown hX.1 hP 1 rfl rfl 1 (by decide) (nf_38 hX.2.2.1) (fun _ h9 => h9) rfl dX9_may_4 ?_
  refine lv_bipush (v := 60) hx hb dX9_may_7 (by decide +kernel) ?_
  refine lv_icmp_lt (tgt := 14) hx hb dX9_may_9 (by decide) (fun _ => ?_) (fun q => absurd (by decide +kernel) (q))
  refine lv_iconst (v := 0) hx hb dX9_may_14 (by decide +kernel) ?_
  refine lv_istore_n (lv' := [(2, .int 0), (0, .ref p0), (1, .int 1)]) hx hb dX9_may_15 rfl hl (by decide) rfl (fun ls hl => ?_)
  refine lv_iconst (v := 0) hx hb dX9_may_16 (by decide +kernel) ?_
  refine lv_istore_n (lv' := [(3, .int 0), (2, .int 0), (0, .ref p0), (1, .int 1)]) hx hb dX9_may_17 rfl hl (by decide) rfl (fun ls hl => ?_)
  refine lv_iload_n hx hb dX9_may_18 rfl (lv_at hl 0 rfl) ?_
  refine lv_iconst (v := 2) hx hb dX9_may_19 (by decide +kernel) ?_
  refine lv_icmp_gt (tgt := 54) hx hb dX9_may_20 (by decide) (fun q => absurd (q) (by decide +kernel)) (fun _ => ?_)
  refine lv_aload_n hx hb dX9_may_23 rfl (lv_at hl 2 rfl) ?_
  refine va_get (D := G) (ci := 6) (v := .ref p5) (C := RX9) (T := TX9) (N := 11) (ref := RX9) hx hb hts h1w hown hX.1 hP 0 rfl rfl 4 (by decide) h3w (fun _ h9 => h9) rfl dX9_may_24 ?_
  refine lv_aload_n hx hb dX9_may_27 rfl (lv_at hl 2 rfl) ?_
  refine va_get (D := G) (ci := 6) (v := .ref p7) (C := RX9) (T := TX9) (N := 11) (ref := RX9) hx hb hts h1w hown hX.1 hP 0 rfl rfl 6 (by decide) h0w (fun _ h9 => h9) rfl dX9_may_28 ?_
  refine va_getN (D := G) (ci := 0) (v := .int 268435455) (C := RX1) (T := TX1) (N := 12) (ref := RX1) (host := RX9) hx hb hts h2w hown hX.1 hP 1 rfl rfl 0 (by decide) (nf_37 hX.2.2.1) (fun _ h9 => h9) rfl dX9_may_31 ?_
  refine lv_iload_n hx hb dX9_may_34 rfl (lv_at hl 3 rfl) ?_
  refine lv_iload_n hx hb dX9_may_35 rfl (lv_at hl 0 rfl) ?_
  refine cz_i (wr := [(p0, .inr (6, [v1, v2, v3, v4, .ref p5, v6, .ref p7, v8, v9, v10, v11])), (p7, .inr (0, [.int 268435455, .int 0, v12, v13, v14, v15, v16, v17, v18, v19, v20, v21]))]) (va_runVN (As := [.int 268435455, .int 1, .int 0]) (rest := []) ⟨hx, hb, hml, hown, hts⟩ (cX3_rideTrouble_8 l G k p5 v22 (.int 0) v23 v24 v25 v26 p27 v28 v29 v30 v31 v32 s.heap.size) ⟨va_cnB 3 hts gX9_may_X3_rideTrouble_n213 rfl rfl rfl (nm_19 hX.2.2.1) h4w (by decide +kernel) ⟨Nat.le_of_ble_eq_true rfl, Nat.le_of_ble_eq_true rfl⟩, h5w, h6w⟩ (cz_preV hZ hS hX hP hD [2, 3] rfl rfl (ci := 2) (q0 := 2) rfl rfl) rfl rfl hl.1 rfl (lv_room (Nat.le_of_ble_eq_true rfl)) dX9_may_36 ⟨Nat.le_of_ble_eq_true rfl, Nat.le_of_ble_eq_true rfl⟩) hP hD hS hA [2, 3] [0, 1] rfl rfl (by decide) (by decide) (fun r u H locs hp hP hD hS => ?_)
  have hp : r = 6 := hp
  subst hp
  refine lv_if_ne (tgt := 48) hx hb dX9_may_39 (by decide) (fun _ => ?_) (fun q => absurd (q) (by decide +kernel))
  refine lv_iinc (v := 1) (lv' := [(3, .int 1), (2, .int 0), (0, .ref p0), (1, .int 1)]) hx hb dX9_may_48 hl (k := 0) rfl (by decide +kernel) (by decide) rfl (fun ls hl => ?_)
  refine lv_goto (tgt := 18) hx hb dX9_may_51 (by decide) ?_
  refine lv_iload_n hx hb dX9_may_18 rfl (lv_at hl 0 rfl) ?_
  refine lv_iconst (v := 2) hx hb dX9_may_19 (by decide +kernel) ?_
  refine lv_icmp_gt (tgt := 54) hx hb dX9_may_20 (by decide) (fun q => absurd (q) (by decide +kernel)) (fun _ => ?_)
  refine lv_aload_n hx hb dX9_may_23 rfl (lv_at hl 2 rfl) ?_
  refine va_get (D := G) (ci := 6) (v := .ref p5) (C := RX9) (T := TX9) (N := 11) (ref := RX9) hx hb hts h1w hown hX.1 hP 0 rfl rfl 4 (by decide) h3w (fun _ h9 => h9) rfl dX9_may_24 ?_
  refine lv_aload_n hx hb dX9_may_27 rfl (lv_at hl 2 rfl) ?_
  refine va_get (D := G) (ci := 6) (v := .ref p7) (C := RX9) (T := TX9) (N := 11) (ref := RX9) hx hb hts h1w hown hX.1 hP 0 rfl rfl 6 (by decide) h0w (fun _ h9 => h9) rfl dX9_may_28 ?_
  refine va_getN (D := G) (ci := 0) (v := .int 268435455) (C := RX1) (T := TX1) (N := 12) (ref := RX1) (host := RX9) hx hb hts h2w hown hX.1 hP 1 rfl rfl 0 (by decide) (nf_37 hX.2.2.1) (fun _ h9 => h9) rfl dX9_may_31 ?_
  refine lv_iload_n hx hb dX9_may_34 rfl (lv_at hl 3 rfl) ?_
  refine lv_iload_n hx hb dX9_may_35 rfl (lv_at hl 0 rfl) ?_
  refine cz_i (wr := [(p0, .inr (6, [v1, v2, v3, v4, .ref p5, v6, .ref p7, v8, v9, v10, v11])), (p7, .inr (0, [.int 268435455, .int 0, v12, v13, v14, v15, v16, v17, v18, v19, v20, v21]))]) (va_runVN (As := [.int 268435455, .int 1, .int 1]) (rest := []) ⟨hx, hb, hml, hown, hts⟩ (cX3_rideTrouble_9 l G k p5 v22 v23 v24 v25 v26 p27 v28 v29 v30 v31 v32 H.size) ⟨va_cnB 3 hts gX9_may_X3_rideTrouble_n213 rfl rfl rfl (nm_19 hX.2.2.1) h4w (by decide +kernel) ⟨Nat.le_of_ble_eq_true rfl, Nat.le_of_ble_eq_true rfl⟩, h5w, h6w⟩ (cz_preV hZ hS hX hP hD [3, 2] rfl rfl (ci := 2) (q0 := 3) rfl rfl) rfl rfl hl.1 rfl (lv_room (Nat.le_of_ble_eq_true rfl)) dX9_may_36 ⟨Nat.le_of_ble_eq_true rfl, Nat.le_of_ble_eq_true rfl⟩) hP hD hS hA [3, 2] [0, 1] rfl rfl (by decide) (by decide) (fun r u H locs hp hP hD hS => ?_)
  have hp : r = 6 := hp
  subst hp
  refine lv_if_ne (tgt := 48) hx hb dX9_may_39 (by decide) (fun _ => ?_) (fun q => absurd (q) (by decide +kernel))
  refine lv_iinc (v := 2) (lv' := [(3, .int 2), (2, .int 0), (0, .ref p0), (1, .int 1)]) hx hb dX9_may_48 hl (k := 0) rfl (by decide +kernel) (by decide) rfl (fun ls hl => ?_)
  refine lv_goto (tgt := 18) hx hb dX9_may_51 (by decide) ?_
  refine lv_iload_n hx hb dX9_may_18 rfl (lv_at hl 0 rfl) ?_
  refine lv_iconst (v := 2) hx hb dX9_may_19 (by decide +kernel) ?_
  refine lv_icmp_gt (tgt := 54) hx hb dX9_may_20 (by decide) (fun q => absurd (q) (by decide +kernel)) (fun _ => ?_)
  refine lv_aload_n hx hb dX9_may_23 rfl (lv_at hl 2 rfl) ?_
  refine va_get (D := G) (ci := 6) (v := .ref p5) (C := RX9) (T := TX9) (N := 11) (ref := RX9) hx hb hts h1w hown hX.1 hP 0 rfl rfl 4 (by decide) h3w (fun _ h9 => h9) rfl dX9_may_24 ?_
  refine lv_aload_n hx hb dX9_may_27 rfl (lv_at hl 2 rfl) ?_
  refine va_get (D := G) (ci := 6) (v := .ref p7) (C := RX9) (T := TX9) (N := 11) (ref := RX9) hx hb hts h1w hown hX.1 hP 0 rfl rfl 6 (by decide) h0w (fun _ h9 => h9) rfl dX9_may_28 ?_
  refine va_getN (D := G) (ci := 0) (v := .int 268435455) (C := RX1) (T := TX1) (N := 12) (ref := RX1) (host := RX9) hx hb hts h2w hown hX.1 hP 1 rfl rfl 0 (by decide) (nf_37 hX.2.2.1) (fun _ h9 => h9) rfl dX9_may_31 ?_
  refine lv_iload_n hx hb dX9_may_34 rfl (lv_at hl 3 rfl) ?_
  refine lv_iload_n hx hb dX9_may_35 rfl (lv_at hl 0 rfl) ?_
  refine cz_i (wr := [(p0, .inr (6, [v1, v2, v3, v4, .ref p5, v6, .ref p7, v8, v9, v10, v11])), (p7, .inr (0, [.int 268435455, .int 0, v12, v13, v14, v15, v16, v17, v18, v19, v20, v21]))]) (va_runVN (As := [.int 268435455, .int 1, .int 2]) (rest := []) ⟨hx, hb, hml, hown, hts⟩ (cX3_rideTrouble_10 l G k p5 v22 (.int 0) (.int 1) (.int 20) (.int 0) v23 v24 v25 v26 p27 v28 v29 v30 v31 v32 H.size) ⟨va_cnB 3 hts gX9_may_X3_rideTrouble_n213 rfl rfl rfl (nm_19 hX.2.2.1) h4w (by decide +kernel) ⟨Nat.le_of_ble_eq_true rfl, Nat.le_of_ble_eq_true rfl⟩, h5w, h6w⟩ (cz_preV hZ hS hX hP hD [3, 2] rfl rfl (ci := 2) (q0 := 3) rfl rfl) rfl rfl hl.1 rfl (lv_room (Nat.le_of_ble_eq_true rfl)) dX9_may_36 ⟨Nat.le_of_ble_eq_true rfl, Nat.le_of_ble_eq_true rfl⟩) hP hD hS hA [3, 2] [0, 1] rfl rfl (by decide) (by decide) (fun r u H locs hp hP hD hS => ?_)
  have hp : r = 0 := hp
  subst hp
  refine lv_if_ne (tgt := 48) hx hb dX9_may_39 (by decide) (fun q => absurd (by decide +kernel) (q)) (fun _ => ?_)
  refine lv_iload_n hx hb dX9_may_42 rfl (lv_at hl 1 rfl) ?_
  refine lv_iconst (v := 1) hx hb dX9_may_43 (by decide +kernel) ?_
  refine lv_iload_n hx hb dX9_may_44 rfl (lv_at hl 0 rfl) ?_
  refine lv_ishl hx hb dX9_may_45 ?_
  refine cz_ti (w := 4) (by decide +kernel) ?_
  refine lv_ior hx hb dX9_may_46 ?_
  refine cz_ti (w := 4) (by decide +kernel) ?_
  refine lv_istore_n (lv' := [(2, .int 4), (3, .int 2), (0, .ref p0), (1, .int 1)]) hx hb dX9_may_47 rfl hl (by decide) rfl (fun ls hl => ?_)
  refine lv_iinc (v := 3) (lv' := [(3, .int 3), (2, .int 4), (0, .ref p0), (1, .int 1)]) hx hb dX9_may_48 hl (k := 1) rfl (by decide +kernel) (by decide) rfl (fun ls hl => ?_)
  refine lv_goto (tgt := 18) hx hb dX9_may_51 (by decide) ?_
  refine lv_iload_n hx hb dX9_may_18 rfl (lv_at hl 0 rfl) ?_
  refine lv_iconst (v := 2) hx hb dX9_may_19 (by decide +kernel) ?_
  refine lv_icmp_gt (tgt := 54) hx hb dX9_may_20 (by decide) (fun _ => ?_) (fun q => absurd (by decide +kernel) (q))
  refine lv_iload_n hx hb dX9_may_54 rfl (lv_at hl 1 rfl) ?_
  have hP9 := hP.sub (ws' := [(p0, .inr (6, [v1, v2, v3, v4, .ref p5, v6, .ref p7, v8, v9, v10, v11])), (p7, .inr (0, [.int 268435455, .int 0, v12, v13, v14, v15, v16, v17, v18, v19, v20, v21])), (p5, .inr (2, [.int 1, v22, .int 99, .int 0, .int 1, .int 20, .int 0, .int 0, v23, v24, v25, v26, .ref p27, v28])), (p27, .inr (4, [v29, v30, v31, v32, .int 0]))]) [0, 1, 2, 3] rfl
  have hD9 := hD.sub (ws' := [(p0, .inr (6, [v1, v2, v3, v4, .ref p5, v6, .ref p7, v8, v9, v10, v11])), (p7, .inr (0, [.int 268435455, .int 0, v12, v13, v14, v15, v16, v17, v18, v19, v20, v21])), (p5, .inr (2, [.int 1, v22, .int 99, .int 0, .int 1, .int 20, .int 0, .int 0, v23, v24, v25, v26, .ref p27, v28])), (p27, .inr (4, [v29, v30, v31, v32, .int 0]))]) [0, 1, 2, 3] (by decide) rfl
  exact W.iret (v := 4) hx hb hr (fun t ht hW => ⟨⟨4, (), rfl, rfl, by rw [ht]; exact hP9, hD9⟩, hS.F ht⟩) hS.2.2 dX9_may_55

