set_option maxHeartbeats 4000000 in
set_option maxRecDepth 100000 in
theorem cX9_ride_6 (l : Launch) (G : va_G) (k : Nat → ClassId) (p0 : Nat) (i1 : Int32) (v2 : Value) (v3 : Value) (v4 : Value) (v5 : Value) (p6 : Nat) (v7 : Value) (p8 : Nat) (v9 : Value) (v10 : Value) (v11 : Value) (v12 : Value) (v13 : Value) (v14 : Value) (v15 : Value) (v16 : Value) (v17 : Value) (v18 : Value) (v19 : Value) (v20 : Value) (v21 : Value) (v22 : Value) (p23 : Nat) (v24 : Value) (v25 : Value) (v26 : Value) (v27 : Value) (v28 : Value) (v29 : Value) (v30 : Value) (v31 : Value) (v32 : Value) (v33 : Value) (v34 : Value) (v35 : Value) (v36 : Value) (sz : Nat) (hi1 : 2 < i1) : CMi l G k yX9_ride wsX9_ride ({ frames := 2, cells := 0, slots := 0, locals := 44 }) [.ref p0, .int 0, .int i1] sz [(p0, .inr (6, [v2, v3, v4, v5, .ref p6, v7, .ref p8, v9, v10, v11, v12])), (p8, .inr (0, [.int 268435455, v13, v14, v15, v16, v17, v18, v19, v20, v21, v22, .ref p23])), (p6, .inr (2, [.int 1, v24, v25, v26, v27, v28, v29, v30, v31, v32, v33, v34, v35, v36])), (p23, .inl (k 0, 3, .inl (fun _ => 0)))] (fun r (u : Unit) => r = 1) (fun (u : Unit) => [(p6, .inr (2, [.int 1, v24, v25, v26, v27, v28, v29, v30, v31, v32, v33, v34, v35, v36])), (p0, .inr (6, [v2, v3, v4, v5, .ref p6, v7, .ref p8, v9, v10, v11, v12])), (p8, .inr (0, [.int 268435455, v13, v14, v15, v16, v17, v18, v19, v20, v21, v22, .ref p23])), (p23, .inl (k 0, 3, .inl (upd (fun _ => 0) (1 : Int32).toNatClampNeg 1)))]) := by
  refine Met.ofW (cc := cX9_ride) (maxL := 5) (ret := (some .int)) (by decide) rfl ?_
  intro p e s m args below meth c s₁ B hml hv
  obtain ⟨rfl, hsz, hP, hX, hD0, hZ0⟩ := hv
  have hx := B.exec
  have hb := B.bytes
  have hr := B.returns
  have hts := atoms_spec (ws := wsX9_ride) B.pre
  have hown : s.vm.findClass RX9 = some m.cls := findClass_of_methodNamed B.named
  subst hsz
  have hD := hD0.self (sz := s.heap.size)
  have hZ := ZX.up hP hZ0
  generalize hAe : va_A [(p0, .inr (6, [v2, v3, v4, v5, .ref p6, v7, .ref p8, v9, v10, v11, v12])), (p8, .inr (0, [.int 268435455, v13, v14, v15, v16, v17, v18, v19, v20, v21, v22, .ref p23])), (p6, .inr (2, [.int 1, v24, v25, v26, v27, v28, v29, v30, v31, v32, v33, v34, v35, v36])), (p23, .inl (k 0, 3, .inl (fun _ => 0)))] s.heap.size = A at hD hZ ⊢
  have hA : ∀ q : Nat, s.heap.size ≤ q → A q := fun q h => by rw [← hAe]; exact Or.inr h
  have hS : va_S A s.heap s.heap [] := va_S.rf
  have hP : va_P G vwCl [(p0, .inr (6, [v2, v3, v4, v5, .ref p6, v7, .ref p8, v9, v10, v11, v12])), (p8, .inr (0, [.int 268435455, v13, v14, v15, v16, v17, v18, v19, v20, v21, v22, .ref p23])), (p6, .inr (2, [.int 1, v24, v25, v26, v27, v28, v29, v30, v31, v32, v33, v34, v35, v36])), (p23, .inl (k 0, 3, .inl (fun _ => 0)))] s.heap := hP
  have hl := lv_entry ([.ref p0, .int 0, .int i1]) (n := 5) (Nat.le_of_ble_eq_true rfl)
  rw [lg_entry_eq]
  generalize (lg_sl ([.ref p0, .int 0, .int i1]) ++ List.replicate (5 - (lg_sl ([.ref p0, .int 0, .int i1])).length) Slot.unset).toArray = ls at hl ⊢
  have hl : lv_has ls 5 [(0, .ref p0), (1, .int 0), (2, .int i1)] := hl
  have h0w := hts (.fieldLink RX9 23 "RopeTown" "plan" "LRopeTown$Plan;") (by decide +kernel)
  have h1w : ∀ w ∈ wsX90, w ∈ wsX9_ride := by decide +kernel
  have h2w := hts (.fieldLink RX9 42 "RopeTown" "book" "LRopeTown$Book;") (by decide +kernel)
  have h3w : ∀ w ∈ wsX10, w ∈ wsX9_ride := by decide +kernel
  have h4w := hts (.initialized RX3) (by decide +kernel)
  have h5w := hts (.instanceMethod yX3_rideTrouble) (by decide +kernel)
  have h6w := hts (.selects RX3 yX3_rideTrouble yX3_rideTrouble) (by decide +kernel)
  refine lv_aload_n hx hb dX9_ride_0 rfl (lv_at hl 0 rfl) ?_
  refine lv_aload_n hx hb dX9_ride_1 rfl (lv_at hl 0 rfl) ?_
  refine va_get (D := G) (ci := 6) (v := .ref p6) (C := RX9) (T := TX9) (N := 11) (ref := RX9) hx hb hts h1w hown hX.1 hP 0 rfl rfl 4 (by decide) h0w (fun _ h9 => h9) rfl dX9_ride_2 ?_
  refine lv_aload_n hx hb dX9_ride_5 rfl (lv_at hl 0 rfl) ?_
  refine va_get (D := G) (ci := 6) (v := .ref p8) (C := RX9) (T := TX9) (N := 11) (ref := RX9) hx hb hts h1w hown hX.1 hP 0 rfl rfl 6 (by decide) h2w (fun _ h9 => h9) rfl dX9_ride_6 ?_
  refine va_getN (D := G) (ci := 0) (v := .int 268435455) (C := RX1) (T := TX1) (N := 12) (ref := RX1) (host := RX9) hx hb hts h3w hown hX.1 hP 1 rfl rfl 0 (by decide) (nf_37 hX.2.2.1) (fun _ h9 => h9) rfl dX9_ride_9 ?_
  refine lv_iload_n hx hb dX9_ride_12 rfl (lv_at hl 1 rfl) ?_
  refine lv_iload_n hx hb dX9_ride_13 rfl (lv_at hl 2 rfl) ?_
  refine cz_i (wr := [(p0, .inr (6, [v2, v3, v4, v5, .ref p6, v7, .ref p8, v9, v10, v11, v12])), (p8, .inr (0, [.int 268435455, v13, v14, v15, v16, v17, v18, v19, v20, v21, v22, .ref p23])), (p23, .inl (k 0, 3, .inl (fun _ => 0)))]) (va_runVN (As := [.int 268435455, .int 0, .int i1]) (rest := [.ref p0]) ⟨hx, hb, hml, hown, hts⟩ (cX3_rideTrouble_6 l G k p6 i1 v24 v25 v26 v27 v28 v29 v30 v31 v32 v33 v34 v35 v36 s.heap.size hi1) ⟨va_cnB 3 hts gX9_ride_X3_rideTrouble_n213 rfl rfl rfl (nm_19 hX.2.2.1) h4w (by decide +kernel) ⟨Nat.le_of_ble_eq_true rfl, Nat.le_of_ble_eq_true rfl⟩, h5w, h6w⟩ (cz_preV hZ hS hX hP hD [2] rfl rfl (ci := 2) (q0 := 2) rfl rfl) rfl rfl hl.1 rfl (lv_room (Nat.le_of_ble_eq_true rfl)) dX9_ride_14 ⟨Nat.le_of_ble_eq_true rfl, Nat.le_of_ble_eq_true rfl⟩) hP hD hS hA [2] [0, 1, 3] rfl rfl (by decide) (by decide) (fun r u H locs hp hP hD hS => ?_)
  have hp : r = 1 := hp
  subst hp
  refine cz_i (wr := [(p6, .inr (2, [.int 1, v24, v25, v26, v27, v28, v29, v30, v31, v32, v33, v34, v35, v36]))]) (va_runV (As := [.int 1]) (rest := []) ⟨hx, hb, hml, hown, hts⟩ (cX9_judged_0 l G k p0 v2 v3 v4 v5 (.ref p6) v7 p8 v9 v10 v11 v12 (.int 268435455) v13 v14 v15 v16 v17 v18 v19 v20 v21 v22 p23 H.size) (cwV 1 hts gX9_ride_X9_judged rfl rfl rfl (by decide +kernel) ⟨Nat.le_of_ble_eq_true rfl, Nat.le_of_ble_eq_true rfl⟩) (cz_preV hZ hS hX hP hD [0, 1, 2] rfl rfl (ci := 6) (q0 := 0) rfl rfl) rfl rfl hl.1 rfl (lv_room (Nat.le_of_ble_eq_true rfl)) dX9_ride_17 ⟨Nat.le_of_ble_eq_true rfl, Nat.le_of_ble_eq_true rfl⟩) hP hD hS hA [0, 1, 2] [3] rfl rfl (by decide) (by decide) (fun r u H locs hp hP hD hS => ?_)
  have hp : r = 1 := hp
  subst hp
  refine lv_istore_n (lv' := [(3, .int 1), (0, .ref p0), (1, .int 0), (2, .int i1)]) hx hb dX9_ride_20 rfl hl (by decide) rfl (fun ls hl => ?_)
  refine lv_iload_n hx hb dX9_ride_21 rfl (lv_at hl 0 rfl) ?_
  refine lv_if_ne (tgt := 74) hx hb dX9_ride_22 (by decide) (fun _ => ?_) (fun q => absurd (q) (by decide +kernel))
  refine lv_iload_n hx hb dX9_ride_74 rfl (lv_at hl 0 rfl) ?_
  have hP9 := hP.sub (ws' := [(p6, .inr (2, [.int 1, v24, v25, v26, v27, v28, v29, v30, v31, v32, v33, v34, v35, v36])), (p0, .inr (6, [v2, v3, v4, v5, .ref p6, v7, .ref p8, v9, v10, v11, v12])), (p8, .inr (0, [.int 268435455, v13, v14, v15, v16, v17, v18, v19, v20, v21, v22, .ref p23])), (p23, .inl (k 0, 3, .inl (upd (fun _ => 0) (1 : Int32).toNatClampNeg 1)))]) [0, 1, 2, 3] rfl
  have hD9 := hD.sub (ws' := [(p6, .inr (2, [.int 1, v24, v25, v26, v27, v28, v29, v30, v31, v32, v33, v34, v35, v36])), (p0, .inr (6, [v2, v3, v4, v5, .ref p6, v7, .ref p8, v9, v10, v11, v12])), (p8, .inr (0, [.int 268435455, v13, v14, v15, v16, v17, v18, v19, v20, v21, v22, .ref p23])), (p23, .inl (k 0, 3, .inl (upd (fun _ => 0) (1 : Int32).toNatClampNeg 1)))]) [0, 1, 2, 3] (by decide) rfl
  exact W.iret (v := 1) hx hb hr (fun t ht hW => ⟨⟨1, (), rfl, rfl, by rw [ht]; exact hP9, hD9⟩, hS.F ht⟩) hS.2.2 dX9_ride_75

set_option maxHeartbeats 4000000 in
set_option maxRecDepth 100000 in
theorem cX3_hasDepth_3 (l : Launch) (G : va_G) (k : Nat → ClassId) (p0 : Nat) (v1 : Value) (v2 : Value) (v3 : Value) (v4 : Value) (v5 : Value) (v6 : Value) (v7 : Value) (v8 : Value) (v9 : Value) (v10 : Value) (v11 : Value) (v12 : Value) (v13 : Value) (sz : Nat) : CMi l G k yX3_hasDepth wsX3_hasDepth ({ frames := 0, cells := 0, slots := 0, locals := 0 }) [.ref p0, .int 1] sz [(p0, .inr (2, [.int 1, v1, v2, v3, v4, v5, v6, v7, v8, v9, v10, v11, v12, v13]))] (fun r (u : Unit) => r = 1) (fun (u : Unit) => [(p0, .inr (2, [.int 1, v1, v2, v3, v4, v5, v6, v7, v8, v9, v10, v11, v12, v13]))]) := by
  refine Met.ofW (cc := cX3_hasDepth) (maxL := 2) (ret := (some .boolean)) (by decide) rfl ?_
  intro p e s m args below meth c s₁ B hml hv
  obtain ⟨rfl, hsz, hP, hX, hD0, hZ0⟩ := hv
  have hx := B.exec
  have hb := B.bytes
  have hr := B.returns
  have hts := atoms_spec (ws := wsX3_hasDepth) B.pre
  have hown : s.vm.findClass RX3 = some m.cls := findClass_of_methodNamed B.named
  subst hsz
  have hD := hD0.self (sz := s.heap.size)
  have hZ := ZX.up hP hZ0
  generalize hAe : va_A [(p0, .inr (2, [.int 1, v1, v2, v3, v4, v5, v6, v7, v8, v9, v10, v11, v12, v13]))] s.heap.size = A at hD hZ ⊢
  have hA : ∀ q : Nat, s.heap.size ≤ q → A q := fun q h => by rw [← hAe]; exact Or.inr h
  have hS : va_S A s.heap s.heap [] := va_S.rf
  have hP : va_P G vwCl [(p0, .inr (2, [.int 1, v1, v2, v3, v4, v5, v6, v7, v8, v9, v10, v11, v12, v13]))] s.heap := hP
  have hl := lv_entry ([.ref p0, .int 1]) (n := 2) (Nat.le_of_ble_eq_true rfl)
  rw [lg_entry_eq]
  generalize (lg_sl ([.ref p0, .int 1]) ++ List.replicate (2 - (lg_sl ([.ref p0, .int 1])).length) Slot.unset).toArray = ls at hl ⊢
  have hl : lv_has ls 2 [(0, .ref p0), (1, .int 1)] := hl
  have h0w := hts (.fieldLink RX3 37 "RopeTown$Plan" "bottom" "I") (by decide +kernel)
  have h1w : ∀ w ∈ wsX30, w ∈ wsX3_hasDepth := by decide +kernel
  refine lv_iload_n hx hb dX3_hasDepth_0 rfl (lv_at hl 1 rfl) ?_
  refine lv_if_lt (tgt := 16) hx hb dX3_hasDepth_1 (by decide) (fun q => absurd (q) (by decide +kernel)) (fun _ => ?_)
  refine lv_iload_n hx hb dX3_hasDepth_4 rfl (lv_at hl 1 rfl) ?_
  refine lv_aload_n hx hb dX3_hasDepth_5 rfl (lv_at hl 0 rfl) ?_
  refine va_get (D := G) (ci := 2) (v := .int 1) (C := RX3) (T := TX3) (N := 14) (ref := RX3) hx hb hts h1w hown hX.1 hP 0 rfl rfl 0 (by decide) h0w (fun _ h9 => h9) rfl dX3_hasDepth_6 ?_
  refine lv_icmp_gt (tgt := 16) hx hb dX3_hasDepth_9 (by decide) (fun q => absurd (q) (by decide +kernel)) (fun _ => ?_)
  refine lv_iconst (v := 1) hx hb dX3_hasDepth_12 (by decide +kernel) ?_
  refine lv_goto (tgt := 17) hx hb dX3_hasDepth_13 (by decide) ?_
  have hP9 := hP.sub (ws' := [(p0, .inr (2, [.int 1, v1, v2, v3, v4, v5, v6, v7, v8, v9, v10, v11, v12, v13]))]) [0] rfl
  have hD9 := hD.sub (ws' := [(p0, .inr (2, [.int 1, v1, v2, v3, v4, v5, v6, v7, v8, v9, v10, v11, v12, v13]))]) [0] (by decide) rfl
  exact W.zret (v := 1) hx hb hr (by decide +kernel) (fun t ht hW => ⟨⟨1, (), rfl, rfl, by rw [ht]; exact hP9, hD9⟩, hS.F ht⟩) hS.2.2 dX3_hasDepth_17

set_option maxHeartbeats 4000000 in
set_option maxRecDepth 100000 in
theorem cX3_rideTrouble_7 (l : Launch) (G : va_G) (k : Nat → ClassId) (p0 : Nat) (i1 : Int32) (v2 : Value) (v3 : Value) (v4 : Value) (v5 : Value) (v6 : Value) (v7 : Value) (v8 : Value) (v9 : Value) (v10 : Value) (v11 : Value) (v12 : Value) (v13 : Value) (v14 : Value) (sz : Nat) (hi1 : i1 < 0) : CMi l G k yX3_rideTrouble wsX3_rideTrouble ({ frames := 1, cells := 0, slots := 0, locals := 21 }) [.ref p0, .int 268435455, .int 1, .int i1] sz [(p0, .inr (2, [.int 1, v2, v3, v4, v5, v6, v7, v8, v9, v10, v11, v12, v13, v14]))] (fun r (u : Unit) => r = 1) (fun (u : Unit) => [(p0, .inr (2, [.int 1, v2, v3, v4, v5, v6, v7, v8, v9, v10, v11, v12, v13, v14]))]) := by
  refine Met.ofW (cc := cX3_rideTrouble) (maxL := 4) (ret := (some .int)) (by decide) rfl ?_
  intro p e s m args below meth c s₁ B hml hv
  obtain ⟨rfl, hsz, hP, hX, hD0, hZ0⟩ := hv
  have hx := B.exec
  have hb := B.bytes
  have hr := B.returns
  have hts := atoms_spec (ws := wsX3_rideTrouble) B.pre
  have hown : s.vm.findClass RX3 = some m.cls := findClass_of_methodNamed B.named
  subst hsz
  have hD := hD0.self (sz := s.heap.size)
  have hZ := ZX.up hP hZ0
  generalize hAe : va_A [(p0, .inr (2, [.int 1, v2, v3, v4, v5, v6, v7, v8, v9, v10, v11, v12, v13, v14]))] s.heap.size = A at hD hZ ⊢
  have hA : ∀ q : Nat, s.heap.size ≤ q → A q := fun q h => by rw [← hAe]; exact Or.inr h
  have hS : va_S A s.heap s.heap [] := va_S.rf
  have hP : va_P G vwCl [(p0, .inr (2, [.int 1, v2, v3, v4, v5, v6, v7, v8, v9, v10, v11, v12, v13, v14]))] s.heap := hP
  have hl := lv_entry ([.ref p0, .int 268435455, .int 1, .int i1]) (n := 4) (Nat.le_of_ble_eq_true rfl)
  rw [lg_entry_eq]
  generalize (lg_sl ([.ref p0, .int 268435455, .int 1, .int i1]) ++ List.replicate (4 - (lg_sl ([.ref p0, .int 268435455, .int 1, .int i1])).length) Slot.unset).toArray = ls at hl ⊢
  have hl : lv_has ls 4 [(0, .ref p0), (1, .int 268435455), (2, .int 1), (3, .int i1)] := hl
  refine lv_aload_n hx hb dX3_rideTrouble_0 rfl (lv_at hl 0 rfl) ?_
  refine lv_iload_n hx hb dX3_rideTrouble_1 rfl (lv_at hl 2 rfl) ?_
  refine cz_i (wr := []) (va_runV (As := [.int 1]) (rest := []) ⟨hx, hb, hml, hown, hts⟩ (cX3_hasDepth_3 l G k p0 v2 v3 v4 v5 v6 v7 v8 v9 v10 v11 v12 v13 v14 s.heap.size) (cwV 1 hts gX3_rideTrouble_X3_hasDepth rfl rfl rfl (by decide +kernel) ⟨Nat.le_of_ble_eq_true rfl, Nat.le_of_ble_eq_true rfl⟩) (cz_preV hZ hS hX hP hD [0] rfl rfl (ci := 2) (q0 := 0) rfl rfl) rfl rfl hl.1 rfl (lv_room (Nat.le_of_ble_eq_true rfl)) dX3_rideTrouble_2 ⟨Nat.le_of_ble_eq_true rfl, Nat.le_of_ble_eq_true rfl⟩) hP hD hS hA [0] [] rfl rfl (by decide) (by decide) (fun r u H locs hp hP hD hS => ?_)
  have hp : r = 1 := hp
  subst hp
  refine lv_if_eq (tgt := 17) hx hb dX3_rideTrouble_5 (by decide) (fun q => absurd (q) (by decide +kernel)) (fun _ => ?_)
  refine lv_iload_n hx hb dX3_rideTrouble_8 rfl (lv_at hl 3 rfl) ?_
  refine lv_if_lt (tgt := 17) hx hb dX3_rideTrouble_9 (by decide) (fun _ => ?_) (fun q_1 => absurd (zl_lt hi1 (by decide)) q_1)
  refine lv_iconst (v := 1) hx hb dX3_rideTrouble_17 (by decide +kernel) ?_
  have hP9 := hP.sub (ws' := [(p0, .inr (2, [.int 1, v2, v3, v4, v5, v6, v7, v8, v9, v10, v11, v12, v13, v14]))]) [0] rfl
  have hD9 := hD.sub (ws' := [(p0, .inr (2, [.int 1, v2, v3, v4, v5, v6, v7, v8, v9, v10, v11, v12, v13, v14]))]) [0] (by decide) rfl
  exact W.iret (v := 1) hx hb hr (fun t ht hW => ⟨⟨1, (), rfl, rfl, by rw [ht]; exact hP9, hD9⟩, hS.F ht⟩) hS.2.2 dX3_rideTrouble_18

set_option maxHeartbeats 4000000 in
set_option maxRecDepth 100000 in
theorem cX9_ride_7 (l : Launch) (G : va_G) (k : Nat → ClassId) (p0 : Nat) (i1 : Int32) (v2 : Value) (v3 : Value) (v4 : Value) (v5 : Value) (p6 : Nat) (v7 : Value) (p8 : Nat) (v9 : Value) (v10 : Value) (v11 : Value) (v12 : Value) (v13 : Value) (v14 : Value) (v15 : Value) (v16 : Value) (v17 : Value) (v18 : Value) (v19 : Value) (v20 : Value) (v21 : Value) (v22 : Value) (p23 : Nat) (v24 : Value) (v25 : Value) (v26 : Value) (v27 : Value) (v28 : Value) (v29 : Value) (v30 : Value) (v31 : Value) (v32 : Value) (v33 : Value) (v34 : Value) (v35 : Value) (v36 : Value) (sz : Nat) (hi1 : i1 < 0) : CMi l G k yX9_ride wsX9_ride ({ frames := 2, cells := 0, slots := 0, locals := 44 }) [.ref p0, .int 1, .int i1] sz [(p0, .inr (6, [v2, v3, v4, v5, .ref p6, v7, .ref p8, v9, v10, v11, v12])), (p8, .inr (0, [.int 268435455, v13, v14, v15, v16, v17, v18, v19, v20, v21, v22, .ref p23])), (p6, .inr (2, [.int 1, v24, v25, v26, v27, v28, v29, v30, v31, v32, v33, v34, v35, v36])), (p23, .inl (k 0, 3, .inl (fun _ => 0)))] (fun r (u : Unit) => r = 1) (fun (u : Unit) => [(p6, .inr (2, [.int 1, v24, v25, v26, v27, v28, v29, v30, v31, v32, v33, v34, v35, v36])), (p0, .inr (6, [v2, v3, v4, v5, .ref p6, v7, .ref p8, v9, v10, v11, v12])), (p8, .inr (0, [.int 268435455, v13, v14, v15, v16, v17, v18, v19, v20, v21, v22, .ref p23])), (p23, .inl (k 0, 3, .inl (upd (fun _ => 0) (1 : Int32).toNatClampNeg 1)))]) := by
  refine Met.ofW (cc := cX9_ride) (maxL := 5) (ret := (some .int)) (by decide) rfl ?_
  intro p e s m args below meth c s₁ B hml hv
  obtain ⟨rfl, hsz, hP, hX, hD0, hZ0⟩ := hv
  have hx := B.exec
  have hb := B.bytes
  have hr := B.returns
  have hts := atoms_spec (ws := wsX9_ride) B.pre
  have hown : s.vm.findClass RX9 = some m.cls := findClass_of_methodNamed B.named
  subst hsz
  have hD := hD0.self (sz := s.heap.size)
  have hZ := ZX.up hP hZ0
  generalize hAe : va_A [(p0, .inr (6, [v2, v3, v4, v5, .ref p6, v7, .ref p8, v9, v10, v11, v12])), (p8, .inr (0, [.int 268435455, v13, v14, v15, v16, v17, v18, v19, v20, v21, v22, .ref p23])), (p6, .inr (2, [.int 1, v24, v25, v26, v27, v28, v29, v30, v31, v32, v33, v34, v35, v36])), (p23, .inl (k 0, 3, .inl (fun _ => 0)))] s.heap.size = A at hD hZ ⊢
  have hA : ∀ q : Nat, s.heap.size ≤ q → A q := fun q h => by rw [← hAe]; exact Or.inr h
  have hS : va_S A s.heap s.heap [] := va_S.rf
  have hP : va_P G vwCl [(p0, .inr (6, [v2, v3, v4, v5, .ref p6, v7, .ref p8, v9, v10, v11, v12])), (p8, .inr (0, [.int 268435455, v13, v14, v15, v16, v17, v18, v19, v20, v21, v22, .ref p23])), (p6, .inr (2, [.int 1, v24, v25, v26, v27, v28, v29, v30, v31, v32, v33, v34, v35, v36])), (p23, .inl (k 0, 3, .inl (fun _ => 0)))] s.heap := hP
  have hl := lv_entry ([.ref p0, .int 1, .int i1]) (n := 5) (Nat.le_of_ble_eq_true rfl)
  rw [lg_entry_eq]
  generalize (lg_sl ([.ref p0, .int 1, .int i1]) ++ List.replicate (5 - (lg_sl ([.ref p0, .int 1, .int i1])).length) Slot.unset).toArray = ls at hl ⊢
  have hl : lv_has ls 5 [(0, .ref p0), (1, .int 1), (2, .int i1)] := hl
  have h0w := hts (.fieldLink RX9 23 "RopeTown" "plan" "LRopeTown$Plan;") (by decide +kernel)
  have h1w : ∀ w ∈ wsX90, w ∈ wsX9_ride := by decide +kernel
  have h2w := hts (.fieldLink RX9 42 "RopeTown" "book" "LRopeTown$Book;") (by decide +kernel)
  have h3w : ∀ w ∈ wsX10, w ∈ wsX9_ride := by decide +kernel
  have h4w := hts (.initialized RX3) (by decide +kernel)
  have h5w := hts (.instanceMethod yX3_rideTrouble) (by decide +kernel)
  have h6w := hts (.selects RX3 yX3_rideTrouble yX3_rideTrouble) (by decide +kernel)
  refine lv_aload_n hx hb dX9_ride_0 rfl (lv_at hl 0 rfl) ?_
  refine lv_aload_n hx hb dX9_ride_1 rfl (lv_at hl 0 rfl) ?_
  refine va_get (D := G) (ci := 6) (v := .ref p6) (C := RX9) (T := TX9) (N := 11) (ref := RX9) hx hb hts h1w hown hX.1 hP 0 rfl rfl 4 (by decide) h0w (fun _ h9 => h9) rfl dX9_ride_2 ?_
  refine lv_aload_n hx hb dX9_ride_5 rfl (lv_at hl 0 rfl) ?_
  refine va_get (D := G) (ci := 6) (v := .ref p8) (C := RX9) (T := TX9) (N := 11) (ref := RX9) hx hb hts h1w hown hX.1 hP 0 rfl rfl 6 (by decide) h2w (fun _ h9 => h9) rfl dX9_ride_6 ?_
  refine va_getN (D := G) (ci := 0) (v := .int 268435455) (C := RX1) (T := TX1) (N := 12) (ref := RX1) (host := RX9) hx hb hts h3w hown hX.1 hP 1 rfl rfl 0 (by decide) (nf_37 hX.2.2.1) (fun _ h9 => h9) rfl dX9_ride_9 ?_
  refine lv_iload_n hx hb dX9_ride_12 rfl (lv_at hl 1 rfl) ?_
  refine lv_iload_n hx hb dX9_ride_13 rfl (lv_at hl 2 rfl) ?_
  refine cz_i (wr := [(p0, .inr (6, [v2, v3, v4, v5, .ref p6, v7, .ref p8, v9, v10, v11, v12])), (p8, .inr (0, [.int 268435455, v13, v14, v15, v16, v17, v18, v19, v20, v21, v22, .ref p23])), (p23, .inl (k 0, 3, .inl (fun _ => 0)))]) (va_runVN (As := [.int 268435455, .int 1, .int i1]) (rest := [.ref p0]) ⟨hx, hb, hml, hown, hts⟩ (cX3_rideTrouble_7 l G k p6 i1 v24 v25 v26 v27 v28 v29 v30 v31 v32 v33 v34 v35 v36 s.heap.size hi1) ⟨va_cnB 3 hts gX9_ride_X3_rideTrouble_n213 rfl rfl rfl (nm_19 hX.2.2.1) h4w (by decide +kernel) ⟨Nat.le_of_ble_eq_true rfl, Nat.le_of_ble_eq_true rfl⟩, h5w, h6w⟩ (cz_preV hZ hS hX hP hD [2] rfl rfl (ci := 2) (q0 := 2) rfl rfl) rfl rfl hl.1 rfl (lv_room (Nat.le_of_ble_eq_true rfl)) dX9_ride_14 ⟨Nat.le_of_ble_eq_true rfl, Nat.le_of_ble_eq_true rfl⟩) hP hD hS hA [2] [0, 1, 3] rfl rfl (by decide) (by decide) (fun r u H locs hp hP hD hS => ?_)
  have hp : r = 1 := hp
  subst hp
  refine cz_i (wr := [(p6, .inr (2, [.int 1, v24, v25, v26, v27, v28, v29, v30, v31, v32, v33, v34, v35, v36]))]) (va_runV (As := [.int 1]) (rest := []) ⟨hx, hb, hml, hown, hts⟩ (cX9_judged_0 l G k p0 v2 v3 v4 v5 (.ref p6) v7 p8 v9 v10 v11 v12 (.int 268435455) v13 v14 v15 v16 v17 v18 v19 v20 v21 v22 p23 H.size) (cwV 1 hts gX9_ride_X9_judged rfl rfl rfl (by decide +kernel) ⟨Nat.le_of_ble_eq_true rfl, Nat.le_of_ble_eq_true rfl⟩) (cz_preV hZ hS hX hP hD [0, 1, 2] rfl rfl (ci := 6) (q0 := 0) rfl rfl) rfl rfl hl.1 rfl (lv_room (Nat.le_of_ble_eq_true rfl)) dX9_ride_17 ⟨Nat.le_of_ble_eq_true rfl, Nat.le_of_ble_eq_true rfl⟩) hP hD hS hA [0, 1, 2] [3] rfl rfl (by decide) (by decide) (fun r u H locs hp hP hD hS => ?_)
  have hp : r = 1 := hp
  subst hp
  refine lv_istore_n (lv' := [(3, .int 1), (0, .ref p0), (1, .int 1), (2, .int i1)]) hx hb dX9_ride_20 rfl hl (by decide) rfl (fun ls hl => ?_)
  refine lv_iload_n hx hb dX9_ride_21 rfl (lv_at hl 0 rfl) ?_
  refine lv_if_ne (tgt := 74) hx hb dX9_ride_22 (by decide) (fun _ => ?_) (fun q => absurd (q) (by decide +kernel))
  refine lv_iload_n hx hb dX9_ride_74 rfl (lv_at hl 0 rfl) ?_
  have hP9 := hP.sub (ws' := [(p6, .inr (2, [.int 1, v24, v25, v26, v27, v28, v29, v30, v31, v32, v33, v34, v35, v36])), (p0, .inr (6, [v2, v3, v4, v5, .ref p6, v7, .ref p8, v9, v10, v11, v12])), (p8, .inr (0, [.int 268435455, v13, v14, v15, v16, v17, v18, v19, v20, v21, v22, .ref p23])), (p23, .inl (k 0, 3, .inl (upd (fun _ => 0) (1 : Int32).toNatClampNeg 1)))]) [0, 1, 2, 3] rfl
  have hD9 := hD.sub (ws' := [(p6, .inr (2, [.int 1, v24, v25, v26, v27, v28, v29, v30, v31, v32, v33, v34, v35, v36])), (p0, .inr (6, [v2, v3, v4, v5, .ref p6, v7, .ref p8, v9, v10, v11, v12])), (p8, .inr (0, [.int 268435455, v13, v14, v15, v16, v17, v18, v19, v20, v21, v22, .ref p23])), (p23, .inl (k 0, 3, .inl (upd (fun _ => 0) (1 : Int32).toNatClampNeg 1)))]) [0, 1, 2, 3] (by decide) rfl
  exact W.iret (v := 1) hx hb hr (fun t ht hW => ⟨⟨1, (), rfl, rfl, by rw [ht]; exact hP9, hD9⟩, hS.F ht⟩) hS.2.2 dX9_ride_75

set_option maxHeartbeats 4000000 in
set_option maxRecDepth 100000 in
theorem cX3_excess_0 (l : Launch) (G : va_G) (k : Nat → ClassId) (p0 : Nat) (v1 : Value) (v2 : Value) (v3 : Value) (v4 : Value) (v5 : Value) (v6 : Value) (v7 : Value) (v8 : Value) (v9 : Value) (v10 : Value) (v11 : Value) (v12 : Value) (sz : Nat) : CMi l G k yX3_excess wsX3_excess ({ frames := 0, cells := 0, slots := 0, locals := 0 }) [.ref p0, .int 0, .int 0, .int 1] sz [(p0, .inr (2, [.int 1, v1, v2, .int 0, v3, v4, v5, v6, v7, v8, v9, v10, v11, v12]))] (fun r (u : Unit) => r = 0) (fun (u : Unit) => [(p0, .inr (2, [.int 1, v1, v2, .int 0, v3, v4, v5, v6, v7, v8, v9, v10, v11, v12]))]) := by
  refine Met.ofW (cc := cX3_excess) (maxL := 4) (ret := (some .int)) (by decide) rfl ?_
  intro p e s m args below meth c s₁ B hml hv
  obtain ⟨rfl, hsz, hP, hX, hD0, hZ0⟩ := hv
  have hx := B.exec
  have hb := B.bytes
  have hr := B.returns
  have hts := atoms_spec (ws := wsX3_excess) B.pre
  have hown : s.vm.findClass RX3 = some m.cls := findClass_of_methodNamed B.named
  subst hsz
  have hD := hD0.self (sz := s.heap.size)
  have hZ := ZX.up hP hZ0
  generalize hAe : va_A [(p0, .inr (2, [.int 1, v1, v2, .int 0, v3, v4, v5, v6, v7, v8, v9, v10, v11, v12]))] s.heap.size = A at hD hZ ⊢
  have hA : ∀ q : Nat, s.heap.size ≤ q → A q := fun q h => by rw [← hAe]; exact Or.inr h
  have hS : va_S A s.heap s.heap [] := va_S.rf
  have hP : va_P G vwCl [(p0, .inr (2, [.int 1, v1, v2, .int 0, v3, v4, v5, v6, v7, v8, v9, v10, v11, v12]))] s.heap := hP
  have hl := lv_entry ([.ref p0, .int 0, .int 0, .int 1]) (n := 4) (Nat.le_of_ble_eq_true rfl)
  rw [lg_entry_eq]
  generalize (lg_sl ([.ref p0, .int 0, .int 0, .int 1]) ++ List.replicate (4 - (lg_sl ([.ref p0, .int 0, .int 0, .int 1])).length) Slot.unset).toArray = ls at hl ⊢
  have hl : lv_has ls 4 [(0, .ref p0), (1, .int 0), (2, .int 0), (3, .int 1)] := hl
  have h0w := hts (.fieldLink RX3 47 "RopeTown$Plan" "rope" "I") (by decide +kernel)
  have h1w : ∀ w ∈ wsX30, w ∈ wsX3_excess := by decide +kernel
  have h2w := hts (.fieldLink RX3 37 "RopeTown$Plan" "bottom" "I") (by decide +kernel)
  refine lv_iload_n hx hb dX3_excess_0 rfl (lv_at hl 3 rfl) ?_
  refine lv_iload_n hx hb dX3_excess_1 rfl (lv_at hl 1 rfl) ?_
  refine lv_aload_n hx hb dX3_excess_2 rfl (lv_at hl 0 rfl) ?_
  refine va_get (D := G) (ci := 2) (v := .int 0) (C := RX3) (T := TX3) (N := 14) (ref := RX3) hx hb hts h1w hown hX.1 hP 0 rfl rfl 3 (by decide) h0w (fun _ h9 => h9) rfl dX3_excess_3 ?_
  refine lv_iconst (v := 2) hx hb dX3_excess_6 (by decide +kernel) ?_
  refine lv_iload_n hx hb dX3_excess_7 rfl (lv_at hl 2 rfl) ?_
  refine lv_imul hx hb dX3_excess_8 ?_
  refine cz_ti (w := 0) (by decide +kernel) ?_
  refine lv_aload_n hx hb dX3_excess_9 rfl (lv_at hl 0 rfl) ?_
  refine va_get (D := G) (ci := 2) (v := .int 1) (C := RX3) (T := TX3) (N := 14) (ref := RX3) hx hb hts h1w hown hX.1 hP 0 rfl rfl 0 (by decide) h2w (fun _ h9 => h9) rfl dX3_excess_10 ?_
  refine lv_isub hx hb dX3_excess_13 ?_
  refine cz_ti (w := (-1)) (by decide +kernel) ?_
  refine lv_imul hx hb dX3_excess_14 ?_
  refine cz_ti (w := 0) (by decide +kernel) ?_
  refine lv_iadd hx hb dX3_excess_15 ?_
  refine cz_ti (w := 0) (by decide +kernel) ?_
  refine lv_imul hx hb dX3_excess_16 ?_
  refine cz_ti (w := 0) (by decide +kernel) ?_
  have hP9 := hP.sub (ws' := [(p0, .inr (2, [.int 1, v1, v2, .int 0, v3, v4, v5, v6, v7, v8, v9, v10, v11, v12]))]) [0] rfl
  have hD9 := hD.sub (ws' := [(p0, .inr (2, [.int 1, v1, v2, .int 0, v3, v4, v5, v6, v7, v8, v9, v10, v11, v12]))]) [0] (by decide) rfl
  exact W.iret (v := 0) hx hb hr (fun t ht hW => ⟨⟨0, (), rfl, rfl, by rw [ht]; exact hP9, hD9⟩, hS.F ht⟩) hS.2.2 dX3_excess_17

set_option maxHeartbeats 4000000 in
set_option maxRecDepth 100000 in
theorem cX3_excessTrouble_0 (l : Launch) (G : va_G) (k : Nat → ClassId) (p0 : Nat) (v1 : Value) (v2 : Value) (v3 : Value) (v4 : Value) (v5 : Value) (v6 : Value) (v7 : Value) (v8 : Value) (v9 : Value) (v10 : Value) (sz : Nat) : CMi l G k yX3_excessTrouble wsX3_excessTrouble ({ frames := 1, cells := 0, slots := 0, locals := 24 }) [.ref p0, .int 268435455, .int 1, .int 20] sz [(p0, .inr (2, [.int 1, v1, v2, .int 0, .int 1, v3, v4, .int 0, v5, v6, v7, v8, v9, v10]))] (fun r (u : Unit) => r = 6) (fun (u : Unit) => [(p0, .inr (2, [.int 1, v1, v2, .int 0, .int 1, v3, v4, .int 0, v5, v6, v7, v8, v9, v10]))]) := by
  refine Met.ofW (cc := cX3_excessTrouble) (maxL := 9) (ret := (some .int)) (by decide) rfl ?_
  intro p e s m args below meth c s₁ B hml hv
  obtain ⟨rfl, hsz, hP, hX, hD0, hZ0⟩ := hv
  have hx := B.exec
  have hb := B.bytes
  have hr := B.returns
  have hts := atoms_spec (ws := wsX3_excessTrouble) B.pre
  have hown : s.vm.findClass RX3 = some m.cls := findClass_of_methodNamed B.named
  subst hsz
  have hD := hD0.self (sz := s.heap.size)
  have hZ := ZX.up hP hZ0
  generalize hAe : va_A [(p0, .inr (2, [.int 1, v1, v2, .int 0, .int 1, v3, v4, .int 0, v5, v6, v7, v8, v9, v10]))] s.heap.size = A at hD hZ ⊢
  have hA : ∀ q : Nat, s.heap.size ≤ q → A q := fun q h => by rw [← hAe]; exact Or.inr h
  have hS : va_S A s.heap s.heap [] := va_S.rf
  have hP : va_P G vwCl [(p0, .inr (2, [.int 1, v1, v2, .int 0, .int 1, v3, v4, .int 0, v5, v6, v7, v8, v9, v10]))] s.heap := hP
  have hl := lv_entry ([.ref p0, .int 268435455, .int 1, .int 20]) (n := 9) (Nat.le_of_ble_eq_true rfl)
  rw [lg_entry_eq]
  generalize (lg_sl ([.ref p0, .int 268435455, .int 1, .int 20]) ++ List.replicate (9 - (lg_sl ([.ref p0, .int 268435455, .int 1, .int 20])).length) Slot.unset).toArray = ls at hl ⊢
  have hl : lv_has ls 9 [(0, .ref p0), (1, .int 268435455), (2, .int 1), (3, .int 20)] := hl
  have h0w := hts (.initialized RX7) (by decide +kernel)
  have h1w := hts (.static yX7_depth) (by decide +kernel)
  have h2w := hts (.fieldLink RX3 50 "RopeTown$Plan" "needs" "I") (by decide +kernel)
  have h3w : ∀ w ∈ wsX30, w ∈ wsX3_excessTrouble := by decide +kernel
  refine lv_aload_n hx hb dX3_excessTrouble_0 rfl (lv_at hl 0 rfl) ?_
  refine lv_iload_n hx hb dX3_excessTrouble_1 rfl (lv_at hl 1 rfl) ?_
  refine lv_iconst (v := 0) hx hb dX3_excessTrouble_2 (by decide +kernel) ?_
  refine cz_i (wr := []) (va_runV (As := [.int 268435455, .int 0]) (rest := []) ⟨hx, hb, hml, hown, hts⟩ (cX3_weightIn_0 l G k p0 (.int 1) v1 v2 (.int 0) (.int 1) v3 v4 v5 v6 v7 v8 v9 v10 s.heap.size) (cwV 2 hts gX3_excessTrouble_X3_weightIn rfl rfl rfl (by decide +kernel) ⟨Nat.le_of_ble_eq_true rfl, Nat.le_of_ble_eq_true rfl⟩) (cz_preV hZ hS hX hP hD [0] rfl rfl (ci := 2) (q0 := 0) rfl rfl) rfl rfl hl.1 rfl (lv_room (Nat.le_of_ble_eq_true rfl)) dX3_excessTrouble_3 ⟨Nat.le_of_ble_eq_true rfl, Nat.le_of_ble_eq_true rfl⟩) hP hD hS hA [0] [] rfl rfl (by decide) (by decide) (fun r u H locs hp hP hD hS => ?_)
  have hp : r = 0 := hp
  subst hp
  refine lv_aload_n hx hb dX3_excessTrouble_6 rfl (lv_at hl 0 rfl) ?_
  refine lv_iload_n hx hb dX3_excessTrouble_7 rfl (lv_at hl 1 rfl) ?_
  refine lv_iconst (v := 1) hx hb dX3_excessTrouble_8 (by decide +kernel) ?_
  refine cz_i (wr := []) (va_runV (As := [.int 268435455, .int 1]) (rest := [.int 0]) ⟨hx, hb, hml, hown, hts⟩ (cX3_weightIn_1 l G k p0 (.int 1) v1 v2 (.int 0) (.int 1) v3 v4 v5 v6 v7 v8 v9 v10 H.size) (cwV 2 hts gX3_excessTrouble_X3_weightIn rfl rfl rfl (by decide +kernel) ⟨Nat.le_of_ble_eq_true rfl, Nat.le_of_ble_eq_true rfl⟩) (cz_preV hZ hS hX hP hD [0] rfl rfl (ci := 2) (q0 := 0) rfl rfl) rfl rfl hl.1 rfl (lv_room (Nat.le_of_ble_eq_true rfl)) dX3_excessTrouble_9 ⟨Nat.le_of_ble_eq_true rfl, Nat.le_of_ble_eq_true rfl⟩) hP hD hS hA [0] [] rfl rfl (by decide) (by decide) (fun r u H locs hp hP hD hS => ?_)
  have hp : r = 0 := hp
  subst hp
  refine lv_isub hx hb dX3_excessTrouble_12 ?_
  refine cz_ti (w := 0) (by decide +kernel) ?_
  refine lv_istore (lv' := [(4, .int 0), (0, .ref p0), (1, .int 268435455), (2, .int 1), (3, .int 20)]) hx hb dX3_excessTrouble_13 hl (by decide) rfl (fun ls hl => ?_)
  refine lv_iload_n hx hb dX3_excessTrouble_15 rfl (lv_at hl 3 rfl) ?_
  refine lv_iload_n hx hb dX3_excessTrouble_16 rfl (lv_at hl 2 rfl) ?_
  refine cz_i (wr := [(p0, .inr (2, [.int 1, v1, v2, .int 0, .int 1, v3, v4, .int 0, v5, v6, v7, v8, v9, v10]))]) (va_runSN (As := [.int 268435455]) (rest := [.int 1]) ⟨hx, hb, hml, hown, hts⟩ (cX7_depth_0 l G k H.size) ⟨va_cnB 1 hts gX3_excessTrouble_X7_depth_n74 rfl rfl rfl (nm_13 hX.2.2.1) h0w (by decide +kernel) ⟨Nat.le_of_ble_eq_true rfl, Nat.le_of_ble_eq_true rfl⟩, h1w, trivial⟩ (cz_preS hZ hS hX hP hD [] rfl rfl) rfl rfl hl.1 rfl (lv_room (Nat.le_of_ble_eq_true rfl)) dX3_excessTrouble_17 ⟨Nat.le_of_ble_eq_true rfl, Nat.le_of_ble_eq_true rfl⟩) hP hD hS hA [] [0] rfl rfl (by decide) (by decide) (fun r u H locs hp hP hD hS => ?_)
  have hp : r = 0 := hp
  subst hp
  refine lv_icmp_le (tgt := 27) hx hb dX3_excessTrouble_20 (by decide) (fun q => absurd (q) (by decide +kernel)) (fun _ => ?_)
  refine lv_iconst (v := 1) hx hb dX3_excessTrouble_23 (by decide +kernel) ?_
  refine lv_goto (tgt := 28) hx hb dX3_excessTrouble_24 (by decide) ?_
  refine lv_istore (lv' := [(5, .int 1), (4, .int 0), (0, .ref p0), (1, .int 268435455), (2, .int 1), (3, .int 20)]) hx hb dX3_excessTrouble_28 hl (by decide) rfl (fun ls hl => ?_)
  refine lv_iconst (v := 0) hx hb dX3_excessTrouble_30 (by decide +kernel) ?_
  refine lv_istore (lv' := [(6, .int 0), (5, .int 1), (4, .int 0), (0, .ref p0), (1, .int 268435455), (2, .int 1), (3, .int 20)]) hx hb dX3_excessTrouble_31 hl (by decide) rfl (fun ls hl => ?_)
  refine lv_iload_n hx hb dX3_excessTrouble_33 rfl (lv_at hl 4 rfl) ?_
  refine cz_i (wr := [(p0, .inr (2, [.int 1, v1, v2, .int 0, .int 1, v3, v4, .int 0, v5, v6, v7, v8, v9, v10]))]) (va_runSN (As := [.int 268435455]) (rest := []) ⟨hx, hb, hml, hown, hts⟩ (cX7_depth_0 l G k H.size) ⟨va_cnB 1 hts gX3_excessTrouble_X7_depth_n74 rfl rfl rfl (nm_13 hX.2.2.1) h0w (by decide +kernel) ⟨Nat.le_of_ble_eq_true rfl, Nat.le_of_ble_eq_true rfl⟩, h1w, trivial⟩ (cz_preS hZ hS hX hP hD [] rfl rfl) rfl rfl hl.1 rfl (lv_room (Nat.le_of_ble_eq_true rfl)) dX3_excessTrouble_34 ⟨Nat.le_of_ble_eq_true rfl, Nat.le_of_ble_eq_true rfl⟩) hP hD hS hA [] [0] rfl rfl (by decide) (by decide) (fun r u H locs hp hP hD hS => ?_)
  have hp : r = 0 := hp
  subst hp
  refine lv_istore (lv' := [(7, .int 0), (6, .int 0), (5, .int 1), (4, .int 0), (0, .ref p0), (1, .int 268435455), (2, .int 1), (3, .int 20)]) hx hb dX3_excessTrouble_37 hl (by decide) rfl (fun ls hl => ?_)
  refine lv_aload_n hx hb dX3_excessTrouble_39 rfl (lv_at hl 4 rfl) ?_
  refine lv_iload hx hb dX3_excessTrouble_40 (lv_at hl 0 rfl) ?_
  refine cz_i (wr := []) (va_runV (As := [.int 0]) (rest := []) ⟨hx, hb, hml, hown, hts⟩ (cX3_hasDepth_2 l G k p0 v1 v2 (.int 0) (.int 1) v3 v4 (.int 0) v5 v6 v7 v8 v9 v10 H.size) (cwV 1 hts gX3_excessTrouble_X3_hasDepth rfl rfl rfl (by decide +kernel) ⟨Nat.le_of_ble_eq_true rfl, Nat.le_of_ble_eq_true rfl⟩) (cz_preV hZ hS hX hP hD [0] rfl rfl (ci := 2) (q0 := 0) rfl rfl) rfl rfl hl.1 rfl (lv_room (Nat.le_of_ble_eq_true rfl)) dX3_excessTrouble_42 ⟨Nat.le_of_ble_eq_true rfl, Nat.le_of_ble_eq_true rfl⟩) hP hD hS hA [0] [] rfl rfl (by decide) (by decide) (fun r u H locs hp hP hD hS => ?_)
  have hp : r = 1 := hp
  subst hp
  refine lv_if_eq (tgt := 103) hx hb dX3_excessTrouble_45 (by decide) (fun q => absurd (q) (by decide +kernel)) (fun _ => ?_)
  refine lv_iload hx hb dX3_excessTrouble_48 (lv_at hl 0 rfl) ?_
  refine lv_iload_n hx hb dX3_excessTrouble_50 rfl (lv_at hl 6 rfl) ?_
  refine lv_icmp_eq (tgt := 103) hx hb dX3_excessTrouble_51 (by decide) (fun q => absurd (q) (by decide +kernel)) (fun _ => ?_)
  refine lv_aload_n hx hb dX3_excessTrouble_54 rfl (lv_at hl 4 rfl) ?_
  refine lv_iload hx hb dX3_excessTrouble_55 (lv_at hl 3 rfl) ?_
  refine lv_iload hx hb dX3_excessTrouble_57 (lv_at hl 0 rfl) ?_
  refine lv_iload hx hb dX3_excessTrouble_59 (lv_at hl 2 rfl) ?_
  refine cz_i (wr := []) (va_runV (As := [.int 0, .int 0, .int 1]) (rest := []) ⟨hx, hb, hml, hown, hts⟩ (cX3_excess_0 l G k p0 v1 v2 (.int 1) v3 v4 (.int 0) v5 v6 v7 v8 v9 v10 H.size) (cwV 3 hts gX3_excessTrouble_X3_excess rfl rfl rfl (by decide +kernel) ⟨Nat.le_of_ble_eq_true rfl, Nat.le_of_ble_eq_true rfl⟩) (cz_preV hZ hS hX hP hD [0] rfl rfl (ci := 2) (q0 := 0) rfl rfl) rfl rfl hl.1 rfl (lv_room (Nat.le_of_ble_eq_true rfl)) dX3_excessTrouble_61 ⟨Nat.le_of_ble_eq_true rfl, Nat.le_of_ble_eq_true rfl⟩) hP hD hS hA [0] [] rfl rfl (by decide) (by decide) (fun r u H locs hp hP hD hS => ?_)
  obtain ⟨hP, hD⟩ : va_P G vwCl [(p0, .inr (2, [.int 1, v1, v2, .int 0, .int 1, v3, v4, .int 0, v5, v6, v7, v8, v9, v10]))] H ∧ va_D A [(p0, .inr (2, [.int 1, v1, v2, .int 0, .int 1, v3, v4, .int 0, v5, v6, v7, v8, v9, v10]))] := ⟨hP, hD⟩
  have hp : r = 0 := hp
  subst hp
  refine lv_istore (lv' := [(8, .int 0), (7, .int 0), (6, .int 0), (5, .int 1), (4, .int 0), (0, .ref p0), (1, .int 268435455), (2, .int 1), (3, .int 20)]) hx hb dX3_excessTrouble_64 hl (by decide) rfl (fun ls hl => ?_)
  refine lv_iload hx hb dX3_excessTrouble_66 (lv_at hl 0 rfl) ?_
  refine lv_aload_n hx hb dX3_excessTrouble_68 rfl (lv_at hl 5 rfl) ?_
  refine va_get (D := G) (ci := 2) (v := .int 1) (C := RX3) (T := TX3) (N := 14) (ref := RX3) hx hb hts h3w hown hX.1 hP 0 rfl rfl 4 (by decide) h2w (fun _ h9 => h9) rfl dX3_excessTrouble_69 ?_
  refine lv_icmp_ge (tgt := 78) hx hb dX3_excessTrouble_72 (by decide) (fun q => absurd (q) (by decide +kernel)) (fun _ => ?_)
  refine lv_bipush (v := 6) hx hb dX3_excessTrouble_75 (by decide +kernel) ?_
  have hP9 := hP.sub (ws' := [(p0, .inr (2, [.int 1, v1, v2, .int 0, .int 1, v3, v4, .int 0, v5, v6, v7, v8, v9, v10]))]) [0] rfl
  have hD9 := hD.sub (ws' := [(p0, .inr (2, [.int 1, v1, v2, .int 0, .int 1, v3, v4, .int 0, v5, v6, v7, v8, v9, v10]))]) [0] (by decide) rfl
  exact W.iret (v := 6) hx hb hr (fun t ht hW => ⟨⟨6, (), rfl, rfl, by rw [ht]; exact hP9, hD9⟩, hS.F ht⟩) hS.2.2 dX3_excessTrouble_77

set_option maxHeartbeats 4000000 in
set_option maxRecDepth 100000 in
theorem cX3_rideTrouble_8 (l : Launch) (G : va_G) (k : Nat → ClassId) (p0 : Nat) (v1 : Value) (v2 : Value) (v3 : Value) (v4 : Value) (v5 : Value) (v6 : Value) (p7 : Nat) (v8 : Value) (v9 : Value) (v10 : Value) (v11 : Value) (v12 : Value) (sz : Nat) : CMi l G k yX3_rideTrouble wsX3_rideTrouble ({ frames := 2, cells := 0, slots := 0, locals := 52 }) [.ref p0, .int 268435455, .int 1, .int 0] sz [(p0, .inr (2, [.int 1, v1, .int 99, .int 0, .int 1, .int 20, v2, .int 0, v3, v4, v5, v6, .ref p7, v8])), (p7, .inr (4, [v9, v10, v11, v12, .int 0]))] (fun r (u : Unit) => r = 6) (fun (u : Unit) => [(p7, .inr (4, [v9, v10, v11, v12, .int 0])), (p0, .inr (2, [.int 1, v1, .int 99, .int 0, .int 1, .int 20, v2, .int 0, v3, v4, v5, v6, .ref p7, v8]))]) := by
  refine Met.ofW (cc := cX3_rideTrouble) (maxL := 4) (ret := (some .int)) (by decide) rfl ?_
  intro p e s m args below meth c s₁ B hml hv
  obtain ⟨rfl, hsz, hP, hX, hD0, hZ0⟩ := hv
  have hx := B.exec
  have hb := B.bytes
  have hr := B.returns
  have hts := atoms_spec (ws := wsX3_rideTrouble) B.pre
  have hown : s.vm.findClass RX3 = some m.cls := findClass_of_methodNamed B.named
  subst hsz
  have hD := hD0.self (sz := s.heap.size)
  have hZ := ZX.up hP hZ0
  generalize hAe : va_A [(p0, .inr (2, [.int 1, v1, .int 99, .int 0, .int 1, .int 20, v2, .int 0, v3, v4, v5, v6, .ref p7, v8])), (p7, .inr (4, [v9, v10, v11, v12, .int 0]))] s.heap.size = A at hD hZ ⊢
  have hA : ∀ q : Nat, s.heap.size ≤ q → A q := fun q h => by rw [← hAe]; exact Or.inr h
  have hS : va_S A s.heap s.heap [] := va_S.rf
  have hP : va_P G vwCl [(p0, .inr (2, [.int 1, v1, .int 99, .int 0, .int 1, .int 20, v2, .int 0, v3, v4, v5, v6, .ref p7, v8])), (p7, .inr (4, [v9, v10, v11, v12, .int 0]))] s.heap := hP
  have hl := lv_entry ([.ref p0, .int 268435455, .int 1, .int 0]) (n := 4) (Nat.le_of_ble_eq_true rfl)
  rw [lg_entry_eq]
  generalize (lg_sl ([.ref p0, .int 268435455, .int 1, .int 0]) ++ List.replicate (4 - (lg_sl ([.ref p0, .int 268435455, .int 1, .int 0])).length) Slot.unset).toArray = ls at hl ⊢
  have hl : lv_has ls 4 [(0, .ref p0), (1, .int 268435455), (2, .int 1), (3, .int 0)] := hl
  have h0w := hts (.initialized RX7) (by decide +kernel)
  have h1w := hts (.static yX7_depth) (by decide +kernel)
  have h2w := hts (.fieldLink RX3 44 "RopeTown$Plan" "cap" "I") (by decide +kernel)
  have h3w : ∀ w ∈ wsX30, w ∈ wsX3_rideTrouble := by decide +kernel
  have h4w := hts (.fieldLink RX3 53 "RopeTown$Plan" "most" "I") (by decide +kernel)
  refine lv_aload_n hx hb dX3_rideTrouble_0 rfl (lv_at hl 0 rfl) ?_
  refine lv_iload_n hx hb dX3_rideTrouble_1 rfl (lv_at hl 2 rfl) ?_
  refine cz_i (wr := [(p7, .inr (4, [v9, v10, v11, v12, .int 0]))]) (va_runV (As := [.int 1]) (rest := []) ⟨hx, hb, hml, hown, hts⟩ (cX3_hasDepth_3 l G k p0 v1 (.int 99) (.int 0) (.int 1) (.int 20) v2 (.int 0) v3 v4 v5 v6 (.ref p7) v8 s.heap.size) (cwV 1 hts gX3_rideTrouble_X3_hasDepth rfl rfl rfl (by decide +kernel) ⟨Nat.le_of_ble_eq_true rfl, Nat.le_of_ble_eq_true rfl⟩) (cz_preV hZ hS hX hP hD [0] rfl rfl (ci := 2) (q0 := 0) rfl rfl) rfl rfl hl.1 rfl (lv_room (Nat.le_of_ble_eq_true rfl)) dX3_rideTrouble_2 ⟨Nat.le_of_ble_eq_true rfl, Nat.le_of_ble_eq_true rfl⟩) hP hD hS hA [0] [1] rfl rfl (by decide) (by decide) (fun r u H locs hp hP hD hS => ?_)
  have hp : r = 1 := hp
  subst hp
  refine lv_if_eq (tgt := 17) hx hb dX3_rideTrouble_5 (by decide) (fun q => absurd (q) (by decide +kernel)) (fun _ => ?_)
  refine lv_iload_n hx hb dX3_rideTrouble_8 rfl (lv_at hl 3 rfl) ?_
  refine lv_if_lt (tgt := 17) hx hb dX3_rideTrouble_9 (by decide) (fun q => absurd (q) (by decide +kernel)) (fun _ => ?_)
  refine lv_iload_n hx hb dX3_rideTrouble_12 rfl (lv_at hl 3 rfl) ?_
  refine lv_iconst (v := 2) hx hb dX3_rideTrouble_13 (by decide +kernel) ?_
  refine lv_icmp_le (tgt := 19) hx hb dX3_rideTrouble_14 (by decide) (fun _ => ?_) (fun q => absurd (by decide +kernel) (q))
  refine lv_iload_n hx hb dX3_rideTrouble_19 rfl (lv_at hl 2 rfl) ?_
  refine lv_iload_n hx hb dX3_rideTrouble_20 rfl (lv_at hl 1 rfl) ?_
  refine cz_i (wr := [(p7, .inr (4, [v9, v10, v11, v12, .int 0])), (p0, .inr (2, [.int 1, v1, .int 99, .int 0, .int 1, .int 20, v2, .int 0, v3, v4, v5, v6, .ref p7, v8]))]) (va_runSN (As := [.int 268435455]) (rest := [.int 1]) ⟨hx, hb, hml, hown, hts⟩ (cX7_depth_0 l G k H.size) ⟨va_cnB 1 hts gX3_rideTrouble_X7_depth_n74 rfl rfl rfl (nm_13 hX.2.2.1) h0w (by decide +kernel) ⟨Nat.le_of_ble_eq_true rfl, Nat.le_of_ble_eq_true rfl⟩, h1w, trivial⟩ (cz_preS hZ hS hX hP hD [] rfl rfl) rfl rfl hl.1 rfl (lv_room (Nat.le_of_ble_eq_true rfl)) dX3_rideTrouble_21 ⟨Nat.le_of_ble_eq_true rfl, Nat.le_of_ble_eq_true rfl⟩) hP hD hS hA [] [0, 1] rfl rfl (by decide) (by decide) (fun r u H locs hp hP hD hS => ?_)
  have hp : r = 0 := hp
  subst hp
  refine lv_icmp_ne (tgt := 29) hx hb dX3_rideTrouble_24 (by decide) (fun _ => ?_) (fun q => absurd (q) (by decide +kernel))
  refine lv_aload_n hx hb dX3_rideTrouble_29 rfl (lv_at hl 0 rfl) ?_
  refine lv_iload_n hx hb dX3_rideTrouble_30 rfl (lv_at hl 1 rfl) ?_
  refine lv_iconst (v := 0) hx hb dX3_rideTrouble_31 (by decide +kernel) ?_
  refine cz_i (wr := [(p7, .inr (4, [v9, v10, v11, v12, .int 0]))]) (va_runV (As := [.int 268435455, .int 0]) (rest := []) ⟨hx, hb, hml, hown, hts⟩ (cX3_weightIn_0 l G k p0 (.int 1) v1 (.int 99) (.int 0) (.int 1) (.int 20) v2 v3 v4 v5 v6 (.ref p7) v8 H.size) (cwV 2 hts gX3_rideTrouble_X3_weightIn rfl rfl rfl (by decide +kernel) ⟨Nat.le_of_ble_eq_true rfl, Nat.le_of_ble_eq_true rfl⟩) (cz_preV hZ hS hX hP hD [1] rfl rfl (ci := 2) (q0 := 1) rfl rfl) rfl rfl hl.1 rfl (lv_room (Nat.le_of_ble_eq_true rfl)) dX3_rideTrouble_32 ⟨Nat.le_of_ble_eq_true rfl, Nat.le_of_ble_eq_true rfl⟩) hP hD hS hA [1] [0] rfl rfl (by decide) (by decide) (fun r u H locs hp hP hD hS => ?_)
  have hp : r = 0 := hp
  subst hp
  refine lv_aload_n hx hb dX3_rideTrouble_35 rfl (lv_at hl 0 rfl) ?_
  refine va_get (D := G) (ci := 2) (v := .int 99) (C := RX3) (T := TX3) (N := 14) (ref := RX3) hx hb hts h3w hown hX.1 hP 1 rfl rfl 2 (by decide) h2w (fun _ h9 => h9) rfl dX3_rideTrouble_36 ?_
  refine lv_icmp_gt (tgt := 55) hx hb dX3_rideTrouble_39 (by decide) (fun q => absurd (q) (by decide +kernel)) (fun _ => ?_)
  refine lv_aload_n hx hb dX3_rideTrouble_42 rfl (lv_at hl 0 rfl) ?_
  refine lv_iload_n hx hb dX3_rideTrouble_43 rfl (lv_at hl 1 rfl) ?_
  refine lv_iconst (v := 1) hx hb dX3_rideTrouble_44 (by decide +kernel) ?_
  refine cz_i (wr := [(p7, .inr (4, [v9, v10, v11, v12, .int 0]))]) (va_runV (As := [.int 268435455, .int 1]) (rest := []) ⟨hx, hb, hml, hown, hts⟩ (cX3_weightIn_1 l G k p0 (.int 1) v1 (.int 99) (.int 0) (.int 1) (.int 20) v2 v3 v4 v5 v6 (.ref p7) v8 H.size) (cwV 2 hts gX3_rideTrouble_X3_weightIn rfl rfl rfl (by decide +kernel) ⟨Nat.le_of_ble_eq_true rfl, Nat.le_of_ble_eq_true rfl⟩) (cz_preV hZ hS hX hP hD [1] rfl rfl (ci := 2) (q0 := 1) rfl rfl) rfl rfl hl.1 rfl (lv_room (Nat.le_of_ble_eq_true rfl)) dX3_rideTrouble_45 ⟨Nat.le_of_ble_eq_true rfl, Nat.le_of_ble_eq_true rfl⟩) hP hD hS hA [1] [0] rfl rfl (by decide) (by decide) (fun r u H locs hp hP hD hS => ?_)
  have hp : r = 0 := hp
  subst hp
  refine lv_aload_n hx hb dX3_rideTrouble_48 rfl (lv_at hl 0 rfl) ?_
  refine va_get (D := G) (ci := 2) (v := .int 99) (C := RX3) (T := TX3) (N := 14) (ref := RX3) hx hb hts h3w hown hX.1 hP 1 rfl rfl 2 (by decide) h2w (fun _ h9 => h9) rfl dX3_rideTrouble_49 ?_
  refine lv_icmp_le (tgt := 57) hx hb dX3_rideTrouble_52 (by decide) (fun _ => ?_) (fun q => absurd (by decide +kernel) (q))
  refine lv_aload_n hx hb dX3_rideTrouble_57 rfl (lv_at hl 0 rfl) ?_
  refine lv_iload_n hx hb dX3_rideTrouble_58 rfl (lv_at hl 1 rfl) ?_
  refine lv_iconst (v := 0) hx hb dX3_rideTrouble_59 (by decide +kernel) ?_
  refine cz_i (wr := []) (va_runV (As := [.int 268435455, .int 0]) (rest := []) ⟨hx, hb, hml, hown, hts⟩ (cX3_brokenRule_0 l G k p0 (.int 1) v1 (.int 99) (.int 0) (.int 1) (.int 20) v2 (.int 0) v3 v4 v5 v6 p7 v8 v9 v10 v11 v12 H.size) (cwV 2 hts gX3_rideTrouble_X3_brokenRule rfl rfl rfl (by decide +kernel) ⟨Nat.le_of_ble_eq_true rfl, Nat.le_of_ble_eq_true rfl⟩) (cz_preV hZ hS hX hP hD [1, 0] rfl rfl (ci := 2) (q0 := 1) rfl rfl) rfl rfl hl.1 rfl (lv_room (Nat.le_of_ble_eq_true rfl)) dX3_rideTrouble_60 ⟨Nat.le_of_ble_eq_true rfl, Nat.le_of_ble_eq_true rfl⟩) hP hD hS hA [1, 0] [] rfl rfl (by decide) (by decide) (fun r u H locs hp hP hD hS => ?_)
  have hp : r = (-1) := hp
  subst hp
  refine lv_iconst (v := (-1)) hx hb dX3_rideTrouble_63 (by decide +kernel) ?_
  refine lv_icmp_ne (tgt := 77) hx hb dX3_rideTrouble_64 (by decide) (fun q => absurd (by decide +kernel) (q)) (fun _ => ?_)
  refine lv_aload_n hx hb dX3_rideTrouble_67 rfl (lv_at hl 0 rfl) ?_
  refine lv_iload_n hx hb dX3_rideTrouble_68 rfl (lv_at hl 1 rfl) ?_
  refine lv_iconst (v := 1) hx hb dX3_rideTrouble_69 (by decide +kernel) ?_
  refine cz_i (wr := []) (va_runV (As := [.int 268435455, .int 1]) (rest := []) ⟨hx, hb, hml, hown, hts⟩ (cX3_brokenRule_1 l G k p0 (.int 1) v1 (.int 99) (.int 0) (.int 1) (.int 20) v2 (.int 0) v3 v4 v5 v6 p7 v8 v9 v10 v11 v12 H.size) (cwV 2 hts gX3_rideTrouble_X3_brokenRule rfl rfl rfl (by decide +kernel) ⟨Nat.le_of_ble_eq_true rfl, Nat.le_of_ble_eq_true rfl⟩) (cz_preV hZ hS hX hP hD [0, 1] rfl rfl (ci := 2) (q0 := 0) rfl rfl) rfl rfl hl.1 rfl (lv_room (Nat.le_of_ble_eq_true rfl)) dX3_rideTrouble_70 ⟨Nat.le_of_ble_eq_true rfl, Nat.le_of_ble_eq_true rfl⟩) hP hD hS hA [0, 1] [] rfl rfl (by decide) (by decide) (fun r u H locs hp hP hD hS => ?_)
  obtain ⟨hP, hD⟩ : va_P G vwCl [(p0, .inr (2, [.int 1, v1, .int 99, .int 0, .int 1, .int 20, v2, .int 0, v3, v4, v5, v6, .ref p7, v8])), (p7, .inr (4, [v9, v10, v11, v12, .int 0]))] H ∧ va_D A [(p0, .inr (2, [.int 1, v1, .int 99, .int 0, .int 1, .int 20, v2, .int 0, v3, v4, v5, v6, .ref p7, v8])), (p7, .inr (4, [v9, v10, v11, v12, .int 0]))] := ⟨hP, hD⟩
  have hp : r = (-1) := hp
  subst hp
  refine lv_iconst (v := (-1)) hx hb dX3_rideTrouble_73 (by decide +kernel) ?_
  refine lv_icmp_eq (tgt := 79) hx hb dX3_rideTrouble_74 (by decide) (fun _ => ?_) (fun q => absurd (by decide +kernel) (q))
  refine lv_iload_n hx hb dX3_rideTrouble_79 rfl (lv_at hl 3 rfl) ?_
  refine lv_iconst (v := 2) hx hb dX3_rideTrouble_80 (by decide +kernel) ?_
  refine lv_icmp_ne (tgt := 88) hx hb dX3_rideTrouble_81 (by decide) (fun _ => ?_) (fun q => absurd (q) (by decide +kernel))
  refine lv_aload_n hx hb dX3_rideTrouble_88 rfl (lv_at hl 0 rfl) ?_
  refine lv_iload_n hx hb dX3_rideTrouble_89 rfl (lv_at hl 1 rfl) ?_
  refine lv_iload_n hx hb dX3_rideTrouble_90 rfl (lv_at hl 2 rfl) ?_
  refine lv_iload_n hx hb dX3_rideTrouble_91 rfl (lv_at hl 3 rfl) ?_
  refine lv_if_ne (tgt := 102) hx hb dX3_rideTrouble_92 (by decide) (fun q => absurd (by decide +kernel) (q)) (fun _ => ?_)
  refine lv_aload_n hx hb dX3_rideTrouble_95 rfl (lv_at hl 0 rfl) ?_
  refine va_get (D := G) (ci := 2) (v := .int 20) (C := RX3) (T := TX3) (N := 14) (ref := RX3) hx hb hts h3w hown hX.1 hP 0 rfl rfl 5 (by decide) h4w (fun _ h9 => h9) rfl dX3_rideTrouble_96 ?_
  refine lv_goto (tgt := 111) hx hb dX3_rideTrouble_99 (by decide) ?_
  refine cz_i (wr := [(p7, .inr (4, [v9, v10, v11, v12, .int 0]))]) (va_runV (As := [.int 268435455, .int 1, .int 20]) (rest := []) ⟨hx, hb, hml, hown, hts⟩ (cX3_excessTrouble_0 l G k p0 v1 (.int 99) (.int 20) v2 v3 v4 v5 v6 (.ref p7) v8 H.size) (cwV 3 hts gX3_rideTrouble_X3_excessTrouble rfl rfl rfl (by decide +kernel) ⟨Nat.le_of_ble_eq_true rfl, Nat.le_of_ble_eq_true rfl⟩) (cz_preV hZ hS hX hP hD [0] rfl rfl (ci := 2) (q0 := 0) rfl rfl) rfl rfl hl.1 rfl (lv_room (Nat.le_of_ble_eq_true rfl)) dX3_rideTrouble_111 ⟨Nat.le_of_ble_eq_true rfl, Nat.le_of_ble_eq_true rfl⟩) hP hD hS hA [0] [1] rfl rfl (by decide) (by decide) (fun r u H locs hp hP hD hS => ?_)
  have hp : r = 6 := hp
  subst hp
  have hP9 := hP.sub (ws' := [(p7, .inr (4, [v9, v10, v11, v12, .int 0])), (p0, .inr (2, [.int 1, v1, .int 99, .int 0, .int 1, .int 20, v2, .int 0, v3, v4, v5, v6, .ref p7, v8]))]) [0, 1] rfl
  have hD9 := hD.sub (ws' := [(p7, .inr (4, [v9, v10, v11, v12, .int 0])), (p0, .inr (2, [.int 1, v1, .int 99, .int 0, .int 1, .int 20, v2, .int 0, v3, v4, v5, v6, .ref p7, v8]))]) [0, 1] (by decide) rfl
  exact W.iret (v := 6) hx hb hr (fun t ht hW => ⟨⟨6, (), rfl, rfl, by rw [ht]; exact hP9, hD9⟩, hS.F ht⟩) hS.2.2 dX3_rideTrouble_114

set_option maxHeartbeats 4000000 in
set_option maxRecDepth 100000 in
theorem cX9_judged_2 (l : Launch) (G : va_G) (k : Nat → ClassId) (p0 : Nat) (v1 : Value) (v2 : Value) (v3 : Value) (v4 : Value) (v5 : Value) (v6 : Value) (p7 : Nat) (v8 : Value) (v9 : Value) (v10 : Value) (v11 : Value) (v12 : Value) (v13 : Value) (v14 : Value) (v15 : Value) (v16 : Value) (v17 : Value) (v18 : Value) (v19 : Value) (v20 : Value) (v21 : Value) (v22 : Value) (p23 : Nat) (sz : Nat) : CMi l G k yX9_judged wsX9_judged ({ frames := 0, cells := 0, slots := 0, locals := 0 }) [.ref p0, .int 6] sz [(p0, .inr (6, [v1, v2, v3, v4, v5, v6, .ref p7, v8, v9, v10, v11])), (p7, .inr (0, [v12, v13, v14, v15, v16, v17, v18, v19, v20, v21, v22, .ref p23])), (p23, .inl (k 0, 3, .inl (fun _ => 0)))] (fun r (u : Unit) => r = 6) (fun (u : Unit) => [(p0, .inr (6, [v1, v2, v3, v4, v5, v6, .ref p7, v8, v9, v10, v11])), (p7, .inr (0, [v12, v13, v14, v15, v16, v17, v18, v19, v20, v21, v22, .ref p23])), (p23, .inl (k 0, 3, .inl (upd (fun _ => 0) (1 : Int32).toNatClampNeg 1)))]) := by
  refine Met.ofW (cc := cX9_judged) (maxL := 3) (ret := (some .int)) (by decide) rfl ?_
  intro p e s m args below meth c s₁ B hml hv
  obtain ⟨rfl, hsz, hP, hX, hD0, hZ0⟩ := hv
  have hx := B.exec
  have hb := B.bytes
  have hr := B.returns
  have hts := atoms_spec (ws := wsX9_judged) B.pre
  have hown : s.vm.findClass RX9 = some m.cls := findClass_of_methodNamed B.named
  subst hsz
  have hD := hD0.self (sz := s.heap.size)
  have hZ := ZX.up hP hZ0
  generalize hAe : va_A [(p0, .inr (6, [v1, v2, v3, v4, v5, v6, .ref p7, v8, v9, v10, v11])), (p7, .inr (0, [v12, v13, v14, v15, v16, v17, v18, v19, v20, v21, v22, .ref p23])), (p23, .inl (k 0, 3, .inl (fun _ => 0)))] s.heap.size = A at hD hZ ⊢
  have hA : ∀ q : Nat, s.heap.size ≤ q → A q := fun q h => by rw [← hAe]; exact Or.inr h
  have hS : va_S A s.heap s.heap [] := va_S.rf
  have hP : va_P G vwCl [(p0, .inr (6, [v1, v2, v3, v4, v5, v6, .ref p7, v8, v9, v10, v11])), (p7, .inr (0, [v12, v13, v14, v15, v16, v17, v18, v19, v20, v21, v22, .ref p23])), (p23, .inl (k 0, 3, .inl (fun _ => 0)))] s.heap := hP
  have hl := lv_entry ([.ref p0, .int 6]) (n := 3) (Nat.le_of_ble_eq_true rfl)
  rw [lg_entry_eq]
  generalize (lg_sl ([.ref p0, .int 6]) ++ List.replicate (3 - (lg_sl ([.ref p0, .int 6])).length) Slot.unset).toArray = ls at hl ⊢
  have hl : lv_has ls 3 [(0, .ref p0), (1, .int 6)] := hl
  have h0w := hts (.fieldLink RX9 42 "RopeTown" "book" "LRopeTown$Book;") (by decide +kernel)
  have h1w : ∀ w ∈ wsX90, w ∈ wsX9_judged := by decide +kernel
  have h2w : ∀ w ∈ wsX10, w ∈ wsX9_judged := by decide +kernel
  refine lv_iload_n hx hb dX9_judged_0 rfl (lv_at hl 1 rfl) ?_
  refine lv_if_ne (tgt := 21) hx hb dX9_judged_1 (by decide) (fun _ => ?_) (fun q => absurd (q) (by decide +kernel))
  refine lv_iload_n hx hb dX9_judged_21 rfl (lv_at hl 1 rfl) ?_
  refine lv_istore_n (lv' := [(2, .int 6), (0, .ref p0), (1, .int 6)]) hx hb dX9_judged_22 rfl hl (by decide) rfl (fun ls hl => ?_)
  refine lv_iload_n hx hb dX9_judged_23 rfl (lv_at hl 0 rfl) ?_
  refine lv_if_eq (tgt := 40) hx hb dX9_judged_24 (by decide) (fun q => absurd (q) (by decide +kernel)) (fun _ => ?_)
  refine lv_aload_n hx hb dX9_judged_27 rfl (lv_at hl 1 rfl) ?_
  refine va_get (D := G) (ci := 6) (v := .ref p7) (C := RX9) (T := TX9) (N := 11) (ref := RX9) hx hb hts h1w hown hX.1 hP 0 rfl rfl 6 (by decide) h0w (fun _ h9 => h9) rfl dX9_judged_28 ?_
  refine va_getN (D := G) (ci := 0) (v := .ref p23) (C := RX1) (T := TX1) (N := 12) (ref := RX1) (host := RX9) hx hb hts h2w hown hX.1 hP 1 rfl rfl 11 (by decide) (nf_47 hX.2.2.1) (fun _ h9 => h9) rfl dX9_judged_31 ?_
  refine lv_iconst (v := 1) hx hb dX9_judged_34 (by decide +kernel) ?_
  refine lv_dup2_11 hx hb dX9_judged_35 rfl rfl ?_
  refine va_iald hx hb hX.1 hP 2 0 rfl rfl (by unfold vp_in; decide +kernel) dX9_judged_36 ?_
  refine cz_ti (w := 0) (by rfl) ?_
  refine lv_iconst (v := 1) hx hb dX9_judged_37 (by decide +kernel) ?_
  refine lv_iadd hx hb dX9_judged_38 ?_
  refine cz_ti (w := 1) (by decide +kernel) ?_
  refine va_iast hx hb hX.1 hP hD hS 2 0 rfl rfl (by unfold vp_in; decide +kernel) dX9_judged_39 (fun H locs hP hD hS => ?_)
  refine lv_iload_n hx hb dX9_judged_40 rfl (lv_at hl 0 rfl) ?_
  have hP9 := hP.sub (ws' := [(p0, .inr (6, [v1, v2, v3, v4, v5, v6, .ref p7, v8, v9, v10, v11])), (p7, .inr (0, [v12, v13, v14, v15, v16, v17, v18, v19, v20, v21, v22, .ref p23])), (p23, .inl (k 0, 3, .inl (upd (fun _ => 0) (1 : Int32).toNatClampNeg 1)))]) [0, 1, 2] rfl
  have hD9 := hD.sub (ws' := [(p0, .inr (6, [v1, v2, v3, v4, v5, v6, .ref p7, v8, v9, v10, v11])), (p7, .inr (0, [v12, v13, v14, v15, v16, v17, v18, v19, v20, v21, v22, .ref p23])), (p23, .inl (k 0, 3, .inl (upd (fun _ => 0) (1 : Int32).toNatClampNeg 1)))]) [0, 1, 2] (by decide) rfl
  exact W.iret (v := 6) hx hb hr (fun t ht hW => ⟨⟨6, (), rfl, rfl, by rw [ht]; exact hP9, hD9⟩, hS.F ht⟩) hS.2.2 dX9_judged_41

