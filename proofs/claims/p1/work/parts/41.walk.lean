set_option maxHeartbeats 4000000 in
set_option maxRecDepth 100000 in
theorem cX3_rideTrouble_2 (l : Launch) (G : va_G) (k : Nat → ClassId) (p0 : Nat) (i1 : Int32) (v2 : Value) (v3 : Value) (v4 : Value) (v5 : Value) (v6 : Value) (v7 : Value) (v8 : Value) (v9 : Value) (v10 : Value) (v11 : Value) (v12 : Value) (v13 : Value) (v14 : Value) (sz : Nat) (hi1 : i1 < 0) : CMi l G k yX3_rideTrouble wsX3_rideTrouble ({ frames := 1, cells := 0, slots := 0, locals := 21 }) [.ref p0, .int 268435455, .int 0, .int i1] sz [(p0, .inr (2, [.int 1, v2, v3, v4, v5, v6, v7, v8, v9, v10, v11, v12, v13, v14]))] (fun r (u : Unit) => r = 1) (fun (u : Unit) => [(p0, .inr (2, [.int 1, v2, v3, v4, v5, v6, v7, v8, v9, v10, v11, v12, v13, v14]))]) := by
  refine Met.ofW (cc := cX3_rideTrouble) (maxL := 4) (ret := (some .int)) (by decide) rfl ?_
  intro p e s m args below meth c s₁ B hml hv
  obtain ⟨rfl, hsz, hP, hX, hD0, hZ0⟩ := hv
  have hx := B.exec
  have hb := B.bytes
  have hr := B.returns
  have hts := atoms_spec (ws := wsX3_rideTrouble) B.pre
  have hown : s.vm.findClass RX3 = some m.cls := findClass_of_methodNamed B.named
  subst hsz
  have hD := hD0.self (sz := s.heap.size)
  have hZ := ZX.up hP hZ0
  generalize hAe : va_A [(p0, .inr (2, [.int 1, v2, v3, v4, v5, v6, v7, v8, v9, v10, v11, v12, v13, v14]))] s.heap.size = A at hD hZ ⊢
  have hA : ∀ q : Nat, s.heap.size ≤ q → A q := fun q h => by rw [← hAe]; exact Or.inr h
  have hS : va_S A s.heap s.heap [] := va_S.rf
  have hP : va_P G vwCl [(p0, .inr (2, [.int 1, v2, v3, v4, v5, v6, v7, v8, v9, v10, v11, v12, v13, v14]))] s.heap := hP
  have hl := lv_entry ([.ref p0, .int 268435455, .int 0, .int i1]) (n := 4) (Nat.le_of_ble_eq_true rfl)
  rw [lg_entry_eq]
  generalize (lg_sl ([.ref p0, .int 268435455, .int 0, .int i1]) ++ List.replicate (4 - (lg_sl ([.ref p0, .int 268435455, .int 0, .int i1])).length) Slot.unset).toArray = ls at hl ⊢
  have hl : lv_has ls 4 [(0, .ref p0), (1, .int 268435455), (2, .int 0), (3, .int i1)] := hl
  refine lv_aload_n hx hb dX3_rideTrouble_0 rfl (lv_at hl 0 rfl) ?_
  refine lv_iload_n hx hb dX3_rideTrouble_1 rfl (lv_at hl 2 rfl) ?_
  refine cz_i (wr := []) (va_runV (As := [.int 0]) (rest := []) ⟨hx, hb, hml, hown, hts⟩ (cX3_hasDepth_2 l G k p0 v2 v3 v4 v5 v6 v7 v8 v9 v10 v11 v12 v13 v14 s.heap.size) (cwV 1 hts gX3_rideTrouble_X3_hasDepth rfl rfl rfl (by decide +kernel) ⟨Nat.le_of_ble_eq_true rfl, Nat.le_of_ble_eq_true rfl⟩) (cz_preV hZ hS hX hP hD [0] rfl rfl (ci := 2) (q0 := 0) rfl rfl) rfl rfl hl.1 rfl (lv_room (Nat.le_of_ble_eq_true rfl)) dX3_rideTrouble_2 ⟨Nat.le_of_ble_eq_true rfl, Nat.le_of_ble_eq_true rfl⟩) hP hD hS hA [0] [] rfl rfl (by decide) (by decide) (fun r u H locs hp hP hD hS => ?_)
  have hp : r = 1 := hp
  subst hp
  refine lv_if_eq (tgt := 17) hx hb dX3_rideTrouble_5 (by decide) (fun q => absurd (q) (by decide +kernel)) (fun _ => ?_)
  refine lv_iload_n hx hb dX3_rideTrouble_8 rfl (lv_at hl 3 rfl) ?_
  refine lv_if_lt (tgt := 17) hx hb dX3_rideTrouble_9 (by decide) (fun _ => ?_) (fun q_1 => absurd (zl_lt hi1 (by decide)) q_1)
  refine lv_iconst (v := 1) hx hb dX3_rideTrouble_17 (by decide +kernel) ?_
  have hP9 := hP.sub (ws' := [(p0, .inr (2, [.int 1, v2, v3, v4, v5, v6, v7, v8, v9, v10, v11, v12, v13, v14]))]) [0] rfl
  have hD9 := hD.sub (ws' := [(p0, .inr (2, [.int 1, v2, v3, v4, v5, v6, v7, v8, v9, v10, v11, v12, v13, v14]))]) [0] (by decide) rfl
  exact W.iret (v := 1) hx hb hr (fun t ht hW => ⟨⟨1, (), rfl, rfl, by rw [ht]; exact hP9, hD9⟩, hS.F ht⟩) hS.2.2 dX3_rideTrouble_18

set_option maxHeartbeats 4000000 in
set_option maxRecDepth 100000 in
theorem cX9_ride_2 (l : Launch) (G : va_G) (k : Nat → ClassId) (p0 : Nat) (i1 : Int32) (v2 : Value) (v3 : Value) (v4 : Value) (v5 : Value) (p6 : Nat) (v7 : Value) (p8 : Nat) (v9 : Value) (v10 : Value) (v11 : Value) (v12 : Value) (v13 : Value) (v14 : Value) (v15 : Value) (v16 : Value) (v17 : Value) (v18 : Value) (v19 : Value) (v20 : Value) (v21 : Value) (v22 : Value) (p23 : Nat) (v24 : Value) (v25 : Value) (v26 : Value) (v27 : Value) (v28 : Value) (v29 : Value) (v30 : Value) (v31 : Value) (v32 : Value) (v33 : Value) (v34 : Value) (v35 : Value) (v36 : Value) (sz : Nat) (hi1 : i1 < 0) : CMi l G k yX9_ride wsX9_ride ({ frames := 2, cells := 0, slots := 0, locals := 44 }) [.ref p0, .int 0, .int i1] sz [(p0, .inr (6, [v2, v3, v4, v5, .ref p6, v7, .ref p8, v9, v10, v11, v12])), (p8, .inr (0, [.int 268435455, v13, v14, v15, v16, v17, v18, v19, v20, v21, v22, .ref p23])), (p6, .inr (2, [.int 1, v24, v25, v26, v27, v28, v29, v30, v31, v32, v33, v34, v35, v36])), (p23, .inl (k 0, 3, .inl (fun _ => 0)))] (fun r (u : Unit) => r = 1) (fun (u : Unit) => [(p6, .inr (2, [.int 1, v24, v25, v26, v27, v28, v29, v30, v31, v32, v33, v34, v35, v36])), (p0, .inr (6, [v2, v3, v4, v5, .ref p6, v7, .ref p8, v9, v10, v11, v12])), (p8, .inr (0, [.int 268435455, v13, v14, v15, v16, v17, v18, v19, v20, v21, v22, .ref p23])), (p23, .inl (k 0, 3, .inl (upd (fun _ => 0) (1 : Int32).toNatClampNeg 1)))]) := by
  refine Met.ofW (cc := cX9_ride) (maxL := 5) (ret := (some .int)) (by decide) rfl ?_
  intro p e s m args below meth c s₁ B hml hv
  obtain ⟨rfl, hsz, hP, hX, hD0, hZ0⟩ := hv
  have hx := B.exec
  have hb := B.bytes
  have hr := B.returns
  have hts := atoms_spec (ws := wsX9_ride) B.pre
  have hown : s.vm.findClass RX9 = some m.cls := findClass_of_methodNamed B.named
  subst hsz
  have hD := hD0.self (sz := s.heap.size)
  have hZ := ZX.up hP hZ0
  generalize hAe : va_A [(p0, .inr (6, [v2, v3, v4, v5, .ref p6, v7, .ref p8, v9, v10, v11, v12])), (p8, .inr (0, [.int 268435455, v13, v14, v15, v16, v17, v18, v19, v20, v21, v22, .ref p23])), (p6, .inr (2, [.int 1, v24, v25, v26, v27, v28, v29, v30, v31, v32, v33, v34, v35, v36])), (p23, .inl (k 0, 3, .inl (fun _ => 0)))] s.heap.size = A at hD hZ ⊢
  have hA : ∀ q : Nat, s.heap.size ≤ q → A q := fun q h => by rw [← hAe]; exact Or.inr h
  have hS : va_S A s.heap s.heap [] := va_S.rf
  have hP : va_P G vwCl [(p0, .inr (6, [v2, v3, v4, v5, .ref p6, v7, .ref p8, v9, v10, v11, v12])), (p8, .inr (0, [.int 268435455, v13, v14, v15, v16, v17, v18, v19, v20, v21, v22, .ref p23])), (p6, .inr (2, [.int 1, v24, v25, v26, v27, v28, v29, v30, v31, v32, v33, v34, v35, v36])), (p23, .inl (k 0, 3, .inl (fun _ => 0)))] s.heap := hP
  have hl := lv_entry ([.ref p0, .int 0, .int i1]) (n := 5) (Nat.le_of_ble_eq_true rfl)
  rw [lg_entry_eq]
  generalize (lg_sl ([.ref p0, .int 0, .int i1]) ++ List.replicate (5 - (lg_sl ([.ref p0, .int 0, .int i1])).length) Slot.unset).toArray = ls at hl ⊢
  have hl : lv_has ls 5 [(0, .ref p0), (1, .int 0), (2, .int i1)] := hl
  have h0w := hts (.fieldLink RX9 23 "RopeTown" "plan" "LRopeTown$Plan;") (by decide +kernel)
  have h1w : ∀ w ∈ wsX90, w ∈ wsX9_ride := by decide +kernel
  have h2w := hts (.fieldLink RX9 42 "RopeTown" "book" "LRopeTown$Book;") (by decide +kernel)
  have h3w : ∀ w ∈ wsX10, w ∈ wsX9_ride := by decide +kernel
  have h4w := hts (.initialized RX3) (by decide +kernel)
  have h5w := hts (.instanceMethod yX3_rideTrouble) (by decide +kernel)
  have h6w := hts (.selects RX3 yX3_rideTrouble yX3_rideTrouble) (by decide +kernel)
  refine lv_aload_n hx hb dX9_ride_0 rfl (lv_at hl 0 rfl) ?_
  refine lv_aload_n hx hb dX9_ride_1 rfl (lv_at hl 0 rfl) ?_
  refine va_get (D := G) (ci := 6) (v := .ref p6) (C := RX9) (T := TX9) (N := 11) (ref := RX9) hx hb hts h1w hown hX.1 hP 0 rfl rfl 4 (by decide) h0w (fun _ h9 => h9) rfl dX9_ride_2 ?_
  refine lv_aload_n hx hb dX9_ride_5 rfl (lv_at hl 0 rfl) ?_
  refine va_get (D := G) (ci := 6) (v := .ref p8) (C := RX9) (T := TX9) (N := 11) (ref := RX9) hx hb hts h1w hown hX.1 hP 0 rfl rfl 6 (by decide) h2w (fun _ h9 => h9) rfl dX9_ride_6 ?_
  refine va_getN (D := G) (ci := 0) (v := .int 268435455) (C := RX1) (T := TX1) (N := 12) (ref := RX1) (host := RX9) hx hb hts h3w hown hX.1 hP 1 rfl rfl 0 (by decide) (nf_37 hX.2.2.1) (fun _ h9 => h9) rfl dX9_ride_9 ?_
  refine lv_iload_n hx hb dX9_ride_12 rfl (lv_at hl 1 rfl) ?_
  refine lv_iload_n hx hb dX9_ride_13 rfl (lv_at hl 2 rfl) ?_
  refine cz_i (wr := [(p0, .inr (6, [v2, v3, v4, v5, .ref p6, v7, .ref p8, v9, v10, v11, v12])), (p8, .inr (0, [.int 268435455, v13, v14, v15, v16, v17, v18, v19, v20, v21, v22, .ref p23])), (p23, .inl (k 0, 3, .inl (fun _ => 0)))]) (va_runVN (As := [.int 268435455, .int 0, .int i1]) (rest := [.ref p0]) ⟨hx, hb, hml, hown, hts⟩ (cX3_rideTrouble_2 l G k p6 i1 v24 v25 v26 v27 v28 v29 v30 v31 v32 v33 v34 v35 v36 s.heap.size hi1) ⟨va_cnB 3 hts gX9_ride_X3_rideTrouble_n213 rfl rfl rfl (nm_19 hX.2.2.1) h4w (by decide +kernel) ⟨Nat.le_of_ble_eq_true rfl, Nat.le_of_ble_eq_true rfl⟩, h5w, h6w⟩ (cz_preV hZ hS hX hP hD [2] rfl rfl (ci := 2) (q0 := 2) rfl rfl) rfl rfl hl.1 rfl (lv_room (Nat.le_of_ble_eq_true rfl)) dX9_ride_14 ⟨Nat.le_of_ble_eq_true rfl, Nat.le_of_ble_eq_true rfl⟩) hP hD hS hA [2] [0, 1, 3] rfl rfl (by decide) (by decide) (fun r u H locs hp hP hD hS => ?_)
  have hp : r = 1 := hp
  subst hp
  refine cz_i (wr := [(p6, .inr (2, [.int 1, v24, v25, v26, v27, v28, v29, v30, v31, v32, v33, v34, v35, v36]))]) (va_runV (As := [.int 1]) (rest := []) ⟨hx, hb, hml, hown, hts⟩ (cX9_judged_0 l G k p0 v2 v3 v4 v5 (.ref p6) v7 p8 v9 v10 v11 v12 (.int 268435455) v13 v14 v15 v16 v17 v18 v19 v20 v21 v22 p23 H.size) (cwV 1 hts gX9_ride_X9_judged rfl rfl rfl (by decide +kernel) ⟨Nat.le_of_ble_eq_true rfl, Nat.le_of_ble_eq_true rfl⟩) (cz_preV hZ hS hX hP hD [0, 1, 2] rfl rfl (ci := 6) (q0 := 0) rfl rfl) rfl rfl hl.1 rfl (lv_room (Nat.le_of_ble_eq_true rfl)) dX9_ride_17 ⟨Nat.le_of_ble_eq_true rfl, Nat.le_of_ble_eq_true rfl⟩) hP hD hS hA [0, 1, 2] [3] rfl rfl (by decide) (by decide) (fun r u H locs hp hP hD hS => ?_)
  have hp : r = 1 := hp
  subst hp
  refine lv_istore_n (lv' := [(3, .int 1), (0, .ref p0), (1, .int 0), (2, .int i1)]) hx hb dX9_ride_20 rfl hl (by decide) rfl (fun ls hl => ?_)
  refine lv_iload_n hx hb dX9_ride_21 rfl (lv_at hl 0 rfl) ?_
  refine lv_if_ne (tgt := 74) hx hb dX9_ride_22 (by decide) (fun _ => ?_) (fun q => absurd (q) (by decide +kernel))
  refine lv_iload_n hx hb dX9_ride_74 rfl (lv_at hl 0 rfl) ?_
  have hP9 := hP.sub (ws' := [(p6, .inr (2, [.int 1, v24, v25, v26, v27, v28, v29, v30, v31, v32, v33, v34, v35, v36])), (p0, .inr (6, [v2, v3, v4, v5, .ref p6, v7, .ref p8, v9, v10, v11, v12])), (p8, .inr (0, [.int 268435455, v13, v14, v15, v16, v17, v18, v19, v20, v21, v22, .ref p23])), (p23, .inl (k 0, 3, .inl (upd (fun _ => 0) (1 : Int32).toNatClampNeg 1)))]) [0, 1, 2, 3] rfl
  have hD9 := hD.sub (ws' := [(p6, .inr (2, [.int 1, v24, v25, v26, v27, v28, v29, v30, v31, v32, v33, v34, v35, v36])), (p0, .inr (6, [v2, v3, v4, v5, .ref p6, v7, .ref p8, v9, v10, v11, v12])), (p8, .inr (0, [.int 268435455, v13, v14, v15, v16, v17, v18, v19, v20, v21, v22, .ref p23])), (p23, .inl (k 0, 3, .inl (upd (fun _ => 0) (1 : Int32).toNatClampNeg 1)))]) [0, 1, 2, 3] (by decide) rfl
  exact W.iret (v := 1) hx hb hr (fun t ht hW => ⟨⟨1, (), rfl, rfl, by rw [ht]; exact hP9, hD9⟩, hS.F ht⟩) hS.2.2 dX9_ride_75

set_option maxHeartbeats 4000000 in
set_option maxRecDepth 100000 in
theorem cX3_rideTrouble_3 (l : Launch) (G : va_G) (k : Nat → ClassId) (p0 : Nat) (v1 : Value) (v2 : Value) (v3 : Value) (v4 : Value) (v5 : Value) (v6 : Value) (v7 : Value) (v8 : Value) (v9 : Value) (v10 : Value) (v11 : Value) (v12 : Value) (v13 : Value) (sz : Nat) : CMi l G k yX3_rideTrouble wsX3_rideTrouble ({ frames := 1, cells := 0, slots := 0, locals := 21 }) [.ref p0, .int 268435455, .int 0, .int 0] sz [(p0, .inr (2, [.int 1, v1, v2, v3, v4, v5, v6, v7, v8, v9, v10, v11, v12, v13]))] (fun r (u : Unit) => r = 3) (fun (u : Unit) => [(p0, .inr (2, [.int 1, v1, v2, v3, v4, v5, v6, v7, v8, v9, v10, v11, v12, v13]))]) := by
  refine Met.ofW (cc := cX3_rideTrouble) (maxL := 4) (ret := (some .int)) (by decide) rfl ?_
  intro p e s m args below meth c s₁ B hml hv
  obtain ⟨rfl, hsz, hP, hX, hD0, hZ0⟩ := hv
  have hx := B.exec
  have hb := B.bytes
  have hr := B.returns
  have hts := atoms_spec (ws := wsX3_rideTrouble) B.pre
  have hown : s.vm.findClass RX3 = some m.cls := findClass_of_methodNamed B.named
  subst hsz
  have hD := hD0.self (sz := s.heap.size)
  have hZ := ZX.up hP hZ0
  generalize hAe : va_A [(p0, .inr (2, [.int 1, v1, v2, v3, v4, v5, v6, v7, v8, v9, v10, v11, v12, v13]))] s.heap.size = A at hD hZ ⊢
  have hA : ∀ q : Nat, s.heap.size ≤ q → A q := fun q h => by rw [← hAe]; exact Or.inr h
  have hS : va_S A s.heap s.heap [] := va_S.rf
  have hP : va_P G vwCl [(p0, .inr (2, [.int 1, v1, v2, v3, v4, v5, v6, v7, v8, v9, v10, v11, v12, v13]))] s.heap := hP
  have hl := lv_entry ([.ref p0, .int 268435455, .int 0, .int 0]) (n := 4) (Nat.le_of_ble_eq_true rfl)
  rw [lg_entry_eq]
  generalize (lg_sl ([.ref p0, .int 268435455, .int 0, .int 0]) ++ List.replicate (4 - (lg_sl ([.ref p0, .int 268435455, .int 0, .int 0])).length) Slot.unset).toArray = ls at hl ⊢
  have hl : lv_has ls 4 [(0, .ref p0), (1, .int 268435455), (2, .int 0), (3, .int 0)] := hl
  have h0w := hts (.initialized RX7) (by decide +kernel)
  have h1w := hts (.static yX7_depth) (by decide +kernel)
  refine lv_aload_n hx hb dX3_rideTrouble_0 rfl (lv_at hl 0 rfl) ?_
  refine lv_iload_n hx hb dX3_rideTrouble_1 rfl (lv_at hl 2 rfl) ?_
  refine cz_i (wr := []) (va_runV (As := [.int 0]) (rest := []) ⟨hx, hb, hml, hown, hts⟩ (cX3_hasDepth_2 l G k p0 v1 v2 v3 v4 v5 v6 v7 v8 v9 v10 v11 v12 v13 s.heap.size) (cwV 1 hts gX3_rideTrouble_X3_hasDepth rfl rfl rfl (by decide +kernel) ⟨Nat.le_of_ble_eq_true rfl, Nat.le_of_ble_eq_true rfl⟩) (cz_preV hZ hS hX hP hD [0] rfl rfl (ci := 2) (q0 := 0) rfl rfl) rfl rfl hl.1 rfl (lv_room (Nat.le_of_ble_eq_true rfl)) dX3_rideTrouble_2 ⟨Nat.le_of_ble_eq_true rfl, Nat.le_of_ble_eq_true rfl⟩) hP hD hS hA [0] [] rfl rfl (by decide) (by decide) (fun r u H locs hp hP hD hS => ?_)
  have hp : r = 1 := hp
  subst hp
  refine lv_if_eq (tgt := 17) hx hb dX3_rideTrouble_5 (by decide) (fun q => absurd (q) (by decide +kernel)) (fun _ => ?_)
  refine lv_iload_n hx hb dX3_rideTrouble_8 rfl (lv_at hl 3 rfl) ?_
  refine lv_if_lt (tgt := 17) hx hb dX3_rideTrouble_9 (by decide) (fun q => absurd (q) (by decide +kernel)) (fun _ => ?_)
  refine lv_iload_n hx hb dX3_rideTrouble_12 rfl (lv_at hl 3 rfl) ?_
  refine lv_iconst (v := 2) hx hb dX3_rideTrouble_13 (by decide +kernel) ?_
  refine lv_icmp_le (tgt := 19) hx hb dX3_rideTrouble_14 (by decide) (fun _ => ?_) (fun q => absurd (by decide +kernel) (q))
  refine lv_iload_n hx hb dX3_rideTrouble_19 rfl (lv_at hl 2 rfl) ?_
  refine lv_iload_n hx hb dX3_rideTrouble_20 rfl (lv_at hl 1 rfl) ?_
  refine cz_i (wr := [(p0, .inr (2, [.int 1, v1, v2, v3, v4, v5, v6, v7, v8, v9, v10, v11, v12, v13]))]) (va_runSN (As := [.int 268435455]) (rest := [.int 0]) ⟨hx, hb, hml, hown, hts⟩ (cX7_depth_0 l G k H.size) ⟨va_cnB 1 hts gX3_rideTrouble_X7_depth_n74 rfl rfl rfl (nm_13 hX.2.2.1) h0w (by decide +kernel) ⟨Nat.le_of_ble_eq_true rfl, Nat.le_of_ble_eq_true rfl⟩, h1w, trivial⟩ (cz_preS hZ hS hX hP hD [] rfl rfl) rfl rfl hl.1 rfl (lv_room (Nat.le_of_ble_eq_true rfl)) dX3_rideTrouble_21 ⟨Nat.le_of_ble_eq_true rfl, Nat.le_of_ble_eq_true rfl⟩) hP hD hS hA [] [0] rfl rfl (by decide) (by decide) (fun r u H locs hp hP hD hS => ?_)
  have hp : r = 0 := hp
  subst hp
  refine lv_icmp_ne (tgt := 29) hx hb dX3_rideTrouble_24 (by decide) (fun q => absurd (by decide +kernel) (q)) (fun _ => ?_)
  refine lv_iconst (v := 3) hx hb dX3_rideTrouble_27 (by decide +kernel) ?_
  have hP9 := hP.sub (ws' := [(p0, .inr (2, [.int 1, v1, v2, v3, v4, v5, v6, v7, v8, v9, v10, v11, v12, v13]))]) [0] rfl
  have hD9 := hD.sub (ws' := [(p0, .inr (2, [.int 1, v1, v2, v3, v4, v5, v6, v7, v8, v9, v10, v11, v12, v13]))]) [0] (by decide) rfl
  exact W.iret (v := 3) hx hb hr (fun t ht hW => ⟨⟨3, (), rfl, rfl, by rw [ht]; exact hP9, hD9⟩, hS.F ht⟩) hS.2.2 dX3_rideTrouble_28

set_option maxHeartbeats 4000000 in
set_option maxRecDepth 100000 in
theorem cX9_judged_1 (l : Launch) (G : va_G) (k : Nat → ClassId) (p0 : Nat) (v1 : Value) (v2 : Value) (v3 : Value) (v4 : Value) (v5 : Value) (v6 : Value) (p7 : Nat) (v8 : Value) (v9 : Value) (v10 : Value) (v11 : Value) (v12 : Value) (v13 : Value) (v14 : Value) (v15 : Value) (v16 : Value) (v17 : Value) (v18 : Value) (v19 : Value) (v20 : Value) (v21 : Value) (v22 : Value) (p23 : Nat) (sz : Nat) : CMi l G k yX9_judged wsX9_judged ({ frames := 0, cells := 0, slots := 0, locals := 0 }) [.ref p0, .int 3] sz [(p0, .inr (6, [v1, v2, v3, v4, v5, v6, .ref p7, v8, v9, v10, v11])), (p7, .inr (0, [v12, v13, v14, v15, v16, v17, v18, v19, v20, v21, v22, .ref p23])), (p23, .inl (k 0, 3, .inl (fun _ => 0)))] (fun r (u : Unit) => r = 3) (fun (u : Unit) => [(p0, .inr (6, [v1, v2, v3, v4, v5, v6, .ref p7, v8, v9, v10, v11])), (p7, .inr (0, [v12, v13, v14, v15, v16, v17, v18, v19, v20, v21, v22, .ref p23])), (p23, .inl (k 0, 3, .inl (upd (fun _ => 0) (1 : Int32).toNatClampNeg 1)))]) := by
  refine Met.ofW (cc := cX9_judged) (maxL := 3) (ret := (some .int)) (by decide) rfl ?_
  intro p e s m args below meth c s₁ B hml hv
  obtain ⟨rfl, hsz, hP, hX, hD0, hZ0⟩ := hv
  have hx := B.exec
  have hb := B.bytes
  have hr := B.returns
  have hts := atoms_spec (ws := wsX9_judged) B.pre
  have hown : s.vm.findClass RX9 = some m.cls := findClass_of_methodNamed B.named
  subst hsz
  have hD := hD0.self (sz := s.heap.size)
  have hZ := ZX.up hP hZ0
  generalize hAe : va_A [(p0, .inr (6, [v1, v2, v3, v4, v5, v6, .ref p7, v8, v9, v10, v11])), (p7, .inr (0, [v12, v13, v14, v15, v16, v17, v18, v19, v20, v21, v22, .ref p23])), (p23, .inl (k 0, 3, .inl (fun _ => 0)))] s.heap.size = A at hD hZ ⊢
  have hA : ∀ q : Nat, s.heap.size ≤ q → A q := fun q h => by rw [← hAe]; exact Or.inr h
  have hS : va_S A s.heap s.heap [] := va_S.rf
  have hP : va_P G vwCl [(p0, .inr (6, [v1, v2, v3, v4, v5, v6, .ref p7, v8, v9, v10, v11])), (p7, .inr (0, [v12, v13, v14, v15, v16, v17, v18, v19, v20, v21, v22, .ref p23])), (p23, .inl (k 0, 3, .inl (fun _ => 0)))] s.heap := hP
  have hl := lv_entry ([.ref p0, .int 3]) (n := 3) (Nat.le_of_ble_eq_true rfl)
  rw [lg_entry_eq]
  generalize (lg_sl ([.ref p0, .int 3]) ++ List.replicate (3 - (lg_sl ([.ref p0, .int 3])).length) Slot.unset).toArray = ls at hl ⊢
  have hl : lv_has ls 3 [(0, .ref p0), (1, .int 3)] := hl
  have h0w := hts (.fieldLink RX9 42 "RopeTown" "book" "LRopeTown$Book;") (by decide +kernel)
  have h1w : ∀ w ∈ wsX90, w ∈ wsX9_judged := by decide +kernel
  have h2w : ∀ w ∈ wsX10, w ∈ wsX9_judged := by decide +kernel
  refine lv_iload_n hx hb dX9_judged_0 rfl (lv_at hl 1 rfl) ?_
  refine lv_if_ne (tgt := 21) hx hb dX9_judged_1 (by decide) (fun _ => ?_) (fun q => absurd (q) (by decide +kernel))
  refine lv_iload_n hx hb dX9_judged_21 rfl (lv_at hl 1 rfl) ?_
  refine lv_istore_n (lv' := [(2, .int 3), (0, .ref p0), (1, .int 3)]) hx hb dX9_judged_22 rfl hl (by decide) rfl (fun ls hl => ?_)
  refine lv_iload_n hx hb dX9_judged_23 rfl (lv_at hl 0 rfl) ?_
  refine lv_if_eq (tgt := 40) hx hb dX9_judged_24 (by decide) (fun q => absurd (q) (by decide +kernel)) (fun _ => ?_)
  refine lv_aload_n hx hb dX9_judged_27 rfl (lv_at hl 1 rfl) ?_
  refine va_get (D := G) (ci := 6) (v := .ref p7) (C := RX9) (T := TX9) (N := 11) (ref := RX9) hx hb hts h1w hown hX.1 hP 0 rfl rfl 6 (by decide) h0w (fun _ h9 => h9) rfl dX9_judged_28 ?_
  refine va_getN (D := G) (ci := 0) (v := .ref p23) (C := RX1) (T := TX1) (N := 12) (ref := RX1) (host := RX9) hx hb hts h2w hown hX.1 hP 1 rfl rfl 11 (by decide) (nf_47 hX.2.2.1) (fun _ h9 => h9) rfl dX9_judged_31 ?_
  refine lv_iconst (v := 1) hx hb dX9_judged_34 (by decide +kernel) ?_
  refine lv_dup2_11 hx hb dX9_judged_35 rfl rfl ?_
  refine va_iald hx hb hX.1 hP 2 0 rfl rfl (by unfold vp_in; decide +kernel) dX9_judged_36 ?_
  refine cz_ti (w := 0) (by rfl) ?_
  refine lv_iconst (v := 1) hx hb dX9_judged_37 (by decide +kernel) ?_
  refine lv_iadd hx hb dX9_judged_38 ?_
  refine cz_ti (w := 1) (by decide +kernel) ?_
  refine va_iast hx hb hX.1 hP hD hS 2 0 rfl rfl (by unfold vp_in; decide +kernel) dX9_judged_39 (fun H locs hP hD hS => ?_)
  refine lv_iload_n hx hb dX9_judged_40 rfl (lv_at hl 0 rfl) ?_
  have hP9 := hP.sub (ws' := [(p0, .inr (6, [v1, v2, v3, v4, v5, v6, .ref p7, v8, v9, v10, v11])), (p7, .inr (0, [v12, v13, v14, v15, v16, v17, v18, v19, v20, v21, v22, .ref p23])), (p23, .inl (k 0, 3, .inl (upd (fun _ => 0) (1 : Int32).toNatClampNeg 1)))]) [0, 1, 2] rfl
  have hD9 := hD.sub (ws' := [(p0, .inr (6, [v1, v2, v3, v4, v5, v6, .ref p7, v8, v9, v10, v11])), (p7, .inr (0, [v12, v13, v14, v15, v16, v17, v18, v19, v20, v21, v22, .ref p23])), (p23, .inl (k 0, 3, .inl (upd (fun _ => 0) (1 : Int32).toNatClampNeg 1)))]) [0, 1, 2] (by decide) rfl
  exact W.iret (v := 3) hx hb hr (fun t ht hW => ⟨⟨3, (), rfl, rfl, by rw [ht]; exact hP9, hD9⟩, hS.F ht⟩) hS.2.2 dX9_judged_41

set_option maxHeartbeats 4000000 in
set_option maxRecDepth 100000 in
theorem cX9_ride_3 (l : Launch) (G : va_G) (k : Nat → ClassId) (p0 : Nat) (v1 : Value) (v2 : Value) (v3 : Value) (v4 : Value) (p5 : Nat) (v6 : Value) (p7 : Nat) (v8 : Value) (v9 : Value) (v10 : Value) (v11 : Value) (v12 : Value) (v13 : Value) (v14 : Value) (v15 : Value) (v16 : Value) (v17 : Value) (v18 : Value) (v19 : Value) (v20 : Value) (v21 : Value) (p22 : Nat) (v23 : Value) (v24 : Value) (v25 : Value) (v26 : Value) (v27 : Value) (v28 : Value) (v29 : Value) (v30 : Value) (v31 : Value) (v32 : Value) (v33 : Value) (v34 : Value) (v35 : Value) (sz : Nat) : CMi l G k yX9_ride wsX9_ride ({ frames := 2, cells := 0, slots := 0, locals := 44 }) [.ref p0, .int 0, .int 0] sz [(p0, .inr (6, [v1, v2, v3, v4, .ref p5, v6, .ref p7, v8, v9, v10, v11])), (p7, .inr (0, [.int 268435455, v12, v13, v14, v15, v16, v17, v18, v19, v20, v21, .ref p22])), (p5, .inr (2, [.int 1, v23, v24, v25, v26, v27, v28, v29, v30, v31, v32, v33, v34, v35])), (p22, .inl (k 0, 3, .inl (fun _ => 0)))] (fun r (u : Unit) => r = 3) (fun (u : Unit) => [(p5, .inr (2, [.int 1, v23, v24, v25, v26, v27, v28, v29, v30, v31, v32, v33, v34, v35])), (p0, .inr (6, [v1, v2, v3, v4, .ref p5, v6, .ref p7, v8, v9, v10, v11])), (p7, .inr (0, [.int 268435455, v12, v13, v14, v15, v16, v17, v18, v19, v20, v21, .ref p22])), (p22, .inl (k 0, 3, .inl (upd (fun _ => 0) (1 : Int32).toNatClampNeg 1)))]) := by
  refine Met.ofW (cc := cX9_ride) (maxL := 5) (ret := (some .int)) (by decide) rfl ?_
  intro p e s m args below meth c s₁ B hml hv
  obtain ⟨rfl, hsz, hP, hX, hD0, hZ0⟩ := hv
  have hx := B.exec
  have hb := B.bytes
  have hr := B.returns
  have hts := atoms_spec (ws := wsX9_ride) B.pre
  have hown : s.vm.findClass RX9 = some m.cls := findClass_of_methodNamed B.named
  subst hsz
  have hD := hD0.self (sz := s.heap.size)
  have hZ := ZX.up hP hZ0
  generalize hAe : va_A [(p0, .inr (6, [v1, v2, v3, v4, .ref p5, v6, .ref p7, v8, v9, v10, v11])), (p7, .inr (0, [.int 268435455, v12, v13, v14, v15, v16, v17, v18, v19, v20, v21, .ref p22])), (p5, .inr (2, [.int 1, v23, v24, v25, v26, v27, v28, v29, v30, v31, v32, v33, v34, v35])), (p22, .inl (k 0, 3, .inl (fun _ => 0)))] s.heap.size = A at hD hZ ⊢
  have hA : ∀ q : Nat, s.heap.size ≤ q → A q := fun q h => by rw [← hAe]; exact Or.inr h
  have hS : va_S A s.heap s.heap [] := va_S.rf
  have hP : va_P G vwCl [(p0, .inr (6, [v1, v2, v3, v4, .ref p5, v6, .ref p7, v8, v9, v10, v11])), (p7, .inr (0, [.int 268435455, v12, v13, v14, v15, v16, v17, v18, v19, v20, v21, .ref p22])), (p5, .inr (2, [.int 1, v23, v24, v25, v26, v27, v28, v29, v30, v31, v32, v33, v34, v35])), (p22, .inl (k 0, 3, .inl (fun _ => 0)))] s.heap := hP
  have hl := lv_entry ([.ref p0, .int 0, .int 0]) (n := 5) (Nat.le_of_ble_eq_true rfl)
  rw [lg_entry_eq]
  generalize (lg_sl ([.ref p0, .int 0, .int 0]) ++ List.replicate (5 - (lg_sl ([.ref p0, .int 0, .int 0])).length) Slot.unset).toArray = ls at hl ⊢
  have hl : lv_has ls 5 [(0, .ref p0), (1, .int 0), (2, .int 0)] := hl
  have h0w := hts (.fieldLink RX9 23 "RopeTown" "plan" "LRopeTown$Plan;") (by decide +kernel)
  have h1w : ∀ w ∈ wsX90, w ∈ wsX9_ride := by decide +kernel
  have h2w := hts (.fieldLink RX9 42 "RopeTown" "book" "LRopeTown$Book;") (by decide +kernel)
  have h3w : ∀ w ∈ wsX10, w ∈ wsX9_ride := by decide +kernel
  have h4w := hts (.initialized RX3) (by decide +kernel)
  have h5w := hts (.instanceMethod yX3_rideTrouble) (by decide +kernel)
  have h6w := hts (.selects RX3 yX3_rideTrouble yX3_rideTrouble) (by decide +kernel)
  refine lv_aload_n hx hb dX9_ride_0 rfl (lv_at hl 0 rfl) ?_
  refine lv_aload_n hx hb dX9_ride_1 rfl (lv_at hl 0 rfl) ?_
  refine va_get (D := G) (ci := 6) (v := .ref p5) (C := RX9) (T := TX9) (N := 11) (ref := RX9) hx hb hts h1w hown hX.1 hP 0 rfl rfl 4 (by decide) h0w (fun _ h9 => h9) rfl dX9_ride_2 ?_
  refine lv_aload_n hx hb dX9_ride_5 rfl (lv_at hl 0 rfl) ?_
  refine va_get (D := G) (ci := 6) (v := .ref p7) (C := RX9) (T := TX9) (N := 11) (ref := RX9) hx hb hts h1w hown hX.1 hP 0 rfl rfl 6 (by decide) h2w (fun _ h9 => h9) rfl dX9_ride_6 ?_
  refine va_getN (D := G) (ci := 0) (v := .int 268435455) (C := RX1) (T := TX1) (N := 12) (ref := RX1) (host := RX9) hx hb hts h3w hown hX.1 hP 1 rfl rfl 0 (by decide) (nf_37 hX.2.2.1) (fun _ h9 => h9) rfl dX9_ride_9 ?_
  refine lv_iload_n hx hb dX9_ride_12 rfl (lv_at hl 1 rfl) ?_
  refine lv_iload_n hx hb dX9_ride_13 rfl (lv_at hl 2 rfl) ?_
  refine cz_i (wr := [(p0, .inr (6, [v1, v2, v3, v4, .ref p5, v6, .ref p7, v8, v9, v10, v11])), (p7, .inr (0, [.int 268435455, v12, v13, v14, v15, v16, v17, v18, v19, v20, v21, .ref p22])), (p22, .inl (k 0, 3, .inl (fun _ => 0)))]) (va_runVN (As := [.int 268435455, .int 0, .int 0]) (rest := [.ref p0]) ⟨hx, hb, hml, hown, hts⟩ (cX3_rideTrouble_3 l G k p5 v23 v24 v25 v26 v27 v28 v29 v30 v31 v32 v33 v34 v35 s.heap.size) ⟨va_cnB 3 hts gX9_ride_X3_rideTrouble_n213 rfl rfl rfl (nm_19 hX.2.2.1) h4w (by decide +kernel) ⟨Nat.le_of_ble_eq_true rfl, Nat.le_of_ble_eq_true rfl⟩, h5w, h6w⟩ (cz_preV hZ hS hX hP hD [2] rfl rfl (ci := 2) (q0 := 2) rfl rfl) rfl rfl hl.1 rfl (lv_room (Nat.le_of_ble_eq_true rfl)) dX9_ride_14 ⟨Nat.le_of_ble_eq_true rfl, Nat.le_of_ble_eq_true rfl⟩) hP hD hS hA [2] [0, 1, 3] rfl rfl (by decide) (by decide) (fun r u H locs hp hP hD hS => ?_)
  have hp : r = 3 := hp
  subst hp
  refine cz_i (wr := [(p5, .inr (2, [.int 1, v23, v24, v25, v26, v27, v28, v29, v30, v31, v32, v33, v34, v35]))]) (va_runV (As := [.int 3]) (rest := []) ⟨hx, hb, hml, hown, hts⟩ (cX9_judged_1 l G k p0 v1 v2 v3 v4 (.ref p5) v6 p7 v8 v9 v10 v11 (.int 268435455) v12 v13 v14 v15 v16 v17 v18 v19 v20 v21 p22 H.size) (cwV 1 hts gX9_ride_X9_judged rfl rfl rfl (by decide +kernel) ⟨Nat.le_of_ble_eq_true rfl, Nat.le_of_ble_eq_true rfl⟩) (cz_preV hZ hS hX hP hD [0, 1, 2] rfl rfl (ci := 6) (q0 := 0) rfl rfl) rfl rfl hl.1 rfl (lv_room (Nat.le_of_ble_eq_true rfl)) dX9_ride_17 ⟨Nat.le_of_ble_eq_true rfl, Nat.le_of_ble_eq_true rfl⟩) hP hD hS hA [0, 1, 2] [3] rfl rfl (by decide) (by decide) (fun r u H locs hp hP hD hS => ?_)
  have hp : r = 3 := hp
  subst hp
  refine lv_istore_n (lv' := [(3, .int 3), (0, .ref p0), (1, .int 0), (2, .int 0)]) hx hb dX9_ride_20 rfl hl (by decide) rfl (fun ls hl => ?_)
  refine lv_iload_n hx hb dX9_ride_21 rfl (lv_at hl 0 rfl) ?_
  refine lv_if_ne (tgt := 74) hx hb dX9_ride_22 (by decide) (fun _ => ?_) (fun q => absurd (q) (by decide +kernel))
  refine lv_iload_n hx hb dX9_ride_74 rfl (lv_at hl 0 rfl) ?_
  have hP9 := hP.sub (ws' := [(p5, .inr (2, [.int 1, v23, v24, v25, v26, v27, v28, v29, v30, v31, v32, v33, v34, v35])), (p0, .inr (6, [v1, v2, v3, v4, .ref p5, v6, .ref p7, v8, v9, v10, v11])), (p7, .inr (0, [.int 268435455, v12, v13, v14, v15, v16, v17, v18, v19, v20, v21, .ref p22])), (p22, .inl (k 0, 3, .inl (upd (fun _ => 0) (1 : Int32).toNatClampNeg 1)))]) [0, 1, 2, 3] rfl
  have hD9 := hD.sub (ws' := [(p5, .inr (2, [.int 1, v23, v24, v25, v26, v27, v28, v29, v30, v31, v32, v33, v34, v35])), (p0, .inr (6, [v1, v2, v3, v4, .ref p5, v6, .ref p7, v8, v9, v10, v11])), (p7, .inr (0, [.int 268435455, v12, v13, v14, v15, v16, v17, v18, v19, v20, v21, .ref p22])), (p22, .inl (k 0, 3, .inl (upd (fun _ => 0) (1 : Int32).toNatClampNeg 1)))]) [0, 1, 2, 3] (by decide) rfl
  exact W.iret (v := 3) hx hb hr (fun t ht hW => ⟨⟨3, (), rfl, rfl, by rw [ht]; exact hP9, hD9⟩, hS.F ht⟩) hS.2.2 dX9_ride_75

set_option maxHeartbeats 4000000 in
set_option maxRecDepth 100000 in
theorem cX3_rideTrouble_4 (l : Launch) (G : va_G) (k : Nat → ClassId) (p0 : Nat) (v1 : Value) (v2 : Value) (v3 : Value) (v4 : Value) (v5 : Value) (v6 : Value) (v7 : Value) (v8 : Value) (v9 : Value) (v10 : Value) (v11 : Value) (v12 : Value) (v13 : Value) (sz : Nat) : CMi l G k yX3_rideTrouble wsX3_rideTrouble ({ frames := 1, cells := 0, slots := 0, locals := 21 }) [.ref p0, .int 268435455, .int 0, .int 1] sz [(p0, .inr (2, [.int 1, v1, v2, v3, v4, v5, v6, v7, v8, v9, v10, v11, v12, v13]))] (fun r (u : Unit) => r = 3) (fun (u : Unit) => [(p0, .inr (2, [.int 1, v1, v2, v3, v4, v5, v6, v7, v8, v9, v10, v11, v12, v13]))]) := by
  refine Met.ofW (cc := cX3_rideTrouble) (maxL := 4) (ret := (some .int)) (by decide) rfl ?_
  intro p e s m args below meth c s₁ B hml hv
  obtain ⟨rfl, hsz, hP, hX, hD0, hZ0⟩ := hv
  have hx := B.exec
  have hb := B.bytes
  have hr := B.returns
  have hts := atoms_spec (ws := wsX3_rideTrouble) B.pre
  have hown : s.vm.findClass RX3 = some m.cls := findClass_of_methodNamed B.named
  subst hsz
  have hD := hD0.self (sz := s.heap.size)
  have hZ := ZX.up hP hZ0
  generalize hAe : va_A [(p0, .inr (2, [.int 1, v1, v2, v3, v4, v5, v6, v7, v8, v9, v10, v11, v12, v13]))] s.heap.size = A at hD hZ ⊢
  have hA : ∀ q : Nat, s.heap.size ≤ q → A q := fun q h => by rw [← hAe]; exact Or.inr h
  have hS : va_S A s.heap s.heap [] := va_S.rf
  have hP : va_P G vwCl [(p0, .inr (2, [.int 1, v1, v2, v3, v4, v5, v6, v7, v8, v9, v10, v11, v12, v13]))] s.heap := hP
  have hl := lv_entry ([.ref p0, .int 268435455, .int 0, .int 1]) (n := 4) (Nat.le_of_ble_eq_true rfl)
  rw [lg_entry_eq]
  generalize (lg_sl ([.ref p0, .int 268435455, .int 0, .int 1]) ++ List.replicate (4 - (lg_sl ([.ref p0, .int 268435455, .int 0, .int 1])).length) Slot.unset).toArray = ls at hl ⊢
  have hl : lv_has ls 4 [(0, .ref p0), (1, .int 268435455), (2, .int 0), (3, .int 1)] := hl
  have h0w := hts (.initialized RX7) (by decide +kernel)
  have h1w := hts (.static yX7_depth) (by decide +kernel)
  refine lv_aload_n hx hb dX3_rideTrouble_0 rfl (lv_at hl 0 rfl) ?_
  refine lv_iload_n hx hb dX3_rideTrouble_1 rfl (lv_at hl 2 rfl) ?_
  refine cz_i (wr := []) (va_runV (As := [.int 0]) (rest := []) ⟨hx, hb, hml, hown, hts⟩ (cX3_hasDepth_2 l G k p0 v1 v2 v3 v4 v5 v6 v7 v8 v9 v10 v11 v12 v13 s.heap.size) (cwV 1 hts gX3_rideTrouble_X3_hasDepth rfl rfl rfl (by decide +kernel) ⟨Nat.le_of_ble_eq_true rfl, Nat.le_of_ble_eq_true rfl⟩) (cz_preV hZ hS hX hP hD [0] rfl rfl (ci := 2) (q0 := 0) rfl rfl) rfl rfl hl.1 rfl (lv_room (Nat.le_of_ble_eq_true rfl)) dX3_rideTrouble_2 ⟨Nat.le_of_ble_eq_true rfl, Nat.le_of_ble_eq_true rfl⟩) hP hD hS hA [0] [] rfl rfl (by decide) (by decide) (fun r u H locs hp hP hD hS => ?_)
  have hp : r = 1 := hp
  subst hp
  refine lv_if_eq (tgt := 17) hx hb dX3_rideTrouble_5 (by decide) (fun q => absurd (q) (by decide +kernel)) (fun _ => ?_)
  refine lv_iload_n hx hb dX3_rideTrouble_8 rfl (lv_at hl 3 rfl) ?_
  refine lv_if_lt (tgt := 17) hx hb dX3_rideTrouble_9 (by decide) (fun q => absurd (q) (by decide +kernel)) (fun _ => ?_)
  refine lv_iload_n hx hb dX3_rideTrouble_12 rfl (lv_at hl 3 rfl) ?_
  refine lv_iconst (v := 2) hx hb dX3_rideTrouble_13 (by decide +kernel) ?_
  refine lv_icmp_le (tgt := 19) hx hb dX3_rideTrouble_14 (by decide) (fun _ => ?_) (fun q => absurd (by decide +kernel) (q))
  refine lv_iload_n hx hb dX3_rideTrouble_19 rfl (lv_at hl 2 rfl) ?_
  refine lv_iload_n hx hb dX3_rideTrouble_20 rfl (lv_at hl 1 rfl) ?_
  refine cz_i (wr := [(p0, .inr (2, [.int 1, v1, v2, v3, v4, v5, v6, v7, v8, v9, v10, v11, v12, v13]))]) (va_runSN (As := [.int 268435455]) (rest := [.int 0]) ⟨hx, hb, hml, hown, hts⟩ (cX7_depth_0 l G k H.size) ⟨va_cnB 1 hts gX3_rideTrouble_X7_depth_n74 rfl rfl rfl (nm_13 hX.2.2.1) h0w (by decide +kernel) ⟨Nat.le_of_ble_eq_true rfl, Nat.le_of_ble_eq_true rfl⟩, h1w, trivial⟩ (cz_preS hZ hS hX hP hD [] rfl rfl) rfl rfl hl.1 rfl (lv_room (Nat.le_of_ble_eq_true rfl)) dX3_rideTrouble_21 ⟨Nat.le_of_ble_eq_true rfl, Nat.le_of_ble_eq_true rfl⟩) hP hD hS hA [] [0] rfl rfl (by decide) (by decide) (fun r u H locs hp hP hD hS => ?_)
  have hp : r = 0 := hp
  subst hp
  refine lv_icmp_ne (tgt := 29) hx hb dX3_rideTrouble_24 (by decide) (fun q => absurd (by decide +kernel) (q)) (fun _ => ?_)
  refine lv_iconst (v := 3) hx hb dX3_rideTrouble_27 (by decide +kernel) ?_
  have hP9 := hP.sub (ws' := [(p0, .inr (2, [.int 1, v1, v2, v3, v4, v5, v6, v7, v8, v9, v10, v11, v12, v13]))]) [0] rfl
  have hD9 := hD.sub (ws' := [(p0, .inr (2, [.int 1, v1, v2, v3, v4, v5, v6, v7, v8, v9, v10, v11, v12, v13]))]) [0] (by decide) rfl
  exact W.iret (v := 3) hx hb hr (fun t ht hW => ⟨⟨3, (), rfl, rfl, by rw [ht]; exact hP9, hD9⟩, hS.F ht⟩) hS.2.2 dX3_rideTrouble_28

set_option maxHeartbeats 4000000 in
set_option maxRecDepth 100000 in
theorem cX9_ride_4 (l : Launch) (G : va_G) (k : Nat → ClassId) (p0 : Nat) (v1 : Value) (v2 : Value) (v3 : Value) (v4 : Value) (p5 : Nat) (v6 : Value) (p7 : Nat) (v8 : Value) (v9 : Value) (v10 : Value) (v11 : Value) (v12 : Value) (v13 : Value) (v14 : Value) (v15 : Value) (v16 : Value) (v17 : Value) (v18 : Value) (v19 : Value) (v20 : Value) (v21 : Value) (p22 : Nat) (v23 : Value) (v24 : Value) (v25 : Value) (v26 : Value) (v27 : Value) (v28 : Value) (v29 : Value) (v30 : Value) (v31 : Value) (v32 : Value) (v33 : Value) (v34 : Value) (v35 : Value) (sz : Nat) : CMi l G k yX9_ride wsX9_ride ({ frames := 2, cells := 0, slots := 0, locals := 44 }) [.ref p0, .int 0, .int 1] sz [(p0, .inr (6, [v1, v2, v3, v4, .ref p5, v6, .ref p7, v8, v9, v10, v11])), (p7, .inr (0, [.int 268435455, v12, v13, v14, v15, v16, v17, v18, v19, v20, v21, .ref p22])), (p5, .inr (2, [.int 1, v23, v24, v25, v26, v27, v28, v29, v30, v31, v32, v33, v34, v35])), (p22, .inl (k 0, 3, .inl (fun _ => 0)))] (fun r (u : Unit) => r = 3) (fun (u : Unit) => [(p5, .inr (2, [.int 1, v23, v24, v25, v26, v27, v28, v29, v30, v31, v32, v33, v34, v35])), (p0, .inr (6, [v1, v2, v3, v4, .ref p5, v6, .ref p7, v8, v9, v10, v11])), (p7, .inr (0, [.int 268435455, v12, v13, v14, v15, v16, v17, v18, v19, v20, v21, .ref p22])), (p22, .inl (k 0, 3, .inl (upd (fun _ => 0) (1 : Int32).toNatClampNeg 1)))]) := by
  refine Met.ofW (cc := cX9_ride) (maxL := 5) (ret := (some .int)) (by decide) rfl ?_
  intro p e s m args below meth c s₁ B hml hv
  obtain ⟨rfl, hsz, hP, hX, hD0, hZ0⟩ := hv
  have hx := B.exec
  have hb := B.bytes
  have hr := B.returns
  have hts := atoms_spec (ws := wsX9_ride) B.pre
  have hown : s.vm.findClass RX9 = some m.cls := findClass_of_methodNamed B.named
  subst hsz
  have hD := hD0.self (sz := s.heap.size)
  have hZ := ZX.up hP hZ0
  generalize hAe : va_A [(p0, .inr (6, [v1, v2, v3, v4, .ref p5, v6, .ref p7, v8, v9, v10, v11])), (p7, .inr (0, [.int 268435455, v12, v13, v14, v15, v16, v17, v18, v19, v20, v21, .ref p22])), (p5, .inr (2, [.int 1, v23, v24, v25, v26, v27, v28, v29, v30, v31, v32, v33, v34, v35])), (p22, .inl (k 0, 3, .inl (fun _ => 0)))] s.heap.size = A at hD hZ ⊢
  have hA : ∀ q : Nat, s.heap.size ≤ q → A q := fun q h => by rw [← hAe]; exact Or.inr h
  have hS : va_S A s.heap s.heap [] := va_S.rf
  have hP : va_P G vwCl [(p0, .inr (6, [v1, v2, v3, v4, .ref p5, v6, .ref p7, v8, v9, v10, v11])), (p7, .inr (0, [.int 268435455, v12, v13, v14, v15, v16, v17, v18, v19, v20, v21, .ref p22])), (p5, .inr (2, [.int 1, v23, v24, v25, v26, v27, v28, v29, v30, v31, v32, v33, v34, v35])), (p22, .inl (k 0, 3, .inl (fun _ => 0)))] s.heap := hP
  have hl := lv_entry ([.ref p0, .int 0, .int 1]) (n := 5) (Nat.le_of_ble_eq_true rfl)
  rw [lg_entry_eq]
  generalize (lg_sl ([.ref p0, .int 0, .int 1]) ++ List.replicate (5 - (lg_sl ([.ref p0, .int 0, .int 1])).length) Slot.unset).toArray = ls at hl ⊢
  have hl : lv_has ls 5 [(0, .ref p0), (1, .int 0), (2, .int 1)] := hl
  have h0w := hts (.fieldLink RX9 23 "RopeTown" "plan" "LRopeTown$Plan;") (by decide +kernel)
  have h1w : ∀ w ∈ wsX90, w ∈ wsX9_ride := by decide +kernel
  have h2w := hts (.fieldLink RX9 42 "RopeTown" "book" "LRopeTown$Book;") (by decide +kernel)
  have h3w : ∀ w ∈ wsX10, w ∈ wsX9_ride := by decide +kernel
  have h4w := hts (.initialized RX3) (by decide +kernel)
  have h5w := hts (.instanceMethod yX3_rideTrouble) (by decide +kernel)
  have h6w := hts (.selects RX3 yX3_rideTrouble yX3_rideTrouble) (by decide +kernel)
  refine lv_aload_n hx hb dX9_ride_0 rfl (lv_at hl 0 rfl) ?_
  refine lv_aload_n hx hb dX9_ride_1 rfl (lv_at hl 0 rfl) ?_
  refine va_get (D := G) (ci := 6) (v := .ref p5) (C := RX9) (T := TX9) (N := 11) (ref := RX9) hx hb hts h1w hown hX.1 hP 0 rfl rfl 4 (by decide) h0w (fun _ h9 => h9) rfl dX9_ride_2 ?_
  refine lv_aload_n hx hb dX9_ride_5 rfl (lv_at hl 0 rfl) ?_
  refine va_get (D := G) (ci := 6) (v := .ref p7) (C := RX9) (T := TX9) (N := 11) (ref := RX9) hx hb hts h1w hown hX.1 hP 0 rfl rfl 6 (by decide) h2w (fun _ h9 => h9) rfl dX9_ride_6 ?_
  refine va_getN (D := G) (ci := 0) (v := .int 268435455) (C := RX1) (T := TX1) (N := 12) (ref := RX1) (host := RX9) hx hb hts h3w hown hX.1 hP 1 rfl rfl 0 (by decide) (nf_37 hX.2.2.1) (fun _ h9 => h9) rfl dX9_ride_9 ?_
  refine lv_iload_n hx hb dX9_ride_12 rfl (lv_at hl 1 rfl) ?_
  refine lv_iload_n hx hb dX9_ride_13 rfl (lv_at hl 2 rfl) ?_
  refine cz_i (wr := [(p0, .inr (6, [v1, v2, v3, v4, .ref p5, v6, .ref p7, v8, v9, v10, v11])), (p7, .inr (0, [.int 268435455, v12, v13, v14, v15, v16, v17, v18, v19, v20, v21, .ref p22])), (p22, .inl (k 0, 3, .inl (fun _ => 0)))]) (va_runVN (As := [.int 268435455, .int 0, .int 1]) (rest := [.ref p0]) ⟨hx, hb, hml, hown, hts⟩ (cX3_rideTrouble_4 l G k p5 v23 v24 v25 v26 v27 v28 v29 v30 v31 v32 v33 v34 v35 s.heap.size) ⟨va_cnB 3 hts gX9_ride_X3_rideTrouble_n213 rfl rfl rfl (nm_19 hX.2.2.1) h4w (by decide +kernel) ⟨Nat.le_of_ble_eq_true rfl, Nat.le_of_ble_eq_true rfl⟩, h5w, h6w⟩ (cz_preV hZ hS hX hP hD [2] rfl rfl (ci := 2) (q0 := 2) rfl rfl) rfl rfl hl.1 rfl (lv_room (Nat.le_of_ble_eq_true rfl)) dX9_ride_14 ⟨Nat.le_of_ble_eq_true rfl, Nat.le_of_ble_eq_true rfl⟩) hP hD hS hA [2] [0, 1, 3] rfl rfl (by decide) (by decide) (fun r u H locs hp hP hD hS => ?_)
  have hp : r = 3 := hp
  subst hp
  refine cz_i (wr := [(p5, .inr (2, [.int 1, v23, v24, v25, v26, v27, v28, v29, v30, v31, v32, v33, v34, v35]))]) (va_runV (As := [.int 3]) (rest := []) ⟨hx, hb, hml, hown, hts⟩ (cX9_judged_1 l G k p0 v1 v2 v3 v4 (.ref p5) v6 p7 v8 v9 v10 v11 (.int 268435455) v12 v13 v14 v15 v16 v17 v18 v19 v20 v21 p22 H.size) (cwV 1 hts gX9_ride_X9_judged rfl rfl rfl (by decide +kernel) ⟨Nat.le_of_ble_eq_true rfl, Nat.le_of_ble_eq_true rfl⟩) (cz_preV hZ hS hX hP hD [0, 1, 2] rfl rfl (ci := 6) (q0 := 0) rfl rfl) rfl rfl hl.1 rfl (lv_room (Nat.le_of_ble_eq_true rfl)) dX9_ride_17 ⟨Nat.le_of_ble_eq_true rfl, Nat.le_of_ble_eq_true rfl⟩) hP hD hS hA [0, 1, 2] [3] rfl rfl (by decide) (by decide) (fun r u H locs hp hP hD hS => ?_)
  have hp : r = 3 := hp
  subst hp
  refine lv_istore_n (lv' := [(3, .int 3), (0, .ref p0), (1, .int 0), (2, .int 1)]) hx hb dX9_ride_20 rfl hl (by decide) rfl (fun ls hl => ?_)
  refine lv_iload_n hx hb dX9_ride_21 rfl (lv_at hl 0 rfl) ?_
  refine lv_if_ne (tgt := 74) hx hb dX9_ride_22 (by decide) (fun _ => ?_) (fun q => absurd (q) (by decide +kernel))
  refine lv_iload_n hx hb dX9_ride_74 rfl (lv_at hl 0 rfl) ?_
  have hP9 := hP.sub (ws' := [(p5, .inr (2, [.int 1, v23, v24, v25, v26, v27, v28, v29, v30, v31, v32, v33, v34, v35])), (p0, .inr (6, [v1, v2, v3, v4, .ref p5, v6, .ref p7, v8, v9, v10, v11])), (p7, .inr (0, [.int 268435455, v12, v13, v14, v15, v16, v17, v18, v19, v20, v21, .ref p22])), (p22, .inl (k 0, 3, .inl (upd (fun _ => 0) (1 : Int32).toNatClampNeg 1)))]) [0, 1, 2, 3] rfl
  have hD9 := hD.sub (ws' := [(p5, .inr (2, [.int 1, v23, v24, v25, v26, v27, v28, v29, v30, v31, v32, v33, v34, v35])), (p0, .inr (6, [v1, v2, v3, v4, .ref p5, v6, .ref p7, v8, v9, v10, v11])), (p7, .inr (0, [.int 268435455, v12, v13, v14, v15, v16, v17, v18, v19, v20, v21, .ref p22])), (p22, .inl (k 0, 3, .inl (upd (fun _ => 0) (1 : Int32).toNatClampNeg 1)))]) [0, 1, 2, 3] (by decide) rfl
  exact W.iret (v := 3) hx hb hr (fun t ht hW => ⟨⟨3, (), rfl, rfl, by rw [ht]; exact hP9, hD9⟩, hS.F ht⟩) hS.2.2 dX9_ride_75

set_option maxHeartbeats 4000000 in
set_option maxRecDepth 100000 in
theorem cX3_rideTrouble_5 (l : Launch) (G : va_G) (k : Nat → ClassId) (p0 : Nat) (v1 : Value) (v2 : Value) (v3 : Value) (v4 : Value) (v5 : Value) (v6 : Value) (v7 : Value) (v8 : Value) (v9 : Value) (v10 : Value) (v11 : Value) (v12 : Value) (v13 : Value) (sz : Nat) : CMi l G k yX3_rideTrouble wsX3_rideTrouble ({ frames := 1, cells := 0, slots := 0, locals := 21 }) [.ref p0, .int 268435455, .int 0, .int 2] sz [(p0, .inr (2, [.int 1, v1, v2, v3, v4, v5, v6, v7, v8, v9, v10, v11, v12, v13]))] (fun r (u : Unit) => r = 3) (fun (u : Unit) => [(p0, .inr (2, [.int 1, v1, v2, v3, v4, v5, v6, v7, v8, v9, v10, v11, v12, v13]))]) := by
  refine Met.ofW (cc := cX3_rideTrouble) (maxL := 4) (ret := (some .int)) (by decide) rfl ?_
  intro p e s m args below meth c s₁ B hml hv
  obtain ⟨rfl, hsz, hP, hX, hD0, hZ0⟩ := hv
  have hx := B.exec
  have hb := B.bytes
  have hr := B.returns
  have hts := atoms_spec (ws := wsX3_rideTrouble) B.pre
  have hown : s.vm.findClass RX3 = some m.cls := findClass_of_methodNamed B.named
  subst hsz
  have hD := hD0.self (sz := s.heap.size)
  have hZ := ZX.up hP hZ0
  generalize hAe : va_A [(p0, .inr (2, [.int 1, v1, v2, v3, v4, v5, v6, v7, v8, v9, v10, v11, v12, v13]))] s.heap.size = A at hD hZ ⊢
  have hA : ∀ q : Nat, s.heap.size ≤ q → A q := fun q h => by rw [← hAe]; exact Or.inr h
  have hS : va_S A s.heap s.heap [] := va_S.rf
  have hP : va_P G vwCl [(p0, .inr (2, [.int 1, v1, v2, v3, v4, v5, v6, v7, v8, v9, v10, v11, v12, v13]))] s.heap := hP
  have hl := lv_entry ([.ref p0, .int 268435455, .int 0, .int 2]) (n := 4) (Nat.le_of_ble_eq_true rfl)
  rw [lg_entry_eq]
  generalize (lg_sl ([.ref p0, .int 268435455, .int 0, .int 2]) ++ List.replicate (4 - (lg_sl ([.ref p0, .int 268435455, .int 0, .int 2])).length) Slot.unset).toArray = ls at hl ⊢
  have hl : lv_has ls 4 [(0, .ref p0), (1, .int 268435455), (2, .int 0), (3, .int 2)] := hl
  have h0w := hts (.initialized RX7) (by decide +kernel)
  have h1w := hts (.static yX7_depth) (by decide +kernel)
  refine lv_aload_n hx hb dX3_rideTrouble_0 rfl (lv_at hl 0 rfl) ?_
  refine lv_iload_n hx hb dX3_rideTrouble_1 rfl (lv_at hl 2 rfl) ?_
  refine cz_i (wr := []) (va_runV (As := [.int 0]) (rest := []) ⟨hx, hb, hml, hown, hts⟩ (cX3_hasDepth_2 l G k p0 v1 v2 v3 v4 v5 v6 v7 v8 v9 v10 v11 v12 v13 s.heap.size) (cwV 1 hts gX3_rideTrouble_X3_hasDepth rfl rfl rfl (by decide +kernel) ⟨Nat.le_of_ble_eq_true rfl, Nat.le_of_ble_eq_true rfl⟩) (cz_preV hZ hS hX hP hD [0] rfl rfl (ci := 2) (q0 := 0) rfl rfl) rfl rfl hl.1 rfl (lv_room (Nat.le_of_ble_eq_true rfl)) dX3_rideTrouble_2 ⟨Nat.le_of_ble_eq_true rfl, Nat.le_of_ble_eq_true rfl⟩) hP hD hS hA [0] [] rfl rfl (by decide) (by decide) (fun r u H locs hp hP hD hS => ?_)
  have hp : r = 1 := hp
  subst hp
  refine lv_if_eq (tgt := 17) hx hb dX3_rideTrouble_5 (by decide) (fun q => absurd (q) (by decide +kernel)) (fun _ => ?_)
  refine lv_iload_n hx hb dX3_rideTrouble_8 rfl (lv_at hl 3 rfl) ?_
  refine lv_if_lt (tgt := 17) hx hb dX3_rideTrouble_9 (by decide) (fun q => absurd (q) (by decide +kernel)) (fun _ => ?_)
  refine lv_iload_n hx hb dX3_rideTrouble_12 rfl (lv_at hl 3 rfl) ?_
  refine lv_iconst (v := 2) hx hb dX3_rideTrouble_13 (by decide +kernel) ?_
  refine lv_icmp_le (tgt := 19) hx hb dX3_rideTrouble_14 (by decide) (fun _ => ?_) (fun q => absurd (by decide +kernel) (q))
  refine lv_iload_n hx hb dX3_rideTrouble_19 rfl (lv_at hl 2 rfl) ?_
  refine lv_iload_n hx hb dX3_rideTrouble_20 rfl (lv_at hl 1 rfl) ?_
  refine cz_i (wr := [(p0, .inr (2, [.int 1, v1, v2, v3, v4, v5, v6, v7, v8, v9, v10, v11, v12, v13]))]) (va_runSN (As := [.int 268435455]) (rest := [.int 0]) ⟨hx, hb, hml, hown, hts⟩ (cX7_depth_0 l G k H.size) ⟨va_cnB 1 hts gX3_rideTrouble_X7_depth_n74 rfl rfl rfl (nm_13 hX.2.2.1) h0w (by decide +kernel) ⟨Nat.le_of_ble_eq_true rfl, Nat.le_of_ble_eq_true rfl⟩, h1w, trivial⟩ (cz_preS hZ hS hX hP hD [] rfl rfl) rfl rfl hl.1 rfl (lv_room (Nat.le_of_ble_eq_true rfl)) dX3_rideTrouble_21 ⟨Nat.le_of_ble_eq_true rfl, Nat.le_of_ble_eq_true rfl⟩) hP hD hS hA [] [0] rfl rfl (by decide) (by decide) (fun r u H locs hp hP hD hS => ?_)
  have hp : r = 0 := hp
  subst hp
  refine lv_icmp_ne (tgt := 29) hx hb dX3_rideTrouble_24 (by decide) (fun q => absurd (by decide +kernel) (q)) (fun _ => ?_)
  refine lv_iconst (v := 3) hx hb dX3_rideTrouble_27 (by decide +kernel) ?_
  have hP9 := hP.sub (ws' := [(p0, .inr (2, [.int 1, v1, v2, v3, v4, v5, v6, v7, v8, v9, v10, v11, v12, v13]))]) [0] rfl
  have hD9 := hD.sub (ws' := [(p0, .inr (2, [.int 1, v1, v2, v3, v4, v5, v6, v7, v8, v9, v10, v11, v12, v13]))]) [0] (by decide) rfl
  exact W.iret (v := 3) hx hb hr (fun t ht hW => ⟨⟨3, (), rfl, rfl, by rw [ht]; exact hP9, hD9⟩, hS.F ht⟩) hS.2.2 dX3_rideTrouble_28

set_option maxHeartbeats 4000000 in
set_option maxRecDepth 100000 in
theorem cX9_ride_5 (l : Launch) (G : va_G) (k : Nat → ClassId) (p0 : Nat) (v1 : Value) (v2 : Value) (v3 : Value) (v4 : Value) (p5 : Nat) (v6 : Value) (p7 : Nat) (v8 : Value) (v9 : Value) (v10 : Value) (v11 : Value) (v12 : Value) (v13 : Value) (v14 : Value) (v15 : Value) (v16 : Value) (v17 : Value) (v18 : Value) (v19 : Value) (v20 : Value) (v21 : Value) (p22 : Nat) (v23 : Value) (v24 : Value) (v25 : Value) (v26 : Value) (v27 : Value) (v28 : Value) (v29 : Value) (v30 : Value) (v31 : Value) (v32 : Value) (v33 : Value) (v34 : Value) (v35 : Value) (sz : Nat) : CMi l G k yX9_ride wsX9_ride ({ frames := 2, cells := 0, slots := 0, locals := 44 }) [.ref p0, .int 0, .int 2] sz [(p0, .inr (6, [v1, v2, v3, v4, .ref p5, v6, .ref p7, v8, v9, v10, v11])), (p7, .inr (0, [.int 268435455, v12, v13, v14, v15, v16, v17, v18, v19, v20, v21, .ref p22])), (p5, .inr (2, [.int 1, v23, v24, v25, v26, v27, v28, v29, v30, v31, v32, v33, v34, v35])), (p22, .inl (k 0, 3, .inl (fun _ => 0)))] (fun r (u : Unit) => r = 3) (fun (u : Unit) => [(p5, .inr (2, [.int 1, v23, v24, v25, v26, v27, v28, v29, v30, v31, v32, v33, v34, v35])), (p0, .inr (6, [v1, v2, v3, v4, .ref p5, v6, .ref p7, v8, v9, v10, v11])), (p7, .inr (0, [.int 268435455, v12, v13, v14, v15, v16, v17, v18, v19, v20, v21, .ref p22])), (p22, .inl (k 0, 3, .inl (upd (fun _ => 0) (1 : Int32).toNatClampNeg 1)))]) := by
  refine Met.ofW (cc := cX9_ride) (maxL := 5) (ret := (some .int)) (by decide) rfl ?_
  intro p e s m args below meth c s₁ B hml hv
  obtain ⟨rfl, hsz, hP, hX, hD0, hZ0⟩ := hv
  have hx := B.exec
  have hb := B.bytes
  have hr := B.returns
  have hts := atoms_spec (ws := wsX9_ride) B.pre
  have hown : s.vm.findClass RX9 = some m.cls := findClass_of_methodNamed B.named
  subst hsz
  have hD := hD0.self (sz := s.heap.size)
  have hZ := ZX.up hP hZ0
  generalize hAe : va_A [(p0, .inr (6, [v1, v2, v3, v4, .ref p5, v6, .ref p7, v8, v9, v10, v11])), (p7, .inr (0, [.int 268435455, v12, v13, v14, v15, v16, v17, v18, v19, v20, v21, .ref p22])), (p5, .inr (2, [.int 1, v23, v24, v25, v26, v27, v28, v29, v30, v31, v32, v33, v34, v35])), (p22, .inl (k 0, 3, .inl (fun _ => 0)))] s.heap.size = A at hD hZ ⊢
  have hA : ∀ q : Nat, s.heap.size ≤ q → A q := fun q h => by rw [← hAe]; exact Or.inr h
  have hS : va_S A s.heap s.heap [] := va_S.rf
  have hP : va_P G vwCl [(p0, .inr (6, [v1, v2, v3, v4, .ref p5, v6, .ref p7, v8, v9, v10, v11])), (p7, .inr (0, [.int 268435455, v12, v13, v14, v15, v16, v17, v18, v19, v20, v21, .ref p22])), (p5, .inr (2, [.int 1, v23, v24, v25, v26, v27, v28, v29, v30, v31, v32, v33, v34, v35])), (p22, .inl (k 0, 3, .inl (fun _ => 0)))] s.heap := hP
  have hl := lv_entry ([.ref p0, .int 0, .int 2]) (n := 5) (Nat.le_of_ble_eq_true rfl)
  rw [lg_entry_eq]
  generalize (lg_sl ([.ref p0, .int 0, .int 2]) ++ List.replicate (5 - (lg_sl ([.ref p0, .int 0, .int 2])).length) Slot.unset).toArray = ls at hl ⊢
  have hl : lv_has ls 5 [(0, .ref p0), (1, .int 0), (2, .int 2)] := hl
  have h0w := hts (.fieldLink RX9 23 "RopeTown" "plan" "LRopeTown$Plan;") (by decide +kernel)
  have h1w : ∀ w ∈ wsX90, w ∈ wsX9_ride := by decide +kernel
  have h2w := hts (.fieldLink RX9 42 "RopeTown" "book" "LRopeTown$Book;") (by decide +kernel)
  have h3w : ∀ w ∈ wsX10, w ∈ wsX9_ride := by decide +kernel
  have h4w := hts (.initialized RX3) (by decide +kernel)
  have h5w := hts (.instanceMethod yX3_rideTrouble) (by decide +kernel)
  have h6w := hts (.selects RX3 yX3_rideTrouble yX3_rideTrouble) (by decide +kernel)
  refine lv_aload_n hx hb dX9_ride_0 rfl (lv_at hl 0 rfl) ?_
  refine lv_aload_n hx hb dX9_ride_1 rfl (lv_at hl 0 rfl) ?_
  refine va_get (D := G) (ci := 6) (v := .ref p5) (C := RX9) (T := TX9) (N := 11) (ref := RX9) hx hb hts h1w hown hX.1 hP 0 rfl rfl 4 (by decide) h0w (fun _ h9 => h9) rfl dX9_ride_2 ?_
  refine lv_aload_n hx hb dX9_ride_5 rfl (lv_at hl 0 rfl) ?_
  refine va_get (D := G) (ci := 6) (v := .ref p7) (C := RX9) (T := TX9) (N := 11) (ref := RX9) hx hb hts h1w hown hX.1 hP 0 rfl rfl 6 (by decide) h2w (fun _ h9 => h9) rfl dX9_ride_6 ?_
  refine va_getN (D := G) (ci := 0) (v := .int 268435455) (C := RX1) (T := TX1) (N := 12) (ref := RX1) (host := RX9) hx hb hts h3w hown hX.1 hP 1 rfl rfl 0 (by decide) (nf_37 hX.2.2.1) (fun _ h9 => h9) rfl dX9_ride_9 ?_
  refine lv_iload_n hx hb dX9_ride_12 rfl (lv_at hl 1 rfl) ?_
  refine lv_iload_n hx hb dX9_ride_13 rfl (lv_at hl 2 rfl) ?_
  refine cz_i (wr := [(p0, .inr (6, [v1, v2, v3, v4, .ref p5, v6, .ref p7, v8, v9, v10, v11])), (p7, .inr (0, [.int 268435455, v12, v13, v14, v15, v16, v17, v18, v19, v20, v21, .ref p22])), (p22, .inl (k 0, 3, .inl (fun _ => 0)))]) (va_runVN (As := [.int 268435455, .int 0, .int 2]) (rest := [.ref p0]) ⟨hx, hb, hml, hown, hts⟩ (cX3_rideTrouble_5 l G k p5 v23 v24 v25 v26 v27 v28 v29 v30 v31 v32 v33 v34 v35 s.heap.size) ⟨va_cnB 3 hts gX9_ride_X3_rideTrouble_n213 rfl rfl rfl (nm_19 hX.2.2.1) h4w (by decide +kernel) ⟨Nat.le_of_ble_eq_true rfl, Nat.le_of_ble_eq_true rfl⟩, h5w, h6w⟩ (cz_preV hZ hS hX hP hD [2] rfl rfl (ci := 2) (q0 := 2) rfl rfl) rfl rfl hl.1 rfl (lv_room (Nat.le_of_ble_eq_true rfl)) dX9_ride_14 ⟨Nat.le_of_ble_eq_true rfl, Nat.le_of_ble_eq_true rfl⟩) hP hD hS hA [2] [0, 1, 3] rfl rfl (by decide) (by decide) (fun r u H locs hp hP hD hS => ?_)
  have hp : r = 3 := hp
  subst hp
  refine cz_i (wr := [(p5, .inr (2, [.int 1, v23, v24, v25, v26, v27, v28, v29, v30, v31, v32, v33, v34, v35]))]) (va_runV (As := [.int 3]) (rest := []) ⟨hx, hb, hml, hown, hts⟩ (cX9_judged_1 l G k p0 v1 v2 v3 v4 (.ref p5) v6 p7 v8 v9 v10 v11 (.int 268435455) v12 v13 v14 v15 v16 v17 v18 v19 v20 v21 p22 H.size) (cwV 1 hts gX9_ride_X9_judged rfl rfl rfl (by decide +kernel) ⟨Nat.le_of_ble_eq_true rfl, Nat.le_of_ble_eq_true rfl⟩) (cz_preV hZ hS hX hP hD [0, 1, 2] rfl rfl (ci := 6) (q0 := 0) rfl rfl) rfl rfl hl.1 rfl (lv_room (Nat.le_of_ble_eq_true rfl)) dX9_ride_17 ⟨Nat.le_of_ble_eq_true rfl, Nat.le_of_ble_eq_true rfl⟩) hP hD hS hA [0, 1, 2] [3] rfl rfl (by decide) (by decide) (fun r u H locs hp hP hD hS => ?_)
  have hp : r = 3 := hp
  subst hp
  refine lv_istore_n (lv' := [(3, .int 3), (0, .ref p0), (1, .int 0), (2, .int 2)]) hx hb dX9_ride_20 rfl hl (by decide) rfl (fun ls hl => ?_)
  refine lv_iload_n hx hb dX9_ride_21 rfl (lv_at hl 0 rfl) ?_
  refine lv_if_ne (tgt := 74) hx hb dX9_ride_22 (by decide) (fun _ => ?_) (fun q => absurd (q) (by decide +kernel))
  refine lv_iload_n hx hb dX9_ride_74 rfl (lv_at hl 0 rfl) ?_
  have hP9 := hP.sub (ws' := [(p5, .inr (2, [.int 1, v23, v24, v25, v26, v27, v28, v29, v30, v31, v32, v33, v34, v35])), (p0, .inr (6, [v1, v2, v3, v4, .ref p5, v6, .ref p7, v8, v9, v10, v11])), (p7, .inr (0, [.int 268435455, v12, v13, v14, v15, v16, v17, v18, v19, v20, v21, .ref p22])), (p22, .inl (k 0, 3, .inl (upd (fun _ => 0) (1 : Int32).toNatClampNeg 1)))]) [0, 1, 2, 3] rfl
  have hD9 := hD.sub (ws' := [(p5, .inr (2, [.int 1, v23, v24, v25, v26, v27, v28, v29, v30, v31, v32, v33, v34, v35])), (p0, .inr (6, [v1, v2, v3, v4, .ref p5, v6, .ref p7, v8, v9, v10, v11])), (p7, .inr (0, [.int 268435455, v12, v13, v14, v15, v16, v17, v18, v19, v20, v21, .ref p22])), (p22, .inl (k 0, 3, .inl (upd (fun _ => 0) (1 : Int32).toNatClampNeg 1)))]) [0, 1, 2, 3] (by decide) rfl
  exact W.iret (v := 3) hx hb hr (fun t ht hW => ⟨⟨3, (), rfl, rfl, by rw [ht]; exact hP9, hD9⟩, hS.F ht⟩) hS.2.2 dX9_ride_75

set_option maxHeartbeats 4000000 in
set_option maxRecDepth 100000 in
theorem cX3_rideTrouble_6 (l : Launch) (G : va_G) (k : Nat → ClassId) (p0 : Nat) (i1 : Int32) (v2 : Value) (v3 : Value) (v4 : Value) (v5 : Value) (v6 : Value) (v7 : Value) (v8 : Value) (v9 : Value) (v10 : Value) (v11 : Value) (v12 : Value) (v13 : Value) (v14 : Value) (sz : Nat) (hi1 : 2 < i1) : CMi l G k yX3_rideTrouble wsX3_rideTrouble ({ frames := 1, cells := 0, slots := 0, locals := 21 }) [.ref p0, .int 268435455, .int 0, .int i1] sz [(p0, .inr (2, [.int 1, v2, v3, v4, v5, v6, v7, v8, v9, v10, v11, v12, v13, v14]))] (fun r (u : Unit) => r = 1) (fun (u : Unit) => [(p0, .inr (2, [.int 1, v2, v3, v4, v5, v6, v7, v8, v9, v10, v11, v12, v13, v14]))]) := by
  refine Met.ofW (cc := cX3_rideTrouble) (maxL := 4) (ret := (some .int)) (by decide) rfl ?_
  intro p e s m args below meth c s₁ B hml hv
  obtain ⟨rfl, hsz, hP, hX, hD0, hZ0⟩ := hv
  have hx := B.exec
  have hb := B.bytes
  have hr := B.returns
  have hts := atoms_spec (ws := wsX3_rideTrouble) B.pre
  have hown : s.vm.findClass RX3 = some m.cls := findClass_of_methodNamed B.named
  subst hsz
  have hD := hD0.self (sz := s.heap.size)
  have hZ := ZX.up hP hZ0
  generalize hAe : va_A [(p0, .inr (2, [.int 1, v2, v3, v4, v5, v6, v7, v8, v9, v10, v11, v12, v13, v14]))] s.heap.size = A at hD hZ ⊢
  have hA : ∀ q : Nat, s.heap.size ≤ q → A q := fun q h => by rw [← hAe]; exact Or.inr h
  have hS : va_S A s.heap s.heap [] := va_S.rf
  have hP : va_P G vwCl [(p0, .inr (2, [.int 1, v2, v3, v4, v5, v6, v7, v8, v9, v10, v11, v12, v13, v14]))] s.heap := hP
  have hl := lv_entry ([.ref p0, .int 268435455, .int 0, .int i1]) (n := 4) (Nat.le_of_ble_eq_true rfl)
  rw [lg_entry_eq]
  generalize (lg_sl ([.ref p0, .int 268435455, .int 0, .int i1]) ++ List.replicate (4 - (lg_sl ([.ref p0, .int 268435455, .int 0, .int i1])).length) Slot.unset).toArray = ls at hl ⊢
  have hl : lv_has ls 4 [(0, .ref p0), (1, .int 268435455), (2, .int 0), (3, .int i1)] := hl
  refine lv_aload_n hx hb dX3_rideTrouble_0 rfl (lv_at hl 0 rfl) ?_
  refine lv_iload_n hx hb dX3_rideTrouble_1 rfl (lv_at hl 2 rfl) ?_
  refine cz_i (wr := []) (va_runV (As := [.int 0]) (rest := []) ⟨hx, hb, hml, hown, hts⟩ (cX3_hasDepth_2 l G k p0 v2 v3 v4 v5 v6 v7 v8 v9 v10 v11 v12 v13 v14 s.heap.size) (cwV 1 hts gX3_rideTrouble_X3_hasDepth rfl rfl rfl (by decide +kernel) ⟨Nat.le_of_ble_eq_true rfl, Nat.le_of_ble_eq_true rfl⟩) (cz_preV hZ hS hX hP hD [0] rfl rfl (ci := 2) (q0 := 0) rfl rfl) rfl rfl hl.1 rfl (lv_room (Nat.le_of_ble_eq_true rfl)) dX3_rideTrouble_2 ⟨Nat.le_of_ble_eq_true rfl, Nat.le_of_ble_eq_true rfl⟩) hP hD hS hA [0] [] rfl rfl (by decide) (by decide) (fun r u H locs hp hP hD hS => ?_)
  have hp : r = 1 := hp
  subst hp
  refine lv_if_eq (tgt := 17) hx hb dX3_rideTrouble_5 (by decide) (fun q => absurd (q) (by decide +kernel)) (fun _ => ?_)
  refine lv_iload_n hx hb dX3_rideTrouble_8 rfl (lv_at hl 3 rfl) ?_
  refine lv_if_lt (tgt := 17) hx hb dX3_rideTrouble_9 (by decide) (fun q_1 => absurd q_1 (zg_nlt hi1 (by decide))) (fun _ => ?_)
  refine lv_iload_n hx hb dX3_rideTrouble_12 rfl (lv_at hl 3 rfl) ?_
  refine lv_iconst (v := 2) hx hb dX3_rideTrouble_13 (by decide +kernel) ?_
  refine lv_icmp_le (tgt := 19) hx hb dX3_rideTrouble_14 (by decide) (fun q_2 => absurd q_2 (zg_nle hi1 (by decide))) (fun _ => ?_)
  refine lv_iconst (v := 1) hx hb dX3_rideTrouble_17 (by decide +kernel) ?_
  have hP9 := hP.sub (ws' := [(p0, .inr (2, [.int 1, v2, v3, v4, v5, v6, v7, v8, v9, v10, v11, v12, v13, v14]))]) [0] rfl
  have hD9 := hD.sub (ws' := [(p0, .inr (2, [.int 1, v2, v3, v4, v5, v6, v7, v8, v9, v10, v11, v12, v13, v14]))]) [0] (by decide) rfl
  exact W.iret (v := 1) hx hb hr (fun t ht hW => ⟨⟨1, (), rfl, rfl, by rw [ht]; exact hP9, hD9⟩, hS.F ht⟩) hS.2.2 dX3_rideTrouble_18

