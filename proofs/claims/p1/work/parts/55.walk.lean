set_option maxHeartbeats 4000000 in
set_option maxRecDepth 100000 in
theorem cX9_enough_0 (l : Launch) (G : va_G) (k : Nat → ClassId) (p0 : Nat) (v1 : Value) (v2 : Value) (v3 : Value) (v4 : Value) (p5 : Nat) (v6 : Value) (p7 : Nat) (v8 : Value) (v9 : Value) (v10 : Value) (v11 : Value) (v12 : Value) (v13 : Value) (v14 : Value) (v15 : Value) (v16 : Value) (v17 : Value) (v18 : Value) (v19 : Value) (v20 : Value) (v21 : Value) (v22 : Value) (v23 : Value) (v24 : Value) (v25 : Value) (v26 : Value) (v27 : Value) (v28 : Value) (v29 : Value) (v30 : Value) (v31 : Value) (v32 : Value) (v33 : Value) (v34 : Value) (v35 : Value) (sz : Nat) : CMi l G k yX9_enough wsX9_enough ({ frames := 2, cells := 0, slots := 0, locals := 48 }) [.ref p0, .int 0] sz [(p0, .inr (6, [v1, v2, v3, v4, .ref p5, v6, .ref p7, v8, v9, v10, v11])), (p5, .inr (2, [v12, v13, v14, v15, v16, v17, v18, .int 0, v19, v20, v21, v22, v23, v24])), (p7, .inr (0, [v25, v26, v27, v28, .int 0, v29, v30, v31, v32, v33, v34, v35]))] (fun r (u : Unit) => r = 0) (fun (u : Unit) => [(p0, .inr (6, [v1, v2, v3, v4, .ref p5, v6, .ref p7, v8, v9, v10, v11])), (p7, .inr (0, [v25, v26, v27, v28, .int 0, v29, v30, v31, v32, v33, v34, v35])), (p5, .inr (2, [v12, v13, v14, v15, v16, v17, v18, .int 0, v19, v20, v21, v22, v23, v24]))]) := by
  refine Met.ofW (cc := cX9_enough) (maxL := 6) (ret := (some .int)) (by decide) rfl ?_
  intro p e s m args below meth c s₁ B hml hv
  obtain ⟨rfl, hsz, hP, hX, hD0, hZ0⟩ := hv
  have hx := B.exec
  have hb := B.bytes
  have hr := B.returns
  have hts := atoms_spec (ws := wsX9_enough) B.pre
  have hown : s.vm.findClass RX9 = some m.cls := findClass_of_methodNamed B.named
  subst hsz
  have hD := hD0.self (sz := s.heap.size)
  have hZ := ZX.up hP hZ0
  generalize hAe : va_A [(p0, .inr (6, [v1, v2, v3, v4, .ref p5, v6, .ref p7, v8, v9, v10, v11])), (p5, .inr (2, [v12, v13, v14, v15, v16, v17, v18, .int 0, v19, v20, v21, v22, v23, v24])), (p7, .inr (0, [v25, v26, v27, v28, .int 0, v29, v30, v31, v32, v33, v34, v35]))] s.heap.size = A at hD hZ ⊢
  have hA : ∀ q : Nat, s.heap.size ≤ q → A q := fun q h => by rw [← hAe]; exact Or.inr h
  have hS : va_S A s.heap s.heap [] := va_S.rf
  have hP : va_P G vwCl [(p0, .inr (6, [v1, v2, v3, v4, .ref p5, v6, .ref p7, v8, v9, v10, v11])), (p5, .inr (2, [v12, v13, v14, v15, v16, v17, v18, .int 0, v19, v20, v21, v22, v23, v24])), (p7, .inr (0, [v25, v26, v27, v28, .int 0, v29, v30, v31, v32, v33, v34, v35]))] s.heap := hP
  have hl := lv_entry ([.ref p0, .int 0]) (n := 6) (Nat.le_of_ble_eq_true rfl)
  rw [lg_entry_eq]
  generalize (lg_sl ([.ref p0, .int 0]) ++ List.replicate (6 - (lg_sl ([.ref p0, .int 0])).length) Slot.unset).toArray = ls at hl ⊢
  have hl : lv_has ls 6 [(0, .ref p0), (1, .int 0)] := hl
  have h0w := hts (.fieldLink RX9 23 "RopeTown" "plan" "LRopeTown$Plan;") (by decide +kernel)
  have h1w : ∀ w ∈ wsX90, w ∈ wsX9_enough := by decide +kernel
  have h2w := hts (.initialized RX3) (by decide +kernel)
  have h3w := hts (.instanceMethod yX3_stones) (by decide +kernel)
  have h4w := hts (.selects RX3 yX3_stones yX3_stones) (by decide +kernel)
  refine lv_iload_n hx hb dX9_enough_0 rfl (lv_at hl 1 rfl) ?_
  refine lv_if_eq (tgt := 20) hx hb dX9_enough_1 (by decide) (fun _ => ?_) (fun q => absurd (by decide +kernel) (q))
  refine lv_iconst (v := (-1)) hx hb dX9_enough_20 (by decide +kernel) ?_
  refine lv_istore_n (lv' := [(2, .int (-1)), (0, .ref p0), (1, .int 0)]) hx hb dX9_enough_21 rfl hl (by decide) rfl (fun ls hl => ?_)
  refine lv_aload_n hx hb dX9_enough_22 rfl (lv_at hl 1 rfl) ?_
  refine va_get (D := G) (ci := 6) (v := .ref p5) (C := RX9) (T := TX9) (N := 11) (ref := RX9) hx hb hts h1w hown hX.1 hP 0 rfl rfl 4 (by decide) h0w (fun _ h9 => h9) rfl dX9_enough_23 ?_
  refine cz_i (wr := [(p0, .inr (6, [v1, v2, v3, v4, .ref p5, v6, .ref p7, v8, v9, v10, v11])), (p7, .inr (0, [v25, v26, v27, v28, .int 0, v29, v30, v31, v32, v33, v34, v35]))]) (va_runVN (As := []) (rest := []) ⟨hx, hb, hml, hown, hts⟩ (cX3_stones_0 l G k p5 v12 v13 v14 v15 v16 v17 v18 v19 v20 v21 v22 v23 v24 s.heap.size) ⟨va_cnB 0 hts gX9_enough_X3_stones_n283 rfl rfl rfl (nm_66 hX.2.2.1) h2w (by decide +kernel) ⟨Nat.le_of_ble_eq_true rfl, Nat.le_of_ble_eq_true rfl⟩, h3w, h4w⟩ (cz_preV hZ hS hX hP hD [1] rfl rfl (ci := 2) (q0 := 1) rfl rfl) rfl rfl hl.1 rfl (lv_room (Nat.le_of_ble_eq_true rfl)) dX9_enough_26 ⟨Nat.le_of_ble_eq_true rfl, Nat.le_of_ble_eq_true rfl⟩) hP hD hS hA [1] [0, 2] rfl rfl (by decide) (by decide) (fun r u H locs hp hP hD hS => ?_)
  have hp : r = 0 := hp
  subst hp
  refine lv_istore_n (lv' := [(3, .int 0), (2, .int (-1)), (0, .ref p0), (1, .int 0)]) hx hb dX9_enough_29 rfl hl (by decide) rfl (fun ls hl => ?_)
  refine lv_iconst (v := 0) hx hb dX9_enough_30 (by decide +kernel) ?_
  refine lv_istore (lv' := [(4, .int 0), (3, .int 0), (2, .int (-1)), (0, .ref p0), (1, .int 0)]) hx hb dX9_enough_31 hl (by decide) rfl (fun ls hl => ?_)
  refine lv_iload hx hb dX9_enough_33 (lv_at hl 0 rfl) ?_
  refine lv_iload_n hx hb dX9_enough_35 rfl (lv_at hl 1 rfl) ?_
  refine lv_icmp_gt (tgt := 83) hx hb dX9_enough_36 (by decide) (fun q => absurd (q) (by decide +kernel)) (fun _ => ?_)
  refine lv_aload_n hx hb dX9_enough_39 rfl (lv_at hl 3 rfl) ?_
  refine lv_iload hx hb dX9_enough_40 (lv_at hl 0 rfl) ?_
  refine cz_i (wr := []) (va_runV (As := [.int 0]) (rest := []) ⟨hx, hb, hml, hown, hts⟩ (cX9_firstFailingDay_0 l G k p0 v1 v2 v3 v4 p5 v6 p7 v8 v9 v10 v11 v12 v13 v14 v15 v16 v17 v18 v19 v20 v21 v22 v23 v24 v25 v26 v27 v28 v29 v30 v31 v32 v33 v34 v35 H.size) (cwV 1 hts gX9_enough_X9_firstFailingDay rfl rfl rfl (by decide +kernel) ⟨Nat.le_of_ble_eq_true rfl, Nat.le_of_ble_eq_true rfl⟩) (cz_preV hZ hS hX hP hD [0, 2, 1] rfl rfl (ci := 6) (q0 := 0) rfl rfl) rfl rfl hl.1 rfl (lv_room (Nat.le_of_ble_eq_true rfl)) dX9_enough_42 ⟨Nat.le_of_ble_eq_true rfl, Nat.le_of_ble_eq_true rfl⟩) hP hD hS hA [0, 2, 1] [] rfl rfl (by decide) (by decide) (fun r u H locs hp hP hD hS => ?_)
  have hp : r = (-1) := hp
  subst hp
  refine lv_istore (lv' := [(5, .int (-1)), (4, .int 0), (3, .int 0), (2, .int (-1)), (0, .ref p0), (1, .int 0)]) hx hb dX9_enough_45 hl (by decide) rfl (fun ls hl => ?_)
  refine lv_iload hx hb dX9_enough_47 (lv_at hl 0 rfl) ?_
  refine lv_bipush (v := (-2)) hx hb dX9_enough_49 (by decide +kernel) ?_
  refine lv_icmp_ne (tgt := 57) hx hb dX9_enough_51 (by decide) (fun _ => ?_) (fun q => absurd (q) (by decide +kernel))
  refine lv_iload hx hb dX9_enough_57 (lv_at hl 0 rfl) ?_
  refine lv_iconst (v := (-1)) hx hb dX9_enough_59 (by decide +kernel) ?_
  refine lv_icmp_ne (tgt := 74) hx hb dX9_enough_60 (by decide) (fun q => absurd (by decide +kernel) (q)) (fun _ => ?_)
  refine lv_iload_n hx hb dX9_enough_63 rfl (lv_at hl 5 rfl) ?_
  refine lv_if_ne (tgt := 72) hx hb dX9_enough_64 (by decide) (fun q => absurd (by decide +kernel) (q)) (fun _ => ?_)
  refine lv_iload hx hb dX9_enough_67 (lv_at hl 1 rfl) ?_
  refine lv_goto (tgt := 73) hx hb dX9_enough_69 (by decide) ?_
  have hP9 := hP.sub (ws' := [(p0, .inr (6, [v1, v2, v3, v4, .ref p5, v6, .ref p7, v8, v9, v10, v11])), (p7, .inr (0, [v25, v26, v27, v28, .int 0, v29, v30, v31, v32, v33, v34, v35])), (p5, .inr (2, [v12, v13, v14, v15, v16, v17, v18, .int 0, v19, v20, v21, v22, v23, v24]))]) [0, 1, 2] rfl
  have hD9 := hD.sub (ws' := [(p0, .inr (6, [v1, v2, v3, v4, .ref p5, v6, .ref p7, v8, v9, v10, v11])), (p7, .inr (0, [v25, v26, v27, v28, .int 0, v29, v30, v31, v32, v33, v34, v35])), (p5, .inr (2, [v12, v13, v14, v15, v16, v17, v18, .int 0, v19, v20, v21, v22, v23, v24]))]) [0, 1, 2] (by decide) rfl
  exact W.iret (v := 0) hx hb hr (fun t ht hW => ⟨⟨0, (), rfl, rfl, by rw [ht]; exact hP9, hD9⟩, hS.F ht⟩) hS.2.2 dX9_enough_73

set_option maxHeartbeats 4000000 in
set_option maxRecDepth 100000 in
theorem cX9_enough_1 (l : Launch) (G : va_G) (k : Nat → ClassId) (p0 : Nat) (v1 : Value) (v2 : Value) (v3 : Value) (v4 : Value) (p5 : Nat) (v6 : Value) (p7 : Nat) (v8 : Value) (v9 : Value) (v10 : Value) (v11 : Value) (v12 : Value) (v13 : Value) (v14 : Value) (v15 : Value) (v16 : Value) (v17 : Value) (v18 : Value) (v19 : Value) (v20 : Value) (v21 : Value) (v22 : Value) (v23 : Value) (v24 : Value) (v25 : Value) (v26 : Value) (v27 : Value) (v28 : Value) (v29 : Value) (v30 : Value) (v31 : Value) (v32 : Value) (v33 : Value) (v34 : Value) (v35 : Value) (sz : Nat) : CMi l G k yX9_enough wsX9_enough ({ frames := 2, cells := 0, slots := 0, locals := 48 }) [.ref p0, .int 1] sz [(p0, .inr (6, [v1, v2, v3, v4, .ref p5, v6, .ref p7, v8, v9, v10, v11])), (p5, .inr (2, [v12, v13, v14, v15, v16, v17, v18, .int 0, v19, v20, v21, v22, v23, v24])), (p7, .inr (0, [v25, v26, v27, v28, .int 0, v29, v30, v31, v32, v33, v34, v35]))] (fun r (u : Unit) => r = (-1)) (fun (u : Unit) => [(p0, .inr (6, [v1, v2, v3, v4, .ref p5, v6, .ref p7, v8, v9, v10, v11])), (p7, .inr (0, [v25, v26, v27, v28, .int 0, v29, v30, v31, v32, v33, v34, v35])), (p5, .inr (2, [v12, v13, v14, v15, v16, v17, v18, .int 0, v19, v20, v21, v22, v23, v24]))]) := by
  refine Met.ofW (cc := cX9_enough) (maxL := 6) (ret := (some .int)) (by decide) rfl ?_
  intro p e s m args below meth c s₁ B hml hv
  obtain ⟨rfl, hsz, hP, hX, hD0, hZ0⟩ := hv
  have hx := B.exec
  have hb := B.bytes
  have hr := B.returns
  have hts := atoms_spec (ws := wsX9_enough) B.pre
  have hown : s.vm.findClass RX9 = some m.cls := findClass_of_methodNamed B.named
  subst hsz
  have hD := hD0.self (sz := s.heap.size)
  have hZ := ZX.up hP hZ0
  generalize hAe : va_A [(p0, .inr (6, [v1, v2, v3, v4, .ref p5, v6, .ref p7, v8, v9, v10, v11])), (p5, .inr (2, [v12, v13, v14, v15, v16, v17, v18, .int 0, v19, v20, v21, v22, v23, v24])), (p7, .inr (0, [v25, v26, v27, v28, .int 0, v29, v30, v31, v32, v33, v34, v35]))] s.heap.size = A at hD hZ ⊢
  have hA : ∀ q : Nat, s.heap.size ≤ q → A q := fun q h => by rw [← hAe]; exact Or.inr h
  have hS : va_S A s.heap s.heap [] := va_S.rf
  have hP : va_P G vwCl [(p0, .inr (6, [v1, v2, v3, v4, .ref p5, v6, .ref p7, v8, v9, v10, v11])), (p5, .inr (2, [v12, v13, v14, v15, v16, v17, v18, .int 0, v19, v20, v21, v22, v23, v24])), (p7, .inr (0, [v25, v26, v27, v28, .int 0, v29, v30, v31, v32, v33, v34, v35]))] s.heap := hP
  have hl := lv_entry ([.ref p0, .int 1]) (n := 6) (Nat.le_of_ble_eq_true rfl)
  rw [lg_entry_eq]
  generalize (lg_sl ([.ref p0, .int 1]) ++ List.replicate (6 - (lg_sl ([.ref p0, .int 1])).length) Slot.unset).toArray = ls at hl ⊢
  have hl : lv_has ls 6 [(0, .ref p0), (1, .int 1)] := hl
  have h0w := hts (.fieldLink RX9 23 "RopeTown" "plan" "LRopeTown$Plan;") (by decide +kernel)
  have h1w : ∀ w ∈ wsX90, w ∈ wsX9_enough := by decide +kernel
  have h2w := hts (.initialized RX3) (by decide +kernel)
  have h3w := hts (.instanceMethod yX3_stones) (by decide +kernel)
  have h4w := hts (.selects RX3 yX3_stones yX3_stones) (by decide +kernel)
  refine lv_iload_n hx hb dX9_enough_0 rfl (lv_at hl 1 rfl) ?_
  refine lv_if_eq (tgt := 20) hx hb dX9_enough_1 (by decide) (fun q => absurd (q) (by decide +kernel)) (fun _ => ?_)
  refine lv_iload_n hx hb dX9_enough_4 rfl (lv_at hl 1 rfl) ?_
  refine lv_iconst (v := 1) hx hb dX9_enough_5 (by decide +kernel) ?_
  refine lv_icmp_eq (tgt := 20) hx hb dX9_enough_6 (by decide) (fun _ => ?_) (fun q => absurd (by decide +kernel) (q))
  refine lv_iconst (v := (-1)) hx hb dX9_enough_20 (by decide +kernel) ?_
  refine lv_istore_n (lv' := [(2, .int (-1)), (0, .ref p0), (1, .int 1)]) hx hb dX9_enough_21 rfl hl (by decide) rfl (fun ls hl => ?_)
  refine lv_aload_n hx hb dX9_enough_22 rfl (lv_at hl 1 rfl) ?_
  refine va_get (D := G) (ci := 6) (v := .ref p5) (C := RX9) (T := TX9) (N := 11) (ref := RX9) hx hb hts h1w hown hX.1 hP 0 rfl rfl 4 (by decide) h0w (fun _ h9 => h9) rfl dX9_enough_23 ?_
  refine cz_i (wr := [(p0, .inr (6, [v1, v2, v3, v4, .ref p5, v6, .ref p7, v8, v9, v10, v11])), (p7, .inr (0, [v25, v26, v27, v28, .int 0, v29, v30, v31, v32, v33, v34, v35]))]) (va_runVN (As := []) (rest := []) ⟨hx, hb, hml, hown, hts⟩ (cX3_stones_0 l G k p5 v12 v13 v14 v15 v16 v17 v18 v19 v20 v21 v22 v23 v24 s.heap.size) ⟨va_cnB 0 hts gX9_enough_X3_stones_n283 rfl rfl rfl (nm_66 hX.2.2.1) h2w (by decide +kernel) ⟨Nat.le_of_ble_eq_true rfl, Nat.le_of_ble_eq_true rfl⟩, h3w, h4w⟩ (cz_preV hZ hS hX hP hD [1] rfl rfl (ci := 2) (q0 := 1) rfl rfl) rfl rfl hl.1 rfl (lv_room (Nat.le_of_ble_eq_true rfl)) dX9_enough_26 ⟨Nat.le_of_ble_eq_true rfl, Nat.le_of_ble_eq_true rfl⟩) hP hD hS hA [1] [0, 2] rfl rfl (by decide) (by decide) (fun r u H locs hp hP hD hS => ?_)
  have hp : r = 0 := hp
  subst hp
  refine lv_istore_n (lv' := [(3, .int 0), (2, .int (-1)), (0, .ref p0), (1, .int 1)]) hx hb dX9_enough_29 rfl hl (by decide) rfl (fun ls hl => ?_)
  refine lv_iconst (v := 0) hx hb dX9_enough_30 (by decide +kernel) ?_
  refine lv_istore (lv' := [(4, .int 0), (3, .int 0), (2, .int (-1)), (0, .ref p0), (1, .int 1)]) hx hb dX9_enough_31 hl (by decide) rfl (fun ls hl => ?_)
  refine lv_iload hx hb dX9_enough_33 (lv_at hl 0 rfl) ?_
  refine lv_iload_n hx hb dX9_enough_35 rfl (lv_at hl 1 rfl) ?_
  refine lv_icmp_gt (tgt := 83) hx hb dX9_enough_36 (by decide) (fun q => absurd (q) (by decide +kernel)) (fun _ => ?_)
  refine lv_aload_n hx hb dX9_enough_39 rfl (lv_at hl 3 rfl) ?_
  refine lv_iload hx hb dX9_enough_40 (lv_at hl 0 rfl) ?_
  refine cz_i (wr := []) (va_runV (As := [.int 0]) (rest := []) ⟨hx, hb, hml, hown, hts⟩ (cX9_firstFailingDay_0 l G k p0 v1 v2 v3 v4 p5 v6 p7 v8 v9 v10 v11 v12 v13 v14 v15 v16 v17 v18 v19 v20 v21 v22 v23 v24 v25 v26 v27 v28 v29 v30 v31 v32 v33 v34 v35 H.size) (cwV 1 hts gX9_enough_X9_firstFailingDay rfl rfl rfl (by decide +kernel) ⟨Nat.le_of_ble_eq_true rfl, Nat.le_of_ble_eq_true rfl⟩) (cz_preV hZ hS hX hP hD [0, 2, 1] rfl rfl (ci := 6) (q0 := 0) rfl rfl) rfl rfl hl.1 rfl (lv_room (Nat.le_of_ble_eq_true rfl)) dX9_enough_42 ⟨Nat.le_of_ble_eq_true rfl, Nat.le_of_ble_eq_true rfl⟩) hP hD hS hA [0, 2, 1] [] rfl rfl (by decide) (by decide) (fun r u H locs hp hP hD hS => ?_)
  have hp : r = (-1) := hp
  subst hp
  refine lv_istore (lv' := [(5, .int (-1)), (4, .int 0), (3, .int 0), (2, .int (-1)), (0, .ref p0), (1, .int 1)]) hx hb dX9_enough_45 hl (by decide) rfl (fun ls hl => ?_)
  refine lv_iload hx hb dX9_enough_47 (lv_at hl 0 rfl) ?_
  refine lv_bipush (v := (-2)) hx hb dX9_enough_49 (by decide +kernel) ?_
  refine lv_icmp_ne (tgt := 57) hx hb dX9_enough_51 (by decide) (fun _ => ?_) (fun q => absurd (q) (by decide +kernel))
  refine lv_iload hx hb dX9_enough_57 (lv_at hl 0 rfl) ?_
  refine lv_iconst (v := (-1)) hx hb dX9_enough_59 (by decide +kernel) ?_
  refine lv_icmp_ne (tgt := 74) hx hb dX9_enough_60 (by decide) (fun q => absurd (by decide +kernel) (q)) (fun _ => ?_)
  refine lv_iload_n hx hb dX9_enough_63 rfl (lv_at hl 5 rfl) ?_
  refine lv_if_ne (tgt := 72) hx hb dX9_enough_64 (by decide) (fun _ => ?_) (fun q => absurd (q) (by decide +kernel))
  refine lv_iload_n hx hb dX9_enough_72 rfl (lv_at hl 3 rfl) ?_
  have hP9 := hP.sub (ws' := [(p0, .inr (6, [v1, v2, v3, v4, .ref p5, v6, .ref p7, v8, v9, v10, v11])), (p7, .inr (0, [v25, v26, v27, v28, .int 0, v29, v30, v31, v32, v33, v34, v35])), (p5, .inr (2, [v12, v13, v14, v15, v16, v17, v18, .int 0, v19, v20, v21, v22, v23, v24]))]) [0, 1, 2] rfl
  have hD9 := hD.sub (ws' := [(p0, .inr (6, [v1, v2, v3, v4, .ref p5, v6, .ref p7, v8, v9, v10, v11])), (p7, .inr (0, [v25, v26, v27, v28, .int 0, v29, v30, v31, v32, v33, v34, v35])), (p5, .inr (2, [v12, v13, v14, v15, v16, v17, v18, .int 0, v19, v20, v21, v22, v23, v24]))]) [0, 1, 2] (by decide) rfl
  exact W.iret (v := (-1)) hx hb hr (fun t ht hW => ⟨⟨(-1), (), rfl, rfl, by rw [ht]; exact hP9, hD9⟩, hS.F ht⟩) hS.2.2 dX9_enough_73

set_option maxHeartbeats 4000000 in
set_option maxRecDepth 100000 in
theorem cX1_copy_0 (l : Launch) (G : va_G) (k : Nat → ClassId) (p0 : Nat) (p1 : Nat) (p2 : Nat) (p3 : Nat) (p4 : Nat) (p5 : Nat) (p6 : Nat) (p7 : Nat) (p8 : Nat) (v9 : Value) (v10 : Value) (v11 : Value) (v12 : Value) (v13 : Value) (p14 : Nat) (p15 : Nat) (p16 : Nat) (p17 : Nat) (p18 : Nat) (p19 : Nat) (p20 : Nat) (f21 : Nat → Int32) (f22 : Nat → Int32) (f23 : Nat → Int32) (f24 : Nat → Int32) (f25 : Nat → Int32) (f26 : Nat → Int32) (f27 : Nat → Int32) (f28 : Nat → Int32) (f29 : Nat → Int32) (f30 : Nat → Int32) (f31 : Nat → Int32) (f32 : Nat → Int32) (f33 : Nat → Int32) (f34 : Nat → Int32) (sz : Nat) : CMv l G k yX1_copy wsX1_copy ({ frames := 1, cells := 0, slots := 0, locals := 64 }) [.ref p0, .ref p1] sz [(p1, .inr (0, [.int 268435455, .int 0, .int 0, .int 0, .int 0, .ref p2, .ref p3, .ref p4, .ref p5, .ref p6, .ref p7, .ref p8])), (p0, .inr (0, [v9, v10, v11, v12, v13, .ref p14, .ref p15, .ref p16, .ref p17, .ref p18, .ref p19, .ref p20])), (p2, .inl (k 0, 60, .inl f21)), (p14, .inl (k 0, 60, .inl f22)), (p3, .inl (k 0, 60, .inl f23)), (p15, .inl (k 0, 60, .inl f24)), (p4, .inl (k 0, 60, .inl f25)), (p16, .inl (k 0, 60, .inl f26)), (p5, .inl (k 0, 60, .inl f27)), (p17, .inl (k 0, 60, .inl f28)), (p6, .inl (k 0, 60, .inl f29)), (p18, .inl (k 0, 60, .inl f30)), (p7, .inl (k 0, 6, .inl f31)), (p19, .inl (k 0, 6, .inl f32)), (p20, .inl (k 0, 3, .inl f33)), (p8, .inl (k 0, 3, .inl f34))] (fun (u : Unit) => True) (fun (u : Unit) => [(p1, .inr (0, [.int 268435455, .int 0, .int 0, .int 0, .int 0, .ref p2, .ref p3, .ref p4, .ref p5, .ref p6, .ref p7, .ref p8])), (p0, .inr (0, [.int 268435455, .int 0, .int 0, .int 0, .int 0, .ref p14, .ref p15, .ref p16, .ref p17, .ref p18, .ref p19, .ref p20])), (p2, .inl (k 0, 60, .inl f21)), (p14, .inl (k 0, 60, .inl (va_cpy f21 f22 (0 : Int32).toNatClampNeg (0 : Int32).toNatClampNeg (60 : Int32).toNatClampNeg))), (p3, .inl (k 0, 60, .inl f23)), (p15, .inl (k 0, 60, .inl (va_cpy f23 f24 (0 : Int32).toNatClampNeg (0 : Int32).toNatClampNeg (60 : Int32).toNatClampNeg))), (p4, .inl (k 0, 60, .inl f25)), (p16, .inl (k 0, 60, .inl (va_cpy f25 f26 (0 : Int32).toNatClampNeg (0 : Int32).toNatClampNeg (60 : Int32).toNatClampNeg))), (p5, .inl (k 0, 60, .inl f27)), (p17, .inl (k 0, 60, .inl (va_cpy f27 f28 (0 : Int32).toNatClampNeg (0 : Int32).toNatClampNeg (60 : Int32).toNatClampNeg))), (p6, .inl (k 0, 60, .inl f29)), (p18, .inl (k 0, 60, .inl (va_cpy f29 f30 (0 : Int32).toNatClampNeg (0 : Int32).toNatClampNeg (60 : Int32).toNatClampNeg))), (p7, .inl (k 0, 6, .inl f31)), (p19, .inl (k 0, 6, .inl (va_cpy f31 f32 (0 : Int32).toNatClampNeg (0 : Int32).toNatClampNeg (6 : Int32).toNatClampNeg))), (p20, .inl (k 0, 3, .inl (va_cpy f34 f33 (0 : Int32).toNatClampNeg (0 : Int32).toNatClampNeg (3 : Int32).toNatClampNeg))), (p8, .inl (k 0, 3, .inl f34))]) := by
  refine Met.ofW (cc := cX1_copy) (maxL := 2) (ret := none) (by decide) rfl ?_
  intro p e s m args below meth c s₁ B hml hv
  obtain ⟨rfl, hsz, hP, hX, hD0, hZ0⟩ := hv
  have hx := B.exec
  have hb := B.bytes
  have hr := B.returns
  have hts := atoms_spec (ws := wsX1_copy) B.pre
  have hown : s.vm.findClass RX1 = some m.cls := findClass_of_methodNamed B.named
  subst hsz
  have hD := hD0.self (sz := s.heap.size)
  have hZ := ZX.up hP hZ0
  generalize hAe : va_A [(p1, .inr (0, [.int 268435455, .int 0, .int 0, .int 0, .int 0, .ref p2, .ref p3, .ref p4, .ref p5, .ref p6, .ref p7, .ref p8])), (p0, .inr (0, [v9, v10, v11, v12, v13, .ref p14, .ref p15, .ref p16, .ref p17, .ref p18, .ref p19, .ref p20])), (p2, .inl (k 0, 60, .inl f21)), (p14, .inl (k 0, 60, .inl f22)), (p3, .inl (k 0, 60, .inl f23)), (p15, .inl (k 0, 60, .inl f24)), (p4, .inl (k 0, 60, .inl f25)), (p16, .inl (k 0, 60, .inl f26)), (p5, .inl (k 0, 60, .inl f27)), (p17, .inl (k 0, 60, .inl f28)), (p6, .inl (k 0, 60, .inl f29)), (p18, .inl (k 0, 60, .inl f30)), (p7, .inl (k 0, 6, .inl f31)), (p19, .inl (k 0, 6, .inl f32)), (p20, .inl (k 0, 3, .inl f33)), (p8, .inl (k 0, 3, .inl f34))] s.heap.size = A at hD hZ ⊢
  have hA : ∀ q : Nat, s.heap.size ≤ q → A q := fun q h => by rw [← hAe]; exact Or.inr h
  have hS : va_S A s.heap s.heap [] := va_S.rf
  have hP : va_P G vwCl [(p1, .inr (0, [.int 268435455, .int 0, .int 0, .int 0, .int 0, .ref p2, .ref p3, .ref p4, .ref p5, .ref p6, .ref p7, .ref p8])), (p0, .inr (0, [v9, v10, v11, v12, v13, .ref p14, .ref p15, .ref p16, .ref p17, .ref p18, .ref p19, .ref p20])), (p2, .inl (k 0, 60, .inl f21)), (p14, .inl (k 0, 60, .inl f22)), (p3, .inl (k 0, 60, .inl f23)), (p15, .inl (k 0, 60, .inl f24)), (p4, .inl (k 0, 60, .inl f25)), (p16, .inl (k 0, 60, .inl f26)), (p5, .inl (k 0, 60, .inl f27)), (p17, .inl (k 0, 60, .inl f28)), (p6, .inl (k 0, 60, .inl f29)), (p18, .inl (k 0, 60, .inl f30)), (p7, .inl (k 0, 6, .inl f31)), (p19, .inl (k 0, 6, .inl f32)), (p20, .inl (k 0, 3, .inl f33)), (p8, .inl (k 0, 3, .inl f34))] s.heap := hP
  have hl := lv_entry ([.ref p0, .ref p1]) (n := 2) (Nat.le_of_ble_eq_true rfl)
  rw [lg_entry_eq]
  generalize (lg_sl ([.ref p0, .ref p1]) ++ List.replicate (2 - (lg_sl ([.ref p0, .ref p1])).length) Slot.unset).toArray = ls at hl ⊢
  have hl : lv_has ls 2 [(0, .ref p0), (1, .ref p1)] := hl
  have h0w := hts (.fieldLink RX1 33 "RopeTown$Book" "state" "I") (by decide +kernel)
  have h1w : ∀ w ∈ wsX10, w ∈ wsX1_copy := by decide +kernel
  have h2w := hts (.fieldLink RX1 37 "RopeTown$Book" "moves" "I") (by decide +kernel)
  have h3w := hts (.fieldLink RX1 40 "RopeTown$Book" "rides" "I") (by decide +kernel)
  have h4w := hts (.fieldLink RX1 43 "RopeTown$Book" "cost" "I") (by decide +kernel)
  have h5w := hts (.fieldLink RX1 46 "RopeTown$Book" "days" "I") (by decide +kernel)
  have h6w := hts (.fieldLink RX1 9 "RopeTown$Book" "which" "[I") (by decide +kernel)
  have h7w := hts (.methodLink RX1 49 arraycopyName) (by decide +kernel)
  have h8w := hts (.native arraycopyName) (by decide +kernel)
  have h9w := hts (.static arraycopyName) (by decide +kernel)
  have h10w := hts (.initialized "java/lang/System") (by decide +kernel)
  have h11w := hts (.fieldLink RX1 15 "RopeTown$Book" "target" "[I") (by decide +kernel)
  have h12w := hts (.fieldLink RX1 18 "RopeTown$Book" "manner" "[I") (by decide +kernel)
  have h13w := hts (.fieldLink RX1 21 "RopeTown$Book" "before" "[I") (by decide +kernel)
  have h14w := hts (.fieldLink RX1 24 "RopeTown$Book" "wound" "[I") (by decide +kernel)
  have h15w := hts (.fieldLink RX1 27 "RopeTown$Book" "day" "[I") (by decide +kernel)
  have h16w := hts (.fieldLink RX1 30 "RopeTown$Book" "status" "[I") (by decide +kernel)
  refine lv_aload_n hx hb dX1_copy_0 rfl (lv_at hl 0 rfl) ?_
  refine lv_aload_n hx hb dX1_copy_1 rfl (lv_at hl 1 rfl) ?_
  refine va_get (D := G) (ci := 0) (v := .int 268435455) (C := RX1) (T := TX1) (N := 12) (ref := RX1) hx hb hts h1w hown hX.1 hP 0 rfl rfl 0 (by decide) h0w (fun _ h9 => h9) rfl dX1_copy_2 ?_
  refine va_put (D := G) (ci := 0) (v := .int 268435455) (ty := .int) (C := RX1) (T := TX1) (N := 12) (ref := RX1) hx hb hts h1w tyX1 tyX1_ok nmX1 hown hX.1 hP hD hS 1 rfl rfl 0 (by decide) h0w (fun _ h9 => h9) rfl (by decide +kernel) rfl rfl (Nat.le_of_ble_eq_true rfl) dX1_copy_5 (fun H locs hP hD hS => ?_)
  refine lv_aload_n hx hb dX1_copy_8 rfl (lv_at hl 0 rfl) ?_
  refine lv_aload_n hx hb dX1_copy_9 rfl (lv_at hl 1 rfl) ?_
  refine va_get (D := G) (ci := 0) (v := .int 0) (C := RX1) (T := TX1) (N := 12) (ref := RX1) hx hb hts h1w hown hX.1 hP 0 rfl rfl 1 (by decide) h2w (fun _ h9 => h9) rfl dX1_copy_10 ?_
  refine va_put (D := G) (ci := 0) (v := .int 0) (ty := .int) (C := RX1) (T := TX1) (N := 12) (ref := RX1) hx hb hts h1w tyX1 tyX1_ok nmX1 hown hX.1 hP hD hS 1 rfl rfl 1 (by decide) h2w (fun _ h9 => h9) rfl (by decide +kernel) rfl rfl (Nat.le_of_ble_eq_true rfl) dX1_copy_13 (fun H locs hP hD hS => ?_)
  refine lv_aload_n hx hb dX1_copy_16 rfl (lv_at hl 0 rfl) ?_
  refine lv_aload_n hx hb dX1_copy_17 rfl (lv_at hl 1 rfl) ?_
  refine va_get (D := G) (ci := 0) (v := .int 0) (C := RX1) (T := TX1) (N := 12) (ref := RX1) hx hb hts h1w hown hX.1 hP 0 rfl rfl 2 (by decide) h3w (fun _ h9 => h9) rfl dX1_copy_18 ?_
  refine va_put (D := G) (ci := 0) (v := .int 0) (ty := .int) (C := RX1) (T := TX1) (N := 12) (ref := RX1) hx hb hts h1w tyX1 tyX1_ok nmX1 hown hX.1 hP hD hS 1 rfl rfl 2 (by decide) h3w (fun _ h9 => h9) rfl (by decide +kernel) rfl rfl (Nat.le_of_ble_eq_true rfl) dX1_copy_21 (fun H locs hP hD hS => ?_)
  refine lv_aload_n hx hb dX1_copy_24 rfl (lv_at hl 0 rfl) ?_
  refine lv_aload_n hx hb dX1_copy_25 rfl (lv_at hl 1 rfl) ?_
  refine va_get (D := G) (ci := 0) (v := .int 0) (C := RX1) (T := TX1) (N := 12) (ref := RX1) hx hb hts h1w hown hX.1 hP 0 rfl rfl 3 (by decide) h4w (fun _ h9 => h9) rfl dX1_copy_26 ?_
  refine va_put (D := G) (ci := 0) (v := .int 0) (ty := .int) (C := RX1) (T := TX1) (N := 12) (ref := RX1) hx hb hts h1w tyX1 tyX1_ok nmX1 hown hX.1 hP hD hS 1 rfl rfl 3 (by decide) h4w (fun _ h9 => h9) rfl (by decide +kernel) rfl rfl (Nat.le_of_ble_eq_true rfl) dX1_copy_29 (fun H locs hP hD hS => ?_)
  refine lv_aload_n hx hb dX1_copy_32 rfl (lv_at hl 0 rfl) ?_
  refine lv_aload_n hx hb dX1_copy_33 rfl (lv_at hl 1 rfl) ?_
  refine va_get (D := G) (ci := 0) (v := .int 0) (C := RX1) (T := TX1) (N := 12) (ref := RX1) hx hb hts h1w hown hX.1 hP 0 rfl rfl 4 (by decide) h5w (fun _ h9 => h9) rfl dX1_copy_34 ?_
  refine va_put (D := G) (ci := 0) (v := .int 0) (ty := .int) (C := RX1) (T := TX1) (N := 12) (ref := RX1) hx hb hts h1w tyX1 tyX1_ok nmX1 hown hX.1 hP hD hS 1 rfl rfl 4 (by decide) h5w (fun _ h9 => h9) rfl (by decide +kernel) rfl rfl (Nat.le_of_ble_eq_true rfl) dX1_copy_37 (fun H locs hP hD hS => ?_)
  refine lv_aload_n hx hb dX1_copy_40 rfl (lv_at hl 1 rfl) ?_
  refine va_get (D := G) (ci := 0) (v := .ref p2) (C := RX1) (T := TX1) (N := 12) (ref := RX1) hx hb hts h1w hown hX.1 hP 0 rfl rfl 5 (by decide) h6w (fun _ h9 => h9) rfl dX1_copy_41 ?_
  refine lv_iconst (v := 0) hx hb dX1_copy_44 (by decide +kernel) ?_
  refine lv_aload_n hx hb dX1_copy_45 rfl (lv_at hl 0 rfl) ?_
  refine va_get (D := G) (ci := 0) (v := .ref p14) (C := RX1) (T := TX1) (N := 12) (ref := RX1) hx hb hts h1w hown hX.1 hP 1 rfl rfl 5 (by decide) h6w (fun _ h9 => h9) rfl dX1_copy_46 ?_
  refine lv_iconst (v := 0) hx hb dX1_copy_49 (by decide +kernel) ?_
  refine lv_bipush (v := 60) hx hb dX1_copy_50 (by decide +kernel) ?_
  refine va_copyi (ty := .int) hx hb (hml.trans hl.1.symm) hown h7w h8w h9w h10w hX.1 hP hD hS 2 3 0 0 rfl rfl rfl rfl rfl (by decide) (by decide) (by decide) (by decide) (by decide) (fun _ _ => rfl) (Nat.le_of_ble_eq_true rfl) (Nat.le_of_ble_eq_true rfl) dX1_copy_52 (fun H locs hP hD hS => ?_)
  obtain ⟨hP, hD⟩ : va_P G vwCl [(p1, .inr (0, [.int 268435455, .int 0, .int 0, .int 0, .int 0, .ref p2, .ref p3, .ref p4, .ref p5, .ref p6, .ref p7, .ref p8])), (p0, .inr (0, [.int 268435455, .int 0, .int 0, .int 0, .int 0, .ref p14, .ref p15, .ref p16, .ref p17, .ref p18, .ref p19, .ref p20])), (p2, .inl (k 0, 60, .inl f21)), (p14, .inl (k 0, 60, .inl (va_cpy f21 f22 (0 : Int32).toNatClampNeg (0 : Int32).toNatClampNeg (60 : Int32).toNatClampNeg))), (p3, .inl (k 0, 60, .inl f23)), (p15, .inl (k 0, 60, .inl f24)), (p4, .inl (k 0, 60, .inl f25)), (p16, .inl (k 0, 60, .inl f26)), (p5, .inl (k 0, 60, .inl f27)), (p17, .inl (k 0, 60, .inl f28)), (p6, .inl (k 0, 60, .inl f29)), (p18, .inl (k 0, 60, .inl f30)), (p7, .inl (k 0, 6, .inl f31)), (p19, .inl (k 0, 6, .inl f32)), (p20, .inl (k 0, 3, .inl f33)), (p8, .inl (k 0, 3, .inl f34))] H ∧ va_D A [(p1, .inr (0, [.int 268435455, .int 0, .int 0, .int 0, .int 0, .ref p2, .ref p3, .ref p4, .ref p5, .ref p6, .ref p7, .ref p8])), (p0, .inr (0, [.int 268435455, .int 0, .int 0, .int 0, .int 0, .ref p14, .ref p15, .ref p16, .ref p17, .ref p18, .ref p19, .ref p20])), (p2, .inl (k 0, 60, .inl f21)), (p14, .inl (k 0, 60, .inl (va_cpy f21 f22 (0 : Int32).toNatClampNeg (0 : Int32).toNatClampNeg (60 : Int32).toNatClampNeg))), (p3, .inl (k 0, 60, .inl f23)), (p15, .inl (k 0, 60, .inl f24)), (p4, .inl (k 0, 60, .inl f25)), (p16, .inl (k 0, 60, .inl f26)), (p5, .inl (k 0, 60, .inl f27)), (p17, .inl (k 0, 60, .inl f28)), (p6, .inl (k 0, 60, .inl f29)), (p18, .inl (k 0, 60, .inl f30)), (p7, .inl (k 0, 6, .inl f31)), (p19, .inl (k 0, 6, .inl f32)), (p20, .inl (k 0, 3, .inl f33)), (p8, .inl (k 0, 3, .inl f34))] := ⟨hP, hD⟩
  refine lv_aload_n hx hb dX1_copy_55 rfl (lv_at hl 1 rfl) ?_
  refine va_get (D := G) (ci := 0) (v := .ref p3) (C := RX1) (T := TX1) (N := 12) (ref := RX1) hx hb hts h1w hown hX.1 hP 0 rfl rfl 6 (by decide) h11w (fun _ h9 => h9) rfl dX1_copy_56 ?_
  refine lv_iconst (v := 0) hx hb dX1_copy_59 (by decide +kernel) ?_
  refine lv_aload_n hx hb dX1_copy_60 rfl (lv_at hl 0 rfl) ?_
  refine va_get (D := G) (ci := 0) (v := .ref p15) (C := RX1) (T := TX1) (N := 12) (ref := RX1) hx hb hts h1w hown hX.1 hP 1 rfl rfl 6 (by decide) h11w (fun _ h9 => h9) rfl dX1_copy_61 ?_
  refine lv_iconst (v := 0) hx hb dX1_copy_64 (by decide +kernel) ?_
  refine lv_bipush (v := 60) hx hb dX1_copy_65 (by decide +kernel) ?_
  refine va_copyi (ty := .int) hx hb (hml.trans hl.1.symm) hown h7w h8w h9w h10w hX.1 hP hD hS 4 5 0 0 rfl rfl rfl rfl rfl (by decide) (by decide) (by decide) (by decide) (by decide) (fun _ _ => rfl) (Nat.le_of_ble_eq_true rfl) (Nat.le_of_ble_eq_true rfl) dX1_copy_67 (fun H locs hP hD hS => ?_)
  refine lv_aload_n hx hb dX1_copy_70 rfl (lv_at hl 1 rfl) ?_
  refine va_get (D := G) (ci := 0) (v := .ref p4) (C := RX1) (T := TX1) (N := 12) (ref := RX1) hx hb hts h1w hown hX.1 hP 0 rfl rfl 7 (by decide) h12w (fun _ h9 => h9) rfl dX1_copy_71 ?_
  refine lv_iconst (v := 0) hx hb dX1_copy_74 (by decide +kernel) ?_
  refine lv_aload_n hx hb dX1_copy_75 rfl (lv_at hl 0 rfl) ?_
  refine va_get (D := G) (ci := 0) (v := .ref p16) (C := RX1) (T := TX1) (N := 12) (ref := RX1) hx hb hts h1w hown hX.1 hP 1 rfl rfl 7 (by decide) h12w (fun _ h9 => h9) rfl dX1_copy_76 ?_
  refine lv_iconst (v := 0) hx hb dX1_copy_79 (by decide +kernel) ?_
  refine lv_bipush (v := 60) hx hb dX1_copy_80 (by decide +kernel) ?_
  refine va_copyi (ty := .int) hx hb (hml.trans hl.1.symm) hown h7w h8w h9w h10w hX.1 hP hD hS 6 7 0 0 rfl rfl rfl rfl rfl (by decide) (by decide) (by decide) (by decide) (by decide) (fun _ _ => rfl) (Nat.le_of_ble_eq_true rfl) (Nat.le_of_ble_eq_true rfl) dX1_copy_82 (fun H locs hP hD hS => ?_)
  refine lv_aload_n hx hb dX1_copy_85 rfl (lv_at hl 1 rfl) ?_
  refine va_get (D := G) (ci := 0) (v := .ref p5) (C := RX1) (T := TX1) (N := 12) (ref := RX1) hx hb hts h1w hown hX.1 hP 0 rfl rfl 8 (by decide) h13w (fun _ h9 => h9) rfl dX1_copy_86 ?_
  refine lv_iconst (v := 0) hx hb dX1_copy_89 (by decide +kernel) ?_
  refine lv_aload_n hx hb dX1_copy_90 rfl (lv_at hl 0 rfl) ?_
  refine va_get (D := G) (ci := 0) (v := .ref p17) (C := RX1) (T := TX1) (N := 12) (ref := RX1) hx hb hts h1w hown hX.1 hP 1 rfl rfl 8 (by decide) h13w (fun _ h9 => h9) rfl dX1_copy_91 ?_
  refine lv_iconst (v := 0) hx hb dX1_copy_94 (by decide +kernel) ?_
  refine lv_bipush (v := 60) hx hb dX1_copy_95 (by decide +kernel) ?_
  refine va_copyi (ty := .int) hx hb (hml.trans hl.1.symm) hown h7w h8w h9w h10w hX.1 hP hD hS 8 9 0 0 rfl rfl rfl rfl rfl (by decide) (by decide) (by decide) (by decide) (by decide) (fun _ _ => rfl) (Nat.le_of_ble_eq_true rfl) (Nat.le_of_ble_eq_true rfl) dX1_copy_97 (fun H locs hP hD hS => ?_)
  refine lv_aload_n hx hb dX1_copy_100 rfl (lv_at hl 1 rfl) ?_
  refine va_get (D := G) (ci := 0) (v := .ref p6) (C := RX1) (T := TX1) (N := 12) (ref := RX1) hx hb hts h1w hown hX.1 hP 0 rfl rfl 9 (by decide) h14w (fun _ h9 => h9) rfl dX1_copy_101 ?_
  refine lv_iconst (v := 0) hx hb dX1_copy_104 (by decide +kernel) ?_
  refine lv_aload_n hx hb dX1_copy_105 rfl (lv_at hl 0 rfl) ?_
  refine va_get (D := G) (ci := 0) (v := .ref p18) (C := RX1) (T := TX1) (N := 12) (ref := RX1) hx hb hts h1w hown hX.1 hP 1 rfl rfl 9 (by decide) h14w (fun _ h9 => h9) rfl dX1_copy_106 ?_
  refine lv_iconst (v := 0) hx hb dX1_copy_109 (by decide +kernel) ?_
  refine lv_bipush (v := 60) hx hb dX1_copy_110 (by decide +kernel) ?_
  refine va_copyi (ty := .int) hx hb (hml.trans hl.1.symm) hown h7w h8w h9w h10w hX.1 hP hD hS 10 11 0 0 rfl rfl rfl rfl rfl (by decide) (by decide) (by decide) (by decide) (by decide) (fun _ _ => rfl) (Nat.le_of_ble_eq_true rfl) (Nat.le_of_ble_eq_true rfl) dX1_copy_112 (fun H locs hP hD hS => ?_)
  refine lv_aload_n hx hb dX1_copy_115 rfl (lv_at hl 1 rfl) ?_
  refine va_get (D := G) (ci := 0) (v := .ref p7) (C := RX1) (T := TX1) (N := 12) (ref := RX1) hx hb hts h1w hown hX.1 hP 0 rfl rfl 10 (by decide) h15w (fun _ h9 => h9) rfl dX1_copy_116 ?_
  refine lv_iconst (v := 0) hx hb dX1_copy_119 (by decide +kernel) ?_
  refine lv_aload_n hx hb dX1_copy_120 rfl (lv_at hl 0 rfl) ?_
  refine va_get (D := G) (ci := 0) (v := .ref p19) (C := RX1) (T := TX1) (N := 12) (ref := RX1) hx hb hts h1w hown hX.1 hP 1 rfl rfl 10 (by decide) h15w (fun _ h9 => h9) rfl dX1_copy_121 ?_
  refine lv_iconst (v := 0) hx hb dX1_copy_124 (by decide +kernel) ?_
  refine lv_bipush (v := 6) hx hb dX1_copy_125 (by decide +kernel) ?_
  refine va_copyi (ty := .int) hx hb (hml.trans hl.1.symm) hown h7w h8w h9w h10w hX.1 hP hD hS 12 13 0 0 rfl rfl rfl rfl rfl (by decide) (by decide) (by decide) (by decide) (by decide) (fun _ _ => rfl) (Nat.le_of_ble_eq_true rfl) (Nat.le_of_ble_eq_true rfl) dX1_copy_127 (fun H locs hP hD hS => ?_)
  refine lv_aload_n hx hb dX1_copy_130 rfl (lv_at hl 1 rfl) ?_
  refine va_get (D := G) (ci := 0) (v := .ref p8) (C := RX1) (T := TX1) (N := 12) (ref := RX1) hx hb hts h1w hown hX.1 hP 0 rfl rfl 11 (by decide) h16w (fun _ h9 => h9) rfl dX1_copy_131 ?_
  refine lv_iconst (v := 0) hx hb dX1_copy_134 (by decide +kernel) ?_
  refine lv_aload_n hx hb dX1_copy_135 rfl (lv_at hl 0 rfl) ?_
  refine va_get (D := G) (ci := 0) (v := .ref p20) (C := RX1) (T := TX1) (N := 12) (ref := RX1) hx hb hts h1w hown hX.1 hP 1 rfl rfl 11 (by decide) h16w (fun _ h9 => h9) rfl dX1_copy_136 ?_
  refine lv_iconst (v := 0) hx hb dX1_copy_139 (by decide +kernel) ?_
  refine lv_aload_n hx hb dX1_copy_140 rfl (lv_at hl 0 rfl) ?_
  refine va_get (D := G) (ci := 0) (v := .ref p20) (C := RX1) (T := TX1) (N := 12) (ref := RX1) hx hb hts h1w hown hX.1 hP 1 rfl rfl 11 (by decide) h16w (fun _ h9 => h9) rfl dX1_copy_141 ?_
  refine va_alen (v := 3) hx hb hX.1 hP 14 0 rfl rfl (show Int32.ofNat 3 = 3 by decide +kernel) dX1_copy_144 ?_
  refine va_copyi (ty := .int) hx hb (hml.trans hl.1.symm) hown h7w h8w h9w h10w hX.1 hP hD hS 15 14 0 0 rfl rfl rfl rfl rfl (by decide) (by decide) (by decide) (by decide) (by decide) (fun _ _ => rfl) (Nat.le_of_ble_eq_true rfl) (Nat.le_of_ble_eq_true rfl) dX1_copy_145 (fun H locs hP hD hS => ?_)
  obtain ⟨hP, hD⟩ : va_P G vwCl [(p1, .inr (0, [.int 268435455, .int 0, .int 0, .int 0, .int 0, .ref p2, .ref p3, .ref p4, .ref p5, .ref p6, .ref p7, .ref p8])), (p0, .inr (0, [.int 268435455, .int 0, .int 0, .int 0, .int 0, .ref p14, .ref p15, .ref p16, .ref p17, .ref p18, .ref p19, .ref p20])), (p2, .inl (k 0, 60, .inl f21)), (p14, .inl (k 0, 60, .inl (va_cpy f21 f22 (0 : Int32).toNatClampNeg (0 : Int32).toNatClampNeg (60 : Int32).toNatClampNeg))), (p3, .inl (k 0, 60, .inl f23)), (p15, .inl (k 0, 60, .inl (va_cpy f23 f24 (0 : Int32).toNatClampNeg (0 : Int32).toNatClampNeg (60 : Int32).toNatClampNeg))), (p4, .inl (k 0, 60, .inl f25)), (p16, .inl (k 0, 60, .inl (va_cpy f25 f26 (0 : Int32).toNatClampNeg (0 : Int32).toNatClampNeg (60 : Int32).toNatClampNeg))), (p5, .inl (k 0, 60, .inl f27)), (p17, .inl (k 0, 60, .inl (va_cpy f27 f28 (0 : Int32).toNatClampNeg (0 : Int32).toNatClampNeg (60 : Int32).toNatClampNeg))), (p6, .inl (k 0, 60, .inl f29)), (p18, .inl (k 0, 60, .inl (va_cpy f29 f30 (0 : Int32).toNatClampNeg (0 : Int32).toNatClampNeg (60 : Int32).toNatClampNeg))), (p7, .inl (k 0, 6, .inl f31)), (p19, .inl (k 0, 6, .inl (va_cpy f31 f32 (0 : Int32).toNatClampNeg (0 : Int32).toNatClampNeg (6 : Int32).toNatClampNeg))), (p20, .inl (k 0, 3, .inl (va_cpy f34 f33 (0 : Int32).toNatClampNeg (0 : Int32).toNatClampNeg (3 : Int32).toNatClampNeg))), (p8, .inl (k 0, 3, .inl f34))] H ∧ va_D A [(p1, .inr (0, [.int 268435455, .int 0, .int 0, .int 0, .int 0, .ref p2, .ref p3, .ref p4, .ref p5, .ref p6, .ref p7, .ref p8])), (p0, .inr (0, [.int 268435455, .int 0, .int 0, .int 0, .int 0, .ref p14, .ref p15, .ref p16, .ref p17, .ref p18, .ref p19, .ref p20])), (p2, .inl (k 0, 60, .inl f21)), (p14, .inl (k 0, 60, .inl (va_cpy f21 f22 (0 : Int32).toNatClampNeg (0 : Int32).toNatClampNeg (60 : Int32).toNatClampNeg))), (p3, .inl (k 0, 60, .inl f23)), (p15, .inl (k 0, 60, .inl (va_cpy f23 f24 (0 : Int32).toNatClampNeg (0 : Int32).toNatClampNeg (60 : Int32).toNatClampNeg))), (p4, .inl (k 0, 60, .inl f25)), (p16, .inl (k 0, 60, .inl (va_cpy f25 f26 (0 : Int32).toNatClampNeg (0 : Int32).toNatClampNeg (60 : Int32).toNatClampNeg))), (p5, .inl (k 0, 60, .inl f27)), (p17, .inl (k 0, 60, .inl (va_cpy f27 f28 (0 : Int32).toNatClampNeg (0 : Int32).toNatClampNeg (60 : Int32).toNatClampNeg))), (p6, .inl (k 0, 60, .inl f29)), (p18, .inl (k 0, 60, .inl (va_cpy f29 f30 (0 : Int32).toNatClampNeg (0 : Int32).toNatClampNeg (60 : Int32).toNatClampNeg))), (p7, .inl (k 0, 6, .inl f31)), (p19, .inl (k 0, 6, .inl (va_cpy f31 f32 (0 : Int32).toNatClampNeg (0 : Int32).toNatClampNeg (6 : Int32).toNatClampNeg))), (p20, .inl (k 0, 3, .inl (va_cpy f34 f33 (0 : Int32).toNatClampNeg (0 : Int32).toNatClampNeg (3 : Int32).toNatClampNeg))), (p8, .inl (k 0, 3, .inl f34))] := ⟨hP, hD⟩
  have hP9 := hP.sub (ws' := [(p1, .inr (0, [.int 268435455, .int 0, .int 0, .int 0, .int 0, .ref p2, .ref p3, .ref p4, .ref p5, .ref p6, .ref p7, .ref p8])), (p0, .inr (0, [.int 268435455, .int 0, .int 0, .int 0, .int 0, .ref p14, .ref p15, .ref p16, .ref p17, .ref p18, .ref p19, .ref p20])), (p2, .inl (k 0, 60, .inl f21)), (p14, .inl (k 0, 60, .inl (va_cpy f21 f22 (0 : Int32).toNatClampNeg (0 : Int32).toNatClampNeg (60 : Int32).toNatClampNeg))), (p3, .inl (k 0, 60, .inl f23)), (p15, .inl (k 0, 60, .inl (va_cpy f23 f24 (0 : Int32).toNatClampNeg (0 : Int32).toNatClampNeg (60 : Int32).toNatClampNeg))), (p4, .inl (k 0, 60, .inl f25)), (p16, .inl (k 0, 60, .inl (va_cpy f25 f26 (0 : Int32).toNatClampNeg (0 : Int32).toNatClampNeg (60 : Int32).toNatClampNeg))), (p5, .inl (k 0, 60, .inl f27)), (p17, .inl (k 0, 60, .inl (va_cpy f27 f28 (0 : Int32).toNatClampNeg (0 : Int32).toNatClampNeg (60 : Int32).toNatClampNeg))), (p6, .inl (k 0, 60, .inl f29)), (p18, .inl (k 0, 60, .inl (va_cpy f29 f30 (0 : Int32).toNatClampNeg (0 : Int32).toNatClampNeg (60 : Int32).toNatClampNeg))), (p7, .inl (k 0, 6, .inl f31)), (p19, .inl (k 0, 6, .inl (va_cpy f31 f32 (0 : Int32).toNatClampNeg (0 : Int32).toNatClampNeg (6 : Int32).toNatClampNeg))), (p20, .inl (k 0, 3, .inl (va_cpy f34 f33 (0 : Int32).toNatClampNeg (0 : Int32).toNatClampNeg (3 : Int32).toNatClampNeg))), (p8, .inl (k 0, 3, .inl f34))]) [0, 1, 2, 3, 4, 5, 6, 7, 8, 9, 10, 11, 12, 13, 14, 15] rfl
  have hD9 := hD.sub (ws' := [(p1, .inr (0, [.int 268435455, .int 0, .int 0, .int 0, .int 0, .ref p2, .ref p3, .ref p4, .ref p5, .ref p6, .ref p7, .ref p8])), (p0, .inr (0, [.int 268435455, .int 0, .int 0, .int 0, .int 0, .ref p14, .ref p15, .ref p16, .ref p17, .ref p18, .ref p19, .ref p20])), (p2, .inl (k 0, 60, .inl f21)), (p14, .inl (k 0, 60, .inl (va_cpy f21 f22 (0 : Int32).toNatClampNeg (0 : Int32).toNatClampNeg (60 : Int32).toNatClampNeg))), (p3, .inl (k 0, 60, .inl f23)), (p15, .inl (k 0, 60, .inl (va_cpy f23 f24 (0 : Int32).toNatClampNeg (0 : Int32).toNatClampNeg (60 : Int32).toNatClampNeg))), (p4, .inl (k 0, 60, .inl f25)), (p16, .inl (k 0, 60, .inl (va_cpy f25 f26 (0 : Int32).toNatClampNeg (0 : Int32).toNatClampNeg (60 : Int32).toNatClampNeg))), (p5, .inl (k 0, 60, .inl f27)), (p17, .inl (k 0, 60, .inl (va_cpy f27 f28 (0 : Int32).toNatClampNeg (0 : Int32).toNatClampNeg (60 : Int32).toNatClampNeg))), (p6, .inl (k 0, 60, .inl f29)), (p18, .inl (k 0, 60, .inl (va_cpy f29 f30 (0 : Int32).toNatClampNeg (0 : Int32).toNatClampNeg (60 : Int32).toNatClampNeg))), (p7, .inl (k 0, 6, .inl f31)), (p19, .inl (k 0, 6, .inl (va_cpy f31 f32 (0 : Int32).toNatClampNeg (0 : Int32).toNatClampNeg (6 : Int32).toNatClampNeg))), (p20, .inl (k 0, 3, .inl (va_cpy f34 f33 (0 : Int32).toNatClampNeg (0 : Int32).toNatClampNeg (3 : Int32).toNatClampNeg))), (p8, .inl (k 0, 3, .inl f34))]) [0, 1, 2, 3, 4, 5, 6, 7, 8, 9, 10, 11, 12, 13, 14, 15] (by decide) rfl
  exact W.vret hx hb hr (fun t ht hW => ⟨⟨(), rfl, trivial, by rw [ht]; exact hP9, hD9⟩, hS.F ht⟩) hS.2.2 dX1_copy_148

set_option maxHeartbeats 4000000 in
set_option maxRecDepth 100000 in
theorem cX9_image_0 (l : Launch) (G : va_G) (k : Nat → ClassId) (p0 : Nat) (v1 : Value) (v2 : Value) (v3 : Value) (v4 : Value) (v5 : Value) (v6 : Value) (p7 : Nat) (p8 : Nat) (v9 : Value) (v10 : Value) (v11 : Value) (v12 : Value) (v13 : Value) (v14 : Value) (v15 : Value) (v16 : Value) (p17 : Nat) (p18 : Nat) (p19 : Nat) (p20 : Nat) (p21 : Nat) (p22 : Nat) (p23 : Nat) (p24 : Nat) (p25 : Nat) (p26 : Nat) (p27 : Nat) (p28 : Nat) (p29 : Nat) (p30 : Nat) (f31 : Nat → Int32) (f32 : Nat → Int32) (f33 : Nat → Int32) (f34 : Nat → Int32) (f35 : Nat → Int32) (f36 : Nat → Int32) (f37 : Nat → Int32) (f38 : Nat → Int32) (f39 : Nat → Int32) (f40 : Nat → Int32) (f41 : Nat → Int32) (f42 : Nat → Int32) (f43 : Nat → Int32) (f44 : Nat → Int32) (sz : Nat) : CMv l G k yX9_image wsX9_image ({ frames := 2, cells := 0, slots := 0, locals := 85 }) [.ref p0] sz [(p0, .inr (6, [v1, v2, v3, v4, v5, v6, .ref p7, .ref p8, v9, v10, v11])), (p8, .inr (0, [v12, v13, v14, v15, v16, .ref p17, .ref p18, .ref p19, .ref p20, .ref p21, .ref p22, .ref p23])), (p7, .inr (0, [.int 268435455, .int 0, .int 0, .int 0, .int 0, .ref p24, .ref p25, .ref p26, .ref p27, .ref p28, .ref p29, .ref p30])), (p24, .inl (k 0, 60, .inl f31)), (p17, .inl (k 0, 60, .inl f32)), (p25, .inl (k 0, 60, .inl f33)), (p18, .inl (k 0, 60, .inl f34)), (p26, .inl (k 0, 60, .inl f35)), (p19, .inl (k 0, 60, .inl f36)), (p27, .inl (k 0, 60, .inl f37)), (p20, .inl (k 0, 60, .inl f38)), (p28, .inl (k 0, 60, .inl f39)), (p21, .inl (k 0, 60, .inl f40)), (p29, .inl (k 0, 6, .inl f41)), (p22, .inl (k 0, 6, .inl f42)), (p23, .inl (k 0, 3, .inl f43)), (p30, .inl (k 0, 3, .inl f44))] (fun (u : Unit) => True) (fun (u : Unit) => [(p0, .inr (6, [v1, v2, v3, v4, v5, v6, .ref p7, .ref p8, .int 1, v10, v11])), (p7, .inr (0, [.int 268435455, .int 0, .int 0, .int 0, .int 0, .ref p24, .ref p25, .ref p26, .ref p27, .ref p28, .ref p29, .ref p30])), (p8, .inr (0, [.int 268435455, .int 0, .int 0, .int 0, .int 0, .ref p17, .ref p18, .ref p19, .ref p20, .ref p21, .ref p22, .ref p23])), (p24, .inl (k 0, 60, .inl f31)), (p17, .inl (k 0, 60, .inl (va_cpy f31 f32 (0 : Int32).toNatClampNeg (0 : Int32).toNatClampNeg (60 : Int32).toNatClampNeg))), (p25, .inl (k 0, 60, .inl f33)), (p18, .inl (k 0, 60, .inl (va_cpy f33 f34 (0 : Int32).toNatClampNeg (0 : Int32).toNatClampNeg (60 : Int32).toNatClampNeg))), (p26, .inl (k 0, 60, .inl f35)), (p19, .inl (k 0, 60, .inl (va_cpy f35 f36 (0 : Int32).toNatClampNeg (0 : Int32).toNatClampNeg (60 : Int32).toNatClampNeg))), (p27, .inl (k 0, 60, .inl f37)), (p20, .inl (k 0, 60, .inl (va_cpy f37 f38 (0 : Int32).toNatClampNeg (0 : Int32).toNatClampNeg (60 : Int32).toNatClampNeg))), (p28, .inl (k 0, 60, .inl f39)), (p21, .inl (k 0, 60, .inl (va_cpy f39 f40 (0 : Int32).toNatClampNeg (0 : Int32).toNatClampNeg (60 : Int32).toNatClampNeg))), (p29, .inl (k 0, 6, .inl f41)), (p22, .inl (k 0, 6, .inl (va_cpy f41 f42 (0 : Int32).toNatClampNeg (0 : Int32).toNatClampNeg (6 : Int32).toNatClampNeg))), (p23, .inl (k 0, 3, .inl (va_cpy f44 f43 (0 : Int32).toNatClampNeg (0 : Int32).toNatClampNeg (3 : Int32).toNatClampNeg))), (p30, .inl (k 0, 3, .inl f44))]) := by
  refine Met.ofW (cc := cX9_image) (maxL := 1) (ret := none) (by decide) rfl ?_
  intro p e s m args below meth c s₁ B hml hv
  obtain ⟨rfl, hsz, hP, hX, hD0, hZ0⟩ := hv
  have hx := B.exec
  have hb := B.bytes
  have hr := B.returns
  have hts := atoms_spec (ws := wsX9_image) B.pre
  have hown : s.vm.findClass RX9 = some m.cls := findClass_of_methodNamed B.named
  subst hsz
  have hD := hD0.self (sz := s.heap.size)
  have hZ := ZX.up hP hZ0
  generalize hAe : va_A [(p0, .inr (6, [v1, v2, v3, v4, v5, v6, .ref p7, .ref p8, v9, v10, v11])), (p8, .inr (0, [v12, v13, v14, v15, v16, .ref p17, .ref p18, .ref p19, .ref p20, .ref p21, .ref p22, .ref p23])), (p7, .inr (0, [.int 268435455, .int 0, .int 0, .int 0, .int 0, .ref p24, .ref p25, .ref p26, .ref p27, .ref p28, .ref p29, .ref p30])), (p24, .inl (k 0, 60, .inl f31)), (p17, .inl (k 0, 60, .inl f32)), (p25, .inl (k 0, 60, .inl f33)), (p18, .inl (k 0, 60, .inl f34)), (p26, .inl (k 0, 60, .inl f35)), (p19, .inl (k 0, 60, .inl f36)), (p27, .inl (k 0, 60, .inl f37)), (p20, .inl (k 0, 60, .inl f38)), (p28, .inl (k 0, 60, .inl f39)), (p21, .inl (k 0, 60, .inl f40)), (p29, .inl (k 0, 6, .inl f41)), (p22, .inl (k 0, 6, .inl f42)), (p23, .inl (k 0, 3, .inl f43)), (p30, .inl (k 0, 3, .inl f44))] s.heap.size = A at hD hZ ⊢
  have hA : ∀ q : Nat, s.heap.size ≤ q → A q := fun q h => by rw [← hAe]; exact Or.inr h
  have hS : va_S A s.heap s.heap [] := va_S.rf
  have hP : va_P G vwCl [(p0, .inr (6, [v1, v2, v3, v4, v5, v6, .ref p7, .ref p8, v9, v10, v11])), (p8, .inr (0, [v12, v13, v14, v15, v16, .ref p17, .ref p18, .ref p19, .ref p20, .ref p21, .ref p22, .ref p23])), (p7, .inr (0, [.int 268435455, .int 0, .int 0, .int 0, .int 0, .ref p24, .ref p25, .ref p26, .ref p27, .ref p28, .ref p29, .ref p30])), (p24, .inl (k 0, 60, .inl f31)), (p17, .inl (k 0, 60, .inl f32)), (p25, .inl (k 0, 60, .inl f33)), (p18, .inl (k 0, 60, .inl f34)), (p26, .inl (k 0, 60, .inl f35)), (p19, .inl (k 0, 60, .inl f36)), (p27, .inl (k 0, 60, .inl f37)), (p20, .inl (k 0, 60, .inl f38)), (p28, .inl (k 0, 60, .inl f39)), (p21, .inl (k 0, 60, .inl f40)), (p29, .inl (k 0, 6, .inl f41)), (p22, .inl (k 0, 6, .inl f42)), (p23, .inl (k 0, 3, .inl f43)), (p30, .inl (k 0, 3, .inl f44))] s.heap := hP
  have hl := lv_entry ([.ref p0]) (n := 1) (Nat.le_of_ble_eq_true rfl)
  rw [lg_entry_eq]
  generalize (lg_sl ([.ref p0]) ++ List.replicate (1 - (lg_sl ([.ref p0])).length) Slot.unset).toArray = ls at hl ⊢
  have hl : lv_has ls 1 [(0, .ref p0)] := hl
  have h0w := hts (.fieldLink RX9 46 "RopeTown" "kept" "LRopeTown$Book;") (by decide +kernel)
  have h1w : ∀ w ∈ wsX90, w ∈ wsX9_image := by decide +kernel
  have h2w := hts (.fieldLink RX9 42 "RopeTown" "book" "LRopeTown$Book;") (by decide +kernel)
  have h3w := hts (.initialized RX1) (by decide +kernel)
  have h4w := hts (.instanceMethod yX1_copy) (by decide +kernel)
  have h5w := hts (.selects RX1 yX1_copy yX1_copy) (by decide +kernel)
  have h6w := hts (.fieldLink RX9 49 "RopeTown" "isKept" "Z") (by decide +kernel)
  refine lv_aload_n hx hb dX9_image_0 rfl (lv_at hl 0 rfl) ?_
  refine va_get (D := G) (ci := 6) (v := .ref p8) (C := RX9) (T := TX9) (N := 11) (ref := RX9) hx hb hts h1w hown hX.1 hP 0 rfl rfl 7 (by decide) h0w (fun _ h9 => h9) rfl dX9_image_1 ?_
  refine lv_aload_n hx hb dX9_image_4 rfl (lv_at hl 0 rfl) ?_
  refine va_get (D := G) (ci := 6) (v := .ref p7) (C := RX9) (T := TX9) (N := 11) (ref := RX9) hx hb hts h1w hown hX.1 hP 0 rfl rfl 6 (by decide) h2w (fun _ h9 => h9) rfl dX9_image_5 ?_
  refine cz_v (wr := [(p0, .inr (6, [v1, v2, v3, v4, v5, v6, .ref p7, .ref p8, v9, v10, v11]))]) (va_runVN (As := [.ref p7]) (rest := []) ⟨hx, hb, hml, hown, hts⟩ (cX1_copy_0 l G k p8 p7 p24 p25 p26 p27 p28 p29 p30 v12 v13 v14 v15 v16 p17 p18 p19 p20 p21 p22 p23 f31 f32 f33 f34 f35 f36 f37 f38 f39 f40 f41 f42 f43 f44 s.heap.size) ⟨va_cnB 1 hts gX9_image_X1_copy_n292 rfl rfl rfl (nm_27 hX.2.2.1) h3w (by decide +kernel) ⟨Nat.le_of_ble_eq_true rfl, Nat.le_of_ble_eq_true rfl⟩, h4w, h5w⟩ (cz_preV hZ hS hX hP hD [2, 1, 3, 4, 5, 6, 7, 8, 9, 10, 11, 12, 13, 14, 15, 16] rfl rfl (ci := 0) (q0 := 1) rfl rfl) rfl rfl hl.1 rfl (lv_room (Nat.le_of_ble_eq_true rfl)) dX9_image_8 ⟨Nat.le_of_ble_eq_true rfl, Nat.le_of_ble_eq_true rfl⟩) hP hD hS hA [2, 1, 3, 4, 5, 6, 7, 8, 9, 10, 11, 12, 13, 14, 15, 16] [0] rfl rfl (by decide) (by decide) (fun u H locs hp hP hD hS => ?_)
  refine lv_aload_n hx hb dX9_image_11 rfl (lv_at hl 0 rfl) ?_
  refine lv_iconst (v := 1) hx hb dX9_image_12 (by decide +kernel) ?_
  refine va_put (D := G) (ci := 6) (v := .int 1) (ty := .boolean) (C := RX9) (T := TX9) (N := 11) (ref := RX9) hx hb hts h1w tyX9 tyX9_ok nmX9 hown hX.1 hP hD hS 0 rfl rfl 8 (by decide) h6w (fun _ h9 => h9) rfl (by decide +kernel) (by decide +kernel) rfl (Nat.le_of_ble_eq_true rfl) dX9_image_13 (fun H locs hP hD hS => ?_)
  have hP9 := hP.sub (ws' := [(p0, .inr (6, [v1, v2, v3, v4, v5, v6, .ref p7, .ref p8, .int 1, v10, v11])), (p7, .inr (0, [.int 268435455, .int 0, .int 0, .int 0, .int 0, .ref p24, .ref p25, .ref p26, .ref p27, .ref p28, .ref p29, .ref p30])), (p8, .inr (0, [.int 268435455, .int 0, .int 0, .int 0, .int 0, .ref p17, .ref p18, .ref p19, .ref p20, .ref p21, .ref p22, .ref p23])), (p24, .inl (k 0, 60, .inl f31)), (p17, .inl (k 0, 60, .inl (va_cpy f31 f32 (0 : Int32).toNatClampNeg (0 : Int32).toNatClampNeg (60 : Int32).toNatClampNeg))), (p25, .inl (k 0, 60, .inl f33)), (p18, .inl (k 0, 60, .inl (va_cpy f33 f34 (0 : Int32).toNatClampNeg (0 : Int32).toNatClampNeg (60 : Int32).toNatClampNeg))), (p26, .inl (k 0, 60, .inl f35)), (p19, .inl (k 0, 60, .inl (va_cpy f35 f36 (0 : Int32).toNatClampNeg (0 : Int32).toNatClampNeg (60 : Int32).toNatClampNeg))), (p27, .inl (k 0, 60, .inl f37)), (p20, .inl (k 0, 60, .inl (va_cpy f37 f38 (0 : Int32).toNatClampNeg (0 : Int32).toNatClampNeg (60 : Int32).toNatClampNeg))), (p28, .inl (k 0, 60, .inl f39)), (p21, .inl (k 0, 60, .inl (va_cpy f39 f40 (0 : Int32).toNatClampNeg (0 : Int32).toNatClampNeg (60 : Int32).toNatClampNeg))), (p29, .inl (k 0, 6, .inl f41)), (p22, .inl (k 0, 6, .inl (va_cpy f41 f42 (0 : Int32).toNatClampNeg (0 : Int32).toNatClampNeg (6 : Int32).toNatClampNeg))), (p23, .inl (k 0, 3, .inl (va_cpy f44 f43 (0 : Int32).toNatClampNeg (0 : Int32).toNatClampNeg (3 : Int32).toNatClampNeg))), (p30, .inl (k 0, 3, .inl f44))]) [0, 1, 2, 3, 4, 5, 6, 7, 8, 9, 10, 11, 12, 13, 14, 15, 16] rfl
  have hD9 := hD.sub (ws' := [(p0, .inr (6, [v1, v2, v3, v4, v5, v6, .ref p7, .ref p8, .int 1, v10, v11])), (p7, .inr (0, [.int 268435455, .int 0, .int 0, .int 0, .int 0, .ref p24, .ref p25, .ref p26, .ref p27, .ref p28, .ref p29, .ref p30])), (p8, .inr (0, [.int 268435455, .int 0, .int 0, .int 0, .int 0, .ref p17, .ref p18, .ref p19, .ref p20, .ref p21, .ref p22, .ref p23])), (p24, .inl (k 0, 60, .inl f31)), (p17, .inl (k 0, 60, .inl (va_cpy f31 f32 (0 : Int32).toNatClampNeg (0 : Int32).toNatClampNeg (60 : Int32).toNatClampNeg))), (p25, .inl (k 0, 60, .inl f33)), (p18, .inl (k 0, 60, .inl (va_cpy f33 f34 (0 : Int32).toNatClampNeg (0 : Int32).toNatClampNeg (60 : Int32).toNatClampNeg))), (p26, .inl (k 0, 60, .inl f35)), (p19, .inl (k 0, 60, .inl (va_cpy f35 f36 (0 : Int32).toNatClampNeg (0 : Int32).toNatClampNeg (60 : Int32).toNatClampNeg))), (p27, .inl (k 0, 60, .inl f37)), (p20, .inl (k 0, 60, .inl (va_cpy f37 f38 (0 : Int32).toNatClampNeg (0 : Int32).toNatClampNeg (60 : Int32).toNatClampNeg))), (p28, .inl (k 0, 60, .inl f39)), (p21, .inl (k 0, 60, .inl (va_cpy f39 f40 (0 : Int32).toNatClampNeg (0 : Int32).toNatClampNeg (60 : Int32).toNatClampNeg))), (p29, .inl (k 0, 6, .inl f41)), (p22, .inl (k 0, 6, .inl (va_cpy f41 f42 (0 : Int32).toNatClampNeg (0 : Int32).toNatClampNeg (6 : Int32).toNatClampNeg))), (p23, .inl (k 0, 3, .inl (va_cpy f44 f43 (0 : Int32).toNatClampNeg (0 : Int32).toNatClampNeg (3 : Int32).toNatClampNeg))), (p30, .inl (k 0, 3, .inl f44))]) [0, 1, 2, 3, 4, 5, 6, 7, 8, 9, 10, 11, 12, 13, 14, 15, 16] (by decide) rfl
  exact W.vret hx hb hr (fun t ht hW => ⟨⟨(), rfl, trivial, by rw [ht]; exact hP9, hD9⟩, hS.F ht⟩) hS.2.2 dX9_image_16

set_option maxHeartbeats 4000000 in
set_option maxRecDepth 100000 in
theorem cX9_restore_0 (l : Launch) (G : va_G) (k : Nat → ClassId) (p0 : Nat) (v1 : Value) (v2 : Value) (v3 : Value) (v4 : Value) (v5 : Value) (v6 : Value) (v7 : Value) (v8 : Value) (v9 : Value) (v10 : Value) (sz : Nat) : CMi l G k yX9_restore wsX9_restore ({ frames := 0, cells := 0, slots := 0, locals := 0 }) [.ref p0] sz [(p0, .inr (6, [v1, v2, v3, v4, v5, v6, v7, v8, .int 0, v9, v10]))] (fun r (u : Unit) => r = 0) (fun (u : Unit) => [(p0, .inr (6, [v1, v2, v3, v4, v5, v6, v7, v8, .int 0, v9, v10]))]) := by
  refine Met.ofW (cc := cX9_restore) (maxL := 1) (ret := (some .boolean)) (by decide) rfl ?_
  intro p e s m args below meth c s₁ B hml hv
  obtain ⟨rfl, hsz, hP, hX, hD0, hZ0⟩ := hv
  have hx := B.exec
  have hb := B.bytes
  have hr := B.returns
  have hts := atoms_spec (ws := wsX9_restore) B.pre
  have hown : s.vm.findClass RX9 = some m.cls := findClass_of_methodNamed B.named
  subst hsz
  have hD := hD0.self (sz := s.heap.size)
  have hZ := ZX.up hP hZ0
  generalize hAe : va_A [(p0, .inr (6, [v1, v2, v3, v4, v5, v6, v7, v8, .int 0, v9, v10]))] s.heap.size = A at hD hZ ⊢
  have hA : ∀ q : Nat, s.heap.size ≤ q → A q := fun q h => by rw [← hAe]; exact Or.inr h
  have hS : va_S A s.heap s.heap [] := va_S.rf
  have hP : va_P G vwCl [(p0, .inr (6, [v1, v2, v3, v4, v5, v6, v7, v8, .int 0, v9, v10]))] s.heap := hP
  have hl := lv_entry ([.ref p0]) (n := 1) (Nat.le_of_ble_eq_true rfl)
  rw [lg_entry_eq]
  generalize (lg_sl ([.ref p0]) ++ List.replicate (1 - (lg_sl ([.ref p0])).length) Slot.unset).toArray = ls at hl ⊢
  have hl : lv_has ls 1 [(0, .ref p0)] := hl
  have h0w := hts (.fieldLink RX9 49 "RopeTown" "isKept" "Z") (by decide +kernel)
  have h1w : ∀ w ∈ wsX90, w ∈ wsX9_restore := by decide +kernel
  refine lv_aload_n hx hb dX9_restore_0 rfl (lv_at hl 0 rfl) ?_
  refine va_get (D := G) (ci := 6) (v := .int 0) (C := RX9) (T := TX9) (N := 11) (ref := RX9) hx hb hts h1w hown hX.1 hP 0 rfl rfl 8 (by decide) h0w (fun _ h9 => h9) rfl dX9_restore_1 ?_
  refine lv_if_eq (tgt := 18) hx hb dX9_restore_4 (by decide) (fun _ => ?_) (fun q => absurd (by decide +kernel) (q))
  refine lv_aload_n hx hb dX9_restore_18 rfl (lv_at hl 0 rfl) ?_
  refine va_get (D := G) (ci := 6) (v := .int 0) (C := RX9) (T := TX9) (N := 11) (ref := RX9) hx hb hts h1w hown hX.1 hP 0 rfl rfl 8 (by decide) h0w (fun _ h9 => h9) rfl dX9_restore_19 ?_
  have hP9 := hP.sub (ws' := [(p0, .inr (6, [v1, v2, v3, v4, v5, v6, v7, v8, .int 0, v9, v10]))]) [0] rfl
  have hD9 := hD.sub (ws' := [(p0, .inr (6, [v1, v2, v3, v4, v5, v6, v7, v8, .int 0, v9, v10]))]) [0] (by decide) rfl
  exact W.zret (v := 0) hx hb hr (by decide +kernel) (fun t ht hW => ⟨⟨0, (), rfl, rfl, by rw [ht]; exact hP9, hD9⟩, hS.F ht⟩) hS.2.2 dX9_restore_22

