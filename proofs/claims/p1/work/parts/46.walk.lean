set_option maxHeartbeats 4000000 in
set_option maxRecDepth 100000 in
theorem cX9_may_3 (l : Launch) (G : va_G) (k : Nat → ClassId) (p0 : Nat) (i1 : Int32) (v2 : Value) (v3 : Value) (v4 : Value) (v5 : Value) (p6 : Nat) (v7 : Value) (p8 : Nat) (v9 : Value) (v10 : Value) (v11 : Value) (v12 : Value) (v13 : Value) (v14 : Value) (v15 : Value) (v16 : Value) (v17 : Value) (v18 : Value) (v19 : Value) (v20 : Value) (v21 : Value) (v22 : Value) (v23 : Value) (v24 : Value) (v25 : Value) (v26 : Value) (v27 : Value) (v28 : Value) (v29 : Value) (v30 : Value) (v31 : Value) (v32 : Value) (v33 : Value) (v34 : Value) (v35 : Value) (sz : Nat) (hi1 : 1 < i1) : CMi l G k yX9_may wsX9_may ({ frames := 2, cells := 0, slots := 0, locals := 44 }) [.ref p0, .int i1] sz [(p0, .inr (6, [v2, v3, v4, v5, .ref p6, v7, .ref p8, v9, v10, v11, v12])), (p8, .inr (0, [.int 268435455, .int 0, v13, v14, v15, v16, v17, v18, v19, v20, v21, v22])), (p6, .inr (2, [.int 1, v23, v24, v25, v26, v27, v28, v29, v30, v31, v32, v33, v34, v35]))] (fun r (u : Unit) => r = 0) (fun (u : Unit) => [(p0, .inr (6, [v2, v3, v4, v5, .ref p6, v7, .ref p8, v9, v10, v11, v12])), (p8, .inr (0, [.int 268435455, .int 0, v13, v14, v15, v16, v17, v18, v19, v20, v21, v22])), (p6, .inr (2, [.int 1, v23, v24, v25, v26, v27, v28, v29, v30, v31, v32, v33, v34, v35]))]) := by
  refine Met.ofW (cc := cX9_may) (maxL := 4) (ret := (some .int)) (by decide) rfl ?_
  intro p e s m args below meth c s₁ B hml hv
  obtain ⟨rfl, hsz, hP, hX, hD0, hZ0⟩ := hv
  have hx := B.exec
  have hb := B.bytes
  have hr := B.returns
  have hts := atoms_spec (ws := wsX9_may) B.pre
  have hown : s.vm.findClass RX9 = some m.cls := findClass_of_methodNamed B.named
  subst hsz
  have hD := hD0.self (sz := s.heap.size)
  have hZ := ZX.up hP hZ0
  generalize hAe : va_A [(p0, .inr (6, [v2, v3, v4, v5, .ref p6, v7, .ref p8, v9, v10, v11, v12])), (p8, .inr (0, [.int 268435455, .int 0, v13, v14, v15, v16, v17, v18, v19, v20, v21, v22])), (p6, .inr (2, [.int 1, v23, v24, v25, v26, v27, v28, v29, v30, v31, v32, v33, v34, v35]))] s.heap.size = A at hD hZ ⊢
  have hA : ∀ q : Nat, s.heap.size ≤ q → A q := fun q h => by rw [← hAe]; exact Or.inr h
  have hS : va_S A s.heap s.heap [] := va_S.rf
  have hP : va_P G vwCl [(p0, .inr (6, [v2, v3, v4, v5, .ref p6, v7, .ref p8, v9, v10, v11, v12])), (p8, .inr (0, [.int 268435455, .int 0, v13, v14, v15, v16, v17, v18, v19, v20, v21, v22])), (p6, .inr (2, [.int 1, v23, v24, v25, v26, v27, v28, v29, v30, v31, v32, v33, v34, v35]))] s.heap := hP
  have hl := lv_entry ([.ref p0, .int i1]) (n := 4) (Nat.le_of_ble_eq_true rfl)
  rw [lg_entry_eq]
  generalize (lg_sl ([.ref p0, .int i1]) ++ List.replicate (4 - (lg_sl ([.ref p0, .int i1])).length) Slot.unset).toArray = ls at hl ⊢
  have hl : lv_has ls 4 [(0, .ref p0), (1, .int i1)] := hl
  have h0w := hts (.fieldLink RX9 42 "RopeTown" "book" "LRopeTown$Book;") (by decide +kernel)
  have h1w : ∀ w ∈ wsX90, w ∈ wsX9_may := by decide +kernel
  have h2w : ∀ w ∈ wsX10, w ∈ wsX9_may := by decide +kernel
  have h3w := hts (.fieldLink RX9 23 "RopeTown" "plan" "LRopeTown$Plan;") (by decide +kernel)
  have h4w := hts (.initialized RX3) (by decide +kernel)
  have h5w := hts (.instanceMethod yX3_rideTrouble) (by decide +kernel)
  have h6w := hts (.selects RX3 yX3_rideTrouble yX3_rideTrouble) (by decide +kernel)
  refine lv_aload_n hx hb dX9_may_0 rfl (lv_at hl 0 rfl) ?_
  refine va_get (D := G) (ci := 6) (v := .ref p8) (C := RX9) (T := TX9) (N := 11) (ref := RX9) hx hb hts h1w hown hX.1 hP 0 rfl rfl 6 (by decide) h0w (fun _ h9 => h9) rfl dX9_may_1 ?_
  refine va_getN (D := G) (ci := 0) (v := .int 0) (C := RX1) (T := TX1) (N := 12) (ref := RX1) (host := RX9) hx hb hts h2w hown hX.1 hP 1 rfl rfl 1 (by decide) (nf_38 hX.2.2.1) (fun _ h9 => h9) rfl dX9_may_4 ?_
  refine lv_bipush (v := 60) hx hb dX9_may_7 (by decide +kernel) ?_
  refine lv_icmp_lt (tgt := 14) hx hb dX9_may_9 (by decide) (fun _ => ?_) (fun q => absurd (by decide +kernel) (q))
  refine lv_iconst (v := 0) hx hb dX9_may_14 (by decide +kernel) ?_
  refine lv_istore_n (lv' := [(2, .int 0), (0, .ref p0), (1, .int i1)]) hx hb dX9_may_15 rfl hl (by decide) rfl (fun ls hl => ?_)
  refine lv_iconst (v := 0) hx hb dX9_may_16 (by decide +kernel) ?_
  refine lv_istore_n (lv' := [(3, .int 0), (2, .int 0), (0, .ref p0), (1, .int i1)]) hx hb dX9_may_17 rfl hl (by decide) rfl (fun ls hl => ?_)
  refine lv_iload_n hx hb dX9_may_18 rfl (lv_at hl 0 rfl) ?_
  refine lv_iconst (v := 2) hx hb dX9_may_19 (by decide +kernel) ?_
  refine lv_icmp_gt (tgt := 54) hx hb dX9_may_20 (by decide) (fun q => absurd (q) (by decide +kernel)) (fun _ => ?_)
  refine lv_aload_n hx hb dX9_may_23 rfl (lv_at hl 2 rfl) ?_
  refine va_get (D := G) (ci := 6) (v := .ref p6) (C := RX9) (T := TX9) (N := 11) (ref := RX9) hx hb hts h1w hown hX.1 hP 0 rfl rfl 4 (by decide) h3w (fun _ h9 => h9) rfl dX9_may_24 ?_
  refine lv_aload_n hx hb dX9_may_27 rfl (lv_at hl 2 rfl) ?_
  refine va_get (D := G) (ci := 6) (v := .ref p8) (C := RX9) (T := TX9) (N := 11) (ref := RX9) hx hb hts h1w hown hX.1 hP 0 rfl rfl 6 (by decide) h0w (fun _ h9 => h9) rfl dX9_may_28 ?_
  refine va_getN (D := G) (ci := 0) (v := .int 268435455) (C := RX1) (T := TX1) (N := 12) (ref := RX1) (host := RX9) hx hb hts h2w hown hX.1 hP 1 rfl rfl 0 (by decide) (nf_37 hX.2.2.1) (fun _ h9 => h9) rfl dX9_may_31 ?_
  refine lv_iload_n hx hb dX9_may_34 rfl (lv_at hl 3 rfl) ?_
  refine lv_iload_n hx hb dX9_may_35 rfl (lv_at hl 0 rfl) ?_
  refine cz_i (wr := [(p0, .inr (6, [v2, v3, v4, v5, .ref p6, v7, .ref p8, v9, v10, v11, v12])), (p8, .inr (0, [.int 268435455, .int 0, v13, v14, v15, v16, v17, v18, v19, v20, v21, v22]))]) (va_runVN (As := [.int 268435455, .int i1, .int 0]) (rest := []) ⟨hx, hb, hml, hown, hts⟩ (cX3_rideTrouble_1 l G k p6 i1 0 v23 v24 v25 v26 v27 v28 v29 v30 v31 v32 v33 v34 v35 s.heap.size hi1) ⟨va_cnB 3 hts gX9_may_X3_rideTrouble_n213 rfl rfl rfl (nm_19 hX.2.2.1) h4w (by decide +kernel) ⟨Nat.le_of_ble_eq_true rfl, Nat.le_of_ble_eq_true rfl⟩, h5w, h6w⟩ (cz_preV hZ hS hX hP hD [2] rfl rfl (ci := 2) (q0 := 2) rfl rfl) rfl rfl hl.1 rfl (lv_room (Nat.le_of_ble_eq_true rfl)) dX9_may_36 ⟨Nat.le_of_ble_eq_true rfl, Nat.le_of_ble_eq_true rfl⟩) hP hD hS hA [2] [0, 1] rfl rfl (by decide) (by decide) (fun r u H locs hp hP hD hS => ?_)
  have hp : r = 1 := hp
  subst hp
  refine lv_if_ne (tgt := 48) hx hb dX9_may_39 (by decide) (fun _ => ?_) (fun q => absurd (q) (by decide +kernel))
  refine lv_iinc (v := 1) (lv' := [(3, .int 1), (2, .int 0), (0, .ref p0), (1, .int i1)]) hx hb dX9_may_48 hl (k := 0) rfl (by decide +kernel) (by decide) rfl (fun ls hl => ?_)
  refine lv_goto (tgt := 18) hx hb dX9_may_51 (by decide) ?_
  refine lv_iload_n hx hb dX9_may_18 rfl (lv_at hl 0 rfl) ?_
  refine lv_iconst (v := 2) hx hb dX9_may_19 (by decide +kernel) ?_
  refine lv_icmp_gt (tgt := 54) hx hb dX9_may_20 (by decide) (fun q => absurd (q) (by decide +kernel)) (fun _ => ?_)
  refine lv_aload_n hx hb dX9_may_23 rfl (lv_at hl 2 rfl) ?_
  refine va_get (D := G) (ci := 6) (v := .ref p6) (C := RX9) (T := TX9) (N := 11) (ref := RX9) hx hb hts h1w hown hX.1 hP 0 rfl rfl 4 (by decide) h3w (fun _ h9 => h9) rfl dX9_may_24 ?_
  refine lv_aload_n hx hb dX9_may_27 rfl (lv_at hl 2 rfl) ?_
  refine va_get (D := G) (ci := 6) (v := .ref p8) (C := RX9) (T := TX9) (N := 11) (ref := RX9) hx hb hts h1w hown hX.1 hP 0 rfl rfl 6 (by decide) h0w (fun _ h9 => h9) rfl dX9_may_28 ?_
  refine va_getN (D := G) (ci := 0) (v := .int 268435455) (C := RX1) (T := TX1) (N := 12) (ref := RX1) (host := RX9) hx hb hts h2w hown hX.1 hP 1 rfl rfl 0 (by decide) (nf_37 hX.2.2.1) (fun _ h9 => h9) rfl dX9_may_31 ?_
  refine lv_iload_n hx hb dX9_may_34 rfl (lv_at hl 3 rfl) ?_
  refine lv_iload_n hx hb dX9_may_35 rfl (lv_at hl 0 rfl) ?_
  refine cz_i (wr := [(p0, .inr (6, [v2, v3, v4, v5, .ref p6, v7, .ref p8, v9, v10, v11, v12])), (p8, .inr (0, [.int 268435455, .int 0, v13, v14, v15, v16, v17, v18, v19, v20, v21, v22]))]) (va_runVN (As := [.int 268435455, .int i1, .int 1]) (rest := []) ⟨hx, hb, hml, hown, hts⟩ (cX3_rideTrouble_1 l G k p6 i1 1 v23 v24 v25 v26 v27 v28 v29 v30 v31 v32 v33 v34 v35 H.size hi1) ⟨va_cnB 3 hts gX9_may_X3_rideTrouble_n213 rfl rfl rfl (nm_19 hX.2.2.1) h4w (by decide +kernel) ⟨Nat.le_of_ble_eq_true rfl, Nat.le_of_ble_eq_true rfl⟩, h5w, h6w⟩ (cz_preV hZ hS hX hP hD [2] rfl rfl (ci := 2) (q0 := 2) rfl rfl) rfl rfl hl.1 rfl (lv_room (Nat.le_of_ble_eq_true rfl)) dX9_may_36 ⟨Nat.le_of_ble_eq_true rfl, Nat.le_of_ble_eq_true rfl⟩) hP hD hS hA [2] [0, 1] rfl rfl (by decide) (by decide) (fun r u H locs hp hP hD hS => ?_)
  have hp : r = 1 := hp
  subst hp
  refine lv_if_ne (tgt := 48) hx hb dX9_may_39 (by decide) (fun _ => ?_) (fun q => absurd (q) (by decide +kernel))
  refine lv_iinc (v := 2) (lv' := [(3, .int 2), (2, .int 0), (0, .ref p0), (1, .int i1)]) hx hb dX9_may_48 hl (k := 0) rfl (by decide +kernel) (by decide) rfl (fun ls hl => ?_)
  refine lv_goto (tgt := 18) hx hb dX9_may_51 (by decide) ?_
  refine lv_iload_n hx hb dX9_may_18 rfl (lv_at hl 0 rfl) ?_
  refine lv_iconst (v := 2) hx hb dX9_may_19 (by decide +kernel) ?_
  refine lv_icmp_gt (tgt := 54) hx hb dX9_may_20 (by decide) (fun q => absurd (q) (by decide +kernel)) (fun _ => ?_)
  refine lv_aload_n hx hb dX9_may_23 rfl (lv_at hl 2 rfl) ?_
  refine va_get (D := G) (ci := 6) (v := .ref p6) (C := RX9) (T := TX9) (N := 11) (ref := RX9) hx hb hts h1w hown hX.1 hP 0 rfl rfl 4 (by decide) h3w (fun _ h9 => h9) rfl dX9_may_24 ?_
  refine lv_aload_n hx hb dX9_may_27 rfl (lv_at hl 2 rfl) ?_
  refine va_get (D := G) (ci := 6) (v := .ref p8) (C := RX9) (T := TX9) (N := 11) (ref := RX9) hx hb hts h1w hown hX.1 hP 0 rfl rfl 6 (by decide) h0w (fun _ h9 => h9) rfl dX9_may_28 ?_
  refine va_getN (D := G) (ci := 0) (v := .int 268435455) (C := RX1) (T := TX1) (N := 12) (ref := RX1) (host := RX9) hx hb hts h2w hown hX.1 hP 1 rfl rfl 0 (by decide) (nf_37 hX.2.2.1) (fun _ h9 => h9) rfl dX9_may_31 ?_
  refine lv_iload_n hx hb dX9_may_34 rfl (lv_at hl 3 rfl) ?_
  refine lv_iload_n hx hb dX9_may_35 rfl (lv_at hl 0 rfl) ?_
  refine cz_i (wr := [(p0, .inr (6, [v2, v3, v4, v5, .ref p6, v7, .ref p8, v9, v10, v11, v12])), (p8, .inr (0, [.int 268435455, .int 0, v13, v14, v15, v16, v17, v18, v19, v20, v21, v22]))]) (va_runVN (As := [.int 268435455, .int i1, .int 2]) (rest := []) ⟨hx, hb, hml, hown, hts⟩ (cX3_rideTrouble_1 l G k p6 i1 2 v23 v24 v25 v26 v27 v28 v29 v30 v31 v32 v33 v34 v35 H.size hi1) ⟨va_cnB 3 hts gX9_may_X3_rideTrouble_n213 rfl rfl rfl (nm_19 hX.2.2.1) h4w (by decide +kernel) ⟨Nat.le_of_ble_eq_true rfl, Nat.le_of_ble_eq_true rfl⟩, h5w, h6w⟩ (cz_preV hZ hS hX hP hD [2] rfl rfl (ci := 2) (q0 := 2) rfl rfl) rfl rfl hl.1 rfl (lv_room (Nat.le_of_ble_eq_true rfl)) dX9_may_36 ⟨Nat.le_of_ble_eq_true rfl, Nat.le_of_ble_eq_true rfl⟩) hP hD hS hA [2] [0, 1] rfl rfl (by decide) (by decide) (fun r u H locs hp hP hD hS => ?_)
  have hp : r = 1 := hp
  subst hp
  refine lv_if_ne (tgt := 48) hx hb dX9_may_39 (by decide) (fun _ => ?_) (fun q => absurd (q) (by decide +kernel))
  refine lv_iinc (v := 3) (lv' := [(3, .int 3), (2, .int 0), (0, .ref p0), (1, .int i1)]) hx hb dX9_may_48 hl (k := 0) rfl (by decide +kernel) (by decide) rfl (fun ls hl => ?_)
  refine lv_goto (tgt := 18) hx hb dX9_may_51 (by decide) ?_
  refine lv_iload_n hx hb dX9_may_18 rfl (lv_at hl 0 rfl) ?_
  refine lv_iconst (v := 2) hx hb dX9_may_19 (by decide +kernel) ?_
  refine lv_icmp_gt (tgt := 54) hx hb dX9_may_20 (by decide) (fun _ => ?_) (fun q => absurd (by decide +kernel) (q))
  refine lv_iload_n hx hb dX9_may_54 rfl (lv_at hl 1 rfl) ?_
  have hP9 := hP.sub (ws' := [(p0, .inr (6, [v2, v3, v4, v5, .ref p6, v7, .ref p8, v9, v10, v11, v12])), (p8, .inr (0, [.int 268435455, .int 0, v13, v14, v15, v16, v17, v18, v19, v20, v21, v22])), (p6, .inr (2, [.int 1, v23, v24, v25, v26, v27, v28, v29, v30, v31, v32, v33, v34, v35]))]) [0, 1, 2] rfl
  have hD9 := hD.sub (ws' := [(p0, .inr (6, [v2, v3, v4, v5, .ref p6, v7, .ref p8, v9, v10, v11, v12])), (p8, .inr (0, [.int 268435455, .int 0, v13, v14, v15, v16, v17, v18, v19, v20, v21, v22])), (p6, .inr (2, [.int 1, v23, v24, v25, v26, v27, v28, v29, v30, v31, v32, v33, v34, v35]))]) [0, 1, 2] (by decide) rfl
  exact W.iret (v := 0) hx hb hr (fun t ht hW => ⟨⟨0, (), rfl, rfl, by rw [ht]; exact hP9, hD9⟩, hS.F ht⟩) hS.2.2 dX9_may_55

set_option maxHeartbeats 4000000 in
set_option maxRecDepth 100000 in
theorem cX9_undo_0 (l : Launch) (G : va_G) (k : Nat → ClassId) (p0 : Nat) (v1 : Value) (v2 : Value) (v3 : Value) (v4 : Value) (v5 : Value) (v6 : Value) (p7 : Nat) (v8 : Value) (v9 : Value) (v10 : Value) (v11 : Value) (v12 : Value) (v13 : Value) (v14 : Value) (v15 : Value) (v16 : Value) (v17 : Value) (v18 : Value) (v19 : Value) (v20 : Value) (v21 : Value) (v22 : Value) (sz : Nat) : CMi l G k yX9_undo wsX9_undo ({ frames := 0, cells := 0, slots := 0, locals := 0 }) [.ref p0] sz [(p0, .inr (6, [v1, v2, v3, v4, v5, v6, .ref p7, v8, v9, v10, v11])), (p7, .inr (0, [v12, .int 0, v13, v14, v15, v16, v17, v18, v19, v20, v21, v22]))] (fun r (u : Unit) => r = (-1)) (fun (u : Unit) => [(p0, .inr (6, [v1, v2, v3, v4, v5, v6, .ref p7, v8, v9, v10, v11])), (p7, .inr (0, [v12, .int 0, v13, v14, v15, v16, v17, v18, v19, v20, v21, v22]))]) := by
  refine Met.ofW (cc := cX9_undo) (maxL := 1) (ret := (some .int)) (by decide) rfl ?_
  intro p e s m args below meth c s₁ B hml hv
  obtain ⟨rfl, hsz, hP, hX, hD0, hZ0⟩ := hv
  have hx := B.exec
  have hb := B.bytes
  have hr := B.returns
  have hts := atoms_spec (ws := wsX9_undo) B.pre
  have hown : s.vm.findClass RX9 = some m.cls := findClass_of_methodNamed B.named
  subst hsz
  have hD := hD0.self (sz := s.heap.size)
  have hZ := ZX.up hP hZ0
  generalize hAe : va_A [(p0, .inr (6, [v1, v2, v3, v4, v5, v6, .ref p7, v8, v9, v10, v11])), (p7, .inr (0, [v12, .int 0, v13, v14, v15, v16, v17, v18, v19, v20, v21, v22]))] s.heap.size = A at hD hZ ⊢
  have hA : ∀ q : Nat, s.heap.size ≤ q → A q := fun q h => by rw [← hAe]; exact Or.inr h
  have hS : va_S A s.heap s.heap [] := va_S.rf
  have hP : va_P G vwCl [(p0, .inr (6, [v1, v2, v3, v4, v5, v6, .ref p7, v8, v9, v10, v11])), (p7, .inr (0, [v12, .int 0, v13, v14, v15, v16, v17, v18, v19, v20, v21, v22]))] s.heap := hP
  have hl := lv_entry ([.ref p0]) (n := 1) (Nat.le_of_ble_eq_true rfl)
  rw [lg_entry_eq]
  generalize (lg_sl ([.ref p0]) ++ List.replicate (1 - (lg_sl ([.ref p0])).length) Slot.unset).toArray = ls at hl ⊢
  have hl : lv_has ls 1 [(0, .ref p0)] := hl
  have h0w := hts (.fieldLink RX9 42 "RopeTown" "book" "LRopeTown$Book;") (by decide +kernel)
  have h1w : ∀ w ∈ wsX90, w ∈ wsX9_undo := by decide +kernel
  have h2w : ∀ w ∈ wsX10, w ∈ wsX9_undo := by decide +kernel
  refine lv_aload_n hx hb dX9_undo_0 rfl (lv_at hl 0 rfl) ?_
  refine va_get (D := G) (ci := 6) (v := .ref p7) (C := RX9) (T := TX9) (N := 11) (ref := RX9) hx hb hts h1w hown hX.1 hP 0 rfl rfl 6 (by decide) h0w (fun _ h9 => h9) rfl dX9_undo_1 ?_
  refine va_getN (D := G) (ci := 0) (v := .int 0) (C := RX1) (T := TX1) (N := 12) (ref := RX1) (host := RX9) hx hb hts h2w hown hX.1 hP 1 rfl rfl 1 (by decide) (nf_38 hX.2.2.1) (fun _ h9 => h9) rfl dX9_undo_4 ?_
  refine lv_if_gt (tgt := 12) hx hb dX9_undo_7 (by decide) (fun q => absurd (q) (by decide +kernel)) (fun _ => ?_)
  refine lv_iconst (v := (-1)) hx hb dX9_undo_10 (by decide +kernel) ?_
  have hP9 := hP.sub (ws' := [(p0, .inr (6, [v1, v2, v3, v4, v5, v6, .ref p7, v8, v9, v10, v11])), (p7, .inr (0, [v12, .int 0, v13, v14, v15, v16, v17, v18, v19, v20, v21, v22]))]) [0, 1] rfl
  have hD9 := hD.sub (ws' := [(p0, .inr (6, [v1, v2, v3, v4, v5, v6, .ref p7, v8, v9, v10, v11])), (p7, .inr (0, [v12, .int 0, v13, v14, v15, v16, v17, v18, v19, v20, v21, v22]))]) [0, 1] (by decide) rfl
  exact W.iret (v := (-1)) hx hb hr (fun t ht hW => ⟨⟨(-1), (), rfl, rfl, by rw [ht]; exact hP9, hD9⟩, hS.F ht⟩) hS.2.2 dX9_undo_11

set_option maxHeartbeats 4000000 in
set_option maxRecDepth 100000 in
theorem cX9_back_0 (l : Launch) (G : va_G) (k : Nat → ClassId) (p0 : Nat) (v1 : Value) (v2 : Value) (v3 : Value) (v4 : Value) (v5 : Value) (v6 : Value) (p7 : Nat) (v8 : Value) (v9 : Value) (v10 : Value) (v11 : Value) (v12 : Value) (v13 : Value) (v14 : Value) (v15 : Value) (v16 : Value) (v17 : Value) (v18 : Value) (v19 : Value) (v20 : Value) (v21 : Value) (v22 : Value) (sz : Nat) : CMi l G k yX9_back wsX9_back ({ frames := 0, cells := 0, slots := 0, locals := 0 }) [.ref p0] sz [(p0, .inr (6, [v1, v2, v3, v4, v5, v6, .ref p7, v8, v9, v10, v11])), (p7, .inr (0, [v12, .int 0, v13, v14, v15, v16, v17, v18, v19, v20, v21, v22]))] (fun r (u : Unit) => r = 0) (fun (u : Unit) => [(p0, .inr (6, [v1, v2, v3, v4, v5, v6, .ref p7, v8, v9, v10, v11])), (p7, .inr (0, [v12, .int 0, v13, v14, v15, v16, v17, v18, v19, v20, v21, v22]))]) := by
  refine Met.ofW (cc := cX9_back) (maxL := 4) (ret := (some .int)) (by decide) rfl ?_
  intro p e s m args below meth c s₁ B hml hv
  obtain ⟨rfl, hsz, hP, hX, hD0, hZ0⟩ := hv
  have hx := B.exec
  have hb := B.bytes
  have hr := B.returns
  have hts := atoms_spec (ws := wsX9_back) B.pre
  have hown : s.vm.findClass RX9 = some m.cls := findClass_of_methodNamed B.named
  subst hsz
  have hD := hD0.self (sz := s.heap.size)
  have hZ := ZX.up hP hZ0
  generalize hAe : va_A [(p0, .inr (6, [v1, v2, v3, v4, v5, v6, .ref p7, v8, v9, v10, v11])), (p7, .inr (0, [v12, .int 0, v13, v14, v15, v16, v17, v18, v19, v20, v21, v22]))] s.heap.size = A at hD hZ ⊢
  have hA : ∀ q : Nat, s.heap.size ≤ q → A q := fun q h => by rw [← hAe]; exact Or.inr h
  have hS : va_S A s.heap s.heap [] := va_S.rf
  have hP : va_P G vwCl [(p0, .inr (6, [v1, v2, v3, v4, v5, v6, .ref p7, v8, v9, v10, v11])), (p7, .inr (0, [v12, .int 0, v13, v14, v15, v16, v17, v18, v19, v20, v21, v22]))] s.heap := hP
  have hl := lv_entry ([.ref p0]) (n := 4) (Nat.le_of_ble_eq_true rfl)
  rw [lg_entry_eq]
  generalize (lg_sl ([.ref p0]) ++ List.replicate (4 - (lg_sl ([.ref p0])).length) Slot.unset).toArray = ls at hl ⊢
  have hl : lv_has ls 4 [(0, .ref p0)] := hl
  have h0w := hts (.fieldLink RX9 42 "RopeTown" "book" "LRopeTown$Book;") (by decide +kernel)
  have h1w : ∀ w ∈ wsX90, w ∈ wsX9_back := by decide +kernel
  have h2w : ∀ w ∈ wsX10, w ∈ wsX9_back := by decide +kernel
  refine lv_iconst (v := 0) hx hb dX9_back_0 (by decide +kernel) ?_
  refine lv_istore_n (lv' := [(1, .int 0), (0, .ref p0)]) hx hb dX9_back_1 rfl hl (by decide) rfl (fun ls hl => ?_)
  refine lv_aload_n hx hb dX9_back_2 rfl (lv_at hl 1 rfl) ?_
  refine va_get (D := G) (ci := 6) (v := .ref p7) (C := RX9) (T := TX9) (N := 11) (ref := RX9) hx hb hts h1w hown hX.1 hP 0 rfl rfl 6 (by decide) h0w (fun _ h9 => h9) rfl dX9_back_3 ?_
  refine va_getN (D := G) (ci := 0) (v := .int 0) (C := RX1) (T := TX1) (N := 12) (ref := RX1) (host := RX9) hx hb hts h2w hown hX.1 hP 1 rfl rfl 1 (by decide) (nf_38 hX.2.2.1) (fun _ h9 => h9) rfl dX9_back_6 ?_
  refine lv_iconst (v := 1) hx hb dX9_back_9 (by decide +kernel) ?_
  refine lv_isub hx hb dX9_back_10 ?_
  refine cz_ti (w := (-1)) (by decide +kernel) ?_
  refine lv_istore_n (lv' := [(2, .int (-1)), (1, .int 0), (0, .ref p0)]) hx hb dX9_back_11 rfl hl (by decide) rfl (fun ls hl => ?_)
  refine lv_iload_n hx hb dX9_back_12 rfl (lv_at hl 0 rfl) ?_
  refine lv_if_lt (tgt := 87) hx hb dX9_back_13 (by decide) (fun _ => ?_) (fun q => absurd (by decide +kernel) (q))
  refine lv_iload_n hx hb dX9_back_87 rfl (lv_at hl 1 rfl) ?_
  have hP9 := hP.sub (ws' := [(p0, .inr (6, [v1, v2, v3, v4, v5, v6, .ref p7, v8, v9, v10, v11])), (p7, .inr (0, [v12, .int 0, v13, v14, v15, v16, v17, v18, v19, v20, v21, v22]))]) [0, 1] rfl
  have hD9 := hD.sub (ws' := [(p0, .inr (6, [v1, v2, v3, v4, v5, v6, .ref p7, v8, v9, v10, v11])), (p7, .inr (0, [v12, .int 0, v13, v14, v15, v16, v17, v18, v19, v20, v21, v22]))]) [0, 1] (by decide) rfl
  exact W.iret (v := 0) hx hb hr (fun t ht hW => ⟨⟨0, (), rfl, rfl, by rw [ht]; exact hP9, hD9⟩, hS.F ht⟩) hS.2.2 dX9_back_88

set_option maxHeartbeats 4000000 in
set_option maxRecDepth 100000 in
theorem cX6_raise_0 (l : Launch) (G : va_G) (k : Nat → ClassId) (p0 : Nat) (v1 : Value) (v2 : Value) (v3 : Value) (v4 : Value) (v5 : Value) (v6 : Value) (v7 : Value) (v8 : Value) (v9 : Value) (p10 : Nat) (p11 : Nat) (v12 : Value) (v13 : Value) (v14 : Value) (v15 : Value) (f16 : Nat → Int32) (sz : Nat) : CMv l G k yX6_raise wsX6_raise ({ frames := 0, cells := 0, slots := 0, locals := 0 }) [.ref p0, .int 0] sz [(p0, .inr (5, [v1, v2, v3, v4, v5, v6, v7, v8, v9, .ref p10, .ref p11, v12, v13, v14, v15])), (p11, .inl (k 0, 1500, .inl (upd (fun _ => 0) (0 : Int32).toNatClampNeg 0))), (p10, .inl (k 0, 1500, .inl f16))] (fun (u : Unit) => True) (fun (u : Unit) => [(p0, .inr (5, [v1, v2, v3, v4, v5, v6, v7, v8, v9, .ref p10, .ref p11, v12, v13, v14, v15])), (p11, .inl (k 0, 1500, .inl (upd (upd (fun _ => 0) (0 : Int32).toNatClampNeg 0) (0 : Int32).toNatClampNeg 0))), (p10, .inl (k 0, 1500, .inl (upd f16 (0 : Int32).toNatClampNeg 0)))]) := by
  refine Met.ofW (cc := cX6_raise) (maxL := 5) (ret := none) (by decide) rfl ?_
  intro p e s m args below meth c s₁ B hml hv
  obtain ⟨rfl, hsz, hP, hX, hD0, hZ0⟩ := hv
  have hx := B.exec
  have hb := B.bytes
  have hr := B.returns
  have hts := atoms_spec (ws := wsX6_raise) B.pre
  have hown : s.vm.findClass RX6 = some m.cls := findClass_of_methodNamed B.named
  subst hsz
  have hD := hD0.self (sz := s.heap.size)
  have hZ := ZX.up hP hZ0
  generalize hAe : va_A [(p0, .inr (5, [v1, v2, v3, v4, v5, v6, v7, v8, v9, .ref p10, .ref p11, v12, v13, v14, v15])), (p11, .inl (k 0, 1500, .inl (upd (fun _ => 0) (0 : Int32).toNatClampNeg 0))), (p10, .inl (k 0, 1500, .inl f16))] s.heap.size = A at hD hZ ⊢
  have hA : ∀ q : Nat, s.heap.size ≤ q → A q := fun q h => by rw [← hAe]; exact Or.inr h
  have hS : va_S A s.heap s.heap [] := va_S.rf
  have hP : va_P G vwCl [(p0, .inr (5, [v1, v2, v3, v4, v5, v6, v7, v8, v9, .ref p10, .ref p11, v12, v13, v14, v15])), (p11, .inl (k 0, 1500, .inl (upd (fun _ => 0) (0 : Int32).toNatClampNeg 0))), (p10, .inl (k 0, 1500, .inl f16))] s.heap := hP
  have hl := lv_entry ([.ref p0, .int 0]) (n := 5) (Nat.le_of_ble_eq_true rfl)
  rw [lg_entry_eq]
  generalize (lg_sl ([.ref p0, .int 0]) ++ List.replicate (5 - (lg_sl ([.ref p0, .int 0])).length) Slot.unset).toArray = ls at hl ⊢
  have hl : lv_has ls 5 [(0, .ref p0), (1, .int 0)] := hl
  have h0w := hts (.fieldLink RX6 51 "RopeTown$Search" "spots" "[I") (by decide +kernel)
  have h1w : ∀ w ∈ wsX60, w ∈ wsX6_raise := by decide +kernel
  have h2w := hts (.fieldLink RX6 48 "RopeTown$Search" "heap" "[I") (by decide +kernel)
  refine lv_aload_n hx hb dX6_raise_0 rfl (lv_at hl 0 rfl) ?_
  refine va_get (D := G) (ci := 5) (v := .ref p11) (C := RX6) (T := TX6) (N := 15) (ref := RX6) hx hb hts h1w hown hX.1 hP 0 rfl rfl 10 (by decide) h0w (fun _ h9 => h9) rfl dX6_raise_1 ?_
  refine lv_iload_n hx hb dX6_raise_4 rfl (lv_at hl 1 rfl) ?_
  refine va_iald hx hb hX.1 hP 1 0 rfl rfl (by unfold vp_in; decide +kernel) dX6_raise_5 ?_
  refine cz_ti (w := 0) (by rfl) ?_
  refine lv_istore_n (lv' := [(2, .int 0), (0, .ref p0), (1, .int 0)]) hx hb dX6_raise_6 rfl hl (by decide) rfl (fun ls hl => ?_)
  refine lv_iconst (v := 0) hx hb dX6_raise_7 (by decide +kernel) ?_
  refine lv_istore_n (lv' := [(3, .int 0), (2, .int 0), (0, .ref p0), (1, .int 0)]) hx hb dX6_raise_8 rfl hl (by decide) rfl (fun ls hl => ?_)
  refine lv_iload_n hx hb dX6_raise_9 rfl (lv_at hl 0 rfl) ?_
  refine lv_sipush (v := 1500) hx hb dX6_raise_10 (by decide +kernel) ?_
  refine lv_icmp_ge (tgt := 79) hx hb dX6_raise_13 (by decide) (fun q => absurd (q) (by decide +kernel)) (fun _ => ?_)
  refine lv_iload_n hx hb dX6_raise_16 rfl (lv_at hl 1 rfl) ?_
  refine lv_if_le (tgt := 79) hx hb dX6_raise_17 (by decide) (fun _ => ?_) (fun q => absurd (by decide +kernel) (q))
  refine lv_aload_n hx hb dX6_raise_79 rfl (lv_at hl 2 rfl) ?_
  refine va_get (D := G) (ci := 5) (v := .ref p10) (C := RX6) (T := TX6) (N := 15) (ref := RX6) hx hb hts h1w hown hX.1 hP 0 rfl rfl 9 (by decide) h2w (fun _ h9 => h9) rfl dX6_raise_80 ?_
  refine lv_iload_n hx hb dX6_raise_83 rfl (lv_at hl 1 rfl) ?_
  refine lv_iload_n hx hb dX6_raise_84 rfl (lv_at hl 3 rfl) ?_
  refine va_iast hx hb hX.1 hP hD hS 2 0 rfl rfl (by unfold vp_in; decide +kernel) dX6_raise_85 (fun H locs hP hD hS => ?_)
  refine lv_aload_n hx hb dX6_raise_86 rfl (lv_at hl 2 rfl) ?_
  refine va_get (D := G) (ci := 5) (v := .ref p11) (C := RX6) (T := TX6) (N := 15) (ref := RX6) hx hb hts h1w hown hX.1 hP 0 rfl rfl 10 (by decide) h0w (fun _ h9 => h9) rfl dX6_raise_87 ?_
  refine lv_iload_n hx hb dX6_raise_90 rfl (lv_at hl 3 rfl) ?_
  refine lv_iload_n hx hb dX6_raise_91 rfl (lv_at hl 1 rfl) ?_
  refine va_iast hx hb hX.1 hP hD hS 1 0 rfl rfl (by unfold vp_in; decide +kernel) dX6_raise_92 (fun H locs hP hD hS => ?_)
  have hP9 := hP.sub (ws' := [(p0, .inr (5, [v1, v2, v3, v4, v5, v6, v7, v8, v9, .ref p10, .ref p11, v12, v13, v14, v15])), (p11, .inl (k 0, 1500, .inl (upd (upd (fun _ => 0) (0 : Int32).toNatClampNeg 0) (0 : Int32).toNatClampNeg 0))), (p10, .inl (k 0, 1500, .inl (upd f16 (0 : Int32).toNatClampNeg 0)))]) [0, 1, 2] rfl
  have hD9 := hD.sub (ws' := [(p0, .inr (5, [v1, v2, v3, v4, v5, v6, v7, v8, v9, .ref p10, .ref p11, v12, v13, v14, v15])), (p11, .inl (k 0, 1500, .inl (upd (upd (fun _ => 0) (0 : Int32).toNatClampNeg 0) (0 : Int32).toNatClampNeg 0))), (p10, .inl (k 0, 1500, .inl (upd f16 (0 : Int32).toNatClampNeg 0)))]) [0, 1, 2] (by decide) rfl
  exact W.vret hx hb hr (fun t ht hW => ⟨⟨(), rfl, trivial, by rw [ht]; exact hP9, hD9⟩, hS.F ht⟩) hS.2.2 dX6_raise_93

set_option maxHeartbeats 4000000 in
set_option maxRecDepth 100000 in
theorem cX6_arrive_0 (l : Launch) (G : va_G) (k : Nat → ClassId) (p0 : Nat) (v1 : Value) (v2 : Value) (v3 : Value) (p4 : Nat) (p5 : Nat) (p6 : Nat) (p7 : Nat) (p8 : Nat) (p9 : Nat) (p10 : Nat) (v11 : Value) (v12 : Value) (f13 : Nat → Int32) (f14 : Nat → Int32) (f15 : Nat → Int32) (f16 : Nat → Int32) (f17 : Nat → Int32) (sz : Nat) : CMv l G k yX6_arrive wsX6_arrive ({ frames := 1, cells := 0, slots := 0, locals := 24 }) [.ref p0, .int 268435455, .int 0] sz [(p0, .inr (5, [v1, v2, v3, .ref p4, .ref p5, .ref p6, .int 0, .ref p7, .ref p8, .ref p9, .ref p10, .int 0, .int (-1), v11, v12])), (p7, .inl (k 0, 1024, .inl (fun _ => (-1)))), (p4, .inl (k 0, 1500, .inl f13)), (p8, .inl (k 0, 1500, .inl f14)), (p10, .inl (k 0, 1500, .inl (fun _ => 0))), (p5, .inl (k 0, 1500, .inl f15)), (p6, .inl (k 0, 1500, .inl f16)), (p9, .inl (k 0, 1500, .inl f17))] (fun (u : Unit) => True) (fun (u : Unit) => [(p7, .inl (k 0, 1024, .inl (upd (fun _ => (-1)) (455 : Int32).toNatClampNeg 0))), (p4, .inl (k 0, 1500, .inl (upd f13 (0 : Int32).toNatClampNeg 268435455))), (p8, .inl (k 0, 1500, .inl (upd f14 (0 : Int32).toNatClampNeg (-1)))), (p5, .inl (k 0, 1500, .inl (upd f15 (0 : Int32).toNatClampNeg 0))), (p6, .inl (k 0, 1500, .inl (upd f16 (0 : Int32).toNatClampNeg (-1)))), (p0, .inr (5, [v1, v2, v3, .ref p4, .ref p5, .ref p6, .int 1, .ref p7, .ref p8, .ref p9, .ref p10, .int 1, .int (-1), v11, v12])), (p10, .inl (k 0, 1500, .inl (upd (upd (fun _ => 0) (0 : Int32).toNatClampNeg 0) (0 : Int32).toNatClampNeg 0))), (p9, .inl (k 0, 1500, .inl (upd f17 (0 : Int32).toNatClampNeg 0)))]) := by
  refine Met.ofW (cc := cX6_arrive) (maxL := 7) (ret := none) (by decide) rfl ?_
  intro p e s m args below meth c s₁ B hml hv
  obtain ⟨rfl, hsz, hP, hX, hD0, hZ0⟩ := hv
  have hx := B.exec
  have hb := B.bytes
  have hr := B.returns
  have hts := atoms_spec (ws := wsX6_arrive) B.pre
  have hown : s.vm.findClass RX6 = some m.cls := findClass_of_methodNamed B.named
  subst hsz
  have hD := hD0.self (sz := s.heap.size)
  have hZ := ZX.up hP hZ0
  generalize hAe : va_A [(p0, .inr (5, [v1, v2, v3, .ref p4, .ref p5, .ref p6, .int 0, .ref p7, .ref p8, .ref p9, .ref p10, .int 0, .int (-1), v11, v12])), (p7, .inl (k 0, 1024, .inl (fun _ => (-1)))), (p4, .inl (k 0, 1500, .inl f13)), (p8, .inl (k 0, 1500, .inl f14)), (p10, .inl (k 0, 1500, .inl (fun _ => 0))), (p5, .inl (k 0, 1500, .inl f15)), (p6, .inl (k 0, 1500, .inl f16)), (p9, .inl (k 0, 1500, .inl f17))] s.heap.size = A at hD hZ ⊢
  have hA : ∀ q : Nat, s.heap.size ≤ q → A q := fun q h => by rw [← hAe]; exact Or.inr h
  have hS : va_S A s.heap s.heap [] := va_S.rf
  have hP : va_P G vwCl [(p0, .inr (5, [v1, v2, v3, .ref p4, .ref p5, .ref p6, .int 0, .ref p7, .ref p8, .ref p9, .ref p10, .int 0, .int (-1), v11, v12])), (p7, .inl (k 0, 1024, .inl (fun _ => (-1)))), (p4, .inl (k 0, 1500, .inl f13)), (p8, .inl (k 0, 1500, .inl f14)), (p10, .inl (k 0, 1500, .inl (fun _ => 0))), (p5, .inl (k 0, 1500, .inl f15)), (p6, .inl (k 0, 1500, .inl f16)), (p9, .inl (k 0, 1500, .inl f17))] s.heap := hP
  have hl := lv_entry ([.ref p0, .int 268435455, .int 0]) (n := 7) (Nat.le_of_ble_eq_true rfl)
  rw [lg_entry_eq]
  generalize (lg_sl ([.ref p0, .int 268435455, .int 0]) ++ List.replicate (7 - (lg_sl ([.ref p0, .int 268435455, .int 0])).length) Slot.unset).toArray = ls at hl ⊢
  have hl : lv_has ls 7 [(0, .ref p0), (1, .int 268435455), (2, .int 0)] := hl
  have h0w := hts (.fieldLink RX6 29 "RopeTown$Search" "current" "I") (by decide +kernel)
  have h1w : ∀ w ∈ wsX60, w ∈ wsX6_arrive := by decide +kernel
  have h2w := hts (.constant RX6 147 (-1640531535)) (by decide +kernel)
  have h3w := hts (.fieldLink RX6 42 "RopeTown$Search" "heads" "[I") (by decide +kernel)
  have h4w := hts (.fieldLink RX6 22 "RopeTown$Search" "size" "I") (by decide +kernel)
  have h5w := hts (.fieldLink RX6 32 "RopeTown$Search" "states" "[I") (by decide +kernel)
  have h6w := hts (.fieldLink RX6 45 "RopeTown$Search" "links" "[I") (by decide +kernel)
  have h7w := hts (.fieldLink RX6 51 "RopeTown$Search" "spots" "[I") (by decide +kernel)
  have h8w := hts (.fieldLink RX6 26 "RopeTown$Search" "waiting" "I") (by decide +kernel)
  have h9w := hts (.fieldLink RX6 36 "RopeTown$Search" "costs" "[I") (by decide +kernel)
  have h10w := hts (.fieldLink RX6 39 "RopeTown$Search" "parents" "[I") (by decide +kernel)
  refine lv_aload_n hx hb dX6_arrive_0 rfl (lv_at hl 0 rfl) ?_
  refine va_get (D := G) (ci := 5) (v := .int (-1)) (C := RX6) (T := TX6) (N := 15) (ref := RX6) hx hb hts h1w hown hX.1 hP 0 rfl rfl 12 (by decide) h0w (fun _ h9 => h9) rfl dX6_arrive_1 ?_
  refine lv_iconst (v := (-1)) hx hb dX6_arrive_4 (by decide +kernel) ?_
  refine lv_icmp_ne (tgt := 12) hx hb dX6_arrive_5 (by decide) (fun q => absurd (by decide +kernel) (q)) (fun _ => ?_)
  refine lv_iconst (v := 0) hx hb dX6_arrive_8 (by decide +kernel) ?_
  refine lv_goto (tgt := 23) hx hb dX6_arrive_9 (by decide) ?_
  refine lv_istore_n (lv' := [(3, .int 0), (0, .ref p0), (1, .int 268435455), (2, .int 0)]) hx hb dX6_arrive_23 rfl hl (by decide) rfl (fun ls hl => ?_)
  refine lv_iload_n hx hb dX6_arrive_24 rfl (lv_at hl 2 rfl) ?_
  refine lv_ldc (v := (-1640531535)) hx hb hown h2w dX6_arrive_25 ?_
  refine lv_imul hx hb dX6_arrive_27 ?_
  refine cz_ti (w := 1908966991) (by decide +kernel) ?_
  refine lv_bipush (v := 22) hx hb dX6_arrive_28 (by decide +kernel) ?_
  refine lv_iushr (v := 455) hx hb dX6_arrive_30 (by decide +kernel) ?_
  refine lv_istore (lv' := [(4, .int 455), (3, .int 0), (0, .ref p0), (1, .int 268435455), (2, .int 0)]) hx hb dX6_arrive_31 hl (by decide) rfl (fun ls hl => ?_)
  refine lv_aload_n hx hb dX6_arrive_33 rfl (lv_at hl 2 rfl) ?_
  refine va_get (D := G) (ci := 5) (v := .ref p7) (C := RX6) (T := TX6) (N := 15) (ref := RX6) hx hb hts h1w hown hX.1 hP 0 rfl rfl 7 (by decide) h3w (fun _ h9 => h9) rfl dX6_arrive_34 ?_
  refine lv_iload hx hb dX6_arrive_37 (lv_at hl 0 rfl) ?_
  refine va_iald hx hb hX.1 hP 1 0 rfl rfl (by unfold vp_in; decide +kernel) dX6_arrive_39 ?_
  refine cz_ti (w := (-1)) (by rfl) ?_
  refine lv_istore (lv' := [(5, .int (-1)), (4, .int 455), (3, .int 0), (0, .ref p0), (1, .int 268435455), (2, .int 0)]) hx hb dX6_arrive_40 hl (by decide) rfl (fun ls hl => ?_)
  refine lv_iconst (v := 0) hx hb dX6_arrive_42 (by decide +kernel) ?_
  refine lv_istore (lv' := [(6, .int 0), (5, .int (-1)), (4, .int 455), (3, .int 0), (0, .ref p0), (1, .int 268435455), (2, .int 0)]) hx hb dX6_arrive_43 hl (by decide) rfl (fun ls hl => ?_)
  refine lv_iload hx hb dX6_arrive_45 (lv_at hl 0 rfl) ?_
  refine lv_sipush (v := 1500) hx hb dX6_arrive_47 (by decide +kernel) ?_
  refine lv_icmp_ge (tgt := 85) hx hb dX6_arrive_50 (by decide) (fun q => absurd (q) (by decide +kernel)) (fun _ => ?_)
  refine lv_iload hx hb dX6_arrive_53 (lv_at hl 1 rfl) ?_
  refine lv_iconst (v := (-1)) hx hb dX6_arrive_55 (by decide +kernel) ?_
  refine lv_icmp_eq (tgt := 85) hx hb dX6_arrive_56 (by decide) (fun _ => ?_) (fun q => absurd (by decide +kernel) (q))
  refine lv_iload hx hb dX6_arrive_85 (lv_at hl 1 rfl) ?_
  refine lv_iconst (v := (-1)) hx hb dX6_arrive_87 (by decide +kernel) ?_
  refine lv_icmp_ne (tgt := 178) hx hb dX6_arrive_88 (by decide) (fun q => absurd (by decide +kernel) (q)) (fun _ => ?_)
  refine lv_aload_n hx hb dX6_arrive_91 rfl (lv_at hl 4 rfl) ?_
  refine va_get (D := G) (ci := 5) (v := .int 0) (C := RX6) (T := TX6) (N := 15) (ref := RX6) hx hb hts h1w hown hX.1 hP 0 rfl rfl 6 (by decide) h4w (fun _ h9 => h9) rfl dX6_arrive_92 ?_
  refine lv_sipush (v := 1500) hx hb dX6_arrive_95 (by decide +kernel) ?_
  refine lv_icmp_lt (tgt := 107) hx hb dX6_arrive_98 (by decide) (fun _ => ?_) (fun q => absurd (by decide +kernel) (q))
  refine lv_aload_n hx hb dX6_arrive_107 rfl (lv_at hl 4 rfl) ?_
  refine va_get (D := G) (ci := 5) (v := .int 0) (C := RX6) (T := TX6) (N := 15) (ref := RX6) hx hb hts h1w hown hX.1 hP 0 rfl rfl 6 (by decide) h4w (fun _ h9 => h9) rfl dX6_arrive_108 ?_
  refine lv_istore (lv' := [(5, .int 0), (6, .int 0), (4, .int 455), (3, .int 0), (0, .ref p0), (1, .int 268435455), (2, .int 0)]) hx hb dX6_arrive_111 hl (by decide) rfl (fun ls hl => ?_)
  refine lv_aload_n hx hb dX6_arrive_113 rfl (lv_at hl 4 rfl) ?_
  refine lv_dup hx hb dX6_arrive_114 rfl ?_
  refine va_get (D := G) (ci := 5) (v := .int 0) (C := RX6) (T := TX6) (N := 15) (ref := RX6) hx hb hts h1w hown hX.1 hP 0 rfl rfl 6 (by decide) h4w (fun _ h9 => h9) rfl dX6_arrive_115 ?_
  refine lv_iconst (v := 1) hx hb dX6_arrive_118 (by decide +kernel) ?_
  refine lv_iadd hx hb dX6_arrive_119 ?_
  refine cz_ti (w := 1) (by decide +kernel) ?_
  refine va_put (D := G) (ci := 5) (v := .int 1) (ty := .int) (C := RX6) (T := TX6) (N := 15) (ref := RX6) hx hb hts h1w tyX6 tyX6_ok nmX6 hown hX.1 hP hD hS 0 rfl rfl 6 (by decide) h4w (fun _ h9 => h9) rfl (by decide +kernel) rfl rfl (Nat.le_of_ble_eq_true rfl) dX6_arrive_120 (fun H locs hP hD hS => ?_)
  refine lv_aload_n hx hb dX6_arrive_123 rfl (lv_at hl 4 rfl) ?_
  refine va_get (D := G) (ci := 5) (v := .ref p4) (C := RX6) (T := TX6) (N := 15) (ref := RX6) hx hb hts h1w hown hX.1 hP 0 rfl rfl 3 (by decide) h5w (fun _ h9 => h9) rfl dX6_arrive_124 ?_
  refine lv_iload hx hb dX6_arrive_127 (lv_at hl 0 rfl) ?_
  refine lv_iload_n hx hb dX6_arrive_129 rfl (lv_at hl 5 rfl) ?_
  refine va_iast hx hb hX.1 hP hD hS 2 0 rfl rfl (by unfold vp_in; decide +kernel) dX6_arrive_130 (fun H locs hP hD hS => ?_)
  refine lv_aload_n hx hb dX6_arrive_131 rfl (lv_at hl 4 rfl) ?_
  refine va_get (D := G) (ci := 5) (v := .ref p8) (C := RX6) (T := TX6) (N := 15) (ref := RX6) hx hb hts h1w hown hX.1 hP 0 rfl rfl 8 (by decide) h6w (fun _ h9 => h9) rfl dX6_arrive_132 ?_
  refine lv_iload hx hb dX6_arrive_135 (lv_at hl 0 rfl) ?_
  refine lv_aload_n hx hb dX6_arrive_137 rfl (lv_at hl 4 rfl) ?_
  refine va_get (D := G) (ci := 5) (v := .ref p7) (C := RX6) (T := TX6) (N := 15) (ref := RX6) hx hb hts h1w hown hX.1 hP 0 rfl rfl 7 (by decide) h3w (fun _ h9 => h9) rfl dX6_arrive_138 ?_
  refine lv_iload hx hb dX6_arrive_141 (lv_at hl 2 rfl) ?_
  refine va_iald hx hb hX.1 hP 1 0 rfl rfl (by unfold vp_in; decide +kernel) dX6_arrive_143 ?_
  refine cz_ti (w := (-1)) (by rfl) ?_
  refine va_iast hx hb hX.1 hP hD hS 3 0 rfl rfl (by unfold vp_in; decide +kernel) dX6_arrive_144 (fun H locs hP hD hS => ?_)
  refine lv_aload_n hx hb dX6_arrive_145 rfl (lv_at hl 4 rfl) ?_
  refine va_get (D := G) (ci := 5) (v := .ref p7) (C := RX6) (T := TX6) (N := 15) (ref := RX6) hx hb hts h1w hown hX.1 hP 0 rfl rfl 7 (by decide) h3w (fun _ h9 => h9) rfl dX6_arrive_146 ?_
  refine lv_iload hx hb dX6_arrive_149 (lv_at hl 2 rfl) ?_
  refine lv_iload hx hb dX6_arrive_151 (lv_at hl 0 rfl) ?_
  refine va_iast hx hb hX.1 hP hD hS 1 0 rfl rfl (by unfold vp_in; decide +kernel) dX6_arrive_153 (fun H locs hP hD hS => ?_)
  refine lv_aload_n hx hb dX6_arrive_154 rfl (lv_at hl 4 rfl) ?_
  refine va_get (D := G) (ci := 5) (v := .ref p10) (C := RX6) (T := TX6) (N := 15) (ref := RX6) hx hb hts h1w hown hX.1 hP 0 rfl rfl 10 (by decide) h7w (fun _ h9 => h9) rfl dX6_arrive_155 ?_
  refine lv_iload hx hb dX6_arrive_158 (lv_at hl 0 rfl) ?_
  refine lv_aload_n hx hb dX6_arrive_160 rfl (lv_at hl 4 rfl) ?_
  refine va_get (D := G) (ci := 5) (v := .int 0) (C := RX6) (T := TX6) (N := 15) (ref := RX6) hx hb hts h1w hown hX.1 hP 0 rfl rfl 11 (by decide) h8w (fun _ h9 => h9) rfl dX6_arrive_161 ?_
  refine va_iast hx hb hX.1 hP hD hS 4 0 rfl rfl (by unfold vp_in; decide +kernel) dX6_arrive_164 (fun H locs hP hD hS => ?_)
  refine lv_aload_n hx hb dX6_arrive_165 rfl (lv_at hl 4 rfl) ?_
  refine lv_dup hx hb dX6_arrive_166 rfl ?_
  refine va_get (D := G) (ci := 5) (v := .int 0) (C := RX6) (T := TX6) (N := 15) (ref := RX6) hx hb hts h1w hown hX.1 hP 0 rfl rfl 11 (by decide) h8w (fun _ h9 => h9) rfl dX6_arrive_167 ?_
  refine lv_iconst (v := 1) hx hb dX6_arrive_170 (by decide +kernel) ?_
  refine lv_iadd hx hb dX6_arrive_171 ?_
  refine cz_ti (w := 1) (by decide +kernel) ?_
  refine va_put (D := G) (ci := 5) (v := .int 1) (ty := .int) (C := RX6) (T := TX6) (N := 15) (ref := RX6) hx hb hts h1w tyX6 tyX6_ok nmX6 hown hX.1 hP hD hS 0 rfl rfl 11 (by decide) h8w (fun _ h9 => h9) rfl (by decide +kernel) rfl rfl (Nat.le_of_ble_eq_true rfl) dX6_arrive_172 (fun H locs hP hD hS => ?_)
  obtain ⟨hP, hD⟩ : va_P G vwCl [(p0, .inr (5, [v1, v2, v3, .ref p4, .ref p5, .ref p6, .int 1, .ref p7, .ref p8, .ref p9, .ref p10, .int 1, .int (-1), v11, v12])), (p7, .inl (k 0, 1024, .inl (upd (fun _ => (-1)) (455 : Int32).toNatClampNeg 0))), (p4, .inl (k 0, 1500, .inl (upd f13 (0 : Int32).toNatClampNeg 268435455))), (p8, .inl (k 0, 1500, .inl (upd f14 (0 : Int32).toNatClampNeg (-1)))), (p10, .inl (k 0, 1500, .inl (upd (fun _ => 0) (0 : Int32).toNatClampNeg 0))), (p5, .inl (k 0, 1500, .inl f15)), (p6, .inl (k 0, 1500, .inl f16)), (p9, .inl (k 0, 1500, .inl f17))] H ∧ va_D A [(p0, .inr (5, [v1, v2, v3, .ref p4, .ref p5, .ref p6, .int 1, .ref p7, .ref p8, .ref p9, .ref p10, .int 1, .int (-1), v11, v12])), (p7, .inl (k 0, 1024, .inl (upd (fun _ => (-1)) (455 : Int32).toNatClampNeg 0))), (p4, .inl (k 0, 1500, .inl (upd f13 (0 : Int32).toNatClampNeg 268435455))), (p8, .inl (k 0, 1500, .inl (upd f14 (0 : Int32).toNatClampNeg (-1)))), (p10, .inl (k 0, 1500, .inl (upd (fun _ => 0) (0 : Int32).toNatClampNeg 0))), (p5, .inl (k 0, 1500, .inl f15)), (p6, .inl (k 0, 1500, .inl f16)), (p9, .inl (k 0, 1500, .inl f17))] := ⟨hP, hD⟩
  refine lv_goto (tgt := 190) hx hb dX6_arrive_175 (by decide) ?_
  refine lv_aload_n hx hb dX6_arrive_190 rfl (lv_at hl 4 rfl) ?_
  refine va_get (D := G) (ci := 5) (v := .ref p5) (C := RX6) (T := TX6) (N := 15) (ref := RX6) hx hb hts h1w hown hX.1 hP 0 rfl rfl 4 (by decide) h9w (fun _ h9 => h9) rfl dX6_arrive_191 ?_
  refine lv_iload hx hb dX6_arrive_194 (lv_at hl 0 rfl) ?_
  refine lv_iload_n hx hb dX6_arrive_196 rfl (lv_at hl 3 rfl) ?_
  refine va_iast hx hb hX.1 hP hD hS 5 0 rfl rfl (by unfold vp_in; decide +kernel) dX6_arrive_197 (fun H locs hP hD hS => ?_)
  refine lv_aload_n hx hb dX6_arrive_198 rfl (lv_at hl 4 rfl) ?_
  refine va_get (D := G) (ci := 5) (v := .ref p6) (C := RX6) (T := TX6) (N := 15) (ref := RX6) hx hb hts h1w hown hX.1 hP 0 rfl rfl 5 (by decide) h10w (fun _ h9 => h9) rfl dX6_arrive_199 ?_
  refine lv_iload hx hb dX6_arrive_202 (lv_at hl 0 rfl) ?_
  refine lv_aload_n hx hb dX6_arrive_204 rfl (lv_at hl 4 rfl) ?_
  refine va_get (D := G) (ci := 5) (v := .int (-1)) (C := RX6) (T := TX6) (N := 15) (ref := RX6) hx hb hts h1w hown hX.1 hP 0 rfl rfl 12 (by decide) h0w (fun _ h9 => h9) rfl dX6_arrive_205 ?_
  refine va_iast hx hb hX.1 hP hD hS 6 0 rfl rfl (by unfold vp_in; decide +kernel) dX6_arrive_208 (fun H locs hP hD hS => ?_)
  refine lv_aload_n hx hb dX6_arrive_209 rfl (lv_at hl 4 rfl) ?_
  refine lv_iload hx hb dX6_arrive_210 (lv_at hl 0 rfl) ?_
  refine cz_v (wr := [(p7, .inl (k 0, 1024, .inl (upd (fun _ => (-1)) (455 : Int32).toNatClampNeg 0))), (p4, .inl (k 0, 1500, .inl (upd f13 (0 : Int32).toNatClampNeg 268435455))), (p8, .inl (k 0, 1500, .inl (upd f14 (0 : Int32).toNatClampNeg (-1)))), (p5, .inl (k 0, 1500, .inl (upd f15 (0 : Int32).toNatClampNeg 0))), (p6, .inl (k 0, 1500, .inl (upd f16 (0 : Int32).toNatClampNeg (-1))))]) (va_runV (As := [.int 0]) (rest := []) ⟨hx, hb, hml, hown, hts⟩ (cX6_raise_0 l G k p0 v1 v2 v3 (.ref p4) (.ref p5) (.ref p6) (.int 1) (.ref p7) (.ref p8) p9 p10 (.int 1) (.int (-1)) v11 v12 f17 H.size) (cwV 1 hts gX6_arrive_X6_raise rfl rfl rfl (by decide +kernel) ⟨Nat.le_of_ble_eq_true rfl, Nat.le_of_ble_eq_true rfl⟩) (cz_preV hZ hS hX hP hD [0, 4, 7] rfl rfl (ci := 5) (q0 := 0) rfl rfl) rfl rfl hl.1 rfl (lv_room (Nat.le_of_ble_eq_true rfl)) dX6_arrive_212 ⟨Nat.le_of_ble_eq_true rfl, Nat.le_of_ble_eq_true rfl⟩) hP hD hS hA [0, 4, 7] [1, 2, 3, 5, 6] rfl rfl (by decide) (by decide) (fun u H locs hp hP hD hS => ?_)
  have hP9 := hP.sub (ws' := [(p7, .inl (k 0, 1024, .inl (upd (fun _ => (-1)) (455 : Int32).toNatClampNeg 0))), (p4, .inl (k 0, 1500, .inl (upd f13 (0 : Int32).toNatClampNeg 268435455))), (p8, .inl (k 0, 1500, .inl (upd f14 (0 : Int32).toNatClampNeg (-1)))), (p5, .inl (k 0, 1500, .inl (upd f15 (0 : Int32).toNatClampNeg 0))), (p6, .inl (k 0, 1500, .inl (upd f16 (0 : Int32).toNatClampNeg (-1)))), (p0, .inr (5, [v1, v2, v3, .ref p4, .ref p5, .ref p6, .int 1, .ref p7, .ref p8, .ref p9, .ref p10, .int 1, .int (-1), v11, v12])), (p10, .inl (k 0, 1500, .inl (upd (upd (fun _ => 0) (0 : Int32).toNatClampNeg 0) (0 : Int32).toNatClampNeg 0))), (p9, .inl (k 0, 1500, .inl (upd f17 (0 : Int32).toNatClampNeg 0)))]) [0, 1, 2, 3, 4, 5, 6, 7] rfl
  have hD9 := hD.sub (ws' := [(p7, .inl (k 0, 1024, .inl (upd (fun _ => (-1)) (455 : Int32).toNatClampNeg 0))), (p4, .inl (k 0, 1500, .inl (upd f13 (0 : Int32).toNatClampNeg 268435455))), (p8, .inl (k 0, 1500, .inl (upd f14 (0 : Int32).toNatClampNeg (-1)))), (p5, .inl (k 0, 1500, .inl (upd f15 (0 : Int32).toNatClampNeg 0))), (p6, .inl (k 0, 1500, .inl (upd f16 (0 : Int32).toNatClampNeg (-1)))), (p0, .inr (5, [v1, v2, v3, .ref p4, .ref p5, .ref p6, .int 1, .ref p7, .ref p8, .ref p9, .ref p10, .int 1, .int (-1), v11, v12])), (p10, .inl (k 0, 1500, .inl (upd (upd (fun _ => 0) (0 : Int32).toNatClampNeg 0) (0 : Int32).toNatClampNeg 0))), (p9, .inl (k 0, 1500, .inl (upd f17 (0 : Int32).toNatClampNeg 0)))]) [0, 1, 2, 3, 4, 5, 6, 7] (by decide) rfl
  exact W.vret hx hb hr (fun t ht hW => ⟨⟨(), rfl, trivial, by rw [ht]; exact hP9, hD9⟩, hS.F ht⟩) hS.2.2 dX6_arrive_215

set_option maxHeartbeats 4000000 in
set_option maxRecDepth 100000 in
theorem cX6_takeCheapest_0 (l : Launch) (G : va_G) (k : Nat → ClassId) (p0 : Nat) (v1 : Value) (v2 : Value) (v3 : Value) (v4 : Value) (v5 : Value) (v6 : Value) (v7 : Value) (v8 : Value) (v9 : Value) (p10 : Nat) (p11 : Nat) (v12 : Value) (v13 : Value) (v14 : Value) (f15 : Nat → Int32) (sz : Nat) : CMi l G k yX6_takeCheapest wsX6_takeCheapest ({ frames := 0, cells := 0, slots := 0, locals := 0 }) [.ref p0] sz [(p0, .inr (5, [v1, v2, v3, v4, v5, v6, v7, v8, v9, .ref p10, .ref p11, .int 1, v12, v13, v14])), (p10, .inl (k 0, 1500, .inl (upd (fun _ => 0) (0 : Int32).toNatClampNeg 0))), (p11, .inl (k 0, 1500, .inl f15))] (fun r (u : Unit) => r = 0) (fun (u : Unit) => [(p0, .inr (5, [v1, v2, v3, v4, v5, v6, v7, v8, v9, .ref p10, .ref p11, .int 0, v12, v13, v14])), (p10, .inl (k 0, 1500, .inl (upd (upd (fun _ => 0) (0 : Int32).toNatClampNeg 0) (0 : Int32).toNatClampNeg 0))), (p11, .inl (k 0, 1500, .inl (upd f15 (0 : Int32).toNatClampNeg 0)))]) := by
  refine Met.ofW (cc := cX6_takeCheapest) (maxL := 6) (ret := (some .int)) (by decide) rfl ?_
  intro p e s m args below meth c s₁ B hml hv
  obtain ⟨rfl, hsz, hP, hX, hD0, hZ0⟩ := hv
  have hx := B.exec
  have hb := B.bytes
  have hr := B.returns
  have hts := atoms_spec (ws := wsX6_takeCheapest) B.pre
  have hown : s.vm.findClass RX6 = some m.cls := findClass_of_methodNamed B.named
  subst hsz
  have hD := hD0.self (sz := s.heap.size)
  have hZ := ZX.up hP hZ0
  generalize hAe : va_A [(p0, .inr (5, [v1, v2, v3, v4, v5, v6, v7, v8, v9, .ref p10, .ref p11, .int 1, v12, v13, v14])), (p10, .inl (k 0, 1500, .inl (upd (fun _ => 0) (0 : Int32).toNatClampNeg 0))), (p11, .inl (k 0, 1500, .inl f15))] s.heap.size = A at hD hZ ⊢
  have hA : ∀ q : Nat, s.heap.size ≤ q → A q := fun q h => by rw [← hAe]; exact Or.inr h
  have hS : va_S A s.heap s.heap [] := va_S.rf
  have hP : va_P G vwCl [(p0, .inr (5, [v1, v2, v3, v4, v5, v6, v7, v8, v9, .ref p10, .ref p11, .int 1, v12, v13, v14])), (p10, .inl (k 0, 1500, .inl (upd (fun _ => 0) (0 : Int32).toNatClampNeg 0))), (p11, .inl (k 0, 1500, .inl f15))] s.heap := hP
  have hl := lv_entry ([.ref p0]) (n := 6) (Nat.le_of_ble_eq_true rfl)
  rw [lg_entry_eq]
  generalize (lg_sl ([.ref p0]) ++ List.replicate (6 - (lg_sl ([.ref p0])).length) Slot.unset).toArray = ls at hl ⊢
  have hl : lv_has ls 6 [(0, .ref p0)] := hl
  have h0w := hts (.fieldLink RX6 48 "RopeTown$Search" "heap" "[I") (by decide +kernel)
  have h1w : ∀ w ∈ wsX60, w ∈ wsX6_takeCheapest := by decide +kernel
  have h2w := hts (.fieldLink RX6 26 "RopeTown$Search" "waiting" "I") (by decide +kernel)
  have h3w := hts (.fieldLink RX6 51 "RopeTown$Search" "spots" "[I") (by decide +kernel)
  refine lv_aload_n hx hb dX6_takeCheapest_0 rfl (lv_at hl 0 rfl) ?_
  refine va_get (D := G) (ci := 5) (v := .ref p10) (C := RX6) (T := TX6) (N := 15) (ref := RX6) hx hb hts h1w hown hX.1 hP 0 rfl rfl 9 (by decide) h0w (fun _ h9 => h9) rfl dX6_takeCheapest_1 ?_
  refine lv_iconst (v := 0) hx hb dX6_takeCheapest_4 (by decide +kernel) ?_
  refine va_iald hx hb hX.1 hP 1 0 rfl rfl (by unfold vp_in; decide +kernel) dX6_takeCheapest_5 ?_
  refine cz_ti (w := 0) (by rfl) ?_
  refine lv_istore_n (lv' := [(1, .int 0), (0, .ref p0)]) hx hb dX6_takeCheapest_6 rfl hl (by decide) rfl (fun ls hl => ?_)
  refine lv_aload_n hx hb dX6_takeCheapest_7 rfl (lv_at hl 1 rfl) ?_
  refine lv_dup hx hb dX6_takeCheapest_8 rfl ?_
  refine va_get (D := G) (ci := 5) (v := .int 1) (C := RX6) (T := TX6) (N := 15) (ref := RX6) hx hb hts h1w hown hX.1 hP 0 rfl rfl 11 (by decide) h2w (fun _ h9 => h9) rfl dX6_takeCheapest_9 ?_
  refine lv_iconst (v := 1) hx hb dX6_takeCheapest_12 (by decide +kernel) ?_
  refine lv_isub hx hb dX6_takeCheapest_13 ?_
  refine cz_ti (w := 0) (by decide +kernel) ?_
  refine va_put (D := G) (ci := 5) (v := .int 0) (ty := .int) (C := RX6) (T := TX6) (N := 15) (ref := RX6) hx hb hts h1w tyX6 tyX6_ok nmX6 hown hX.1 hP hD hS 0 rfl rfl 11 (by decide) h2w (fun _ h9 => h9) rfl (by decide +kernel) rfl rfl (Nat.le_of_ble_eq_true rfl) dX6_takeCheapest_14 (fun H locs hP hD hS => ?_)
  refine lv_aload_n hx hb dX6_takeCheapest_17 rfl (lv_at hl 1 rfl) ?_
  refine va_get (D := G) (ci := 5) (v := .ref p10) (C := RX6) (T := TX6) (N := 15) (ref := RX6) hx hb hts h1w hown hX.1 hP 0 rfl rfl 9 (by decide) h0w (fun _ h9 => h9) rfl dX6_takeCheapest_18 ?_
  refine lv_aload_n hx hb dX6_takeCheapest_21 rfl (lv_at hl 1 rfl) ?_
  refine va_get (D := G) (ci := 5) (v := .int 0) (C := RX6) (T := TX6) (N := 15) (ref := RX6) hx hb hts h1w hown hX.1 hP 0 rfl rfl 11 (by decide) h2w (fun _ h9 => h9) rfl dX6_takeCheapest_22 ?_
  refine va_iald hx hb hX.1 hP 1 0 rfl rfl (by unfold vp_in; decide +kernel) dX6_takeCheapest_25 ?_
  refine cz_ti (w := 0) (by rfl) ?_
  refine lv_istore_n (lv' := [(2, .int 0), (1, .int 0), (0, .ref p0)]) hx hb dX6_takeCheapest_26 rfl hl (by decide) rfl (fun ls hl => ?_)
  refine lv_iconst (v := 0) hx hb dX6_takeCheapest_27 (by decide +kernel) ?_
  refine lv_istore_n (lv' := [(3, .int 0), (2, .int 0), (1, .int 0), (0, .ref p0)]) hx hb dX6_takeCheapest_28 rfl hl (by decide) rfl (fun ls hl => ?_)
  refine lv_iconst (v := 0) hx hb dX6_takeCheapest_29 (by decide +kernel) ?_
  refine lv_istore (lv' := [(4, .int 0), (3, .int 0), (2, .int 0), (1, .int 0), (0, .ref p0)]) hx hb dX6_takeCheapest_30 hl (by decide) rfl (fun ls hl => ?_)
  refine lv_iload hx hb dX6_takeCheapest_32 (lv_at hl 0 rfl) ?_
  refine lv_sipush (v := 1500) hx hb dX6_takeCheapest_34 (by decide +kernel) ?_
  refine lv_icmp_ge (tgt := 160) hx hb dX6_takeCheapest_37 (by decide) (fun q => absurd (q) (by decide +kernel)) (fun _ => ?_)
  refine lv_iconst (v := 2) hx hb dX6_takeCheapest_40 (by decide +kernel) ?_
  refine lv_iload_n hx hb dX6_takeCheapest_41 rfl (lv_at hl 1 rfl) ?_
  refine lv_imul hx hb dX6_takeCheapest_42 ?_
  refine cz_ti (w := 0) (by decide +kernel) ?_
  refine lv_iconst (v := 1) hx hb dX6_takeCheapest_43 (by decide +kernel) ?_
  refine lv_iadd hx hb dX6_takeCheapest_44 ?_
  refine cz_ti (w := 1) (by decide +kernel) ?_
  refine lv_aload_n hx hb dX6_takeCheapest_45 rfl (lv_at hl 4 rfl) ?_
  refine va_get (D := G) (ci := 5) (v := .int 0) (C := RX6) (T := TX6) (N := 15) (ref := RX6) hx hb hts h1w hown hX.1 hP 0 rfl rfl 11 (by decide) h2w (fun _ h9 => h9) rfl dX6_takeCheapest_46 ?_
  refine lv_icmp_ge (tgt := 160) hx hb dX6_takeCheapest_49 (by decide) (fun _ => ?_) (fun q => absurd (by decide +kernel) (q))
  refine lv_aload_n hx hb dX6_takeCheapest_160 rfl (lv_at hl 4 rfl) ?_
  refine va_get (D := G) (ci := 5) (v := .ref p10) (C := RX6) (T := TX6) (N := 15) (ref := RX6) hx hb hts h1w hown hX.1 hP 0 rfl rfl 9 (by decide) h0w (fun _ h9 => h9) rfl dX6_takeCheapest_161 ?_
  refine lv_iload_n hx hb dX6_takeCheapest_164 rfl (lv_at hl 1 rfl) ?_
  refine lv_iload_n hx hb dX6_takeCheapest_165 rfl (lv_at hl 2 rfl) ?_
  refine va_iast hx hb hX.1 hP hD hS 1 0 rfl rfl (by unfold vp_in; decide +kernel) dX6_takeCheapest_166 (fun H locs hP hD hS => ?_)
  refine lv_aload_n hx hb dX6_takeCheapest_167 rfl (lv_at hl 4 rfl) ?_
  refine va_get (D := G) (ci := 5) (v := .ref p11) (C := RX6) (T := TX6) (N := 15) (ref := RX6) hx hb hts h1w hown hX.1 hP 0 rfl rfl 10 (by decide) h3w (fun _ h9 => h9) rfl dX6_takeCheapest_168 ?_
  refine lv_iload_n hx hb dX6_takeCheapest_171 rfl (lv_at hl 2 rfl) ?_
  refine lv_iload_n hx hb dX6_takeCheapest_172 rfl (lv_at hl 1 rfl) ?_
  refine va_iast hx hb hX.1 hP hD hS 2 0 rfl rfl (by unfold vp_in; decide +kernel) dX6_takeCheapest_173 (fun H locs hP hD hS => ?_)
  refine lv_iload_n hx hb dX6_takeCheapest_174 rfl (lv_at hl 3 rfl) ?_
  have hP9 := hP.sub (ws' := [(p0, .inr (5, [v1, v2, v3, v4, v5, v6, v7, v8, v9, .ref p10, .ref p11, .int 0, v12, v13, v14])), (p10, .inl (k 0, 1500, .inl (upd (upd (fun _ => 0) (0 : Int32).toNatClampNeg 0) (0 : Int32).toNatClampNeg 0))), (p11, .inl (k 0, 1500, .inl (upd f15 (0 : Int32).toNatClampNeg 0)))]) [0, 1, 2] rfl
  have hD9 := hD.sub (ws' := [(p0, .inr (5, [v1, v2, v3, v4, v5, v6, v7, v8, v9, .ref p10, .ref p11, .int 0, v12, v13, v14])), (p10, .inl (k 0, 1500, .inl (upd (upd (fun _ => 0) (0 : Int32).toNatClampNeg 0) (0 : Int32).toNatClampNeg 0))), (p11, .inl (k 0, 1500, .inl (upd f15 (0 : Int32).toNatClampNeg 0)))]) [0, 1, 2] (by decide) rfl
  exact W.iret (v := 0) hx hb hr (fun t ht hW => ⟨⟨0, (), rfl, rfl, by rw [ht]; exact hP9, hD9⟩, hS.F ht⟩) hS.2.2 dX6_takeCheapest_175

set_option maxHeartbeats 4000000 in
set_option maxRecDepth 100000 in
theorem cX6_emptied_0 (l : Launch) (G : va_G) (k : Nat → ClassId) (p0 : Nat) (p1 : Nat) (v2 : Value) (v3 : Value) (v4 : Value) (v5 : Value) (v6 : Value) (v7 : Value) (v8 : Value) (v9 : Value) (v10 : Value) (v11 : Value) (v12 : Value) (v13 : Value) (v14 : Value) (v15 : Value) (v16 : Value) (v17 : Value) (v18 : Value) (v19 : Value) (v20 : Value) (v21 : Value) (v22 : Value) (v23 : Value) (v24 : Value) (v25 : Value) (v26 : Value) (v27 : Value) (v28 : Value) (sz : Nat) : CMi l G k yX6_emptied wsX6_emptied ({ frames := 0, cells := 0, slots := 0, locals := 0 }) [.ref p0, .int 268435455] sz [(p0, .inr (5, [.ref p1, v2, v3, v4, v5, v6, v7, v8, v9, v10, v11, v12, v13, v14, v15])), (p1, .inr (2, [v16, v17, v18, v19, v20, v21, v22, .int 0, v23, v24, v25, v26, v27, v28]))] (fun r (u : Unit) => r = 268435455) (fun (u : Unit) => [(p0, .inr (5, [.ref p1, v2, v3, v4, v5, v6, v7, v8, v9, v10, v11, v12, v13, v14, v15])), (p1, .inr (2, [v16, v17, v18, v19, v20, v21, v22, .int 0, v23, v24, v25, v26, v27, v28]))]) := by
  refine Met.ofW (cc := cX6_emptied) (maxL := 9) (ret := (some .int)) (by decide) rfl ?_
  intro p e s m args below meth c s₁ B hml hv
  obtain ⟨rfl, hsz, hP, hX, hD0, hZ0⟩ := hv
  have hx := B.exec
  have hb := B.bytes
  have hr := B.returns
  have hts := atoms_spec (ws := wsX6_emptied) B.pre
  have hown : s.vm.findClass RX6 = some m.cls := findClass_of_methodNamed B.named
  subst hsz
  have hD := hD0.self (sz := s.heap.size)
  have hZ := ZX.up hP hZ0
  generalize hAe : va_A [(p0, .inr (5, [.ref p1, v2, v3, v4, v5, v6, v7, v8, v9, v10, v11, v12, v13, v14, v15])), (p1, .inr (2, [v16, v17, v18, v19, v20, v21, v22, .int 0, v23, v24, v25, v26, v27, v28]))] s.heap.size = A at hD hZ ⊢
  have hA : ∀ q : Nat, s.heap.size ≤ q → A q := fun q h => by rw [← hAe]; exact Or.inr h
  have hS : va_S A s.heap s.heap [] := va_S.rf
  have hP : va_P G vwCl [(p0, .inr (5, [.ref p1, v2, v3, v4, v5, v6, v7, v8, v9, v10, v11, v12, v13, v14, v15])), (p1, .inr (2, [v16, v17, v18, v19, v20, v21, v22, .int 0, v23, v24, v25, v26, v27, v28]))] s.heap := hP
  have hl := lv_entry ([.ref p0, .int 268435455]) (n := 9) (Nat.le_of_ble_eq_true rfl)
  rw [lg_entry_eq]
  generalize (lg_sl ([.ref p0, .int 268435455]) ++ List.replicate (9 - (lg_sl ([.ref p0, .int 268435455])).length) Slot.unset).toArray = ls at hl ⊢
  have hl : lv_has ls 9 [(0, .ref p0), (1, .int 268435455)] := hl
  have h0w := hts (.fieldLink RX6 9 "RopeTown$Search" "plan" "LRopeTown$Plan;") (by decide +kernel)
  have h1w : ∀ w ∈ wsX60, w ∈ wsX6_emptied := by decide +kernel
  have h2w : ∀ w ∈ wsX30, w ∈ wsX6_emptied := by decide +kernel
  refine lv_iload_n hx hb dX6_emptied_0 rfl (lv_at hl 1 rfl) ?_
  refine lv_istore_n (lv' := [(2, .int 268435455), (0, .ref p0), (1, .int 268435455)]) hx hb dX6_emptied_1 rfl hl (by decide) rfl (fun ls hl => ?_)
  refine lv_iconst (v := 0) hx hb dX6_emptied_2 (by decide +kernel) ?_
  refine lv_istore_n (lv' := [(3, .int 0), (2, .int 268435455), (0, .ref p0), (1, .int 268435455)]) hx hb dX6_emptied_3 rfl hl (by decide) rfl (fun ls hl => ?_)
  refine lv_iload_n hx hb dX6_emptied_4 rfl (lv_at hl 0 rfl) ?_
  refine lv_aload_n hx hb dX6_emptied_5 rfl (lv_at hl 2 rfl) ?_
  refine va_get (D := G) (ci := 5) (v := .ref p1) (C := RX6) (T := TX6) (N := 15) (ref := RX6) hx hb hts h1w hown hX.1 hP 0 rfl rfl 0 (by decide) h0w (fun _ h9 => h9) rfl dX6_emptied_6 ?_
  refine va_getN (D := G) (ci := 2) (v := .int 0) (C := RX3) (T := TX3) (N := 14) (ref := RX3) (host := RX9) hx hb hts h2w hown hX.1 hP 1 rfl rfl 7 (by decide) (nf_17 hX.2.2.1) (fun _ h9 => h9) rfl dX6_emptied_9 ?_
  refine lv_icmp_ge (tgt := 143) hx hb dX6_emptied_12 (by decide) (fun _ => ?_) (fun q => absurd (by decide +kernel) (q))
  refine lv_iload_n hx hb dX6_emptied_143 rfl (lv_at hl 1 rfl) ?_
  have hP9 := hP.sub (ws' := [(p0, .inr (5, [.ref p1, v2, v3, v4, v5, v6, v7, v8, v9, v10, v11, v12, v13, v14, v15])), (p1, .inr (2, [v16, v17, v18, v19, v20, v21, v22, .int 0, v23, v24, v25, v26, v27, v28]))]) [0, 1] rfl
  have hD9 := hD.sub (ws' := [(p0, .inr (5, [.ref p1, v2, v3, v4, v5, v6, v7, v8, v9, v10, v11, v12, v13, v14, v15])), (p1, .inr (2, [v16, v17, v18, v19, v20, v21, v22, .int 0, v23, v24, v25, v26, v27, v28]))]) [0, 1] (by decide) rfl
  exact W.iret (v := 268435455) hx hb hr (fun t ht hW => ⟨⟨268435455, (), rfl, rfl, by rw [ht]; exact hP9, hD9⟩, hS.F ht⟩) hS.2.2 dX6_emptied_144

set_option maxHeartbeats 4000000 in
set_option maxRecDepth 100000 in
theorem cX3_runsByWeight_0 (l : Launch) (G : va_G) (k : Nat → ClassId) (p0 : Nat) (v1 : Value) (v2 : Value) (v3 : Value) (v4 : Value) (v5 : Value) (v6 : Value) (v7 : Value) (v8 : Value) (v9 : Value) (v10 : Value) (v11 : Value) (v12 : Value) (v13 : Value) (sz : Nat) : CMi l G k yX3_runsByWeight wsX3_runsByWeight ({ frames := 0, cells := 0, slots := 0, locals := 0 }) [.ref p0, .int 0] sz [(p0, .inr (2, [v1, v2, v3, v4, .int 1, v5, v6, v7, v8, v9, v10, v11, v12, v13]))] (fun r (u : Unit) => r = 0) (fun (u : Unit) => [(p0, .inr (2, [v1, v2, v3, v4, .int 1, v5, v6, v7, v8, v9, v10, v11, v12, v13]))]) := by
  refine Met.ofW (cc := cX3_runsByWeight) (maxL := 2) (ret := (some .boolean)) (by decide) rfl ?_
  intro p e s m args below meth c s₁ B hml hv
  obtain ⟨rfl, hsz, hP, hX, hD0, hZ0⟩ := hv
  have hx := B.exec
  have hb := B.bytes
  have hr := B.returns
  have hts := atoms_spec (ws := wsX3_runsByWeight) B.pre
  have hown : s.vm.findClass RX3 = some m.cls := findClass_of_methodNamed B.named
  subst hsz
  have hD := hD0.self (sz := s.heap.size)
  have hZ := ZX.up hP hZ0
  generalize hAe : va_A [(p0, .inr (2, [v1, v2, v3, v4, .int 1, v5, v6, v7, v8, v9, v10, v11, v12, v13]))] s.heap.size = A at hD hZ ⊢
  have hA : ∀ q : Nat, s.heap.size ≤ q → A q := fun q h => by rw [← hAe]; exact Or.inr h
  have hS : va_S A s.heap s.heap [] := va_S.rf
  have hP : va_P G vwCl [(p0, .inr (2, [v1, v2, v3, v4, .int 1, v5, v6, v7, v8, v9, v10, v11, v12, v13]))] s.heap := hP
  have hl := lv_entry ([.ref p0, .int 0]) (n := 2) (Nat.le_of_ble_eq_true rfl)
  rw [lg_entry_eq]
  generalize (lg_sl ([.ref p0, .int 0]) ++ List.replicate (2 - (lg_sl ([.ref p0, .int 0])).length) Slot.unset).toArray = ls at hl ⊢
  have hl : lv_has ls 2 [(0, .ref p0), (1, .int 0)] := hl
  have h0w := hts (.fieldLink RX3 50 "RopeTown$Plan" "needs" "I") (by decide +kernel)
  have h1w : ∀ w ∈ wsX30, w ∈ wsX3_runsByWeight := by decide +kernel
  refine lv_iload_n hx hb dX3_runsByWeight_0 rfl (lv_at hl 1 rfl) ?_
  refine lv_aload_n hx hb dX3_runsByWeight_1 rfl (lv_at hl 0 rfl) ?_
  refine va_get (D := G) (ci := 2) (v := .int 1) (C := RX3) (T := TX3) (N := 14) (ref := RX3) hx hb hts h1w hown hX.1 hP 0 rfl rfl 4 (by decide) h0w (fun _ h9 => h9) rfl dX3_runsByWeight_2 ?_
  refine lv_icmp_lt (tgt := 25) hx hb dX3_runsByWeight_5 (by decide) (fun _ => ?_) (fun q => absurd (by decide +kernel) (q))
  refine lv_iconst (v := 0) hx hb dX3_runsByWeight_25 (by decide +kernel) ?_
  have hP9 := hP.sub (ws' := [(p0, .inr (2, [v1, v2, v3, v4, .int 1, v5, v6, v7, v8, v9, v10, v11, v12, v13]))]) [0] rfl
  have hD9 := hD.sub (ws' := [(p0, .inr (2, [v1, v2, v3, v4, .int 1, v5, v6, v7, v8, v9, v10, v11, v12, v13]))]) [0] (by decide) rfl
  exact W.zret (v := 0) hx hb hr (by decide +kernel) (fun t ht hW => ⟨⟨0, (), rfl, rfl, by rw [ht]; exact hP9, hD9⟩, hS.F ht⟩) hS.2.2 dX3_runsByWeight_26

