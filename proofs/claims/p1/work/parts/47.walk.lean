set_option maxHeartbeats 4000000 in
set_option maxRecDepth 100000 in
theorem cX6_go_0 (l : Launch) (G : va_G) (k : Nat → ClassId) (p0 : Nat) (p1 : Nat) (v2 : Value) (v3 : Value) (v4 : Value) (v5 : Value) (v6 : Value) (v7 : Value) (v8 : Value) (v9 : Value) (v10 : Value) (v11 : Value) (v12 : Value) (v13 : Value) (v14 : Value) (v15 : Value) (v16 : Value) (v17 : Value) (v18 : Value) (v19 : Value) (v20 : Value) (v21 : Value) (v22 : Value) (v23 : Value) (v24 : Value) (v25 : Value) (sz : Nat) : CMv l G k yX6_go wsX6_go ({ frames := 1, cells := 0, slots := 0, locals := 23 }) [.ref p0, .int 268435455, .int 0, .int 1] sz [(p0, .inr (5, [.ref p1, .int 0, v2, v3, v4, v5, v6, v7, v8, v9, v10, v11, v12, v13, v14])), (p1, .inr (2, [.int 1, v15, v16, .int 0, .int 1, v17, v18, v19, v20, v21, v22, v23, v24, v25]))] (fun (u : Unit) => True) (fun (u : Unit) => [(p0, .inr (5, [.ref p1, .int 0, v2, v3, v4, v5, v6, v7, v8, v9, v10, v11, v12, v13, v14])), (p1, .inr (2, [.int 1, v15, v16, .int 0, .int 1, v17, v18, v19, v20, v21, v22, v23, v24, v25]))]) := by
  refine Met.ofW (cc := cX6_go) (maxL := 7) (ret := none) (by decide) rfl ?_
  intro p e s m args below meth c s₁ B hml hv
  obtain ⟨rfl, hsz, hP, hX, hD0, hZ0⟩ := hv
  have hx := B.exec
  have hb := B.bytes
  have hr := B.returns
  have hts := atoms_spec (ws := wsX6_go) B.pre
  have hown : s.vm.findClass RX6 = some m.cls := findClass_of_methodNamed B.named
  subst hsz
  have hD := hD0.self (sz := s.heap.size)
  have hZ := ZX.up hP hZ0
  generalize hAe : va_A [(p0, .inr (5, [.ref p1, .int 0, v2, v3, v4, v5, v6, v7, v8, v9, v10, v11, v12, v13, v14])), (p1, .inr (2, [.int 1, v15, v16, .int 0, .int 1, v17, v18, v19, v20, v21, v22, v23, v24, v25]))] s.heap.size = A at hD hZ ⊢
  have hA : ∀ q : Nat, s.heap.size ≤ q → A q := fun q h => by rw [← hAe]; exact Or.inr h
  have hS : va_S A s.heap s.heap [] := va_S.rf
  have hP : va_P G vwCl [(p0, .inr (5, [.ref p1, .int 0, v2, v3, v4, v5, v6, v7, v8, v9, v10, v11, v12, v13, v14])), (p1, .inr (2, [.int 1, v15, v16, .int 0, .int 1, v17, v18, v19, v20, v21, v22, v23, v24, v25]))] s.heap := hP
  have hl := lv_entry ([.ref p0, .int 268435455, .int 0, .int 1]) (n := 7) (Nat.le_of_ble_eq_true rfl)
  rw [lg_entry_eq]
  generalize (lg_sl ([.ref p0, .int 268435455, .int 0, .int 1]) ++ List.replicate (7 - (lg_sl ([.ref p0, .int 268435455, .int 0, .int 1])).length) Slot.unset).toArray = ls at hl ⊢
  have hl : lv_has ls 7 [(0, .ref p0), (1, .int 268435455), (2, .int 0), (3, .int 1)] := hl
  have h0w := hts (.initialized RX7) (by decide +kernel)
  have h1w := hts (.static yX7_depth) (by decide +kernel)
  have h2w := hts (.fieldLink RX6 9 "RopeTown$Search" "plan" "LRopeTown$Plan;") (by decide +kernel)
  have h3w : ∀ w ∈ wsX60, w ∈ wsX6_go := by decide +kernel
  have h4w := hts (.initialized RX3) (by decide +kernel)
  have h5w := hts (.instanceMethod yX3_hasDepth) (by decide +kernel)
  have h6w := hts (.selects RX3 yX3_hasDepth yX3_hasDepth) (by decide +kernel)
  have h7w := hts (.instanceMethod yX3_excess) (by decide +kernel)
  have h8w := hts (.selects RX3 yX3_excess yX3_excess) (by decide +kernel)
  have h9w := hts (.fieldLink RX6 15 "RopeTown$Search" "byHand" "Z") (by decide +kernel)
  have h10w := hts (.instanceMethod yX3_runsByWeight) (by decide +kernel)
  have h11w := hts (.selects RX3 yX3_runsByWeight yX3_runsByWeight) (by decide +kernel)
  refine lv_iconst (v := 0) hx hb dX6_go_0 (by decide +kernel) ?_
  refine lv_istore (lv' := [(4, .int 0), (0, .ref p0), (1, .int 268435455), (2, .int 0), (3, .int 1)]) hx hb dX6_go_1 hl (by decide) rfl (fun ls hl => ?_)
  refine lv_iload_n hx hb dX6_go_3 rfl (lv_at hl 2 rfl) ?_
  refine cz_i (wr := [(p0, .inr (5, [.ref p1, .int 0, v2, v3, v4, v5, v6, v7, v8, v9, v10, v11, v12, v13, v14])), (p1, .inr (2, [.int 1, v15, v16, .int 0, .int 1, v17, v18, v19, v20, v21, v22, v23, v24, v25]))]) (va_runSN (As := [.int 268435455]) (rest := []) ⟨hx, hb, hml, hown, hts⟩ (cX7_depth_0 l G k s.heap.size) ⟨va_cnB 1 hts gX6_go_X7_depth_n122 rfl rfl rfl (nm_52 hX.2.2.1) h0w (by decide +kernel) ⟨Nat.le_of_ble_eq_true rfl, Nat.le_of_ble_eq_true rfl⟩, h1w, trivial⟩ (cz_preS hZ hS hX hP hD [] rfl rfl) rfl rfl hl.1 rfl (lv_room (Nat.le_of_ble_eq_true rfl)) dX6_go_4 ⟨Nat.le_of_ble_eq_true rfl, Nat.le_of_ble_eq_true rfl⟩) hP hD hS hA [] [0, 1] rfl rfl (by decide) (by decide) (fun r u H locs hp hP hD hS => ?_)
  have hp : r = 0 := hp
  subst hp
  refine lv_istore (lv' := [(5, .int 0), (4, .int 0), (0, .ref p0), (1, .int 268435455), (2, .int 0), (3, .int 1)]) hx hb dX6_go_7 hl (by decide) rfl (fun ls hl => ?_)
  refine lv_aload_n hx hb dX6_go_9 rfl (lv_at hl 2 rfl) ?_
  refine va_get (D := G) (ci := 5) (v := .ref p1) (C := RX6) (T := TX6) (N := 15) (ref := RX6) hx hb hts h3w hown hX.1 hP 0 rfl rfl 0 (by decide) h2w (fun _ h9 => h9) rfl dX6_go_10 ?_
  refine lv_iload hx hb dX6_go_13 (lv_at hl 0 rfl) ?_
  refine lv_iload_n hx hb dX6_go_15 rfl (lv_at hl 5 rfl) ?_
  refine lv_iadd hx hb dX6_go_16 ?_
  refine cz_ti (w := 1) (by decide +kernel) ?_
  refine cz_i (wr := [(p0, .inr (5, [.ref p1, .int 0, v2, v3, v4, v5, v6, v7, v8, v9, v10, v11, v12, v13, v14]))]) (va_runVN (As := [.int 1]) (rest := []) ⟨hx, hb, hml, hown, hts⟩ (cX3_hasDepth_3 l G k p1 v15 v16 (.int 0) (.int 1) v17 v18 v19 v20 v21 v22 v23 v24 v25 H.size) ⟨va_cnB 1 hts gX6_go_X3_hasDepth_n131 rfl rfl rfl (nm_54 hX.2.2.1) h4w (by decide +kernel) ⟨Nat.le_of_ble_eq_true rfl, Nat.le_of_ble_eq_true rfl⟩, h5w, h6w⟩ (cz_preV hZ hS hX hP hD [1] rfl rfl (ci := 2) (q0 := 1) rfl rfl) rfl rfl hl.1 rfl (lv_room (Nat.le_of_ble_eq_true rfl)) dX6_go_17 ⟨Nat.le_of_ble_eq_true rfl, Nat.le_of_ble_eq_true rfl⟩) hP hD hS hA [1] [0] rfl rfl (by decide) (by decide) (fun r u H locs hp hP hD hS => ?_)
  have hp : r = 1 := hp
  subst hp
  refine lv_if_eq (tgt := 104) hx hb dX6_go_20 (by decide) (fun q => absurd (q) (by decide +kernel)) (fun _ => ?_)
  refine lv_aload_n hx hb dX6_go_23 rfl (lv_at hl 2 rfl) ?_
  refine va_get (D := G) (ci := 5) (v := .ref p1) (C := RX6) (T := TX6) (N := 15) (ref := RX6) hx hb hts h3w hown hX.1 hP 0 rfl rfl 0 (by decide) h2w (fun _ h9 => h9) rfl dX6_go_24 ?_
  refine lv_iload_n hx hb dX6_go_27 rfl (lv_at hl 4 rfl) ?_
  refine lv_iload hx hb dX6_go_28 (lv_at hl 0 rfl) ?_
  refine lv_iload_n hx hb dX6_go_30 rfl (lv_at hl 5 rfl) ?_
  refine cz_i (wr := [(p0, .inr (5, [.ref p1, .int 0, v2, v3, v4, v5, v6, v7, v8, v9, v10, v11, v12, v13, v14]))]) (va_runVN (As := [.int 0, .int 0, .int 1]) (rest := []) ⟨hx, hb, hml, hown, hts⟩ (cX3_excess_0 l G k p1 v15 v16 (.int 1) v17 v18 v19 v20 v21 v22 v23 v24 v25 H.size) ⟨va_cnB 3 hts gX6_go_X3_excess_n135 rfl rfl rfl (nm_55 hX.2.2.1) h4w (by decide +kernel) ⟨Nat.le_of_ble_eq_true rfl, Nat.le_of_ble_eq_true rfl⟩, h7w, h8w⟩ (cz_preV hZ hS hX hP hD [1] rfl rfl (ci := 2) (q0 := 1) rfl rfl) rfl rfl hl.1 rfl (lv_room (Nat.le_of_ble_eq_true rfl)) dX6_go_31 ⟨Nat.le_of_ble_eq_true rfl, Nat.le_of_ble_eq_true rfl⟩) hP hD hS hA [1] [0] rfl rfl (by decide) (by decide) (fun r u H locs hp hP hD hS => ?_)
  have hp : r = 0 := hp
  subst hp
  refine lv_istore (lv' := [(6, .int 0), (5, .int 0), (4, .int 0), (0, .ref p0), (1, .int 268435455), (2, .int 0), (3, .int 1)]) hx hb dX6_go_34 hl (by decide) rfl (fun ls hl => ?_)
  refine lv_aload_n hx hb dX6_go_36 rfl (lv_at hl 3 rfl) ?_
  refine va_get (D := G) (ci := 5) (v := .int 0) (C := RX6) (T := TX6) (N := 15) (ref := RX6) hx hb hts h3w hown hX.1 hP 0 rfl rfl 1 (by decide) h9w (fun _ h9 => h9) rfl dX6_go_37 ?_
  refine lv_if_ne (tgt := 56) hx hb dX6_go_40 (by decide) (fun q => absurd (by decide +kernel) (q)) (fun _ => ?_)
  refine lv_aload_n hx hb dX6_go_43 rfl (lv_at hl 3 rfl) ?_
  refine va_get (D := G) (ci := 5) (v := .ref p1) (C := RX6) (T := TX6) (N := 15) (ref := RX6) hx hb hts h3w hown hX.1 hP 0 rfl rfl 0 (by decide) h2w (fun _ h9 => h9) rfl dX6_go_44 ?_
  refine lv_iload hx hb dX6_go_47 (lv_at hl 0 rfl) ?_
  refine cz_i (wr := [(p0, .inr (5, [.ref p1, .int 0, v2, v3, v4, v5, v6, v7, v8, v9, v10, v11, v12, v13, v14]))]) (va_runVN (As := [.int 0]) (rest := []) ⟨hx, hb, hml, hown, hts⟩ (cX3_runsByWeight_0 l G k p1 (.int 1) v15 v16 (.int 0) v17 v18 v19 v20 v21 v22 v23 v24 v25 H.size) ⟨va_cnB 1 hts gX6_go_X3_runsByWeight_n138 rfl rfl rfl (nm_56 hX.2.2.1) h4w (by decide +kernel) ⟨Nat.le_of_ble_eq_true rfl, Nat.le_of_ble_eq_true rfl⟩, h10w, h11w⟩ (cz_preV hZ hS hX hP hD [1] rfl rfl (ci := 2) (q0 := 1) rfl rfl) rfl rfl hl.1 rfl (lv_room (Nat.le_of_ble_eq_true rfl)) dX6_go_49 ⟨Nat.le_of_ble_eq_true rfl, Nat.le_of_ble_eq_true rfl⟩) hP hD hS hA [1] [0] rfl rfl (by decide) (by decide) (fun r u H locs hp hP hD hS => ?_)
  have hp : r = 0 := hp
  subst hp
  refine lv_if_ne (tgt := 56) hx hb dX6_go_52 (by decide) (fun q => absurd (by decide +kernel) (q)) (fun _ => ?_)
  have hP9 := hP.sub (ws' := [(p0, .inr (5, [.ref p1, .int 0, v2, v3, v4, v5, v6, v7, v8, v9, v10, v11, v12, v13, v14])), (p1, .inr (2, [.int 1, v15, v16, .int 0, .int 1, v17, v18, v19, v20, v21, v22, v23, v24, v25]))]) [0, 1] rfl
  have hD9 := hD.sub (ws' := [(p0, .inr (5, [.ref p1, .int 0, v2, v3, v4, v5, v6, v7, v8, v9, v10, v11, v12, v13, v14])), (p1, .inr (2, [.int 1, v15, v16, .int 0, .int 1, v17, v18, v19, v20, v21, v22, v23, v24, v25]))]) [0, 1] (by decide) rfl
  exact W.vret hx hb hr (fun t ht hW => ⟨⟨(), rfl, trivial, by rw [ht]; exact hP9, hD9⟩, hS.F ht⟩) hS.2.2 dX6_go_55

set_option maxHeartbeats 4000000 in
set_option maxRecDepth 100000 in
theorem cX3_hasDepth_4 (l : Launch) (G : va_G) (k : Nat → ClassId) (p0 : Nat) (sz : Nat) : CMi l G k yX3_hasDepth wsX3_hasDepth ({ frames := 0, cells := 0, slots := 0, locals := 0 }) [.ref p0, .int (-1)] sz [] (fun r (u : Unit) => r = 0) (fun (u : Unit) => []) := by
  refine Met.ofW (cc := cX3_hasDepth) (maxL := 2) (ret := (some .boolean)) (by decide) rfl ?_
  intro p e s m args below meth c s₁ B hml hv
  obtain ⟨rfl, hsz, hP, hX, hD0, hZ0⟩ := hv
  have hx := B.exec
  have hb := B.bytes
  have hr := B.returns
  have hts := atoms_spec (ws := wsX3_hasDepth) B.pre
  have hown : s.vm.findClass RX3 = some m.cls := findClass_of_methodNamed B.named
  subst hsz
  have hD := hD0.self (sz := s.heap.size)
  have hZ := ZX.up hP hZ0
  generalize hAe : va_A [] s.heap.size = A at hD hZ ⊢
  have hA : ∀ q : Nat, s.heap.size ≤ q → A q := fun q h => by rw [← hAe]; exact Or.inr h
  have hS : va_S A s.heap s.heap [] := va_S.rf
  have hP : va_P G vwCl [] s.heap := hP
  have hl := lv_entry ([.ref p0, .int (-1)]) (n := 2) (Nat.le_of_ble_eq_true rfl)
  rw [lg_entry_eq]
  generalize (lg_sl ([.ref p0, .int (-1)]) ++ List.replicate (2 - (lg_sl ([.ref p0, .int (-1)])).length) Slot.unset).toArray = ls at hl ⊢
  have hl : lv_has ls 2 [(0, .ref p0), (1, .int (-1))] := hl
  refine lv_iload_n hx hb dX3_hasDepth_0 rfl (lv_at hl 1 rfl) ?_
  refine lv_if_lt (tgt := 16) hx hb dX3_hasDepth_1 (by decide) (fun _ => ?_) (fun q => absurd (by decide +kernel) (q))
  refine lv_iconst (v := 0) hx hb dX3_hasDepth_16 (by decide +kernel) ?_
  have hP9 := hP.sub (ws' := []) [] rfl
  have hD9 := hD.sub (ws' := []) [] (by decide) rfl
  exact W.zret (v := 0) hx hb hr (by decide +kernel) (fun t ht hW => ⟨⟨0, (), rfl, rfl, by rw [ht]; exact hP9, hD9⟩, hS.F ht⟩) hS.2.2 dX3_hasDepth_17

set_option maxHeartbeats 4000000 in
set_option maxRecDepth 100000 in
theorem cX6_go_1 (l : Launch) (G : va_G) (k : Nat → ClassId) (p0 : Nat) (p1 : Nat) (v2 : Value) (v3 : Value) (v4 : Value) (v5 : Value) (v6 : Value) (v7 : Value) (v8 : Value) (v9 : Value) (v10 : Value) (v11 : Value) (v12 : Value) (v13 : Value) (v14 : Value) (v15 : Value) (v16 : Value) (v17 : Value) (v18 : Value) (v19 : Value) (v20 : Value) (v21 : Value) (v22 : Value) (v23 : Value) (v24 : Value) (v25 : Value) (v26 : Value) (v27 : Value) (v28 : Value) (v29 : Value) (sz : Nat) : CMv l G k yX6_go wsX6_go ({ frames := 1, cells := 0, slots := 0, locals := 21 }) [.ref p0, .int 268435455, .int 0, .int (-1)] sz [(p0, .inr (5, [.ref p1, v2, v3, v4, v5, v6, v7, v8, v9, v10, v11, v12, v13, v14, v15])), (p1, .inr (2, [v16, v17, v18, v19, v20, v21, v22, v23, v24, v25, v26, v27, v28, v29]))] (fun (u : Unit) => True) (fun (u : Unit) => [(p0, .inr (5, [.ref p1, v2, v3, v4, v5, v6, v7, v8, v9, v10, v11, v12, v13, v14, v15])), (p1, .inr (2, [v16, v17, v18, v19, v20, v21, v22, v23, v24, v25, v26, v27, v28, v29]))]) := by
  refine Met.ofW (cc := cX6_go) (maxL := 7) (ret := none) (by decide) rfl ?_
  intro p e s m args below meth c s₁ B hml hv
  obtain ⟨rfl, hsz, hP, hX, hD0, hZ0⟩ := hv
  have hx := B.exec
  have hb := B.bytes
  have hr := B.returns
  have hts := atoms_spec (ws := wsX6_go) B.pre
  have hown : s.vm.findClass RX6 = some m.cls := findClass_of_methodNamed B.named
  subst hsz
  have hD := hD0.self (sz := s.heap.size)
  have hZ := ZX.up hP hZ0
  generalize hAe : va_A [(p0, .inr (5, [.ref p1, v2, v3, v4, v5, v6, v7, v8, v9, v10, v11, v12, v13, v14, v15])), (p1, .inr (2, [v16, v17, v18, v19, v20, v21, v22, v23, v24, v25, v26, v27, v28, v29]))] s.heap.size = A at hD hZ ⊢
  have hA : ∀ q : Nat, s.heap.size ≤ q → A q := fun q h => by rw [← hAe]; exact Or.inr h
  have hS : va_S A s.heap s.heap [] := va_S.rf
  have hP : va_P G vwCl [(p0, .inr (5, [.ref p1, v2, v3, v4, v5, v6, v7, v8, v9, v10, v11, v12, v13, v14, v15])), (p1, .inr (2, [v16, v17, v18, v19, v20, v21, v22, v23, v24, v25, v26, v27, v28, v29]))] s.heap := hP
  have hl := lv_entry ([.ref p0, .int 268435455, .int 0, .int (-1)]) (n := 7) (Nat.le_of_ble_eq_true rfl)
  rw [lg_entry_eq]
  generalize (lg_sl ([.ref p0, .int 268435455, .int 0, .int (-1)]) ++ List.replicate (7 - (lg_sl ([.ref p0, .int 268435455, .int 0, .int (-1)])).length) Slot.unset).toArray = ls at hl ⊢
  have hl : lv_has ls 7 [(0, .ref p0), (1, .int 268435455), (2, .int 0), (3, .int (-1))] := hl
  have h0w := hts (.initialized RX7) (by decide +kernel)
  have h1w := hts (.static yX7_depth) (by decide +kernel)
  have h2w := hts (.fieldLink RX6 9 "RopeTown$Search" "plan" "LRopeTown$Plan;") (by decide +kernel)
  have h3w : ∀ w ∈ wsX60, w ∈ wsX6_go := by decide +kernel
  have h4w := hts (.initialized RX3) (by decide +kernel)
  have h5w := hts (.instanceMethod yX3_hasDepth) (by decide +kernel)
  have h6w := hts (.selects RX3 yX3_hasDepth yX3_hasDepth) (by decide +kernel)
  refine lv_iconst (v := 0) hx hb dX6_go_0 (by decide +kernel) ?_
  refine lv_istore (lv' := [(4, .int 0), (0, .ref p0), (1, .int 268435455), (2, .int 0), (3, .int (-1))]) hx hb dX6_go_1 hl (by decide) rfl (fun ls hl => ?_)
  refine lv_iload_n hx hb dX6_go_3 rfl (lv_at hl 2 rfl) ?_
  refine cz_i (wr := [(p0, .inr (5, [.ref p1, v2, v3, v4, v5, v6, v7, v8, v9, v10, v11, v12, v13, v14, v15])), (p1, .inr (2, [v16, v17, v18, v19, v20, v21, v22, v23, v24, v25, v26, v27, v28, v29]))]) (va_runSN (As := [.int 268435455]) (rest := []) ⟨hx, hb, hml, hown, hts⟩ (cX7_depth_0 l G k s.heap.size) ⟨va_cnB 1 hts gX6_go_X7_depth_n122 rfl rfl rfl (nm_52 hX.2.2.1) h0w (by decide +kernel) ⟨Nat.le_of_ble_eq_true rfl, Nat.le_of_ble_eq_true rfl⟩, h1w, trivial⟩ (cz_preS hZ hS hX hP hD [] rfl rfl) rfl rfl hl.1 rfl (lv_room (Nat.le_of_ble_eq_true rfl)) dX6_go_4 ⟨Nat.le_of_ble_eq_true rfl, Nat.le_of_ble_eq_true rfl⟩) hP hD hS hA [] [0, 1] rfl rfl (by decide) (by decide) (fun r u H locs hp hP hD hS => ?_)
  have hp : r = 0 := hp
  subst hp
  refine lv_istore (lv' := [(5, .int 0), (4, .int 0), (0, .ref p0), (1, .int 268435455), (2, .int 0), (3, .int (-1))]) hx hb dX6_go_7 hl (by decide) rfl (fun ls hl => ?_)
  refine lv_aload_n hx hb dX6_go_9 rfl (lv_at hl 2 rfl) ?_
  refine va_get (D := G) (ci := 5) (v := .ref p1) (C := RX6) (T := TX6) (N := 15) (ref := RX6) hx hb hts h3w hown hX.1 hP 0 rfl rfl 0 (by decide) h2w (fun _ h9 => h9) rfl dX6_go_10 ?_
  refine lv_iload hx hb dX6_go_13 (lv_at hl 0 rfl) ?_
  refine lv_iload_n hx hb dX6_go_15 rfl (lv_at hl 5 rfl) ?_
  refine lv_iadd hx hb dX6_go_16 ?_
  refine cz_ti (w := (-1)) (by decide +kernel) ?_
  refine cz_i (wr := [(p0, .inr (5, [.ref p1, v2, v3, v4, v5, v6, v7, v8, v9, v10, v11, v12, v13, v14, v15])), (p1, .inr (2, [v16, v17, v18, v19, v20, v21, v22, v23, v24, v25, v26, v27, v28, v29]))]) (va_runVN (As := [.int (-1)]) (rest := []) ⟨hx, hb, hml, hown, hts⟩ (cX3_hasDepth_4 l G k p1 H.size) ⟨va_cnB 1 hts gX6_go_X3_hasDepth_n131 rfl rfl rfl (nm_54 hX.2.2.1) h4w (by decide +kernel) ⟨Nat.le_of_ble_eq_true rfl, Nat.le_of_ble_eq_true rfl⟩, h5w, h6w⟩ (cz_preV hZ hS hX hP hD [] rfl rfl (ci := 2) (q0 := 1) rfl rfl) rfl rfl hl.1 rfl (lv_room (Nat.le_of_ble_eq_true rfl)) dX6_go_17 ⟨Nat.le_of_ble_eq_true rfl, Nat.le_of_ble_eq_true rfl⟩) hP hD hS hA [] [0, 1] rfl rfl (by decide) (by decide) (fun r u H locs hp hP hD hS => ?_)
  have hp : r = 0 := hp
  subst hp
  refine lv_if_eq (tgt := 104) hx hb dX6_go_20 (by decide) (fun _ => ?_) (fun q => absurd (by decide +kernel) (q))
  have hP9 := hP.sub (ws' := [(p0, .inr (5, [.ref p1, v2, v3, v4, v5, v6, v7, v8, v9, v10, v11, v12, v13, v14, v15])), (p1, .inr (2, [v16, v17, v18, v19, v20, v21, v22, v23, v24, v25, v26, v27, v28, v29]))]) [0, 1] rfl
  have hD9 := hD.sub (ws' := [(p0, .inr (5, [.ref p1, v2, v3, v4, v5, v6, v7, v8, v9, v10, v11, v12, v13, v14, v15])), (p1, .inr (2, [v16, v17, v18, v19, v20, v21, v22, v23, v24, v25, v26, v27, v28, v29]))]) [0, 1] (by decide) rfl
  exact W.vret hx hb hr (fun t ht hW => ⟨⟨(), rfl, trivial, by rw [ht]; exact hP9, hD9⟩, hS.F ht⟩) hS.2.2 dX6_go_104

set_option maxHeartbeats 4000000 in
set_option maxRecDepth 100000 in
theorem cX6_depart_0 (l : Launch) (G : va_G) (k : Nat → ClassId) (p0 : Nat) (p1 : Nat) (v2 : Value) (v3 : Value) (v4 : Value) (v5 : Value) (v6 : Value) (v7 : Value) (v8 : Value) (v9 : Value) (v10 : Value) (v11 : Value) (v12 : Value) (v13 : Value) (p14 : Nat) (v15 : Value) (v16 : Value) (v17 : Value) (v18 : Value) (v19 : Value) (v20 : Value) (v21 : Value) (v22 : Value) (v23 : Value) (p24 : Nat) (v25 : Value) (v26 : Value) (v27 : Value) (v28 : Value) (v29 : Value) (sz : Nat) : CMv l G k yX6_depart wsX6_depart ({ frames := 2, cells := 0, slots := 0, locals := 49 }) [.ref p0, .int 268435455, .int 0, .int 0] sz [(p0, .inr (5, [.ref p1, .int 0, v2, v3, v4, v5, v6, v7, v8, v9, v10, v11, v12, v13, .ref p14])), (p14, .inl (k 0, 1641, .inl (fun _ => 0))), (p1, .inr (2, [.int 1, v15, v16, .int 0, .int 1, v17, v18, v19, v20, v21, v22, v23, .ref p24, v25])), (p24, .inr (4, [v26, v27, v28, v29, .int 0]))] (fun (u : Unit) => True) (fun (u : Unit) => [(p14, .inl (k 0, 1641, .inl (upd (fun _ => 0) (0 : Int32).toNatClampNeg 3))), (p24, .inr (4, [v26, v27, v28, v29, .int 0])), (p0, .inr (5, [.ref p1, .int 0, v2, v3, v4, v5, v6, v7, v8, v9, v10, v11, v12, v13, .ref p14])), (p1, .inr (2, [.int 1, v15, v16, .int 0, .int 1, v17, v18, v19, v20, v21, v22, v23, .ref p24, v25]))]) := by
  refine Met.ofW (cc := cX6_depart) (maxL := 8) (ret := none) (by decide) rfl ?_
  intro p e s m args below meth c s₁ B hml hv
  obtain ⟨rfl, hsz, hP, hX, hD0, hZ0⟩ := hv
  have hx := B.exec
  have hb := B.bytes
  have hr := B.returns
  have hts := atoms_spec (ws := wsX6_depart) B.pre
  have hown : s.vm.findClass RX6 = some m.cls := findClass_of_methodNamed B.named
  subst hsz
  have hD := hD0.self (sz := s.heap.size)
  have hZ := ZX.up hP hZ0
  generalize hAe : va_A [(p0, .inr (5, [.ref p1, .int 0, v2, v3, v4, v5, v6, v7, v8, v9, v10, v11, v12, v13, .ref p14])), (p14, .inl (k 0, 1641, .inl (fun _ => 0))), (p1, .inr (2, [.int 1, v15, v16, .int 0, .int 1, v17, v18, v19, v20, v21, v22, v23, .ref p24, v25])), (p24, .inr (4, [v26, v27, v28, v29, .int 0]))] s.heap.size = A at hD hZ ⊢
  have hA : ∀ q : Nat, s.heap.size ≤ q → A q := fun q h => by rw [← hAe]; exact Or.inr h
  have hS : va_S A s.heap s.heap [] := va_S.rf
  have hP : va_P G vwCl [(p0, .inr (5, [.ref p1, .int 0, v2, v3, v4, v5, v6, v7, v8, v9, v10, v11, v12, v13, .ref p14])), (p14, .inl (k 0, 1641, .inl (fun _ => 0))), (p1, .inr (2, [.int 1, v15, v16, .int 0, .int 1, v17, v18, v19, v20, v21, v22, v23, .ref p24, v25])), (p24, .inr (4, [v26, v27, v28, v29, .int 0]))] s.heap := hP
  have hl := lv_entry ([.ref p0, .int 268435455, .int 0, .int 0]) (n := 8) (Nat.le_of_ble_eq_true rfl)
  rw [lg_entry_eq]
  generalize (lg_sl ([.ref p0, .int 268435455, .int 0, .int 0]) ++ List.replicate (8 - (lg_sl ([.ref p0, .int 268435455, .int 0, .int 0])).length) Slot.unset).toArray = ls at hl ⊢
  have hl : lv_has ls 8 [(0, .ref p0), (1, .int 268435455), (2, .int 0), (3, .int 0)] := hl
  have h0w := hts (.initialized RX7) (by decide +kernel)
  have h1w := hts (.static yX7_depth) (by decide +kernel)
  have h2w := hts (.fieldLink RX6 57 "RopeTown$Search" "verdicts" "[I") (by decide +kernel)
  have h3w : ∀ w ∈ wsX60, w ∈ wsX6_depart := by decide +kernel
  have h4w := hts (.fieldLink RX6 9 "RopeTown$Search" "plan" "LRopeTown$Plan;") (by decide +kernel)
  have h5w := hts (.initialized RX3) (by decide +kernel)
  have h6w := hts (.instanceMethod yX3_brokenRule) (by decide +kernel)
  have h7w := hts (.selects RX3 yX3_brokenRule yX3_brokenRule) (by decide +kernel)
  refine lv_iload_n hx hb dX6_depart_0 rfl (lv_at hl 2 rfl) ?_
  refine lv_bipush (v := 12) hx hb dX6_depart_1 (by decide +kernel) ?_
  refine lv_imul hx hb dX6_depart_3 ?_
  refine cz_ti (w := 0) (by decide +kernel) ?_
  refine lv_iload_n hx hb dX6_depart_4 rfl (lv_at hl 1 rfl) ?_
  refine cz_i (wr := [(p0, .inr (5, [.ref p1, .int 0, v2, v3, v4, v5, v6, v7, v8, v9, v10, v11, v12, v13, .ref p14])), (p14, .inl (k 0, 1641, .inl (fun _ => 0))), (p1, .inr (2, [.int 1, v15, v16, .int 0, .int 1, v17, v18, v19, v20, v21, v22, v23, .ref p24, v25])), (p24, .inr (4, [v26, v27, v28, v29, .int 0]))]) (va_runSN (As := [.int 268435455]) (rest := [.int 0]) ⟨hx, hb, hml, hown, hts⟩ (cX7_depth_0 l G k s.heap.size) ⟨va_cnB 1 hts gX6_depart_X7_depth_n122 rfl rfl rfl (nm_52 hX.2.2.1) h0w (by decide +kernel) ⟨Nat.le_of_ble_eq_true rfl, Nat.le_of_ble_eq_true rfl⟩, h1w, trivial⟩ (cz_preS hZ hS hX hP hD [] rfl rfl) rfl rfl hl.1 rfl (lv_room (Nat.le_of_ble_eq_true rfl)) dX6_depart_5 ⟨Nat.le_of_ble_eq_true rfl, Nat.le_of_ble_eq_true rfl⟩) hP hD hS hA [] [0, 1, 2, 3] rfl rfl (by decide) (by decide) (fun r u H locs hp hP hD hS => ?_)
  have hp : r = 0 := hp
  subst hp
  refine lv_iadd hx hb dX6_depart_8 ?_
  refine cz_ti (w := 0) (by decide +kernel) ?_
  refine lv_istore (lv' := [(4, .int 0), (0, .ref p0), (1, .int 268435455), (2, .int 0), (3, .int 0)]) hx hb dX6_depart_9 hl (by decide) rfl (fun ls hl => ?_)
  refine lv_iload hx hb dX6_depart_11 (lv_at hl 0 rfl) ?_
  refine lv_iconst (v := 4) hx hb dX6_depart_13 (by decide +kernel) ?_
  refine lv_ishr hx hb dX6_depart_14 ?_
  refine cz_ti (w := 0) (by decide +kernel) ?_
  refine lv_istore (lv' := [(5, .int 0), (4, .int 0), (0, .ref p0), (1, .int 268435455), (2, .int 0), (3, .int 0)]) hx hb dX6_depart_15 hl (by decide) rfl (fun ls hl => ?_)
  refine lv_iconst (v := 2) hx hb dX6_depart_17 (by decide +kernel) ?_
  refine lv_iload hx hb dX6_depart_18 (lv_at hl 1 rfl) ?_
  refine lv_bipush (v := 15) hx hb dX6_depart_20 (by decide +kernel) ?_
  refine lv_iand hx hb dX6_depart_22 ?_
  refine cz_ti (w := 0) (by decide +kernel) ?_
  refine lv_imul hx hb dX6_depart_23 ?_
  refine cz_ti (w := 0) (by decide +kernel) ?_
  refine lv_istore (lv' := [(6, .int 0), (5, .int 0), (4, .int 0), (0, .ref p0), (1, .int 268435455), (2, .int 0), (3, .int 0)]) hx hb dX6_depart_24 hl (by decide) rfl (fun ls hl => ?_)
  refine lv_iload hx hb dX6_depart_26 (lv_at hl 1 rfl) ?_
  refine lv_aload_n hx hb dX6_depart_28 rfl (lv_at hl 3 rfl) ?_
  refine va_get (D := G) (ci := 5) (v := .ref p14) (C := RX6) (T := TX6) (N := 15) (ref := RX6) hx hb hts h3w hown hX.1 hP 0 rfl rfl 14 (by decide) h2w (fun _ h9 => h9) rfl dX6_depart_29 ?_
  refine va_alen (v := 1641) hx hb hX.1 hP 1 0 rfl rfl (show Int32.ofNat 1641 = 1641 by decide +kernel) dX6_depart_32 ?_
  refine lv_icmp_lt (tgt := 37) hx hb dX6_depart_33 (by decide) (fun _ => ?_) (fun q => absurd (by decide +kernel) (q))
  refine lv_aload_n hx hb dX6_depart_37 rfl (lv_at hl 3 rfl) ?_
  refine va_get (D := G) (ci := 5) (v := .ref p14) (C := RX6) (T := TX6) (N := 15) (ref := RX6) hx hb hts h3w hown hX.1 hP 0 rfl rfl 14 (by decide) h2w (fun _ h9 => h9) rfl dX6_depart_38 ?_
  refine lv_iload hx hb dX6_depart_41 (lv_at hl 1 rfl) ?_
  refine va_iald hx hb hX.1 hP 1 0 rfl rfl (by unfold vp_in; decide +kernel) dX6_depart_43 ?_
  refine cz_ti (w := 0) (by rfl) ?_
  refine lv_iload hx hb dX6_depart_44 (lv_at hl 0 rfl) ?_
  refine lv_iushr (v := 0) hx hb dX6_depart_46 (by decide +kernel) ?_
  refine lv_iconst (v := 1) hx hb dX6_depart_47 (by decide +kernel) ?_
  refine lv_iand hx hb dX6_depart_48 ?_
  refine cz_ti (w := 0) (by decide +kernel) ?_
  refine lv_if_ne (tgt := 108) hx hb dX6_depart_49 (by decide) (fun q => absurd (by decide +kernel) (q)) (fun _ => ?_)
  refine lv_aload_n hx hb dX6_depart_52 rfl (lv_at hl 3 rfl) ?_
  refine va_get (D := G) (ci := 5) (v := .ref p1) (C := RX6) (T := TX6) (N := 15) (ref := RX6) hx hb hts h3w hown hX.1 hP 0 rfl rfl 0 (by decide) h4w (fun _ h9 => h9) rfl dX6_depart_53 ?_
  refine lv_iload_n hx hb dX6_depart_56 rfl (lv_at hl 4 rfl) ?_
  refine lv_iconst (v := 0) hx hb dX6_depart_57 (by decide +kernel) ?_
  refine cz_i (wr := [(p0, .inr (5, [.ref p1, .int 0, v2, v3, v4, v5, v6, v7, v8, v9, v10, v11, v12, v13, .ref p14])), (p14, .inl (k 0, 1641, .inl (fun _ => 0)))]) (va_runVN (As := [.int 268435455, .int 0]) (rest := []) ⟨hx, hb, hml, hown, hts⟩ (cX3_brokenRule_0 l G k p1 (.int 1) v15 v16 (.int 0) (.int 1) v17 v18 v19 v20 v21 v22 v23 p24 v25 v26 v27 v28 v29 H.size) ⟨va_cnB 2 hts gX6_depart_X3_brokenRule_n125 rfl rfl rfl (nm_53 hX.2.2.1) h5w (by decide +kernel) ⟨Nat.le_of_ble_eq_true rfl, Nat.le_of_ble_eq_true rfl⟩, h6w, h7w⟩ (cz_preV hZ hS hX hP hD [2, 3] rfl rfl (ci := 2) (q0 := 2) rfl rfl) rfl rfl hl.1 rfl (lv_room (Nat.le_of_ble_eq_true rfl)) dX6_depart_58 ⟨Nat.le_of_ble_eq_true rfl, Nat.le_of_ble_eq_true rfl⟩) hP hD hS hA [2, 3] [0, 1] rfl rfl (by decide) (by decide) (fun r u H locs hp hP hD hS => ?_)
  have hp : r = (-1) := hp
  subst hp
  refine lv_iconst (v := (-1)) hx hb dX6_depart_61 (by decide +kernel) ?_
  refine lv_icmp_ne (tgt := 82) hx hb dX6_depart_62 (by decide) (fun q => absurd (by decide +kernel) (q)) (fun _ => ?_)
  refine lv_aload_n hx hb dX6_depart_65 rfl (lv_at hl 3 rfl) ?_
  refine va_get (D := G) (ci := 5) (v := .ref p1) (C := RX6) (T := TX6) (N := 15) (ref := RX6) hx hb hts h3w hown hX.1 hP 0 rfl rfl 0 (by decide) h4w (fun _ h9 => h9) rfl dX6_depart_66 ?_
  refine lv_iload_n hx hb dX6_depart_69 rfl (lv_at hl 4 rfl) ?_
  refine lv_iconst (v := 1) hx hb dX6_depart_70 (by decide +kernel) ?_
  refine cz_i (wr := [(p0, .inr (5, [.ref p1, .int 0, v2, v3, v4, v5, v6, v7, v8, v9, v10, v11, v12, v13, .ref p14])), (p14, .inl (k 0, 1641, .inl (fun _ => 0)))]) (va_runVN (As := [.int 268435455, .int 1]) (rest := []) ⟨hx, hb, hml, hown, hts⟩ (cX3_brokenRule_1 l G k p1 (.int 1) v15 v16 (.int 0) (.int 1) v17 v18 v19 v20 v21 v22 v23 p24 v25 v26 v27 v28 v29 H.size) ⟨va_cnB 2 hts gX6_depart_X3_brokenRule_n125 rfl rfl rfl (nm_53 hX.2.2.1) h5w (by decide +kernel) ⟨Nat.le_of_ble_eq_true rfl, Nat.le_of_ble_eq_true rfl⟩, h6w, h7w⟩ (cz_preV hZ hS hX hP hD [2, 3] rfl rfl (ci := 2) (q0 := 2) rfl rfl) rfl rfl hl.1 rfl (lv_room (Nat.le_of_ble_eq_true rfl)) dX6_depart_71 ⟨Nat.le_of_ble_eq_true rfl, Nat.le_of_ble_eq_true rfl⟩) hP hD hS hA [2, 3] [0, 1] rfl rfl (by decide) (by decide) (fun r u H locs hp hP hD hS => ?_)
  have hp : r = (-1) := hp
  subst hp
  refine lv_iconst (v := (-1)) hx hb dX6_depart_74 (by decide +kernel) ?_
  refine lv_icmp_ne (tgt := 82) hx hb dX6_depart_75 (by decide) (fun q => absurd (by decide +kernel) (q)) (fun _ => ?_)
  refine lv_iconst (v := 1) hx hb dX6_depart_78 (by decide +kernel) ?_
  refine lv_goto (tgt := 83) hx hb dX6_depart_79 (by decide) ?_
  refine lv_istore (lv' := [(7, .int 1), (6, .int 0), (5, .int 0), (4, .int 0), (0, .ref p0), (1, .int 268435455), (2, .int 0), (3, .int 0)]) hx hb dX6_depart_83 hl (by decide) rfl (fun ls hl => ?_)
  refine lv_aload_n hx hb dX6_depart_85 rfl (lv_at hl 4 rfl) ?_
  refine va_get (D := G) (ci := 5) (v := .ref p14) (C := RX6) (T := TX6) (N := 15) (ref := RX6) hx hb hts h3w hown hX.1 hP 0 rfl rfl 14 (by decide) h2w (fun _ h9 => h9) rfl dX6_depart_86 ?_
  refine lv_iload hx hb dX6_depart_89 (lv_at hl 2 rfl) ?_
  refine lv_dup2_11 hx hb dX6_depart_91 rfl rfl ?_
  refine va_iald hx hb hX.1 hP 1 0 rfl rfl (by unfold vp_in; decide +kernel) dX6_depart_92 ?_
  refine cz_ti (w := 0) (by rfl) ?_
  refine lv_iload hx hb dX6_depart_93 (lv_at hl 0 rfl) ?_
  refine lv_if_eq (tgt := 102) hx hb dX6_depart_95 (by decide) (fun q => absurd (q) (by decide +kernel)) (fun _ => ?_)
  refine lv_iconst (v := 3) hx hb dX6_depart_98 (by decide +kernel) ?_
  refine lv_goto (tgt := 103) hx hb dX6_depart_99 (by decide) ?_
  refine lv_iload hx hb dX6_depart_103 (lv_at hl 1 rfl) ?_
  refine lv_ishl hx hb dX6_depart_105 ?_
  refine cz_ti (w := 3) (by decide +kernel) ?_
  refine lv_ior hx hb dX6_depart_106 ?_
  refine cz_ti (w := 3) (by decide +kernel) ?_
  refine va_iast hx hb hX.1 hP hD hS 1 0 rfl rfl (by unfold vp_in; decide +kernel) dX6_depart_107 (fun H locs hP hD hS => ?_)
  refine lv_aload_n hx hb dX6_depart_108 rfl (lv_at hl 4 rfl) ?_
  refine va_get (D := G) (ci := 5) (v := .ref p14) (C := RX6) (T := TX6) (N := 15) (ref := RX6) hx hb hts h3w hown hX.1 hP 0 rfl rfl 14 (by decide) h2w (fun _ h9 => h9) rfl dX6_depart_109 ?_
  refine lv_iload hx hb dX6_depart_112 (lv_at hl 2 rfl) ?_
  refine va_iald hx hb hX.1 hP 1 0 rfl rfl (by unfold vp_in; decide +kernel) dX6_depart_114 ?_
  refine cz_ti (w := 3) (by rfl) ?_
  refine lv_iload hx hb dX6_depart_115 (lv_at hl 1 rfl) ?_
  refine lv_iushr (v := 3) hx hb dX6_depart_117 (by decide +kernel) ?_
  refine lv_iconst (v := 2) hx hb dX6_depart_118 (by decide +kernel) ?_
  refine lv_iand hx hb dX6_depart_119 ?_
  refine cz_ti (w := 2) (by decide +kernel) ?_
  refine lv_if_eq (tgt := 137) hx hb dX6_depart_120 (by decide) (fun q => absurd (q) (by decide +kernel)) (fun _ => ?_)
  refine lv_aload_n hx hb dX6_depart_123 rfl (lv_at hl 4 rfl) ?_
  refine lv_iload_n hx hb dX6_depart_124 rfl (lv_at hl 5 rfl) ?_
  refine lv_iload_n hx hb dX6_depart_125 rfl (lv_at hl 7 rfl) ?_
  refine lv_iconst (v := 1) hx hb dX6_depart_126 (by decide +kernel) ?_
  refine cz_v (wr := [(p14, .inl (k 0, 1641, .inl (upd (fun _ => 0) (0 : Int32).toNatClampNeg 3))), (p24, .inr (4, [v26, v27, v28, v29, .int 0]))]) (va_runV (As := [.int 268435455, .int 0, .int 1]) (rest := []) ⟨hx, hb, hml, hown, hts⟩ (cX6_go_0 l G k p0 p1 v2 v3 v4 v5 v6 v7 v8 v9 v10 v11 v12 v13 (.ref p14) v15 v16 v17 v18 v19 v20 v21 v22 v23 (.ref p24) v25 H.size) (cwV 3 hts gX6_depart_X6_go rfl rfl rfl (by decide +kernel) ⟨Nat.le_of_ble_eq_true rfl, Nat.le_of_ble_eq_true rfl⟩) (cz_preV hZ hS hX hP hD [0, 2] rfl rfl (ci := 5) (q0 := 0) rfl rfl) rfl rfl hl.1 rfl (lv_room (Nat.le_of_ble_eq_true rfl)) dX6_depart_127 ⟨Nat.le_of_ble_eq_true rfl, Nat.le_of_ble_eq_true rfl⟩) hP hD hS hA [0, 2] [1, 3] rfl rfl (by decide) (by decide) (fun u H locs hp hP hD hS => ?_)
  refine lv_aload_n hx hb dX6_depart_130 rfl (lv_at hl 4 rfl) ?_
  refine lv_iload_n hx hb dX6_depart_131 rfl (lv_at hl 5 rfl) ?_
  refine lv_iload_n hx hb dX6_depart_132 rfl (lv_at hl 7 rfl) ?_
  refine lv_iconst (v := (-1)) hx hb dX6_depart_133 (by decide +kernel) ?_
  refine cz_v (wr := [(p14, .inl (k 0, 1641, .inl (upd (fun _ => 0) (0 : Int32).toNatClampNeg 3))), (p24, .inr (4, [v26, v27, v28, v29, .int 0]))]) (va_runV (As := [.int 268435455, .int 0, .int (-1)]) (rest := []) ⟨hx, hb, hml, hown, hts⟩ (cX6_go_1 l G k p0 p1 (.int 0) v2 v3 v4 v5 v6 v7 v8 v9 v10 v11 v12 v13 (.ref p14) (.int 1) v15 v16 (.int 0) (.int 1) v17 v18 v19 v20 v21 v22 v23 (.ref p24) v25 H.size) (cwV 3 hts gX6_depart_X6_go rfl rfl rfl (by decide +kernel) ⟨Nat.le_of_ble_eq_true rfl, Nat.le_of_ble_eq_true rfl⟩) (cz_preV hZ hS hX hP hD [2, 3] rfl rfl (ci := 5) (q0 := 2) rfl rfl) rfl rfl hl.1 rfl (lv_room (Nat.le_of_ble_eq_true rfl)) dX6_depart_134 ⟨Nat.le_of_ble_eq_true rfl, Nat.le_of_ble_eq_true rfl⟩) hP hD hS hA [2, 3] [0, 1] rfl rfl (by decide) (by decide) (fun u H locs hp hP hD hS => ?_)
  obtain ⟨hP, hD⟩ : va_P G vwCl [(p14, .inl (k 0, 1641, .inl (upd (fun _ => 0) (0 : Int32).toNatClampNeg 3))), (p24, .inr (4, [v26, v27, v28, v29, .int 0])), (p0, .inr (5, [.ref p1, .int 0, v2, v3, v4, v5, v6, v7, v8, v9, v10, v11, v12, v13, .ref p14])), (p1, .inr (2, [.int 1, v15, v16, .int 0, .int 1, v17, v18, v19, v20, v21, v22, v23, .ref p24, v25]))] H ∧ va_D A [(p14, .inl (k 0, 1641, .inl (upd (fun _ => 0) (0 : Int32).toNatClampNeg 3))), (p24, .inr (4, [v26, v27, v28, v29, .int 0])), (p0, .inr (5, [.ref p1, .int 0, v2, v3, v4, v5, v6, v7, v8, v9, v10, v11, v12, v13, .ref p14])), (p1, .inr (2, [.int 1, v15, v16, .int 0, .int 1, v17, v18, v19, v20, v21, v22, v23, .ref p24, v25]))] := ⟨hP, hD⟩
  have hP9 := hP.sub (ws' := [(p14, .inl (k 0, 1641, .inl (upd (fun _ => 0) (0 : Int32).toNatClampNeg 3))), (p24, .inr (4, [v26, v27, v28, v29, .int 0])), (p0, .inr (5, [.ref p1, .int 0, v2, v3, v4, v5, v6, v7, v8, v9, v10, v11, v12, v13, .ref p14])), (p1, .inr (2, [.int 1, v15, v16, .int 0, .int 1, v17, v18, v19, v20, v21, v22, v23, .ref p24, v25]))]) [0, 1, 2, 3] rfl
  have hD9 := hD.sub (ws' := [(p14, .inl (k 0, 1641, .inl (upd (fun _ => 0) (0 : Int32).toNatClampNeg 3))), (p24, .inr (4, [v26, v27, v28, v29, .int 0])), (p0, .inr (5, [.ref p1, .int 0, v2, v3, v4, v5, v6, v7, v8, v9, v10, v11, v12, v13, .ref p14])), (p1, .inr (2, [.int 1, v15, v16, .int 0, .int 1, v17, v18, v19, v20, v21, v22, v23, .ref p24, v25]))]) [0, 1, 2, 3] (by decide) rfl
  exact W.vret hx hb hr (fun t ht hW => ⟨⟨(), rfl, trivial, by rw [ht]; exact hP9, hD9⟩, hS.F ht⟩) hS.2.2 dX6_depart_137

set_option maxHeartbeats 4000000 in
set_option maxRecDepth 100000 in
theorem cX6_lade_0 (l : Launch) (G : va_G) (k : Nat → ClassId) (p0 : Nat) (p1 : Nat) (v2 : Value) (v3 : Value) (v4 : Value) (v5 : Value) (v6 : Value) (v7 : Value) (v8 : Value) (v9 : Value) (v10 : Value) (v11 : Value) (v12 : Value) (p13 : Nat) (v14 : Value) (v15 : Value) (v16 : Value) (v17 : Value) (v18 : Value) (v19 : Value) (v20 : Value) (v21 : Value) (p22 : Nat) (v23 : Value) (v24 : Value) (v25 : Value) (v26 : Value) (v27 : Value) (sz : Nat) : CMv l G k yX6_lade wsX6_lade ({ frames := 3, cells := 0, slots := 0, locals := 76 }) [.ref p0, .int 0, .int 268435455, .int 0, .int 0, .int 0] sz [(p0, .inr (5, [.ref p1, .int 0, .int 0, v2, v3, v4, v5, v6, v7, v8, v9, v10, v11, v12, .ref p13])), (p1, .inr (2, [.int 1, v14, v15, .int 0, .int 1, v16, v17, .int 0, v18, v19, v20, v21, .ref p22, v23])), (p13, .inl (k 0, 1641, .inl (fun _ => 0))), (p22, .inr (4, [v24, v25, v26, v27, .int 0]))] (fun (u : Unit) => True) (fun (u : Unit) => [(p13, .inl (k 0, 1641, .inl (upd (fun _ => 0) (0 : Int32).toNatClampNeg 3))), (p22, .inr (4, [v24, v25, v26, v27, .int 0])), (p0, .inr (5, [.ref p1, .int 0, .int 0, v2, v3, v4, v5, v6, v7, v8, v9, v10, v11, v12, .ref p13])), (p1, .inr (2, [.int 1, v14, v15, .int 0, .int 1, v16, v17, .int 0, v18, v19, v20, v21, .ref p22, v23]))]) := by
  refine Met.ofW (cc := cX6_lade) (maxL := 8) (ret := none) (by decide) rfl ?_
  intro p e s m args below meth c s₁ B hml hv
  obtain ⟨rfl, hsz, hP, hX, hD0, hZ0⟩ := hv
  have hx := B.exec
  have hb := B.bytes
  have hr := B.returns
  have hts := atoms_spec (ws := wsX6_lade) B.pre
  have hown : s.vm.findClass RX6 = some m.cls := findClass_of_methodNamed B.named
  subst hsz
  have hD := hD0.self (sz := s.heap.size)
  have hZ := ZX.up hP hZ0
  generalize hAe : va_A [(p0, .inr (5, [.ref p1, .int 0, .int 0, v2, v3, v4, v5, v6, v7, v8, v9, v10, v11, v12, .ref p13])), (p1, .inr (2, [.int 1, v14, v15, .int 0, .int 1, v16, v17, .int 0, v18, v19, v20, v21, .ref p22, v23])), (p13, .inl (k 0, 1641, .inl (fun _ => 0))), (p22, .inr (4, [v24, v25, v26, v27, .int 0]))] s.heap.size = A at hD hZ ⊢
  have hA : ∀ q : Nat, s.heap.size ≤ q → A q := fun q h => by rw [← hAe]; exact Or.inr h
  have hS : va_S A s.heap s.heap [] := va_S.rf
  have hP : va_P G vwCl [(p0, .inr (5, [.ref p1, .int 0, .int 0, v2, v3, v4, v5, v6, v7, v8, v9, v10, v11, v12, .ref p13])), (p1, .inr (2, [.int 1, v14, v15, .int 0, .int 1, v16, v17, .int 0, v18, v19, v20, v21, .ref p22, v23])), (p13, .inl (k 0, 1641, .inl (fun _ => 0))), (p22, .inr (4, [v24, v25, v26, v27, .int 0]))] s.heap := hP
  have hl := lv_entry ([.ref p0, .int 0, .int 268435455, .int 0, .int 0, .int 0]) (n := 8) (Nat.le_of_ble_eq_true rfl)
  rw [lg_entry_eq]
  generalize (lg_sl ([.ref p0, .int 0, .int 268435455, .int 0, .int 0, .int 0]) ++ List.replicate (8 - (lg_sl ([.ref p0, .int 0, .int 268435455, .int 0, .int 0, .int 0])).length) Slot.unset).toArray = ls at hl ⊢
  have hl : lv_has ls 8 [(0, .ref p0), (1, .int 0), (2, .int 268435455), (3, .int 0), (4, .int 0), (5, .int 0)] := hl
  have h0w := hts (.fieldLink RX6 19 "RopeTown$Search" "isSpent" "Z") (by decide +kernel)
  have h1w : ∀ w ∈ wsX60, w ∈ wsX6_lade := by decide +kernel
  have h2w := hts (.fieldLink RX6 9 "RopeTown$Search" "plan" "LRopeTown$Plan;") (by decide +kernel)
  have h3w : ∀ w ∈ wsX30, w ∈ wsX6_lade := by decide +kernel
  refine lv_aload_n hx hb dX6_lade_0 rfl (lv_at hl 0 rfl) ?_
  refine va_get (D := G) (ci := 5) (v := .int 0) (C := RX6) (T := TX6) (N := 15) (ref := RX6) hx hb hts h1w hown hX.1 hP 0 rfl rfl 2 (by decide) h0w (fun _ h9 => h9) rfl dX6_lade_1 ?_
  refine lv_if_eq (tgt := 8) hx hb dX6_lade_4 (by decide) (fun _ => ?_) (fun q => absurd (by decide +kernel) (q))
  refine lv_iload_n hx hb dX6_lade_8 rfl (lv_at hl 1 rfl) ?_
  refine lv_aload_n hx hb dX6_lade_9 rfl (lv_at hl 0 rfl) ?_
  refine va_get (D := G) (ci := 5) (v := .ref p1) (C := RX6) (T := TX6) (N := 15) (ref := RX6) hx hb hts h1w hown hX.1 hP 0 rfl rfl 0 (by decide) h2w (fun _ h9 => h9) rfl dX6_lade_10 ?_
  refine va_getN (D := G) (ci := 2) (v := .int 0) (C := RX3) (T := TX3) (N := 14) (ref := RX3) (host := RX9) hx hb hts h3w hown hX.1 hP 1 rfl rfl 7 (by decide) (nf_17 hX.2.2.1) (fun _ h9 => h9) rfl dX6_lade_13 ?_
  refine lv_icmp_ge (tgt := 25) hx hb dX6_lade_16 (by decide) (fun _ => ?_) (fun q => absurd (by decide +kernel) (q))
  refine lv_aload_n hx hb dX6_lade_25 rfl (lv_at hl 0 rfl) ?_
  refine lv_iload_n hx hb dX6_lade_26 rfl (lv_at hl 2 rfl) ?_
  refine lv_iload_n hx hb dX6_lade_27 rfl (lv_at hl 3 rfl) ?_
  refine lv_iload hx hb dX6_lade_28 (lv_at hl 4 rfl) ?_
  refine lv_iload hx hb dX6_lade_30 (lv_at hl 5 rfl) ?_
  refine lv_isub hx hb dX6_lade_32 ?_
  refine cz_ti (w := 0) (by decide +kernel) ?_
  refine cz_v (wr := []) (va_runV (As := [.int 268435455, .int 0, .int 0]) (rest := []) ⟨hx, hb, hml, hown, hts⟩ (cX6_depart_0 l G k p0 p1 (.int 0) v2 v3 v4 v5 v6 v7 v8 v9 v10 v11 v12 p13 v14 v15 v16 v17 (.int 0) v18 v19 v20 v21 p22 v23 v24 v25 v26 v27 s.heap.size) (cwV 3 hts gX6_lade_X6_depart rfl rfl rfl (by decide +kernel) ⟨Nat.le_of_ble_eq_true rfl, Nat.le_of_ble_eq_true rfl⟩) (cz_preV hZ hS hX hP hD [0, 2, 1, 3] rfl rfl (ci := 5) (q0 := 0) rfl rfl) rfl rfl hl.1 rfl (lv_room (Nat.le_of_ble_eq_true rfl)) dX6_lade_33 ⟨Nat.le_of_ble_eq_true rfl, Nat.le_of_ble_eq_true rfl⟩) hP hD hS hA [0, 2, 1, 3] [] rfl rfl (by decide) (by decide) (fun u H locs hp hP hD hS => ?_)
  have hP9 := hP.sub (ws' := [(p13, .inl (k 0, 1641, .inl (upd (fun _ => 0) (0 : Int32).toNatClampNeg 3))), (p22, .inr (4, [v24, v25, v26, v27, .int 0])), (p0, .inr (5, [.ref p1, .int 0, .int 0, v2, v3, v4, v5, v6, v7, v8, v9, v10, v11, v12, .ref p13])), (p1, .inr (2, [.int 1, v14, v15, .int 0, .int 1, v16, v17, .int 0, v18, v19, v20, v21, .ref p22, v23]))]) [0, 1, 2, 3] rfl
  have hD9 := hD.sub (ws' := [(p13, .inl (k 0, 1641, .inl (upd (fun _ => 0) (0 : Int32).toNatClampNeg 3))), (p22, .inr (4, [v24, v25, v26, v27, .int 0])), (p0, .inr (5, [.ref p1, .int 0, .int 0, v2, v3, v4, v5, v6, v7, v8, v9, v10, v11, v12, .ref p13])), (p1, .inr (2, [.int 1, v14, v15, .int 0, .int 1, v16, v17, .int 0, v18, v19, v20, v21, .ref p22, v23]))]) [0, 1, 2, 3] (by decide) rfl
  exact W.vret hx hb hr (fun t ht hW => ⟨⟨(), rfl, trivial, by rw [ht]; exact hP9, hD9⟩, hS.F ht⟩) hS.2.2 dX6_lade_36

