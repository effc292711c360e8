set_option maxHeartbeats 4000000 in
set_option maxRecDepth 100000 in
theorem cX6_go_3 (l : Launch) (G : va_G) (k : Nat → ClassId) (p0 : Nat) (p1 : Nat) (v2 : Value) (v3 : Value) (v4 : Value) (v5 : Value) (v6 : Value) (v7 : Value) (v8 : Value) (v9 : Value) (v10 : Value) (v11 : Value) (v12 : Value) (v13 : Value) (v14 : Value) (v15 : Value) (v16 : Value) (v17 : Value) (v18 : Value) (v19 : Value) (v20 : Value) (v21 : Value) (v22 : Value) (v23 : Value) (v24 : Value) (v25 : Value) (v26 : Value) (v27 : Value) (v28 : Value) (sz : Nat) : CMv l G k yX6_go wsX6_go ({ frames := 1, cells := 0, slots := 0, locals := 21 }) [.ref p0, .int 536870911, .int 0, .int 1] sz [(p0, .inr (5, [.ref p1, v2, v3, v4, v5, v6, v7, v8, v9, v10, v11, v12, v13, v14, v15])), (p1, .inr (2, [.int 1, v16, v17, v18, v19, v20, v21, v22, v23, v24, v25, v26, v27, v28]))] (fun (u : Unit) => True) (fun (u : Unit) => [(p0, .inr (5, [.ref p1, v2, v3, v4, v5, v6, v7, v8, v9, v10, v11, v12, v13, v14, v15])), (p1, .inr (2, [.int 1, v16, v17, v18, v19, v20, v21, v22, v23, v24, v25, v26, v27, v28]))]) := by
  refine Met.ofW (cc := cX6_go) (maxL := 7) (ret := none) (by decide) rfl ?_
  intro p e s m args below meth c s₁ B hml hv
  obtain ⟨rfl, hsz, hP, hX, hD0, hZ0⟩ := hv
  have hx := B.exec
  have hb := B.bytes
  have hr := B.returns
  have hts := atoms_spec (ws := wsX6_go) B.pre
  have hown : s.vm.findClass RX6 = some m.cls := findClass_of_methodNamed B.named
  subst hsz
  have hD := hD0.self (sz := s.heap.size)
  have hZ := ZX.up hP hZ0
  generalize hAe : va_A [(p0, .inr (5, [.ref p1, v2, v3, v4, v5, v6, v7, v8, v9, v10, v11, v12, v13, v14, v15])), (p1, .inr (2, [.int 1, v16, v17, v18, v19, v20, v21, v22, v23, v24, v25, v26, v27, v28]))] s.heap.size = A at hD hZ ⊢
  have hA : ∀ q : Nat, s.heap.size ≤ q → A q := fun q h => by rw [← hAe]; exact Or.inr h
  have hS : va_S A s.heap s.heap [] := va_S.rf
  have hP : va_P G vwCl [(p0, .inr (5, [.ref p1, v2, v3, v4, v5, v6, v7, v8, v9, v10, v11, v12, v13, v14, v15])), (p1, .inr (2, [.int 1, v16, v17, v18, v19, v20, v21, v22, v23, v24, v25, v26, v27, v28]))] s.heap := hP
  have hl := lv_entry ([.ref p0, .int 536870911, .int 0, .int 1]) (n := 7) (Nat.le_of_ble_eq_true rfl)
  rw [lg_entry_eq]
  generalize (lg_sl ([.ref p0, .int 536870911, .int 0, .int 1]) ++ List.replicate (7 - (lg_sl ([.ref p0, .int 536870911, .int 0, .int 1])).length) Slot.unset).toArray = ls at hl ⊢
  have hl : lv_has ls 7 [(0, .ref p0), (1, .int 536870911), (2, .int 0), (3, .int 1)] := hl
  have h0w := hts (.initialized RX7) (by decide +kernel)
  have h1w := hts (.static yX7_depth) (by decide +kernel)
  have h2w := hts (.fieldLink RX6 9 "RopeTown$Search" "plan" "LRopeTown$Plan;") (by decide +kernel)
  have h3w : ∀ w ∈ wsX60, w ∈ wsX6_go := by decide +kernel
  have h4w := hts (.initialized RX3) (by decide +kernel)
  have h5w := hts (.instanceMethod yX3_hasDepth) (by decide +kernel)
  have h6w := hts (.selects RX3 yX3_hasDepth yX3_hasDepth) (by decide +kernel)
  refine lv_iconst (v := 0) hx hb dX6_go_0 (by decide +kernel) ?_
  refine lv_istore (lv' := [(4, .int 0), (0, .ref p0), (1, .int 536870911), (2, .int 0), (3, .int 1)]) hx hb dX6_go_1 hl (by decide) rfl (fun ls hl => ?_)
  refine lv_iload_n hx hb dX6_go_3 rfl (lv_at hl 2 rfl) ?_
  refine cz_i (wr := [(p0, .inr (5, [.ref p1, v2, v3, v4, v5, v6, v7, v8, v9, v10, v11, v12, v13, v14, v15])), (p1, .inr (2, [.int 1, v16, v17, v18, v19, v20, v21, v22, v23, v24, v25, v26, v27, v28]))]) (va_runSN (As := [.int 536870911]) (rest := []) ⟨hx, hb, hml, hown, hts⟩ (cX7_depth_1 l G k s.heap.size) ⟨va_cnB 1 hts gX6_go_X7_depth_n122 rfl rfl rfl (nm_52 hX.2.2.1) h0w (by decide +kernel) ⟨Nat.le_of_ble_eq_true rfl, Nat.le_of_ble_eq_true rfl⟩, h1w, trivial⟩ (cz_preS hZ hS hX hP hD [] rfl rfl) rfl rfl hl.1 rfl (lv_room (Nat.le_of_ble_eq_true rfl)) dX6_go_4 ⟨Nat.le_of_ble_eq_true rfl, Nat.le_of_ble_eq_true rfl⟩) hP hD hS hA [] [0, 1] rfl rfl (by decide) (by decide) (fun r u H locs hp hP hD hS => ?_)
  have hp : r = 1 := hp
  subst hp
  refine lv_istore (lv' := [(5, .int 1), (4, .int 0), (0, .ref p0), (1, .int 536870911), (2, .int 0), (3, .int 1)]) hx hb dX6_go_7 hl (by decide) rfl (fun ls hl => ?_)
  refine lv_aload_n hx hb dX6_go_9 rfl (lv_at hl 2 rfl) ?_
  refine va_get (D := G) (ci := 5) (v := .ref p1) (C := RX6) (T := TX6) (N := 15) (ref := RX6) hx hb hts h3w hown hX.1 hP 0 rfl rfl 0 (by decide) h2w (fun _ h9 => h9) rfl dX6_go_10 ?_
  refine lv_iload hx hb dX6_go_13 (lv_at hl 0 rfl) ?_
  refine lv_iload_n hx hb dX6_go_15 rfl (lv_at hl 5 rfl) ?_
  refine lv_iadd hx hb dX6_go_16 ?_
  refine cz_ti (w := 2) (by decide +kernel) ?_
  refine cz_i (wr := [(p0, .inr (5, [.ref p1, v2, v3, v4, v5, v6, v7, v8, v9, v10, v11, v12, v13, v14, v15]))]) (va_runVN (As := [.int 2]) (rest := []) ⟨hx, hb, hml, hown, hts⟩ (cX3_hasDepth_5 l G k p1 v16 v17 v18 v19 v20 v21 v22 v23 v24 v25 v26 v27 v28 H.size) ⟨va_cnB 1 hts gX6_go_X3_hasDepth_n131 rfl rfl rfl (nm_54 hX.2.2.1) h4w (by decide +kernel) ⟨Nat.le_of_ble_eq_true rfl, Nat.le_of_ble_eq_true rfl⟩, h5w, h6w⟩ (cz_preV hZ hS hX hP hD [1] rfl rfl (ci := 2) (q0 := 1) rfl rfl) rfl rfl hl.1 rfl (lv_room (Nat.le_of_ble_eq_true rfl)) dX6_go_17 ⟨Nat.le_of_ble_eq_true rfl, Nat.le_of_ble_eq_true rfl⟩) hP hD hS hA [1] [0] rfl rfl (by decide) (by decide) (fun r u H locs hp hP hD hS => ?_)
  have hp : r = 0 := hp
  subst hp
  refine lv_if_eq (tgt := 104) hx hb dX6_go_20 (by decide) (fun _ => ?_) (fun q => absurd (by decide +kernel) (q))
  have hP9 := hP.sub (ws' := [(p0, .inr (5, [.ref p1, v2, v3, v4, v5, v6, v7, v8, v9, v10, v11, v12, v13, v14, v15])), (p1, .inr (2, [.int 1, v16, v17, v18, v19, v20, v21, v22, v23, v24, v25, v26, v27, v28]))]) [0, 1] rfl
  have hD9 := hD.sub (ws' := [(p0, .inr (5, [.ref p1, v2, v3, v4, v5, v6, v7, v8, v9, v10, v11, v12, v13, v14, v15])), (p1, .inr (2, [.int 1, v16, v17, v18, v19, v20, v21, v22, v23, v24, v25, v26, v27, v28]))]) [0, 1] (by decide) rfl
  exact W.vret hx hb hr (fun t ht hW => ⟨⟨(), rfl, trivial, by rw [ht]; exact hP9, hD9⟩, hS.F ht⟩) hS.2.2 dX6_go_104

set_option maxHeartbeats 4000000 in
set_option maxRecDepth 100000 in
theorem cX3_excess_1 (l : Launch) (G : va_G) (k : Nat → ClassId) (p0 : Nat) (v1 : Value) (v2 : Value) (v3 : Value) (v4 : Value) (v5 : Value) (v6 : Value) (v7 : Value) (v8 : Value) (v9 : Value) (v10 : Value) (v11 : Value) (v12 : Value) (sz : Nat) : CMi l G k yX3_excess wsX3_excess ({ frames := 0, cells := 0, slots := 0, locals := 0 }) [.ref p0, .int 0, .int 1, .int (-1)] sz [(p0, .inr (2, [.int 1, v1, v2, .int 0, v3, v4, v5, v6, v7, v8, v9, v10, v11, v12]))] (fun r (u : Unit) => r = 0) (fun (u : Unit) => [(p0, .inr (2, [.int 1, v1, v2, .int 0, v3, v4, v5, v6, v7, v8, v9, v10, v11, v12]))]) := by
  refine Met.ofW (cc := cX3_excess) (maxL := 4) (ret := (some .int)) (by decide) rfl ?_
  intro p e s m args below meth c s₁ B hml hv
  obtain ⟨rfl, hsz, hP, hX, hD0, hZ0⟩ := hv
  have hx := B.exec
  have hb := B.bytes
  have hr := B.returns
  have hts := atoms_spec (ws := wsX3_excess) B.pre
  have hown : s.vm.findClass RX3 = some m.cls := findClass_of_methodNamed B.named
  subst hsz
  have hD := hD0.self (sz := s.heap.size)
  have hZ := ZX.up hP hZ0
  generalize hAe : va_A [(p0, .inr (2, [.int 1, v1, v2, .int 0, v3, v4, v5, v6, v7, v8, v9, v10, v11, v12]))] s.heap.size = A at hD hZ ⊢
  have hA : ∀ q : Nat, s.heap.size ≤ q → A q := fun q h => by rw [← hAe]; exact Or.inr h
  have hS : va_S A s.heap s.heap [] := va_S.rf
  have hP : va_P G vwCl [(p0, .inr (2, [.int 1, v1, v2, .int 0, v3, v4, v5, v6, v7, v8, v9, v10, v11, v12]))] s.heap := hP
  have hl := lv_entry ([.ref p0, .int 0, .int 1, .int (-1)]) (n := 4) (Nat.le_of_ble_eq_true rfl)
  rw [lg_entry_eq]
  generalize (lg_sl ([.ref p0, .int 0, .int 1, .int (-1)]) ++ List.replicate (4 - (lg_sl ([.ref p0, .int 0, .int 1, .int (-1)])).length) Slot.unset).toArray = ls at hl ⊢
  have hl : lv_has ls 4 [(0, .ref p0), (1, .int 0), (2, .int 1), (3, .int (-1))] := hl
  have h0w := hts (.fieldLink RX3 47 "RopeTown$Plan" "rope" "I") (by decide +kernel)
  have h1w : ∀ w ∈ wsX30, w ∈ wsX3_excess := by decide +kernel
  have h2w := hts (.fieldLink RX3 37 "RopeTown$Plan" "bottom" "I") (by decide +kernel)
  refine lv_iload_n hx hb dX3_excess_0 rfl (lv_at hl 3 rfl) ?_
  refine lv_iload_n hx hb dX3_excess_1 rfl (lv_at hl 1 rfl) ?_
  refine lv_aload_n hx hb dX3_excess_2 rfl (lv_at hl 0 rfl) ?_
  refine va_get (D := G) (ci := 2) (v := .int 0) (C := RX3) (T := TX3) (N := 14) (ref := RX3) hx hb hts h1w hown hX.1 hP 0 rfl rfl 3 (by decide) h0w (fun _ h9 => h9) rfl dX3_excess_3 ?_
  refine lv_iconst (v := 2) hx hb dX3_excess_6 (by decide +kernel) ?_
  refine lv_iload_n hx hb dX3_excess_7 rfl (lv_at hl 2 rfl) ?_
  refine lv_imul hx hb dX3_excess_8 ?_
  refine cz_ti (w := 2) (by decide +kernel) ?_
  refine lv_aload_n hx hb dX3_excess_9 rfl (lv_at hl 0 rfl) ?_
  refine va_get (D := G) (ci := 2) (v := .int 1) (C := RX3) (T := TX3) (N := 14) (ref := RX3) hx hb hts h1w hown hX.1 hP 0 rfl rfl 0 (by decide) h2w (fun _ h9 => h9) rfl dX3_excess_10 ?_
  refine lv_isub hx hb dX3_excess_13 ?_
  refine cz_ti (w := 1) (by decide +kernel) ?_
  refine lv_imul hx hb dX3_excess_14 ?_
  refine cz_ti (w := 0) (by decide +kernel) ?_
  refine lv_iadd hx hb dX3_excess_15 ?_
  refine cz_ti (w := 0) (by decide +kernel) ?_
  refine lv_imul hx hb dX3_excess_16 ?_
  refine cz_ti (w := 0) (by decide +kernel) ?_
  have hP9 := hP.sub (ws' := [(p0, .inr (2, [.int 1, v1, v2, .int 0, v3, v4, v5, v6, v7, v8, v9, v10, v11, v12]))]) [0] rfl
  have hD9 := hD.sub (ws' := [(p0, .inr (2, [.int 1, v1, v2, .int 0, v3, v4, v5, v6, v7, v8, v9, v10, v11, v12]))]) [0] (by decide) rfl
  exact W.iret (v := 0) hx hb hr (fun t ht hW => ⟨⟨0, (), rfl, rfl, by rw [ht]; exact hP9, hD9⟩, hS.F ht⟩) hS.2.2 dX3_excess_17

set_option maxHeartbeats 4000000 in
set_option maxRecDepth 100000 in
theorem cX7_move_2 (l : Launch) (G : va_G) (k : Nat → ClassId) (sz : Nat) : CMi l G k yX7_move wsX7_move ({ frames := 0, cells := 0, slots := 0, locals := 0 }) [.int 536870911, .int 0] sz [] (fun r (u : Unit) => r = 268435455) (fun (u : Unit) => []) := by
  refine Met.ofW (cc := cX7_move) (maxL := 2) (ret := (some .int)) (by decide) rfl ?_
  intro p e s m args below meth c s₁ B hml hv
  obtain ⟨rfl, hsz, hP, hX, hD0, hZ0⟩ := hv
  have hx := B.exec
  have hb := B.bytes
  have hr := B.returns
  have hts := atoms_spec (ws := wsX7_move) B.pre
  have hown : s.vm.findClass RX7 = some m.cls := findClass_of_methodNamed B.named
  subst hsz
  have hD := hD0.self (sz := s.heap.size)
  have hZ := ZX.up hP hZ0
  generalize hAe : va_A [] s.heap.size = A at hD hZ ⊢
  have hA : ∀ q : Nat, s.heap.size ≤ q → A q := fun q h => by rw [← hAe]; exact Or.inr h
  have hS : va_S A s.heap s.heap [] := va_S.rf
  have hP : va_P G vwCl [] s.heap := hP
  have hl := lv_entry ([.int 536870911, .int 0]) (n := 2) (Nat.le_of_ble_eq_true rfl)
  rw [lg_entry_eq]
  generalize (lg_sl ([.int 536870911, .int 0]) ++ List.replicate (2 - (lg_sl ([.int 536870911, .int 0])).length) Slot.unset).toArray = ls at hl ⊢
  have hl : lv_has ls 2 [(0, .int 536870911), (1, .int 0)] := hl
  have h0w := hts (.constant RX7 11 (268435455)) (by decide +kernel)
  refine lv_iload_n hx hb dX7_move_0 rfl (lv_at hl 0 rfl) ?_
  refine lv_ldc (v := 268435455) hx hb hown h0w dX7_move_1 ?_
  refine lv_iand hx hb dX7_move_3 ?_
  refine cz_ti (w := 268435455) (by decide +kernel) ?_
  refine lv_iload_n hx hb dX7_move_4 rfl (lv_at hl 1 rfl) ?_
  refine lv_bipush (v := 28) hx hb dX7_move_5 (by decide +kernel) ?_
  refine lv_ishl hx hb dX7_move_7 ?_
  refine cz_ti (w := 0) (by decide +kernel) ?_
  refine lv_ior hx hb dX7_move_8 ?_
  refine cz_ti (w := 268435455) (by decide +kernel) ?_
  have hP9 := hP.sub (ws' := []) [] rfl
  have hD9 := hD.sub (ws' := []) [] (by decide) rfl
  exact W.iret (v := 268435455) hx hb hr (fun t ht hW => ⟨⟨268435455, (), rfl, rfl, by rw [ht]; exact hP9, hD9⟩, hS.F ht⟩) hS.2.2 dX7_move_9

set_option maxHeartbeats 4000000 in
set_option maxRecDepth 100000 in
theorem cX6_arrive_2 (l : Launch) (G : va_G) (k : Nat → ClassId) (p0 : Nat) (v1 : Value) (v2 : Value) (v3 : Value) (p4 : Nat) (p5 : Nat) (v6 : Value) (v7 : Value) (p8 : Nat) (v9 : Value) (v10 : Value) (v11 : Value) (v12 : Value) (v13 : Value) (v14 : Value) (sz : Nat) : CMv l G k yX6_arrive wsX6_arrive ({ frames := 0, cells := 0, slots := 0, locals := 0 }) [.ref p0, .int 268435455, .int 1] sz [(p0, .inr (5, [v1, v2, v3, .ref p4, .ref p5, v6, v7, .ref p8, v9, v10, v11, v12, .int 1, v13, v14])), (p5, .inl (k 0, 1500, .inl (upd (upd (fun _ => 0) (0 : Int32).toNatClampNeg 0) (1 : Int32).toNatClampNeg 1))), (p8, .inl (k 0, 1024, .inl (upd (upd (fun _ => (-1)) (455 : Int32).toNatClampNeg 0) (519 : Int32).toNatClampNeg 1))), (p4, .inl (k 0, 1500, .inl (upd (upd (fun _ => 0) (0 : Int32).toNatClampNeg 268435455) (1 : Int32).toNatClampNeg 536870911)))] (fun (u : Unit) => True) (fun (u : Unit) => [(p0, .inr (5, [v1, v2, v3, .ref p4, .ref p5, v6, v7, .ref p8, v9, v10, v11, v12, .int 1, v13, v14])), (p5, .inl (k 0, 1500, .inl (upd (upd (fun _ => 0) (0 : Int32).toNatClampNeg 0) (1 : Int32).toNatClampNeg 1))), (p8, .inl (k 0, 1024, .inl (upd (upd (fun _ => (-1)) (455 : Int32).toNatClampNeg 0) (519 : Int32).toNatClampNeg 1))), (p4, .inl (k 0, 1500, .inl (upd (upd (fun _ => 0) (0 : Int32).toNatClampNeg 268435455) (1 : Int32).toNatClampNeg 536870911)))]) := by
  refine Met.ofW (cc := cX6_arrive) (maxL := 7) (ret := none) (by decide) rfl ?_
  intro p e s m args below meth c s₁ B hml hv
  obtain ⟨rfl, hsz, hP, hX, hD0, hZ0⟩ := hv
  have hx := B.exec
  have hb := B.bytes
  have hr := B.returns
  have hts := atoms_spec (ws := wsX6_arrive) B.pre
  have hown : s.vm.findClass RX6 = some m.cls := findClass_of_methodNamed B.named
  subst hsz
  have hD := hD0.self (sz := s.heap.size)
  have hZ := ZX.up hP hZ0
  generalize hAe : va_A [(p0, .inr (5, [v1, v2, v3, .ref p4, .ref p5, v6, v7, .ref p8, v9, v10, v11, v12, .int 1, v13, v14])), (p5, .inl (k 0, 1500, .inl (upd (upd (fun _ => 0) (0 : Int32).toNatClampNeg 0) (1 : Int32).toNatClampNeg 1))), (p8, .inl (k 0, 1024, .inl (upd (upd (fun _ => (-1)) (455 : Int32).toNatClampNeg 0) (519 : Int32).toNatClampNeg 1))), (p4, .inl (k 0, 1500, .inl (upd (upd (fun _ => 0) (0 : Int32).toNatClampNeg 268435455) (1 : Int32).toNatClampNeg 536870911)))] s.heap.size = A at hD hZ ⊢
  have hA : ∀ q : Nat, s.heap.size ≤ q → A q := fun q h => by rw [← hAe]; exact Or.inr h
  have hS : va_S A s.heap s.heap [] := va_S.rf
  have hP : va_P G vwCl [(p0, .inr (5, [v1, v2, v3, .ref p4, .ref p5, v6, v7, .ref p8, v9, v10, v11, v12, .int 1, v13, v14])), (p5, .inl (k 0, 1500, .inl (upd (upd (fun _ => 0) (0 : Int32).toNatClampNeg 0) (1 : Int32).toNatClampNeg 1))), (p8, .inl (k 0, 1024, .inl (upd (upd (fun _ => (-1)) (455 : Int32).toNatClampNeg 0) (519 : Int32).toNatClampNeg 1))), (p4, .inl (k 0, 1500, .inl (upd (upd (fun _ => 0) (0 : Int32).toNatClampNeg 268435455) (1 : Int32).toNatClampNeg 536870911)))] s.heap := hP
  have hl := lv_entry ([.ref p0, .int 268435455, .int 1]) (n := 7) (Nat.le_of_ble_eq_true rfl)
  rw [lg_entry_eq]
  generalize (lg_sl ([.ref p0, .int 268435455, .int 1]) ++ List.replicate (7 - (lg_sl ([.ref p0, .int 268435455, .int 1])).length) Slot.unset).toArray = ls at hl ⊢
  have hl : lv_has ls 7 [(0, .ref p0), (1, .int 268435455), (2, .int 1)] := hl
  have h0w := hts (.fieldLink RX6 29 "RopeTown$Search" "current" "I") (by decide +kernel)
  have h1w : ∀ w ∈ wsX60, w ∈ wsX6_arrive := by decide +kernel
  have h2w := hts (.fieldLink RX6 36 "RopeTown$Search" "costs" "[I") (by decide +kernel)
  have h3w := hts (.constant RX6 147 (-1640531535)) (by decide +kernel)
  have h4w := hts (.fieldLink RX6 42 "RopeTown$Search" "heads" "[I") (by decide +kernel)
  have h5w := hts (.fieldLink RX6 32 "RopeTown$Search" "states" "[I") (by decide +kernel)
  refine lv_aload_n hx hb dX6_arrive_0 rfl (lv_at hl 0 rfl) ?_
  refine va_get (D := G) (ci := 5) (v := .int 1) (C := RX6) (T := TX6) (N := 15) (ref := RX6) hx hb hts h1w hown hX.1 hP 0 rfl rfl 12 (by decide) h0w (fun _ h9 => h9) rfl dX6_arrive_1 ?_
  refine lv_iconst (v := (-1)) hx hb dX6_arrive_4 (by decide +kernel) ?_
  refine lv_icmp_ne (tgt := 12) hx hb dX6_arrive_5 (by decide) (fun _ => ?_) (fun q => absurd (q) (by decide +kernel))
  refine lv_aload_n hx hb dX6_arrive_12 rfl (lv_at hl 0 rfl) ?_
  refine va_get (D := G) (ci := 5) (v := .ref p5) (C := RX6) (T := TX6) (N := 15) (ref := RX6) hx hb hts h1w hown hX.1 hP 0 rfl rfl 4 (by decide) h2w (fun _ h9 => h9) rfl dX6_arrive_13 ?_
  refine lv_aload_n hx hb dX6_arrive_16 rfl (lv_at hl 0 rfl) ?_
  refine va_get (D := G) (ci := 5) (v := .int 1) (C := RX6) (T := TX6) (N := 15) (ref := RX6) hx hb hts h1w hown hX.1 hP 0 rfl rfl 12 (by decide) h0w (fun _ h9 => h9) rfl dX6_arrive_17 ?_
  refine va_iald hx hb hX.1 hP 1 0 rfl rfl (by unfold vp_in; decide +kernel) dX6_arrive_20 ?_
  refine cz_ti (w := 1) (by rfl) ?_
  refine lv_iload_n hx hb dX6_arrive_21 rfl (lv_at hl 2 rfl) ?_
  refine lv_iadd hx hb dX6_arrive_22 ?_
  refine cz_ti (w := 2) (by decide +kernel) ?_
  refine lv_istore_n (lv' := [(3, .int 2), (0, .ref p0), (1, .int 268435455), (2, .int 1)]) hx hb dX6_arrive_23 rfl hl (by decide) rfl (fun ls hl => ?_)
  refine lv_iload_n hx hb dX6_arrive_24 rfl (lv_at hl 2 rfl) ?_
  refine lv_ldc (v := (-1640531535)) hx hb hown h3w dX6_arrive_25 ?_
  refine lv_imul hx hb dX6_arrive_27 ?_
  refine cz_ti (w := 1908966991) (by decide +kernel) ?_
  refine lv_bipush (v := 22) hx hb dX6_arrive_28 (by decide +kernel) ?_
  refine lv_iushr (v := 455) hx hb dX6_arrive_30 (by decide +kernel) ?_
  refine lv_istore (lv' := [(4, .int 455), (3, .int 2), (0, .ref p0), (1, .int 268435455), (2, .int 1)]) hx hb dX6_arrive_31 hl (by decide) rfl (fun ls hl => ?_)
  refine lv_aload_n hx hb dX6_arrive_33 rfl (lv_at hl 2 rfl) ?_
  refine va_get (D := G) (ci := 5) (v := .ref p8) (C := RX6) (T := TX6) (N := 15) (ref := RX6) hx hb hts h1w hown hX.1 hP 0 rfl rfl 7 (by decide) h4w (fun _ h9 => h9) rfl dX6_arrive_34 ?_
  refine lv_iload hx hb dX6_arrive_37 (lv_at hl 0 rfl) ?_
  refine va_iald hx hb hX.1 hP 2 0 rfl rfl (by unfold vp_in; decide +kernel) dX6_arrive_39 ?_
  refine cz_ti (w := 0) (by rfl) ?_
  refine lv_istore (lv' := [(5, .int 0), (4, .int 455), (3, .int 2), (0, .ref p0), (1, .int 268435455), (2, .int 1)]) hx hb dX6_arrive_40 hl (by decide) rfl (fun ls hl => ?_)
  refine lv_iconst (v := 0) hx hb dX6_arrive_42 (by decide +kernel) ?_
  refine lv_istore (lv' := [(6, .int 0), (5, .int 0), (4, .int 455), (3, .int 2), (0, .ref p0), (1, .int 268435455), (2, .int 1)]) hx hb dX6_arrive_43 hl (by decide) rfl (fun ls hl => ?_)
  refine lv_iload hx hb dX6_arrive_45 (lv_at hl 0 rfl) ?_
  refine lv_sipush (v := 1500) hx hb dX6_arrive_47 (by decide +kernel) ?_
  refine lv_icmp_ge (tgt := 85) hx hb dX6_arrive_50 (by decide) (fun q => absurd (q) (by decide +kernel)) (fun _ => ?_)
  refine lv_iload hx hb dX6_arrive_53 (lv_at hl 1 rfl) ?_
  refine lv_iconst (v := (-1)) hx hb dX6_arrive_55 (by decide +kernel) ?_
  refine lv_icmp_eq (tgt := 85) hx hb dX6_arrive_56 (by decide) (fun q => absurd (q) (by decide +kernel)) (fun _ => ?_)
  refine lv_aload_n hx hb dX6_arrive_59 rfl (lv_at hl 4 rfl) ?_
  refine va_get (D := G) (ci := 5) (v := .ref p4) (C := RX6) (T := TX6) (N := 15) (ref := RX6) hx hb hts h1w hown hX.1 hP 0 rfl rfl 3 (by decide) h5w (fun _ h9 => h9) rfl dX6_arrive_60 ?_
  refine lv_iload hx hb dX6_arrive_63 (lv_at hl 1 rfl) ?_
  refine va_iald hx hb hX.1 hP 3 0 rfl rfl (by unfold vp_in; decide +kernel) dX6_arrive_65 ?_
  refine cz_ti (w := 268435455) (by rfl) ?_
  refine lv_iload_n hx hb dX6_arrive_66 rfl (lv_at hl 5 rfl) ?_
  refine lv_icmp_eq (tgt := 85) hx hb dX6_arrive_67 (by decide) (fun _ => ?_) (fun q => absurd (by decide +kernel) (q))
  refine lv_iload hx hb dX6_arrive_85 (lv_at hl 1 rfl) ?_
  refine lv_iconst (v := (-1)) hx hb dX6_arrive_87 (by decide +kernel) ?_
  refine lv_icmp_ne (tgt := 178) hx hb dX6_arrive_88 (by decide) (fun _ => ?_) (fun q => absurd (q) (by decide +kernel))
  refine lv_iload_n hx hb dX6_arrive_178 rfl (lv_at hl 3 rfl) ?_
  refine lv_aload_n hx hb dX6_arrive_179 rfl (lv_at hl 4 rfl) ?_
  refine va_get (D := G) (ci := 5) (v := .ref p5) (C := RX6) (T := TX6) (N := 15) (ref := RX6) hx hb hts h1w hown hX.1 hP 0 rfl rfl 4 (by decide) h2w (fun _ h9 => h9) rfl dX6_arrive_180 ?_
  refine lv_iload hx hb dX6_arrive_183 (lv_at hl 1 rfl) ?_
  refine va_iald hx hb hX.1 hP 1 0 rfl rfl (by unfold vp_in; decide +kernel) dX6_arrive_185 ?_
  refine cz_ti (w := 0) (by rfl) ?_
  refine lv_icmp_lt (tgt := 190) hx hb dX6_arrive_186 (by decide) (fun q => absurd (q) (by decide +kernel)) (fun _ => ?_)
  have hP9 := hP.sub (ws' := [(p0, .inr (5, [v1, v2, v3, .ref p4, .ref p5, v6, v7, .ref p8, v9, v10, v11, v12, .int 1, v13, v14])), (p5, .inl (k 0, 1500, .inl (upd (upd (fun _ => 0) (0 : Int32).toNatClampNeg 0) (1 : Int32).toNatClampNeg 1))), (p8, .inl (k 0, 1024, .inl (upd (upd (fun _ => (-1)) (455 : Int32).toNatClampNeg 0) (519 : Int32).toNatClampNeg 1))), (p4, .inl (k 0, 1500, .inl (upd (upd (fun _ => 0) (0 : Int32).toNatClampNeg 268435455) (1 : Int32).toNatClampNeg 536870911)))]) [0, 1, 2, 3] rfl
  have hD9 := hD.sub (ws' := [(p0, .inr (5, [v1, v2, v3, .ref p4, .ref p5, v6, v7, .ref p8, v9, v10, v11, v12, .int 1, v13, v14])), (p5, .inl (k 0, 1500, .inl (upd (upd (fun _ => 0) (0 : Int32).toNatClampNeg 0) (1 : Int32).toNatClampNeg 1))), (p8, .inl (k 0, 1024, .inl (upd (upd (fun _ => (-1)) (455 : Int32).toNatClampNeg 0) (519 : Int32).toNatClampNeg 1))), (p4, .inl (k 0, 1500, .inl (upd (upd (fun _ => 0) (0 : Int32).toNatClampNeg 268435455) (1 : Int32).toNatClampNeg 536870911)))]) [0, 1, 2, 3] (by decide) rfl
  exact W.vret hx hb hr (fun t ht hW => ⟨⟨(), rfl, trivial, by rw [ht]; exact hP9, hD9⟩, hS.F ht⟩) hS.2.2 dX6_arrive_189

set_option maxHeartbeats 4000000 in
set_option maxRecDepth 100000 in
theorem cX6_go_4 (l : Launch) (G : va_G) (k : Nat → ClassId) (p0 : Nat) (p1 : Nat) (v2 : Value) (p3 : Nat) (p4 : Nat) (v5 : Value) (v6 : Value) (p7 : Nat) (v8 : Value) (v9 : Value) (v10 : Value) (v11 : Value) (v12 : Value) (v13 : Value) (v14 : Value) (v15 : Value) (v16 : Value) (v17 : Value) (v18 : Value) (v19 : Value) (v20 : Value) (v21 : Value) (v22 : Value) (v23 : Value) (v24 : Value) (sz : Nat) : CMv l G k yX6_go wsX6_go ({ frames := 1, cells := 0, slots := 0, locals := 26 }) [.ref p0, .int 536870911, .int 0, .int (-1)] sz [(p0, .inr (5, [.ref p1, .int 1, v2, .ref p3, .ref p4, v5, v6, .ref p7, v8, v9, v10, v11, .int 1, v12, v13])), (p1, .inr (2, [.int 1, v14, v15, .int 0, .int 1, v16, v17, v18, v19, v20, v21, v22, v23, v24])), (p4, .inl (k 0, 1500, .inl (upd (upd (fun _ => 0) (0 : Int32).toNatClampNeg 0) (1 : Int32).toNatClampNeg 1))), (p7, .inl (k 0, 1024, .inl (upd (upd (fun _ => (-1)) (455 : Int32).toNatClampNeg 0) (519 : Int32).toNatClampNeg 1))), (p3, .inl (k 0, 1500, .inl (upd (upd (fun _ => 0) (0 : Int32).toNatClampNeg 268435455) (1 : Int32).toNatClampNeg 536870911)))] (fun (u : Unit) => True) (fun (u : Unit) => [(p1, .inr (2, [.int 1, v14, v15, .int 0, .int 1, v16, v17, v18, v19, v20, v21, v22, v23, v24])), (p0, .inr (5, [.ref p1, .int 1, v2, .ref p3, .ref p4, v5, v6, .ref p7, v8, v9, v10, v11, .int 1, v12, v13])), (p4, .inl (k 0, 1500, .inl (upd (upd (fun _ => 0) (0 : Int32).toNatClampNeg 0) (1 : Int32).toNatClampNeg 1))), (p7, .inl (k 0, 1024, .inl (upd (upd (fun _ => (-1)) (455 : Int32).toNatClampNeg 0) (519 : Int32).toNatClampNeg 1))), (p3, .inl (k 0, 1500, .inl (upd (upd (fun _ => 0) (0 : Int32).toNatClampNeg 268435455) (1 : Int32).toNatClampNeg 536870911)))]) := by
  refine Met.ofW (cc := cX6_go) (maxL := 7) (ret := none) (by decide) rfl ?_
  intro p e s m args below meth c s₁ B hml hv
  obtain ⟨rfl, hsz, hP, hX, hD0, hZ0⟩ := hv
  have hx := B.exec
  have hb := B.bytes
  have hr := B.returns
  have hts := atoms_spec (ws := wsX6_go) B.pre
  have hown : s.vm.findClass RX6 = some m.cls := findClass_of_methodNamed B.named
  subst hsz
  have hD := hD0.self (sz := s.heap.size)
  have hZ := ZX.up hP hZ0
  generalize hAe : va_A [(p0, .inr (5, [.ref p1, .int 1, v2, .ref p3, .ref p4, v5, v6, .ref p7, v8, v9, v10, v11, .int 1, v12, v13])), (p1, .inr (2, [.int 1, v14, v15, .int 0, .int 1, v16, v17, v18, v19, v20, v21, v22, v23, v24])), (p4, .inl (k 0, 1500, .inl (upd (upd (fun _ => 0) (0 : Int32).toNatClampNeg 0) (1 : Int32).toNatClampNeg 1))), (p7, .inl (k 0, 1024, .inl (upd (upd (fun _ => (-1)) (455 : Int32).toNatClampNeg 0) (519 : Int32).toNatClampNeg 1))), (p3, .inl (k 0, 1500, .inl (upd (upd (fun _ => 0) (0 : Int32).toNatClampNeg 268435455) (1 : Int32).toNatClampNeg 536870911)))] s.heap.size = A at hD hZ ⊢
  have hA : ∀ q : Nat, s.heap.size ≤ q → A q := fun q h => by rw [← hAe]; exact Or.inr h
  have hS : va_S A s.heap s.heap [] := va_S.rf
  have hP : va_P G vwCl [(p0, .inr (5, [.ref p1, .int 1, v2, .ref p3, .ref p4, v5, v6, .ref p7, v8, v9, v10, v11, .int 1, v12, v13])), (p1, .inr (2, [.int 1, v14, v15, .int 0, .int 1, v16, v17, v18, v19, v20, v21, v22, v23, v24])), (p4, .inl (k 0, 1500, .inl (upd (upd (fun _ => 0) (0 : Int32).toNatClampNeg 0) (1 : Int32).toNatClampNeg 1))), (p7, .inl (k 0, 1024, .inl (upd (upd (fun _ => (-1)) (455 : Int32).toNatClampNeg 0) (519 : Int32).toNatClampNeg 1))), (p3, .inl (k 0, 1500, .inl (upd (upd (fun _ => 0) (0 : Int32).toNatClampNeg 268435455) (1 : Int32).toNatClampNeg 536870911)))] s.heap := hP
  have hl := lv_entry ([.ref p0, .int 536870911, .int 0, .int (-1)]) (n := 7) (Nat.le_of_ble_eq_true rfl)
  rw [lg_entry_eq]
  generalize (lg_sl ([.ref p0, .int 536870911, .int 0, .int (-1)]) ++ List.replicate (7 - (lg_sl ([.ref p0, .int 536870911, .int 0, .int (-1)])).length) Slot.unset).toArray = ls at hl ⊢
  have hl : lv_has ls 7 [(0, .ref p0), (1, .int 536870911), (2, .int 0), (3, .int (-1))] := hl
  have h0w := hts (.initialized RX7) (by decide +kernel)
  have h1w := hts (.static yX7_depth) (by decide +kernel)
  have h2w := hts (.fieldLink RX6 9 "RopeTown$Search" "plan" "LRopeTown$Plan;") (by decide +kernel)
  have h3w : ∀ w ∈ wsX60, w ∈ wsX6_go := by decide +kernel
  have h4w := hts (.initialized RX3) (by decide +kernel)
  have h5w := hts (.instanceMethod yX3_hasDepth) (by decide +kernel)
  have h6w := hts (.selects RX3 yX3_hasDepth yX3_hasDepth) (by decide +kernel)
  have h7w := hts (.instanceMethod yX3_excess) (by decide +kernel)
  have h8w := hts (.selects RX3 yX3_excess yX3_excess) (by decide +kernel)
  have h9w := hts (.fieldLink RX6 15 "RopeTown$Search" "byHand" "Z") (by decide +kernel)
  have h10w := hts (.instanceMethod yX3_windingOf) (by decide +kernel)
  have h11w := hts (.selects RX3 yX3_windingOf yX3_windingOf) (by decide +kernel)
  have h12w := hts (.static yX7_move) (by decide +kernel)
  refine lv_iconst (v := 0) hx hb dX6_go_0 (by decide +kernel) ?_
  refine lv_istore (lv' := [(4, .int 0), (0, .ref p0), (1, .int 536870911), (2, .int 0), (3, .int (-1))]) hx hb dX6_go_1 hl (by decide) rfl (fun ls hl => ?_)
  refine lv_iload_n hx hb dX6_go_3 rfl (lv_at hl 2 rfl) ?_
  refine cz_i (wr := [(p0, .inr (5, [.ref p1, .int 1, v2, .ref p3, .ref p4, v5, v6, .ref p7, v8, v9, v10, v11, .int 1, v12, v13])), (p1, .inr (2, [.int 1, v14, v15, .int 0, .int 1, v16, v17, v18, v19, v20, v21, v22, v23, v24])), (p4, .inl (k 0, 1500, .inl (upd (upd (fun _ => 0) (0 : Int32).toNatClampNeg 0) (1 : Int32).toNatClampNeg 1))), (p7, .inl (k 0, 1024, .inl (upd (upd (fun _ => (-1)) (455 : Int32).toNatClampNeg 0) (519 : Int32).toNatClampNeg 1))), (p3, .inl (k 0, 1500, .inl (upd (upd (fun _ => 0) (0 : Int32).toNatClampNeg 268435455) (1 : Int32).toNatClampNeg 536870911)))]) (va_runSN (As := [.int 536870911]) (rest := []) ⟨hx, hb, hml, hown, hts⟩ (cX7_depth_1 l G k s.heap.size) ⟨va_cnB 1 hts gX6_go_X7_depth_n122 rfl rfl rfl (nm_52 hX.2.2.1) h0w (by decide +kernel) ⟨Nat.le_of_ble_eq_true rfl, Nat.le_of_ble_eq_true rfl⟩, h1w, trivial⟩ (cz_preS hZ hS hX hP hD [] rfl rfl) rfl rfl hl.1 rfl (lv_room (Nat.le_of_ble_eq_true rfl)) dX6_go_4 ⟨Nat.le_of_ble_eq_true rfl, Nat.le_of_ble_eq_true rfl⟩) hP hD hS hA [] [0, 1, 2, 3, 4] rfl rfl (by decide) (by decide) (fun r u H locs hp hP hD hS => ?_)
  have hp : r = 1 := hp
  subst hp
  refine lv_istore (lv' := [(5, .int 1), (4, .int 0), (0, .ref p0), (1, .int 536870911), (2, .int 0), (3, .int (-1))]) hx hb dX6_go_7 hl (by decide) rfl (fun ls hl => ?_)
  refine lv_aload_n hx hb dX6_go_9 rfl (lv_at hl 2 rfl) ?_
  refine va_get (D := G) (ci := 5) (v := .ref p1) (C := RX6) (T := TX6) (N := 15) (ref := RX6) hx hb hts h3w hown hX.1 hP 0 rfl rfl 0 (by decide) h2w (fun _ h9 => h9) rfl dX6_go_10 ?_
  refine lv_iload hx hb dX6_go_13 (lv_at hl 0 rfl) ?_
  refine lv_iload_n hx hb dX6_go_15 rfl (lv_at hl 5 rfl) ?_
  refine lv_iadd hx hb dX6_go_16 ?_
  refine cz_ti (w := 0) (by decide +kernel) ?_
  refine cz_i (wr := [(p0, .inr (5, [.ref p1, .int 1, v2, .ref p3, .ref p4, v5, v6, .ref p7, v8, v9, v10, v11, .int 1, v12, v13])), (p4, .inl (k 0, 1500, .inl (upd (upd (fun _ => 0) (0 : Int32).toNatClampNeg 0) (1 : Int32).toNatClampNeg 1))), (p7, .inl (k 0, 1024, .inl (upd (upd (fun _ => (-1)) (455 : Int32).toNatClampNeg 0) (519 : Int32).toNatClampNeg 1))), (p3, .inl (k 0, 1500, .inl (upd (upd (fun _ => 0) (0 : Int32).toNatClampNeg 268435455) (1 : Int32).toNatClampNeg 536870911)))]) (va_runVN (As := [.int 0]) (rest := []) ⟨hx, hb, hml, hown, hts⟩ (cX3_hasDepth_2 l G k p1 v14 v15 (.int 0) (.int 1) v16 v17 v18 v19 v20 v21 v22 v23 v24 H.size) ⟨va_cnB 1 hts gX6_go_X3_hasDepth_n131 rfl rfl rfl (nm_54 hX.2.2.1) h4w (by decide +kernel) ⟨Nat.le_of_ble_eq_true rfl, Nat.le_of_ble_eq_true rfl⟩, h5w, h6w⟩ (cz_preV hZ hS hX hP hD [1] rfl rfl (ci := 2) (q0 := 1) rfl rfl) rfl rfl hl.1 rfl (lv_room (Nat.le_of_ble_eq_true rfl)) dX6_go_17 ⟨Nat.le_of_ble_eq_true rfl, Nat.le_of_ble_eq_true rfl⟩) hP hD hS hA [1] [0, 2, 3, 4] rfl rfl (by decide) (by decide) (fun r u H locs hp hP hD hS => ?_)
  have hp : r = 1 := hp
  subst hp
  refine lv_if_eq (tgt := 104) hx hb dX6_go_20 (by decide) (fun q => absurd (q) (by decide +kernel)) (fun _ => ?_)
  refine lv_aload_n hx hb dX6_go_23 rfl (lv_at hl 2 rfl) ?_
  refine va_get (D := G) (ci := 5) (v := .ref p1) (C := RX6) (T := TX6) (N := 15) (ref := RX6) hx hb hts h3w hown hX.1 hP 0 rfl rfl 0 (by decide) h2w (fun _ h9 => h9) rfl dX6_go_24 ?_
  refine lv_iload_n hx hb dX6_go_27 rfl (lv_at hl 4 rfl) ?_
  refine lv_iload hx hb dX6_go_28 (lv_at hl 0 rfl) ?_
  refine lv_iload_n hx hb dX6_go_30 rfl (lv_at hl 5 rfl) ?_
  refine cz_i (wr := [(p0, .inr (5, [.ref p1, .int 1, v2, .ref p3, .ref p4, v5, v6, .ref p7, v8, v9, v10, v11, .int 1, v12, v13])), (p4, .inl (k 0, 1500, .inl (upd (upd (fun _ => 0) (0 : Int32).toNatClampNeg 0) (1 : Int32).toNatClampNeg 1))), (p7, .inl (k 0, 1024, .inl (upd (upd (fun _ => (-1)) (455 : Int32).toNatClampNeg 0) (519 : Int32).toNatClampNeg 1))), (p3, .inl (k 0, 1500, .inl (upd (upd (fun _ => 0) (0 : Int32).toNatClampNeg 268435455) (1 : Int32).toNatClampNeg 536870911)))]) (va_runVN (As := [.int 0, .int 1, .int (-1)]) (rest := []) ⟨hx, hb, hml, hown, hts⟩ (cX3_excess_1 l G k p1 v14 v15 (.int 1) v16 v17 v18 v19 v20 v21 v22 v23 v24 H.size) ⟨va_cnB 3 hts gX6_go_X3_excess_n135 rfl rfl rfl (nm_55 hX.2.2.1) h4w (by decide +kernel) ⟨Nat.le_of_ble_eq_true rfl, Nat.le_of_ble_eq_true rfl⟩, h7w, h8w⟩ (cz_preV hZ hS hX hP hD [4] rfl rfl (ci := 2) (q0 := 4) rfl rfl) rfl rfl hl.1 rfl (lv_room (Nat.le_of_ble_eq_true rfl)) dX6_go_31 ⟨Nat.le_of_ble_eq_true rfl, Nat.le_of_ble_eq_true rfl⟩) hP hD hS hA [4] [0, 1, 2, 3] rfl rfl (by decide) (by decide) (fun r u H locs hp hP hD hS => ?_)
  have hp : r = 0 := hp
  subst hp
  refine lv_istore (lv' := [(6, .int 0), (5, .int 1), (4, .int 0), (0, .ref p0), (1, .int 536870911), (2, .int 0), (3, .int (-1))]) hx hb dX6_go_34 hl (by decide) rfl (fun ls hl => ?_)
  refine lv_aload_n hx hb dX6_go_36 rfl (lv_at hl 3 rfl) ?_
  refine va_get (D := G) (ci := 5) (v := .int 1) (C := RX6) (T := TX6) (N := 15) (ref := RX6) hx hb hts h3w hown hX.1 hP 0 rfl rfl 1 (by decide) h9w (fun _ h9 => h9) rfl dX6_go_37 ?_
  refine lv_if_ne (tgt := 56) hx hb dX6_go_40 (by decide) (fun _ => ?_) (fun q => absurd (q) (by decide +kernel))
  refine lv_iload hx hb dX6_go_56 (lv_at hl 2 rfl) ?_
  refine lv_aload_n hx hb dX6_go_58 rfl (lv_at hl 3 rfl) ?_
  refine va_get (D := G) (ci := 5) (v := .ref p1) (C := RX6) (T := TX6) (N := 15) (ref := RX6) hx hb hts h3w hown hX.1 hP 0 rfl rfl 0 (by decide) h2w (fun _ h9 => h9) rfl dX6_go_59 ?_
  refine lv_iload hx hb dX6_go_62 (lv_at hl 0 rfl) ?_
  refine cz_i (wr := [(p0, .inr (5, [.ref p1, .int 1, v2, .ref p3, .ref p4, v5, v6, .ref p7, v8, v9, v10, v11, .int 1, v12, v13])), (p4, .inl (k 0, 1500, .inl (upd (upd (fun _ => 0) (0 : Int32).toNatClampNeg 0) (1 : Int32).toNatClampNeg 1))), (p7, .inl (k 0, 1024, .inl (upd (upd (fun _ => (-1)) (455 : Int32).toNatClampNeg 0) (519 : Int32).toNatClampNeg 1))), (p3, .inl (k 0, 1500, .inl (upd (upd (fun _ => 0) (0 : Int32).toNatClampNeg 268435455) (1 : Int32).toNatClampNeg 536870911)))]) (va_runVN (As := [.int 0]) (rest := [.int 0]) ⟨hx, hb, hml, hown, hts⟩ (cX3_windingOf_0 l G k p1 (.int 1) v14 v15 (.int 0) v16 v17 v18 v19 v20 v21 v22 v23 v24 H.size) ⟨va_cnB 1 hts gX6_go_X3_windingOf_n141 rfl rfl rfl (nm_57 hX.2.2.1) h4w (by decide +kernel) ⟨Nat.le_of_ble_eq_true rfl, Nat.le_of_ble_eq_true rfl⟩, h10w, h11w⟩ (cz_preV hZ hS hX hP hD [4] rfl rfl (ci := 2) (q0 := 4) rfl rfl) rfl rfl hl.1 rfl (lv_room (Nat.le_of_ble_eq_true rfl)) dX6_go_64 ⟨Nat.le_of_ble_eq_true rfl, Nat.le_of_ble_eq_true rfl⟩) hP hD hS hA [4] [0, 1, 2, 3] rfl rfl (by decide) (by decide) (fun r u H locs hp hP hD hS => ?_)
  have hp : r = 1 := hp
  subst hp
  refine lv_iadd hx hb dX6_go_67 ?_
  refine cz_ti (w := 1) (by decide +kernel) ?_
  refine lv_istore (lv' := [(4, .int 1), (6, .int 0), (5, .int 1), (0, .ref p0), (1, .int 536870911), (2, .int 0), (3, .int (-1))]) hx hb dX6_go_68 hl (by decide) rfl (fun ls hl => ?_)
  refine lv_aload_n hx hb dX6_go_70 rfl (lv_at hl 3 rfl) ?_
  refine lv_iload_n hx hb dX6_go_71 rfl (lv_at hl 4 rfl) ?_
  refine lv_iload hx hb dX6_go_72 (lv_at hl 2 rfl) ?_
  refine lv_iload_n hx hb dX6_go_74 rfl (lv_at hl 6 rfl) ?_
  refine lv_iadd hx hb dX6_go_75 ?_
  refine cz_ti (w := 0) (by decide +kernel) ?_
  refine cz_i (wr := [(p0, .inr (5, [.ref p1, .int 1, v2, .ref p3, .ref p4, v5, v6, .ref p7, v8, v9, v10, v11, .int 1, v12, v13])), (p4, .inl (k 0, 1500, .inl (upd (upd (fun _ => 0) (0 : Int32).toNatClampNeg 0) (1 : Int32).toNatClampNeg 1))), (p7, .inl (k 0, 1024, .inl (upd (upd (fun _ => (-1)) (455 : Int32).toNatClampNeg 0) (519 : Int32).toNatClampNeg 1))), (p3, .inl (k 0, 1500, .inl (upd (upd (fun _ => 0) (0 : Int32).toNatClampNeg 268435455) (1 : Int32).toNatClampNeg 536870911))), (p1, .inr (2, [.int 1, v14, v15, .int 0, .int 1, v16, v17, v18, v19, v20, v21, v22, v23, v24]))]) (va_runSN (As := [.int 536870911, .int 0]) (rest := [.ref p0]) ⟨hx, hb, hml, hown, hts⟩ (cX7_move_2 l G k H.size) ⟨va_cnB 2 hts gX6_go_X7_move_n144 rfl rfl rfl (nm_58 hX.2.2.1) h0w (by decide +kernel) ⟨Nat.le_of_ble_eq_true rfl, Nat.le_of_ble_eq_true rfl⟩, h12w, trivial⟩ (cz_preS hZ hS hX hP hD [] rfl rfl) rfl rfl hl.1 rfl (lv_room (Nat.le_of_ble_eq_true rfl)) dX6_go_76 ⟨Nat.le_of_ble_eq_true rfl, Nat.le_of_ble_eq_true rfl⟩) hP hD hS hA [] [0, 1, 2, 3, 4] rfl rfl (by decide) (by decide) (fun r u H locs hp hP hD hS => ?_)
  have hp : r = 268435455 := hp
  subst hp
  refine lv_aload_n hx hb dX6_go_79 rfl (lv_at hl 3 rfl) ?_
  refine va_get (D := G) (ci := 5) (v := .int 1) (C := RX6) (T := TX6) (N := 15) (ref := RX6) hx hb hts h3w hown hX.1 hP 0 rfl rfl 1 (by decide) h9w (fun _ h9 => h9) rfl dX6_go_80 ?_
  refine lv_if_eq (tgt := 91) hx hb dX6_go_83 (by decide) (fun q => absurd (q) (by decide +kernel)) (fun _ => ?_)
  refine lv_iload hx hb dX6_go_86 (lv_at hl 0 rfl) ?_
  refine lv_goto (tgt := 92) hx hb dX6_go_88 (by decide) ?_
  refine cz_v (wr := [(p1, .inr (2, [.int 1, v14, v15, .int 0, .int 1, v16, v17, v18, v19, v20, v21, v22, v23, v24]))]) (va_runV (As := [.int 268435455, .int 1]) (rest := []) ⟨hx, hb, hml, hown, hts⟩ (cX6_arrive_2 l G k p0 (.ref p1) (.int 1) v2 p3 p4 v5 v6 p7 v8 v9 v10 v11 v12 v13 H.size) (cwV 2 hts gX6_go_X6_arrive rfl rfl rfl (by decide +kernel) ⟨Nat.le_of_ble_eq_true rfl, Nat.le_of_ble_eq_true rfl⟩) (cz_preV hZ hS hX hP hD [0, 1, 2, 3] rfl rfl (ci := 5) (q0 := 0) rfl rfl) rfl rfl hl.1 rfl (lv_room (Nat.le_of_ble_eq_true rfl)) dX6_go_92 ⟨Nat.le_of_ble_eq_true rfl, Nat.le_of_ble_eq_true rfl⟩) hP hD hS hA [0, 1, 2, 3] [4] rfl rfl (by decide) (by decide) (fun u H locs hp hP hD hS => ?_)
  obtain ⟨hP, hD⟩ : va_P G vwCl [(p1, .inr (2, [.int 1, v14, v15, .int 0, .int 1, v16, v17, v18, v19, v20, v21, v22, v23, v24])), (p0, .inr (5, [.ref p1, .int 1, v2, .ref p3, .ref p4, v5, v6, .ref p7, v8, v9, v10, v11, .int 1, v12, v13])), (p4, .inl (k 0, 1500, .inl (upd (upd (fun _ => 0) (0 : Int32).toNatClampNeg 0) (1 : Int32).toNatClampNeg 1))), (p7, .inl (k 0, 1024, .inl (upd (upd (fun _ => (-1)) (455 : Int32).toNatClampNeg 0) (519 : Int32).toNatClampNeg 1))), (p3, .inl (k 0, 1500, .inl (upd (upd (fun _ => 0) (0 : Int32).toNatClampNeg 268435455) (1 : Int32).toNatClampNeg 536870911)))] H ∧ va_D A [(p1, .inr (2, [.int 1, v14, v15, .int 0, .int 1, v16, v17, v18, v19, v20, v21, v22, v23, v24])), (p0, .inr (5, [.ref p1, .int 1, v2, .ref p3, .ref p4, v5, v6, .ref p7, v8, v9, v10, v11, .int 1, v12, v13])), (p4, .inl (k 0, 1500, .inl (upd (upd (fun _ => 0) (0 : Int32).toNatClampNeg 0) (1 : Int32).toNatClampNeg 1))), (p7, .inl (k 0, 1024, .inl (upd (upd (fun _ => (-1)) (455 : Int32).toNatClampNeg 0) (519 : Int32).toNatClampNeg 1))), (p3, .inl (k 0, 1500, .inl (upd (upd (fun _ => 0) (0 : Int32).toNatClampNeg 268435455) (1 : Int32).toNatClampNeg 536870911)))] := ⟨hP, hD⟩
  refine lv_iload hx hb dX6_go_95 (lv_at hl 2 rfl) ?_
  refine lv_iload_n hx hb dX6_go_97 rfl (lv_at hl 6 rfl) ?_
  refine lv_iadd hx hb dX6_go_98 ?_
  refine cz_ti (w := 0) (by decide +kernel) ?_
  refine lv_istore (lv' := [(5, .int 0), (4, .int 1), (6, .int 0), (0, .ref p0), (1, .int 536870911), (2, .int 0), (3, .int (-1))]) hx hb dX6_go_99 hl (by decide) rfl (fun ls hl => ?_)
  refine lv_goto (tgt := 9) hx hb dX6_go_101 (by decide) ?_
  refine lv_aload_n hx hb dX6_go_9 rfl (lv_at hl 3 rfl) ?_
  refine va_get (D := G) (ci := 5) (v := .ref p1) (C := RX6) (T := TX6) (N := 15) (ref := RX6) hx hb hts h3w hown hX.1 hP 1 rfl rfl 0 (by decide) h2w (fun _ h9 => h9) rfl dX6_go_10 ?_
  refine lv_iload hx hb dX6_go_13 (lv_at hl 0 rfl) ?_
  refine lv_iload_n hx hb dX6_go_15 rfl (lv_at hl 6 rfl) ?_
  refine lv_iadd hx hb dX6_go_16 ?_
  refine cz_ti (w := (-1)) (by decide +kernel) ?_
  refine cz_i (wr := [(p1, .inr (2, [.int 1, v14, v15, .int 0, .int 1, v16, v17, v18, v19, v20, v21, v22, v23, v24])), (p0, .inr (5, [.ref p1, .int 1, v2, .ref p3, .ref p4, v5, v6, .ref p7, v8, v9, v10, v11, .int 1, v12, v13])), (p4, .inl (k 0, 1500, .inl (upd (upd (fun _ => 0) (0 : Int32).toNatClampNeg 0) (1 : Int32).toNatClampNeg 1))), (p7, .inl (k 0, 1024, .inl (upd (upd (fun _ => (-1)) (455 : Int32).toNatClampNeg 0) (519 : Int32).toNatClampNeg 1))), (p3, .inl (k 0, 1500, .inl (upd (upd (fun _ => 0) (0 : Int32).toNatClampNeg 268435455) (1 : Int32).toNatClampNeg 536870911)))]) (va_runVN (As := [.int (-1)]) (rest := []) ⟨hx, hb, hml, hown, hts⟩ (cX3_hasDepth_4 l G k p1 H.size) ⟨va_cnB 1 hts gX6_go_X3_hasDepth_n131 rfl rfl rfl (nm_54 hX.2.2.1) h4w (by decide +kernel) ⟨Nat.le_of_ble_eq_true rfl, Nat.le_of_ble_eq_true rfl⟩, h5w, h6w⟩ (cz_preV hZ hS hX hP hD [] rfl rfl (ci := 2) (q0 := 0) rfl rfl) rfl rfl hl.1 rfl (lv_room (Nat.le_of_ble_eq_true rfl)) dX6_go_17 ⟨Nat.le_of_ble_eq_true rfl, Nat.le_of_ble_eq_true rfl⟩) hP hD hS hA [] [0, 1, 2, 3, 4] rfl rfl (by decide) (by decide) (fun r u H locs hp hP hD hS => ?_)
  have hp : r = 0 := hp
  subst hp
  refine lv_if_eq (tgt := 104) hx hb dX6_go_20 (by decide) (fun _ => ?_) (fun q => absurd (by decide +kernel) (q))
  have hP9 := hP.sub (ws' := [(p1, .inr (2, [.int 1, v14, v15, .int 0, .int 1, v16, v17, v18, v19, v20, v21, v22, v23, v24])), (p0, .inr (5, [.ref p1, .int 1, v2, .ref p3, .ref p4, v5, v6, .ref p7, v8, v9, v10, v11, .int 1, v12, v13])), (p4, .inl (k 0, 1500, .inl (upd (upd (fun _ => 0) (0 : Int32).toNatClampNeg 0) (1 : Int32).toNatClampNeg 1))), (p7, .inl (k 0, 1024, .inl (upd (upd (fun _ => (-1)) (455 : Int32).toNatClampNeg 0) (519 : Int32).toNatClampNeg 1))), (p3, .inl (k 0, 1500, .inl (upd (upd (fun _ => 0) (0 : Int32).toNatClampNeg 268435455) (1 : Int32).toNatClampNeg 536870911)))]) [0, 1, 2, 3, 4] rfl
  have hD9 := hD.sub (ws' := [(p1, .inr (2, [.int 1, v14, v15, .int 0, .int 1, v16, v17, v18, v19, v20, v21, v22, v23, v24])), (p0, .inr (5, [.ref p1, .int 1, v2, .ref p3, .ref p4, v5, v6, .ref p7, v8, v9, v10, v11, .int 1, v12, v13])), (p4, .inl (k 0, 1500, .inl (upd (upd (fun _ => 0) (0 : Int32).toNatClampNeg 0) (1 : Int32).toNatClampNeg 1))), (p7, .inl (k 0, 1024, .inl (upd (upd (fun _ => (-1)) (455 : Int32).toNatClampNeg 0) (519 : Int32).toNatClampNeg 1))), (p3, .inl (k 0, 1500, .inl (upd (upd (fun _ => 0) (0 : Int32).toNatClampNeg 268435455) (1 : Int32).toNatClampNeg 536870911)))]) [0, 1, 2, 3, 4] (by decide) rfl
  exact W.vret hx hb hr (fun t ht hW => ⟨⟨(), rfl, trivial, by rw [ht]; exact hP9, hD9⟩, hS.F ht⟩) hS.2.2 dX6_go_104

