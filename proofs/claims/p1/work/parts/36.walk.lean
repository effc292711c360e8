set_option maxHeartbeats 4000000 in
set_option maxRecDepth 100000 in
theorem cX9_count_8 (l : Launch) (G : va_G) (k : Nat → ClassId) (p0 : Nat) (v1 : Value) (v2 : Value) (v3 : Value) (v4 : Value) (v5 : Value) (v6 : Value) (p7 : Nat) (v8 : Value) (v9 : Value) (v10 : Value) (v11 : Value) (v12 : Value) (v13 : Value) (v14 : Value) (v15 : Value) (v16 : Value) (v17 : Value) (v18 : Value) (v19 : Value) (v20 : Value) (v21 : Value) (v22 : Value) (sz : Nat) : CMi l G k yX9_count wsX9_count ({ frames := 1, cells := 0, slots := 0, locals := 20 }) [.ref p0, .int 8] sz [(p0, .inr (6, [v1, v2, v3, v4, v5, v6, .ref p7, v8, v9, v10, v11])), (p7, .inr (0, [.int 268435455, v12, v13, v14, v15, v16, v17, v18, v19, v20, v21, v22]))] (fun r (u : Unit) => r = 0) (fun (u : Unit) => [(p0, .inr (6, [v1, v2, v3, v4, v5, v6, .ref p7, v8, v9, v10, v11])), (p7, .inr (0, [.int 268435455, v12, v13, v14, v15, v16, v17, v18, v19, v20, v21, v22]))]) := by
  refine Met.ofW (cc := cX9_count) (maxL := 2) (ret := (some .int)) (by decide) rfl ?_
  intro p e s m args below meth c s₁ B hml hv
  obtain ⟨rfl, hsz, hP, hX, hD0, hZ0⟩ := hv
  have hx := B.exec
  have hb := B.bytes
  have hr := B.returns
  have hts := atoms_spec (ws := wsX9_count) B.pre
  have hown : s.vm.findClass RX9 = some m.cls := findClass_of_methodNamed B.named
  subst hsz
  have hD := hD0.self (sz := s.heap.size)
  have hZ := ZX.up hP hZ0
  generalize hAe : va_A [(p0, .inr (6, [v1, v2, v3, v4, v5, v6, .ref p7, v8, v9, v10, v11])), (p7, .inr (0, [.int 268435455, v12, v13, v14, v15, v16, v17, v18, v19, v20, v21, v22]))] s.heap.size = A at hD hZ ⊢
  have hA : ∀ q : Nat, s.heap.size ≤ q → A q := fun q h => by rw [← hAe]; exact Or.inr h
  have hS : va_S A s.heap s.heap [] := va_S.rf
  have hP : va_P G vwCl [(p0, .inr (6, [v1, v2, v3, v4, v5, v6, .ref p7, v8, v9, v10, v11])), (p7, .inr (0, [.int 268435455, v12, v13, v14, v15, v16, v17, v18, v19, v20, v21, v22]))] s.heap := hP
  have hl := lv_entry ([.ref p0, .int 8]) (n := 2) (Nat.le_of_ble_eq_true rfl)
  rw [lg_entry_eq]
  generalize (lg_sl ([.ref p0, .int 8]) ++ List.replicate (2 - (lg_sl ([.ref p0, .int 8])).length) Slot.unset).toArray = ls at hl ⊢
  have hl : lv_has ls 2 [(0, .ref p0), (1, .int 8)] := hl
  have h0w := hts (.fieldLink RX9 42 "RopeTown" "book" "LRopeTown$Book;") (by decide +kernel)
  have h1w : ∀ w ∈ wsX90, w ∈ wsX9_count := by decide +kernel
  have h2w : ∀ w ∈ wsX10, w ∈ wsX9_count := by decide +kernel
  have h3w := hts (.initialized RX7) (by decide +kernel)
  have h4w := hts (.static yX7_depth) (by decide +kernel)
  refine lv_iload_n hx hb dX9_count_0 rfl (lv_at hl 1 rfl) ?_
  refine lv_tableIn (tgt := 151) hx hb dX9_count_1 (by decide +kernel) (by decide +kernel) (off := 150) (by decide +kernel) (by decide) ?_
  refine lv_aload_n hx hb dX9_count_151 rfl (lv_at hl 0 rfl) ?_
  refine va_get (D := G) (ci := 6) (v := .ref p7) (C := RX9) (T := TX9) (N := 11) (ref := RX9) hx hb hts h1w hown hX.1 hP 0 rfl rfl 6 (by decide) h0w (fun _ h9 => h9) rfl dX9_count_152 ?_
  refine va_getN (D := G) (ci := 0) (v := .int 268435455) (C := RX1) (T := TX1) (N := 12) (ref := RX1) (host := RX9) hx hb hts h2w hown hX.1 hP 1 rfl rfl 0 (by decide) (nf_37 hX.2.2.1) (fun _ h9 => h9) rfl dX9_count_155 ?_
  refine cz_i (wr := [(p0, .inr (6, [v1, v2, v3, v4, v5, v6, .ref p7, v8, v9, v10, v11])), (p7, .inr (0, [.int 268435455, v12, v13, v14, v15, v16, v17, v18, v19, v20, v21, v22]))]) (va_runSN (As := [.int 268435455]) (rest := []) ⟨hx, hb, hml, hown, hts⟩ (cX7_depth_0 l G k s.heap.size) ⟨va_cnB 1 hts gX9_count_X7_depth_n126 rfl rfl rfl (nm_24 hX.2.2.1) h3w (by decide +kernel) ⟨Nat.le_of_ble_eq_true rfl, Nat.le_of_ble_eq_true rfl⟩, h4w, trivial⟩ (cz_preS hZ hS hX hP hD [] rfl rfl) rfl rfl hl.1 rfl (lv_room (Nat.le_of_ble_eq_true rfl)) dX9_count_158 ⟨Nat.le_of_ble_eq_true rfl, Nat.le_of_ble_eq_true rfl⟩) hP hD hS hA [] [0, 1] rfl rfl (by decide) (by decide) (fun r u H locs hp hP hD hS => ?_)
  have hp : r = 0 := hp
  subst hp
  have hP9 := hP.sub (ws' := [(p0, .inr (6, [v1, v2, v3, v4, v5, v6, .ref p7, v8, v9, v10, v11])), (p7, .inr (0, [.int 268435455, v12, v13, v14, v15, v16, v17, v18, v19, v20, v21, v22]))]) [0, 1] rfl
  have hD9 := hD.sub (ws' := [(p0, .inr (6, [v1, v2, v3, v4, v5, v6, .ref p7, v8, v9, v10, v11])), (p7, .inr (0, [.int 268435455, v12, v13, v14, v15, v16, v17, v18, v19, v20, v21, v22]))]) [0, 1] (by decide) rfl
  exact W.iret (v := 0) hx hb hr (fun t ht hW => ⟨⟨0, (), rfl, rfl, by rw [ht]; exact hP9, hD9⟩, hS.F ht⟩) hS.2.2 dX9_count_161

set_option maxHeartbeats 4000000 in
set_option maxRecDepth 100000 in
theorem cX9_count_9 (l : Launch) (G : va_G) (k : Nat → ClassId) (p0 : Nat) (v1 : Value) (v2 : Value) (v3 : Value) (v4 : Value) (v5 : Value) (v6 : Value) (p7 : Nat) (v8 : Value) (v9 : Value) (v10 : Value) (v11 : Value) (v12 : Value) (v13 : Value) (v14 : Value) (v15 : Value) (v16 : Value) (v17 : Value) (v18 : Value) (v19 : Value) (v20 : Value) (v21 : Value) (v22 : Value) (sz : Nat) : CMi l G k yX9_count wsX9_count ({ frames := 0, cells := 0, slots := 0, locals := 0 }) [.ref p0, .int 9] sz [(p0, .inr (6, [v1, v2, v3, v4, v5, v6, .ref p7, v8, v9, v10, v11])), (p7, .inr (0, [v12, .int 0, v13, v14, v15, v16, v17, v18, v19, v20, v21, v22]))] (fun r (u : Unit) => r = 0) (fun (u : Unit) => [(p0, .inr (6, [v1, v2, v3, v4, v5, v6, .ref p7, v8, v9, v10, v11])), (p7, .inr (0, [v12, .int 0, v13, v14, v15, v16, v17, v18, v19, v20, v21, v22]))]) := by
  refine Met.ofW (cc := cX9_count) (maxL := 2) (ret := (some .int)) (by decide) rfl ?_
  intro p e s m args below meth c s₁ B hml hv
  obtain ⟨rfl, hsz, hP, hX, hD0, hZ0⟩ := hv
  have hx := B.exec
  have hb := B.bytes
  have hr := B.returns
  have hts := atoms_spec (ws := wsX9_count) B.pre
  have hown : s.vm.findClass RX9 = some m.cls := findClass_of_methodNamed B.named
  subst hsz
  have hD := hD0.self (sz := s.heap.size)
  have hZ := ZX.up hP hZ0
  generalize hAe : va_A [(p0, .inr (6, [v1, v2, v3, v4, v5, v6, .ref p7, v8, v9, v10, v11])), (p7, .inr (0, [v12, .int 0, v13, v14, v15, v16, v17, v18, v19, v20, v21, v22]))] s.heap.size = A at hD hZ ⊢
  have hA : ∀ q : Nat, s.heap.size ≤ q → A q := fun q h => by rw [← hAe]; exact Or.inr h
  have hS : va_S A s.heap s.heap [] := va_S.rf
  have hP : va_P G vwCl [(p0, .inr (6, [v1, v2, v3, v4, v5, v6, .ref p7, v8, v9, v10, v11])), (p7, .inr (0, [v12, .int 0, v13, v14, v15, v16, v17, v18, v19, v20, v21, v22]))] s.heap := hP
  have hl := lv_entry ([.ref p0, .int 9]) (n := 2) (Nat.le_of_ble_eq_true rfl)
  rw [lg_entry_eq]
  generalize (lg_sl ([.ref p0, .int 9]) ++ List.replicate (2 - (lg_sl ([.ref p0, .int 9])).length) Slot.unset).toArray = ls at hl ⊢
  have hl : lv_has ls 2 [(0, .ref p0), (1, .int 9)] := hl
  have h0w := hts (.fieldLink RX9 42 "RopeTown" "book" "LRopeTown$Book;") (by decide +kernel)
  have h1w : ∀ w ∈ wsX90, w ∈ wsX9_count := by decide +kernel
  have h2w : ∀ w ∈ wsX10, w ∈ wsX9_count := by decide +kernel
  refine lv_iload_n hx hb dX9_count_0 rfl (lv_at hl 1 rfl) ?_
  refine lv_tableIn (tgt := 162) hx hb dX9_count_1 (by decide +kernel) (by decide +kernel) (off := 161) (by decide +kernel) (by decide) ?_
  refine lv_aload_n hx hb dX9_count_162 rfl (lv_at hl 0 rfl) ?_
  refine va_get (D := G) (ci := 6) (v := .ref p7) (C := RX9) (T := TX9) (N := 11) (ref := RX9) hx hb hts h1w hown hX.1 hP 0 rfl rfl 6 (by decide) h0w (fun _ h9 => h9) rfl dX9_count_163 ?_
  refine va_getN (D := G) (ci := 0) (v := .int 0) (C := RX1) (T := TX1) (N := 12) (ref := RX1) (host := RX9) hx hb hts h2w hown hX.1 hP 1 rfl rfl 1 (by decide) (nf_38 hX.2.2.1) (fun _ h9 => h9) rfl dX9_count_166 ?_
  have hP9 := hP.sub (ws' := [(p0, .inr (6, [v1, v2, v3, v4, v5, v6, .ref p7, v8, v9, v10, v11])), (p7, .inr (0, [v12, .int 0, v13, v14, v15, v16, v17, v18, v19, v20, v21, v22]))]) [0, 1] rfl
  have hD9 := hD.sub (ws' := [(p0, .inr (6, [v1, v2, v3, v4, v5, v6, .ref p7, v8, v9, v10, v11])), (p7, .inr (0, [v12, .int 0, v13, v14, v15, v16, v17, v18, v19, v20, v21, v22]))]) [0, 1] (by decide) rfl
  exact W.iret (v := 0) hx hb hr (fun t ht hW => ⟨⟨0, (), rfl, rfl, by rw [ht]; exact hP9, hD9⟩, hS.F ht⟩) hS.2.2 dX9_count_169

set_option maxHeartbeats 4000000 in
set_option maxRecDepth 100000 in
theorem cX9_count_10 (l : Launch) (G : va_G) (k : Nat → ClassId) (p0 : Nat) (v1 : Value) (v2 : Value) (v3 : Value) (v4 : Value) (v5 : Value) (v6 : Value) (p7 : Nat) (v8 : Value) (v9 : Value) (v10 : Value) (v11 : Value) (v12 : Value) (v13 : Value) (v14 : Value) (v15 : Value) (v16 : Value) (v17 : Value) (v18 : Value) (v19 : Value) (v20 : Value) (v21 : Value) (v22 : Value) (sz : Nat) : CMi l G k yX9_count wsX9_count ({ frames := 0, cells := 0, slots := 0, locals := 0 }) [.ref p0, .int 10] sz [(p0, .inr (6, [v1, v2, v3, v4, v5, v6, .ref p7, v8, v9, v10, v11])), (p7, .inr (0, [v12, v13, .int 0, v14, v15, v16, v17, v18, v19, v20, v21, v22]))] (fun r (u : Unit) => r = 0) (fun (u : Unit) => [(p0, .inr (6, [v1, v2, v3, v4, v5, v6, .ref p7, v8, v9, v10, v11])), (p7, .inr (0, [v12, v13, .int 0, v14, v15, v16, v17, v18, v19, v20, v21, v22]))]) := by
  refine Met.ofW (cc := cX9_count) (maxL := 2) (ret := (some .int)) (by decide) rfl ?_
  intro p e s m args below meth c s₁ B hml hv
  obtain ⟨rfl, hsz, hP, hX, hD0, hZ0⟩ := hv
  have hx := B.exec
  have hb := B.bytes
  have hr := B.returns
  have hts := atoms_spec (ws := wsX9_count) B.pre
  have hown : s.vm.findClass RX9 = some m.cls := findClass_of_methodNamed B.named
  subst hsz
  have hD := hD0.self (sz := s.heap.size)
  have hZ := ZX.up hP hZ0
  generalize hAe : va_A [(p0, .inr (6, [v1, v2, v3, v4, v5, v6, .ref p7, v8, v9, v10, v11])), (p7, .inr (0, [v12, v13, .int 0, v14, v15, v16, v17, v18, v19, v20, v21, v22]))] s.heap.size = A at hD hZ ⊢
  have hA : ∀ q : Nat, s.heap.size ≤ q → A q := fun q h => by rw [← hAe]; exact Or.inr h
  have hS : va_S A s.heap s.heap [] := va_S.rf
  have hP : va_P G vwCl [(p0, .inr (6, [v1, v2, v3, v4, v5, v6, .ref p7, v8, v9, v10, v11])), (p7, .inr (0, [v12, v13, .int 0, v14, v15, v16, v17, v18, v19, v20, v21, v22]))] s.heap := hP
  have hl := lv_entry ([.ref p0, .int 10]) (n := 2) (Nat.le_of_ble_eq_true rfl)
  rw [lg_entry_eq]
  generalize (lg_sl ([.ref p0, .int 10]) ++ List.replicate (2 - (lg_sl ([.ref p0, .int 10])).length) Slot.unset).toArray = ls at hl ⊢
  have hl : lv_has ls 2 [(0, .ref p0), (1, .int 10)] := hl
  have h0w := hts (.fieldLink RX9 42 "RopeTown" "book" "LRopeTown$Book;") (by decide +kernel)
  have h1w : ∀ w ∈ wsX90, w ∈ wsX9_count := by decide +kernel
  have h2w : ∀ w ∈ wsX10, w ∈ wsX9_count := by decide +kernel
  refine lv_iload_n hx hb dX9_count_0 rfl (lv_at hl 1 rfl) ?_
  refine lv_tableIn (tgt := 170) hx hb dX9_count_1 (by decide +kernel) (by decide +kernel) (off := 169) (by decide +kernel) (by decide) ?_
  refine lv_aload_n hx hb dX9_count_170 rfl (lv_at hl 0 rfl) ?_
  refine va_get (D := G) (ci := 6) (v := .ref p7) (C := RX9) (T := TX9) (N := 11) (ref := RX9) hx hb hts h1w hown hX.1 hP 0 rfl rfl 6 (by decide) h0w (fun _ h9 => h9) rfl dX9_count_171 ?_
  refine va_getN (D := G) (ci := 0) (v := .int 0) (C := RX1) (T := TX1) (N := 12) (ref := RX1) (host := RX9) hx hb hts h2w hown hX.1 hP 1 rfl rfl 2 (by decide) (nf_39 hX.2.2.1) (fun _ h9 => h9) rfl dX9_count_174 ?_
  have hP9 := hP.sub (ws' := [(p0, .inr (6, [v1, v2, v3, v4, v5, v6, .ref p7, v8, v9, v10, v11])), (p7, .inr (0, [v12, v13, .int 0, v14, v15, v16, v17, v18, v19, v20, v21, v22]))]) [0, 1] rfl
  have hD9 := hD.sub (ws' := [(p0, .inr (6, [v1, v2, v3, v4, v5, v6, .ref p7, v8, v9, v10, v11])), (p7, .inr (0, [v12, v13, .int 0, v14, v15, v16, v17, v18, v19, v20, v21, v22]))]) [0, 1] (by decide) rfl
  exact W.iret (v := 0) hx hb hr (fun t ht hW => ⟨⟨0, (), rfl, rfl, by rw [ht]; exact hP9, hD9⟩, hS.F ht⟩) hS.2.2 dX9_count_177

set_option maxHeartbeats 4000000 in
set_option maxRecDepth 100000 in
theorem cX9_count_11 (l : Launch) (G : va_G) (k : Nat → ClassId) (p0 : Nat) (v1 : Value) (v2 : Value) (v3 : Value) (v4 : Value) (v5 : Value) (v6 : Value) (p7 : Nat) (v8 : Value) (v9 : Value) (v10 : Value) (v11 : Value) (v12 : Value) (v13 : Value) (v14 : Value) (v15 : Value) (v16 : Value) (v17 : Value) (v18 : Value) (v19 : Value) (v20 : Value) (v21 : Value) (v22 : Value) (sz : Nat) : CMi l G k yX9_count wsX9_count ({ frames := 0, cells := 0, slots := 0, locals := 0 }) [.ref p0, .int 11] sz [(p0, .inr (6, [v1, v2, v3, v4, v5, v6, .ref p7, v8, v9, v10, v11])), (p7, .inr (0, [v12, v13, v14, .int 0, v15, v16, v17, v18, v19, v20, v21, v22]))] (fun r (u : Unit) => r = 0) (fun (u : Unit) => [(p0, .inr (6, [v1, v2, v3, v4, v5, v6, .ref p7, v8, v9, v10, v11])), (p7, .inr (0, [v12, v13, v14, .int 0, v15, v16, v17, v18, v19, v20, v21, v22]))]) := by
  refine Met.ofW (cc := cX9_count) (maxL := 2) (ret := (some .int)) (by decide) rfl ?_
  intro p e s m args below meth c s₁ B hml hv
  obtain ⟨rfl, hsz, hP, hX, hD0, hZ0⟩ := hv
  have hx := B.exec
  have hb := B.bytes
  have hr := B.returns
  have hts := atoms_spec (ws := wsX9_count) B.pre
  have hown : s.vm.findClass RX9 = some m.cls := findClass_of_methodNamed B.named
  subst hsz
  have hD := hD0.self (sz := s.heap.size)
  have hZ := ZX.up hP hZ0
  generalize hAe : va_A [(p0, .inr (6, [v1, v2, v3, v4, v5, v6, .ref p7, v8, v9, v10, v11])), (p7, .inr (0, [v12, v13, v14, .int 0, v15, v16, v17, v18, v19, v20, v21, v22]))] s.heap.size = A at hD hZ ⊢
  have hA : ∀ q : Nat, s.heap.size ≤ q → A q := fun q h => by rw [← hAe]; exact Or.inr h
  have hS : va_S A s.heap s.heap [] := va_S.rf
  have hP : va_P G vwCl [(p0, .inr (6, [v1, v2, v3, v4, v5, v6, .ref p7, v8, v9, v10, v11])), (p7, .inr (0, [v12, v13, v14, .int 0, v15, v16, v17, v18, v19, v20, v21, v22]))] s.heap := hP
  have hl := lv_entry ([.ref p0, .int 11]) (n := 2) (Nat.le_of_ble_eq_true rfl)
  rw [lg_entry_eq]
  generalize (lg_sl ([.ref p0, .int 11]) ++ List.replicate (2 - (lg_sl ([.ref p0, .int 11])).length) Slot.unset).toArray = ls at hl ⊢
  have hl : lv_has ls 2 [(0, .ref p0), (1, .int 11)] := hl
  have h0w := hts (.fieldLink RX9 42 "RopeTown" "book" "LRopeTown$Book;") (by decide +kernel)
  have h1w : ∀ w ∈ wsX90, w ∈ wsX9_count := by decide +kernel
  have h2w : ∀ w ∈ wsX10, w ∈ wsX9_count := by decide +kernel
  refine lv_iload_n hx hb dX9_count_0 rfl (lv_at hl 1 rfl) ?_
  refine lv_tableIn (tgt := 178) hx hb dX9_count_1 (by decide +kernel) (by decide +kernel) (off := 177) (by decide +kernel) (by decide) ?_
  refine lv_aload_n hx hb dX9_count_178 rfl (lv_at hl 0 rfl) ?_
  refine va_get (D := G) (ci := 6) (v := .ref p7) (C := RX9) (T := TX9) (N := 11) (ref := RX9) hx hb hts h1w hown hX.1 hP 0 rfl rfl 6 (by decide) h0w (fun _ h9 => h9) rfl dX9_count_179 ?_
  refine va_getN (D := G) (ci := 0) (v := .int 0) (C := RX1) (T := TX1) (N := 12) (ref := RX1) (host := RX9) hx hb hts h2w hown hX.1 hP 1 rfl rfl 3 (by decide) (nf_40 hX.2.2.1) (fun _ h9 => h9) rfl dX9_count_182 ?_
  have hP9 := hP.sub (ws' := [(p0, .inr (6, [v1, v2, v3, v4, v5, v6, .ref p7, v8, v9, v10, v11])), (p7, .inr (0, [v12, v13, v14, .int 0, v15, v16, v17, v18, v19, v20, v21, v22]))]) [0, 1] rfl
  have hD9 := hD.sub (ws' := [(p0, .inr (6, [v1, v2, v3, v4, v5, v6, .ref p7, v8, v9, v10, v11])), (p7, .inr (0, [v12, v13, v14, .int 0, v15, v16, v17, v18, v19, v20, v21, v22]))]) [0, 1] (by decide) rfl
  exact W.iret (v := 0) hx hb hr (fun t ht hW => ⟨⟨0, (), rfl, rfl, by rw [ht]; exact hP9, hD9⟩, hS.F ht⟩) hS.2.2 dX9_count_185

set_option maxHeartbeats 4000000 in
set_option maxRecDepth 100000 in
theorem cX9_count_12 (l : Launch) (G : va_G) (k : Nat → ClassId) (p0 : Nat) (v1 : Value) (v2 : Value) (v3 : Value) (v4 : Value) (v5 : Value) (v6 : Value) (p7 : Nat) (v8 : Value) (v9 : Value) (v10 : Value) (v11 : Value) (v12 : Value) (v13 : Value) (v14 : Value) (v15 : Value) (v16 : Value) (v17 : Value) (v18 : Value) (v19 : Value) (v20 : Value) (v21 : Value) (v22 : Value) (sz : Nat) : CMi l G k yX9_count wsX9_count ({ frames := 0, cells := 0, slots := 0, locals := 0 }) [.ref p0, .int 12] sz [(p0, .inr (6, [v1, v2, v3, v4, v5, v6, .ref p7, v8, v9, v10, v11])), (p7, .inr (0, [v12, v13, v14, v15, .int 0, v16, v17, v18, v19, v20, v21, v22]))] (fun r (u : Unit) => r = 0) (fun (u : Unit) => [(p0, .inr (6, [v1, v2, v3, v4, v5, v6, .ref p7, v8, v9, v10, v11])), (p7, .inr (0, [v12, v13, v14, v15, .int 0, v16, v17, v18, v19, v20, v21, v22]))]) := by
  refine Met.ofW (cc := cX9_count) (maxL := 2) (ret := (some .int)) (by decide) rfl ?_
  intro p e s m args below meth c s₁ B hml hv
  obtain ⟨rfl, hsz, hP, hX, hD0, hZ0⟩ := hv
  have hx := B.exec
  have hb := B.bytes
  have hr := B.returns
  have hts := atoms_spec (ws := wsX9_count) B.pre
  have hown : s.vm.findClass RX9 = some m.cls := findClass_of_methodNamed B.named
  subst hsz
  have hD := hD0.self (sz := s.heap.size)
  have hZ := ZX.up hP hZ0
  generalize hAe : va_A [(p0, .inr (6, [v1, v2, v3, v4, v5, v6, .ref p7, v8, v9, v10, v11])), (p7, .inr (0, [v12, v13, v14, v15, .int 0, v16, v17, v18, v19, v20, v21, v22]))] s.heap.size = A at hD hZ ⊢
  have hA : ∀ q : Nat, s.heap.size ≤ q → A q := fun q h => by rw [← hAe]; exact Or.inr h
  have hS : va_S A s.heap s.heap [] := va_S.rf
  have hP : va_P G vwCl [(p0, .inr (6, [v1, v2, v3, v4, v5, v6, .ref p7, v8, v9, v10, v11])), (p7, .inr (0, [v12, v13, v14, v15, .int 0, v16, v17, v18, v19, v20, v21, v22]))] s.heap := hP
  have hl := lv_entry ([.ref p0, .int 12]) (n := 2) (Nat.le_of_ble_eq_true rfl)
  rw [lg_entry_eq]
  generalize (lg_sl ([.ref p0, .int 12]) ++ List.replicate (2 - (lg_sl ([.ref p0, .int 12])).length) Slot.unset).toArray = ls at hl ⊢
  have hl : lv_has ls 2 [(0, .ref p0), (1, .int 12)] := hl
  have h0w := hts (.fieldLink RX9 42 "RopeTown" "book" "LRopeTown$Book;") (by decide +kernel)
  have h1w : ∀ w ∈ wsX90, w ∈ wsX9_count := by decide +kernel
  have h2w : ∀ w ∈ wsX10, w ∈ wsX9_count := by decide +kernel
  refine lv_iload_n hx hb dX9_count_0 rfl (lv_at hl 1 rfl) ?_
  refine lv_tableIn (tgt := 186) hx hb dX9_count_1 (by decide +kernel) (by decide +kernel) (off := 185) (by decide +kernel) (by decide) ?_
  refine lv_aload_n hx hb dX9_count_186 rfl (lv_at hl 0 rfl) ?_
  refine va_get (D := G) (ci := 6) (v := .ref p7) (C := RX9) (T := TX9) (N := 11) (ref := RX9) hx hb hts h1w hown hX.1 hP 0 rfl rfl 6 (by decide) h0w (fun _ h9 => h9) rfl dX9_count_187 ?_
  refine va_getN (D := G) (ci := 0) (v := .int 0) (C := RX1) (T := TX1) (N := 12) (ref := RX1) (host := RX9) hx hb hts h2w hown hX.1 hP 1 rfl rfl 4 (by decide) (nf_41 hX.2.2.1) (fun _ h9 => h9) rfl dX9_count_190 ?_
  have hP9 := hP.sub (ws' := [(p0, .inr (6, [v1, v2, v3, v4, v5, v6, .ref p7, v8, v9, v10, v11])), (p7, .inr (0, [v12, v13, v14, v15, .int 0, v16, v17, v18, v19, v20, v21, v22]))]) [0, 1] rfl
  have hD9 := hD.sub (ws' := [(p0, .inr (6, [v1, v2, v3, v4, v5, v6, .ref p7, v8, v9, v10, v11])), (p7, .inr (0, [v12, v13, v14, v15, .int 0, v16, v17, v18, v19, v20, v21, v22]))]) [0, 1] (by decide) rfl
  exact W.iret (v := 0) hx hb hr (fun t ht hW => ⟨⟨0, (), rfl, rfl, by rw [ht]; exact hP9, hD9⟩, hS.F ht⟩) hS.2.2 dX9_count_193

set_option maxHeartbeats 4000000 in
set_option maxRecDepth 100000 in
theorem cX9_count_13 (l : Launch) (G : va_G) (k : Nat → ClassId) (p0 : Nat) (v1 : Value) (v2 : Value) (v3 : Value) (v4 : Value) (v5 : Value) (v6 : Value) (v7 : Value) (v8 : Value) (v9 : Value) (v10 : Value) (sz : Nat) : CMi l G k yX9_count wsX9_count ({ frames := 0, cells := 0, slots := 0, locals := 0 }) [.ref p0, .int 13] sz [(p0, .inr (6, [v1, .int 0, v2, v3, v4, v5, v6, v7, v8, v9, v10]))] (fun r (u : Unit) => r = 0) (fun (u : Unit) => [(p0, .inr (6, [v1, .int 0, v2, v3, v4, v5, v6, v7, v8, v9, v10]))]) := by
  refine Met.ofW (cc := cX9_count) (maxL := 2) (ret := (some .int)) (by decide) rfl ?_
  intro p e s m args below meth c s₁ B hml hv
  obtain ⟨rfl, hsz, hP, hX, hD0, hZ0⟩ := hv
  have hx := B.exec
  have hb := B.bytes
  have hr := B.returns
  have hts := atoms_spec (ws := wsX9_count) B.pre
  have hown : s.vm.findClass RX9 = some m.cls := findClass_of_methodNamed B.named
  subst hsz
  have hD := hD0.self (sz := s.heap.size)
  have hZ := ZX.up hP hZ0
  generalize hAe : va_A [(p0, .inr (6, [v1, .int 0, v2, v3, v4, v5, v6, v7, v8, v9, v10]))] s.heap.size = A at hD hZ ⊢
  have hA : ∀ q : Nat, s.heap.size ≤ q → A q := fun q h => by rw [← hAe]; exact Or.inr h
  have hS : va_S A s.heap s.heap [] := va_S.rf
  have hP : va_P G vwCl [(p0, .inr (6, [v1, .int 0, v2, v3, v4, v5, v6, v7, v8, v9, v10]))] s.heap := hP
  have hl := lv_entry ([.ref p0, .int 13]) (n := 2) (Nat.le_of_ble_eq_true rfl)
  rw [lg_entry_eq]
  generalize (lg_sl ([.ref p0, .int 13]) ++ List.replicate (2 - (lg_sl ([.ref p0, .int 13])).length) Slot.unset).toArray = ls at hl ⊢
  have hl : lv_has ls 2 [(0, .ref p0), (1, .int 13)] := hl
  have h0w := hts (.fieldLink RX9 13 "RopeTown" "fed" "I") (by decide +kernel)
  have h1w : ∀ w ∈ wsX90, w ∈ wsX9_count := by decide +kernel
  refine lv_iload_n hx hb dX9_count_0 rfl (lv_at hl 1 rfl) ?_
  refine lv_tableIn (tgt := 194) hx hb dX9_count_1 (by decide +kernel) (by decide +kernel) (off := 193) (by decide +kernel) (by decide) ?_
  refine lv_aload_n hx hb dX9_count_194 rfl (lv_at hl 0 rfl) ?_
  refine va_get (D := G) (ci := 6) (v := .int 0) (C := RX9) (T := TX9) (N := 11) (ref := RX9) hx hb hts h1w hown hX.1 hP 0 rfl rfl 1 (by decide) h0w (fun _ h9 => h9) rfl dX9_count_195 ?_
  have hP9 := hP.sub (ws' := [(p0, .inr (6, [v1, .int 0, v2, v3, v4, v5, v6, v7, v8, v9, v10]))]) [0] rfl
  have hD9 := hD.sub (ws' := [(p0, .inr (6, [v1, .int 0, v2, v3, v4, v5, v6, v7, v8, v9, v10]))]) [0] (by decide) rfl
  exact W.iret (v := 0) hx hb hr (fun t ht hW => ⟨⟨0, (), rfl, rfl, by rw [ht]; exact hP9, hD9⟩, hS.F ht⟩) hS.2.2 dX9_count_198

set_option maxHeartbeats 4000000 in
set_option maxRecDepth 100000 in
theorem cX9_count_14 (l : Launch) (G : va_G) (k : Nat → ClassId) (p0 : Nat) (v1 : Value) (v2 : Value) (v3 : Value) (v4 : Value) (v5 : Value) (v6 : Value) (p7 : Nat) (v8 : Value) (v9 : Value) (v10 : Value) (v11 : Value) (v12 : Value) (v13 : Value) (v14 : Value) (v15 : Value) (v16 : Value) (v17 : Value) (v18 : Value) (v19 : Value) (v20 : Value) (v21 : Value) (v22 : Value) (p23 : Nat) (sz : Nat) : CMi l G k yX9_count wsX9_count ({ frames := 0, cells := 0, slots := 0, locals := 0 }) [.ref p0, .int 14] sz [(p0, .inr (6, [v1, v2, v3, v4, v5, v6, .ref p7, v8, v9, v10, v11])), (p7, .inr (0, [v12, v13, v14, v15, v16, v17, v18, v19, v20, v21, v22, .ref p23])), (p23, .inl (k 0, 3, .inl (fun _ => 0)))] (fun r (u : Unit) => r = 0) (fun (u : Unit) => [(p0, .inr (6, [v1, v2, v3, v4, v5, v6, .ref p7, v8, v9, v10, v11])), (p7, .inr (0, [v12, v13, v14, v15, v16, v17, v18, v19, v20, v21, v22, .ref p23])), (p23, .inl (k 0, 3, .inl (fun _ => 0)))]) := by
  refine Met.ofW (cc := cX9_count) (maxL := 2) (ret := (some .int)) (by decide) rfl ?_
  intro p e s m args below meth c s₁ B hml hv
  obtain ⟨rfl, hsz, hP, hX, hD0, hZ0⟩ := hv
  have hx := B.exec
  have hb := B.bytes
  have hr := B.returns
  have hts := atoms_spec (ws := wsX9_count) B.pre
  have hown : s.vm.findClass RX9 = some m.cls := findClass_of_methodNamed B.named
  subst hsz
  have hD := hD0.self (sz := s.heap.size)
  have hZ := ZX.up hP hZ0
  generalize hAe : va_A [(p0, .inr (6, [v1, v2, v3, v4, v5, v6, .ref p7, v8, v9, v10, v11])), (p7, .inr (0, [v12, v13, v14, v15, v16, v17, v18, v19, v20, v21, v22, .ref p23])), (p23, .inl (k 0, 3, .inl (fun _ => 0)))] s.heap.size = A at hD hZ ⊢
  have hA : ∀ q : Nat, s.heap.size ≤ q → A q := fun q h => by rw [← hAe]; exact Or.inr h
  have hS : va_S A s.heap s.heap [] := va_S.rf
  have hP : va_P G vwCl [(p0, .inr (6, [v1, v2, v3, v4, v5, v6, .ref p7, v8, v9, v10, v11])), (p7, .inr (0, [v12, v13, v14, v15, v16, v17, v18, v19, v20, v21, v22, .ref p23])), (p23, .inl (k 0, 3, .inl (fun _ => 0)))] s.heap := hP
  have hl := lv_entry ([.ref p0, .int 14]) (n := 2) (Nat.le_of_ble_eq_true rfl)
  rw [lg_entry_eq]
  generalize (lg_sl ([.ref p0, .int 14]) ++ List.replicate (2 - (lg_sl ([.ref p0, .int 14])).length) Slot.unset).toArray = ls at hl ⊢
  have hl : lv_has ls 2 [(0, .ref p0), (1, .int 14)] := hl
  have h0w := hts (.fieldLink RX9 42 "RopeTown" "book" "LRopeTown$Book;") (by decide +kernel)
  have h1w : ∀ w ∈ wsX90, w ∈ wsX9_count := by decide +kernel
  have h2w : ∀ w ∈ wsX10, w ∈ wsX9_count := by decide +kernel
  refine lv_iload_n hx hb dX9_count_0 rfl (lv_at hl 1 rfl) ?_
  refine lv_tableIn (tgt := 199) hx hb dX9_count_1 (by decide +kernel) (by decide +kernel) (off := 198) (by decide +kernel) (by decide) ?_
  refine lv_aload_n hx hb dX9_count_199 rfl (lv_at hl 0 rfl) ?_
  refine va_get (D := G) (ci := 6) (v := .ref p7) (C := RX9) (T := TX9) (N := 11) (ref := RX9) hx hb hts h1w hown hX.1 hP 0 rfl rfl 6 (by decide) h0w (fun _ h9 => h9) rfl dX9_count_200 ?_
  refine va_getN (D := G) (ci := 0) (v := .ref p23) (C := RX1) (T := TX1) (N := 12) (ref := RX1) (host := RX9) hx hb hts h2w hown hX.1 hP 1 rfl rfl 11 (by decide) (nf_47 hX.2.2.1) (fun _ h9 => h9) rfl dX9_count_203 ?_
  refine lv_iconst (v := 0) hx hb dX9_count_206 (by decide +kernel) ?_
  refine va_iald hx hb hX.1 hP 2 0 rfl rfl (by unfold vp_in; decide +kernel) dX9_count_207 ?_
  refine cz_ti (w := 0) (by rfl) ?_
  have hP9 := hP.sub (ws' := [(p0, .inr (6, [v1, v2, v3, v4, v5, v6, .ref p7, v8, v9, v10, v11])), (p7, .inr (0, [v12, v13, v14, v15, v16, v17, v18, v19, v20, v21, v22, .ref p23])), (p23, .inl (k 0, 3, .inl (fun _ => 0)))]) [0, 1, 2] rfl
  have hD9 := hD.sub (ws' := [(p0, .inr (6, [v1, v2, v3, v4, v5, v6, .ref p7, v8, v9, v10, v11])), (p7, .inr (0, [v12, v13, v14, v15, v16, v17, v18, v19, v20, v21, v22, .ref p23])), (p23, .inl (k 0, 3, .inl (fun _ => 0)))]) [0, 1, 2] (by decide) rfl
  exact W.iret (v := 0) hx hb hr (fun t ht hW => ⟨⟨0, (), rfl, rfl, by rw [ht]; exact hP9, hD9⟩, hS.F ht⟩) hS.2.2 dX9_count_208

set_option maxHeartbeats 4000000 in
set_option maxRecDepth 100000 in
theorem cX9_count_15 (l : Launch) (G : va_G) (k : Nat → ClassId) (p0 : Nat) (v1 : Value) (v2 : Value) (v3 : Value) (v4 : Value) (v5 : Value) (v6 : Value) (p7 : Nat) (v8 : Value) (v9 : Value) (v10 : Value) (v11 : Value) (v12 : Value) (v13 : Value) (v14 : Value) (v15 : Value) (v16 : Value) (v17 : Value) (v18 : Value) (v19 : Value) (v20 : Value) (v21 : Value) (v22 : Value) (p23 : Nat) (sz : Nat) : CMi l G k yX9_count wsX9_count ({ frames := 0, cells := 0, slots := 0, locals := 0 }) [.ref p0, .int 15] sz [(p0, .inr (6, [v1, v2, v3, v4, v5, v6, .ref p7, v8, v9, v10, v11])), (p7, .inr (0, [v12, v13, v14, v15, v16, v17, v18, v19, v20, v21, v22, .ref p23])), (p23, .inl (k 0, 3, .inl (fun _ => 0)))] (fun r (u : Unit) => r = 0) (fun (u : Unit) => [(p0, .inr (6, [v1, v2, v3, v4, v5, v6, .ref p7, v8, v9, v10, v11])), (p7, .inr (0, [v12, v13, v14, v15, v16, v17, v18, v19, v20, v21, v22, .ref p23])), (p23, .inl (k 0, 3, .inl (fun _ => 0)))]) := by
  refine Met.ofW (cc := cX9_count) (maxL := 2) (ret := (some .int)) (by decide) rfl ?_
  intro p e s m args below meth c s₁ B hml hv
  obtain ⟨rfl, hsz, hP, hX, hD0, hZ0⟩ := hv
  have hx := B.exec
  have hb := B.bytes
  have hr := B.returns
  have hts := atoms_spec (ws := wsX9_count) B.pre
  have hown : s.vm.findClass RX9 = some m.cls := findClass_of_methodNamed B.named
  subst hsz
  have hD := hD0.self (sz := s.heap.size)
  have hZ := ZX.up hP hZ0
  generalize hAe : va_A [(p0, .inr (6, [v1, v2, v3, v4, v5, v6, .ref p7, v8, v9, v10, v11])), (p7, .inr (0, [v12, v13, v14, v15, v16, v17, v18, v19, v20, v21, v22, .ref p23])), (p23, .inl (k 0, 3, .inl (fun _ => 0)))] s.heap.size = A at hD hZ ⊢
  have hA : ∀ q : Nat, s.heap.size ≤ q → A q := fun q h => by rw [← hAe]; exact Or.inr h
  have hS : va_S A s.heap s.heap [] := va_S.rf
  have hP : va_P G vwCl [(p0, .inr (6, [v1, v2, v3, v4, v5, v6, .ref p7, v8, v9, v10, v11])), (p7, .inr (0, [v12, v13, v14, v15, v16, v17, v18, v19, v20, v21, v22, .ref p23])), (p23, .inl (k 0, 3, .inl (fun _ => 0)))] s.heap := hP
  have hl := lv_entry ([.ref p0, .int 15]) (n := 2) (Nat.le_of_ble_eq_true rfl)
  rw [lg_entry_eq]
  generalize (lg_sl ([.ref p0, .int 15]) ++ List.replicate (2 - (lg_sl ([.ref p0, .int 15])).length) Slot.unset).toArray = ls at hl ⊢
  have hl : lv_has ls 2 [(0, .ref p0), (1, .int 15)] := hl
  have h0w := hts (.fieldLink RX9 42 "RopeTown" "book" "LRopeTown$Book;") (by decide +kernel)
  have h1w : ∀ w ∈ wsX90, w ∈ wsX9_count := by decide +kernel
  have h2w : ∀ w ∈ wsX10, w ∈ wsX9_count := by decide +kernel
  refine lv_iload_n hx hb dX9_count_0 rfl (lv_at hl 1 rfl) ?_
  refine lv_tableIn (tgt := 209) hx hb dX9_count_1 (by decide +kernel) (by decide +kernel) (off := 208) (by decide +kernel) (by decide) ?_
  refine lv_aload_n hx hb dX9_count_209 rfl (lv_at hl 0 rfl) ?_
  refine va_get (D := G) (ci := 6) (v := .ref p7) (C := RX9) (T := TX9) (N := 11) (ref := RX9) hx hb hts h1w hown hX.1 hP 0 rfl rfl 6 (by decide) h0w (fun _ h9 => h9) rfl dX9_count_210 ?_
  refine va_getN (D := G) (ci := 0) (v := .ref p23) (C := RX1) (T := TX1) (N := 12) (ref := RX1) (host := RX9) hx hb hts h2w hown hX.1 hP 1 rfl rfl 11 (by decide) (nf_47 hX.2.2.1) (fun _ h9 => h9) rfl dX9_count_213 ?_
  refine lv_iconst (v := 1) hx hb dX9_count_216 (by decide +kernel) ?_
  refine va_iald hx hb hX.1 hP 2 0 rfl rfl (by unfold vp_in; decide +kernel) dX9_count_217 ?_
  refine cz_ti (w := 0) (by rfl) ?_
  have hP9 := hP.sub (ws' := [(p0, .inr (6, [v1, v2, v3, v4, v5, v6, .ref p7, v8, v9, v10, v11])), (p7, .inr (0, [v12, v13, v14, v15, v16, v17, v18, v19, v20, v21, v22, .ref p23])), (p23, .inl (k 0, 3, .inl (fun _ => 0)))]) [0, 1, 2] rfl
  have hD9 := hD.sub (ws' := [(p0, .inr (6, [v1, v2, v3, v4, v5, v6, .ref p7, v8, v9, v10, v11])), (p7, .inr (0, [v12, v13, v14, v15, v16, v17, v18, v19, v20, v21, v22, .ref p23])), (p23, .inl (k 0, 3, .inl (fun _ => 0)))]) [0, 1, 2] (by decide) rfl
  exact W.iret (v := 0) hx hb hr (fun t ht hW => ⟨⟨0, (), rfl, rfl, by rw [ht]; exact hP9, hD9⟩, hS.F ht⟩) hS.2.2 dX9_count_218

set_option maxHeartbeats 4000000 in
set_option maxRecDepth 100000 in
theorem cX9_count_16 (l : Launch) (G : va_G) (k : Nat → ClassId) (p0 : Nat) (v1 : Value) (v2 : Value) (v3 : Value) (v4 : Value) (v5 : Value) (v6 : Value) (p7 : Nat) (v8 : Value) (v9 : Value) (v10 : Value) (v11 : Value) (v12 : Value) (v13 : Value) (v14 : Value) (v15 : Value) (v16 : Value) (v17 : Value) (v18 : Value) (v19 : Value) (v20 : Value) (v21 : Value) (v22 : Value) (p23 : Nat) (sz : Nat) : CMi l G k yX9_count wsX9_count ({ frames := 0, cells := 0, slots := 0, locals := 0 }) [.ref p0, .int 16] sz [(p0, .inr (6, [v1, v2, v3, v4, v5, v6, .ref p7, v8, v9, v10, v11])), (p7, .inr (0, [v12, v13, v14, v15, v16, v17, v18, v19, v20, v21, v22, .ref p23])), (p23, .inl (k 0, 3, .inl (fun _ => 0)))] (fun r (u : Unit) => r = 0) (fun (u : Unit) => [(p0, .inr (6, [v1, v2, v3, v4, v5, v6, .ref p7, v8, v9, v10, v11])), (p7, .inr (0, [v12, v13, v14, v15, v16, v17, v18, v19, v20, v21, v22, .ref p23])), (p23, .inl (k 0, 3, .inl (fun _ => 0)))]) := by
  refine Met.ofW (cc := cX9_count) (maxL := 2) (ret := (some .int)) (by decide) rfl ?_
  intro p e s m args below meth c s₁ B hml hv
  obtain ⟨rfl, hsz, hP, hX, hD0, hZ0⟩ := hv
  have hx := B.exec
  have hb := B.bytes
  have hr := B.returns
  have hts := atoms_spec (ws := wsX9_count) B.pre
  have hown : s.vm.findClass RX9 = some m.cls := findClass_of_methodNamed B.named
  subst hsz
  have hD := hD0.self (sz := s.heap.size)
  have hZ := ZX.up hP hZ0
  generalize hAe : va_A [(p0, .inr (6, [v1, v2, v3, v4, v5, v6, .ref p7, v8, v9, v10, v11])), (p7, .inr (0, [v12, v13, v14, v15, v16, v17, v18, v19, v20, v21, v22, .ref p23])), (p23, .inl (k 0, 3, .inl (fun _ => 0)))] s.heap.size = A at hD hZ ⊢
  have hA : ∀ q : Nat, s.heap.size ≤ q → A q := fun q h => by rw [← hAe]; exact Or.inr h
  have hS : va_S A s.heap s.heap [] := va_S.rf
  have hP : va_P G vwCl [(p0, .inr (6, [v1, v2, v3, v4, v5, v6, .ref p7, v8, v9, v10, v11])), (p7, .inr (0, [v12, v13, v14, v15, v16, v17, v18, v19, v20, v21, v22, .ref p23])), (p23, .inl (k 0, 3, .inl (fun _ => 0)))] s.heap := hP
  have hl := lv_entry ([.ref p0, .int 16]) (n := 2) (Nat.le_of_ble_eq_true rfl)
  rw [lg_entry_eq]
  generalize (lg_sl ([.ref p0, .int 16]) ++ List.replicate (2 - (lg_sl ([.ref p0, .int 16])).length) Slot.unset).toArray = ls at hl ⊢
  have hl : lv_has ls 2 [(0, .ref p0), (1, .int 16)] := hl
  have h0w := hts (.fieldLink RX9 42 "RopeTown" "book" "LRopeTown$Book;") (by decide +kernel)
  have h1w : ∀ w ∈ wsX90, w ∈ wsX9_count := by decide +kernel
  have h2w : ∀ w ∈ wsX10, w ∈ wsX9_count := by decide +kernel
  refine lv_iload_n hx hb dX9_count_0 rfl (lv_at hl 1 rfl) ?_
  refine lv_tableIn (tgt := 219) hx hb dX9_count_1 (by decide +kernel) (by decide +kernel) (off := 218) (by decide +kernel) (by decide) ?_
  refine lv_aload_n hx hb dX9_count_219 rfl (lv_at hl 0 rfl) ?_
  refine va_get (D := G) (ci := 6) (v := .ref p7) (C := RX9) (T := TX9) (N := 11) (ref := RX9) hx hb hts h1w hown hX.1 hP 0 rfl rfl 6 (by decide) h0w (fun _ h9 => h9) rfl dX9_count_220 ?_
  refine va_getN (D := G) (ci := 0) (v := .ref p23) (C := RX1) (T := TX1) (N := 12) (ref := RX1) (host := RX9) hx hb hts h2w hown hX.1 hP 1 rfl rfl 11 (by decide) (nf_47 hX.2.2.1) (fun _ h9 => h9) rfl dX9_count_223 ?_
  refine lv_iconst (v := 2) hx hb dX9_count_226 (by decide +kernel) ?_
  refine va_iald hx hb hX.1 hP 2 0 rfl rfl (by unfold vp_in; decide +kernel) dX9_count_227 ?_
  refine cz_ti (w := 0) (by rfl) ?_
  have hP9 := hP.sub (ws' := [(p0, .inr (6, [v1, v2, v3, v4, v5, v6, .ref p7, v8, v9, v10, v11])), (p7, .inr (0, [v12, v13, v14, v15, v16, v17, v18, v19, v20, v21, v22, .ref p23])), (p23, .inl (k 0, 3, .inl (fun _ => 0)))]) [0, 1, 2] rfl
  have hD9 := hD.sub (ws' := [(p0, .inr (6, [v1, v2, v3, v4, v5, v6, .ref p7, v8, v9, v10, v11])), (p7, .inr (0, [v12, v13, v14, v15, v16, v17, v18, v19, v20, v21, v22, .ref p23])), (p23, .inl (k 0, 3, .inl (fun _ => 0)))]) [0, 1, 2] (by decide) rfl
  exact W.iret (v := 0) hx hb hr (fun t ht hW => ⟨⟨0, (), rfl, rfl, by rw [ht]; exact hP9, hD9⟩, hS.F ht⟩) hS.2.2 dX9_count_228

set_option maxHeartbeats 4000000 in
set_option maxRecDepth 100000 in
theorem cX3_bucketDepth_0 (l : Launch) (G : va_G) (k : Nat → ClassId) (p0 : Nat) (sz : Nat) : CMi l G k yX3_bucketDepth wsX3_bucketDepth ({ frames := 1, cells := 0, slots := 0, locals := 20 }) [.ref p0, .int 268435455, .int 0] sz [] (fun r (u : Unit) => r = 0) (fun (u : Unit) => []) := by
  refine Met.ofW (cc := cX3_bucketDepth) (maxL := 3) (ret := (some .int)) (by decide) rfl ?_
  intro p e s m args below meth c s₁ B hml hv
  obtain ⟨rfl, hsz, hP, hX, hD0, hZ0⟩ := hv
  have hx := B.exec
  have hb := B.bytes
  have hr := B.returns
  have hts := atoms_spec (ws := wsX3_bucketDepth) B.pre
  have hown : s.vm.findClass RX3 = some m.cls := findClass_of_methodNamed B.named
  subst hsz
  have hD := hD0.self (sz := s.heap.size)
  have hZ := ZX.up hP hZ0
  generalize hAe : va_A [] s.heap.size = A at hD hZ ⊢
  have hA : ∀ q : Nat, s.heap.size ≤ q → A q := fun q h => by rw [← hAe]; exact Or.inr h
  have hS : va_S A s.heap s.heap [] := va_S.rf
  have hP : va_P G vwCl [] s.heap := hP
  have hl := lv_entry ([.ref p0, .int 268435455, .int 0]) (n := 3) (Nat.le_of_ble_eq_true rfl)
  rw [lg_entry_eq]
  generalize (lg_sl ([.ref p0, .int 268435455, .int 0]) ++ List.replicate (3 - (lg_sl ([.ref p0, .int 268435455, .int 0])).length) Slot.unset).toArray = ls at hl ⊢
  have hl : lv_has ls 3 [(0, .ref p0), (1, .int 268435455), (2, .int 0)] := hl
  have h0w := hts (.initialized RX7) (by decide +kernel)
  have h1w := hts (.static yX7_depth) (by decide +kernel)
  refine lv_iload_n hx hb dX3_bucketDepth_0 rfl (lv_at hl 2 rfl) ?_
  refine lv_if_ne (tgt := 11) hx hb dX3_bucketDepth_1 (by decide) (fun q => absurd (by decide +kernel) (q)) (fun _ => ?_)
  refine lv_iload_n hx hb dX3_bucketDepth_4 rfl (lv_at hl 1 rfl) ?_
  refine cz_i (wr := []) (va_runSN (As := [.int 268435455]) (rest := []) ⟨hx, hb, hml, hown, hts⟩ (cX7_depth_0 l G k s.heap.size) ⟨va_cnB 1 hts gX3_bucketDepth_X7_depth_n74 rfl rfl rfl (nm_13 hX.2.2.1) h0w (by decide +kernel) ⟨Nat.le_of_ble_eq_true rfl, Nat.le_of_ble_eq_true rfl⟩, h1w, trivial⟩ (cz_preS hZ hS hX hP hD [] rfl rfl) rfl rfl hl.1 rfl (lv_room (Nat.le_of_ble_eq_true rfl)) dX3_bucketDepth_5 ⟨Nat.le_of_ble_eq_true rfl, Nat.le_of_ble_eq_true rfl⟩) hP hD hS hA [] [] rfl rfl (by decide) (by decide) (fun r u H locs hp hP hD hS => ?_)
  have hp : r = 0 := hp
  subst hp
  refine lv_goto (tgt := 20) hx hb dX3_bucketDepth_8 (by decide) ?_
  have hP9 := hP.sub (ws' := []) [] rfl
  have hD9 := hD.sub (ws' := []) [] (by decide) rfl
  exact W.iret (v := 0) hx hb hr (fun t ht hW => ⟨⟨0, (), rfl, rfl, by rw [ht]; exact hP9, hD9⟩, hS.F ht⟩) hS.2.2 dX3_bucketDepth_20

set_option maxHeartbeats 4000000 in
set_option maxRecDepth 100000 in
theorem cX3_weightIn_0 (l : Launch) (G : va_G) (k : Nat → ClassId) (p0 : Nat) (v1 : Value) (v2 : Value) (v3 : Value) (v4 : Value) (v5 : Value) (v6 : Value) (v7 : Value) (v8 : Value) (v9 : Value) (v10 : Value) (v11 : Value) (v12 : Value) (v13 : Value) (sz : Nat) : CMi l G k yX3_weightIn wsX3_weightIn ({ frames := 0, cells := 0, slots := 0, locals := 0 }) [.ref p0, .int 268435455, .int 0] sz [(p0, .inr (2, [v1, v2, v3, v4, v5, v6, v7, .int 0, v8, v9, v10, v11, v12, v13]))] (fun r (u : Unit) => r = 0) (fun (u : Unit) => [(p0, .inr (2, [v1, v2, v3, v4, v5, v6, v7, .int 0, v8, v9, v10, v11, v12, v13]))]) := by
  refine Met.ofW (cc := cX3_weightIn) (maxL := 5) (ret := (some .int)) (by decide) rfl ?_
  intro p e s m args below meth c s₁ B hml hv
  obtain ⟨rfl, hsz, hP, hX, hD0, hZ0⟩ := hv
  have hx := B.exec
  have hb := B.bytes
  have hr := B.returns
  have hts := atoms_spec (ws := wsX3_weightIn) B.pre
  have hown : s.vm.findClass RX3 = some m.cls := findClass_of_methodNamed B.named
  subst hsz
  have hD := hD0.self (sz := s.heap.size)
  have hZ := ZX.up hP hZ0
  generalize hAe : va_A [(p0, .inr (2, [v1, v2, v3, v4, v5, v6, v7, .int 0, v8, v9, v10, v11, v12, v13]))] s.heap.size = A at hD hZ ⊢
  have hA : ∀ q : Nat, s.heap.size ≤ q → A q := fun q h => by rw [← hAe]; exact Or.inr h
  have hS : va_S A s.heap s.heap [] := va_S.rf
  have hP : va_P G vwCl [(p0, .inr (2, [v1, v2, v3, v4, v5, v6, v7, .int 0, v8, v9, v10, v11, v12, v13]))] s.heap := hP
  have hl := lv_entry ([.ref p0, .int 268435455, .int 0]) (n := 5) (Nat.le_of_ble_eq_true rfl)
  rw [lg_entry_eq]
  generalize (lg_sl ([.ref p0, .int 268435455, .int 0]) ++ List.replicate (5 - (lg_sl ([.ref p0, .int 268435455, .int 0])).length) Slot.unset).toArray = ls at hl ⊢
  have hl : lv_has ls 5 [(0, .ref p0), (1, .int 268435455), (2, .int 0)] := hl
  have h0w := hts (.fieldLink RX3 59 "RopeTown$Plan" "things" "I") (by decide +kernel)
  have h1w : ∀ w ∈ wsX30, w ∈ wsX3_weightIn := by decide +kernel
  refine lv_iconst (v := 0) hx hb dX3_weightIn_0 (by decide +kernel) ?_
  refine lv_istore_n (lv' := [(3, .int 0), (0, .ref p0), (1, .int 268435455), (2, .int 0)]) hx hb dX3_weightIn_1 rfl hl (by decide) rfl (fun ls hl => ?_)
  refine lv_iconst (v := 0) hx hb dX3_weightIn_2 (by decide +kernel) ?_
  refine lv_istore (lv' := [(4, .int 0), (3, .int 0), (0, .ref p0), (1, .int 268435455), (2, .int 0)]) hx hb dX3_weightIn_3 hl (by decide) rfl (fun ls hl => ?_)
  refine lv_iload hx hb dX3_weightIn_5 (lv_at hl 0 rfl) ?_
  refine lv_aload_n hx hb dX3_weightIn_7 rfl (lv_at hl 2 rfl) ?_
  refine va_get (D := G) (ci := 2) (v := .int 0) (C := RX3) (T := TX3) (N := 14) (ref := RX3) hx hb hts h1w hown hX.1 hP 0 rfl rfl 7 (by decide) h0w (fun _ h9 => h9) rfl dX3_weightIn_8 ?_
  refine lv_icmp_ge (tgt := 47) hx hb dX3_weightIn_11 (by decide) (fun _ => ?_) (fun q => absurd (by decide +kernel) (q))
  refine lv_iload_n hx hb dX3_weightIn_47 rfl (lv_at hl 1 rfl) ?_
  have hP9 := hP.sub (ws' := [(p0, .inr (2, [v1, v2, v3, v4, v5, v6, v7, .int 0, v8, v9, v10, v11, v12, v13]))]) [0] rfl
  have hD9 := hD.sub (ws' := [(p0, .inr (2, [v1, v2, v3, v4, v5, v6, v7, .int 0, v8, v9, v10, v11, v12, v13]))]) [0] (by decide) rfl
  exact W.iret (v := 0) hx hb hr (fun t ht hW => ⟨⟨0, (), rfl, rfl, by rw [ht]; exact hP9, hD9⟩, hS.F ht⟩) hS.2.2 dX3_weightIn_48

set_option maxHeartbeats 4000000 in
set_option maxRecDepth 100000 in
theorem cX9_bucket_0 (l : Launch) (G : va_G) (k : Nat → ClassId) (p0 : Nat) (v1 : Value) (v2 : Value) (v3 : Value) (v4 : Value) (p5 : Nat) (v6 : Value) (p7 : Nat) (v8 : Value) (v9 : Value) (v10 : Value) (v11 : Value) (v12 : Value) (v13 : Value) (v14 : Value) (v15 : Value) (v16 : Value) (v17 : Value) (v18 : Value) (v19 : Value) (v20 : Value) (v21 : Value) (v22 : Value) (v23 : Value) (v24 : Value) (v25 : Value) (v26 : Value) (v27 : Value) (v28 : Value) (v29 : Value) (v30 : Value) (v31 : Value) (v32 : Value) (v33 : Value) (v34 : Value) (v35 : Value) (sz : Nat) : CMi l G k yX9_bucket wsX9_bucket ({ frames := 2, cells := 0, slots := 0, locals := 42 }) [.ref p0, .int 0, .int 0] sz [(p0, .inr (6, [v1, v2, v3, v4, .ref p5, v6, .ref p7, v8, v9, v10, v11])), (p7, .inr (0, [.int 268435455, v12, v13, v14, v15, v16, v17, v18, v19, v20, v21, v22])), (p5, .inr (2, [v23, v24, v25, v26, v27, v28, v29, .int 0, v30, v31, v32, v33, v34, v35]))] (fun r (u : Unit) => r = 0) (fun (u : Unit) => [(p0, .inr (6, [v1, v2, v3, v4, .ref p5, v6, .ref p7, v8, v9, v10, v11])), (p7, .inr (0, [.int 268435455, v12, v13, v14, v15, v16, v17, v18, v19, v20, v21, v22])), (p5, .inr (2, [v23, v24, v25, v26, v27, v28, v29, .int 0, v30, v31, v32, v33, v34, v35]))]) := by
  refine Met.ofW (cc := cX9_bucket) (maxL := 4) (ret := (some .int)) (by decide) rfl ?_
  intro p e s m args below meth c s₁ B hml hv
  obtain ⟨rfl, hsz, hP, hX, hD0, hZ0⟩ := hv
  have hx := B.exec
  have hb := B.bytes
  have hr := B.returns
  have hts := atoms_spec (ws := wsX9_bucket) B.pre
  have hown : s.vm.findClass RX9 = some m.cls := findClass_of_methodNamed B.named
  subst hsz
  have hD := hD0.self (sz := s.heap.size)
  have hZ := ZX.up hP hZ0
  generalize hAe : va_A [(p0, .inr (6, [v1, v2, v3, v4, .ref p5, v6, .ref p7, v8, v9, v10, v11])), (p7, .inr (0, [.int 268435455, v12, v13, v14, v15, v16, v17, v18, v19, v20, v21, v22])), (p5, .inr (2, [v23, v24, v25, v26, v27, v28, v29, .int 0, v30, v31, v32, v33, v34, v35]))] s.heap.size = A at hD hZ ⊢
  have hA : ∀ q : Nat, s.heap.size ≤ q → A q := fun q h => by rw [← hAe]; exact Or.inr h
  have hS : va_S A s.heap s.heap [] := va_S.rf
  have hP : va_P G vwCl [(p0, .inr (6, [v1, v2, v3, v4, .ref p5, v6, .ref p7, v8, v9, v10, v11])), (p7, .inr (0, [.int 268435455, v12, v13, v14, v15, v16, v17, v18, v19, v20, v21, v22])), (p5, .inr (2, [v23, v24, v25, v26, v27, v28, v29, .int 0, v30, v31, v32, v33, v34, v35]))] s.heap := hP
  have hl := lv_entry ([.ref p0, .int 0, .int 0]) (n := 4) (Nat.le_of_ble_eq_true rfl)
  rw [lg_entry_eq]
  generalize (lg_sl ([.ref p0, .int 0, .int 0]) ++ List.replicate (4 - (lg_sl ([.ref p0, .int 0, .int 0])).length) Slot.unset).toArray = ls at hl ⊢
  have hl : lv_has ls 4 [(0, .ref p0), (1, .int 0), (2, .int 0)] := hl
  have h0w := hts (.fieldLink RX9 23 "RopeTown" "plan" "LRopeTown$Plan;") (by decide +kernel)
  have h1w : ∀ w ∈ wsX90, w ∈ wsX9_bucket := by decide +kernel
  have h2w := hts (.fieldLink RX9 42 "RopeTown" "book" "LRopeTown$Book;") (by decide +kernel)
  have h3w : ∀ w ∈ wsX10, w ∈ wsX9_bucket := by decide +kernel
  have h4w := hts (.initialized RX3) (by decide +kernel)
  have h5w := hts (.instanceMethod yX3_bucketDepth) (by decide +kernel)
  have h6w := hts (.selects RX3 yX3_bucketDepth yX3_bucketDepth) (by decide +kernel)
  have h7w := hts (.instanceMethod yX3_weightIn) (by decide +kernel)
  have h8w := hts (.selects RX3 yX3_weightIn yX3_weightIn) (by decide +kernel)
  refine lv_iload_n hx hb dX9_bucket_0 rfl (lv_at hl 1 rfl) ?_
  refine lv_if_lt (tgt := 9) hx hb dX9_bucket_1 (by decide) (fun q => absurd (q) (by decide +kernel)) (fun _ => ?_)
  refine lv_iload_n hx hb dX9_bucket_4 rfl (lv_at hl 1 rfl) ?_
  refine lv_iconst (v := 1) hx hb dX9_bucket_5 (by decide +kernel) ?_
  refine lv_icmp_le (tgt := 19) hx hb dX9_bucket_6 (by decide) (fun _ => ?_) (fun q => absurd (by decide +kernel) (q))
  refine lv_aload_n hx hb dX9_bucket_19 rfl (lv_at hl 0 rfl) ?_
  refine va_get (D := G) (ci := 6) (v := .ref p5) (C := RX9) (T := TX9) (N := 11) (ref := RX9) hx hb hts h1w hown hX.1 hP 0 rfl rfl 4 (by decide) h0w (fun _ h9 => h9) rfl dX9_bucket_20 ?_
  refine lv_aload_n hx hb dX9_bucket_23 rfl (lv_at hl 0 rfl) ?_
  refine va_get (D := G) (ci := 6) (v := .ref p7) (C := RX9) (T := TX9) (N := 11) (ref := RX9) hx hb hts h1w hown hX.1 hP 0 rfl rfl 6 (by decide) h2w (fun _ h9 => h9) rfl dX9_bucket_24 ?_
  refine va_getN (D := G) (ci := 0) (v := .int 268435455) (C := RX1) (T := TX1) (N := 12) (ref := RX1) (host := RX9) hx hb hts h3w hown hX.1 hP 1 rfl rfl 0 (by decide) (nf_37 hX.2.2.1) (fun _ h9 => h9) rfl dX9_bucket_27 ?_
  refine lv_iload_n hx hb dX9_bucket_30 rfl (lv_at hl 1 rfl) ?_
  refine cz_i (wr := [(p0, .inr (6, [v1, v2, v3, v4, .ref p5, v6, .ref p7, v8, v9, v10, v11])), (p7, .inr (0, [.int 268435455, v12, v13, v14, v15, v16, v17, v18, v19, v20, v21, v22])), (p5, .inr (2, [v23, v24, v25, v26, v27, v28, v29, .int 0, v30, v31, v32, v33, v34, v35]))]) (va_runVN (As := [.int 268435455, .int 0]) (rest := []) ⟨hx, hb, hml, hown, hts⟩ (cX3_bucketDepth_0 l G k p5 s.heap.size) ⟨va_cnB 2 hts gX9_bucket_X3_bucketDepth_n179 rfl rfl rfl (nm_42 hX.2.2.1) h4w (by decide +kernel) ⟨Nat.le_of_ble_eq_true rfl, Nat.le_of_ble_eq_true rfl⟩, h5w, h6w⟩ (cz_preV hZ hS hX hP hD [] rfl rfl (ci := 2) (q0 := 2) rfl rfl) rfl rfl hl.1 rfl (lv_room (Nat.le_of_ble_eq_true rfl)) dX9_bucket_31 ⟨Nat.le_of_ble_eq_true rfl, Nat.le_of_ble_eq_true rfl⟩) hP hD hS hA [] [0, 1, 2] rfl rfl (by decide) (by decide) (fun r u H locs hp hP hD hS => ?_)
  have hp : r = 0 := hp
  subst hp
  refine lv_istore_n (lv' := [(3, .int 0), (0, .ref p0), (1, .int 0), (2, .int 0)]) hx hb dX9_bucket_34 rfl hl (by decide) rfl (fun ls hl => ?_)
  refine lv_iload_n hx hb dX9_bucket_35 rfl (lv_at hl 3 rfl) ?_
  refine lv_tableIn (tgt := 72) hx hb dX9_bucket_36 (by decide +kernel) (by decide +kernel) (off := 36) (by decide +kernel) (by decide) ?_
  refine lv_aload_n hx hb dX9_bucket_72 rfl (lv_at hl 1 rfl) ?_
  refine va_get (D := G) (ci := 6) (v := .ref p5) (C := RX9) (T := TX9) (N := 11) (ref := RX9) hx hb hts h1w hown hX.1 hP 0 rfl rfl 4 (by decide) h0w (fun _ h9 => h9) rfl dX9_bucket_73 ?_
  refine lv_aload_n hx hb dX9_bucket_76 rfl (lv_at hl 1 rfl) ?_
  refine va_get (D := G) (ci := 6) (v := .ref p7) (C := RX9) (T := TX9) (N := 11) (ref := RX9) hx hb hts h1w hown hX.1 hP 0 rfl rfl 6 (by decide) h2w (fun _ h9 => h9) rfl dX9_bucket_77 ?_
  refine va_getN (D := G) (ci := 0) (v := .int 268435455) (C := RX1) (T := TX1) (N := 12) (ref := RX1) (host := RX9) hx hb hts h3w hown hX.1 hP 1 rfl rfl 0 (by decide) (nf_37 hX.2.2.1) (fun _ h9 => h9) rfl dX9_bucket_80 ?_
  refine lv_iload_n hx hb dX9_bucket_83 rfl (lv_at hl 2 rfl) ?_
  refine cz_i (wr := [(p0, .inr (6, [v1, v2, v3, v4, .ref p5, v6, .ref p7, v8, v9, v10, v11])), (p7, .inr (0, [.int 268435455, v12, v13, v14, v15, v16, v17, v18, v19, v20, v21, v22]))]) (va_runVN (As := [.int 268435455, .int 0]) (rest := []) ⟨hx, hb, hml, hown, hts⟩ (cX3_weightIn_0 l G k p5 v23 v24 v25 v26 v27 v28 v29 v30 v31 v32 v33 v34 v35 H.size) ⟨va_cnB 2 hts gX9_bucket_X3_weightIn_n182 rfl rfl rfl (nm_43 hX.2.2.1) h4w (by decide +kernel) ⟨Nat.le_of_ble_eq_true rfl, Nat.le_of_ble_eq_true rfl⟩, h7w, h8w⟩ (cz_preV hZ hS hX hP hD [2] rfl rfl (ci := 2) (q0 := 2) rfl rfl) rfl rfl hl.1 rfl (lv_room (Nat.le_of_ble_eq_true rfl)) dX9_bucket_84 ⟨Nat.le_of_ble_eq_true rfl, Nat.le_of_ble_eq_true rfl⟩) hP hD hS hA [2] [0, 1] rfl rfl (by decide) (by decide) (fun r u H locs hp hP hD hS => ?_)
  have hp : r = 0 := hp
  subst hp
  have hP9 := hP.sub (ws' := [(p0, .inr (6, [v1, v2, v3, v4, .ref p5, v6, .ref p7, v8, v9, v10, v11])), (p7, .inr (0, [.int 268435455, v12, v13, v14, v15, v16, v17, v18, v19, v20, v21, v22])), (p5, .inr (2, [v23, v24, v25, v26, v27, v28, v29, .int 0, v30, v31, v32, v33, v34, v35]))]) [0, 1, 2] rfl
  have hD9 := hD.sub (ws' := [(p0, .inr (6, [v1, v2, v3, v4, .ref p5, v6, .ref p7, v8, v9, v10, v11])), (p7, .inr (0, [.int 268435455, v12, v13, v14, v15, v16, v17, v18, v19, v20, v21, v22])), (p5, .inr (2, [v23, v24, v25, v26, v27, v28, v29, .int 0, v30, v31, v32, v33, v34, v35]))]) [0, 1, 2] (by decide) rfl
  exact W.iret (v := 0) hx hb hr (fun t ht hW => ⟨⟨0, (), rfl, rfl, by rw [ht]; exact hP9, hD9⟩, hS.F ht⟩) hS.2.2 dX9_bucket_87

set_option maxHeartbeats 4000000 in
set_option maxRecDepth 100000 in
theorem cX9_bucket_1 (l : Launch) (G : va_G) (k : Nat → ClassId) (p0 : Nat) (v1 : Value) (v2 : Value) (v3 : Value) (v4 : Value) (p5 : Nat) (v6 : Value) (p7 : Nat) (v8 : Value) (v9 : Value) (v10 : Value) (v11 : Value) (v12 : Value) (v13 : Value) (v14 : Value) (v15 : Value) (v16 : Value) (v17 : Value) (v18 : Value) (v19 : Value) (v20 : Value) (v21 : Value) (v22 : Value) (v23 : Value) (v24 : Value) (v25 : Value) (v26 : Value) (v27 : Value) (v28 : Value) (v29 : Value) (v30 : Value) (v31 : Value) (v32 : Value) (v33 : Value) (v34 : Value) (sz : Nat) : CMi l G k yX9_bucket wsX9_bucket ({ frames := 2, cells := 0, slots := 0, locals := 42 }) [.ref p0, .int 0, .int 1] sz [(p0, .inr (6, [v1, v2, v3, v4, .ref p5, v6, .ref p7, v8, v9, v10, v11])), (p7, .inr (0, [.int 268435455, v12, v13, v14, v15, v16, v17, v18, v19, v20, v21, v22])), (p5, .inr (2, [v23, v24, v25, .int 0, v26, v27, v28, .int 0, v29, v30, v31, v32, v33, v34]))] (fun r (u : Unit) => r = 0) (fun (u : Unit) => [(p0, .inr (6, [v1, v2, v3, v4, .ref p5, v6, .ref p7, v8, v9, v10, v11])), (p7, .inr (0, [.int 268435455, v12, v13, v14, v15, v16, v17, v18, v19, v20, v21, v22])), (p5, .inr (2, [v23, v24, v25, .int 0, v26, v27, v28, .int 0, v29, v30, v31, v32, v33, v34]))]) := by
  refine Met.ofW (cc := cX9_bucket) (maxL := 4) (ret := (some .int)) (by decide) rfl ?_
  intro p e s m args below meth c s₁ B hml hv
  obtain ⟨rfl, hsz, hP, hX, hD0, hZ0⟩ := hv
  have hx := B.exec
  have hb := B.bytes
  have hr := B.returns
  have hts := atoms_spec (ws := wsX9_bucket) B.pre
  have hown : s.vm.findClass RX9 = some m.cls := findClass_of_methodNamed B.named
  subst hsz
  have hD := hD0.self (sz := s.heap.size)
  have hZ := ZX.up hP hZ0
  generalize hAe : va_A [(p0, .inr (6, [v1, v2, v3, v4, .ref p5, v6, .ref p7, v8, v9, v10, v11])), (p7, .inr (0, [.int 268435455, v12, v13, v14, v15, v16, v17, v18, v19, v20, v21, v22])), (p5, .inr (2, [v23, v24, v25, .int 0, v26, v27, v28, .int 0, v29, v30, v31, v32, v33, v34]))] s.heap.size = A at hD hZ ⊢
  have hA : ∀ q : Nat, s.heap.size ≤ q → A q := fun q h => by rw [← hAe]; exact Or.inr h
  have hS : va_S A s.heap s.heap [] := va_S.rf
  have hP : va_P G vwCl [(p0, .inr (6, [v1, v2, v3, v4, .ref p5, v6, .ref p7, v8, v9, v10, v11])), (p7, .inr (0, [.int 268435455, v12, v13, v14, v15, v16, v17, v18, v19, v20, v21, v22])), (p5, .inr (2, [v23, v24, v25, .int 0, v26, v27, v28, .int 0, v29, v30, v31, v32, v33, v34]))] s.heap := hP
  have hl := lv_entry ([.ref p0, .int 0, .int 1]) (n := 4) (Nat.le_of_ble_eq_true rfl)
  rw [lg_entry_eq]
  generalize (lg_sl ([.ref p0, .int 0, .int 1]) ++ List.replicate (4 - (lg_sl ([.ref p0, .int 0, .int 1])).length) Slot.unset).toArray = ls at hl ⊢
  have hl : lv_has ls 4 [(0, .ref p0), (1, .int 0), (2, .int 1)] := hl
  have h0w := hts (.fieldLink RX9 23 "RopeTown" "plan" "LRopeTown$Plan;") (by decide +kernel)
  have h1w : ∀ w ∈ wsX90, w ∈ wsX9_bucket := by decide +kernel
  have h2w := hts (.fieldLink RX9 42 "RopeTown" "book" "LRopeTown$Book;") (by decide +kernel)
  have h3w : ∀ w ∈ wsX10, w ∈ wsX9_bucket := by decide +kernel
  have h4w := hts (.initialized RX3) (by decide +kernel)
  have h5w := hts (.instanceMethod yX3_bucketDepth) (by decide +kernel)
  have h6w := hts (.selects RX3 yX3_bucketDepth yX3_bucketDepth) (by decide +kernel)
  have h7w := hts (.instanceMethod yX3_weightIn) (by decide +kernel)
  have h8w := hts (.selects RX3 yX3_weightIn yX3_weightIn) (by decide +kernel)
  have h9w : ∀ w ∈ wsX30, w ∈ wsX9_bucket := by decide +kernel
  refine lv_iload_n hx hb dX9_bucket_0 rfl (lv_at hl 1 rfl) ?_
  refine lv_if_lt (tgt := 9) hx hb dX9_bucket_1 (by decide) (fun q => absurd (q) (by decide +kernel)) (fun _ => ?_)
  refine lv_iload_n hx hb dX9_bucket_4 rfl (lv_at hl 1 rfl) ?_
  refine lv_iconst (v := 1) hx hb dX9_bucket_5 (by decide +kernel) ?_
  refine lv_icmp_le (tgt := 19) hx hb dX9_bucket_6 (by decide) (fun _ => ?_) (fun q => absurd (by decide +kernel) (q))
  refine lv_aload_n hx hb dX9_bucket_19 rfl (lv_at hl 0 rfl) ?_
  refine va_get (D := G) (ci := 6) (v := .ref p5) (C := RX9) (T := TX9) (N := 11) (ref := RX9) hx hb hts h1w hown hX.1 hP 0 rfl rfl 4 (by decide) h0w (fun _ h9 => h9) rfl dX9_bucket_20 ?_
  refine lv_aload_n hx hb dX9_bucket_23 rfl (lv_at hl 0 rfl) ?_
  refine va_get (D := G) (ci := 6) (v := .ref p7) (C := RX9) (T := TX9) (N := 11) (ref := RX9) hx hb hts h1w hown hX.1 hP 0 rfl rfl 6 (by decide) h2w (fun _ h9 => h9) rfl dX9_bucket_24 ?_
  refine va_getN (D := G) (ci := 0) (v := .int 268435455) (C := RX1) (T := TX1) (N := 12) (ref := RX1) (host := RX9) hx hb hts h3w hown hX.1 hP 1 rfl rfl 0 (by decide) (nf_37 hX.2.2.1) (fun _ h9 => h9) rfl dX9_bucket_27 ?_
  refine lv_iload_n hx hb dX9_bucket_30 rfl (lv_at hl 1 rfl) ?_
  refine cz_i (wr := [(p0, .inr (6, [v1, v2, v3, v4, .ref p5, v6, .ref p7, v8, v9, v10, v11])), (p7, .inr (0, [.int 268435455, v12, v13, v14, v15, v16, v17, v18, v19, v20, v21, v22])), (p5, .inr (2, [v23, v24, v25, .int 0, v26, v27, v28, .int 0, v29, v30, v31, v32, v33, v34]))]) (va_runVN (As := [.int 268435455, .int 0]) (rest := []) ⟨hx, hb, hml, hown, hts⟩ (cX3_bucketDepth_0 l G k p5 s.heap.size) ⟨va_cnB 2 hts gX9_bucket_X3_bucketDepth_n179 rfl rfl rfl (nm_42 hX.2.2.1) h4w (by decide +kernel) ⟨Nat.le_of_ble_eq_true rfl, Nat.le_of_ble_eq_true rfl⟩, h5w, h6w⟩ (cz_preV hZ hS hX hP hD [] rfl rfl (ci := 2) (q0 := 2) rfl rfl) rfl rfl hl.1 rfl (lv_room (Nat.le_of_ble_eq_true rfl)) dX9_bucket_31 ⟨Nat.le_of_ble_eq_true rfl, Nat.le_of_ble_eq_true rfl⟩) hP hD hS hA [] [0, 1, 2] rfl rfl (by decide) (by decide) (fun r u H locs hp hP hD hS => ?_)
  have hp : r = 0 := hp
  subst hp
  refine lv_istore_n (lv' := [(3, .int 0), (0, .ref p0), (1, .int 0), (2, .int 1)]) hx hb dX9_bucket_34 rfl hl (by decide) rfl (fun ls hl => ?_)
  refine lv_iload_n hx hb dX9_bucket_35 rfl (lv_at hl 3 rfl) ?_
  refine lv_tableIn (tgt := 88) hx hb dX9_bucket_36 (by decide +kernel) (by decide +kernel) (off := 52) (by decide +kernel) (by decide) ?_
  refine lv_aload_n hx hb dX9_bucket_88 rfl (lv_at hl 1 rfl) ?_
  refine va_get (D := G) (ci := 6) (v := .ref p5) (C := RX9) (T := TX9) (N := 11) (ref := RX9) hx hb hts h1w hown hX.1 hP 0 rfl rfl 4 (by decide) h0w (fun _ h9 => h9) rfl dX9_bucket_89 ?_
  refine lv_aload_n hx hb dX9_bucket_92 rfl (lv_at hl 1 rfl) ?_
  refine va_get (D := G) (ci := 6) (v := .ref p7) (C := RX9) (T := TX9) (N := 11) (ref := RX9) hx hb hts h1w hown hX.1 hP 0 rfl rfl 6 (by decide) h2w (fun _ h9 => h9) rfl dX9_bucket_93 ?_
  refine va_getN (D := G) (ci := 0) (v := .int 268435455) (C := RX1) (T := TX1) (N := 12) (ref := RX1) (host := RX9) hx hb hts h3w hown hX.1 hP 1 rfl rfl 0 (by decide) (nf_37 hX.2.2.1) (fun _ h9 => h9) rfl dX9_bucket_96 ?_
  refine lv_iload_n hx hb dX9_bucket_99 rfl (lv_at hl 2 rfl) ?_
  refine cz_i (wr := [(p0, .inr (6, [v1, v2, v3, v4, .ref p5, v6, .ref p7, v8, v9, v10, v11])), (p7, .inr (0, [.int 268435455, v12, v13, v14, v15, v16, v17, v18, v19, v20, v21, v22]))]) (va_runVN (As := [.int 268435455, .int 0]) (rest := []) ⟨hx, hb, hml, hown, hts⟩ (cX3_weightIn_0 l G k p5 v23 v24 v25 (.int 0) v26 v27 v28 v29 v30 v31 v32 v33 v34 H.size) ⟨va_cnB 2 hts gX9_bucket_X3_weightIn_n182 rfl rfl rfl (nm_43 hX.2.2.1) h4w (by decide +kernel) ⟨Nat.le_of_ble_eq_true rfl, Nat.le_of_ble_eq_true rfl⟩, h7w, h8w⟩ (cz_preV hZ hS hX hP hD [2] rfl rfl (ci := 2) (q0 := 2) rfl rfl) rfl rfl hl.1 rfl (lv_room (Nat.le_of_ble_eq_true rfl)) dX9_bucket_100 ⟨Nat.le_of_ble_eq_true rfl, Nat.le_of_ble_eq_true rfl⟩) hP hD hS hA [2] [0, 1] rfl rfl (by decide) (by decide) (fun r u H locs hp hP hD hS => ?_)
  have hp : r = 0 := hp
  subst hp
  refine lv_aload_n hx hb dX9_bucket_103 rfl (lv_at hl 1 rfl) ?_
  refine va_get (D := G) (ci := 6) (v := .ref p5) (C := RX9) (T := TX9) (N := 11) (ref := RX9) hx hb hts h1w hown hX.1 hP 0 rfl rfl 4 (by decide) h0w (fun _ h9 => h9) rfl dX9_bucket_104 ?_
  refine va_getN (D := G) (ci := 2) (v := .int 0) (C := RX3) (T := TX3) (N := 14) (ref := RX3) (host := RX9) hx hb hts h9w hown hX.1 hP 2 rfl rfl 3 (by decide) (nf_10 hX.2.2.1) (fun _ h9 => h9) rfl dX9_bucket_107 ?_
  refine lv_iload_n hx hb dX9_bucket_110 rfl (lv_at hl 0 rfl) ?_
  refine lv_imul hx hb dX9_bucket_111 ?_
  refine cz_ti (w := 0) (by decide +kernel) ?_
  refine lv_iadd hx hb dX9_bucket_112 ?_
  refine cz_ti (w := 0) (by decide +kernel) ?_
  have hP9 := hP.sub (ws' := [(p0, .inr (6, [v1, v2, v3, v4, .ref p5, v6, .ref p7, v8, v9, v10, v11])), (p7, .inr (0, [.int 268435455, v12, v13, v14, v15, v16, v17, v18, v19, v20, v21, v22])), (p5, .inr (2, [v23, v24, v25, .int 0, v26, v27, v28, .int 0, v29, v30, v31, v32, v33, v34]))]) [0, 1, 2] rfl
  have hD9 := hD.sub (ws' := [(p0, .inr (6, [v1, v2, v3, v4, .ref p5, v6, .ref p7, v8, v9, v10, v11])), (p7, .inr (0, [.int 268435455, v12, v13, v14, v15, v16, v17, v18, v19, v20, v21, v22])), (p5, .inr (2, [v23, v24, v25, .int 0, v26, v27, v28, .int 0, v29, v30, v31, v32, v33, v34]))]) [0, 1, 2] (by decide) rfl
  exact W.iret (v := 0) hx hb hr (fun t ht hW => ⟨⟨0, (), rfl, rfl, by rw [ht]; exact hP9, hD9⟩, hS.F ht⟩) hS.2.2 dX9_bucket_113

