set_option maxHeartbeats 4000000 in
set_option maxRecDepth 100000 in
theorem cX6_forget_0 (l : Launch) (G : va_G) (k : Nat → ClassId) (p0 : Nat) (v1 : Value) (v2 : Value) (v3 : Value) (v4 : Value) (v5 : Value) (v6 : Value) (v7 : Value) (v8 : Value) (v9 : Value) (v10 : Value) (v11 : Value) (v12 : Value) (v13 : Value) (v14 : Value) (p15 : Nat) (sz : Nat) : CMv l G k yX6_forget wsX6_forget ({ frames := 1, cells := 0, slots := 0, locals := 23 }) [.ref p0] sz [(p0, .inr (5, [v1, v2, v3, v4, v5, v6, v7, v8, v9, v10, v11, v12, v13, v14, .ref p15])), (p15, .inl (k 0, 1641, .inl (fun _ => 0)))] (fun (u : Unit) => True) (fun (u : Unit) => [(p0, .inr (5, [v1, v2, v3, v4, v5, v6, .int 0, v8, v9, v10, v11, v12, v13, v14, .ref p15])), (p15, .inl (k 0, 1641, .inl (fun _ => 0)))]) := by
  refine Met.ofW (cc := cX6_forget) (maxL := 1) (ret := none) (by decide) rfl ?_
  intro p e s m args below meth c s₁ B hml hv
  obtain ⟨rfl, hsz, hP, hX, hD0, hZ0⟩ := hv
  have hx := B.exec
  have hb := B.bytes
  have hr := B.returns
  have hts := atoms_spec (ws := wsX6_forget) B.pre
  have hown : s.vm.findClass RX6 = some m.cls := findClass_of_methodNamed B.named
  subst hsz
  have hD := hD0.self (sz := s.heap.size)
  have hZ := ZX.up hP hZ0
  generalize hAe : va_A [(p0, .inr (5, [v1, v2, v3, v4, v5, v6, v7, v8, v9, v10, v11, v12, v13, v14, .ref p15])), (p15, .inl (k 0, 1641, .inl (fun _ => 0)))] s.heap.size = A at hD hZ ⊢
  have hA : ∀ q : Nat, s.heap.size ≤ q → A q := fun q h => by rw [← hAe]; exact Or.inr h
  have hS : va_S A s.heap s.heap [] := va_S.rf
  have hP : va_P G vwCl [(p0, .inr (5, [v1, v2, v3, v4, v5, v6, v7, v8, v9, v10, v11, v12, v13, v14, .ref p15])), (p15, .inl (k 0, 1641, .inl (fun _ => 0)))] s.heap := hP
  have hl := lv_entry ([.ref p0]) (n := 1) (Nat.le_of_ble_eq_true rfl)
  rw [lg_entry_eq]
  generalize (lg_sl ([.ref p0]) ++ List.replicate (1 - (lg_sl ([.ref p0])).length) Slot.unset).toArray = ls at hl ⊢
  have hl : lv_has ls 1 [(0, .ref p0)] := hl
  have h0w := hts (.fieldLink RX6 57 "RopeTown$Search" "verdicts" "[I") (by decide +kernel)
  have h1w : ∀ w ∈ wsX60, w ∈ wsX6_forget := by decide +kernel
  have h2w := hts (.fieldLink RX6 22 "RopeTown$Search" "size" "I") (by decide +kernel)
  refine lv_aload_n hx hb dX6_forget_0 rfl (lv_at hl 0 rfl) ?_
  refine va_get (D := G) (ci := 5) (v := .ref p15) (C := RX6) (T := TX6) (N := 15) (ref := RX6) hx hb hts h1w hown hX.1 hP 0 rfl rfl 14 (by decide) h0w (fun _ h9 => h9) rfl dX6_forget_1 ?_
  refine lv_iconst (v := 0) hx hb dX6_forget_4 (by decide +kernel) ?_
  refine cz_v (wr := [(p0, .inr (5, [v1, v2, v3, v4, v5, v6, v7, v8, v9, v10, v11, v12, v13, v14, .ref p15]))]) (va_runS (As := [.ref p15, .int 0]) (rest := []) ⟨hx, hb, hml, hown, hts⟩ (cJ7_fill l G k p15 1641 0 (fun _ => 0) s.heap.size (by decide +kernel)) (va_cwS 2 hts gX6_forget_J7_fill_53178 rfl rfl rfl (by decide +kernel) ⟨Nat.le_of_ble_eq_true rfl, Nat.le_of_ble_eq_true rfl⟩) (cz_preS hZ hS hX hP hD [1] rfl rfl) rfl rfl hl.1 rfl (lv_room (Nat.le_of_ble_eq_true rfl)) dX6_forget_5 ⟨Nat.le_of_ble_eq_true rfl, Nat.le_of_ble_eq_true rfl⟩) hP hD hS hA [1] [0] rfl rfl (by decide) (by decide) (fun u H locs hp hP hD hS => ?_)
  refine lv_aload_n hx hb dX6_forget_8 rfl (lv_at hl 0 rfl) ?_
  refine lv_iconst (v := 0) hx hb dX6_forget_9 (by decide +kernel) ?_
  refine va_put (D := G) (ci := 5) (v := .int 0) (ty := .int) (C := RX6) (T := TX6) (N := 15) (ref := RX6) hx hb hts h1w tyX6 tyX6_ok nmX6 hown hX.1 hP hD hS 0 rfl rfl 6 (by decide) h2w (fun _ h9 => h9) rfl (by decide +kernel) rfl rfl (Nat.le_of_ble_eq_true rfl) dX6_forget_10 (fun H locs hP hD hS => ?_)
  have hP9 := hP.sub (ws' := [(p0, .inr (5, [v1, v2, v3, v4, v5, v6, .int 0, v8, v9, v10, v11, v12, v13, v14, .ref p15])), (p15, .inl (k 0, 1641, .inl (fun _ => 0)))]) [0, 1] rfl
  have hD9 := hD.sub (ws' := [(p0, .inr (5, [v1, v2, v3, v4, v5, v6, .int 0, v8, v9, v10, v11, v12, v13, v14, .ref p15])), (p15, .inl (k 0, 1641, .inl (fun _ => 0)))]) [0, 1] (by decide) rfl
  exact W.vret hx hb hr (fun t ht hW => ⟨⟨(), rfl, trivial, by rw [ht]; exact hP9, hD9⟩, hS.F ht⟩) hS.2.2 dX6_forget_13

set_option maxHeartbeats 4000000 in
set_option maxRecDepth 100000 in
theorem cX9_town_0 (l : Launch) (G : va_G) (k : Nat → ClassId) (p0 : Nat) (p1 : Nat) (v2 : Value) (p3 : Nat) (p4 : Nat) (p5 : Nat) (p6 : Nat) (v7 : Value) (v8 : Value) (p9 : Nat) (v10 : Value) (p11 : Nat) (v12 : Value) (v13 : Value) (v14 : Value) (v15 : Value) (v16 : Value) (v17 : Value) (v18 : Value) (v19 : Value) (v20 : Value) (v21 : Value) (v22 : Value) (p23 : Nat) (v24 : Value) (v25 : Value) (v26 : Value) (v27 : Value) (v28 : Value) (v29 : Value) (v30 : Value) (v31 : Value) (v32 : Value) (v33 : Value) (f34 : Nat → Int32) (v35 : Value) (v36 : Value) (v37 : Value) (v38 : Value) (v39 : Value) (v40 : Value) (v41 : Value) (v42 : Value) (v43 : Value) (v44 : Value) (v45 : Value) (v46 : Value) (v47 : Value) (v48 : Value) (v49 : Value) (v50 : Value) (v51 : Value) (v52 : Value) (v53 : Value) (v54 : Value) (v55 : Value) (v56 : Value) (v57 : Value) (v58 : Value) (v59 : Value) (v60 : Value) (p61 : Nat) (sz : Nat) : CMi l G k yX9_town wsX9_town ({ frames := 4, cells := 0, slots := 0, locals := 92 }) [.ref p0, .int 0] sz [(p0, .inr (6, [.ref p1, .int 0, v2, .ref p3, .ref p4, .ref p5, .ref p6, v7, v8, .ref p9, v10])), (p3, .inr (1, [.ref p11, .ref p5, v12, .int 0, .int (-1)])), (p5, .inr (2, [v13, .int 0, v14, v15, v16, v17, v18, .int 0, v19, v20, v21, v22, .ref p23, v24])), (p23, .inr (4, [v25, v26, v27, v28, v29])), (p11, .inr (3, [v30, .int 0, .int 0, .int 0, .int 0, v31, v32, v33])), (p1, .inl (k 1, 600, .inl f34)), (p6, .inr (0, [v35, v36, v37, v38, v39, v40, v41, v42, v43, v44, v45, v46])), (p9, .inr (5, [v47, v48, v49, v50, v51, v52, v53, v54, v55, v56, v57, v58, v59, v60, .ref p61])), (p61, .inl (k 0, 1641, .inl (fun _ => 0)))] (fun r (u : Unit) => r = 0) (fun (u : Unit) => [(p0, .inr (6, [.ref p1, .int 0, .int (-1), .ref p3, .ref p5, .ref p4, .ref p6, v7, .int 0, .ref p9, v10])), (p3, .inr (1, [.ref p11, .ref p5, .int 0, .int 0, .int (-1)])), (p23, .inr (4, [v25, v26, v27, .int 0, .int 0])), (p1, .inl (k 1, 600, .inl f34)), (p11, .inr (3, [.ref p1, .int 0, .int 0, .int 0, .int 0, .ref (k 9), v32, .int 0])), (p5, .inr (2, [.int 1, .int 0, .int 99, .int 0, .int 1, .int 20, .int 0, .int 0, v19, v20, v21, v22, .ref p23, v24])), (p6, .inr (0, [.int 268435455, .int 0, .int 0, .int 0, .int 0, v40, v41, v42, v43, v44, v45, v46])), (p9, .inr (5, [v47, v48, v49, v50, v51, v52, .int 0, v54, v55, v56, v57, v58, v59, v60, .ref p61])), (p61, .inl (k 0, 1641, .inl (fun _ => 0)))]) := by
  refine Met.ofW (cc := cX9_town) (maxL := 4) (ret := (some .int)) (by decide) rfl ?_
  intro p e s m args below meth c s₁ B hml hv
  obtain ⟨rfl, hsz, hP, hX, hD0, hZ0⟩ := hv
  have hx := B.exec
  have hb := B.bytes
  have hr := B.returns
  have hts := atoms_spec (ws := wsX9_town) B.pre
  have hown : s.vm.findClass RX9 = some m.cls := findClass_of_methodNamed B.named
  subst hsz
  have hD := hD0.self (sz := s.heap.size)
  have hZ := ZX.up hP hZ0
  generalize hAe : va_A [(p0, .inr (6, [.ref p1, .int 0, v2, .ref p3, .ref p4, .ref p5, .ref p6, v7, v8, .ref p9, v10])), (p3, .inr (1, [.ref p11, .ref p5, v12, .int 0, .int (-1)])), (p5, .inr (2, [v13, .int 0, v14, v15, v16, v17, v18, .int 0, v19, v20, v21, v22, .ref p23, v24])), (p23, .inr (4, [v25, v26, v27, v28, v29])), (p11, .inr (3, [v30, .int 0, .int 0, .int 0, .int 0, v31, v32, v33])), (p1, .inl (k 1, 600, .inl f34)), (p6, .inr (0, [v35, v36, v37, v38, v39, v40, v41, v42, v43, v44, v45, v46])), (p9, .inr (5, [v47, v48, v49, v50, v51, v52, v53, v54, v55, v56, v57, v58, v59, v60, .ref p61])), (p61, .inl (k 0, 1641, .inl (fun _ => 0)))] s.heap.size = A at hD hZ ⊢
  have hA : ∀ q : Nat, s.heap.size ≤ q → A q := fun q h => by rw [← hAe]; exact Or.inr h
  have hS : va_S A s.heap s.heap [] := va_S.rf
  have hP : va_P G vwCl [(p0, .inr (6, [.ref p1, .int 0, v2, .ref p3, .ref p4, .ref p5, .ref p6, v7, v8, .ref p9, v10])), (p3, .inr (1, [.ref p11, .ref p5, v12, .int 0, .int (-1)])), (p5, .inr (2, [v13, .int 0, v14, v15, v16, v17, v18, .int 0, v19, v20, v21, v22, .ref p23, v24])), (p23, .inr (4, [v25, v26, v27, v28, v29])), (p11, .inr (3, [v30, .int 0, .int 0, .int 0, .int 0, v31, v32, v33])), (p1, .inl (k 1, 600, .inl f34)), (p6, .inr (0, [v35, v36, v37, v38, v39, v40, v41, v42, v43, v44, v45, v46])), (p9, .inr (5, [v47, v48, v49, v50, v51, v52, v53, v54, v55, v56, v57, v58, v59, v60, .ref p61])), (p61, .inl (k 0, 1641, .inl (fun _ => 0)))] s.heap := hP
  have hl := lv_entry ([.ref p0, .int 0]) (n := 4) (Nat.le_of_ble_eq_true rfl)
  rw [lg_entry_eq]
  generalize (lg_sl ([.ref p0, .int 0]) ++ List.replicate (4 - (lg_sl ([.ref p0, .int 0])).length) Slot.unset).toArray = ls at hl ⊢
  have hl : lv_has ls 4 [(0, .ref p0), (1, .int 0)] := hl
  have h0w := hts (.fieldLink RX9 13 "RopeTown" "fed" "I") (by decide +kernel)
  have h1w : ∀ w ∈ wsX90, w ∈ wsX9_town := by decide +kernel
  have h2w := hts (.fieldLink RX9 35 "RopeTown" "parser" "LRopeTown$Parser;") (by decide +kernel)
  have h3w := hts (.fieldLink RX9 9 "RopeTown" "tape" "[B") (by decide +kernel)
  have h4w := hts (.fieldLink RX9 27 "RopeTown" "draft" "LRopeTown$Plan;") (by decide +kernel)
  have h5w := hts (.initialized RX2) (by decide +kernel)
  have h6w := hts (.instanceMethod yX2_read) (by decide +kernel)
  have h7w := hts (.selects RX2 yX2_read yX2_read) (by decide +kernel)
  have h8w : ∀ w ∈ wsX20, w ∈ wsX9_town := by decide +kernel
  have h9w := hts (.fieldLink RX9 17 "RopeTown" "faultPlace" "I") (by decide +kernel)
  have h10w := hts (.fieldLink RX9 23 "RopeTown" "plan" "LRopeTown$Plan;") (by decide +kernel)
  have h11w := hts (.fieldLink RX9 42 "RopeTown" "book" "LRopeTown$Book;") (by decide +kernel)
  have h12w := hts (.initialized RX3) (by decide +kernel)
  have h13w := hts (.instanceMethod yX3_firstState) (by decide +kernel)
  have h14w := hts (.selects RX3 yX3_firstState yX3_firstState) (by decide +kernel)
  have h15w := hts (.initialized RX1) (by decide +kernel)
  have h16w := hts (.instanceMethod yX1_begin) (by decide +kernel)
  have h17w := hts (.selects RX1 yX1_begin yX1_begin) (by decide +kernel)
  have h18w := hts (.fieldLink RX9 49 "RopeTown" "isKept" "Z") (by decide +kernel)
  have h19w := hts (.fieldLink RX9 56 "RopeTown" "search" "LRopeTown$Search;") (by decide +kernel)
  have h20w := hts (.initialized RX6) (by decide +kernel)
  have h21w := hts (.instanceMethod yX6_forget) (by decide +kernel)
  have h22w := hts (.selects RX6 yX6_forget yX6_forget) (by decide +kernel)
  refine lv_iload_n hx hb dX9_town_0 rfl (lv_at hl 1 rfl) ?_
  refine lv_if_lt (tgt := 12) hx hb dX9_town_1 (by decide) (fun q => absurd (q) (by decide +kernel)) (fun _ => ?_)
  refine lv_iload_n hx hb dX9_town_4 rfl (lv_at hl 1 rfl) ?_
  refine lv_aload_n hx hb dX9_town_5 rfl (lv_at hl 0 rfl) ?_
  refine va_get (D := G) (ci := 6) (v := .int 0) (C := RX9) (T := TX9) (N := 11) (ref := RX9) hx hb hts h1w hown hX.1 hP 0 rfl rfl 1 (by decide) h0w (fun _ h9 => h9) rfl dX9_town_6 ?_
  refine lv_icmp_le (tgt := 22) hx hb dX9_town_9 (by decide) (fun _ => ?_) (fun q => absurd (by decide +kernel) (q))
  refine lv_aload_n hx hb dX9_town_22 rfl (lv_at hl 0 rfl) ?_
  refine lv_iconst (v := 0) hx hb dX9_town_23 (by decide +kernel) ?_
  refine va_put (D := G) (ci := 6) (v := .int 0) (ty := .int) (C := RX9) (T := TX9) (N := 11) (ref := RX9) hx hb hts h1w tyX9 tyX9_ok nmX9 hown hX.1 hP hD hS 0 rfl rfl 1 (by decide) h0w (fun _ h9 => h9) rfl (by decide +kernel) rfl rfl (Nat.le_of_ble_eq_true rfl) dX9_town_24 (fun H locs hP hD hS => ?_)
  refine lv_aload_n hx hb dX9_town_27 rfl (lv_at hl 0 rfl) ?_
  refine va_get (D := G) (ci := 6) (v := .ref p3) (C := RX9) (T := TX9) (N := 11) (ref := RX9) hx hb hts h1w hown hX.1 hP 0 rfl rfl 3 (by decide) h2w (fun _ h9 => h9) rfl dX9_town_28 ?_
  refine lv_aload_n hx hb dX9_town_31 rfl (lv_at hl 0 rfl) ?_
  refine va_get (D := G) (ci := 6) (v := .ref p1) (C := RX9) (T := TX9) (N := 11) (ref := RX9) hx hb hts h1w hown hX.1 hP 0 rfl rfl 0 (by decide) h3w (fun _ h9 => h9) rfl dX9_town_32 ?_
  refine lv_iload_n hx hb dX9_town_35 rfl (lv_at hl 1 rfl) ?_
  refine lv_aload_n hx hb dX9_town_36 rfl (lv_at hl 0 rfl) ?_
  refine va_get (D := G) (ci := 6) (v := .ref p5) (C := RX9) (T := TX9) (N := 11) (ref := RX9) hx hb hts h1w hown hX.1 hP 0 rfl rfl 5 (by decide) h4w (fun _ h9 => h9) rfl dX9_town_37 ?_
  refine cz_i (wr := [(p0, .inr (6, [.ref p1, .int 0, v2, .ref p3, .ref p4, .ref p5, .ref p6, v7, v8, .ref p9, v10])), (p6, .inr (0, [v35, v36, v37, v38, v39, v40, v41, v42, v43, v44, v45, v46])), (p9, .inr (5, [v47, v48, v49, v50, v51, v52, v53, v54, v55, v56, v57, v58, v59, v60, .ref p61])), (p61, .inl (k 0, 1641, .inl (fun _ => 0)))]) (va_runVN (As := [.ref p1, .int 0, .ref p5]) (rest := []) ⟨hx, hb, hml, hown, hts⟩ (cX2_read_0 l G k p3 p1 p5 p11 v12 (.int (-1)) v13 (.int 0) v14 v15 v16 v17 v18 (.int 0) v19 v20 v21 v22 p23 v24 v25 v26 v27 v28 v29 v30 v31 v32 v33 f34 H.size) ⟨va_cnB 3 hts gX9_town_X2_read_n82 rfl rfl rfl (nm_28 hX.2.2.1) h5w (by decide +kernel) ⟨Nat.le_of_ble_eq_true rfl, Nat.le_of_ble_eq_true rfl⟩, h6w, h7w⟩ (cz_preV hZ hS hX hP hD [1, 2, 3, 4, 5] rfl rfl (ci := 1) (q0 := 1) rfl rfl) rfl rfl hl.1 rfl (lv_room (Nat.le_of_ble_eq_true rfl)) dX9_town_40 ⟨Nat.le_of_ble_eq_true rfl, Nat.le_of_ble_eq_true rfl⟩) hP hD hS hA [1, 2, 3, 4, 5] [0, 6, 7, 8] rfl rfl (by decide) (by decide) (fun r u H locs hp hP hD hS => ?_)
  have hp : r = 0 := hp
  subst hp
  refine lv_istore_n (lv' := [(2, .int 0), (0, .ref p0), (1, .int 0)]) hx hb dX9_town_43 rfl hl (by decide) rfl (fun ls hl => ?_)
  refine lv_aload_n hx hb dX9_town_44 rfl (lv_at hl 1 rfl) ?_
  refine lv_aload_n hx hb dX9_town_45 rfl (lv_at hl 1 rfl) ?_
  refine va_get (D := G) (ci := 6) (v := .ref p3) (C := RX9) (T := TX9) (N := 11) (ref := RX9) hx hb hts h1w hown hX.1 hP 0 rfl rfl 3 (by decide) h2w (fun _ h9 => h9) rfl dX9_town_46 ?_
  refine va_getN (D := G) (ci := 1) (v := .int (-1)) (C := RX2) (T := TX2) (N := 5) (ref := RX2) (host := RX9) hx hb hts h8w hown hX.1 hP 4 rfl rfl 4 (by decide) (nf_36 hX.2.2.1) (fun _ h9 => h9) rfl dX9_town_49 ?_
  refine va_put (D := G) (ci := 6) (v := .int (-1)) (ty := .int) (C := RX9) (T := TX9) (N := 11) (ref := RX9) hx hb hts h1w tyX9 tyX9_ok nmX9 hown hX.1 hP hD hS 0 rfl rfl 2 (by decide) h9w (fun _ h9 => h9) rfl (by decide +kernel) rfl rfl (Nat.le_of_ble_eq_true rfl) dX9_town_52 (fun H locs hP hD hS => ?_)
  refine lv_iload_n hx hb dX9_town_55 rfl (lv_at hl 0 rfl) ?_
  refine lv_if_eq (tgt := 74) hx hb dX9_town_56 (by decide) (fun _ => ?_) (fun q => absurd (by decide +kernel) (q))
  refine lv_aload_n hx hb dX9_town_74 rfl (lv_at hl 1 rfl) ?_
  refine va_get (D := G) (ci := 6) (v := .ref p5) (C := RX9) (T := TX9) (N := 11) (ref := RX9) hx hb hts h1w hown hX.1 hP 0 rfl rfl 5 (by decide) h4w (fun _ h9 => h9) rfl dX9_town_75 ?_
  refine lv_astore_n (lv' := [(3, .ref p5), (2, .int 0), (0, .ref p0), (1, .int 0)]) hx hb dX9_town_78 rfl hl (by decide) rfl (fun ls hl => ?_)
  refine lv_aload_n hx hb dX9_town_79 rfl (lv_at hl 2 rfl) ?_
  refine lv_aload_n hx hb dX9_town_80 rfl (lv_at hl 2 rfl) ?_
  refine va_get (D := G) (ci := 6) (v := .ref p4) (C := RX9) (T := TX9) (N := 11) (ref := RX9) hx hb hts h1w hown hX.1 hP 0 rfl rfl 4 (by decide) h10w (fun _ h9 => h9) rfl dX9_town_81 ?_
  refine va_put (D := G) (ci := 6) (v := .ref p4) (ty := .object "RopeTown$Plan") (C := RX9) (T := TX9) (N := 11) (ref := RX9) hx hb hts h1w tyX9 tyX9_ok nmX9 hown hX.1 hP hD hS 0 rfl rfl 5 (by decide) h4w (fun _ h9 => h9) rfl (by decide +kernel) rfl rfl (Nat.le_of_ble_eq_true rfl) dX9_town_84 (fun H locs hP hD hS => ?_)
  refine lv_aload_n hx hb dX9_town_87 rfl (lv_at hl 2 rfl) ?_
  refine lv_aload_n hx hb dX9_town_88 rfl (lv_at hl 0 rfl) ?_
  refine va_put (D := G) (ci := 6) (v := .ref p5) (ty := .object "RopeTown$Plan") (C := RX9) (T := TX9) (N := 11) (ref := RX9) hx hb hts h1w tyX9 tyX9_ok nmX9 hown hX.1 hP hD hS 0 rfl rfl 4 (by decide) h10w (fun _ h9 => h9) rfl (by decide +kernel) rfl rfl (Nat.le_of_ble_eq_true rfl) dX9_town_89 (fun H locs hP hD hS => ?_)
  refine lv_aload_n hx hb dX9_town_92 rfl (lv_at hl 2 rfl) ?_
  refine va_get (D := G) (ci := 6) (v := .ref p6) (C := RX9) (T := TX9) (N := 11) (ref := RX9) hx hb hts h1w hown hX.1 hP 0 rfl rfl 6 (by decide) h11w (fun _ h9 => h9) rfl dX9_town_93 ?_
  refine lv_aload_n hx hb dX9_town_96 rfl (lv_at hl 2 rfl) ?_
  refine va_get (D := G) (ci := 6) (v := .ref p5) (C := RX9) (T := TX9) (N := 11) (ref := RX9) hx hb hts h1w hown hX.1 hP 0 rfl rfl 4 (by decide) h10w (fun _ h9 => h9) rfl dX9_town_97 ?_
  refine cz_i (wr := [(p0, .inr (6, [.ref p1, .int 0, .int (-1), .ref p3, .ref p5, .ref p4, .ref p6, v7, v8, .ref p9, v10])), (p6, .inr (0, [v35, v36, v37, v38, v39, v40, v41, v42, v43, v44, v45, v46])), (p9, .inr (5, [v47, v48, v49, v50, v51, v52, v53, v54, v55, v56, v57, v58, v59, v60, .ref p61])), (p61, .inl (k 0, 1641, .inl (fun _ => 0))), (p3, .inr (1, [.ref p11, .ref p5, .int 0, .int 0, .int (-1)])), (p23, .inr (4, [v25, v26, v27, .int 0, .int 0])), (p1, .inl (k 1, 600, .inl f34)), (p11, .inr (3, [.ref p1, .int 0, .int 0, .int 0, .int 0, .ref (k 9), v32, .int 0]))]) (va_runVN (As := []) (rest := [.ref p6]) ⟨hx, hb, hml, hown, hts⟩ (cX3_firstState_0 l G k p5 (.int 1) (.int 99) (.int 0) (.int 1) (.int 20) (.int 0) v19 v20 v21 v22 (.ref p23) v24 H.size) ⟨va_cnB 0 hts gX9_town_X3_firstState_n64 rfl rfl rfl (nm_7 hX.2.2.1) h12w (by decide +kernel) ⟨Nat.le_of_ble_eq_true rfl, Nat.le_of_ble_eq_true rfl⟩, h13w, h14w⟩ (cz_preV hZ hS hX hP hD [5] rfl rfl (ci := 2) (q0 := 5) rfl rfl) rfl rfl hl.1 rfl (lv_room (Nat.le_of_ble_eq_true rfl)) dX9_town_100 ⟨Nat.le_of_ble_eq_true rfl, Nat.le_of_ble_eq_true rfl⟩) hP hD hS hA [5] [0, 1, 2, 3, 4, 6, 7, 8] rfl rfl (by decide) (by decide) (fun r u H locs hp hP hD hS => ?_)
  obtain ⟨hP, hD⟩ : va_P G vwCl [(p0, .inr (6, [.ref p1, .int 0, .int (-1), .ref p3, .ref p5, .ref p4, .ref p6, v7, v8, .ref p9, v10])), (p6, .inr (0, [v35, v36, v37, v38, v39, v40, v41, v42, v43, v44, v45, v46])), (p9, .inr (5, [v47, v48, v49, v50, v51, v52, v53, v54, v55, v56, v57, v58, v59, v60, .ref p61])), (p61, .inl (k 0, 1641, .inl (fun _ => 0))), (p3, .inr (1, [.ref p11, .ref p5, .int 0, .int 0, .int (-1)])), (p23, .inr (4, [v25, v26, v27, .int 0, .int 0])), (p1, .inl (k 1, 600, .inl f34)), (p11, .inr (3, [.ref p1, .int 0, .int 0, .int 0, .int 0, .ref (k 9), v32, .int 0])), (p5, .inr (2, [.int 1, .int 0, .int 99, .int 0, .int 1, .int 20, .int 0, .int 0, v19, v20, v21, v22, .ref p23, v24]))] H ∧ va_D A [(p0, .inr (6, [.ref p1, .int 0, .int (-1), .ref p3, .ref p5, .ref p4, .ref p6, v7, v8, .ref p9, v10])), (p6, .inr (0, [v35, v36, v37, v38, v39, v40, v41, v42, v43, v44, v45, v46])), (p9, .inr (5, [v47, v48, v49, v50, v51, v52, v53, v54, v55, v56, v57, v58, v59, v60, .ref p61])), (p61, .inl (k 0, 1641, .inl (fun _ => 0))), (p3, .inr (1, [.ref p11, .ref p5, .int 0, .int 0, .int (-1)])), (p23, .inr (4, [v25, v26, v27, .int 0, .int 0])), (p1, .inl (k 1, 600, .inl f34)), (p11, .inr (3, [.ref p1, .int 0, .int 0, .int 0, .int 0, .ref (k 9), v32, .int 0])), (p5, .inr (2, [.int 1, .int 0, .int 99, .int 0, .int 1, .int 20, .int 0, .int 0, v19, v20, v21, v22, .ref p23, v24]))] := ⟨hP, hD⟩
  have hp : r = 268435455 := hp
  subst hp
  refine cz_v (wr := [(p0, .inr (6, [.ref p1, .int 0, .int (-1), .ref p3, .ref p5, .ref p4, .ref p6, v7, v8, .ref p9, v10])), (p9, .inr (5, [v47, v48, v49, v50, v51, v52, v53, v54, v55, v56, v57, v58, v59, v60, .ref p61])), (p61, .inl (k 0, 1641, .inl (fun _ => 0))), (p3, .inr (1, [.ref p11, .ref p5, .int 0, .int 0, .int (-1)])), (p23, .inr (4, [v25, v26, v27, .int 0, .int 0])), (p1, .inl (k 1, 600, .inl f34)), (p11, .inr (3, [.ref p1, .int 0, .int 0, .int 0, .int 0, .ref (k 9), v32, .int 0])), (p5, .inr (2, [.int 1, .int 0, .int 99, .int 0, .int 1, .int 20, .int 0, .int 0, v19, v20, v21, v22, .ref p23, v24]))]) (va_runVN (As := [.int 268435455]) (rest := []) ⟨hx, hb, hml, hown, hts⟩ (cX1_begin_0 l G k p6 v35 v36 v37 v38 v39 v40 v41 v42 v43 v44 v45 v46 H.size) ⟨va_cnB 1 hts gX9_town_X1_begin_n68 rfl rfl rfl (nm_10 hX.2.2.1) h15w (by decide +kernel) ⟨Nat.le_of_ble_eq_true rfl, Nat.le_of_ble_eq_true rfl⟩, h16w, h17w⟩ (cz_preV hZ hS hX hP hD [1] rfl rfl (ci := 0) (q0 := 1) rfl rfl) rfl rfl hl.1 rfl (lv_room (Nat.le_of_ble_eq_true rfl)) dX9_town_103 ⟨Nat.le_of_ble_eq_true rfl, Nat.le_of_ble_eq_true rfl⟩) hP hD hS hA [1] [0, 2, 3, 4, 5, 6, 7, 8] rfl rfl (by decide) (by decide) (fun u H locs hp hP hD hS => ?_)
  refine lv_aload_n hx hb dX9_town_106 rfl (lv_at hl 2 rfl) ?_
  refine lv_iconst (v := 0) hx hb dX9_town_107 (by decide +kernel) ?_
  refine va_put (D := G) (ci := 6) (v := .int 0) (ty := .boolean) (C := RX9) (T := TX9) (N := 11) (ref := RX9) hx hb hts h1w tyX9 tyX9_ok nmX9 hown hX.1 hP hD hS 0 rfl rfl 8 (by decide) h18w (fun _ h9 => h9) rfl (by decide +kernel) (by decide +kernel) rfl (Nat.le_of_ble_eq_true rfl) dX9_town_108 (fun H locs hP hD hS => ?_)
  refine lv_aload_n hx hb dX9_town_111 rfl (lv_at hl 2 rfl) ?_
  refine va_get (D := G) (ci := 6) (v := .ref p9) (C := RX9) (T := TX9) (N := 11) (ref := RX9) hx hb hts h1w hown hX.1 hP 0 rfl rfl 9 (by decide) h19w (fun _ h9 => h9) rfl dX9_town_112 ?_
  refine cz_v (wr := [(p0, .inr (6, [.ref p1, .int 0, .int (-1), .ref p3, .ref p5, .ref p4, .ref p6, v7, .int 0, .ref p9, v10])), (p3, .inr (1, [.ref p11, .ref p5, .int 0, .int 0, .int (-1)])), (p23, .inr (4, [v25, v26, v27, .int 0, .int 0])), (p1, .inl (k 1, 600, .inl f34)), (p11, .inr (3, [.ref p1, .int 0, .int 0, .int 0, .int 0, .ref (k 9), v32, .int 0])), (p5, .inr (2, [.int 1, .int 0, .int 99, .int 0, .int 1, .int 20, .int 0, .int 0, v19, v20, v21, v22, .ref p23, v24])), (p6, .inr (0, [.int 268435455, .int 0, .int 0, .int 0, .int 0, v40, v41, v42, v43, v44, v45, v46]))]) (va_runVN (As := []) (rest := []) ⟨hx, hb, hml, hown, hts⟩ (cX6_forget_0 l G k p9 v47 v48 v49 v50 v51 v52 v53 v54 v55 v56 v57 v58 v59 v60 p61 H.size) ⟨va_cnB 0 hts gX9_town_X6_forget_n90 rfl rfl rfl (nm_37 hX.2.2.1) h20w (by decide +kernel) ⟨Nat.le_of_ble_eq_true rfl, Nat.le_of_ble_eq_true rfl⟩, h21w, h22w⟩ (cz_preV hZ hS hX hP hD [1, 2] rfl rfl (ci := 5) (q0 := 1) rfl rfl) rfl rfl hl.1 rfl (lv_room (Nat.le_of_ble_eq_true rfl)) dX9_town_115 ⟨Nat.le_of_ble_eq_true rfl, Nat.le_of_ble_eq_true rfl⟩) hP hD hS hA [1, 2] [0, 3, 4, 5, 6, 7, 8] rfl rfl (by decide) (by decide) (fun u H locs hp hP hD hS => ?_)
  refine lv_iconst (v := 0) hx hb dX9_town_118 (by decide +kernel) ?_
  have hP9 := hP.sub (ws' := [(p0, .inr (6, [.ref p1, .int 0, .int (-1), .ref p3, .ref p5, .ref p4, .ref p6, v7, .int 0, .ref p9, v10])), (p3, .inr (1, [.ref p11, .ref p5, .int 0, .int 0, .int (-1)])), (p23, .inr (4, [v25, v26, v27, .int 0, .int 0])), (p1, .inl (k 1, 600, .inl f34)), (p11, .inr (3, [.ref p1, .int 0, .int 0, .int 0, .int 0, .ref (k 9), v32, .int 0])), (p5, .inr (2, [.int 1, .int 0, .int 99, .int 0, .int 1, .int 20, .int 0, .int 0, v19, v20, v21, v22, .ref p23, v24])), (p6, .inr (0, [.int 268435455, .int 0, .int 0, .int 0, .int 0, v40, v41, v42, v43, v44, v45, v46])), (p9, .inr (5, [v47, v48, v49, v50, v51, v52, .int 0, v54, v55, v56, v57, v58, v59, v60, .ref p61])), (p61, .inl (k 0, 1641, .inl (fun _ => 0)))]) [0, 1, 2, 3, 4, 5, 6, 7, 8] rfl
  have hD9 := hD.sub (ws' := [(p0, .inr (6, [.ref p1, .int 0, .int (-1), .ref p3, .ref p5, .ref p4, .ref p6, v7, .int 0, .ref p9, v10])), (p3, .inr (1, [.ref p11, .ref p5, .int 0, .int 0, .int (-1)])), (p23, .inr (4, [v25, v26, v27, .int 0, .int 0])), (p1, .inl (k 1, 600, .inl f34)), (p11, .inr (3, [.ref p1, .int 0, .int 0, .int 0, .int 0, .ref (k 9), v32, .int 0])), (p5, .inr (2, [.int 1, .int 0, .int 99, .int 0, .int 1, .int 20, .int 0, .int 0, v19, v20, v21, v22, .ref p23, v24])), (p6, .inr (0, [.int 268435455, .int 0, .int 0, .int 0, .int 0, v40, v41, v42, v43, v44, v45, v46])), (p9, .inr (5, [v47, v48, v49, v50, v51, v52, .int 0, v54, v55, v56, v57, v58, v59, v60, .ref p61])), (p61, .inl (k 0, 1641, .inl (fun _ => 0)))]) [0, 1, 2, 3, 4, 5, 6, 7, 8] (by decide) rfl
  exact W.iret (v := 0) hx hb hr (fun t ht hW => ⟨⟨0, (), rfl, rfl, by rw [ht]; exact hP9, hD9⟩, hS.F ht⟩) hS.2.2 dX9_town_119

set_option maxHeartbeats 4000000 in
set_option maxRecDepth 100000 in
theorem cX9_fault_0 (l : Launch) (G : va_G) (k : Nat → ClassId) (p0 : Nat) (v1 : Value) (v2 : Value) (v3 : Value) (v4 : Value) (v5 : Value) (v6 : Value) (v7 : Value) (v8 : Value) (v9 : Value) (v10 : Value) (sz : Nat) : CMi l G k yX9_fault wsX9_fault ({ frames := 0, cells := 0, slots := 0, locals := 0 }) [.ref p0] sz [(p0, .inr (6, [v1, v2, .int (-1), v3, v4, v5, v6, v7, v8, v9, v10]))] (fun r (u : Unit) => r = (-1)) (fun (u : Unit) => [(p0, .inr (6, [v1, v2, .int (-1), v3, v4, v5, v6, v7, v8, v9, v10]))]) := by
  refine Met.ofW (cc := cX9_fault) (maxL := 1) (ret := (some .int)) (by decide) rfl ?_
  intro p e s m args below meth c s₁ B hml hv
  obtain ⟨rfl, hsz, hP, hX, hD0, hZ0⟩ := hv
  have hx := B.exec
  have hb := B.bytes
  have hr := B.returns
  have hts := atoms_spec (ws := wsX9_fault) B.pre
  have hown : s.vm.findClass RX9 = some m.cls := findClass_of_methodNamed B.named
  subst hsz
  have hD := hD0.self (sz := s.heap.size)
  have hZ := ZX.up hP hZ0
  generalize hAe : va_A [(p0, .inr (6, [v1, v2, .int (-1), v3, v4, v5, v6, v7, v8, v9, v10]))] s.heap.size = A at hD hZ ⊢
  have hA : ∀ q : Nat, s.heap.size ≤ q → A q := fun q h => by rw [← hAe]; exact Or.inr h
  have hS : va_S A s.heap s.heap [] := va_S.rf
  have hP : va_P G vwCl [(p0, .inr (6, [v1, v2, .int (-1), v3, v4, v5, v6, v7, v8, v9, v10]))] s.heap := hP
  have hl := lv_entry ([.ref p0]) (n := 1) (Nat.le_of_ble_eq_true rfl)
  rw [lg_entry_eq]
  generalize (lg_sl ([.ref p0]) ++ List.replicate (1 - (lg_sl ([.ref p0])).length) Slot.unset).toArray = ls at hl ⊢
  have hl : lv_has ls 1 [(0, .ref p0)] := hl
  have h0w := hts (.fieldLink RX9 17 "RopeTown" "faultPlace" "I") (by decide +kernel)
  have h1w : ∀ w ∈ wsX90, w ∈ wsX9_fault := by decide +kernel
  refine lv_aload_n hx hb dX9_fault_0 rfl (lv_at hl 0 rfl) ?_
  refine va_get (D := G) (ci := 6) (v := .int (-1)) (C := RX9) (T := TX9) (N := 11) (ref := RX9) hx hb hts h1w hown hX.1 hP 0 rfl rfl 2 (by decide) h0w (fun _ h9 => h9) rfl dX9_fault_1 ?_
  have hP9 := hP.sub (ws' := [(p0, .inr (6, [v1, v2, .int (-1), v3, v4, v5, v6, v7, v8, v9, v10]))]) [0] rfl
  have hD9 := hD.sub (ws' := [(p0, .inr (6, [v1, v2, .int (-1), v3, v4, v5, v6, v7, v8, v9, v10]))]) [0] (by decide) rfl
  exact W.iret (v := (-1)) hx hb hr (fun t ht hW => ⟨⟨(-1), (), rfl, rfl, by rw [ht]; exact hP9, hD9⟩, hS.F ht⟩) hS.2.2 dX9_fault_4

set_option maxHeartbeats 4000000 in
set_option maxRecDepth 100000 in
theorem cX9_count_0 (l : Launch) (G : va_G) (k : Nat → ClassId) (p0 : Nat) (v1 : Value) (v2 : Value) (v3 : Value) (v4 : Value) (p5 : Nat) (v6 : Value) (v7 : Value) (v8 : Value) (v9 : Value) (v10 : Value) (v11 : Value) (v12 : Value) (v13 : Value) (v14 : Value) (v15 : Value) (v16 : Value) (v17 : Value) (v18 : Value) (v19 : Value) (v20 : Value) (v21 : Value) (v22 : Value) (v23 : Value) (v24 : Value) (sz : Nat) : CMi l G k yX9_count wsX9_count ({ frames := 0, cells := 0, slots := 0, locals := 0 }) [.ref p0, .int 0] sz [(p0, .inr (6, [v1, v2, v3, v4, .ref p5, v6, v7, v8, v9, v10, v11])), (p5, .inr (2, [.int 1, v12, v13, v14, v15, v16, v17, v18, v19, v20, v21, v22, v23, v24]))] (fun r (u : Unit) => r = 1) (fun (u : Unit) => [(p0, .inr (6, [v1, v2, v3, v4, .ref p5, v6, v7, v8, v9, v10, v11])), (p5, .inr (2, [.int 1, v12, v13, v14, v15, v16, v17, v18, v19, v20, v21, v22, v23, v24]))]) := by
  refine Met.ofW (cc := cX9_count) (maxL := 2) (ret := (some .int)) (by decide) rfl ?_
  intro p e s m args below meth c s₁ B hml hv
  obtain ⟨rfl, hsz, hP, hX, hD0, hZ0⟩ := hv
  have hx := B.exec
  have hb := B.bytes
  have hr := B.returns
  have hts := atoms_spec (ws := wsX9_count) B.pre
  have hown : s.vm.findClass RX9 = some m.cls := findClass_of_methodNamed B.named
  subst hsz
  have hD := hD0.self (sz := s.heap.size)
  have hZ := ZX.up hP hZ0
  generalize hAe : va_A [(p0, .inr (6, [v1, v2, v3, v4, .ref p5, v6, v7, v8, v9, v10, v11])), (p5, .inr (2, [.int 1, v12, v13, v14, v15, v16, v17, v18, v19, v20, v21, v22, v23, v24]))] s.heap.size = A at hD hZ ⊢
  have hA : ∀ q : Nat, s.heap.size ≤ q → A q := fun q h => by rw [← hAe]; exact Or.inr h
  have hS : va_S A s.heap s.heap [] := va_S.rf
  have hP : va_P G vwCl [(p0, .inr (6, [v1, v2, v3, v4, .ref p5, v6, v7, v8, v9, v10, v11])), (p5, .inr (2, [.int 1, v12, v13, v14, v15, v16, v17, v18, v19, v20, v21, v22, v23, v24]))] s.heap := hP
  have hl := lv_entry ([.ref p0, .int 0]) (n := 2) (Nat.le_of_ble_eq_true rfl)
  rw [lg_entry_eq]
  generalize (lg_sl ([.ref p0, .int 0]) ++ List.replicate (2 - (lg_sl ([.ref p0, .int 0])).length) Slot.unset).toArray = ls at hl ⊢
  have hl : lv_has ls 2 [(0, .ref p0), (1, .int 0)] := hl
  have h0w := hts (.fieldLink RX9 23 "RopeTown" "plan" "LRopeTown$Plan;") (by decide +kernel)
  have h1w : ∀ w ∈ wsX90, w ∈ wsX9_count := by decide +kernel
  have h2w : ∀ w ∈ wsX30, w ∈ wsX9_count := by decide +kernel
  refine lv_iload_n hx hb dX9_count_0 rfl (lv_at hl 1 rfl) ?_
  refine lv_tableIn (tgt := 84) hx hb dX9_count_1 (by decide +kernel) (by decide +kernel) (off := 83) (by decide +kernel) (by decide) ?_
  refine lv_aload_n hx hb dX9_count_84 rfl (lv_at hl 0 rfl) ?_
  refine va_get (D := G) (ci := 6) (v := .ref p5) (C := RX9) (T := TX9) (N := 11) (ref := RX9) hx hb hts h1w hown hX.1 hP 0 rfl rfl 4 (by decide) h0w (fun _ h9 => h9) rfl dX9_count_85 ?_
  refine va_getN (D := G) (ci := 2) (v := .int 1) (C := RX3) (T := TX3) (N := 14) (ref := RX3) (host := RX9) hx hb hts h2w hown hX.1 hP 1 rfl rfl 0 (by decide) (nf_4 hX.2.2.1) (fun _ h9 => h9) rfl dX9_count_88 ?_
  have hP9 := hP.sub (ws' := [(p0, .inr (6, [v1, v2, v3, v4, .ref p5, v6, v7, v8, v9, v10, v11])), (p5, .inr (2, [.int 1, v12, v13, v14, v15, v16, v17, v18, v19, v20, v21, v22, v23, v24]))]) [0, 1] rfl
  have hD9 := hD.sub (ws' := [(p0, .inr (6, [v1, v2, v3, v4, .ref p5, v6, v7, v8, v9, v10, v11])), (p5, .inr (2, [.int 1, v12, v13, v14, v15, v16, v17, v18, v19, v20, v21, v22, v23, v24]))]) [0, 1] (by decide) rfl
  exact W.iret (v := 1) hx hb hr (fun t ht hW => ⟨⟨1, (), rfl, rfl, by rw [ht]; exact hP9, hD9⟩, hS.F ht⟩) hS.2.2 dX9_count_91

set_option maxHeartbeats 4000000 in
set_option maxRecDepth 100000 in
theorem cX9_count_1 (l : Launch) (G : va_G) (k : Nat → ClassId) (p0 : Nat) (v1 : Value) (v2 : Value) (v3 : Value) (v4 : Value) (p5 : Nat) (v6 : Value) (v7 : Value) (v8 : Value) (v9 : Value) (v10 : Value) (v11 : Value) (v12 : Value) (v13 : Value) (v14 : Value) (v15 : Value) (v16 : Value) (v17 : Value) (v18 : Value) (v19 : Value) (v20 : Value) (v21 : Value) (v22 : Value) (v23 : Value) (v24 : Value) (sz : Nat) : CMi l G k yX9_count wsX9_count ({ frames := 0, cells := 0, slots := 0, locals := 0 }) [.ref p0, .int 1] sz [(p0, .inr (6, [v1, v2, v3, v4, .ref p5, v6, v7, v8, v9, v10, v11])), (p5, .inr (2, [v12, v13, v14, v15, v16, v17, v18, .int 0, v19, v20, v21, v22, v23, v24]))] (fun r (u : Unit) => r = 0) (fun (u : Unit) => [(p0, .inr (6, [v1, v2, v3, v4, .ref p5, v6, v7, v8, v9, v10, v11])), (p5, .inr (2, [v12, v13, v14, v15, v16, v17, v18, .int 0, v19, v20, v21, v22, v23, v24]))]) := by
  refine Met.ofW (cc := cX9_count) (maxL := 2) (ret := (some .int)) (by decide) rfl ?_
  intro p e s m args below meth c s₁ B hml hv
  obtain ⟨rfl, hsz, hP, hX, hD0, hZ0⟩ := hv
  have hx := B.exec
  have hb := B.bytes
  have hr := B.returns
  have hts := atoms_spec (ws := wsX9_count) B.pre
  have hown : s.vm.findClass RX9 = some m.cls := findClass_of_methodNamed B.named
  subst hsz
  have hD := hD0.self (sz := s.heap.size)
  have hZ := ZX.up hP hZ0
  generalize hAe : va_A [(p0, .inr (6, [v1, v2, v3, v4, .ref p5, v6, v7, v8, v9, v10, v11])), (p5, .inr (2, [v12, v13, v14, v15, v16, v17, v18, .int 0, v19, v20, v21, v22, v23, v24]))] s.heap.size = A at hD hZ ⊢
  have hA : ∀ q : Nat, s.heap.size ≤ q → A q := fun q h => by rw [← hAe]; exact Or.inr h
  have hS : va_S A s.heap s.heap [] := va_S.rf
  have hP : va_P G vwCl [(p0, .inr (6, [v1, v2, v3, v4, .ref p5, v6, v7, v8, v9, v10, v11])), (p5, .inr (2, [v12, v13, v14, v15, v16, v17, v18, .int 0, v19, v20, v21, v22, v23, v24]))] s.heap := hP
  have hl := lv_entry ([.ref p0, .int 1]) (n := 2) (Nat.le_of_ble_eq_true rfl)
  rw [lg_entry_eq]
  generalize (lg_sl ([.ref p0, .int 1]) ++ List.replicate (2 - (lg_sl ([.ref p0, .int 1])).length) Slot.unset).toArray = ls at hl ⊢
  have hl : lv_has ls 2 [(0, .ref p0), (1, .int 1)] := hl
  have h0w := hts (.fieldLink RX9 23 "RopeTown" "plan" "LRopeTown$Plan;") (by decide +kernel)
  have h1w : ∀ w ∈ wsX90, w ∈ wsX9_count := by decide +kernel
  have h2w : ∀ w ∈ wsX30, w ∈ wsX9_count := by decide +kernel
  refine lv_iload_n hx hb dX9_count_0 rfl (lv_at hl 1 rfl) ?_
  refine lv_tableIn (tgt := 92) hx hb dX9_count_1 (by decide +kernel) (by decide +kernel) (off := 91) (by decide +kernel) (by decide) ?_
  refine lv_aload_n hx hb dX9_count_92 rfl (lv_at hl 0 rfl) ?_
  refine va_get (D := G) (ci := 6) (v := .ref p5) (C := RX9) (T := TX9) (N := 11) (ref := RX9) hx hb hts h1w hown hX.1 hP 0 rfl rfl 4 (by decide) h0w (fun _ h9 => h9) rfl dX9_count_93 ?_
  refine va_getN (D := G) (ci := 2) (v := .int 0) (C := RX3) (T := TX3) (N := 14) (ref := RX3) (host := RX9) hx hb hts h2w hown hX.1 hP 1 rfl rfl 7 (by decide) (nf_18 hX.2.2.1) (fun _ h9 => h9) rfl dX9_count_96 ?_
  have hP9 := hP.sub (ws' := [(p0, .inr (6, [v1, v2, v3, v4, .ref p5, v6, v7, v8, v9, v10, v11])), (p5, .inr (2, [v12, v13, v14, v15, v16, v17, v18, .int 0, v19, v20, v21, v22, v23, v24]))]) [0, 1] rfl
  have hD9 := hD.sub (ws' := [(p0, .inr (6, [v1, v2, v3, v4, .ref p5, v6, v7, v8, v9, v10, v11])), (p5, .inr (2, [v12, v13, v14, v15, v16, v17, v18, .int 0, v19, v20, v21, v22, v23, v24]))]) [0, 1] (by decide) rfl
  exact W.iret (v := 0) hx hb hr (fun t ht hW => ⟨⟨0, (), rfl, rfl, by rw [ht]; exact hP9, hD9⟩, hS.F ht⟩) hS.2.2 dX9_count_99

set_option maxHeartbeats 4000000 in
set_option maxRecDepth 100000 in
theorem cX9_count_2 (l : Launch) (G : va_G) (k : Nat → ClassId) (p0 : Nat) (v1 : Value) (v2 : Value) (v3 : Value) (v4 : Value) (p5 : Nat) (v6 : Value) (v7 : Value) (v8 : Value) (v9 : Value) (v10 : Value) (v11 : Value) (v12 : Value) (v13 : Value) (v14 : Value) (v15 : Value) (v16 : Value) (v17 : Value) (v18 : Value) (v19 : Value) (v20 : Value) (v21 : Value) (v22 : Value) (v23 : Value) (v24 : Value) (sz : Nat) : CMi l G k yX9_count wsX9_count ({ frames := 0, cells := 0, slots := 0, locals := 0 }) [.ref p0, .int 2] sz [(p0, .inr (6, [v1, v2, v3, v4, .ref p5, v6, v7, v8, v9, v10, v11])), (p5, .inr (2, [v12, v13, .int 99, v14, v15, v16, v17, v18, v19, v20, v21, v22, v23, v24]))] (fun r (u : Unit) => r = 99) (fun (u : Unit) => [(p0, .inr (6, [v1, v2, v3, v4, .ref p5, v6, v7, v8, v9, v10, v11])), (p5, .inr (2, [v12, v13, .int 99, v14, v15, v16, v17, v18, v19, v20, v21, v22, v23, v24]))]) := by
  refine Met.ofW (cc := cX9_count) (maxL := 2) (ret := (some .int)) (by decide) rfl ?_
  intro p e s m args below meth c s₁ B hml hv
  obtain ⟨rfl, hsz, hP, hX, hD0, hZ0⟩ := hv
  have hx := B.exec
  have hb := B.bytes
  have hr := B.returns
  have hts := atoms_spec (ws := wsX9_count) B.pre
  have hown : s.vm.findClass RX9 = some m.cls := findClass_of_methodNamed B.named
  subst hsz
  have hD := hD0.self (sz := s.heap.size)
  have hZ := ZX.up hP hZ0
  generalize hAe : va_A [(p0, .inr (6, [v1, v2, v3, v4, .ref p5, v6, v7, v8, v9, v10, v11])), (p5, .inr (2, [v12, v13, .int 99, v14, v15, v16, v17, v18, v19, v20, v21, v22, v23, v24]))] s.heap.size = A at hD hZ ⊢
  have hA : ∀ q : Nat, s.heap.size ≤ q → A q := fun q h => by rw [← hAe]; exact Or.inr h
  have hS : va_S A s.heap s.heap [] := va_S.rf
  have hP : va_P G vwCl [(p0, .inr (6, [v1, v2, v3, v4, .ref p5, v6, v7, v8, v9, v10, v11])), (p5, .inr (2, [v12, v13, .int 99, v14, v15, v16, v17, v18, v19, v20, v21, v22, v23, v24]))] s.heap := hP
  have hl := lv_entry ([.ref p0, .int 2]) (n := 2) (Nat.le_of_ble_eq_true rfl)
  rw [lg_entry_eq]
  generalize (lg_sl ([.ref p0, .int 2]) ++ List.replicate (2 - (lg_sl ([.ref p0, .int 2])).length) Slot.unset).toArray = ls at hl ⊢
  have hl : lv_has ls 2 [(0, .ref p0), (1, .int 2)] := hl
  have h0w := hts (.fieldLink RX9 23 "RopeTown" "plan" "LRopeTown$Plan;") (by decide +kernel)
  have h1w : ∀ w ∈ wsX90, w ∈ wsX9_count := by decide +kernel
  have h2w : ∀ w ∈ wsX30, w ∈ wsX9_count := by decide +kernel
  refine lv_iload_n hx hb dX9_count_0 rfl (lv_at hl 1 rfl) ?_
  refine lv_tableIn (tgt := 100) hx hb dX9_count_1 (by decide +kernel) (by decide +kernel) (off := 99) (by decide +kernel) (by decide) ?_
  refine lv_aload_n hx hb dX9_count_100 rfl (lv_at hl 0 rfl) ?_
  refine va_get (D := G) (ci := 6) (v := .ref p5) (C := RX9) (T := TX9) (N := 11) (ref := RX9) hx hb hts h1w hown hX.1 hP 0 rfl rfl 4 (by decide) h0w (fun _ h9 => h9) rfl dX9_count_101 ?_
  refine va_getN (D := G) (ci := 2) (v := .int 99) (C := RX3) (T := TX3) (N := 14) (ref := RX3) (host := RX9) hx hb hts h2w hown hX.1 hP 1 rfl rfl 2 (by decide) (nf_8 hX.2.2.1) (fun _ h9 => h9) rfl dX9_count_104 ?_
  have hP9 := hP.sub (ws' := [(p0, .inr (6, [v1, v2, v3, v4, .ref p5, v6, v7, v8, v9, v10, v11])), (p5, .inr (2, [v12, v13, .int 99, v14, v15, v16, v17, v18, v19, v20, v21, v22, v23, v24]))]) [0, 1] rfl
  have hD9 := hD.sub (ws' := [(p0, .inr (6, [v1, v2, v3, v4, .ref p5, v6, v7, v8, v9, v10, v11])), (p5, .inr (2, [v12, v13, .int 99, v14, v15, v16, v17, v18, v19, v20, v21, v22, v23, v24]))]) [0, 1] (by decide) rfl
  exact W.iret (v := 99) hx hb hr (fun t ht hW => ⟨⟨99, (), rfl, rfl, by rw [ht]; exact hP9, hD9⟩, hS.F ht⟩) hS.2.2 dX9_count_107

set_option maxHeartbeats 4000000 in
set_option maxRecDepth 100000 in
theorem cX9_count_3 (l : Launch) (G : va_G) (k : Nat → ClassId) (p0 : Nat) (v1 : Value) (v2 : Value) (v3 : Value) (v4 : Value) (p5 : Nat) (v6 : Value) (v7 : Value) (v8 : Value) (v9 : Value) (v10 : Value) (v11 : Value) (v12 : Value) (v13 : Value) (v14 : Value) (v15 : Value) (v16 : Value) (v17 : Value) (v18 : Value) (v19 : Value) (v20 : Value) (v21 : Value) (v22 : Value) (v23 : Value) (v24 : Value) (sz : Nat) : CMi l G k yX9_count wsX9_count ({ frames := 0, cells := 0, slots := 0, locals := 0 }) [.ref p0, .int 3] sz [(p0, .inr (6, [v1, v2, v3, v4, .ref p5, v6, v7, v8, v9, v10, v11])), (p5, .inr (2, [v12, v13, v14, .int 0, v15, v16, v17, v18, v19, v20, v21, v22, v23, v24]))] (fun r (u : Unit) => r = 0) (fun (u : Unit) => [(p0, .inr (6, [v1, v2, v3, v4, .ref p5, v6, v7, v8, v9, v10, v11])), (p5, .inr (2, [v12, v13, v14, .int 0, v15, v16, v17, v18, v19, v20, v21, v22, v23, v24]))]) := by
  refine Met.ofW (cc := cX9_count) (maxL := 2) (ret := (some .int)) (by decide) rfl ?_
  intro p e s m args below meth c s₁ B hml hv
  obtain ⟨rfl, hsz, hP, hX, hD0, hZ0⟩ := hv
  have hx := B.exec
  have hb := B.bytes
  have hr := B.returns
  have hts := atoms_spec (ws := wsX9_count) B.pre
  have hown : s.vm.findClass RX9 = some m.cls := findClass_of_methodNamed B.named
  subst hsz
  have hD := hD0.self (sz := s.heap.size)
  have hZ := ZX.up hP hZ0
  generalize hAe : va_A [(p0, .inr (6, [v1, v2, v3, v4, .ref p5, v6, v7, v8, v9, v10, v11])), (p5, .inr (2, [v12, v13, v14, .int 0, v15, v16, v17, v18, v19, v20, v21, v22, v23, v24]))] s.heap.size = A at hD hZ ⊢
  have hA : ∀ q : Nat, s.heap.size ≤ q → A q := fun q h => by rw [← hAe]; exact Or.inr h
  have hS : va_S A s.heap s.heap [] := va_S.rf
  have hP : va_P G vwCl [(p0, .inr (6, [v1, v2, v3, v4, .ref p5, v6, v7, v8, v9, v10, v11])), (p5, .inr (2, [v12, v13, v14, .int 0, v15, v16, v17, v18, v19, v20, v21, v22, v23, v24]))] s.heap := hP
  have hl := lv_entry ([.ref p0, .int 3]) (n := 2) (Nat.le_of_ble_eq_true rfl)
  rw [lg_entry_eq]
  generalize (lg_sl ([.ref p0, .int 3]) ++ List.replicate (2 - (lg_sl ([.ref p0, .int 3])).length) Slot.unset).toArray = ls at hl ⊢
  have hl : lv_has ls 2 [(0, .ref p0), (1, .int 3)] := hl
  have h0w := hts (.fieldLink RX9 23 "RopeTown" "plan" "LRopeTown$Plan;") (by decide +kernel)
  have h1w : ∀ w ∈ wsX90, w ∈ wsX9_count := by decide +kernel
  have h2w : ∀ w ∈ wsX30, w ∈ wsX9_count := by decide +kernel
  refine lv_iload_n hx hb dX9_count_0 rfl (lv_at hl 1 rfl) ?_
  refine lv_tableIn (tgt := 108) hx hb dX9_count_1 (by decide +kernel) (by decide +kernel) (off := 107) (by decide +kernel) (by decide) ?_
  refine lv_aload_n hx hb dX9_count_108 rfl (lv_at hl 0 rfl) ?_
  refine va_get (D := G) (ci := 6) (v := .ref p5) (C := RX9) (T := TX9) (N := 11) (ref := RX9) hx hb hts h1w hown hX.1 hP 0 rfl rfl 4 (by decide) h0w (fun _ h9 => h9) rfl dX9_count_109 ?_
  refine va_getN (D := G) (ci := 2) (v := .int 0) (C := RX3) (T := TX3) (N := 14) (ref := RX3) (host := RX9) hx hb hts h2w hown hX.1 hP 1 rfl rfl 3 (by decide) (nf_10 hX.2.2.1) (fun _ h9 => h9) rfl dX9_count_112 ?_
  have hP9 := hP.sub (ws' := [(p0, .inr (6, [v1, v2, v3, v4, .ref p5, v6, v7, v8, v9, v10, v11])), (p5, .inr (2, [v12, v13, v14, .int 0, v15, v16, v17, v18, v19, v20, v21, v22, v23, v24]))]) [0, 1] rfl
  have hD9 := hD.sub (ws' := [(p0, .inr (6, [v1, v2, v3, v4, .ref p5, v6, v7, v8, v9, v10, v11])), (p5, .inr (2, [v12, v13, v14, .int 0, v15, v16, v17, v18, v19, v20, v21, v22, v23, v24]))]) [0, 1] (by decide) rfl
  exact W.iret (v := 0) hx hb hr (fun t ht hW => ⟨⟨0, (), rfl, rfl, by rw [ht]; exact hP9, hD9⟩, hS.F ht⟩) hS.2.2 dX9_count_115

set_option maxHeartbeats 4000000 in
set_option maxRecDepth 100000 in
theorem cX9_count_4 (l : Launch) (G : va_G) (k : Nat → ClassId) (p0 : Nat) (v1 : Value) (v2 : Value) (v3 : Value) (v4 : Value) (p5 : Nat) (v6 : Value) (v7 : Value) (v8 : Value) (v9 : Value) (v10 : Value) (v11 : Value) (v12 : Value) (v13 : Value) (v14 : Value) (v15 : Value) (v16 : Value) (v17 : Value) (v18 : Value) (v19 : Value) (v20 : Value) (v21 : Value) (v22 : Value) (v23 : Value) (v24 : Value) (sz : Nat) : CMi l G k yX9_count wsX9_count ({ frames := 0, cells := 0, slots := 0, locals := 0 }) [.ref p0, .int 4] sz [(p0, .inr (6, [v1, v2, v3, v4, .ref p5, v6, v7, v8, v9, v10, v11])), (p5, .inr (2, [v12, v13, v14, v15, .int 1, v16, v17, v18, v19, v20, v21, v22, v23, v24]))] (fun r (u : Unit) => r = 1) (fun (u : Unit) => [(p0, .inr (6, [v1, v2, v3, v4, .ref p5, v6, v7, v8, v9, v10, v11])), (p5, .inr (2, [v12, v13, v14, v15, .int 1, v16, v17, v18, v19, v20, v21, v22, v23, v24]))]) := by
  refine Met.ofW (cc := cX9_count) (maxL := 2) (ret := (some .int)) (by decide) rfl ?_
  intro p e s m args below meth c s₁ B hml hv
  obtain ⟨rfl, hsz, hP, hX, hD0, hZ0⟩ := hv
  have hx := B.exec
  have hb := B.bytes
  have hr := B.returns
  have hts := atoms_spec (ws := wsX9_count) B.pre
  have hown : s.vm.findClass RX9 = some m.cls := findClass_of_methodNamed B.named
  subst hsz
  have hD := hD0.self (sz := s.heap.size)
  have hZ := ZX.up hP hZ0
  generalize hAe : va_A [(p0, .inr (6, [v1, v2, v3, v4, .ref p5, v6, v7, v8, v9, v10, v11])), (p5, .inr (2, [v12, v13, v14, v15, .int 1, v16, v17, v18, v19, v20, v21, v22, v23, v24]))] s.heap.size = A at hD hZ ⊢
  have hA : ∀ q : Nat, s.heap.size ≤ q → A q := fun q h => by rw [← hAe]; exact Or.inr h
  have hS : va_S A s.heap s.heap [] := va_S.rf
  have hP : va_P G vwCl [(p0, .inr (6, [v1, v2, v3, v4, .ref p5, v6, v7, v8, v9, v10, v11])), (p5, .inr (2, [v12, v13, v14, v15, .int 1, v16, v17, v18, v19, v20, v21, v22, v23, v24]))] s.heap := hP
  have hl := lv_entry ([.ref p0, .int 4]) (n := 2) (Nat.le_of_ble_eq_true rfl)
  rw [lg_entry_eq]
  generalize (lg_sl ([.ref p0, .int 4]) ++ List.replicate (2 - (lg_sl ([.ref p0, .int 4])).length) Slot.unset).toArray = ls at hl ⊢
  have hl : lv_has ls 2 [(0, .ref p0), (1, .int 4)] := hl
  have h0w := hts (.fieldLink RX9 23 "RopeTown" "plan" "LRopeTown$Plan;") (by decide +kernel)
  have h1w : ∀ w ∈ wsX90, w ∈ wsX9_count := by decide +kernel
  have h2w : ∀ w ∈ wsX30, w ∈ wsX9_count := by decide +kernel
  refine lv_iload_n hx hb dX9_count_0 rfl (lv_at hl 1 rfl) ?_
  refine lv_tableIn (tgt := 116) hx hb dX9_count_1 (by decide +kernel) (by decide +kernel) (off := 115) (by decide +kernel) (by decide) ?_
  refine lv_aload_n hx hb dX9_count_116 rfl (lv_at hl 0 rfl) ?_
  refine va_get (D := G) (ci := 6) (v := .ref p5) (C := RX9) (T := TX9) (N := 11) (ref := RX9) hx hb hts h1w hown hX.1 hP 0 rfl rfl 4 (by decide) h0w (fun _ h9 => h9) rfl dX9_count_117 ?_
  refine va_getN (D := G) (ci := 2) (v := .int 1) (C := RX3) (T := TX3) (N := 14) (ref := RX3) (host := RX9) hx hb hts h2w hown hX.1 hP 1 rfl rfl 4 (by decide) (nf_12 hX.2.2.1) (fun _ h9 => h9) rfl dX9_count_120 ?_
  have hP9 := hP.sub (ws' := [(p0, .inr (6, [v1, v2, v3, v4, .ref p5, v6, v7, v8, v9, v10, v11])), (p5, .inr (2, [v12, v13, v14, v15, .int 1, v16, v17, v18, v19, v20, v21, v22, v23, v24]))]) [0, 1] rfl
  have hD9 := hD.sub (ws' := [(p0, .inr (6, [v1, v2, v3, v4, .ref p5, v6, v7, v8, v9, v10, v11])), (p5, .inr (2, [v12, v13, v14, v15, .int 1, v16, v17, v18, v19, v20, v21, v22, v23, v24]))]) [0, 1] (by decide) rfl
  exact W.iret (v := 1) hx hb hr (fun t ht hW => ⟨⟨1, (), rfl, rfl, by rw [ht]; exact hP9, hD9⟩, hS.F ht⟩) hS.2.2 dX9_count_123

set_option maxHeartbeats 4000000 in
set_option maxRecDepth 100000 in
theorem cX9_count_5 (l : Launch) (G : va_G) (k : Nat → ClassId) (p0 : Nat) (v1 : Value) (v2 : Value) (v3 : Value) (v4 : Value) (p5 : Nat) (v6 : Value) (v7 : Value) (v8 : Value) (v9 : Value) (v10 : Value) (v11 : Value) (v12 : Value) (v13 : Value) (v14 : Value) (v15 : Value) (v16 : Value) (v17 : Value) (v18 : Value) (v19 : Value) (v20 : Value) (v21 : Value) (v22 : Value) (v23 : Value) (v24 : Value) (sz : Nat) : CMi l G k yX9_count wsX9_count ({ frames := 0, cells := 0, slots := 0, locals := 0 }) [.ref p0, .int 5] sz [(p0, .inr (6, [v1, v2, v3, v4, .ref p5, v6, v7, v8, v9, v10, v11])), (p5, .inr (2, [v12, v13, v14, v15, v16, .int 20, v17, v18, v19, v20, v21, v22, v23, v24]))] (fun r (u : Unit) => r = 20) (fun (u : Unit) => [(p0, .inr (6, [v1, v2, v3, v4, .ref p5, v6, v7, v8, v9, v10, v11])), (p5, .inr (2, [v12, v13, v14, v15, v16, .int 20, v17, v18, v19, v20, v21, v22, v23, v24]))]) := by
  refine Met.ofW (cc := cX9_count) (maxL := 2) (ret := (some .int)) (by decide) rfl ?_
  intro p e s m args below meth c s₁ B hml hv
  obtain ⟨rfl, hsz, hP, hX, hD0, hZ0⟩ := hv
  have hx := B.exec
  have hb := B.bytes
  have hr := B.returns
  have hts := atoms_spec (ws := wsX9_count) B.pre
  have hown : s.vm.findClass RX9 = some m.cls := findClass_of_methodNamed B.named
  subst hsz
  have hD := hD0.self (sz := s.heap.size)
  have hZ := ZX.up hP hZ0
  generalize hAe : va_A [(p0, .inr (6, [v1, v2, v3, v4, .ref p5, v6, v7, v8, v9, v10, v11])), (p5, .inr (2, [v12, v13, v14, v15, v16, .int 20, v17, v18, v19, v20, v21, v22, v23, v24]))] s.heap.size = A at hD hZ ⊢
  have hA : ∀ q : Nat, s.heap.size ≤ q → A q := fun q h => by rw [← hAe]; exact Or.inr h
  have hS : va_S A s.heap s.heap [] := va_S.rf
  have hP : va_P G vwCl [(p0, .inr (6, [v1, v2, v3, v4, .ref p5, v6, v7, v8, v9, v10, v11])), (p5, .inr (2, [v12, v13, v14, v15, v16, .int 20, v17, v18, v19, v20, v21, v22, v23, v24]))] s.heap := hP
  have hl := lv_entry ([.ref p0, .int 5]) (n := 2) (Nat.le_of_ble_eq_true rfl)
  rw [lg_entry_eq]
  generalize (lg_sl ([.ref p0, .int 5]) ++ List.replicate (2 - (lg_sl ([.ref p0, .int 5])).length) Slot.unset).toArray = ls at hl ⊢
  have hl : lv_has ls 2 [(0, .ref p0), (1, .int 5)] := hl
  have h0w := hts (.fieldLink RX9 23 "RopeTown" "plan" "LRopeTown$Plan;") (by decide +kernel)
  have h1w : ∀ w ∈ wsX90, w ∈ wsX9_count := by decide +kernel
  have h2w : ∀ w ∈ wsX30, w ∈ wsX9_count := by decide +kernel
  refine lv_iload_n hx hb dX9_count_0 rfl (lv_at hl 1 rfl) ?_
  refine lv_tableIn (tgt := 124) hx hb dX9_count_1 (by decide +kernel) (by decide +kernel) (off := 123) (by decide +kernel) (by decide) ?_
  refine lv_aload_n hx hb dX9_count_124 rfl (lv_at hl 0 rfl) ?_
  refine va_get (D := G) (ci := 6) (v := .ref p5) (C := RX9) (T := TX9) (N := 11) (ref := RX9) hx hb hts h1w hown hX.1 hP 0 rfl rfl 4 (by decide) h0w (fun _ h9 => h9) rfl dX9_count_125 ?_
  refine va_getN (D := G) (ci := 2) (v := .int 20) (C := RX3) (T := TX3) (N := 14) (ref := RX3) (host := RX9) hx hb hts h2w hown hX.1 hP 1 rfl rfl 5 (by decide) (nf_14 hX.2.2.1) (fun _ h9 => h9) rfl dX9_count_128 ?_
  have hP9 := hP.sub (ws' := [(p0, .inr (6, [v1, v2, v3, v4, .ref p5, v6, v7, v8, v9, v10, v11])), (p5, .inr (2, [v12, v13, v14, v15, v16, .int 20, v17, v18, v19, v20, v21, v22, v23, v24]))]) [0, 1] rfl
  have hD9 := hD.sub (ws' := [(p0, .inr (6, [v1, v2, v3, v4, .ref p5, v6, v7, v8, v9, v10, v11])), (p5, .inr (2, [v12, v13, v14, v15, v16, .int 20, v17, v18, v19, v20, v21, v22, v23, v24]))]) [0, 1] (by decide) rfl
  exact W.iret (v := 20) hx hb hr (fun t ht hW => ⟨⟨20, (), rfl, rfl, by rw [ht]; exact hP9, hD9⟩, hS.F ht⟩) hS.2.2 dX9_count_131

set_option maxHeartbeats 4000000 in
set_option maxRecDepth 100000 in
theorem cX9_count_6 (l : Launch) (G : va_G) (k : Nat → ClassId) (p0 : Nat) (v1 : Value) (v2 : Value) (v3 : Value) (v4 : Value) (p5 : Nat) (v6 : Value) (v7 : Value) (v8 : Value) (v9 : Value) (v10 : Value) (v11 : Value) (v12 : Value) (v13 : Value) (v14 : Value) (v15 : Value) (v16 : Value) (v17 : Value) (v18 : Value) (v19 : Value) (v20 : Value) (v21 : Value) (v22 : Value) (v23 : Value) (v24 : Value) (sz : Nat) : CMi l G k yX9_count wsX9_count ({ frames := 0, cells := 0, slots := 0, locals := 0 }) [.ref p0, .int 6] sz [(p0, .inr (6, [v1, v2, v3, v4, .ref p5, v6, v7, v8, v9, v10, v11])), (p5, .inr (2, [v12, v13, v14, v15, v16, v17, .int 0, v18, v19, v20, v21, v22, v23, v24]))] (fun r (u : Unit) => r = 0) (fun (u : Unit) => [(p0, .inr (6, [v1, v2, v3, v4, .ref p5, v6, v7, v8, v9, v10, v11])), (p5, .inr (2, [v12, v13, v14, v15, v16, v17, .int 0, v18, v19, v20, v21, v22, v23, v24]))]) := by
  refine Met.ofW (cc := cX9_count) (maxL := 2) (ret := (some .int)) (by decide) rfl ?_
  intro p e s m args below meth c s₁ B hml hv
  obtain ⟨rfl, hsz, hP, hX, hD0, hZ0⟩ := hv
  have hx := B.exec
  have hb := B.bytes
  have hr := B.returns
  have hts := atoms_spec (ws := wsX9_count) B.pre
  have hown : s.vm.findClass RX9 = some m.cls := findClass_of_methodNamed B.named
  subst hsz
  have hD := hD0.self (sz := s.heap.size)
  have hZ := ZX.up hP hZ0
  generalize hAe : va_A [(p0, .inr (6, [v1, v2, v3, v4, .ref p5, v6, v7, v8, v9, v10, v11])), (p5, .inr (2, [v12, v13, v14, v15, v16, v17, .int 0, v18, v19, v20, v21, v22, v23, v24]))] s.heap.size = A at hD hZ ⊢
  have hA : ∀ q : Nat, s.heap.size ≤ q → A q := fun q h => by rw [← hAe]; exact Or.inr h
  have hS : va_S A s.heap s.heap [] := va_S.rf
  have hP : va_P G vwCl [(p0, .inr (6, [v1, v2, v3, v4, .ref p5, v6, v7, v8, v9, v10, v11])), (p5, .inr (2, [v12, v13, v14, v15, v16, v17, .int 0, v18, v19, v20, v21, v22, v23, v24]))] s.heap := hP
  have hl := lv_entry ([.ref p0, .int 6]) (n := 2) (Nat.le_of_ble_eq_true rfl)
  rw [lg_entry_eq]
  generalize (lg_sl ([.ref p0, .int 6]) ++ List.replicate (2 - (lg_sl ([.ref p0, .int 6])).length) Slot.unset).toArray = ls at hl ⊢
  have hl : lv_has ls 2 [(0, .ref p0), (1, .int 6)] := hl
  have h0w := hts (.fieldLink RX9 23 "RopeTown" "plan" "LRopeTown$Plan;") (by decide +kernel)
  have h1w : ∀ w ∈ wsX90, w ∈ wsX9_count := by decide +kernel
  have h2w : ∀ w ∈ wsX30, w ∈ wsX9_count := by decide +kernel
  refine lv_iload_n hx hb dX9_count_0 rfl (lv_at hl 1 rfl) ?_
  refine lv_tableIn (tgt := 132) hx hb dX9_count_1 (by decide +kernel) (by decide +kernel) (off := 131) (by decide +kernel) (by decide) ?_
  refine lv_aload_n hx hb dX9_count_132 rfl (lv_at hl 0 rfl) ?_
  refine va_get (D := G) (ci := 6) (v := .ref p5) (C := RX9) (T := TX9) (N := 11) (ref := RX9) hx hb hts h1w hown hX.1 hP 0 rfl rfl 4 (by decide) h0w (fun _ h9 => h9) rfl dX9_count_133 ?_
  refine va_getN (D := G) (ci := 2) (v := .int 0) (C := RX3) (T := TX3) (N := 14) (ref := RX3) (host := RX9) hx hb hts h2w hown hX.1 hP 1 rfl rfl 6 (by decide) (nf_16 hX.2.2.1) (fun _ h9 => h9) rfl dX9_count_136 ?_
  have hP9 := hP.sub (ws' := [(p0, .inr (6, [v1, v2, v3, v4, .ref p5, v6, v7, v8, v9, v10, v11])), (p5, .inr (2, [v12, v13, v14, v15, v16, v17, .int 0, v18, v19, v20, v21, v22, v23, v24]))]) [0, 1] rfl
  have hD9 := hD.sub (ws' := [(p0, .inr (6, [v1, v2, v3, v4, .ref p5, v6, v7, v8, v9, v10, v11])), (p5, .inr (2, [v12, v13, v14, v15, v16, v17, .int 0, v18, v19, v20, v21, v22, v23, v24]))]) [0, 1] (by decide) rfl
  exact W.iret (v := 0) hx hb hr (fun t ht hW => ⟨⟨0, (), rfl, rfl, by rw [ht]; exact hP9, hD9⟩, hS.F ht⟩) hS.2.2 dX9_count_139

set_option maxHeartbeats 4000000 in
set_option maxRecDepth 100000 in
theorem cX9_count_7 (l : Launch) (G : va_G) (k : Nat → ClassId) (p0 : Nat) (v1 : Value) (v2 : Value) (v3 : Value) (v4 : Value) (p5 : Nat) (v6 : Value) (v7 : Value) (v8 : Value) (v9 : Value) (v10 : Value) (v11 : Value) (v12 : Value) (v13 : Value) (v14 : Value) (v15 : Value) (v16 : Value) (v17 : Value) (v18 : Value) (v19 : Value) (v20 : Value) (v21 : Value) (v22 : Value) (v23 : Value) (p24 : Nat) (v25 : Value) (v26 : Value) (v27 : Value) (v28 : Value) (v29 : Value) (sz : Nat) : CMi l G k yX9_count wsX9_count ({ frames := 0, cells := 0, slots := 0, locals := 0 }) [.ref p0, .int 7] sz [(p0, .inr (6, [v1, v2, v3, v4, .ref p5, v6, v7, v8, v9, v10, v11])), (p5, .inr (2, [v12, v13, v14, v15, v16, v17, v18, v19, v20, v21, v22, v23, .ref p24, v25])), (p24, .inr (4, [v26, v27, v28, v29, .int 0]))] (fun r (u : Unit) => r = 0) (fun (u : Unit) => [(p0, .inr (6, [v1, v2, v3, v4, .ref p5, v6, v7, v8, v9, v10, v11])), (p5, .inr (2, [v12, v13, v14, v15, v16, v17, v18, v19, v20, v21, v22, v23, .ref p24, v25])), (p24, .inr (4, [v26, v27, v28, v29, .int 0]))]) := by
  refine Met.ofW (cc := cX9_count) (maxL := 2) (ret := (some .int)) (by decide) rfl ?_
  intro p e s m args below meth c s₁ B hml hv
  obtain ⟨rfl, hsz, hP, hX, hD0, hZ0⟩ := hv
  have hx := B.exec
  have hb := B.bytes
  have hr := B.returns
  have hts := atoms_spec (ws := wsX9_count) B.pre
  have hown : s.vm.findClass RX9 = some m.cls := findClass_of_methodNamed B.named
  subst hsz
  have hD := hD0.self (sz := s.heap.size)
  have hZ := ZX.up hP hZ0
  generalize hAe : va_A [(p0, .inr (6, [v1, v2, v3, v4, .ref p5, v6, v7, v8, v9, v10, v11])), (p5, .inr (2, [v12, v13, v14, v15, v16, v17, v18, v19, v20, v21, v22, v23, .ref p24, v25])), (p24, .inr (4, [v26, v27, v28, v29, .int 0]))] s.heap.size = A at hD hZ ⊢
  have hA : ∀ q : Nat, s.heap.size ≤ q → A q := fun q h => by rw [← hAe]; exact Or.inr h
  have hS : va_S A s.heap s.heap [] := va_S.rf
  have hP : va_P G vwCl [(p0, .inr (6, [v1, v2, v3, v4, .ref p5, v6, v7, v8, v9, v10, v11])), (p5, .inr (2, [v12, v13, v14, v15, v16, v17, v18, v19, v20, v21, v22, v23, .ref p24, v25])), (p24, .inr (4, [v26, v27, v28, v29, .int 0]))] s.heap := hP
  have hl := lv_entry ([.ref p0, .int 7]) (n := 2) (Nat.le_of_ble_eq_true rfl)
  rw [lg_entry_eq]
  generalize (lg_sl ([.ref p0, .int 7]) ++ List.replicate (2 - (lg_sl ([.ref p0, .int 7])).length) Slot.unset).toArray = ls at hl ⊢
  have hl : lv_has ls 2 [(0, .ref p0), (1, .int 7)] := hl
  have h0w := hts (.fieldLink RX9 23 "RopeTown" "plan" "LRopeTown$Plan;") (by decide +kernel)
  have h1w : ∀ w ∈ wsX90, w ∈ wsX9_count := by decide +kernel
  have h2w : ∀ w ∈ wsX30, w ∈ wsX9_count := by decide +kernel
  have h3w : ∀ w ∈ wsX50, w ∈ wsX9_count := by decide +kernel
  refine lv_iload_n hx hb dX9_count_0 rfl (lv_at hl 1 rfl) ?_
  refine lv_tableIn (tgt := 140) hx hb dX9_count_1 (by decide +kernel) (by decide +kernel) (off := 139) (by decide +kernel) (by decide) ?_
  refine lv_aload_n hx hb dX9_count_140 rfl (lv_at hl 0 rfl) ?_
  refine va_get (D := G) (ci := 6) (v := .ref p5) (C := RX9) (T := TX9) (N := 11) (ref := RX9) hx hb hts h1w hown hX.1 hP 0 rfl rfl 4 (by decide) h0w (fun _ h9 => h9) rfl dX9_count_141 ?_
  refine va_getN (D := G) (ci := 2) (v := .ref p24) (C := RX3) (T := TX3) (N := 14) (ref := RX3) (host := RX9) hx hb hts h2w hown hX.1 hP 1 rfl rfl 12 (by decide) (nf_29 hX.2.2.1) (fun _ h9 => h9) rfl dX9_count_144 ?_
  refine va_getN (D := G) (ci := 4) (v := .int 0) (C := RX5) (T := TX5) (N := 5) (ref := RX5) (host := RX9) hx hb hts h3w hown hX.1 hP 2 rfl rfl 4 (by decide) (nf_0 hX.2.2.1) (fun _ h9 => h9) rfl dX9_count_147 ?_
  have hP9 := hP.sub (ws' := [(p0, .inr (6, [v1, v2, v3, v4, .ref p5, v6, v7, v8, v9, v10, v11])), (p5, .inr (2, [v12, v13, v14, v15, v16, v17, v18, v19, v20, v21, v22, v23, .ref p24, v25])), (p24, .inr (4, [v26, v27, v28, v29, .int 0]))]) [0, 1, 2] rfl
  have hD9 := hD.sub (ws' := [(p0, .inr (6, [v1, v2, v3, v4, .ref p5, v6, v7, v8, v9, v10, v11])), (p5, .inr (2, [v12, v13, v14, v15, v16, v17, v18, v19, v20, v21, v22, v23, .ref p24, v25])), (p24, .inr (4, [v26, v27, v28, v29, .int 0]))]) [0, 1, 2] (by decide) rfl
  exact W.iret (v := 0) hx hb hr (fun t ht hW => ⟨⟨0, (), rfl, rfl, by rw [ht]; exact hP9, hD9⟩, hS.F ht⟩) hS.2.2 dX9_count_150

set_option maxHeartbeats 4000000 in
set_option maxRecDepth 100000 in
theorem cX7_depth_0 (l : Launch) (G : va_G) (k : Nat → ClassId) (sz : Nat) : CMi l G k yX7_depth wsX7_depth ({ frames := 0, cells := 0, slots := 0, locals := 0 }) [.int 268435455] sz [] (fun r (u : Unit) => r = 0) (fun (u : Unit) => []) := by
  refine Met.ofW (cc := cX7_depth) (maxL := 1) (ret := (some .int)) (by decide) rfl ?_
  intro p e s m args below meth c s₁ B hml hv
  obtain ⟨rfl, hsz, hP, hX, hD0, hZ0⟩ := hv
  have hx := B.exec
  have hb := B.bytes
  have hr := B.returns
  have hts := atoms_spec (ws := wsX7_depth) B.pre
  have hown : s.vm.findClass RX7 = some m.cls := findClass_of_methodNamed B.named
  subst hsz
  have hD := hD0.self (sz := s.heap.size)
  have hZ := ZX.up hP hZ0
  generalize hAe : va_A [] s.heap.size = A at hD hZ ⊢
  have hA : ∀ q : Nat, s.heap.size ≤ q → A q := fun q h => by rw [← hAe]; exact Or.inr h
  have hS : va_S A s.heap s.heap [] := va_S.rf
  have hP : va_P G vwCl [] s.heap := hP
  have hl := lv_entry ([.int 268435455]) (n := 1) (Nat.le_of_ble_eq_true rfl)
  rw [lg_entry_eq]
  generalize (lg_sl ([.int 268435455]) ++ List.replicate (1 - (lg_sl ([.int 268435455])).length) Slot.unset).toArray = ls at hl ⊢
  have hl : lv_has ls 1 [(0, .int 268435455)] := hl
  refine lv_iload_n hx hb dX7_depth_0 rfl (lv_at hl 0 rfl) ?_
  refine lv_bipush (v := 28) hx hb dX7_depth_1 (by decide +kernel) ?_
  refine lv_iushr (v := 0) hx hb dX7_depth_3 (by decide +kernel) ?_
  have hP9 := hP.sub (ws' := []) [] rfl
  have hD9 := hD.sub (ws' := []) [] (by decide) rfl
  exact W.iret (v := 0) hx hb hr (fun t ht hW => ⟨⟨0, (), rfl, rfl, by rw [ht]; exact hP9, hD9⟩, hS.F ht⟩) hS.2.2 dX7_depth_4

