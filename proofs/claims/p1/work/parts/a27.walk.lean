set_option maxHeartbeats 4000000 in
set_option maxRecDepth 100000 in
theorem cX10_bucket_8 (l : Launch) (G : va_G) (k : Nat → ClassId) (p0 : Nat) (i1 : Int32) (v2 : Value) (v3 : Value) (v4 : Value) (v5 : Value) (v6 : Value) (v7 : Value) (v8 : Value) (v9 : Value) (v10 : Value) (v11 : Value) (v12 : Value) (v13 : Value) (v14 : Value) (v15 : Value) (v16 : Value) (v17 : Value) (v18 : Value) (v19 : Value) (v20 : Value) (v21 : Value) (v22 : Value) (v23 : Value) (v24 : Value) (v25 : Value) (v26 : Value) (v27 : Value) (v28 : Value) (v29 : Value) (v30 : Value) (v31 : Value) (v32 : Value) (v33 : Value) (v34 : Value) (v35 : Value) (v36 : Value) (v37 : Value) (v38 : Value) (v39 : Value) (v40 : Value) (v41 : Value) (v42 : Value) (v43 : Value) (v44 : Value) (v45 : Value) (v46 : Value) (v47 : Value) (v48 : Value) (v49 : Value) (v50 : Value) (v51 : Value) (v52 : Value) (v53 : Value) (v54 : Value) (v55 : Value) (v56 : Value) (v57 : Value) (v58 : Value) (v59 : Value) (v60 : Value) (v61 : Value) (v62 : Value) (v63 : Value) (v64 : Value) (v65 : Value) (v66 : Value) (v67 : Value) (v68 : Value) (v69 : Value) (v70 : Value) (v71 : Value) (sz : Nat) (hi1 : 4 < i1) : CMi l G k yX10_bucket wsX10_bucket ({ frames := 1, cells := 0, slots := 0, locals := 22 }) [.ref p0, .int 0, .int i1] sz [(p0, .inr (7, (v2 :: v3 :: v4 :: v5 :: v6 :: v7 :: v8 :: v9 :: v10 :: v11 :: v12 :: v13 :: .int 0 :: v14 :: v15 :: v16 :: v17 :: v18 :: v19 :: v20 :: v21 :: v22 :: v23 :: v24 :: v25 :: v26 :: v27 :: v28 :: v29 :: v30 :: v31 :: v32 :: v33 :: v34 :: v35 :: v36 :: v37 :: v38 :: v39 :: v40 :: v41 :: v42 :: v43 :: v44 :: v45 :: v46 :: v47 :: v48 :: v49 :: v50 :: v51 :: v52 :: v53 :: v54 :: v55 :: v56 :: v57 :: v58 :: v59 :: v60 :: v61 :: v62 :: v63 :: v64 :: v65 :: v66 :: v67 :: v68 :: v69 :: v70 :: v71 :: [])))] (fun r (u : Unit) => r = 0) (fun (u : Unit) => [(p0, .inr (7, (v2 :: v3 :: .int 1 :: v5 :: v6 :: v7 :: v8 :: v9 :: v10 :: v11 :: v12 :: v13 :: .int 0 :: v14 :: v15 :: v16 :: v17 :: v18 :: v19 :: v20 :: v21 :: v22 :: v23 :: v24 :: v25 :: v26 :: v27 :: v28 :: v29 :: v30 :: v31 :: v32 :: v33 :: v34 :: v35 :: v36 :: v37 :: v38 :: v39 :: v40 :: v41 :: v42 :: v43 :: v44 :: v45 :: v46 :: v47 :: v48 :: v49 :: v50 :: v51 :: v52 :: v53 :: v54 :: v55 :: v56 :: v57 :: v58 :: v59 :: v60 :: v61 :: v62 :: v63 :: v64 :: v65 :: v66 :: v67 :: v68 :: v69 :: v70 :: v71 :: [])))]) := by
  refine Met.ofW (cc := cX10_bucket) (maxL := 5) (ret := (some .int)) (by decide) rfl ?_
  intro p e s m args below meth c s₁ B hml hv
  obtain ⟨rfl, hsz, hP, hX, hD0, hZ0⟩ := hv
  have hx := B.exec
  have hb := B.bytes
  have hr := B.returns
  have hts := atoms_spec (ws := wsX10_bucket) B.pre
  have hown : s.vm.findClass RX10 = some m.cls := findClass_of_methodNamed B.named
  subst hsz
  have hD := hD0.self (sz := s.heap.size)
  have hZ := ZX.up hP hZ0
  generalize hAe : va_A [(p0, .inr (7, (v2 :: v3 :: v4 :: v5 :: v6 :: v7 :: v8 :: v9 :: v10 :: v11 :: v12 :: v13 :: .int 0 :: v14 :: v15 :: v16 :: v17 :: v18 :: v19 :: v20 :: v21 :: v22 :: v23 :: v24 :: v25 :: v26 :: v27 :: v28 :: v29 :: v30 :: v31 :: v32 :: v33 :: v34 :: v35 :: v36 :: v37 :: v38 :: v39 :: v40 :: v41 :: v42 :: v43 :: v44 :: v45 :: v46 :: v47 :: v48 :: v49 :: v50 :: v51 :: v52 :: v53 :: v54 :: v55 :: v56 :: v57 :: v58 :: v59 :: v60 :: v61 :: v62 :: v63 :: v64 :: v65 :: v66 :: v67 :: v68 :: v69 :: v70 :: v71 :: [])))] s.heap.size = A at hD hZ ⊢
  have hA : ∀ q : Nat, s.heap.size ≤ q → A q := fun q h => by rw [← hAe]; exact Or.inr h
  have hS : va_S A s.heap s.heap [] := va_S.rf
  have hP : va_P G vwCl [(p0, .inr (7, (v2 :: v3 :: v4 :: v5 :: v6 :: v7 :: v8 :: v9 :: v10 :: v11 :: v12 :: v13 :: .int 0 :: v14 :: v15 :: v16 :: v17 :: v18 :: v19 :: v20 :: v21 :: v22 :: v23 :: v24 :: v25 :: v26 :: v27 :: v28 :: v29 :: v30 :: v31 :: v32 :: v33 :: v34 :: v35 :: v36 :: v37 :: v38 :: v39 :: v40 :: v41 :: v42 :: v43 :: v44 :: v45 :: v46 :: v47 :: v48 :: v49 :: v50 :: v51 :: v52 :: v53 :: v54 :: v55 :: v56 :: v57 :: v58 :: v59 :: v60 :: v61 :: v62 :: v63 :: v64 :: v65 :: v66 :: v67 :: v68 :: v69 :: v70 :: v71 :: [])))] s.heap := hP
  have hl := lv_entry ([.ref p0, .int 0, .int i1]) (n := 5) (Nat.le_of_ble_eq_true rfl)
  rw [lg_entry_eq]
  generalize (lg_sl ([.ref p0, .int 0, .int i1]) ++ List.replicate (5 - (lg_sl ([.ref p0, .int 0, .int i1])).length) Slot.unset).toArray = ls at hl ⊢
  have hl : lv_has ls 5 [(0, .ref p0), (1, .int 0), (2, .int i1)] := hl
  have h0w := hts (.fieldLink RX10 171 "RopeTownModel" "code" "I") (by decide +kernel)
  have h1w : ∀ w ∈ wsX100, w ∈ wsX10_bucket := by decide +kernel
  have h2w := hts (.fieldLink RX10 174 "RopeTownModel" "things" "I") (by decide +kernel)
  refine lv_aload_n hx hb dX10_bucket_0 rfl (lv_at hl 0 rfl) ?_
  refine lv_iconst (v := 0) hx hb dX10_bucket_1 (by decide +kernel) ?_
  refine va_put (D := G) (ci := 7) (v := .int 0) (ty := .int) (C := RX10) (T := TX10) (N := 71) (ref := RX10) hx hb hts h1w tyX10 tyX10_ok nmX10 hown hX.1 hP hD hS 0 rfl rfl 2 (by decide) h0w (fun _ h9 => h9) rfl (by decide +kernel) rfl rfl (Nat.le_of_ble_eq_true rfl) dX10_bucket_2 (fun H locs hP hD hS => ?_)
  refine lv_iload_n hx hb dX10_bucket_5 rfl (lv_at hl 1 rfl) ?_
  refine lv_iconst (v := 0) hx hb dX10_bucket_6 (by decide +kernel) ?_
  refine lv_iconst (v := 1) hx hb dX10_bucket_7 (by decide +kernel) ?_
  refine cz_i (wr := [(p0, .inr (7, (v2 :: v3 :: .int 0 :: v5 :: v6 :: v7 :: v8 :: v9 :: v10 :: v11 :: v12 :: v13 :: .int 0 :: v14 :: v15 :: v16 :: v17 :: v18 :: v19 :: v20 :: v21 :: v22 :: v23 :: v24 :: v25 :: v26 :: v27 :: v28 :: v29 :: v30 :: v31 :: v32 :: v33 :: v34 :: v35 :: v36 :: v37 :: v38 :: v39 :: v40 :: v41 :: v42 :: v43 :: v44 :: v45 :: v46 :: v47 :: v48 :: v49 :: v50 :: v51 :: v52 :: v53 :: v54 :: v55 :: v56 :: v57 :: v58 :: v59 :: v60 :: v61 :: v62 :: v63 :: v64 :: v65 :: v66 :: v67 :: v68 :: v69 :: v70 :: v71 :: [])))]) (va_runS (As := [.int 0, .int 0, .int 1]) (rest := []) ⟨hx, hb, hml, hown, hts⟩ (cX10_isIn_24 l G k H.size) (cwS 3 hts gX10_bucket_X10_isIn rfl rfl rfl (by decide +kernel) ⟨Nat.le_of_ble_eq_true rfl, Nat.le_of_ble_eq_true rfl⟩) (cz_preS hZ hS hX hP hD [] rfl rfl) rfl rfl hl.1 rfl (lv_room (Nat.le_of_ble_eq_true rfl)) dX10_bucket_8 ⟨Nat.le_of_ble_eq_true rfl, Nat.le_of_ble_eq_true rfl⟩) hP hD hS hA [] [0] rfl rfl (by decide) (by decide) (fun r u H locs hp hP hD hS => ?_)
  have hp : r = 1 := hp
  subst hp
  refine lv_if_ne (tgt := 20) hx hb dX10_bucket_11 (by decide) (fun _ => ?_) (fun q => absurd (q) (by decide +kernel))
  refine lv_iconst (v := 0) hx hb dX10_bucket_20 (by decide +kernel) ?_
  refine lv_istore_n (lv' := [(3, .int 0), (0, .ref p0), (1, .int 0), (2, .int i1)]) hx hb dX10_bucket_21 rfl hl (by decide) rfl (fun ls hl => ?_)
  refine lv_iconst (v := 0) hx hb dX10_bucket_22 (by decide +kernel) ?_
  refine lv_istore (lv' := [(4, .int 0), (3, .int 0), (0, .ref p0), (1, .int 0), (2, .int i1)]) hx hb dX10_bucket_23 hl (by decide) rfl (fun ls hl => ?_)
  refine lv_iload hx hb dX10_bucket_25 (lv_at hl 0 rfl) ?_
  refine lv_aload_n hx hb dX10_bucket_27 rfl (lv_at hl 2 rfl) ?_
  refine va_get (D := G) (ci := 7) (v := .int 0) (C := RX10) (T := TX10) (N := 71) (ref := RX10) hx hb hts h1w hown hX.1 hP 0 rfl rfl 12 (by decide) h2w (fun _ h9 => h9) rfl dX10_bucket_28 ?_
  refine lv_icmp_ge (tgt := 65) hx hb dX10_bucket_31 (by decide) (fun _ => ?_) (fun q => absurd (by decide +kernel) (q))
  refine lv_iload_n hx hb dX10_bucket_65 rfl (lv_at hl 4 rfl) ?_
  refine lv_tableOut (tgt := 150) hx hb dX10_bucket_66 (Or.inr (zs_gt (a := 4) hi1 (by decide +kernel))) (by decide) ?_
  refine lv_aload_n hx hb dX10_bucket_150 rfl (lv_at hl 2 rfl) ?_
  refine lv_iconst (v := 1) hx hb dX10_bucket_151 (by decide +kernel) ?_
  refine cz_i (wr := []) (va_runV (As := [.int 1]) (rest := []) ⟨hx, hb, hml, hown, hts⟩ (cX10_fail_0 l G k p0 v2 v3 (.int 0) v5 v6 v7 v8 v9 v10 v11 v12 v13 (.int 0) v14 v15 v16 v17 v18 v19 v20 v21 v22 v23 v24 v25 v26 v27 v28 v29 v30 v31 v32 v33 v34 v35 v36 v37 v38 v39 v40 v41 v42 v43 v44 v45 v46 v47 v48 v49 v50 v51 v52 v53 v54 v55 v56 v57 v58 v59 v60 v61 v62 v63 v64 v65 v66 v67 v68 v69 v70 v71 H.size) (cwV 1 hts gX10_bucket_X10_fail rfl rfl rfl (by decide +kernel) ⟨Nat.le_of_ble_eq_true rfl, Nat.le_of_ble_eq_true rfl⟩) (cz_preV hZ hS hX hP hD [0] rfl rfl (ci := 7) (q0 := 0) rfl rfl) rfl rfl hl.1 rfl (lv_room (Nat.le_of_ble_eq_true rfl)) dX10_bucket_152 ⟨Nat.le_of_ble_eq_true rfl, Nat.le_of_ble_eq_true rfl⟩) hP hD hS hA [0] [] rfl rfl (by decide) (by decide) (fun r u H locs hp hP hD hS => ?_)
  have hp : r = 0 := hp
  subst hp
  have hP9 := hP.sub (ws' := [(p0, .inr (7, (v2 :: v3 :: .int 1 :: v5 :: v6 :: v7 :: v8 :: v9 :: v10 :: v11 :: v12 :: v13 :: .int 0 :: v14 :: v15 :: v16 :: v17 :: v18 :: v19 :: v20 :: v21 :: v22 :: v23 :: v24 :: v25 :: v26 :: v27 :: v28 :: v29 :: v30 :: v31 :: v32 :: v33 :: v34 :: v35 :: v36 :: v37 :: v38 :: v39 :: v40 :: v41 :: v42 :: v43 :: v44 :: v45 :: v46 :: v47 :: v48 :: v49 :: v50 :: v51 :: v52 :: v53 :: v54 :: v55 :: v56 :: v57 :: v58 :: v59 :: v60 :: v61 :: v62 :: v63 :: v64 :: v65 :: v66 :: v67 :: v68 :: v69 :: v70 :: v71 :: [])))]) [0] rfl
  have hD9 := hD.sub (ws' := [(p0, .inr (7, (v2 :: v3 :: .int 1 :: v5 :: v6 :: v7 :: v8 :: v9 :: v10 :: v11 :: v12 :: v13 :: .int 0 :: v14 :: v15 :: v16 :: v17 :: v18 :: v19 :: v20 :: v21 :: v22 :: v23 :: v24 :: v25 :: v26 :: v27 :: v28 :: v29 :: v30 :: v31 :: v32 :: v33 :: v34 :: v35 :: v36 :: v37 :: v38 :: v39 :: v40 :: v41 :: v42 :: v43 :: v44 :: v45 :: v46 :: v47 :: v48 :: v49 :: v50 :: v51 :: v52 :: v53 :: v54 :: v55 :: v56 :: v57 :: v58 :: v59 :: v60 :: v61 :: v62 :: v63 :: v64 :: v65 :: v66 :: v67 :: v68 :: v69 :: v70 :: v71 :: [])))]) [0] (by decide) rfl
  exact W.iret (v := 0) hx hb hr (fun t ht hW => ⟨⟨0, (), rfl, rfl, by rw [ht]; exact hP9, hD9⟩, hS.F ht⟩) hS.2.2 dX10_bucket_155

set_option maxHeartbeats 4000000 in
set_option maxRecDepth 100000 in
theorem xX9_bucket_14 (l : Launch) (htr : l.stackTraces = false) (G : va_G) (k : Nat → ClassId) (p0 : Nat) (i1 : Int32) (v2 : Value) (v3 : Value) (v4 : Value) (v5 : Value) (p6 : Nat) (v7 : Value) (p8 : Nat) (v9 : Value) (v10 : Value) (v11 : Value) (v12 : Value) (v13 : Value) (v14 : Value) (v15 : Value) (v16 : Value) (v17 : Value) (v18 : Value) (v19 : Value) (v20 : Value) (v21 : Value) (v22 : Value) (v23 : Value) (v24 : Value) (v25 : Value) (v26 : Value) (v27 : Value) (v28 : Value) (v29 : Value) (v30 : Value) (v31 : Value) (v32 : Value) (v33 : Value) (v34 : Value) (v35 : Value) (v36 : Value) (sz : Nat) (hi1 : i1 < 0) : CXi l G k yX9_bucket wsX9_bucket ({ frames := 6, cells := 1, slots := 6, locals := 100 }) [.ref p0, .int 1, .int i1] sz [(p0, .inr (6, [v2, v3, v4, v5, .ref p6, v7, .ref p8, v9, v10, v11, v12])), (p8, .inr (0, [.int 268435455, v13, v14, v15, v16, v17, v18, v19, v20, v21, v22, v23])), (p6, .inr (2, [.int 1, v24, v25, v26, v27, v28, v29, v30, v31, v32, v33, v34, v35, v36]))] ns_X := by
  refine vx_ofW (cc := cX9_bucket) (maxL := 4) (ret := (some .int)) (by decide) rfl ?_
  intro p e s m args below meth c s₁ B hml htab hv
  obtain ⟨⟨rfl, hsz, hP, hX, hD0, hZ0⟩, hT9⟩ := hv
  have hlocks := B.notSynchronized
  have hx := B.exec
  have hb := B.bytes
  have hr := B.returns
  have hts := atoms_spec (ws := wsX9_bucket) B.pre
  have hown : s.vm.findClass RX9 = some m.cls := findClass_of_methodNamed B.named
  subst hsz
  have hD := hD0.self (sz := s.heap.size)
  have hZ := ZX.up hP hZ0
  generalize hAe : va_A [(p0, .inr (6, [v2, v3, v4, v5, .ref p6, v7, .ref p8, v9, v10, v11, v12])), (p8, .inr (0, [.int 268435455, v13, v14, v15, v16, v17, v18, v19, v20, v21, v22, v23])), (p6, .inr (2, [.int 1, v24, v25, v26, v27, v28, v29, v30, v31, v32, v33, v34, v35, v36]))] s.heap.size = A at hD hZ ⊢
  have hA : ∀ q : Nat, s.heap.size ≤ q → A q := fun q h => by rw [← hAe]; exact Or.inr h
  have hS : va_S A s.heap s.heap [] := va_S.rf
  have hP : va_P G vwCl [(p0, .inr (6, [v2, v3, v4, v5, .ref p6, v7, .ref p8, v9, v10, v11, v12])), (p8, .inr (0, [.int 268435455, v13, v14, v15, v16, v17, v18, v19, v20, v21, v22, v23])), (p6, .inr (2, [.int 1, v24, v25, v26, v27, v28, v29, v30, v31, v32, v33, v34, v35, v36]))] s.heap := hP
  have hl := lv_entry ([.ref p0, .int 1, .int i1]) (n := 4) (Nat.le_of_ble_eq_true rfl)
  rw [lg_entry_eq]
  generalize (lg_sl ([.ref p0, .int 1, .int i1]) ++ List.replicate (4 - (lg_sl ([.ref p0, .int 1, .int i1])).length) Slot.unset).toArray = ls at hl ⊢
  have hl : lv_has ls 4 [(0, .ref p0), (1, .int 1), (2, .int i1)] := hl
  have h0w := hts (.fieldLink RX9 23 "RopeTown" "plan" "LRopeTown$Plan;") (by decide +kernel)
  have h1w : ∀ w ∈ wsX90, w ∈ wsX9_bucket := by decide +kernel
  have h2w := hts (.fieldLink RX9 42 "RopeTown" "book" "LRopeTown$Book;") (by decide +kernel)
  have h3w : ∀ w ∈ wsX10, w ∈ wsX9_bucket := by decide +kernel
  have h4w := hts (.initialized RX3) (by decide +kernel)
  have h5w := hts (.instanceMethod yX3_bucketDepth) (by decide +kernel)
  have h6w := hts (.selects RX3 yX3_bucketDepth yX3_bucketDepth) (by decide +kernel)
  have h7w := hts (.classLink RX9 144 "java/util/NoSuchElementException") (by decide +kernel)
  have h8w := hts (.initialized "java/util/NoSuchElementException") (by decide +kernel)
  refine lv_iload_n hx hb dX9_bucket_0 rfl (lv_at hl 1 rfl) ?_
  refine lv_if_lt (tgt := 9) hx hb dX9_bucket_1 (by decide) (fun q => absurd (q) (by decide +kernel)) (fun _ => ?_)
  refine lv_iload_n hx hb dX9_bucket_4 rfl (lv_at hl 1 rfl) ?_
  refine lv_iconst (v := 1) hx hb dX9_bucket_5 (by decide +kernel) ?_
  refine lv_icmp_le (tgt := 19) hx hb dX9_bucket_6 (by decide) (fun _ => ?_) (fun q => absurd (by decide +kernel) (q))
  refine lv_aload_n hx hb dX9_bucket_19 rfl (lv_at hl 0 rfl) ?_
  refine va_get (D := G) (ci := 6) (v := .ref p6) (C := RX9) (T := TX9) (N := 11) (ref := RX9) hx hb hts h1w hown hX.1 hP 0 rfl rfl 4 (by decide) h0w (fun _ h9 => h9) rfl dX9_bucket_20 ?_
  refine lv_aload_n hx hb dX9_bucket_23 rfl (lv_at hl 0 rfl) ?_
  refine va_get (D := G) (ci := 6) (v := .ref p8) (C := RX9) (T := TX9) (N := 11) (ref := RX9) hx hb hts h1w hown hX.1 hP 0 rfl rfl 6 (by decide) h2w (fun _ h9 => h9) rfl dX9_bucket_24 ?_
  refine va_getN (D := G) (ci := 0) (v := .int 268435455) (C := RX1) (T := TX1) (N := 12) (ref := RX1) (host := RX9) hx hb hts h3w hown hX.1 hP 1 rfl rfl 0 (by decide) (nf_37 hX.2.2.1) (fun _ h9 => h9) rfl dX9_bucket_27 ?_
  refine lv_iload_n hx hb dX9_bucket_30 rfl (lv_at hl 1 rfl) ?_
  refine cz_i (wr := [(p0, .inr (6, [v2, v3, v4, v5, .ref p6, v7, .ref p8, v9, v10, v11, v12])), (p8, .inr (0, [.int 268435455, v13, v14, v15, v16, v17, v18, v19, v20, v21, v22, v23]))]) (va_runVN (As := [.int 268435455, .int 1]) (rest := []) ⟨hx, hb, hml, hown, hts⟩ (cX3_bucketDepth_1 l G k p6 v24 v25 v26 v27 v28 v29 v30 v31 v32 v33 v34 v35 v36 s.heap.size) ⟨va_cnB 2 hts gX9_bucket_X3_bucketDepth_n179 rfl rfl rfl (nm_42 hX.2.2.1) h4w (by decide +kernel) ⟨Nat.le_of_ble_eq_true rfl, Nat.le_of_ble_eq_true rfl⟩, h5w, h6w⟩ (cz_preV hZ hS hX hP hD [2] rfl rfl (ci := 2) (q0 := 2) rfl rfl) rfl rfl hl.1 rfl (lv_room (Nat.le_of_ble_eq_true rfl)) dX9_bucket_31 ⟨Nat.le_of_ble_eq_true rfl, Nat.le_of_ble_eq_true rfl⟩) hP hD hS hA [2] [0, 1] rfl rfl (by decide) (by decide) (fun r u H locs hp hP hD hS => ?_)
  have hp : r = 1 := hp
  subst hp
  refine lv_istore_n (lv' := [(3, .int 1), (0, .ref p0), (1, .int 1), (2, .int i1)]) hx hb dX9_bucket_34 rfl hl (by decide) rfl (fun ls hl => ?_)
  refine lv_iload_n hx hb dX9_bucket_35 rfl (lv_at hl 3 rfl) ?_
  refine lv_tableOut (tgt := 144) hx hb dX9_bucket_36 (Or.inl (zs_lt (a := 0) hi1 (by decide +kernel))) (by decide) ?_
  exact ns_throw (own := RX9) (ik := 144) (is := 191) (ic := 148) hx hb htr hown h7w h8w (hX.2.2.2.2 5 _ rfl) (tx_ns hT9 (fun w h => hts w (twbucket w h))) ns_good hZ.2.1 hZ.2.2 hS (hl.1.trans hml.symm) dX9_bucket_144 dX9_bucket_147 dX9_bucket_148 dX9_bucket_150 dX9_bucket_153 (fun x hx9 => (htab x hx9).elim) (Nat.le_of_ble_eq_true rfl) (Nat.le_of_ble_eq_true rfl) (Nat.le_of_ble_eq_true rfl) (Nat.le_of_ble_eq_true rfl) hlocks (fun t ha hz hq => ⟨(), trivial, rfl, Nat.le_trans hS.1 hz, fun q h3 h4 => (hq q (Nat.lt_of_lt_of_le h3 hS.1)).trans (hS.2.1 q h3 h4)⟩) hS.2.2 (Nat.le_of_ble_eq_true rfl) (Nat.le_of_ble_eq_true rfl)

set_option maxHeartbeats 4000000 in
set_option maxRecDepth 100000 in
theorem xL_bucket_9 (l : Launch) (htr : l.stackTraces = false) (G : va_G) (k : Nat → ClassId) (p0 : Nat) (i1 : Int32) (p2 : Nat) (v3 : Value) (v4 : Value) (v5 : Value) (v6 : Value) (p7 : Nat) (v8 : Value) (p9 : Nat) (v10 : Value) (v11 : Value) (v12 : Value) (v13 : Value) (v14 : Value) (v15 : Value) (v16 : Value) (v17 : Value) (v18 : Value) (v19 : Value) (v20 : Value) (v21 : Value) (v22 : Value) (v23 : Value) (v24 : Value) (v25 : Value) (v26 : Value) (v27 : Value) (v28 : Value) (v29 : Value) (v30 : Value) (v31 : Value) (v32 : Value) (v33 : Value) (v34 : Value) (v35 : Value) (v36 : Value) (v37 : Value) (sz : Nat) (hi1 : i1 < 0) : CTi l G k yL_bucket wsL_bucket ({ frames := 7, cells := 1, slots := 6, locals := 123 }) [.ref p0, .int 1, .int i1, .ref p2] sz [(p0, .inr (6, [v3, v4, v5, v6, .ref p7, v8, .ref p9, v10, v11, v12, v13])), (p9, .inr (0, [.int 268435455, v14, v15, v16, v17, v18, v19, v20, v21, v22, v23, v24])), (p7, .inr (2, [.int 1, v25, v26, v27, v28, v29, v30, v31, v32, v33, v34, v35, v36, v37]))] (fun r (u : Unit) => r = 1) (fun (u : Unit) => []) := by
  refine va_MetW (cc := cL_bucket) (maxL := 5) (ret := (some .int)) (by decide) rfl ?_
  intro p e s m args below meth c s₁ B hml hv
  obtain ⟨⟨rfl, hsz, hP, hX, hD0, hZ0⟩, hT9⟩ := hv
  have hlocks := B.notSynchronized
  have hx := B.exec
  have hb := B.bytes
  have hr := B.returns
  have hts := atoms_spec (ws := wsL_bucket) B.pre
  have hown : s.vm.findClass RL = some m.cls := findClass_of_methodNamed B.named
  subst hsz
  have hD := hD0.self (sz := s.heap.size)
  have hZ := ZX.up hP hZ0
  generalize hAe : va_A [(p0, .inr (6, [v3, v4, v5, v6, .ref p7, v8, .ref p9, v10, v11, v12, v13])), (p9, .inr (0, [.int 268435455, v14, v15, v16, v17, v18, v19, v20, v21, v22, v23, v24])), (p7, .inr (2, [.int 1, v25, v26, v27, v28, v29, v30, v31, v32, v33, v34, v35, v36, v37]))] s.heap.size = A at hD hZ ⊢
  have hA : ∀ q : Nat, s.heap.size ≤ q → A q := fun q h => by rw [← hAe]; exact Or.inr h
  have hS : va_S A s.heap s.heap [] := va_S.rf
  have hP : va_P G vwCl [(p0, .inr (6, [v3, v4, v5, v6, .ref p7, v8, .ref p9, v10, v11, v12, v13])), (p9, .inr (0, [.int 268435455, v14, v15, v16, v17, v18, v19, v20, v21, v22, v23, v24])), (p7, .inr (2, [.int 1, v25, v26, v27, v28, v29, v30, v31, v32, v33, v34, v35, v36, v37]))] s.heap := hP
  have hl := lv_entry ([.ref p0, .int 1, .int i1, .ref p2]) (n := 5) (Nat.le_of_ble_eq_true rfl)
  rw [lg_entry_eq]
  generalize (lg_sl ([.ref p0, .int 1, .int i1, .ref p2]) ++ List.replicate (5 - (lg_sl ([.ref p0, .int 1, .int i1, .ref p2])).length) Slot.unset).toArray = ls at hl ⊢
  have hl : lv_has ls 5 [(0, .ref p0), (1, .int 1), (2, .int i1), (3, .ref p2)] := hl
  have h0w := hts (.classLink RL 18 "java/util/NoSuchElementException") (by decide +kernel)
  refine lv_aload_n hx hb dL_bucket_0 rfl (lv_at hl 3 rfl) ?_
  refine lv_iconst (v := 0) hx hb dL_bucket_1 (by decide +kernel) ?_
  refine lv_aload_n hx hb dL_bucket_2 rfl (lv_at hl 0 rfl) ?_
  refine lv_iload_n hx hb dL_bucket_3 rfl (lv_at hl 1 rfl) ?_
  refine lv_iload_n hx hb dL_bucket_4 rfl (lv_at hl 2 rfl) ?_
  refine cz_xi (wr := []) (vx_runV (As := [.int 1, .int i1]) (rest := [.int 0, .ref p2]) ⟨hx, hb, hml, hown, hts⟩ (xX9_bucket_14 l htr G k p0 i1 v3 v4 v5 v6 p7 v8 p9 v10 v11 v12 v13 v14 v15 v16 v17 v18 v19 v20 v21 v22 v23 v24 v25 v26 v27 v28 v29 v30 v31 v32 v33 v34 v35 v36 v37 s.heap.size hi1) (cwV 2 hts gL_bucket_X9_bucket rfl rfl rfl (by decide +kernel) ⟨Nat.le_of_ble_eq_true rfl, Nat.le_of_ble_eq_true rfl⟩) (cz_preVT hT9 hZ hS hX hP hD [0, 1, 2] rfl rfl (ci := 6) (q0 := 0) rfl rfl) rfl rfl hl.1 rfl (lv_room (Nat.le_of_ble_eq_true rfl)) dL_bucket_5 ⟨Nat.le_of_ble_eq_true rfl, Nat.le_of_ble_eq_true rfl⟩) hP hD hS hA [0, 1, 2] [] rfl rfl (by decide) (by decide) (fun ce q9 H locs hce hcv hcl hP hD hS => ?_)
  refine cz_catch (name := "java/util/NoSuchElementException") hown ⟨0, 10, 13, 18⟩ (vx_table (x := yL_bucket) B (hts _ List.mem_cons_self)) (by decide +kernel) (by decide) h0w (va_Nw.use rfl (hT9.2 _ List.mem_cons_self)) hce hcv hcl ?_
  refine W.widen (k := 1) (n := 6) (Nat.le_of_ble_eq_true rfl) (Nat.le_of_ble_eq_true rfl) ?_
  refine lv_astore (lv' := [(4, .ref q9), (0, .ref p0), (1, .int 1), (2, .int i1), (3, .ref p2)]) hx hb dL_bucket_13 hl (by decide) rfl (fun ls hl => ?_)
  refine lv_iconst (v := 1) hx hb dL_bucket_15 (by decide +kernel) ?_
  have hP9 := hP.sub (ws' := []) [] rfl
  have hD9 := hD.sub (ws' := []) [] (by decide) rfl
  refine W.widen (k := 1) (n := 6) (Nat.le_of_ble_eq_true rfl) (Nat.le_of_ble_eq_true rfl) ?_
  exact W.iret (v := 1) hx hb hr (fun t ht hW => ⟨⟨1, (), rfl, rfl, by rw [ht]; exact hP9, hD9⟩, hS.F ht⟩) hS.2.2 dL_bucket_16

set_option maxHeartbeats 4000000 in
set_option maxRecDepth 100000 in
theorem cX10_isIn_25 (l : Launch) (G : va_G) (k : Nat → ClassId) (sz : Nat) : CMi l G k yX10_isIn wsX10_isIn ({ frames := 0, cells := 0, slots := 0, locals := 0 }) [.int 1, .int 0, .int 1] sz [] (fun r (u : Unit) => r = 1) (fun (u : Unit) => []) := by
  refine Met.ofW (cc := cX10_isIn) (maxL := 3) (ret := (some .boolean)) (by decide) rfl ?_
  intro p e s m args below meth c s₁ B hml hv
  obtain ⟨rfl, hsz, hP, hX, hD0, hZ0⟩ := hv
  have hx := B.exec
  have hb := B.bytes
  have hr := B.returns
  have hts := atoms_spec (ws := wsX10_isIn) B.pre
  have hown : s.vm.findClass RX10 = some m.cls := findClass_of_methodNamed B.named
  subst hsz
  have hD := hD0.self (sz := s.heap.size)
  have hZ := ZX.up hP hZ0
  generalize hAe : va_A [] s.heap.size = A at hD hZ ⊢
  have hA : ∀ q : Nat, s.heap.size ≤ q → A q := fun q h => by rw [← hAe]; exact Or.inr h
  have hS : va_S A s.heap s.heap [] := va_S.rf
  have hP : va_P G vwCl [] s.heap := hP
  have hl := lv_entry ([.int 1, .int 0, .int 1]) (n := 3) (Nat.le_of_ble_eq_true rfl)
  rw [lg_entry_eq]
  generalize (lg_sl ([.int 1, .int 0, .int 1]) ++ List.replicate (3 - (lg_sl ([.int 1, .int 0, .int 1])).length) Slot.unset).toArray = ls at hl ⊢
  have hl : lv_has ls 3 [(0, .int 1), (1, .int 0), (2, .int 1)] := hl
  refine lv_iload_n hx hb dX10_isIn_0 rfl (lv_at hl 0 rfl) ?_
  refine lv_iload_n hx hb dX10_isIn_1 rfl (lv_at hl 1 rfl) ?_
  refine lv_icmp_lt (tgt := 14) hx hb dX10_isIn_2 (by decide) (fun q => absurd (q) (by decide +kernel)) (fun _ => ?_)
  refine lv_iload_n hx hb dX10_isIn_5 rfl (lv_at hl 0 rfl) ?_
  refine lv_iload_n hx hb dX10_isIn_6 rfl (lv_at hl 2 rfl) ?_
  refine lv_icmp_gt (tgt := 14) hx hb dX10_isIn_7 (by decide) (fun q => absurd (q) (by decide +kernel)) (fun _ => ?_)
  refine lv_iconst (v := 1) hx hb dX10_isIn_10 (by decide +kernel) ?_
  refine lv_goto (tgt := 15) hx hb dX10_isIn_11 (by decide) ?_
  have hP9 := hP.sub (ws' := []) [] rfl
  have hD9 := hD.sub (ws' := []) [] (by decide) rfl
  exact W.zret (v := 1) hx hb hr (by decide +kernel) (fun t ht hW => ⟨⟨1, (), rfl, rfl, by rw [ht]; exact hP9, hD9⟩, hS.F ht⟩) hS.2.2 dX10_isIn_15

set_option maxHeartbeats 4000000 in
set_option maxRecDepth 100000 in
theorem cX10_bucket_9 (l : Launch) (G : va_G) (k : Nat → ClassId) (p0 : Nat) (i1 : Int32) (v2 : Value) (v3 : Value) (v4 : Value) (v5 : Value) (v6 : Value) (v7 : Value) (v8 : Value) (v9 : Value) (v10 : Value) (v11 : Value) (v12 : Value) (v13 : Value) (v14 : Value) (v15 : Value) (v16 : Value) (v17 : Value) (v18 : Value) (v19 : Value) (v20 : Value) (v21 : Value) (v22 : Value) (v23 : Value) (v24 : Value) (v25 : Value) (v26 : Value) (v27 : Value) (v28 : Value) (v29 : Value) (v30 : Value) (v31 : Value) (v32 : Value) (v33 : Value) (v34 : Value) (v35 : Value) (v36 : Value) (v37 : Value) (v38 : Value) (v39 : Value) (v40 : Value) (v41 : Value) (v42 : Value) (v43 : Value) (v44 : Value) (v45 : Value) (v46 : Value) (v47 : Value) (v48 : Value) (v49 : Value) (v50 : Value) (v51 : Value) (v52 : Value) (v53 : Value) (v54 : Value) (v55 : Value) (v56 : Value) (v57 : Value) (v58 : Value) (v59 : Value) (v60 : Value) (v61 : Value) (v62 : Value) (v63 : Value) (v64 : Value) (v65 : Value) (v66 : Value) (v67 : Value) (v68 : Value) (v69 : Value) (v70 : Value) (v71 : Value) (sz : Nat) (hi1 : i1 < 0) : CMi l G k yX10_bucket wsX10_bucket ({ frames := 1, cells := 0, slots := 0, locals := 22 }) [.ref p0, .int 1, .int i1] sz [(p0, .inr (7, (v2 :: v3 :: v4 :: v5 :: v6 :: v7 :: v8 :: v9 :: v10 :: v11 :: v12 :: v13 :: .int 0 :: v14 :: v15 :: v16 :: v17 :: v18 :: v19 :: v20 :: v21 :: v22 :: v23 :: v24 :: v25 :: v26 :: v27 :: v28 :: v29 :: v30 :: v31 :: v32 :: v33 :: v34 :: v35 :: v36 :: v37 :: v38 :: v39 :: v40 :: v41 :: v42 :: v43 :: v44 :: v45 :: v46 :: v47 :: v48 :: v49 :: v50 :: v51 :: v52 :: v53 :: v54 :: v55 :: v56 :: v57 :: v58 :: v59 :: v60 :: v61 :: v62 :: v63 :: v64 :: v65 :: v66 :: v67 :: v68 :: v69 :: v70 :: v71 :: [])))] (fun r (u : Unit) => r = 0) (fun (u : Unit) => [(p0, .inr (7, (v2 :: v3 :: .int 1 :: v5 :: v6 :: v7 :: v8 :: v9 :: v10 :: v11 :: v12 :: v13 :: .int 0 :: v14 :: v15 :: v16 :: v17 :: v18 :: v19 :: v20 :: v21 :: v22 :: v23 :: v24 :: v25 :: v26 :: v27 :: v28 :: v29 :: v30 :: v31 :: v32 :: v33 :: v34 :: v35 :: v36 :: v37 :: v38 :: v39 :: v40 :: v41 :: v42 :: v43 :: v44 :: v45 :: v46 :: v47 :: v48 :: v49 :: v50 :: v51 :: v52 :: v53 :: v54 :: v55 :: v56 :: v57 :: v58 :: v59 :: v60 :: v61 :: v62 :: v63 :: v64 :: v65 :: v66 :: v67 :: v68 :: v69 :: v70 :: v71 :: [])))]) := by
  refine Met.ofW (cc := cX10_bucket) (maxL := 5) (ret := (some .int)) (by decide) rfl ?_
  intro p e s m args below meth c s₁ B hml hv
  obtain ⟨rfl, hsz, hP, hX, hD0, hZ0⟩ := hv
  have hx := B.exec
  have hb := B.bytes
  have hr := B.returns
  have hts := atoms_spec (ws := wsX10_bucket) B.pre
  have hown : s.vm.findClass RX10 = some m.cls := findClass_of_methodNamed B.named
  subst hsz
  have hD := hD0.self (sz := s.heap.size)
  have hZ := ZX.up hP hZ0
  generalize hAe : va_A [(p0, .inr (7, (v2 :: v3 :: v4 :: v5 :: v6 :: v7 :: v8 :: v9 :: v10 :: v11 :: v12 :: v13 :: .int 0 :: v14 :: v15 :: v16 :: v17 :: v18 :: v19 :: v20 :: v21 :: v22 :: v23 :: v24 :: v25 :: v26 :: v27 :: v28 :: v29 :: v30 :: v31 :: v32 :: v33 :: v34 :: v35 :: v36 :: v37 :: v38 :: v39 :: v40 :: v41 :: v42 :: v43 :: v44 :: v45 :: v46 :: v47 :: v48 :: v49 :: v50 :: v51 :: v52 :: v53 :: v54 :: v55 :: v56 :: v57 :: v58 :: v59 :: v60 :: v61 :: v62 :: v63 :: v64 :: v65 :: v66 :: v67 :: v68 :: v69 :: v70 :: v71 :: [])))] s.heap.size = A at hD hZ ⊢
  have hA : ∀ q : Nat, s.heap.size ≤ q → A q := fun q h => by rw [← hAe]; exact Or.inr h
  have hS : va_S A s.heap s.heap [] := va_S.rf
  have hP : va_P G vwCl [(p0, .inr (7, (v2 :: v3 :: v4 :: v5 :: v6 :: v7 :: v8 :: v9 :: v10 :: v11 :: v12 :: v13 :: .int 0 :: v14 :: v15 :: v16 :: v17 :: v18 :: v19 :: v20 :: v21 :: v22 :: v23 :: v24 :: v25 :: v26 :: v27 :: v28 :: v29 :: v30 :: v31 :: v32 :: v33 :: v34 :: v35 :: v36 :: v37 :: v38 :: v39 :: v40 :: v41 :: v42 :: v43 :: v44 :: v45 :: v46 :: v47 :: v48 :: v49 :: v50 :: v51 :: v52 :: v53 :: v54 :: v55 :: v56 :: v57 :: v58 :: v59 :: v60 :: v61 :: v62 :: v63 :: v64 :: v65 :: v66 :: v67 :: v68 :: v69 :: v70 :: v71 :: [])))] s.heap := hP
  have hl := lv_entry ([.ref p0, .int 1, .int i1]) (n := 5) (Nat.le_of_ble_eq_true rfl)
  rw [lg_entry_eq]
  generalize (lg_sl ([.ref p0, .int 1, .int i1]) ++ List.replicate (5 - (lg_sl ([.ref p0, .int 1, .int i1])).length) Slot.unset).toArray = ls at hl ⊢
  have hl : lv_has ls 5 [(0, .ref p0), (1, .int 1), (2, .int i1)] := hl
  have h0w := hts (.fieldLink RX10 171 "RopeTownModel" "code" "I") (by decide +kernel)
  have h1w : ∀ w ∈ wsX100, w ∈ wsX10_bucket := by decide +kernel
  have h2w := hts (.fieldLink RX10 174 "RopeTownModel" "things" "I") (by decide +kernel)
  refine lv_aload_n hx hb dX10_bucket_0 rfl (lv_at hl 0 rfl) ?_
  refine lv_iconst (v := 0) hx hb dX10_bucket_1 (by decide +kernel) ?_
  refine va_put (D := G) (ci := 7) (v := .int 0) (ty := .int) (C := RX10) (T := TX10) (N := 71) (ref := RX10) hx hb hts h1w tyX10 tyX10_ok nmX10 hown hX.1 hP hD hS 0 rfl rfl 2 (by decide) h0w (fun _ h9 => h9) rfl (by decide +kernel) rfl rfl (Nat.le_of_ble_eq_true rfl) dX10_bucket_2 (fun H locs hP hD hS => ?_)
  refine lv_iload_n hx hb dX10_bucket_5 rfl (lv_at hl 1 rfl) ?_
  refine lv_iconst (v := 0) hx hb dX10_bucket_6 (by decide +kernel) ?_
  refine lv_iconst (v := 1) hx hb dX10_bucket_7 (by decide +kernel) ?_
  refine cz_i (wr := [(p0, .inr (7, (v2 :: v3 :: .int 0 :: v5 :: v6 :: v7 :: v8 :: v9 :: v10 :: v11 :: v12 :: v13 :: .int 0 :: v14 :: v15 :: v16 :: v17 :: v18 :: v19 :: v20 :: v21 :: v22 :: v23 :: v24 :: v25 :: v26 :: v27 :: v28 :: v29 :: v30 :: v31 :: v32 :: v33 :: v34 :: v35 :: v36 :: v37 :: v38 :: v39 :: v40 :: v41 :: v42 :: v43 :: v44 :: v45 :: v46 :: v47 :: v48 :: v49 :: v50 :: v51 :: v52 :: v53 :: v54 :: v55 :: v56 :: v57 :: v58 :: v59 :: v60 :: v61 :: v62 :: v63 :: v64 :: v65 :: v66 :: v67 :: v68 :: v69 :: v70 :: v71 :: [])))]) (va_runS (As := [.int 1, .int 0, .int 1]) (rest := []) ⟨hx, hb, hml, hown, hts⟩ (cX10_isIn_25 l G k H.size) (cwS 3 hts gX10_bucket_X10_isIn rfl rfl rfl (by decide +kernel) ⟨Nat.le_of_ble_eq_true rfl, Nat.le_of_ble_eq_true rfl⟩) (cz_preS hZ hS hX hP hD [] rfl rfl) rfl rfl hl.1 rfl (lv_room (Nat.le_of_ble_eq_true rfl)) dX10_bucket_8 ⟨Nat.le_of_ble_eq_true rfl, Nat.le_of_ble_eq_true rfl⟩) hP hD hS hA [] [0] rfl rfl (by decide) (by decide) (fun r u H locs hp hP hD hS => ?_)
  have hp : r = 1 := hp
  subst hp
  refine lv_if_ne (tgt := 20) hx hb dX10_bucket_11 (by decide) (fun _ => ?_) (fun q => absurd (q) (by decide +kernel))
  refine lv_iconst (v := 0) hx hb dX10_bucket_20 (by decide +kernel) ?_
  refine lv_istore_n (lv' := [(3, .int 0), (0, .ref p0), (1, .int 1), (2, .int i1)]) hx hb dX10_bucket_21 rfl hl (by decide) rfl (fun ls hl => ?_)
  refine lv_iconst (v := 0) hx hb dX10_bucket_22 (by decide +kernel) ?_
  refine lv_istore (lv' := [(4, .int 0), (3, .int 0), (0, .ref p0), (1, .int 1), (2, .int i1)]) hx hb dX10_bucket_23 hl (by decide) rfl (fun ls hl => ?_)
  refine lv_iload hx hb dX10_bucket_25 (lv_at hl 0 rfl) ?_
  refine lv_aload_n hx hb dX10_bucket_27 rfl (lv_at hl 2 rfl) ?_
  refine va_get (D := G) (ci := 7) (v := .int 0) (C := RX10) (T := TX10) (N := 71) (ref := RX10) hx hb hts h1w hown hX.1 hP 0 rfl rfl 12 (by decide) h2w (fun _ h9 => h9) rfl dX10_bucket_28 ?_
  refine lv_icmp_ge (tgt := 65) hx hb dX10_bucket_31 (by decide) (fun _ => ?_) (fun q => absurd (by decide +kernel) (q))
  refine lv_iload_n hx hb dX10_bucket_65 rfl (lv_at hl 4 rfl) ?_
  refine lv_tableOut (tgt := 150) hx hb dX10_bucket_66 (Or.inl (zs_lt (a := 0) hi1 (by decide +kernel))) (by decide) ?_
  refine lv_aload_n hx hb dX10_bucket_150 rfl (lv_at hl 2 rfl) ?_
  refine lv_iconst (v := 1) hx hb dX10_bucket_151 (by decide +kernel) ?_
  refine cz_i (wr := []) (va_runV (As := [.int 1]) (rest := []) ⟨hx, hb, hml, hown, hts⟩ (cX10_fail_0 l G k p0 v2 v3 (.int 0) v5 v6 v7 v8 v9 v10 v11 v12 v13 (.int 0) v14 v15 v16 v17 v18 v19 v20 v21 v22 v23 v24 v25 v26 v27 v28 v29 v30 v31 v32 v33 v34 v35 v36 v37 v38 v39 v40 v41 v42 v43 v44 v45 v46 v47 v48 v49 v50 v51 v52 v53 v54 v55 v56 v57 v58 v59 v60 v61 v62 v63 v64 v65 v66 v67 v68 v69 v70 v71 H.size) (cwV 1 hts gX10_bucket_X10_fail rfl rfl rfl (by decide +kernel) ⟨Nat.le_of_ble_eq_true rfl, Nat.le_of_ble_eq_true rfl⟩) (cz_preV hZ hS hX hP hD [0] rfl rfl (ci := 7) (q0 := 0) rfl rfl) rfl rfl hl.1 rfl (lv_room (Nat.le_of_ble_eq_true rfl)) dX10_bucket_152 ⟨Nat.le_of_ble_eq_true rfl, Nat.le_of_ble_eq_true rfl⟩) hP hD hS hA [0] [] rfl rfl (by decide) (by decide) (fun r u H locs hp hP hD hS => ?_)
  have hp : r = 0 := hp
  subst hp
  have hP9 := hP.sub (ws' := [(p0, .inr (7, (v2 :: v3 :: .int 1 :: v5 :: v6 :: v7 :: v8 :: v9 :: v10 :: v11 :: v12 :: v13 :: .int 0 :: v14 :: v15 :: v16 :: v17 :: v18 :: v19 :: v20 :: v21 :: v22 :: v23 :: v24 :: v25 :: v26 :: v27 :: v28 :: v29 :: v30 :: v31 :: v32 :: v33 :: v34 :: v35 :: v36 :: v37 :: v38 :: v39 :: v40 :: v41 :: v42 :: v43 :: v44 :: v45 :: v46 :: v47 :: v48 :: v49 :: v50 :: v51 :: v52 :: v53 :: v54 :: v55 :: v56 :: v57 :: v58 :: v59 :: v60 :: v61 :: v62 :: v63 :: v64 :: v65 :: v66 :: v67 :: v68 :: v69 :: v70 :: v71 :: [])))]) [0] rfl
  have hD9 := hD.sub (ws' := [(p0, .inr (7, (v2 :: v3 :: .int 1 :: v5 :: v6 :: v7 :: v8 :: v9 :: v10 :: v11 :: v12 :: v13 :: .int 0 :: v14 :: v15 :: v16 :: v17 :: v18 :: v19 :: v20 :: v21 :: v22 :: v23 :: v24 :: v25 :: v26 :: v27 :: v28 :: v29 :: v30 :: v31 :: v32 :: v33 :: v34 :: v35 :: v36 :: v37 :: v38 :: v39 :: v40 :: v41 :: v42 :: v43 :: v44 :: v45 :: v46 :: v47 :: v48 :: v49 :: v50 :: v51 :: v52 :: v53 :: v54 :: v55 :: v56 :: v57 :: v58 :: v59 :: v60 :: v61 :: v62 :: v63 :: v64 :: v65 :: v66 :: v67 :: v68 :: v69 :: v70 :: v71 :: [])))]) [0] (by decide) rfl
  exact W.iret (v := 0) hx hb hr (fun t ht hW => ⟨⟨0, (), rfl, rfl, by rw [ht]; exact hP9, hD9⟩, hS.F ht⟩) hS.2.2 dX10_bucket_155

set_option maxHeartbeats 4000000 in
set_option maxRecDepth 100000 in
theorem cL_bucket_10 (l : Launch) (G : va_G) (k : Nat → ClassId) (p0 : Nat) (p1 : Nat) (v2 : Value) (v3 : Value) (v4 : Value) (v5 : Value) (p6 : Nat) (v7 : Value) (p8 : Nat) (v9 : Value) (v10 : Value) (v11 : Value) (v12 : Value) (v13 : Value) (v14 : Value) (v15 : Value) (v16 : Value) (v17 : Value) (v18 : Value) (v19 : Value) (v20 : Value) (v21 : Value) (v22 : Value) (v23 : Value) (v24 : Value) (v25 : Value) (v26 : Value) (v27 : Value) (v28 : Value) (v29 : Value) (v30 : Value) (v31 : Value) (v32 : Value) (v33 : Value) (v34 : Value) (v35 : Value) (f36 : Nat → Int64) (sz : Nat) : CMi l G k yL_bucket wsL_bucket ({ frames := 3, cells := 0, slots := 0, locals := 65 }) [.ref p0, .int 1, .int 0, .ref p1] sz [(p0, .inr (6, [v2, v3, v4, v5, .ref p6, v7, .ref p8, v9, v10, v11, v12])), (p8, .inr (0, [.int 268435455, v13, v14, v15, v16, v17, v18, v19, v20, v21, v22, v23])), (p6, .inr (2, [.int 1, v24, v25, v26, v27, v28, v29, .int 0, v30, v31, v32, v33, v34, v35])), (p1, .inl (k 2, 1, .inr (.inl f36)))] (fun r (u : Unit) => r = 0) (fun (u : Unit) => [(p1, .inl (k 2, 1, .inr (.inl (vp_updL f36 (0 : Int32).toNatClampNeg 0)))), (p0, .inr (6, [v2, v3, v4, v5, .ref p6, v7, .ref p8, v9, v10, v11, v12])), (p8, .inr (0, [.int 268435455, v13, v14, v15, v16, v17, v18, v19, v20, v21, v22, v23])), (p6, .inr (2, [.int 1, v24, v25, v26, v27, v28, v29, .int 0, v30, v31, v32, v33, v34, v35]))]) := by
  refine va_MetW (cc := cL_bucket) (maxL := 5) (ret := (some .int)) (by decide) rfl ?_
  intro p e s m args below meth c s₁ B hml hv
  obtain ⟨rfl, hsz, hP, hX, hD0, hZ0⟩ := hv
  have hx := B.exec
  have hb := B.bytes
  have hr := B.returns
  have hts := atoms_spec (ws := wsL_bucket) B.pre
  have hown : s.vm.findClass RL = some m.cls := findClass_of_methodNamed B.named
  subst hsz
  have hD := hD0.self (sz := s.heap.size)
  have hZ := ZX.up hP hZ0
  generalize hAe : va_A [(p0, .inr (6, [v2, v3, v4, v5, .ref p6, v7, .ref p8, v9, v10, v11, v12])), (p8, .inr (0, [.int 268435455, v13, v14, v15, v16, v17, v18, v19, v20, v21, v22, v23])), (p6, .inr (2, [.int 1, v24, v25, v26, v27, v28, v29, .int 0, v30, v31, v32, v33, v34, v35])), (p1, .inl (k 2, 1, .inr (.inl f36)))] s.heap.size = A at hD hZ ⊢
  have hA : ∀ q : Nat, s.heap.size ≤ q → A q := fun q h => by rw [← hAe]; exact Or.inr h
  have hS : va_S A s.heap s.heap [] := va_S.rf
  have hP : va_P G vwCl [(p0, .inr (6, [v2, v3, v4, v5, .ref p6, v7, .ref p8, v9, v10, v11, v12])), (p8, .inr (0, [.int 268435455, v13, v14, v15, v16, v17, v18, v19, v20, v21, v22, v23])), (p6, .inr (2, [.int 1, v24, v25, v26, v27, v28, v29, .int 0, v30, v31, v32, v33, v34, v35])), (p1, .inl (k 2, 1, .inr (.inl f36)))] s.heap := hP
  have hl := lv_entry ([.ref p0, .int 1, .int 0, .ref p1]) (n := 5) (Nat.le_of_ble_eq_true rfl)
  rw [lg_entry_eq]
  generalize (lg_sl ([.ref p0, .int 1, .int 0, .ref p1]) ++ List.replicate (5 - (lg_sl ([.ref p0, .int 1, .int 0, .ref p1])).length) Slot.unset).toArray = ls at hl ⊢
  have hl : lv_has ls 5 [(0, .ref p0), (1, .int 1), (2, .int 0), (3, .ref p1)] := hl
  refine lv_aload_n hx hb dL_bucket_0 rfl (lv_at hl 3 rfl) ?_
  refine lv_iconst (v := 0) hx hb dL_bucket_1 (by decide +kernel) ?_
  refine lv_aload_n hx hb dL_bucket_2 rfl (lv_at hl 0 rfl) ?_
  refine lv_iload_n hx hb dL_bucket_3 rfl (lv_at hl 1 rfl) ?_
  refine lv_iload_n hx hb dL_bucket_4 rfl (lv_at hl 2 rfl) ?_
  refine cz_i (wr := [(p1, .inl (k 2, 1, .inr (.inl f36)))]) (va_runV (As := [.int 1, .int 0]) (rest := [.int 0, .ref p1]) ⟨hx, hb, hml, hown, hts⟩ (cX9_bucket_5 l G k p0 v2 v3 v4 v5 p6 v7 p8 v9 v10 v11 v12 v13 v14 v15 v16 v17 v18 v19 v20 v21 v22 v23 v24 v25 v26 v27 v28 v29 v30 v31 v32 v33 v34 v35 s.heap.size) (cwV 2 hts gL_bucket_X9_bucket rfl rfl rfl (by decide +kernel) ⟨Nat.le_of_ble_eq_true rfl, Nat.le_of_ble_eq_true rfl⟩) (cz_preV hZ hS hX hP hD [0, 1, 2] rfl rfl (ci := 6) (q0 := 0) rfl rfl) rfl rfl hl.1 rfl (lv_room (Nat.le_of_ble_eq_true rfl)) dL_bucket_5 ⟨Nat.le_of_ble_eq_true rfl, Nat.le_of_ble_eq_true rfl⟩) hP hD hS hA [0, 1, 2] [3] rfl rfl (by decide) (by decide) (fun r u H locs hp hP hD hS => ?_)
  have hp : r = 0 := hp
  subst hp
  refine lv_i2l (v := 0) hx hb dL_bucket_8 (by decide +kernel) ?_
  refine va_last hx hb hX.1 hP hD hS 0 2 rfl rfl (by unfold vp_in; decide +kernel) dL_bucket_9 (fun H locs hP hD hS => ?_)
  refine lv_goto (tgt := 17) hx hb dL_bucket_10 (by decide) ?_
  refine lv_iconst (v := 0) hx hb dL_bucket_17 (by decide +kernel) ?_
  have hP9 := hP.sub (ws' := [(p1, .inl (k 2, 1, .inr (.inl (vp_updL f36 (0 : Int32).toNatClampNeg 0)))), (p0, .inr (6, [v2, v3, v4, v5, .ref p6, v7, .ref p8, v9, v10, v11, v12])), (p8, .inr (0, [.int 268435455, v13, v14, v15, v16, v17, v18, v19, v20, v21, v22, v23])), (p6, .inr (2, [.int 1, v24, v25, v26, v27, v28, v29, .int 0, v30, v31, v32, v33, v34, v35]))]) [0, 1, 2, 3] rfl
  have hD9 := hD.sub (ws' := [(p1, .inl (k 2, 1, .inr (.inl (vp_updL f36 (0 : Int32).toNatClampNeg 0)))), (p0, .inr (6, [v2, v3, v4, v5, .ref p6, v7, .ref p8, v9, v10, v11, v12])), (p8, .inr (0, [.int 268435455, v13, v14, v15, v16, v17, v18, v19, v20, v21, v22, v23])), (p6, .inr (2, [.int 1, v24, v25, v26, v27, v28, v29, .int 0, v30, v31, v32, v33, v34, v35]))]) [0, 1, 2, 3] (by decide) rfl
  exact W.iret (v := 0) hx hb hr (fun t ht hW => ⟨⟨0, (), rfl, rfl, by rw [ht]; exact hP9, hD9⟩, hS.F ht⟩) hS.2.2 dL_bucket_18

set_option maxHeartbeats 4000000 in
set_option maxRecDepth 100000 in
theorem cX10_bucket_10 (l : Launch) (G : va_G) (k : Nat → ClassId) (p0 : Nat) (v1 : Value) (v2 : Value) (v3 : Value) (v4 : Value) (v5 : Value) (v6 : Value) (v7 : Value) (v8 : Value) (v9 : Value) (v10 : Value) (v11 : Value) (v12 : Value) (v13 : Value) (v14 : Value) (v15 : Value) (v16 : Value) (v17 : Value) (v18 : Value) (v19 : Value) (v20 : Value) (v21 : Value) (v22 : Value) (v23 : Value) (v24 : Value) (v25 : Value) (v26 : Value) (v27 : Value) (v28 : Value) (v29 : Value) (v30 : Value) (v31 : Value) (p32 : Nat) (v33 : Value) (v34 : Value) (v35 : Value) (v36 : Value) (v37 : Value) (v38 : Value) (v39 : Value) (v40 : Value) (v41 : Value) (v42 : Value) (v43 : Value) (v44 : Value) (v45 : Value) (v46 : Value) (v47 : Value) (v48 : Value) (v49 : Value) (v50 : Value) (v51 : Value) (v52 : Value) (v53 : Value) (v54 : Value) (v55 : Value) (v56 : Value) (v57 : Value) (v58 : Value) (v59 : Value) (v60 : Value) (v61 : Value) (v62 : Value) (v63 : Value) (v64 : Value) (v65 : Value) (v66 : Value) (v67 : Value) (v68 : Value) (v69 : Value) (v70 : Value) (sz : Nat) : CMi l G k yX10_bucket wsX10_bucket ({ frames := 1, cells := 0, slots := 0, locals := 24 }) [.ref p0, .int 1, .int 0] sz [(p0, .inr (7, (v1 :: v2 :: v3 :: v4 :: v5 :: v6 :: v7 :: v8 :: v9 :: v10 :: v11 :: v12 :: .int 0 :: v13 :: v14 :: v15 :: v16 :: v17 :: v18 :: v19 :: v20 :: v21 :: v22 :: v23 :: v24 :: v25 :: v26 :: v27 :: v28 :: v29 :: v30 :: v31 :: .ref p32 :: v33 :: v34 :: v35 :: v36 :: v37 :: v38 :: v39 :: v40 :: v41 :: v42 :: v43 :: v44 :: v45 :: v46 :: v47 :: v48 :: v49 :: v50 :: v51 :: v52 :: v53 :: v54 :: v55 :: v56 :: v57 :: v58 :: v59 :: v60 :: v61 :: v62 :: v63 :: v64 :: v65 :: v66 :: v67 :: v68 :: v69 :: v70 :: [])))] (fun r (u : Unit) => r = 0) (fun (u : Unit) => [(p0, .inr (7, (v1 :: v2 :: .int 0 :: v4 :: v5 :: v6 :: v7 :: v8 :: v9 :: v10 :: v11 :: v12 :: .int 0 :: v13 :: v14 :: v15 :: v16 :: v17 :: v18 :: v19 :: v20 :: v21 :: v22 :: v23 :: v24 :: v25 :: v26 :: v27 :: v28 :: v29 :: v30 :: v31 :: .ref p32 :: v33 :: v34 :: v35 :: v36 :: v37 :: v38 :: v39 :: v40 :: v41 :: v42 :: v43 :: v44 :: v45 :: v46 :: v47 :: v48 :: v49 :: v50 :: v51 :: v52 :: v53 :: v54 :: v55 :: v56 :: v57 :: v58 :: v59 :: v60 :: v61 :: v62 :: v63 :: v64 :: v65 :: v66 :: v67 :: v68 :: v69 :: v70 :: [])))]) := by
  refine Met.ofW (cc := cX10_bucket) (maxL := 5) (ret := (some .int)) (by decide) rfl ?_
  intro p e s m args below meth c s₁ B hml hv
  obtain ⟨rfl, hsz, hP, hX, hD0, hZ0⟩ := hv
  have hx := B.exec
  have hb := B.bytes
  have hr := B.returns
  have hts := atoms_spec (ws := wsX10_bucket) B.pre
  have hown : s.vm.findClass RX10 = some m.cls := findClass_of_methodNamed B.named
  subst hsz
  have hD := hD0.self (sz := s.heap.size)
  have hZ := ZX.up hP hZ0
  generalize hAe : va_A [(p0, .inr (7, (v1 :: v2 :: v3 :: v4 :: v5 :: v6 :: v7 :: v8 :: v9 :: v10 :: v11 :: v12 :: .int 0 :: v13 :: v14 :: v15 :: v16 :: v17 :: v18 :: v19 :: v20 :: v21 :: v22 :: v23 :: v24 :: v25 :: v26 :: v27 :: v28 :: v29 :: v30 :: v31 :: .ref p32 :: v33 :: v34 :: v35 :: v36 :: v37 :: v38 :: v39 :: v40 :: v41 :: v42 :: v43 :: v44 :: v45 :: v46 :: v47 :: v48 :: v49 :: v50 :: v51 :: v52 :: v53 :: v54 :: v55 :: v56 :: v57 :: v58 :: v59 :: v60 :: v61 :: v62 :: v63 :: v64 :: v65 :: v66 :: v67 :: v68 :: v69 :: v70 :: [])))] s.heap.size = A at hD hZ ⊢
  have hA : ∀ q : Nat, s.heap.size ≤ q → A q := fun q h => by rw [← hAe]; exact Or.inr h
  have hS : va_S A s.heap s.heap [] := va_S.rf
  have hP : va_P G vwCl [(p0, .inr (7, (v1 :: v2 :: v3 :: v4 :: v5 :: v6 :: v7 :: v8 :: v9 :: v10 :: v11 :: v12 :: .int 0 :: v13 :: v14 :: v15 :: v16 :: v17 :: v18 :: v19 :: v20 :: v21 :: v22 :: v23 :: v24 :: v25 :: v26 :: v27 :: v28 :: v29 :: v30 :: v31 :: .ref p32 :: v33 :: v34 :: v35 :: v36 :: v37 :: v38 :: v39 :: v40 :: v41 :: v42 :: v43 :: v44 :: v45 :: v46 :: v47 :: v48 :: v49 :: v50 :: v51 :: v52 :: v53 :: v54 :: v55 :: v56 :: v57 :: v58 :: v59 :: v60 :: v61 :: v62 :: v63 :: v64 :: v65 :: v66 :: v67 :: v68 :: v69 :: v70 :: [])))] s.heap := hP
  have hl := lv_entry ([.ref p0, .int 1, .int 0]) (n := 5) (Nat.le_of_ble_eq_true rfl)
  rw [lg_entry_eq]
  generalize (lg_sl ([.ref p0, .int 1, .int 0]) ++ List.replicate (5 - (lg_sl ([.ref p0, .int 1, .int 0])).length) Slot.unset).toArray = ls at hl ⊢
  have hl : lv_has ls 5 [(0, .ref p0), (1, .int 1), (2, .int 0)] := hl
  have h0w := hts (.fieldLink RX10 171 "RopeTownModel" "code" "I") (by decide +kernel)
  have h1w : ∀ w ∈ wsX100, w ∈ wsX10_bucket := by decide +kernel
  have h2w := hts (.fieldLink RX10 174 "RopeTownModel" "things" "I") (by decide +kernel)
  have h3w := hts (.fieldLink RX10 87 "RopeTownModel" "place" "[I") (by decide +kernel)
  refine lv_aload_n hx hb dX10_bucket_0 rfl (lv_at hl 0 rfl) ?_
  refine lv_iconst (v := 0) hx hb dX10_bucket_1 (by decide +kernel) ?_
  refine va_put (D := G) (ci := 7) (v := .int 0) (ty := .int) (C := RX10) (T := TX10) (N := 71) (ref := RX10) hx hb hts h1w tyX10 tyX10_ok nmX10 hown hX.1 hP hD hS 0 rfl rfl 2 (by decide) h0w (fun _ h9 => h9) rfl (by decide +kernel) rfl rfl (Nat.le_of_ble_eq_true rfl) dX10_bucket_2 (fun H locs hP hD hS => ?_)
  refine lv_iload_n hx hb dX10_bucket_5 rfl (lv_at hl 1 rfl) ?_
  refine lv_iconst (v := 0) hx hb dX10_bucket_6 (by decide +kernel) ?_
  refine lv_iconst (v := 1) hx hb dX10_bucket_7 (by decide +kernel) ?_
  refine cz_i (wr := [(p0, .inr (7, (v1 :: v2 :: .int 0 :: v4 :: v5 :: v6 :: v7 :: v8 :: v9 :: v10 :: v11 :: v12 :: .int 0 :: v13 :: v14 :: v15 :: v16 :: v17 :: v18 :: v19 :: v20 :: v21 :: v22 :: v23 :: v24 :: v25 :: v26 :: v27 :: v28 :: v29 :: v30 :: v31 :: .ref p32 :: v33 :: v34 :: v35 :: v36 :: v37 :: v38 :: v39 :: v40 :: v41 :: v42 :: v43 :: v44 :: v45 :: v46 :: v47 :: v48 :: v49 :: v50 :: v51 :: v52 :: v53 :: v54 :: v55 :: v56 :: v57 :: v58 :: v59 :: v60 :: v61 :: v62 :: v63 :: v64 :: v65 :: v66 :: v67 :: v68 :: v69 :: v70 :: [])))]) (va_runS (As := [.int 1, .int 0, .int 1]) (rest := []) ⟨hx, hb, hml, hown, hts⟩ (cX10_isIn_25 l G k H.size) (cwS 3 hts gX10_bucket_X10_isIn rfl rfl rfl (by decide +kernel) ⟨Nat.le_of_ble_eq_true rfl, Nat.le_of_ble_eq_true rfl⟩) (cz_preS hZ hS hX hP hD [] rfl rfl) rfl rfl hl.1 rfl (lv_room (Nat.le_of_ble_eq_true rfl)) dX10_bucket_8 ⟨Nat.le_of_ble_eq_true rfl, Nat.le_of_ble_eq_true rfl⟩) hP hD hS hA [] [0] rfl rfl (by decide) (by decide) (fun r u H locs hp hP hD hS => ?_)
  have hp : r = 1 := hp
  subst hp
  refine lv_if_ne (tgt := 20) hx hb dX10_bucket_11 (by decide) (fun _ => ?_) (fun q => absurd (q) (by decide +kernel))
  refine lv_iconst (v := 0) hx hb dX10_bucket_20 (by decide +kernel) ?_
  refine lv_istore_n (lv' := [(3, .int 0), (0, .ref p0), (1, .int 1), (2, .int 0)]) hx hb dX10_bucket_21 rfl hl (by decide) rfl (fun ls hl => ?_)
  refine lv_iconst (v := 0) hx hb dX10_bucket_22 (by decide +kernel) ?_
  refine lv_istore (lv' := [(4, .int 0), (3, .int 0), (0, .ref p0), (1, .int 1), (2, .int 0)]) hx hb dX10_bucket_23 hl (by decide) rfl (fun ls hl => ?_)
  refine lv_iload hx hb dX10_bucket_25 (lv_at hl 0 rfl) ?_
  refine lv_aload_n hx hb dX10_bucket_27 rfl (lv_at hl 2 rfl) ?_
  refine va_get (D := G) (ci := 7) (v := .int 0) (C := RX10) (T := TX10) (N := 71) (ref := RX10) hx hb hts h1w hown hX.1 hP 0 rfl rfl 12 (by decide) h2w (fun _ h9 => h9) rfl dX10_bucket_28 ?_
  refine lv_icmp_ge (tgt := 65) hx hb dX10_bucket_31 (by decide) (fun _ => ?_) (fun q => absurd (by decide +kernel) (q))
  refine lv_iload_n hx hb dX10_bucket_65 rfl (lv_at hl 4 rfl) ?_
  refine lv_tableIn (tgt := 100) hx hb dX10_bucket_66 (by decide +kernel) (by decide +kernel) (off := 34) (by decide +kernel) (by decide) ?_
  refine lv_aload_n hx hb dX10_bucket_100 rfl (lv_at hl 2 rfl) ?_
  refine lv_aload_n hx hb dX10_bucket_101 rfl (lv_at hl 2 rfl) ?_
  refine va_get (D := G) (ci := 7) (v := .ref p32) (C := RX10) (T := TX10) (N := 71) (ref := RX10) hx hb hts h1w hown hX.1 hP 0 rfl rfl 32 (by decide) h3w (fun _ h9 => h9) rfl dX10_bucket_102 ?_
  refine lv_iload_n hx hb dX10_bucket_105 rfl (lv_at hl 3 rfl) ?_
  refine cz_i (wr := []) (va_runV (As := [.ref p32, .int 1]) (rest := []) ⟨hx, hb, hml, hown, hts⟩ (cX10_loadOf_1 l G k p0 p32 v1 v2 (.int 0) v4 v5 v6 v7 v8 v9 v10 v11 v12 v13 v14 v15 v16 v17 v18 v19 v20 v21 v22 v23 v24 v25 v26 v27 v28 v29 v30 v31 (.ref p32) v33 v34 v35 v36 v37 v38 v39 v40 v41 v42 v43 v44 v45 v46 v47 v48 v49 v50 v51 v52 v53 v54 v55 v56 v57 v58 v59 v60 v61 v62 v63 v64 v65 v66 v67 v68 v69 v70 H.size) (cwV 2 hts gX10_bucket_X10_loadOf rfl rfl rfl (by decide +kernel) ⟨Nat.le_of_ble_eq_true rfl, Nat.le_of_ble_eq_true rfl⟩) (cz_preV hZ hS hX hP hD [0] rfl rfl (ci := 7) (q0 := 0) rfl rfl) rfl rfl hl.1 rfl (lv_room (Nat.le_of_ble_eq_true rfl)) dX10_bucket_106 ⟨Nat.le_of_ble_eq_true rfl, Nat.le_of_ble_eq_true rfl⟩) hP hD hS hA [0] [] rfl rfl (by decide) (by decide) (fun r u H locs hp hP hD hS => ?_)
  have hp : r = 0 := hp
  subst hp
  have hP9 := hP.sub (ws' := [(p0, .inr (7, (v1 :: v2 :: .int 0 :: v4 :: v5 :: v6 :: v7 :: v8 :: v9 :: v10 :: v11 :: v12 :: .int 0 :: v13 :: v14 :: v15 :: v16 :: v17 :: v18 :: v19 :: v20 :: v21 :: v22 :: v23 :: v24 :: v25 :: v26 :: v27 :: v28 :: v29 :: v30 :: v31 :: .ref p32 :: v33 :: v34 :: v35 :: v36 :: v37 :: v38 :: v39 :: v40 :: v41 :: v42 :: v43 :: v44 :: v45 :: v46 :: v47 :: v48 :: v49 :: v50 :: v51 :: v52 :: v53 :: v54 :: v55 :: v56 :: v57 :: v58 :: v59 :: v60 :: v61 :: v62 :: v63 :: v64 :: v65 :: v66 :: v67 :: v68 :: v69 :: v70 :: [])))]) [0] rfl
  have hD9 := hD.sub (ws' := [(p0, .inr (7, (v1 :: v2 :: .int 0 :: v4 :: v5 :: v6 :: v7 :: v8 :: v9 :: v10 :: v11 :: v12 :: .int 0 :: v13 :: v14 :: v15 :: v16 :: v17 :: v18 :: v19 :: v20 :: v21 :: v22 :: v23 :: v24 :: v25 :: v26 :: v27 :: v28 :: v29 :: v30 :: v31 :: .ref p32 :: v33 :: v34 :: v35 :: v36 :: v37 :: v38 :: v39 :: v40 :: v41 :: v42 :: v43 :: v44 :: v45 :: v46 :: v47 :: v48 :: v49 :: v50 :: v51 :: v52 :: v53 :: v54 :: v55 :: v56 :: v57 :: v58 :: v59 :: v60 :: v61 :: v62 :: v63 :: v64 :: v65 :: v66 :: v67 :: v68 :: v69 :: v70 :: [])))]) [0] (by decide) rfl
  exact W.iret (v := 0) hx hb hr (fun t ht hW => ⟨⟨0, (), rfl, rfl, by rw [ht]; exact hP9, hD9⟩, hS.F ht⟩) hS.2.2 dX10_bucket_109

set_option maxHeartbeats 4000000 in
set_option maxRecDepth 100000 in
theorem cL_bucket_11 (l : Launch) (G : va_G) (k : Nat → ClassId) (p0 : Nat) (p1 : Nat) (v2 : Value) (v3 : Value) (v4 : Value) (v5 : Value) (p6 : Nat) (v7 : Value) (p8 : Nat) (v9 : Value) (v10 : Value) (v11 : Value) (v12 : Value) (v13 : Value) (v14 : Value) (v15 : Value) (v16 : Value) (v17 : Value) (v18 : Value) (v19 : Value) (v20 : Value) (v21 : Value) (v22 : Value) (v23 : Value) (v24 : Value) (v25 : Value) (v26 : Value) (v27 : Value) (v28 : Value) (v29 : Value) (v30 : Value) (v31 : Value) (v32 : Value) (v33 : Value) (v34 : Value) (f35 : Nat → Int64) (sz : Nat) : CMi l G k yL_bucket wsL_bucket ({ frames := 3, cells := 0, slots := 0, locals := 65 }) [.ref p0, .int 1, .int 1, .ref p1] sz [(p0, .inr (6, [v2, v3, v4, v5, .ref p6, v7, .ref p8, v9, v10, v11, v12])), (p8, .inr (0, [.int 268435455, v13, v14, v15, v16, v17, v18, v19, v20, v21, v22, v23])), (p6, .inr (2, [.int 1, v24, v25, .int 0, v26, v27, v28, .int 0, v29, v30, v31, v32, v33, v34])), (p1, .inl (k 2, 1, .inr (.inl f35)))] (fun r (u : Unit) => r = 0) (fun (u : Unit) => [(p1, .inl (k 2, 1, .inr (.inl (vp_updL f35 (0 : Int32).toNatClampNeg 0)))), (p0, .inr (6, [v2, v3, v4, v5, .ref p6, v7, .ref p8, v9, v10, v11, v12])), (p8, .inr (0, [.int 268435455, v13, v14, v15, v16, v17, v18, v19, v20, v21, v22, v23])), (p6, .inr (2, [.int 1, v24, v25, .int 0, v26, v27, v28, .int 0, v29, v30, v31, v32, v33, v34]))]) := by
  refine va_MetW (cc := cL_bucket) (maxL := 5) (ret := (some .int)) (by decide) rfl ?_
  intro p e s m args below meth c s₁ B hml hv
  obtain ⟨rfl, hsz, hP, hX, hD0, hZ0⟩ := hv
  have hx := B.exec
  have hb := B.bytes
  have hr := B.returns
  have hts := atoms_spec (ws := wsL_bucket) B.pre
  have hown : s.vm.findClass RL = some m.cls := findClass_of_methodNamed B.named
  subst hsz
  have hD := hD0.self (sz := s.heap.size)
  have hZ := ZX.up hP hZ0
  generalize hAe : va_A [(p0, .inr (6, [v2, v3, v4, v5, .ref p6, v7, .ref p8, v9, v10, v11, v12])), (p8, .inr (0, [.int 268435455, v13, v14, v15, v16, v17, v18, v19, v20, v21, v22, v23])), (p6, .inr (2, [.int 1, v24, v25, .int 0, v26, v27, v28, .int 0, v29, v30, v31, v32, v33, v34])), (p1, .inl (k 2, 1, .inr (.inl f35)))] s.heap.size = A at hD hZ ⊢
  have hA : ∀ q : Nat, s.heap.size ≤ q → A q := fun q h => by rw [← hAe]; exact Or.inr h
  have hS : va_S A s.heap s.heap [] := va_S.rf
  have hP : va_P G vwCl [(p0, .inr (6, [v2, v3, v4, v5, .ref p6, v7, .ref p8, v9, v10, v11, v12])), (p8, .inr (0, [.int 268435455, v13, v14, v15, v16, v17, v18, v19, v20, v21, v22, v23])), (p6, .inr (2, [.int 1, v24, v25, .int 0, v26, v27, v28, .int 0, v29, v30, v31, v32, v33, v34])), (p1, .inl (k 2, 1, .inr (.inl f35)))] s.heap := hP
  have hl := lv_entry ([.ref p0, .int 1, .int 1, .ref p1]) (n := 5) (Nat.le_of_ble_eq_true rfl)
  rw [lg_entry_eq]
  generalize (lg_sl ([.ref p0, .int 1, .int 1, .ref p1]) ++ List.replicate (5 - (lg_sl ([.ref p0, .int 1, .int 1, .ref p1])).length) Slot.unset).toArray = ls at hl ⊢
  have hl : lv_has ls 5 [(0, .ref p0), (1, .int 1), (2, .int 1), (3, .ref p1)] := hl
  refine lv_aload_n hx hb dL_bucket_0 rfl (lv_at hl 3 rfl) ?_
  refine lv_iconst (v := 0) hx hb dL_bucket_1 (by decide +kernel) ?_
  refine lv_aload_n hx hb dL_bucket_2 rfl (lv_at hl 0 rfl) ?_
  refine lv_iload_n hx hb dL_bucket_3 rfl (lv_at hl 1 rfl) ?_
  refine lv_iload_n hx hb dL_bucket_4 rfl (lv_at hl 2 rfl) ?_
  refine cz_i (wr := [(p1, .inl (k 2, 1, .inr (.inl f35)))]) (va_runV (As := [.int 1, .int 1]) (rest := [.int 0, .ref p1]) ⟨hx, hb, hml, hown, hts⟩ (cX9_bucket_6 l G k p0 v2 v3 v4 v5 p6 v7 p8 v9 v10 v11 v12 v13 v14 v15 v16 v17 v18 v19 v20 v21 v22 v23 v24 v25 v26 v27 v28 v29 v30 v31 v32 v33 v34 s.heap.size) (cwV 2 hts gL_bucket_X9_bucket rfl rfl rfl (by decide +kernel) ⟨Nat.le_of_ble_eq_true rfl, Nat.le_of_ble_eq_true rfl⟩) (cz_preV hZ hS hX hP hD [0, 1, 2] rfl rfl (ci := 6) (q0 := 0) rfl rfl) rfl rfl hl.1 rfl (lv_room (Nat.le_of_ble_eq_true rfl)) dL_bucket_5 ⟨Nat.le_of_ble_eq_true rfl, Nat.le_of_ble_eq_true rfl⟩) hP hD hS hA [0, 1, 2] [3] rfl rfl (by decide) (by decide) (fun r u H locs hp hP hD hS => ?_)
  have hp : r = 0 := hp
  subst hp
  refine lv_i2l (v := 0) hx hb dL_bucket_8 (by decide +kernel) ?_
  refine va_last hx hb hX.1 hP hD hS 0 2 rfl rfl (by unfold vp_in; decide +kernel) dL_bucket_9 (fun H locs hP hD hS => ?_)
  refine lv_goto (tgt := 17) hx hb dL_bucket_10 (by decide) ?_
  refine lv_iconst (v := 0) hx hb dL_bucket_17 (by decide +kernel) ?_
  have hP9 := hP.sub (ws' := [(p1, .inl (k 2, 1, .inr (.inl (vp_updL f35 (0 : Int32).toNatClampNeg 0)))), (p0, .inr (6, [v2, v3, v4, v5, .ref p6, v7, .ref p8, v9, v10, v11, v12])), (p8, .inr (0, [.int 268435455, v13, v14, v15, v16, v17, v18, v19, v20, v21, v22, v23])), (p6, .inr (2, [.int 1, v24, v25, .int 0, v26, v27, v28, .int 0, v29, v30, v31, v32, v33, v34]))]) [0, 1, 2, 3] rfl
  have hD9 := hD.sub (ws' := [(p1, .inl (k 2, 1, .inr (.inl (vp_updL f35 (0 : Int32).toNatClampNeg 0)))), (p0, .inr (6, [v2, v3, v4, v5, .ref p6, v7, .ref p8, v9, v10, v11, v12])), (p8, .inr (0, [.int 268435455, v13, v14, v15, v16, v17, v18, v19, v20, v21, v22, v23])), (p6, .inr (2, [.int 1, v24, v25, .int 0, v26, v27, v28, .int 0, v29, v30, v31, v32, v33, v34]))]) [0, 1, 2, 3] (by decide) rfl
  exact W.iret (v := 0) hx hb hr (fun t ht hW => ⟨⟨0, (), rfl, rfl, by rw [ht]; exact hP9, hD9⟩, hS.F ht⟩) hS.2.2 dL_bucket_18

