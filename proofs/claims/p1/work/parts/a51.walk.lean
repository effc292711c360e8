set_option maxHeartbeats 4000000 in
set_option maxRecDepth 100000 in
theorem cX10_nearest_2 (l : Launch) (G : va_G) (k : Nat → ClassId) (p0 : Nat) (v1 : Value) (v2 : Value) (v3 : Value) (v4 : Value) (v5 : Value) (v6 : Value) (v7 : Value) (v8 : Value) (v9 : Value) (v10 : Value) (v11 : Value) (v12 : Value) (v13 : Value) (v14 : Value) (v15 : Value) (v16 : Value) (v17 : Value) (v18 : Value) (v19 : Value) (v20 : Value) (v21 : Value) (v22 : Value) (v23 : Value) (v24 : Value) (v25 : Value) (v26 : Value) (v27 : Value) (v28 : Value) (v29 : Value) (v30 : Value) (v31 : Value) (v32 : Value) (v33 : Value) (v34 : Value) (v35 : Value) (v36 : Value) (v37 : Value) (v38 : Value) (v39 : Value) (v40 : Value) (v41 : Value) (v42 : Value) (v43 : Value) (v44 : Value) (v45 : Value) (v46 : Value) (v47 : Value) (v48 : Value) (v49 : Value) (p50 : Nat) (v51 : Value) (v52 : Value) (v53 : Value) (v54 : Value) (v55 : Value) (v56 : Value) (v57 : Value) (v58 : Value) (v59 : Value) (v60 : Value) (v61 : Value) (v62 : Value) (v63 : Value) (v64 : Value) (v65 : Value) (v66 : Value) (v67 : Value) (v68 : Value) (v69 : Value) (v70 : Value) (sz : Nat) : CMi l G k yX10_nearest wsX10_nearest ({ frames := 0, cells := 0, slots := 0, locals := 0 }) [.ref p0] sz [(p0, .inr (7, (v1 :: v2 :: v3 :: v4 :: v5 :: v6 :: v7 :: v8 :: v9 :: v10 :: v11 :: v12 :: v13 :: v14 :: v15 :: v16 :: v17 :: v18 :: v19 :: v20 :: v21 :: v22 :: v23 :: v24 :: v25 :: v26 :: v27 :: v28 :: v29 :: v30 :: v31 :: v32 :: v33 :: v34 :: v35 :: v36 :: v37 :: v38 :: v39 :: v40 :: v41 :: v42 :: v43 :: v44 :: v45 :: v46 :: v47 :: v48 :: v49 :: .ref p50 :: .int 2 :: v51 :: v52 :: v53 :: v54 :: v55 :: v56 :: v57 :: v58 :: v59 :: v60 :: v61 :: v62 :: v63 :: v64 :: v65 :: v66 :: v67 :: v68 :: v69 :: v70 :: []))), (p50, .inl (k 3, 1501, .inl (upd (upd (upd (fun _ => 0) (0 : Int32).toNatClampNeg (vp_nar .boolean 0)) (0 : Int32).toNatClampNeg (vp_nar .boolean 1)) (1 : Int32).toNatClampNeg (vp_nar .boolean 0))))] (fun r (u : Unit) => r = 1) (fun (u : Unit) => [(p0, .inr (7, (v1 :: v2 :: v3 :: v4 :: v5 :: v6 :: v7 :: v8 :: v9 :: v10 :: v11 :: v12 :: v13 :: v14 :: v15 :: v16 :: v17 :: v18 :: v19 :: v20 :: v21 :: v22 :: v23 :: v24 :: v25 :: v26 :: v27 :: v28 :: v29 :: v30 :: v31 :: v32 :: v33 :: v34 :: v35 :: v36 :: v37 :: v38 :: v39 :: v40 :: v41 :: v42 :: v43 :: v44 :: v45 :: v46 :: v47 :: v48 :: v49 :: .ref p50 :: .int 2 :: v51 :: v52 :: v53 :: v54 :: v55 :: v56 :: v57 :: v58 :: v59 :: v60 :: v61 :: v62 :: v63 :: v64 :: v65 :: v66 :: v67 :: v68 :: v69 :: v70 :: []))), (p50, .inl (k 3, 1501, .inl (upd (upd (upd (fun _ => 0) (0 : Int32).toNatClampNeg (vp_nar .boolean 0)) (0 : Int32).toNatClampNeg (vp_nar .boolean 1)) (1 : Int32).toNatClampNeg (vp_nar .boolean 0))))]) := by
  refine Met.ofW (cc := cX10_nearest) (maxL := 3) (ret := (some .int)) (by decide) rfl ?_
  intro p e s m args below meth c s₁ B hml hv
  obtain ⟨rfl, hsz, hP, hX, hD0, hZ0⟩ := hv
  have hx := B.exec
  have hb := B.bytes
  have hr := B.returns
  have hts := atoms_spec (ws := wsX10_nearest) B.pre
  have hown : s.vm.findClass RX10 = some m.cls := findClass_of_methodNamed B.named
  subst hsz
  have hD := hD0.self (sz := s.heap.size)
  have hZ := ZX.up hP hZ0
  generalize hAe : va_A [(p0, .inr (7, (v1 :: v2 :: v3 :: v4 :: v5 :: v6 :: v7 :: v8 :: v9 :: v10 :: v11 :: v12 :: v13 :: v14 :: v15 :: v16 :: v17 :: v18 :: v19 :: v20 :: v21 :: v22 :: v23 :: v24 :: v25 :: v26 :: v27 :: v28 :: v29 :: v30 :: v31 :: v32 :: v33 :: v34 :: v35 :: v36 :: v37 :: v38 :: v39 :: v40 :: v41 :: v42 :: v43 :: v44 :: v45 :: v46 :: v47 :: v48 :: v49 :: .ref p50 :: .int 2 :: v51 :: v52 :: v53 :: v54 :: v55 :: v56 :: v57 :: v58 :: v59 :: v60 :: v61 :: v62 :: v63 :: v64 :: v65 :: v66 :: v67 :: v68 :: v69 :: v70 :: []))), (p50, .inl (k 3, 1501, .inl (upd (upd (upd (fun _ => 0) (0 : Int32).toNatClampNeg (vp_nar .boolean 0)) (0 : Int32).toNatClampNeg (vp_nar .boolean 1)) (1 : Int32).toNatClampNeg (vp_nar .boolean 0))))] s.heap.size = A at hD hZ ⊢
  have hA : ∀ q : Nat, s.heap.size ≤ q → A q := fun q h => by rw [← hAe]; exact Or.inr h
  have hS : va_S A s.heap s.heap [] := va_S.rf
  have hP : va_P G vwCl [(p0, .inr (7, (v1 :: v2 :: v3 :: v4 :: v5 :: v6 :: v7 :: v8 :: v9 :: v10 :: v11 :: v12 :: v13 :: v14 :: v15 :: v16 :: v17 :: v18 :: v19 :: v20 :: v21 :: v22 :: v23 :: v24 :: v25 :: v26 :: v27 :: v28 :: v29 :: v30 :: v31 :: v32 :: v33 :: v34 :: v35 :: v36 :: v37 :: v38 :: v39 :: v40 :: v41 :: v42 :: v43 :: v44 :: v45 :: v46 :: v47 :: v48 :: v49 :: .ref p50 :: .int 2 :: v51 :: v52 :: v53 :: v54 :: v55 :: v56 :: v57 :: v58 :: v59 :: v60 :: v61 :: v62 :: v63 :: v64 :: v65 :: v66 :: v67 :: v68 :: v69 :: v70 :: []))), (p50, .inl (k 3, 1501, .inl (upd (upd (upd (fun _ => 0) (0 : Int32).toNatClampNeg (vp_nar .boolean 0)) (0 : Int32).toNatClampNeg (vp_nar .boolean 1)) (1 : Int32).toNatClampNeg (vp_nar .boolean 0))))] s.heap := hP
  have hl := lv_entry ([.ref p0]) (n := 3) (Nat.le_of_ble_eq_true rfl)
  rw [lg_entry_eq]
  generalize (lg_sl ([.ref p0]) ++ List.replicate (3 - (lg_sl ([.ref p0])).length) Slot.unset).toArray = ls at hl ⊢
  have hl : lv_has ls 3 [(0, .ref p0)] := hl
  have h0w := hts (.fieldLink RX10 436 "RopeTownModel" "states" "I") (by decide +kernel)
  have h1w : ∀ w ∈ wsX100, w ∈ wsX10_nearest := by decide +kernel
  have h2w := hts (.fieldLink RX10 130 "RopeTownModel" "isDone" "[Z") (by decide +kernel)
  refine lv_iconst (v := (-1)) hx hb dX10_nearest_0 (by decide +kernel) ?_
  refine lv_istore_n (lv' := [(1, .int (-1)), (0, .ref p0)]) hx hb dX10_nearest_1 rfl hl (by decide) rfl (fun ls hl => ?_)
  refine lv_iconst (v := 0) hx hb dX10_nearest_2 (by decide +kernel) ?_
  refine lv_istore_n (lv' := [(2, .int 0), (1, .int (-1)), (0, .ref p0)]) hx hb dX10_nearest_3 rfl hl (by decide) rfl (fun ls hl => ?_)
  refine lv_iload_n hx hb dX10_nearest_4 rfl (lv_at hl 0 rfl) ?_
  refine lv_aload_n hx hb dX10_nearest_5 rfl (lv_at hl 2 rfl) ?_
  refine va_get (D := G) (ci := 7) (v := .int 2) (C := RX10) (T := TX10) (N := 71) (ref := RX10) hx hb hts h1w hown hX.1 hP 0 rfl rfl 50 (by decide) h0w (fun _ h9 => h9) rfl dX10_nearest_6 ?_
  refine lv_icmp_ge (tgt := 49) hx hb dX10_nearest_9 (by decide) (fun q => absurd (q) (by decide +kernel)) (fun _ => ?_)
  refine lv_aload_n hx hb dX10_nearest_12 rfl (lv_at hl 2 rfl) ?_
  refine va_get (D := G) (ci := 7) (v := .ref p50) (C := RX10) (T := TX10) (N := 71) (ref := RX10) hx hb hts h1w hown hX.1 hP 0 rfl rfl 49 (by decide) h2w (fun _ h9 => h9) rfl dX10_nearest_13 ?_
  refine lv_iload_n hx hb dX10_nearest_16 rfl (lv_at hl 0 rfl) ?_
  refine va_zald hx hb hX.1 hP 1 3 rfl rfl (by unfold vp_in; decide +kernel) dX10_nearest_17 ?_
  refine cz_ti (w := (vp_nar .boolean 1)) (by rfl) ?_
  refine lv_if_ne (tgt := 43) hx hb dX10_nearest_18 (by decide) (fun _ => ?_) (fun q => absurd (q) (by decide +kernel))
  refine lv_iinc (v := 1) (lv' := [(2, .int 1), (1, .int (-1)), (0, .ref p0)]) hx hb dX10_nearest_43 hl (k := 0) rfl (by decide +kernel) (by decide) rfl (fun ls hl => ?_)
  refine lv_goto (tgt := 4) hx hb dX10_nearest_46 (by decide) ?_
  refine lv_iload_n hx hb dX10_nearest_4 rfl (lv_at hl 0 rfl) ?_
  refine lv_aload_n hx hb dX10_nearest_5 rfl (lv_at hl 2 rfl) ?_
  refine va_get (D := G) (ci := 7) (v := .int 2) (C := RX10) (T := TX10) (N := 71) (ref := RX10) hx hb hts h1w hown hX.1 hP 0 rfl rfl 50 (by decide) h0w (fun _ h9 => h9) rfl dX10_nearest_6 ?_
  refine lv_icmp_ge (tgt := 49) hx hb dX10_nearest_9 (by decide) (fun q => absurd (q) (by decide +kernel)) (fun _ => ?_)
  refine lv_aload_n hx hb dX10_nearest_12 rfl (lv_at hl 2 rfl) ?_
  refine va_get (D := G) (ci := 7) (v := .ref p50) (C := RX10) (T := TX10) (N := 71) (ref := RX10) hx hb hts h1w hown hX.1 hP 0 rfl rfl 49 (by decide) h2w (fun _ h9 => h9) rfl dX10_nearest_13 ?_
  refine lv_iload_n hx hb dX10_nearest_16 rfl (lv_at hl 0 rfl) ?_
  refine va_zald hx hb hX.1 hP 1 3 rfl rfl (by unfold vp_in; decide +kernel) dX10_nearest_17 ?_
  refine cz_ti (w := (vp_nar .boolean 0)) (by rfl) ?_
  refine lv_if_ne (tgt := 43) hx hb dX10_nearest_18 (by decide) (fun q => absurd (by decide +kernel) (q)) (fun _ => ?_)
  refine lv_iload_n hx hb dX10_nearest_21 rfl (lv_at hl 1 rfl) ?_
  refine lv_iconst (v := (-1)) hx hb dX10_nearest_22 (by decide +kernel) ?_
  refine lv_icmp_eq (tgt := 41) hx hb dX10_nearest_23 (by decide) (fun _ => ?_) (fun q => absurd (by decide +kernel) (q))
  refine lv_iload_n hx hb dX10_nearest_41 rfl (lv_at hl 0 rfl) ?_
  refine lv_istore_n (lv' := [(1, .int 1), (2, .int 1), (0, .ref p0)]) hx hb dX10_nearest_42 rfl hl (by decide) rfl (fun ls hl => ?_)
  refine lv_iinc (v := 2) (lv' := [(2, .int 2), (1, .int 1), (0, .ref p0)]) hx hb dX10_nearest_43 hl (k := 1) rfl (by decide +kernel) (by decide) rfl (fun ls hl => ?_)
  refine lv_goto (tgt := 4) hx hb dX10_nearest_46 (by decide) ?_
  refine lv_iload_n hx hb dX10_nearest_4 rfl (lv_at hl 0 rfl) ?_
  refine lv_aload_n hx hb dX10_nearest_5 rfl (lv_at hl 2 rfl) ?_
  refine va_get (D := G) (ci := 7) (v := .int 2) (C := RX10) (T := TX10) (N := 71) (ref := RX10) hx hb hts h1w hown hX.1 hP 0 rfl rfl 50 (by decide) h0w (fun _ h9 => h9) rfl dX10_nearest_6 ?_
  refine lv_icmp_ge (tgt := 49) hx hb dX10_nearest_9 (by decide) (fun _ => ?_) (fun q => absurd (by decide +kernel) (q))
  refine lv_iload_n hx hb dX10_nearest_49 rfl (lv_at hl 1 rfl) ?_
  have hP9 := hP.sub (ws' := [(p0, .inr (7, (v1 :: v2 :: v3 :: v4 :: v5 :: v6 :: v7 :: v8 :: v9 :: v10 :: v11 :: v12 :: v13 :: v14 :: v15 :: v16 :: v17 :: v18 :: v19 :: v20 :: v21 :: v22 :: v23 :: v24 :: v25 :: v26 :: v27 :: v28 :: v29 :: v30 :: v31 :: v32 :: v33 :: v34 :: v35 :: v36 :: v37 :: v38 :: v39 :: v40 :: v41 :: v42 :: v43 :: v44 :: v45 :: v46 :: v47 :: v48 :: v49 :: .ref p50 :: .int 2 :: v51 :: v52 :: v53 :: v54 :: v55 :: v56 :: v57 :: v58 :: v59 :: v60 :: v61 :: v62 :: v63 :: v64 :: v65 :: v66 :: v67 :: v68 :: v69 :: v70 :: []))), (p50, .inl (k 3, 1501, .inl (upd (upd (upd (fun _ => 0) (0 : Int32).toNatClampNeg (vp_nar .boolean 0)) (0 : Int32).toNatClampNeg (vp_nar .boolean 1)) (1 : Int32).toNatClampNeg (vp_nar .boolean 0))))]) [0, 1] rfl
  have hD9 := hD.sub (ws' := [(p0, .inr (7, (v1 :: v2 :: v3 :: v4 :: v5 :: v6 :: v7 :: v8 :: v9 :: v10 :: v11 :: v12 :: v13 :: v14 :: v15 :: v16 :: v17 :: v18 :: v19 :: v20 :: v21 :: v22 :: v23 :: v24 :: v25 :: v26 :: v27 :: v28 :: v29 :: v30 :: v31 :: v32 :: v33 :: v34 :: v35 :: v36 :: v37 :: v38 :: v39 :: v40 :: v41 :: v42 :: v43 :: v44 :: v45 :: v46 :: v47 :: v48 :: v49 :: .ref p50 :: .int 2 :: v51 :: v52 :: v53 :: v54 :: v55 :: v56 :: v57 :: v58 :: v59 :: v60 :: v61 :: v62 :: v63 :: v64 :: v65 :: v66 :: v67 :: v68 :: v69 :: v70 :: []))), (p50, .inl (k 3, 1501, .inl (upd (upd (upd (fun _ => 0) (0 : Int32).toNatClampNeg (vp_nar .boolean 0)) (0 : Int32).toNatClampNeg (vp_nar .boolean 1)) (1 : Int32).toNatClampNeg (vp_nar .boolean 0))))]) [0, 1] (by decide) rfl
  exact W.iret (v := 1) hx hb hr (fun t ht hW => ⟨⟨1, (), rfl, rfl, by rw [ht]; exact hP9, hD9⟩, hS.F ht⟩) hS.2.2 dX10_nearest_50

set_option maxHeartbeats 4000000 in
set_option maxRecDepth 100000 in
theorem cX10_unpack_1 (l : Launch) (G : va_G) (k : Nat → ClassId) (p0 : Nat) (v1 : Value) (v2 : Value) (v3 : Value) (v4 : Value) (v5 : Value) (v6 : Value) (v7 : Value) (v8 : Value) (v9 : Value) (v10 : Value) (v11 : Value) (v12 : Value) (v13 : Value) (v14 : Value) (v15 : Value) (v16 : Value) (v17 : Value) (v18 : Value) (v19 : Value) (v20 : Value) (v21 : Value) (v22 : Value) (v23 : Value) (v24 : Value) (v25 : Value) (v26 : Value) (v27 : Value) (v28 : Value) (v29 : Value) (v30 : Value) (v31 : Value) (v32 : Value) (v33 : Value) (v34 : Value) (v35 : Value) (v36 : Value) (v37 : Value) (v38 : Value) (v39 : Value) (v40 : Value) (v41 : Value) (v42 : Value) (v43 : Value) (v44 : Value) (v45 : Value) (v46 : Value) (v47 : Value) (v48 : Value) (v49 : Value) (v50 : Value) (v51 : Value) (v52 : Value) (v53 : Value) (p54 : Nat) (v55 : Value) (v56 : Value) (v57 : Value) (v58 : Value) (v59 : Value) (v60 : Value) (v61 : Value) (v62 : Value) (v63 : Value) (v64 : Value) (v65 : Value) (v66 : Value) (v67 : Value) (v68 : Value) (v69 : Value) (v70 : Value) (v71 : Value) (f72 : Nat → Int32) (sz : Nat) : CMv l G k yX10_unpack wsX10_unpack ({ frames := 0, cells := 0, slots := 0, locals := 0 }) [.ref p0, .long 536870911] sz [(p0, .inr (7, (v1 :: v2 :: v3 :: v4 :: v5 :: v6 :: v7 :: v8 :: v9 :: v10 :: v11 :: v12 :: v13 :: v14 :: v15 :: v16 :: v17 :: v18 :: v19 :: v20 :: v21 :: v22 :: v23 :: v24 :: v25 :: v26 :: v27 :: v28 :: v29 :: v30 :: v31 :: v32 :: v33 :: v34 :: v35 :: v36 :: v37 :: v38 :: v39 :: v40 :: v41 :: v42 :: v43 :: v44 :: v45 :: v46 :: v47 :: v48 :: v49 :: v50 :: v51 :: v52 :: v53 :: .ref p54 :: v55 :: v56 :: v57 :: v58 :: v59 :: v60 :: v61 :: v62 :: v63 :: v64 :: v65 :: v66 :: v67 :: v68 :: v69 :: v70 :: v71 :: []))), (p54, .inl (k 0, 7, .inl f72))] (fun (u : Unit) => True) (fun (u : Unit) => [(p0, .inr (7, (v1 :: v2 :: v3 :: v4 :: v5 :: v6 :: v7 :: v8 :: v9 :: v10 :: v11 :: v12 :: v13 :: v14 :: v15 :: v16 :: v17 :: v18 :: v19 :: v20 :: v21 :: v22 :: v23 :: v24 :: v25 :: v26 :: v27 :: v28 :: v29 :: v30 :: v31 :: v32 :: v33 :: v34 :: v35 :: v36 :: v37 :: v38 :: v39 :: v40 :: v41 :: v42 :: v43 :: v44 :: v45 :: v46 :: v47 :: v48 :: v49 :: v50 :: v51 :: v52 :: v53 :: .ref p54 :: v55 :: .int 1 :: v57 :: v58 :: v59 :: v60 :: v61 :: v62 :: v63 :: v64 :: v65 :: v66 :: v67 :: v68 :: v69 :: v70 :: v71 :: []))), (p54, .inl (k 0, 7, .inl (upd (upd (upd (upd (upd (upd (upd f72 (6 : Int32).toNatClampNeg 15) (5 : Int32).toNatClampNeg 15) (4 : Int32).toNatClampNeg 15) (3 : Int32).toNatClampNeg 15) (2 : Int32).toNatClampNeg 15) (1 : Int32).toNatClampNeg 15) (0 : Int32).toNatClampNeg 15)))]) := by
  refine Met.ofW (cc := cX10_unpack) (maxL := 6) (ret := none) (by decide) rfl ?_
  intro p e s m args below meth c s₁ B hml hv
  obtain ⟨rfl, hsz, hP, hX, hD0, hZ0⟩ := hv
  have hx := B.exec
  have hb := B.bytes
  have hr := B.returns
  have hts := atoms_spec (ws := wsX10_unpack) B.pre
  have hown : s.vm.findClass RX10 = some m.cls := findClass_of_methodNamed B.named
  subst hsz
  have hD := hD0.self (sz := s.heap.size)
  have hZ := ZX.up hP hZ0
  generalize hAe : va_A [(p0, .inr (7, (v1 :: v2 :: v3 :: v4 :: v5 :: v6 :: v7 :: v8 :: v9 :: v10 :: v11 :: v12 :: v13 :: v14 :: v15 :: v16 :: v17 :: v18 :: v19 :: v20 :: v21 :: v22 :: v23 :: v24 :: v25 :: v26 :: v27 :: v28 :: v29 :: v30 :: v31 :: v32 :: v33 :: v34 :: v35 :: v36 :: v37 :: v38 :: v39 :: v40 :: v41 :: v42 :: v43 :: v44 :: v45 :: v46 :: v47 :: v48 :: v49 :: v50 :: v51 :: v52 :: v53 :: .ref p54 :: v55 :: v56 :: v57 :: v58 :: v59 :: v60 :: v61 :: v62 :: v63 :: v64 :: v65 :: v66 :: v67 :: v68 :: v69 :: v70 :: v71 :: []))), (p54, .inl (k 0, 7, .inl f72))] s.heap.size = A at hD hZ ⊢
  have hA : ∀ q : Nat, s.heap.size ≤ q → A q := fun q h => by rw [← hAe]; exact Or.inr h
  have hS : va_S A s.heap s.heap [] := va_S.rf
  have hP : va_P G vwCl [(p0, .inr (7, (v1 :: v2 :: v3 :: v4 :: v5 :: v6 :: v7 :: v8 :: v9 :: v10 :: v11 :: v12 :: v13 :: v14 :: v15 :: v16 :: v17 :: v18 :: v19 :: v20 :: v21 :: v22 :: v23 :: v24 :: v25 :: v26 :: v27 :: v28 :: v29 :: v30 :: v31 :: v32 :: v33 :: v34 :: v35 :: v36 :: v37 :: v38 :: v39 :: v40 :: v41 :: v42 :: v43 :: v44 :: v45 :: v46 :: v47 :: v48 :: v49 :: v50 :: v51 :: v52 :: v53 :: .ref p54 :: v55 :: v56 :: v57 :: v58 :: v59 :: v60 :: v61 :: v62 :: v63 :: v64 :: v65 :: v66 :: v67 :: v68 :: v69 :: v70 :: v71 :: []))), (p54, .inl (k 0, 7, .inl f72))] s.heap := hP
  have hl := lv_entry ([.ref p0, .long 536870911]) (n := 6) (Nat.le_of_ble_eq_true rfl)
  rw [lg_entry_eq]
  generalize (lg_sl ([.ref p0, .long 536870911]) ++ List.replicate (6 - (lg_sl ([.ref p0, .long 536870911])).length) Slot.unset).toArray = ls at hl ⊢
  have hl : lv_has ls 6 [(0, .ref p0), (1, .long 536870911)] := hl
  have h0w := hts (.fieldLink RX10 134 "RopeTownModel" "row" "[I") (by decide +kernel)
  have h1w : ∀ w ∈ wsX100, w ∈ wsX10_unpack := by decide +kernel
  have h2w := hts (.constantLong RX10 425 (16)) (by decide +kernel)
  have h3w := hts (.fieldLink RX10 427 "RopeTownModel" "rowBucket" "I") (by decide +kernel)
  refine lv_lload_n hx hb dX10_unpack_0 rfl (lv_at hl 1 rfl) ?_
  refine lv_lstore_n (lv' := [(3, .long 536870911), (0, .ref p0), (1, .long 536870911)]) hx hb dX10_unpack_1 rfl hl (by decide) rfl (fun ls hl => ?_)
  refine lv_bipush (v := 6) hx hb dX10_unpack_2 (by decide +kernel) ?_
  refine lv_istore (lv' := [(5, .int 6), (3, .long 536870911), (0, .ref p0), (1, .long 536870911)]) hx hb dX10_unpack_4 hl (by decide) rfl (fun ls hl => ?_)
  refine lv_iload hx hb dX10_unpack_6 (lv_at hl 0 rfl) ?_
  refine lv_if_lt (tgt := 36) hx hb dX10_unpack_8 (by decide) (fun q => absurd (q) (by decide +kernel)) (fun _ => ?_)
  refine lv_aload_n hx hb dX10_unpack_11 rfl (lv_at hl 2 rfl) ?_
  refine va_get (D := G) (ci := 7) (v := .ref p54) (C := RX10) (T := TX10) (N := 71) (ref := RX10) hx hb hts h1w hown hX.1 hP 0 rfl rfl 53 (by decide) h0w (fun _ h9 => h9) rfl dX10_unpack_12 ?_
  refine lv_iload hx hb dX10_unpack_15 (lv_at hl 0 rfl) ?_
  refine lv_lload_n hx hb dX10_unpack_17 rfl (lv_at hl 1 rfl) ?_
  refine lv_ldc2 (v := 16) hx hb hown h2w dX10_unpack_18 ?_
  refine lv_lrem hx hb dX10_unpack_21 (by decide +kernel) ?_
  refine cz_tl (w := 15) (by decide +kernel) ?_
  refine lv_l2i (v := 15) hx hb dX10_unpack_22 (by decide +kernel) ?_
  refine va_iast hx hb hX.1 hP hD hS 1 0 rfl rfl (by unfold vp_in; decide +kernel) dX10_unpack_23 (fun H locs hP hD hS => ?_)
  refine lv_lload_n hx hb dX10_unpack_24 rfl (lv_at hl 1 rfl) ?_
  refine lv_ldc2 (v := 16) hx hb hown h2w dX10_unpack_25 ?_
  refine lv_ldiv hx hb dX10_unpack_28 (by decide +kernel) ?_
  refine cz_tl (w := 33554431) (by decide +kernel) ?_
  refine lv_lstore_n (lv' := [(3, .long 33554431), (5, .int 6), (0, .ref p0), (1, .long 536870911)]) hx hb dX10_unpack_29 rfl hl (by decide) rfl (fun ls hl => ?_)
  refine lv_iinc (v := 5) (lv' := [(5, .int 5), (3, .long 33554431), (0, .ref p0), (1, .long 536870911)]) hx hb dX10_unpack_30 hl (k := 1) rfl (by decide +kernel) (by decide) rfl (fun ls hl => ?_)
  refine lv_goto (tgt := 6) hx hb dX10_unpack_33 (by decide) ?_
  refine lv_iload hx hb dX10_unpack_6 (lv_at hl 0 rfl) ?_
  refine lv_if_lt (tgt := 36) hx hb dX10_unpack_8 (by decide) (fun q => absurd (q) (by decide +kernel)) (fun _ => ?_)
  refine lv_aload_n hx hb dX10_unpack_11 rfl (lv_at hl 2 rfl) ?_
  refine va_get (D := G) (ci := 7) (v := .ref p54) (C := RX10) (T := TX10) (N := 71) (ref := RX10) hx hb hts h1w hown hX.1 hP 0 rfl rfl 53 (by decide) h0w (fun _ h9 => h9) rfl dX10_unpack_12 ?_
  refine lv_iload hx hb dX10_unpack_15 (lv_at hl 0 rfl) ?_
  refine lv_lload_n hx hb dX10_unpack_17 rfl (lv_at hl 1 rfl) ?_
  refine lv_ldc2 (v := 16) hx hb hown h2w dX10_unpack_18 ?_
  refine lv_lrem hx hb dX10_unpack_21 (by decide +kernel) ?_
  refine cz_tl (w := 15) (by decide +kernel) ?_
  refine lv_l2i (v := 15) hx hb dX10_unpack_22 (by decide +kernel) ?_
  refine va_iast hx hb hX.1 hP hD hS 1 0 rfl rfl (by unfold vp_in; decide +kernel) dX10_unpack_23 (fun H locs hP hD hS => ?_)
  refine lv_lload_n hx hb dX10_unpack_24 rfl (lv_at hl 1 rfl) ?_
  refine lv_ldc2 (v := 16) hx hb hown h2w dX10_unpack_25 ?_
  refine lv_ldiv hx hb dX10_unpack_28 (by decide +kernel) ?_
  refine cz_tl (w := 2097151) (by decide +kernel) ?_
  refine lv_lstore_n (lv' := [(3, .long 2097151), (5, .int 5), (0, .ref p0), (1, .long 536870911)]) hx hb dX10_unpack_29 rfl hl (by decide) rfl (fun ls hl => ?_)
  refine lv_iinc (v := 4) (lv' := [(5, .int 4), (3, .long 2097151), (0, .ref p0), (1, .long 536870911)]) hx hb dX10_unpack_30 hl (k := 1) rfl (by decide +kernel) (by decide) rfl (fun ls hl => ?_)
  refine lv_goto (tgt := 6) hx hb dX10_unpack_33 (by decide) ?_
  refine lv_iload hx hb dX10_unpack_6 (lv_at hl 0 rfl) ?_
  refine lv_if_lt (tgt := 36) hx hb dX10_unpack_8 (by decide) (fun q => absurd (q) (by decide +kernel)) (fun _ => ?_)
  refine lv_aload_n hx hb dX10_unpack_11 rfl (lv_at hl 2 rfl) ?_
  refine va_get (D := G) (ci := 7) (v := .ref p54) (C := RX10) (T := TX10) (N := 71) (ref := RX10) hx hb hts h1w hown hX.1 hP 0 rfl rfl 53 (by decide) h0w (fun _ h9 => h9) rfl dX10_unpack_12 ?_
  refine lv_iload hx hb dX10_unpack_15 (lv_at hl 0 rfl) ?_
  refine lv_lload_n hx hb dX10_unpack_17 rfl (lv_at hl 1 rfl) ?_
  refine lv_ldc2 (v := 16) hx hb hown h2w dX10_unpack_18 ?_
  refine lv_lrem hx hb dX10_unpack_21 (by decide +kernel) ?_
  refine cz_tl (w := 15) (by decide +kernel) ?_
  refine lv_l2i (v := 15) hx hb dX10_unpack_22 (by decide +kernel) ?_
  refine va_iast hx hb hX.1 hP hD hS 1 0 rfl rfl (by unfold vp_in; decide +kernel) dX10_unpack_23 (fun H locs hP hD hS => ?_)
  refine lv_lload_n hx hb dX10_unpack_24 rfl (lv_at hl 1 rfl) ?_
  refine lv_ldc2 (v := 16) hx hb hown h2w dX10_unpack_25 ?_
  refine lv_ldiv hx hb dX10_unpack_28 (by decide +kernel) ?_
  refine cz_tl (w := 131071) (by decide +kernel) ?_
  refine lv_lstore_n (lv' := [(3, .long 131071), (5, .int 4), (0, .ref p0), (1, .long 536870911)]) hx hb dX10_unpack_29 rfl hl (by decide) rfl (fun ls hl => ?_)
  refine lv_iinc (v := 3) (lv' := [(5, .int 3), (3, .long 131071), (0, .ref p0), (1, .long 536870911)]) hx hb dX10_unpack_30 hl (k := 1) rfl (by decide +kernel) (by decide) rfl (fun ls hl => ?_)
  refine lv_goto (tgt := 6) hx hb dX10_unpack_33 (by decide) ?_
  refine lv_iload hx hb dX10_unpack_6 (lv_at hl 0 rfl) ?_
  refine lv_if_lt (tgt := 36) hx hb dX10_unpack_8 (by decide) (fun q => absurd (q) (by decide +kernel)) (fun _ => ?_)
  refine lv_aload_n hx hb dX10_unpack_11 rfl (lv_at hl 2 rfl) ?_
  refine va_get (D := G) (ci := 7) (v := .ref p54) (C := RX10) (T := TX10) (N := 71) (ref := RX10) hx hb hts h1w hown hX.1 hP 0 rfl rfl 53 (by decide) h0w (fun _ h9 => h9) rfl dX10_unpack_12 ?_
  refine lv_iload hx hb dX10_unpack_15 (lv_at hl 0 rfl) ?_
  refine lv_lload_n hx hb dX10_unpack_17 rfl (lv_at hl 1 rfl) ?_
  refine lv_ldc2 (v := 16) hx hb hown h2w dX10_unpack_18 ?_
  refine lv_lrem hx hb dX10_unpack_21 (by decide +kernel) ?_
  refine cz_tl (w := 15) (by decide +kernel) ?_
  refine lv_l2i (v := 15) hx hb dX10_unpack_22 (by decide +kernel) ?_
  refine va_iast hx hb hX.1 hP hD hS 1 0 rfl rfl (by unfold vp_in; decide +kernel) dX10_unpack_23 (fun H locs hP hD hS => ?_)
  refine lv_lload_n hx hb dX10_unpack_24 rfl (lv_at hl 1 rfl) ?_
  refine lv_ldc2 (v := 16) hx hb hown h2w dX10_unpack_25 ?_
  refine lv_ldiv hx hb dX10_unpack_28 (by decide +kernel) ?_
  refine cz_tl (w := 8191) (by decide +kernel) ?_
  refine lv_lstore_n (lv' := [(3, .long 8191), (5, .int 3), (0, .ref p0), (1, .long 536870911)]) hx hb dX10_unpack_29 rfl hl (by decide) rfl (fun ls hl => ?_)
  refine lv_iinc (v := 2) (lv' := [(5, .int 2), (3, .long 8191), (0, .ref p0), (1, .long 536870911)]) hx hb dX10_unpack_30 hl (k := 1) rfl (by decide +kernel) (by decide) rfl (fun ls hl => ?_)
  refine lv_goto (tgt := 6) hx hb dX10_unpack_33 (by decide) ?_
  refine lv_iload hx hb dX10_unpack_6 (lv_at hl 0 rfl) ?_
  refine lv_if_lt (tgt := 36) hx hb dX10_unpack_8 (by decide) (fun q => absurd (q) (by decide +kernel)) (fun _ => ?_)
  refine lv_aload_n hx hb dX10_unpack_11 rfl (lv_at hl 2 rfl) ?_
  refine va_get (D := G) (ci := 7) (v := .ref p54) (C := RX10) (T := TX10) (N := 71) (ref := RX10) hx hb hts h1w hown hX.1 hP 0 rfl rfl 53 (by decide) h0w (fun _ h9 => h9) rfl dX10_unpack_12 ?_
  refine lv_iload hx hb dX10_unpack_15 (lv_at hl 0 rfl) ?_
  refine lv_lload_n hx hb dX10_unpack_17 rfl (lv_at hl 1 rfl) ?_
  refine lv_ldc2 (v := 16) hx hb hown h2w dX10_unpack_18 ?_
  refine lv_lrem hx hb dX10_unpack_21 (by decide +kernel) ?_
  refine cz_tl (w := 15) (by decide +kernel) ?_
  refine lv_l2i (v := 15) hx hb dX10_unpack_22 (by decide +kernel) ?_
  refine va_iast hx hb hX.1 hP hD hS 1 0 rfl rfl (by unfold vp_in; decide +kernel) dX10_unpack_23 (fun H locs hP hD hS => ?_)
  refine lv_lload_n hx hb dX10_unpack_24 rfl (lv_at hl 1 rfl) ?_
  refine lv_ldc2 (v := 16) hx hb hown h2w dX10_unpack_25 ?_
  refine lv_ldiv hx hb dX10_unpack_28 (by decide +kernel) ?_
  refine cz_tl (w := 511) (by decide +kernel) ?_
  refine lv_lstore_n (lv' := [(3, .long 511), (5, .int 2), (0, .ref p0), (1, .long 536870911)]) hx hb dX10_unpack_29 rfl hl (by decide) rfl (fun ls hl => ?_)
  refine lv_iinc (v := 1) (lv' := [(5, .int 1), (3, .long 511), (0, .ref p0), (1, .long 536870911)]) hx hb dX10_unpack_30 hl (k := 1) rfl (by decide +kernel) (by decide) rfl (fun ls hl => ?_)
  refine lv_goto (tgt := 6) hx hb dX10_unpack_33 (by decide) ?_
  refine lv_iload hx hb dX10_unpack_6 (lv_at hl 0 rfl) ?_
  refine lv_if_lt (tgt := 36) hx hb dX10_unpack_8 (by decide) (fun q => absurd (q) (by decide +kernel)) (fun _ => ?_)
  refine lv_aload_n hx hb dX10_unpack_11 rfl (lv_at hl 2 rfl) ?_
  refine va_get (D := G) (ci := 7) (v := .ref p54) (C := RX10) (T := TX10) (N := 71) (ref := RX10) hx hb hts h1w hown hX.1 hP 0 rfl rfl 53 (by decide) h0w (fun _ h9 => h9) rfl dX10_unpack_12 ?_
  refine lv_iload hx hb dX10_unpack_15 (lv_at hl 0 rfl) ?_
  refine lv_lload_n hx hb dX10_unpack_17 rfl (lv_at hl 1 rfl) ?_
  refine lv_ldc2 (v := 16) hx hb hown h2w dX10_unpack_18 ?_
  refine lv_lrem hx hb dX10_unpack_21 (by decide +kernel) ?_
  refine cz_tl (w := 15) (by decide +kernel) ?_
  refine lv_l2i (v := 15) hx hb dX10_unpack_22 (by decide +kernel) ?_
  refine va_iast hx hb hX.1 hP hD hS 1 0 rfl rfl (by unfold vp_in; decide +kernel) dX10_unpack_23 (fun H locs hP hD hS => ?_)
  obtain ⟨hP, hD⟩ : va_P G vwCl [(p0, .inr (7, (v1 :: v2 :: v3 :: v4 :: v5 :: v6 :: v7 :: v8 :: v9 :: v10 :: v11 :: v12 :: v13 :: v14 :: v15 :: v16 :: v17 :: v18 :: v19 :: v20 :: v21 :: v22 :: v23 :: v24 :: v25 :: v26 :: v27 :: v28 :: v29 :: v30 :: v31 :: v32 :: v33 :: v34 :: v35 :: v36 :: v37 :: v38 :: v39 :: v40 :: v41 :: v42 :: v43 :: v44 :: v45 :: v46 :: v47 :: v48 :: v49 :: v50 :: v51 :: v52 :: v53 :: .ref p54 :: v55 :: v56 :: v57 :: v58 :: v59 :: v60 :: v61 :: v62 :: v63 :: v64 :: v65 :: v66 :: v67 :: v68 :: v69 :: v70 :: v71 :: []))), (p54, .inl (k 0, 7, .inl (upd (upd (upd (upd (upd (upd f72 (6 : Int32).toNatClampNeg 15) (5 : Int32).toNatClampNeg 15) (4 : Int32).toNatClampNeg 15) (3 : Int32).toNatClampNeg 15) (2 : Int32).toNatClampNeg 15) (1 : Int32).toNatClampNeg 15)))] H ∧ va_D A [(p0, .inr (7, (v1 :: v2 :: v3 :: v4 :: v5 :: v6 :: v7 :: v8 :: v9 :: v10 :: v11 :: v12 :: v13 :: v14 :: v15 :: v16 :: v17 :: v18 :: v19 :: v20 :: v21 :: v22 :: v23 :: v24 :: v25 :: v26 :: v27 :: v28 :: v29 :: v30 :: v31 :: v32 :: v33 :: v34 :: v35 :: v36 :: v37 :: v38 :: v39 :: v40 :: v41 :: v42 :: v43 :: v44 :: v45 :: v46 :: v47 :: v48 :: v49 :: v50 :: v51 :: v52 :: v53 :: .ref p54 :: v55 :: v56 :: v57 :: v58 :: v59 :: v60 :: v61 :: v62 :: v63 :: v64 :: v65 :: v66 :: v67 :: v68 :: v69 :: v70 :: v71 :: []))), (p54, .inl (k 0, 7, .inl (upd (upd (upd (upd (upd (upd f72 (6 : Int32).toNatClampNeg 15) (5 : Int32).toNatClampNeg 15) (4 : Int32).toNatClampNeg 15) (3 : Int32).toNatClampNeg 15) (2 : Int32).toNatClampNeg 15) (1 : Int32).toNatClampNeg 15)))] := ⟨hP, hD⟩
  refine lv_lload_n hx hb dX10_unpack_24 rfl (lv_at hl 1 rfl) ?_
  refine lv_ldc2 (v := 16) hx hb hown h2w dX10_unpack_25 ?_
  refine lv_ldiv hx hb dX10_unpack_28 (by decide +kernel) ?_
  refine cz_tl (w := 31) (by decide +kernel) ?_
  refine lv_lstore_n (lv' := [(3, .long 31), (5, .int 1), (0, .ref p0), (1, .long 536870911)]) hx hb dX10_unpack_29 rfl hl (by decide) rfl (fun ls hl => ?_)
  refine lv_iinc (v := 0) (lv' := [(5, .int 0), (3, .long 31), (0, .ref p0), (1, .long 536870911)]) hx hb dX10_unpack_30 hl (k := 1) rfl (by decide +kernel) (by decide) rfl (fun ls hl => ?_)
  refine lv_goto (tgt := 6) hx hb dX10_unpack_33 (by decide) ?_
  refine lv_iload hx hb dX10_unpack_6 (lv_at hl 0 rfl) ?_
  refine lv_if_lt (tgt := 36) hx hb dX10_unpack_8 (by decide) (fun q => absurd (q) (by decide +kernel)) (fun _ => ?_)
  refine lv_aload_n hx hb dX10_unpack_11 rfl (lv_at hl 2 rfl) ?_
  refine va_get (D := G) (ci := 7) (v := .ref p54) (C := RX10) (T := TX10) (N := 71) (ref := RX10) hx hb hts h1w hown hX.1 hP 0 rfl rfl 53 (by decide) h0w (fun _ h9 => h9) rfl dX10_unpack_12 ?_
  refine lv_iload hx hb dX10_unpack_15 (lv_at hl 0 rfl) ?_
  refine lv_lload_n hx hb dX10_unpack_17 rfl (lv_at hl 1 rfl) ?_
  refine lv_ldc2 (v := 16) hx hb hown h2w dX10_unpack_18 ?_
  refine lv_lrem hx hb dX10_unpack_21 (by decide +kernel) ?_
  refine cz_tl (w := 15) (by decide +kernel) ?_
  refine lv_l2i (v := 15) hx hb dX10_unpack_22 (by decide +kernel) ?_
  refine va_iast hx hb hX.1 hP hD hS 1 0 rfl rfl (by unfold vp_in; decide +kernel) dX10_unpack_23 (fun H locs hP hD hS => ?_)
  refine lv_lload_n hx hb dX10_unpack_24 rfl (lv_at hl 1 rfl) ?_
  refine lv_ldc2 (v := 16) hx hb hown h2w dX10_unpack_25 ?_
  refine lv_ldiv hx hb dX10_unpack_28 (by decide +kernel) ?_
  refine cz_tl (w := 1) (by decide +kernel) ?_
  refine lv_lstore_n (lv' := [(3, .long 1), (5, .int 0), (0, .ref p0), (1, .long 536870911)]) hx hb dX10_unpack_29 rfl hl (by decide) rfl (fun ls hl => ?_)
  refine lv_iinc (v := (-1)) (lv' := [(5, .int (-1)), (3, .long 1), (0, .ref p0), (1, .long 536870911)]) hx hb dX10_unpack_30 hl (k := 1) rfl (by decide +kernel) (by decide) rfl (fun ls hl => ?_)
  refine lv_goto (tgt := 6) hx hb dX10_unpack_33 (by decide) ?_
  refine lv_iload hx hb dX10_unpack_6 (lv_at hl 0 rfl) ?_
  refine lv_if_lt (tgt := 36) hx hb dX10_unpack_8 (by decide) (fun _ => ?_) (fun q => absurd (by decide +kernel) (q))
  refine lv_aload_n hx hb dX10_unpack_36 rfl (lv_at hl 2 rfl) ?_
  refine lv_lload_n hx hb dX10_unpack_37 rfl (lv_at hl 1 rfl) ?_
  refine lv_l2i (v := 1) hx hb dX10_unpack_38 (by decide +kernel) ?_
  refine va_put (D := G) (ci := 7) (v := .int 1) (ty := .int) (C := RX10) (T := TX10) (N := 71) (ref := RX10) hx hb hts h1w tyX10 tyX10_ok nmX10 hown hX.1 hP hD hS 0 rfl rfl 55 (by decide) h3w (fun _ h9 => h9) rfl (by decide +kernel) rfl rfl (Nat.le_of_ble_eq_true rfl) dX10_unpack_39 (fun H locs hP hD hS => ?_)
  have hP9 := hP.sub (ws' := [(p0, .inr (7, (v1 :: v2 :: v3 :: v4 :: v5 :: v6 :: v7 :: v8 :: v9 :: v10 :: v11 :: v12 :: v13 :: v14 :: v15 :: v16 :: v17 :: v18 :: v19 :: v20 :: v21 :: v22 :: v23 :: v24 :: v25 :: v26 :: v27 :: v28 :: v29 :: v30 :: v31 :: v32 :: v33 :: v34 :: v35 :: v36 :: v37 :: v38 :: v39 :: v40 :: v41 :: v42 :: v43 :: v44 :: v45 :: v46 :: v47 :: v48 :: v49 :: v50 :: v51 :: v52 :: v53 :: .ref p54 :: v55 :: .int 1 :: v57 :: v58 :: v59 :: v60 :: v61 :: v62 :: v63 :: v64 :: v65 :: v66 :: v67 :: v68 :: v69 :: v70 :: v71 :: []))), (p54, .inl (k 0, 7, .inl (upd (upd (upd (upd (upd (upd (upd f72 (6 : Int32).toNatClampNeg 15) (5 : Int32).toNatClampNeg 15) (4 : Int32).toNatClampNeg 15) (3 : Int32).toNatClampNeg 15) (2 : Int32).toNatClampNeg 15) (1 : Int32).toNatClampNeg 15) (0 : Int32).toNatClampNeg 15)))]) [0, 1] rfl
  have hD9 := hD.sub (ws' := [(p0, .inr (7, (v1 :: v2 :: v3 :: v4 :: v5 :: v6 :: v7 :: v8 :: v9 :: v10 :: v11 :: v12 :: v13 :: v14 :: v15 :: v16 :: v17 :: v18 :: v19 :: v20 :: v21 :: v22 :: v23 :: v24 :: v25 :: v26 :: v27 :: v28 :: v29 :: v30 :: v31 :: v32 :: v33 :: v34 :: v35 :: v36 :: v37 :: v38 :: v39 :: v40 :: v41 :: v42 :: v43 :: v44 :: v45 :: v46 :: v47 :: v48 :: v49 :: v50 :: v51 :: v52 :: v53 :: .ref p54 :: v55 :: .int 1 :: v57 :: v58 :: v59 :: v60 :: v61 :: v62 :: v63 :: v64 :: v65 :: v66 :: v67 :: v68 :: v69 :: v70 :: v71 :: []))), (p54, .inl (k 0, 7, .inl (upd (upd (upd (upd (upd (upd (upd f72 (6 : Int32).toNatClampNeg 15) (5 : Int32).toNatClampNeg 15) (4 : Int32).toNatClampNeg 15) (3 : Int32).toNatClampNeg 15) (2 : Int32).toNatClampNeg 15) (1 : Int32).toNatClampNeg 15) (0 : Int32).toNatClampNeg 15)))]) [0, 1] (by decide) rfl
  exact W.vret hx hb hr (fun t ht hW => ⟨⟨(), rfl, trivial, by rw [ht]; exact hP9, hD9⟩, hS.F ht⟩) hS.2.2 dX10_unpack_42

set_option maxHeartbeats 4000000 in
set_option maxRecDepth 100000 in
theorem cX10_depthOf_2 (l : Launch) (G : va_G) (k : Nat → ClassId) (p0 : Nat) (sz : Nat) : CMi l G k yX10_depthOf wsX10_depthOf ({ frames := 0, cells := 0, slots := 0, locals := 0 }) [.ref p0, .int 0, .int 1] sz [] (fun r (u : Unit) => r = 1) (fun (u : Unit) => []) := by
  refine Met.ofW (cc := cX10_depthOf) (maxL := 3) (ret := (some .int)) (by decide) rfl ?_
  intro p e s m args below meth c s₁ B hml hv
  obtain ⟨rfl, hsz, hP, hX, hD0, hZ0⟩ := hv
  have hx := B.exec
  have hb := B.bytes
  have hr := B.returns
  have hts := atoms_spec (ws := wsX10_depthOf) B.pre
  have hown : s.vm.findClass RX10 = some m.cls := findClass_of_methodNamed B.named
  subst hsz
  have hD := hD0.self (sz := s.heap.size)
  have hZ := ZX.up hP hZ0
  generalize hAe : va_A [] s.heap.size = A at hD hZ ⊢
  have hA : ∀ q : Nat, s.heap.size ≤ q → A q := fun q h => by rw [← hAe]; exact Or.inr h
  have hS : va_S A s.heap s.heap [] := va_S.rf
  have hP : va_P G vwCl [] s.heap := hP
  have hl := lv_entry ([.ref p0, .int 0, .int 1]) (n := 3) (Nat.le_of_ble_eq_true rfl)
  rw [lg_entry_eq]
  generalize (lg_sl ([.ref p0, .int 0, .int 1]) ++ List.replicate (3 - (lg_sl ([.ref p0, .int 0, .int 1])).length) Slot.unset).toArray = ls at hl ⊢
  have hl : lv_has ls 3 [(0, .ref p0), (1, .int 0), (2, .int 1)] := hl
  refine lv_iload_n hx hb dX10_depthOf_0 rfl (lv_at hl 1 rfl) ?_
  refine lv_if_ne (tgt := 8) hx hb dX10_depthOf_1 (by decide) (fun q => absurd (by decide +kernel) (q)) (fun _ => ?_)
  refine lv_iload_n hx hb dX10_depthOf_4 rfl (lv_at hl 2 rfl) ?_
  refine lv_goto (tgt := 14) hx hb dX10_depthOf_5 (by decide) ?_
  have hP9 := hP.sub (ws' := []) [] rfl
  have hD9 := hD.sub (ws' := []) [] (by decide) rfl
  exact W.iret (v := 1) hx hb hr (fun t ht hW => ⟨⟨1, (), rfl, rfl, by rw [ht]; exact hP9, hD9⟩, hS.F ht⟩) hS.2.2 dX10_depthOf_14

set_option maxHeartbeats 4000000 in
set_option maxRecDepth 100000 in
theorem cX10_brokenBy_2 (l : Launch) (G : va_G) (k : Nat → ClassId) (p0 : Nat) (p1 : Nat) (v2 : Value) (v3 : Value) (v4 : Value) (v5 : Value) (v6 : Value) (v7 : Value) (v8 : Value) (v9 : Value) (v10 : Value) (v11 : Value) (v12 : Value) (v13 : Value) (v14 : Value) (v15 : Value) (v16 : Value) (v17 : Value) (v18 : Value) (v19 : Value) (v20 : Value) (v21 : Value) (v22 : Value) (v23 : Value) (v24 : Value) (v25 : Value) (v26 : Value) (v27 : Value) (v28 : Value) (v29 : Value) (v30 : Value) (v31 : Value) (v32 : Value) (v33 : Value) (v34 : Value) (v35 : Value) (v36 : Value) (v37 : Value) (v38 : Value) (p39 : Nat) (v40 : Value) (v41 : Value) (v42 : Value) (v43 : Value) (v44 : Value) (v45 : Value) (v46 : Value) (v47 : Value) (v48 : Value) (v49 : Value) (v50 : Value) (v51 : Value) (v52 : Value) (v53 : Value) (v54 : Value) (v55 : Value) (v56 : Value) (v57 : Value) (v58 : Value) (v59 : Value) (v60 : Value) (v61 : Value) (v62 : Value) (v63 : Value) (v64 : Value) (v65 : Value) (v66 : Value) (v67 : Value) (v68 : Value) (v69 : Value) (v70 : Value) (f71 : Nat → Int32) (sz : Nat) : CMi l G k yX10_brokenBy wsX10_brokenBy ({ frames := 1, cells := 0, slots := 0, locals := 25 }) [.ref p0, .ref p1, .int 0, .int 1] sz [(p0, .inr (7, (v2 :: v3 :: v4 :: v5 :: v6 :: v7 :: v8 :: v9 :: v10 :: v11 :: v12 :: v13 :: .int 0 :: .int 0 :: v14 :: v15 :: v16 :: v17 :: v18 :: v19 :: v20 :: v21 :: v22 :: v23 :: v24 :: v25 :: v26 :: v27 :: v28 :: v29 :: v30 :: v31 :: v32 :: v33 :: v34 :: v35 :: v36 :: v37 :: v38 :: .ref p39 :: v40 :: v41 :: v42 :: v43 :: v44 :: v45 :: v46 :: v47 :: v48 :: v49 :: v50 :: v51 :: v52 :: v53 :: v54 :: v55 :: v56 :: v57 :: v58 :: v59 :: v60 :: v61 :: v62 :: v63 :: v64 :: v65 :: v66 :: v67 :: v68 :: v69 :: v70 :: []))), (p39, .inl (k 0, 7, .inl f71))] (fun r (u : Unit) => r = (-1)) (fun (u : Unit) => [(p39, .inl (k 0, 7, .inl (upd (upd (upd (upd (upd (upd (upd f71 (0 : Int32).toNatClampNeg 0) (1 : Int32).toNatClampNeg 0) (2 : Int32).toNatClampNeg 0) (3 : Int32).toNatClampNeg 0) (4 : Int32).toNatClampNeg 0) (5 : Int32).toNatClampNeg 1) (6 : Int32).toNatClampNeg 0))), (p0, .inr (7, (v2 :: v3 :: v4 :: v5 :: v6 :: v7 :: v8 :: v9 :: v10 :: v11 :: v12 :: v13 :: .int 0 :: .int 0 :: v14 :: v15 :: v16 :: v17 :: v18 :: v19 :: v20 :: v21 :: v22 :: v23 :: v24 :: v25 :: v26 :: v27 :: v28 :: v29 :: v30 :: v31 :: v32 :: v33 :: v34 :: v35 :: v36 :: v37 :: v38 :: .ref p39 :: v40 :: v41 :: v42 :: v43 :: v44 :: v45 :: v46 :: v47 :: v48 :: v49 :: v50 :: v51 :: v52 :: v53 :: v54 :: v55 :: v56 :: v57 :: v58 :: v59 :: v60 :: v61 :: v62 :: v63 :: v64 :: v65 :: v66 :: v67 :: v68 :: v69 :: v70 :: [])))]) := by
  refine Met.ofW (cc := cX10_brokenBy) (maxL := 5) (ret := (some .int)) (by decide) rfl ?_
  intro p e s m args below meth c s₁ B hml hv
  obtain ⟨rfl, hsz, hP, hX, hD0, hZ0⟩ := hv
  have hx := B.exec
  have hb := B.bytes
  have hr := B.returns
  have hts := atoms_spec (ws := wsX10_brokenBy) B.pre
  have hown : s.vm.findClass RX10 = some m.cls := findClass_of_methodNamed B.named
  subst hsz
  have hD := hD0.self (sz := s.heap.size)
  have hZ := ZX.up hP hZ0
  generalize hAe : va_A [(p0, .inr (7, (v2 :: v3 :: v4 :: v5 :: v6 :: v7 :: v8 :: v9 :: v10 :: v11 :: v12 :: v13 :: .int 0 :: .int 0 :: v14 :: v15 :: v16 :: v17 :: v18 :: v19 :: v20 :: v21 :: v22 :: v23 :: v24 :: v25 :: v26 :: v27 :: v28 :: v29 :: v30 :: v31 :: v32 :: v33 :: v34 :: v35 :: v36 :: v37 :: v38 :: .ref p39 :: v40 :: v41 :: v42 :: v43 :: v44 :: v45 :: v46 :: v47 :: v48 :: v49 :: v50 :: v51 :: v52 :: v53 :: v54 :: v55 :: v56 :: v57 :: v58 :: v59 :: v60 :: v61 :: v62 :: v63 :: v64 :: v65 :: v66 :: v67 :: v68 :: v69 :: v70 :: []))), (p39, .inl (k 0, 7, .inl f71))] s.heap.size = A at hD hZ ⊢
  have hA : ∀ q : Nat, s.heap.size ≤ q → A q := fun q h => by rw [← hAe]; exact Or.inr h
  have hS : va_S A s.heap s.heap [] := va_S.rf
  have hP : va_P G vwCl [(p0, .inr (7, (v2 :: v3 :: v4 :: v5 :: v6 :: v7 :: v8 :: v9 :: v10 :: v11 :: v12 :: v13 :: .int 0 :: .int 0 :: v14 :: v15 :: v16 :: v17 :: v18 :: v19 :: v20 :: v21 :: v22 :: v23 :: v24 :: v25 :: v26 :: v27 :: v28 :: v29 :: v30 :: v31 :: v32 :: v33 :: v34 :: v35 :: v36 :: v37 :: v38 :: .ref p39 :: v40 :: v41 :: v42 :: v43 :: v44 :: v45 :: v46 :: v47 :: v48 :: v49 :: v50 :: v51 :: v52 :: v53 :: v54 :: v55 :: v56 :: v57 :: v58 :: v59 :: v60 :: v61 :: v62 :: v63 :: v64 :: v65 :: v66 :: v67 :: v68 :: v69 :: v70 :: []))), (p39, .inl (k 0, 7, .inl f71))] s.heap := hP
  have hl := lv_entry ([.ref p0, .ref p1, .int 0, .int 1]) (n := 5) (Nat.le_of_ble_eq_true rfl)
  rw [lg_entry_eq]
  generalize (lg_sl ([.ref p0, .ref p1, .int 0, .int 1]) ++ List.replicate (5 - (lg_sl ([.ref p0, .ref p1, .int 0, .int 1])).length) Slot.unset).toArray = ls at hl ⊢
  have hl : lv_has ls 5 [(0, .ref p0), (1, .ref p1), (2, .int 0), (3, .int 1)] := hl
  have h0w := hts (.fieldLink RX10 108 "RopeTownModel" "asked" "[I") (by decide +kernel)
  have h1w : ∀ w ∈ wsX100, w ∈ wsX10_brokenBy := by decide +kernel
  have h2w := hts (.fieldLink RX10 324 "RopeTownModel" "rules" "I") (by decide +kernel)
  refine lv_aload_n hx hb dX10_brokenBy_0 rfl (lv_at hl 0 rfl) ?_
  refine va_get (D := G) (ci := 7) (v := .ref p39) (C := RX10) (T := TX10) (N := 71) (ref := RX10) hx hb hts h1w hown hX.1 hP 0 rfl rfl 39 (by decide) h0w (fun _ h9 => h9) rfl dX10_brokenBy_1 ?_
  refine lv_iconst (v := 0) hx hb dX10_brokenBy_4 (by decide +kernel) ?_
  refine lv_aload_n hx hb dX10_brokenBy_5 rfl (lv_at hl 0 rfl) ?_
  refine lv_aload_n hx hb dX10_brokenBy_6 rfl (lv_at hl 1 rfl) ?_
  refine lv_iload_n hx hb dX10_brokenBy_7 rfl (lv_at hl 2 rfl) ?_
  refine lv_iconst (v := 0) hx hb dX10_brokenBy_8 (by decide +kernel) ?_
  refine cz_i (wr := [(p39, .inl (k 0, 7, .inl f71))]) (va_runV (As := [.ref p1, .int 0, .int 0]) (rest := [.int 0, .ref p39]) ⟨hx, hb, hml, hown, hts⟩ (cX10_manyOf_0 l G k p0 p1 v2 v3 v4 v5 v6 v7 v8 v9 v10 v11 v12 v13 (.int 0) v14 v15 v16 v17 v18 v19 v20 v21 v22 v23 v24 v25 v26 v27 v28 v29 v30 v31 v32 v33 v34 v35 v36 v37 v38 (.ref p39) v40 v41 v42 v43 v44 v45 v46 v47 v48 v49 v50 v51 v52 v53 v54 v55 v56 v57 v58 v59 v60 v61 v62 v63 v64 v65 v66 v67 v68 v69 v70 s.heap.size) (cwV 3 hts gX10_brokenBy_X10_manyOf rfl rfl rfl (by decide +kernel) ⟨Nat.le_of_ble_eq_true rfl, Nat.le_of_ble_eq_true rfl⟩) (cz_preV hZ hS hX hP hD [0] rfl rfl (ci := 7) (q0 := 0) rfl rfl) rfl rfl hl.1 rfl (lv_room (Nat.le_of_ble_eq_true rfl)) dX10_brokenBy_9 ⟨Nat.le_of_ble_eq_true rfl, Nat.le_of_ble_eq_true rfl⟩) hP hD hS hA [0] [1] rfl rfl (by decide) (by decide) (fun r u H locs hp hP hD hS => ?_)
  have hp : r = 0 := hp
  subst hp
  refine va_iast hx hb hX.1 hP hD hS 0 0 rfl rfl (by unfold vp_in; decide +kernel) dX10_brokenBy_12 (fun H locs hP hD hS => ?_)
  refine lv_aload_n hx hb dX10_brokenBy_13 rfl (lv_at hl 0 rfl) ?_
  refine va_get (D := G) (ci := 7) (v := .ref p39) (C := RX10) (T := TX10) (N := 71) (ref := RX10) hx hb hts h1w hown hX.1 hP 1 rfl rfl 39 (by decide) h0w (fun _ h9 => h9) rfl dX10_brokenBy_14 ?_
  refine lv_iconst (v := 1) hx hb dX10_brokenBy_17 (by decide +kernel) ?_
  refine lv_aload_n hx hb dX10_brokenBy_18 rfl (lv_at hl 0 rfl) ?_
  refine lv_aload_n hx hb dX10_brokenBy_19 rfl (lv_at hl 1 rfl) ?_
  refine lv_iload_n hx hb dX10_brokenBy_20 rfl (lv_at hl 2 rfl) ?_
  refine lv_iconst (v := 1) hx hb dX10_brokenBy_21 (by decide +kernel) ?_
  refine cz_i (wr := [(p39, .inl (k 0, 7, .inl (upd f71 (0 : Int32).toNatClampNeg 0)))]) (va_runV (As := [.ref p1, .int 0, .int 1]) (rest := [.int 1, .ref p39]) ⟨hx, hb, hml, hown, hts⟩ (cX10_manyOf_1 l G k p0 p1 v2 v3 v4 v5 v6 v7 v8 v9 v10 v11 v12 v13 (.int 0) v14 v15 v16 v17 v18 v19 v20 v21 v22 v23 v24 v25 v26 v27 v28 v29 v30 v31 v32 v33 v34 v35 v36 v37 v38 (.ref p39) v40 v41 v42 v43 v44 v45 v46 v47 v48 v49 v50 v51 v52 v53 v54 v55 v56 v57 v58 v59 v60 v61 v62 v63 v64 v65 v66 v67 v68 v69 v70 H.size) (cwV 3 hts gX10_brokenBy_X10_manyOf rfl rfl rfl (by decide +kernel) ⟨Nat.le_of_ble_eq_true rfl, Nat.le_of_ble_eq_true rfl⟩) (cz_preV hZ hS hX hP hD [1] rfl rfl (ci := 7) (q0 := 1) rfl rfl) rfl rfl hl.1 rfl (lv_room (Nat.le_of_ble_eq_true rfl)) dX10_brokenBy_22 ⟨Nat.le_of_ble_eq_true rfl, Nat.le_of_ble_eq_true rfl⟩) hP hD hS hA [1] [0] rfl rfl (by decide) (by decide) (fun r u H locs hp hP hD hS => ?_)
  have hp : r = 0 := hp
  subst hp
  refine va_iast hx hb hX.1 hP hD hS 0 0 rfl rfl (by unfold vp_in; decide +kernel) dX10_brokenBy_25 (fun H locs hP hD hS => ?_)
  refine lv_aload_n hx hb dX10_brokenBy_26 rfl (lv_at hl 0 rfl) ?_
  refine va_get (D := G) (ci := 7) (v := .ref p39) (C := RX10) (T := TX10) (N := 71) (ref := RX10) hx hb hts h1w hown hX.1 hP 1 rfl rfl 39 (by decide) h0w (fun _ h9 => h9) rfl dX10_brokenBy_27 ?_
  refine lv_iconst (v := 2) hx hb dX10_brokenBy_30 (by decide +kernel) ?_
  refine lv_aload_n hx hb dX10_brokenBy_31 rfl (lv_at hl 0 rfl) ?_
  refine lv_aload_n hx hb dX10_brokenBy_32 rfl (lv_at hl 1 rfl) ?_
  refine lv_iload_n hx hb dX10_brokenBy_33 rfl (lv_at hl 2 rfl) ?_
  refine lv_iconst (v := 2) hx hb dX10_brokenBy_34 (by decide +kernel) ?_
  refine cz_i (wr := [(p39, .inl (k 0, 7, .inl (upd (upd f71 (0 : Int32).toNatClampNeg 0) (1 : Int32).toNatClampNeg 0)))]) (va_runV (As := [.ref p1, .int 0, .int 2]) (rest := [.int 2, .ref p39]) ⟨hx, hb, hml, hown, hts⟩ (cX10_manyOf_2 l G k p0 p1 v2 v3 v4 v5 v6 v7 v8 v9 v10 v11 v12 v13 (.int 0) v14 v15 v16 v17 v18 v19 v20 v21 v22 v23 v24 v25 v26 v27 v28 v29 v30 v31 v32 v33 v34 v35 v36 v37 v38 (.ref p39) v40 v41 v42 v43 v44 v45 v46 v47 v48 v49 v50 v51 v52 v53 v54 v55 v56 v57 v58 v59 v60 v61 v62 v63 v64 v65 v66 v67 v68 v69 v70 H.size) (cwV 3 hts gX10_brokenBy_X10_manyOf rfl rfl rfl (by decide +kernel) ⟨Nat.le_of_ble_eq_true rfl, Nat.le_of_ble_eq_true rfl⟩) (cz_preV hZ hS hX hP hD [1] rfl rfl (ci := 7) (q0 := 1) rfl rfl) rfl rfl hl.1 rfl (lv_room (Nat.le_of_ble_eq_true rfl)) dX10_brokenBy_35 ⟨Nat.le_of_ble_eq_true rfl, Nat.le_of_ble_eq_true rfl⟩) hP hD hS hA [1] [0] rfl rfl (by decide) (by decide) (fun r u H locs hp hP hD hS => ?_)
  have hp : r = 0 := hp
  subst hp
  refine va_iast hx hb hX.1 hP hD hS 0 0 rfl rfl (by unfold vp_in; decide +kernel) dX10_brokenBy_38 (fun H locs hP hD hS => ?_)
  obtain ⟨hP, hD⟩ : va_P G vwCl [(p39, .inl (k 0, 7, .inl (upd (upd (upd f71 (0 : Int32).toNatClampNeg 0) (1 : Int32).toNatClampNeg 0) (2 : Int32).toNatClampNeg 0))), (p0, .inr (7, (v2 :: v3 :: v4 :: v5 :: v6 :: v7 :: v8 :: v9 :: v10 :: v11 :: v12 :: v13 :: .int 0 :: .int 0 :: v14 :: v15 :: v16 :: v17 :: v18 :: v19 :: v20 :: v21 :: v22 :: v23 :: v24 :: v25 :: v26 :: v27 :: v28 :: v29 :: v30 :: v31 :: v32 :: v33 :: v34 :: v35 :: v36 :: v37 :: v38 :: .ref p39 :: v40 :: v41 :: v42 :: v43 :: v44 :: v45 :: v46 :: v47 :: v48 :: v49 :: v50 :: v51 :: v52 :: v53 :: v54 :: v55 :: v56 :: v57 :: v58 :: v59 :: v60 :: v61 :: v62 :: v63 :: v64 :: v65 :: v66 :: v67 :: v68 :: v69 :: v70 :: [])))] H ∧ va_D A [(p39, .inl (k 0, 7, .inl (upd (upd (upd f71 (0 : Int32).toNatClampNeg 0) (1 : Int32).toNatClampNeg 0) (2 : Int32).toNatClampNeg 0))), (p0, .inr (7, (v2 :: v3 :: v4 :: v5 :: v6 :: v7 :: v8 :: v9 :: v10 :: v11 :: v12 :: v13 :: .int 0 :: .int 0 :: v14 :: v15 :: v16 :: v17 :: v18 :: v19 :: v20 :: v21 :: v22 :: v23 :: v24 :: v25 :: v26 :: v27 :: v28 :: v29 :: v30 :: v31 :: v32 :: v33 :: v34 :: v35 :: v36 :: v37 :: v38 :: .ref p39 :: v40 :: v41 :: v42 :: v43 :: v44 :: v45 :: v46 :: v47 :: v48 :: v49 :: v50 :: v51 :: v52 :: v53 :: v54 :: v55 :: v56 :: v57 :: v58 :: v59 :: v60 :: v61 :: v62 :: v63 :: v64 :: v65 :: v66 :: v67 :: v68 :: v69 :: v70 :: [])))] := ⟨hP, hD⟩
  refine lv_aload_n hx hb dX10_brokenBy_39 rfl (lv_at hl 0 rfl) ?_
  refine va_get (D := G) (ci := 7) (v := .ref p39) (C := RX10) (T := TX10) (N := 71) (ref := RX10) hx hb hts h1w hown hX.1 hP 1 rfl rfl 39 (by decide) h0w (fun _ h9 => h9) rfl dX10_brokenBy_40 ?_
  refine lv_iconst (v := 3) hx hb dX10_brokenBy_43 (by decide +kernel) ?_
  refine lv_aload_n hx hb dX10_brokenBy_44 rfl (lv_at hl 0 rfl) ?_
  refine lv_aload_n hx hb dX10_brokenBy_45 rfl (lv_at hl 1 rfl) ?_
  refine lv_iload_n hx hb dX10_brokenBy_46 rfl (lv_at hl 2 rfl) ?_
  refine lv_iconst (v := 3) hx hb dX10_brokenBy_47 (by decide +kernel) ?_
  refine cz_i (wr := [(p39, .inl (k 0, 7, .inl (upd (upd (upd f71 (0 : Int32).toNatClampNeg 0) (1 : Int32).toNatClampNeg 0) (2 : Int32).toNatClampNeg 0)))]) (va_runV (As := [.ref p1, .int 0, .int 3]) (rest := [.int 3, .ref p39]) ⟨hx, hb, hml, hown, hts⟩ (cX10_manyOf_3 l G k p0 p1 v2 v3 v4 v5 v6 v7 v8 v9 v10 v11 v12 v13 (.int 0) v14 v15 v16 v17 v18 v19 v20 v21 v22 v23 v24 v25 v26 v27 v28 v29 v30 v31 v32 v33 v34 v35 v36 v37 v38 (.ref p39) v40 v41 v42 v43 v44 v45 v46 v47 v48 v49 v50 v51 v52 v53 v54 v55 v56 v57 v58 v59 v60 v61 v62 v63 v64 v65 v66 v67 v68 v69 v70 H.size) (cwV 3 hts gX10_brokenBy_X10_manyOf rfl rfl rfl (by decide +kernel) ⟨Nat.le_of_ble_eq_true rfl, Nat.le_of_ble_eq_true rfl⟩) (cz_preV hZ hS hX hP hD [1] rfl rfl (ci := 7) (q0 := 1) rfl rfl) rfl rfl hl.1 rfl (lv_room (Nat.le_of_ble_eq_true rfl)) dX10_brokenBy_48 ⟨Nat.le_of_ble_eq_true rfl, Nat.le_of_ble_eq_true rfl⟩) hP hD hS hA [1] [0] rfl rfl (by decide) (by decide) (fun r u H locs hp hP hD hS => ?_)
  have hp : r = 0 := hp
  subst hp
  refine va_iast hx hb hX.1 hP hD hS 0 0 rfl rfl (by unfold vp_in; decide +kernel) dX10_brokenBy_51 (fun H locs hP hD hS => ?_)
  refine lv_aload_n hx hb dX10_brokenBy_52 rfl (lv_at hl 0 rfl) ?_
  refine va_get (D := G) (ci := 7) (v := .ref p39) (C := RX10) (T := TX10) (N := 71) (ref := RX10) hx hb hts h1w hown hX.1 hP 1 rfl rfl 39 (by decide) h0w (fun _ h9 => h9) rfl dX10_brokenBy_53 ?_
  refine lv_iconst (v := 4) hx hb dX10_brokenBy_56 (by decide +kernel) ?_
  refine lv_aload_n hx hb dX10_brokenBy_57 rfl (lv_at hl 0 rfl) ?_
  refine lv_aload_n hx hb dX10_brokenBy_58 rfl (lv_at hl 1 rfl) ?_
  refine lv_iload_n hx hb dX10_brokenBy_59 rfl (lv_at hl 2 rfl) ?_
  refine cz_i (wr := [(p39, .inl (k 0, 7, .inl (upd (upd (upd (upd f71 (0 : Int32).toNatClampNeg 0) (1 : Int32).toNatClampNeg 0) (2 : Int32).toNatClampNeg 0) (3 : Int32).toNatClampNeg 0)))]) (va_runV (As := [.ref p1, .int 0]) (rest := [.int 4, .ref p39]) ⟨hx, hb, hml, hown, hts⟩ (cX10_loadOf_0 l G k p0 p1 v2 v3 v4 v5 v6 v7 v8 v9 v10 v11 v12 v13 (.int 0) v14 v15 v16 v17 v18 v19 v20 v21 v22 v23 v24 v25 v26 v27 v28 v29 v30 v31 v32 v33 v34 v35 v36 v37 v38 (.ref p39) v40 v41 v42 v43 v44 v45 v46 v47 v48 v49 v50 v51 v52 v53 v54 v55 v56 v57 v58 v59 v60 v61 v62 v63 v64 v65 v66 v67 v68 v69 v70 H.size) (cwV 2 hts gX10_brokenBy_X10_loadOf rfl rfl rfl (by decide +kernel) ⟨Nat.le_of_ble_eq_true rfl, Nat.le_of_ble_eq_true rfl⟩) (cz_preV hZ hS hX hP hD [1] rfl rfl (ci := 7) (q0 := 1) rfl rfl) rfl rfl hl.1 rfl (lv_room (Nat.le_of_ble_eq_true rfl)) dX10_brokenBy_60 ⟨Nat.le_of_ble_eq_true rfl, Nat.le_of_ble_eq_true rfl⟩) hP hD hS hA [1] [0] rfl rfl (by decide) (by decide) (fun r u H locs hp hP hD hS => ?_)
  have hp : r = 0 := hp
  subst hp
  refine va_iast hx hb hX.1 hP hD hS 0 0 rfl rfl (by unfold vp_in; decide +kernel) dX10_brokenBy_63 (fun H locs hP hD hS => ?_)
  refine lv_aload_n hx hb dX10_brokenBy_64 rfl (lv_at hl 0 rfl) ?_
  refine va_get (D := G) (ci := 7) (v := .ref p39) (C := RX10) (T := TX10) (N := 71) (ref := RX10) hx hb hts h1w hown hX.1 hP 1 rfl rfl 39 (by decide) h0w (fun _ h9 => h9) rfl dX10_brokenBy_65 ?_
  refine lv_iconst (v := 5) hx hb dX10_brokenBy_68 (by decide +kernel) ?_
  refine lv_aload_n hx hb dX10_brokenBy_69 rfl (lv_at hl 0 rfl) ?_
  refine lv_iload_n hx hb dX10_brokenBy_70 rfl (lv_at hl 2 rfl) ?_
  refine lv_iload_n hx hb dX10_brokenBy_71 rfl (lv_at hl 3 rfl) ?_
  refine cz_i (wr := [(p39, .inl (k 0, 7, .inl (upd (upd (upd (upd (upd f71 (0 : Int32).toNatClampNeg 0) (1 : Int32).toNatClampNeg 0) (2 : Int32).toNatClampNeg 0) (3 : Int32).toNatClampNeg 0) (4 : Int32).toNatClampNeg 0))), (p0, .inr (7, (v2 :: v3 :: v4 :: v5 :: v6 :: v7 :: v8 :: v9 :: v10 :: v11 :: v12 :: v13 :: .int 0 :: .int 0 :: v14 :: v15 :: v16 :: v17 :: v18 :: v19 :: v20 :: v21 :: v22 :: v23 :: v24 :: v25 :: v26 :: v27 :: v28 :: v29 :: v30 :: v31 :: v32 :: v33 :: v34 :: v35 :: v36 :: v37 :: v38 :: .ref p39 :: v40 :: v41 :: v42 :: v43 :: v44 :: v45 :: v46 :: v47 :: v48 :: v49 :: v50 :: v51 :: v52 :: v53 :: v54 :: v55 :: v56 :: v57 :: v58 :: v59 :: v60 :: v61 :: v62 :: v63 :: v64 :: v65 :: v66 :: v67 :: v68 :: v69 :: v70 :: [])))]) (va_runV (As := [.int 0, .int 1]) (rest := [.int 5, .ref p39]) ⟨hx, hb, hml, hown, hts⟩ (cX10_depthOf_2 l G k p0 H.size) (cwV 2 hts gX10_brokenBy_X10_depthOf rfl rfl rfl (by decide +kernel) ⟨Nat.le_of_ble_eq_true rfl, Nat.le_of_ble_eq_true rfl⟩) (cz_preV hZ hS hX hP hD [] rfl rfl (ci := 7) (q0 := 1) rfl rfl) rfl rfl hl.1 rfl (lv_room (Nat.le_of_ble_eq_true rfl)) dX10_brokenBy_72 ⟨Nat.le_of_ble_eq_true rfl, Nat.le_of_ble_eq_true rfl⟩) hP hD hS hA [] [0, 1] rfl rfl (by decide) (by decide) (fun r u H locs hp hP hD hS => ?_)
  have hp : r = 1 := hp
  subst hp
  refine va_iast hx hb hX.1 hP hD hS 0 0 rfl rfl (by unfold vp_in; decide +kernel) dX10_brokenBy_75 (fun H locs hP hD hS => ?_)
  obtain ⟨hP, hD⟩ : va_P G vwCl [(p39, .inl (k 0, 7, .inl (upd (upd (upd (upd (upd (upd f71 (0 : Int32).toNatClampNeg 0) (1 : Int32).toNatClampNeg 0) (2 : Int32).toNatClampNeg 0) (3 : Int32).toNatClampNeg 0) (4 : Int32).toNatClampNeg 0) (5 : Int32).toNatClampNeg 1))), (p0, .inr (7, (v2 :: v3 :: v4 :: v5 :: v6 :: v7 :: v8 :: v9 :: v10 :: v11 :: v12 :: v13 :: .int 0 :: .int 0 :: v14 :: v15 :: v16 :: v17 :: v18 :: v19 :: v20 :: v21 :: v22 :: v23 :: v24 :: v25 :: v26 :: v27 :: v28 :: v29 :: v30 :: v31 :: v32 :: v33 :: v34 :: v35 :: v36 :: v37 :: v38 :: .ref p39 :: v40 :: v41 :: v42 :: v43 :: v44 :: v45 :: v46 :: v47 :: v48 :: v49 :: v50 :: v51 :: v52 :: v53 :: v54 :: v55 :: v56 :: v57 :: v58 :: v59 :: v60 :: v61 :: v62 :: v63 :: v64 :: v65 :: v66 :: v67 :: v68 :: v69 :: v70 :: [])))] H ∧ va_D A [(p39, .inl (k 0, 7, .inl (upd (upd (upd (upd (upd (upd f71 (0 : Int32).toNatClampNeg 0) (1 : Int32).toNatClampNeg 0) (2 : Int32).toNatClampNeg 0) (3 : Int32).toNatClampNeg 0) (4 : Int32).toNatClampNeg 0) (5 : Int32).toNatClampNeg 1))), (p0, .inr (7, (v2 :: v3 :: v4 :: v5 :: v6 :: v7 :: v8 :: v9 :: v10 :: v11 :: v12 :: v13 :: .int 0 :: .int 0 :: v14 :: v15 :: v16 :: v17 :: v18 :: v19 :: v20 :: v21 :: v22 :: v23 :: v24 :: v25 :: v26 :: v27 :: v28 :: v29 :: v30 :: v31 :: v32 :: v33 :: v34 :: v35 :: v36 :: v37 :: v38 :: .ref p39 :: v40 :: v41 :: v42 :: v43 :: v44 :: v45 :: v46 :: v47 :: v48 :: v49 :: v50 :: v51 :: v52 :: v53 :: v54 :: v55 :: v56 :: v57 :: v58 :: v59 :: v60 :: v61 :: v62 :: v63 :: v64 :: v65 :: v66 :: v67 :: v68 :: v69 :: v70 :: [])))] := ⟨hP, hD⟩
  refine lv_aload_n hx hb dX10_brokenBy_76 rfl (lv_at hl 0 rfl) ?_
  refine va_get (D := G) (ci := 7) (v := .ref p39) (C := RX10) (T := TX10) (N := 71) (ref := RX10) hx hb hts h1w hown hX.1 hP 1 rfl rfl 39 (by decide) h0w (fun _ h9 => h9) rfl dX10_brokenBy_77 ?_
  refine lv_bipush (v := 6) hx hb dX10_brokenBy_80 (by decide +kernel) ?_
  refine lv_aload_n hx hb dX10_brokenBy_82 rfl (lv_at hl 0 rfl) ?_
  refine lv_aload_n hx hb dX10_brokenBy_83 rfl (lv_at hl 1 rfl) ?_
  refine lv_iconst (v := 1) hx hb dX10_brokenBy_84 (by decide +kernel) ?_
  refine lv_iload_n hx hb dX10_brokenBy_85 rfl (lv_at hl 2 rfl) ?_
  refine lv_isub hx hb dX10_brokenBy_86 ?_
  refine cz_ti (w := 1) (by decide +kernel) ?_
  refine cz_i (wr := [(p39, .inl (k 0, 7, .inl (upd (upd (upd (upd (upd (upd f71 (0 : Int32).toNatClampNeg 0) (1 : Int32).toNatClampNeg 0) (2 : Int32).toNatClampNeg 0) (3 : Int32).toNatClampNeg 0) (4 : Int32).toNatClampNeg 0) (5 : Int32).toNatClampNeg 1)))]) (va_runV (As := [.ref p1, .int 1]) (rest := [.int 6, .ref p39]) ⟨hx, hb, hml, hown, hts⟩ (cX10_loadOf_1 l G k p0 p1 v2 v3 v4 v5 v6 v7 v8 v9 v10 v11 v12 v13 (.int 0) v14 v15 v16 v17 v18 v19 v20 v21 v22 v23 v24 v25 v26 v27 v28 v29 v30 v31 v32 v33 v34 v35 v36 v37 v38 (.ref p39) v40 v41 v42 v43 v44 v45 v46 v47 v48 v49 v50 v51 v52 v53 v54 v55 v56 v57 v58 v59 v60 v61 v62 v63 v64 v65 v66 v67 v68 v69 v70 H.size) (cwV 2 hts gX10_brokenBy_X10_loadOf rfl rfl rfl (by decide +kernel) ⟨Nat.le_of_ble_eq_true rfl, Nat.le_of_ble_eq_true rfl⟩) (cz_preV hZ hS hX hP hD [1] rfl rfl (ci := 7) (q0 := 1) rfl rfl) rfl rfl hl.1 rfl (lv_room (Nat.le_of_ble_eq_true rfl)) dX10_brokenBy_87 ⟨Nat.le_of_ble_eq_true rfl, Nat.le_of_ble_eq_true rfl⟩) hP hD hS hA [1] [0] rfl rfl (by decide) (by decide) (fun r u H locs hp hP hD hS => ?_)
  have hp : r = 0 := hp
  subst hp
  refine va_iast hx hb hX.1 hP hD hS 0 0 rfl rfl (by unfold vp_in; decide +kernel) dX10_brokenBy_90 (fun H locs hP hD hS => ?_)
  refine lv_iconst (v := 0) hx hb dX10_brokenBy_91 (by decide +kernel) ?_
  refine lv_istore (lv' := [(4, .int 0), (0, .ref p0), (1, .ref p1), (2, .int 0), (3, .int 1)]) hx hb dX10_brokenBy_92 hl (by decide) rfl (fun ls hl => ?_)
  refine lv_iload hx hb dX10_brokenBy_94 (lv_at hl 0 rfl) ?_
  refine lv_aload_n hx hb dX10_brokenBy_96 rfl (lv_at hl 1 rfl) ?_
  refine va_get (D := G) (ci := 7) (v := .int 0) (C := RX10) (T := TX10) (N := 71) (ref := RX10) hx hb hts h1w hown hX.1 hP 1 rfl rfl 13 (by decide) h2w (fun _ h9 => h9) rfl dX10_brokenBy_97 ?_
  refine lv_icmp_ge (tgt := 121) hx hb dX10_brokenBy_100 (by decide) (fun _ => ?_) (fun q => absurd (by decide +kernel) (q))
  refine lv_iconst (v := (-1)) hx hb dX10_brokenBy_121 (by decide +kernel) ?_
  have hP9 := hP.sub (ws' := [(p39, .inl (k 0, 7, .inl (upd (upd (upd (upd (upd (upd (upd f71 (0 : Int32).toNatClampNeg 0) (1 : Int32).toNatClampNeg 0) (2 : Int32).toNatClampNeg 0) (3 : Int32).toNatClampNeg 0) (4 : Int32).toNatClampNeg 0) (5 : Int32).toNatClampNeg 1) (6 : Int32).toNatClampNeg 0))), (p0, .inr (7, (v2 :: v3 :: v4 :: v5 :: v6 :: v7 :: v8 :: v9 :: v10 :: v11 :: v12 :: v13 :: .int 0 :: .int 0 :: v14 :: v15 :: v16 :: v17 :: v18 :: v19 :: v20 :: v21 :: v22 :: v23 :: v24 :: v25 :: v26 :: v27 :: v28 :: v29 :: v30 :: v31 :: v32 :: v33 :: v34 :: v35 :: v36 :: v37 :: v38 :: .ref p39 :: v40 :: v41 :: v42 :: v43 :: v44 :: v45 :: v46 :: v47 :: v48 :: v49 :: v50 :: v51 :: v52 :: v53 :: v54 :: v55 :: v56 :: v57 :: v58 :: v59 :: v60 :: v61 :: v62 :: v63 :: v64 :: v65 :: v66 :: v67 :: v68 :: v69 :: v70 :: [])))]) [0, 1] rfl
  have hD9 := hD.sub (ws' := [(p39, .inl (k 0, 7, .inl (upd (upd (upd (upd (upd (upd (upd f71 (0 : Int32).toNatClampNeg 0) (1 : Int32).toNatClampNeg 0) (2 : Int32).toNatClampNeg 0) (3 : Int32).toNatClampNeg 0) (4 : Int32).toNatClampNeg 0) (5 : Int32).toNatClampNeg 1) (6 : Int32).toNatClampNeg 0))), (p0, .inr (7, (v2 :: v3 :: v4 :: v5 :: v6 :: v7 :: v8 :: v9 :: v10 :: v11 :: v12 :: v13 :: .int 0 :: .int 0 :: v14 :: v15 :: v16 :: v17 :: v18 :: v19 :: v20 :: v21 :: v22 :: v23 :: v24 :: v25 :: v26 :: v27 :: v28 :: v29 :: v30 :: v31 :: v32 :: v33 :: v34 :: v35 :: v36 :: v37 :: v38 :: .ref p39 :: v40 :: v41 :: v42 :: v43 :: v44 :: v45 :: v46 :: v47 :: v48 :: v49 :: v50 :: v51 :: v52 :: v53 :: v54 :: v55 :: v56 :: v57 :: v58 :: v59 :: v60 :: v61 :: v62 :: v63 :: v64 :: v65 :: v66 :: v67 :: v68 :: v69 :: v70 :: [])))]) [0, 1] (by decide) rfl
  exact W.iret (v := (-1)) hx hb hr (fun t ht hW => ⟨⟨(-1), (), rfl, rfl, by rw [ht]; exact hP9, hD9⟩, hS.F ht⟩) hS.2.2 dX10_brokenBy_122

