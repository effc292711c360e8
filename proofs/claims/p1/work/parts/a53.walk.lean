set_option maxHeartbeats 4000000 in
set_option maxRecDepth 100000 in
theorem cX10_sideOf_3 (l : Launch) (G : va_G) (k : Nat → ClassId) (p0 : Nat) (p1 : Nat) (v2 : Value) (v3 : Value) (v4 : Value) (p5 : Nat) (v6 : Value) (v7 : Value) (v8 : Value) (v9 : Value) (v10 : Value) (v11 : Value) (v12 : Value) (v13 : Value) (v14 : Value) (v15 : Value) (v16 : Value) (v17 : Value) (v18 : Value) (v19 : Value) (v20 : Value) (v21 : Value) (v22 : Value) (v23 : Value) (v24 : Value) (v25 : Value) (v26 : Value) (v27 : Value) (v28 : Value) (v29 : Value) (v30 : Value) (v31 : Value) (v32 : Value) (v33 : Value) (v34 : Value) (v35 : Value) (v36 : Value) (v37 : Value) (v38 : Value) (v39 : Value) (v40 : Value) (v41 : Value) (v42 : Value) (v43 : Value) (v44 : Value) (v45 : Value) (v46 : Value) (v47 : Value) (v48 : Value) (v49 : Value) (v50 : Value) (v51 : Value) (v52 : Value) (v53 : Value) (v54 : Value) (v55 : Value) (v56 : Value) (v57 : Value) (v58 : Value) (v59 : Value) (v60 : Value) (v61 : Value) (v62 : Value) (v63 : Value) (v64 : Value) (v65 : Value) (v66 : Value) (v67 : Value) (v68 : Value) (v69 : Value) (v70 : Value) (v71 : Value) (sz : Nat) : CMi l G k yX10_sideOf wsX10_sideOf ({ frames := 1, cells := 0, slots := 0, locals := 24 }) [.ref p0, .ref p1, .int 0, .int 1] sz [(p0, .inr (7, (v2 :: v3 :: v4 :: .ref p5 :: v6 :: v7 :: v8 :: v9 :: v10 :: v11 :: v12 :: v13 :: .int 0 :: v14 :: v15 :: v16 :: v17 :: v18 :: v19 :: v20 :: v21 :: v22 :: v23 :: v24 :: v25 :: v26 :: v27 :: v28 :: v29 :: v30 :: v31 :: v32 :: v33 :: v34 :: v35 :: v36 :: v37 :: v38 :: v39 :: v40 :: v41 :: v42 :: v43 :: v44 :: v45 :: v46 :: v47 :: v48 :: v49 :: v50 :: v51 :: v52 :: v53 :: v54 :: v55 :: v56 :: v57 :: v58 :: v59 :: v60 :: v61 :: v62 :: v63 :: v64 :: v65 :: v66 :: v67 :: v68 :: v69 :: v70 :: v71 :: []))), (p5, .inl (k 0, 14, .inl (upd (upd (upd (upd (upd (upd (upd (fun _ => 0) (0 : Int32).toNatClampNeg 1) (1 : Int32).toNatClampNeg 0) (2 : Int32).toNatClampNeg 99) (3 : Int32).toNatClampNeg 0) (4 : Int32).toNatClampNeg 1) (5 : Int32).toNatClampNeg 20) (6 : Int32).toNatClampNeg 0)))] (fun r (u : Unit) => r = 0) (fun (u : Unit) => [(p5, .inl (k 0, 14, .inl (upd (upd (upd (upd (upd (upd (upd (fun _ => 0) (0 : Int32).toNatClampNeg 1) (1 : Int32).toNatClampNeg 0) (2 : Int32).toNatClampNeg 99) (3 : Int32).toNatClampNeg 0) (4 : Int32).toNatClampNeg 1) (5 : Int32).toNatClampNeg 20) (6 : Int32).toNatClampNeg 0))), (p0, .inr (7, (v2 :: v3 :: v4 :: .ref p5 :: v6 :: v7 :: v8 :: v9 :: v10 :: v11 :: v12 :: v13 :: .int 0 :: v14 :: v15 :: v16 :: v17 :: v18 :: v19 :: v20 :: v21 :: v22 :: v23 :: v24 :: v25 :: v26 :: v27 :: v28 :: v29 :: v30 :: v31 :: v32 :: v33 :: v34 :: v35 :: v36 :: v37 :: v38 :: v39 :: v40 :: v41 :: v42 :: v43 :: v44 :: v45 :: v46 :: v47 :: v48 :: v49 :: v50 :: v51 :: v52 :: v53 :: v54 :: v55 :: v56 :: v57 :: v58 :: v59 :: v60 :: v61 :: v62 :: v63 :: v64 :: v65 :: v66 :: v67 :: v68 :: v69 :: v70 :: v71 :: [])))]) := by
  refine Met.ofW (cc := cX10_sideOf) (maxL := 4) (ret := (some .int)) (by decide) rfl ?_
  intro p e s m args below meth c s₁ B hml hv
  obtain ⟨rfl, hsz, hP, hX, hD0, hZ0⟩ := hv
  have hx := B.exec
  have hb := B.bytes
  have hr := B.returns
  have hts := atoms_spec (ws := wsX10_sideOf) B.pre
  have hown : s.vm.findClass RX10 = some m.cls := findClass_of_methodNamed B.named
  subst hsz
  have hD := hD0.self (sz := s.heap.size)
  have hZ := ZX.up hP hZ0
  generalize hAe : va_A [(p0, .inr (7, (v2 :: v3 :: v4 :: .ref p5 :: v6 :: v7 :: v8 :: v9 :: v10 :: v11 :: v12 :: v13 :: .int 0 :: v14 :: v15 :: v16 :: v17 :: v18 :: v19 :: v20 :: v21 :: v22 :: v23 :: v24 :: v25 :: v26 :: v27 :: v28 :: v29 :: v30 :: v31 :: v32 :: v33 :: v34 :: v35 :: v36 :: v37 :: v38 :: v39 :: v40 :: v41 :: v42 :: v43 :: v44 :: v45 :: v46 :: v47 :: v48 :: v49 :: v50 :: v51 :: v52 :: v53 :: v54 :: v55 :: v56 :: v57 :: v58 :: v59 :: v60 :: v61 :: v62 :: v63 :: v64 :: v65 :: v66 :: v67 :: v68 :: v69 :: v70 :: v71 :: []))), (p5, .inl (k 0, 14, .inl (upd (upd (upd (upd (upd (upd (upd (fun _ => 0) (0 : Int32).toNatClampNeg 1) (1 : Int32).toNatClampNeg 0) (2 : Int32).toNatClampNeg 99) (3 : Int32).toNatClampNeg 0) (4 : Int32).toNatClampNeg 1) (5 : Int32).toNatClampNeg 20) (6 : Int32).toNatClampNeg 0)))] s.heap.size = A at hD hZ ⊢
  have hA : ∀ q : Nat, s.heap.size ≤ q → A q := fun q h => by rw [← hAe]; exact Or.inr h
  have hS : va_S A s.heap s.heap [] := va_S.rf
  have hP : va_P G vwCl [(p0, .inr (7, (v2 :: v3 :: v4 :: .ref p5 :: v6 :: v7 :: v8 :: v9 :: v10 :: v11 :: v12 :: v13 :: .int 0 :: v14 :: v15 :: v16 :: v17 :: v18 :: v19 :: v20 :: v21 :: v22 :: v23 :: v24 :: v25 :: v26 :: v27 :: v28 :: v29 :: v30 :: v31 :: v32 :: v33 :: v34 :: v35 :: v36 :: v37 :: v38 :: v39 :: v40 :: v41 :: v42 :: v43 :: v44 :: v45 :: v46 :: v47 :: v48 :: v49 :: v50 :: v51 :: v52 :: v53 :: v54 :: v55 :: v56 :: v57 :: v58 :: v59 :: v60 :: v61 :: v62 :: v63 :: v64 :: v65 :: v66 :: v67 :: v68 :: v69 :: v70 :: v71 :: []))), (p5, .inl (k 0, 14, .inl (upd (upd (upd (upd (upd (upd (upd (fun _ => 0) (0 : Int32).toNatClampNeg 1) (1 : Int32).toNatClampNeg 0) (2 : Int32).toNatClampNeg 99) (3 : Int32).toNatClampNeg 0) (4 : Int32).toNatClampNeg 1) (5 : Int32).toNatClampNeg 20) (6 : Int32).toNatClampNeg 0)))] s.heap := hP
  have hl := lv_entry ([.ref p0, .ref p1, .int 0, .int 1]) (n := 4) (Nat.le_of_ble_eq_true rfl)
  rw [lg_entry_eq]
  generalize (lg_sl ([.ref p0, .ref p1, .int 0, .int 1]) ++ List.replicate (4 - (lg_sl ([.ref p0, .ref p1, .int 0, .int 1])).length) Slot.unset).toArray = ls at hl ⊢
  have hl : lv_has ls 4 [(0, .ref p0), (1, .ref p1), (2, .int 0), (3, .int 1)] := hl
  have h0w := hts (.fieldLink RX10 54 "RopeTownModel" "rule" "[I") (by decide +kernel)
  have h1w : ∀ w ∈ wsX100, w ∈ wsX10_sideOf := by decide +kernel
  refine lv_aload_n hx hb dX10_sideOf_0 rfl (lv_at hl 0 rfl) ?_
  refine lv_aload_n hx hb dX10_sideOf_1 rfl (lv_at hl 1 rfl) ?_
  refine lv_iload_n hx hb dX10_sideOf_2 rfl (lv_at hl 2 rfl) ?_
  refine cz_i (wr := [(p5, .inl (k 0, 14, .inl (upd (upd (upd (upd (upd (upd (upd (fun _ => 0) (0 : Int32).toNatClampNeg 1) (1 : Int32).toNatClampNeg 0) (2 : Int32).toNatClampNeg 99) (3 : Int32).toNatClampNeg 0) (4 : Int32).toNatClampNeg 1) (5 : Int32).toNatClampNeg 20) (6 : Int32).toNatClampNeg 0)))]) (va_runV (As := [.ref p1, .int 0]) (rest := []) ⟨hx, hb, hml, hown, hts⟩ (cX10_loadOf_0 l G k p0 p1 v2 v3 v4 (.ref p5) v6 v7 v8 v9 v10 v11 v12 v13 v14 v15 v16 v17 v18 v19 v20 v21 v22 v23 v24 v25 v26 v27 v28 v29 v30 v31 v32 v33 v34 v35 v36 v37 v38 v39 v40 v41 v42 v43 v44 v45 v46 v47 v48 v49 v50 v51 v52 v53 v54 v55 v56 v57 v58 v59 v60 v61 v62 v63 v64 v65 v66 v67 v68 v69 v70 v71 s.heap.size) (cwV 2 hts gX10_sideOf_X10_loadOf rfl rfl rfl (by decide +kernel) ⟨Nat.le_of_ble_eq_true rfl, Nat.le_of_ble_eq_true rfl⟩) (cz_preV hZ hS hX hP hD [0] rfl rfl (ci := 7) (q0 := 0) rfl rfl) rfl rfl hl.1 rfl (lv_room (Nat.le_of_ble_eq_true rfl)) dX10_sideOf_3 ⟨Nat.le_of_ble_eq_true rfl, Nat.le_of_ble_eq_true rfl⟩) hP hD hS hA [0] [1] rfl rfl (by decide) (by decide) (fun r u H locs hp hP hD hS => ?_)
  have hp : r = 0 := hp
  subst hp
  refine lv_aload_n hx hb dX10_sideOf_6 rfl (lv_at hl 0 rfl) ?_
  refine va_get (D := G) (ci := 7) (v := .ref p5) (C := RX10) (T := TX10) (N := 71) (ref := RX10) hx hb hts h1w hown hX.1 hP 1 rfl rfl 3 (by decide) h0w (fun _ h9 => h9) rfl dX10_sideOf_7 ?_
  refine lv_iconst (v := 3) hx hb dX10_sideOf_10 (by decide +kernel) ?_
  refine va_iald hx hb hX.1 hP 0 0 rfl rfl (by unfold vp_in; decide +kernel) dX10_sideOf_11 ?_
  refine cz_ti (w := 0) (by rfl) ?_
  refine lv_aload_n hx hb dX10_sideOf_12 rfl (lv_at hl 0 rfl) ?_
  refine lv_iload_n hx hb dX10_sideOf_13 rfl (lv_at hl 2 rfl) ?_
  refine lv_iload_n hx hb dX10_sideOf_14 rfl (lv_at hl 3 rfl) ?_
  refine cz_i (wr := [(p5, .inl (k 0, 14, .inl (upd (upd (upd (upd (upd (upd (upd (fun _ => 0) (0 : Int32).toNatClampNeg 1) (1 : Int32).toNatClampNeg 0) (2 : Int32).toNatClampNeg 99) (3 : Int32).toNatClampNeg 0) (4 : Int32).toNatClampNeg 1) (5 : Int32).toNatClampNeg 20) (6 : Int32).toNatClampNeg 0))), (p0, .inr (7, (v2 :: v3 :: v4 :: .ref p5 :: v6 :: v7 :: v8 :: v9 :: v10 :: v11 :: v12 :: v13 :: .int 0 :: v14 :: v15 :: v16 :: v17 :: v18 :: v19 :: v20 :: v21 :: v22 :: v23 :: v24 :: v25 :: v26 :: v27 :: v28 :: v29 :: v30 :: v31 :: v32 :: v33 :: v34 :: v35 :: v36 :: v37 :: v38 :: v39 :: v40 :: v41 :: v42 :: v43 :: v44 :: v45 :: v46 :: v47 :: v48 :: v49 :: v50 :: v51 :: v52 :: v53 :: v54 :: v55 :: v56 :: v57 :: v58 :: v59 :: v60 :: v61 :: v62 :: v63 :: v64 :: v65 :: v66 :: v67 :: v68 :: v69 :: v70 :: v71 :: [])))]) (va_runV (As := [.int 0, .int 1]) (rest := [.int 0, .int 0]) ⟨hx, hb, hml, hown, hts⟩ (cX10_depthOf_2 l G k p0 H.size) (cwV 2 hts gX10_sideOf_X10_depthOf rfl rfl rfl (by decide +kernel) ⟨Nat.le_of_ble_eq_true rfl, Nat.le_of_ble_eq_true rfl⟩) (cz_preV hZ hS hX hP hD [] rfl rfl (ci := 7) (q0 := 1) rfl rfl) rfl rfl hl.1 rfl (lv_room (Nat.le_of_ble_eq_true rfl)) dX10_sideOf_15 ⟨Nat.le_of_ble_eq_true rfl, Nat.le_of_ble_eq_true rfl⟩) hP hD hS hA [] [0, 1] rfl rfl (by decide) (by decide) (fun r u H locs hp hP hD hS => ?_)
  have hp : r = 1 := hp
  subst hp
  refine lv_imul hx hb dX10_sideOf_18 ?_
  refine cz_ti (w := 0) (by decide +kernel) ?_
  refine lv_iadd hx hb dX10_sideOf_19 ?_
  refine cz_ti (w := 0) (by decide +kernel) ?_
  have hP9 := hP.sub (ws' := [(p5, .inl (k 0, 14, .inl (upd (upd (upd (upd (upd (upd (upd (fun _ => 0) (0 : Int32).toNatClampNeg 1) (1 : Int32).toNatClampNeg 0) (2 : Int32).toNatClampNeg 99) (3 : Int32).toNatClampNeg 0) (4 : Int32).toNatClampNeg 1) (5 : Int32).toNatClampNeg 20) (6 : Int32).toNatClampNeg 0))), (p0, .inr (7, (v2 :: v3 :: v4 :: .ref p5 :: v6 :: v7 :: v8 :: v9 :: v10 :: v11 :: v12 :: v13 :: .int 0 :: v14 :: v15 :: v16 :: v17 :: v18 :: v19 :: v20 :: v21 :: v22 :: v23 :: v24 :: v25 :: v26 :: v27 :: v28 :: v29 :: v30 :: v31 :: v32 :: v33 :: v34 :: v35 :: v36 :: v37 :: v38 :: v39 :: v40 :: v41 :: v42 :: v43 :: v44 :: v45 :: v46 :: v47 :: v48 :: v49 :: v50 :: v51 :: v52 :: v53 :: v54 :: v55 :: v56 :: v57 :: v58 :: v59 :: v60 :: v61 :: v62 :: v63 :: v64 :: v65 :: v66 :: v67 :: v68 :: v69 :: v70 :: v71 :: [])))]) [0, 1] rfl
  have hD9 := hD.sub (ws' := [(p5, .inl (k 0, 14, .inl (upd (upd (upd (upd (upd (upd (upd (fun _ => 0) (0 : Int32).toNatClampNeg 1) (1 : Int32).toNatClampNeg 0) (2 : Int32).toNatClampNeg 99) (3 : Int32).toNatClampNeg 0) (4 : Int32).toNatClampNeg 1) (5 : Int32).toNatClampNeg 20) (6 : Int32).toNatClampNeg 0))), (p0, .inr (7, (v2 :: v3 :: v4 :: .ref p5 :: v6 :: v7 :: v8 :: v9 :: v10 :: v11 :: v12 :: v13 :: .int 0 :: v14 :: v15 :: v16 :: v17 :: v18 :: v19 :: v20 :: v21 :: v22 :: v23 :: v24 :: v25 :: v26 :: v27 :: v28 :: v29 :: v30 :: v31 :: v32 :: v33 :: v34 :: v35 :: v36 :: v37 :: v38 :: v39 :: v40 :: v41 :: v42 :: v43 :: v44 :: v45 :: v46 :: v47 :: v48 :: v49 :: v50 :: v51 :: v52 :: v53 :: v54 :: v55 :: v56 :: v57 :: v58 :: v59 :: v60 :: v61 :: v62 :: v63 :: v64 :: v65 :: v66 :: v67 :: v68 :: v69 :: v70 :: v71 :: [])))]) [0, 1] (by decide) rfl
  exact W.iret (v := 0) hx hb hr (fun t ht hW => ⟨⟨0, (), rfl, rfl, by rw [ht]; exact hP9, hD9⟩, hS.F ht⟩) hS.2.2 dX10_sideOf_20

set_option maxHeartbeats 4000000 in
set_option maxRecDepth 100000 in
theorem cX10_tellRide_1 (l : Launch) (G : va_G) (k : Nat → ClassId) (p0 : Nat) (p1 : Nat) (v2 : Value) (v3 : Value) (v4 : Value) (p5 : Nat) (v6 : Value) (v7 : Value) (v8 : Value) (v9 : Value) (v10 : Value) (v11 : Value) (v12 : Value) (v13 : Value) (v14 : Value) (v15 : Value) (v16 : Value) (v17 : Value) (v18 : Value) (v19 : Value) (v20 : Value) (v21 : Value) (v22 : Value) (v23 : Value) (v24 : Value) (v25 : Value) (v26 : Value) (v27 : Value) (v28 : Value) (v29 : Value) (v30 : Value) (v31 : Value) (v32 : Value) (v33 : Value) (v34 : Value) (v35 : Value) (v36 : Value) (v37 : Value) (v38 : Value) (v39 : Value) (v40 : Value) (v41 : Value) (v42 : Value) (v43 : Value) (v44 : Value) (v45 : Value) (v46 : Value) (v47 : Value) (v48 : Value) (v49 : Value) (v50 : Value) (v51 : Value) (v52 : Value) (v53 : Value) (v54 : Value) (v55 : Value) (v56 : Value) (v57 : Value) (v58 : Value) (v59 : Value) (v60 : Value) (v61 : Value) (v62 : Value) (v63 : Value) (v64 : Value) (v65 : Value) (v66 : Value) (v67 : Value) (v68 : Value) (sz : Nat) : CMv l G k yX10_tellRide wsX10_tellRide ({ frames := 3, cells := 0, slots := 0, locals := 65 }) [.ref p0, .ref p1, .int 1, .int 0] sz [(p0, .inr (7, (v2 :: v3 :: v4 :: .ref p5 :: v6 :: v7 :: v8 :: v9 :: v10 :: v11 :: v12 :: v13 :: .int 0 :: v14 :: v15 :: v16 :: v17 :: v18 :: v19 :: v20 :: v21 :: v22 :: v23 :: v24 :: v25 :: v26 :: v27 :: v28 :: v29 :: v30 :: v31 :: v32 :: v33 :: v34 :: v35 :: v36 :: v37 :: v38 :: v39 :: v40 :: v41 :: .int 0 :: .int 0 :: .int 1 :: v42 :: v43 :: v44 :: v45 :: v46 :: v47 :: v48 :: v49 :: v50 :: v51 :: v52 :: v53 :: v54 :: v55 :: v56 :: v57 :: v58 :: v59 :: v60 :: v61 :: v62 :: v63 :: v64 :: v65 :: v66 :: v67 :: v68 :: []))), (p5, .inl (k 0, 14, .inl (upd (upd (upd (upd (upd (upd (upd (fun _ => 0) (0 : Int32).toNatClampNeg 1) (1 : Int32).toNatClampNeg 0) (2 : Int32).toNatClampNeg 99) (3 : Int32).toNatClampNeg 0) (4 : Int32).toNatClampNeg 1) (5 : Int32).toNatClampNeg 20) (6 : Int32).toNatClampNeg 0)))] (fun (u : Unit) => True) (fun (u : Unit) => [(p5, .inl (k 0, 14, .inl (upd (upd (upd (upd (upd (upd (upd (fun _ => 0) (0 : Int32).toNatClampNeg 1) (1 : Int32).toNatClampNeg 0) (2 : Int32).toNatClampNeg 99) (3 : Int32).toNatClampNeg 0) (4 : Int32).toNatClampNeg 1) (5 : Int32).toNatClampNeg 20) (6 : Int32).toNatClampNeg 0))), (p0, .inr (7, (v2 :: v3 :: v4 :: .ref p5 :: v6 :: v7 :: v8 :: v9 :: v10 :: v11 :: v12 :: v13 :: .int 0 :: v14 :: v15 :: v16 :: v17 :: v18 :: v19 :: v20 :: v21 :: v22 :: v23 :: v24 :: v25 :: v26 :: v27 :: v28 :: v29 :: v30 :: v31 :: v32 :: v33 :: v34 :: v35 :: v36 :: v37 :: v38 :: v39 :: v40 :: v41 :: .int 0 :: .int 0 :: .int 1 :: v42 :: v43 :: v44 :: v45 :: v46 :: v47 :: v48 :: v49 :: v50 :: v51 :: v52 :: v53 :: v54 :: v55 :: v56 :: v57 :: v58 :: v59 :: v60 :: v61 :: v62 :: v63 :: v64 :: v65 :: v66 :: v67 :: v68 :: [])))]) := by
  refine Met.ofW (cc := cX10_tellRide) (maxL := 8) (ret := none) (by decide) rfl ?_
  intro p e s m args below meth c s₁ B hml hv
  obtain ⟨rfl, hsz, hP, hX, hD0, hZ0⟩ := hv
  have hx := B.exec
  have hb := B.bytes
  have hr := B.returns
  have hts := atoms_spec (ws := wsX10_tellRide) B.pre
  have hown : s.vm.findClass RX10 = some m.cls := findClass_of_methodNamed B.named
  subst hsz
  have hD := hD0.self (sz := s.heap.size)
  have hZ := ZX.up hP hZ0
  generalize hAe : va_A [(p0, .inr (7, (v2 :: v3 :: v4 :: .ref p5 :: v6 :: v7 :: v8 :: v9 :: v10 :: v11 :: v12 :: v13 :: .int 0 :: v14 :: v15 :: v16 :: v17 :: v18 :: v19 :: v20 :: v21 :: v22 :: v23 :: v24 :: v25 :: v26 :: v27 :: v28 :: v29 :: v30 :: v31 :: v32 :: v33 :: v34 :: v35 :: v36 :: v37 :: v38 :: v39 :: v40 :: v41 :: .int 0 :: .int 0 :: .int 1 :: v42 :: v43 :: v44 :: v45 :: v46 :: v47 :: v48 :: v49 :: v50 :: v51 :: v52 :: v53 :: v54 :: v55 :: v56 :: v57 :: v58 :: v59 :: v60 :: v61 :: v62 :: v63 :: v64 :: v65 :: v66 :: v67 :: v68 :: []))), (p5, .inl (k 0, 14, .inl (upd (upd (upd (upd (upd (upd (upd (fun _ => 0) (0 : Int32).toNatClampNeg 1) (1 : Int32).toNatClampNeg 0) (2 : Int32).toNatClampNeg 99) (3 : Int32).toNatClampNeg 0) (4 : Int32).toNatClampNeg 1) (5 : Int32).toNatClampNeg 20) (6 : Int32).toNatClampNeg 0)))] s.heap.size = A at hD hZ ⊢
  have hA : ∀ q : Nat, s.heap.size ≤ q → A q := fun q h => by rw [← hAe]; exact Or.inr h
  have hS : va_S A s.heap s.heap [] := va_S.rf
  have hP : va_P G vwCl [(p0, .inr (7, (v2 :: v3 :: v4 :: .ref p5 :: v6 :: v7 :: v8 :: v9 :: v10 :: v11 :: v12 :: v13 :: .int 0 :: v14 :: v15 :: v16 :: v17 :: v18 :: v19 :: v20 :: v21 :: v22 :: v23 :: v24 :: v25 :: v26 :: v27 :: v28 :: v29 :: v30 :: v31 :: v32 :: v33 :: v34 :: v35 :: v36 :: v37 :: v38 :: v39 :: v40 :: v41 :: .int 0 :: .int 0 :: .int 1 :: v42 :: v43 :: v44 :: v45 :: v46 :: v47 :: v48 :: v49 :: v50 :: v51 :: v52 :: v53 :: v54 :: v55 :: v56 :: v57 :: v58 :: v59 :: v60 :: v61 :: v62 :: v63 :: v64 :: v65 :: v66 :: v67 :: v68 :: []))), (p5, .inl (k 0, 14, .inl (upd (upd (upd (upd (upd (upd (upd (fun _ => 0) (0 : Int32).toNatClampNeg 1) (1 : Int32).toNatClampNeg 0) (2 : Int32).toNatClampNeg 99) (3 : Int32).toNatClampNeg 0) (4 : Int32).toNatClampNeg 1) (5 : Int32).toNatClampNeg 20) (6 : Int32).toNatClampNeg 0)))] s.heap := hP
  have hl := lv_entry ([.ref p0, .ref p1, .int 1, .int 0]) (n := 8) (Nat.le_of_ble_eq_true rfl)
  rw [lg_entry_eq]
  generalize (lg_sl ([.ref p0, .ref p1, .int 1, .int 0]) ++ List.replicate (8 - (lg_sl ([.ref p0, .ref p1, .int 1, .int 0])).length) Slot.unset).toArray = ls at hl ⊢
  have hl : lv_has ls 8 [(0, .ref p0), (1, .ref p1), (2, .int 1), (3, .int 0)] := hl
  have h0w := hts (.constant RX10 383 (1000000000)) (by decide +kernel)
  have h1w := hts (.fieldLink RX10 384 "RopeTownModel" "leastExcess" "I") (by decide +kernel)
  have h2w : ∀ w ∈ wsX100, w ∈ wsX10_tellRide := by decide +kernel
  have h3w := hts (.constant RX10 387 (-1000000000)) (by decide +kernel)
  have h4w := hts (.fieldLink RX10 388 "RopeTownModel" "mostExcess" "I") (by decide +kernel)
  have h5w := hts (.fieldLink RX10 391 "RopeTownModel" "wound" "I") (by decide +kernel)
  have h6w := hts (.methodLink RX10 211 Lib.Math.min.name) (by decide +kernel)
  have h7w := hts (.static Lib.Math.min.name) (by decide +kernel)
  have h8w := hts (.initialized "java/lang/Math") (by decide +kernel)
  have h9w := hts (.code Lib.Math.min.name Lib.Math.min.code 2 (some .int)) (by decide +kernel)
  have h10w := hts (.methodLink RX10 394 Lib.Math.max.name) (by decide +kernel)
  have h11w := hts (.static Lib.Math.max.name) (by decide +kernel)
  have h12w := hts (.code Lib.Math.max.name Lib.Math.max.code 2 (some .int)) (by decide +kernel)
  have h13w := hts (.fieldLink RX10 54 "RopeTownModel" "rule" "[I") (by decide +kernel)
  refine lv_aload_n hx hb dX10_tellRide_0 rfl (lv_at hl 0 rfl) ?_
  refine lv_ldcw (v := 1000000000) hx hb hown h0w dX10_tellRide_1 ?_
  refine va_put (D := G) (ci := 7) (v := .int 1000000000) (ty := .int) (C := RX10) (T := TX10) (N := 71) (ref := RX10) hx hb hts h2w tyX10 tyX10_ok nmX10 hown hX.1 hP hD hS 0 rfl rfl 41 (by decide) h1w (fun _ h9 => h9) rfl (by decide +kernel) rfl rfl (Nat.le_of_ble_eq_true rfl) dX10_tellRide_4 (fun H locs hP hD hS => ?_)
  refine lv_aload_n hx hb dX10_tellRide_7 rfl (lv_at hl 0 rfl) ?_
  refine lv_ldcw (v := (-1000000000)) hx hb hown h3w dX10_tellRide_8 ?_
  refine va_put (D := G) (ci := 7) (v := .int (-1000000000)) (ty := .int) (C := RX10) (T := TX10) (N := 71) (ref := RX10) hx hb hts h2w tyX10 tyX10_ok nmX10 hown hX.1 hP hD hS 0 rfl rfl 42 (by decide) h4w (fun _ h9 => h9) rfl (by decide +kernel) rfl rfl (Nat.le_of_ble_eq_true rfl) dX10_tellRide_11 (fun H locs hP hD hS => ?_)
  refine lv_aload_n hx hb dX10_tellRide_14 rfl (lv_at hl 0 rfl) ?_
  refine lv_iconst (v := 0) hx hb dX10_tellRide_15 (by decide +kernel) ?_
  refine va_put (D := G) (ci := 7) (v := .int 0) (ty := .int) (C := RX10) (T := TX10) (N := 71) (ref := RX10) hx hb hts h2w tyX10 tyX10_ok nmX10 hown hX.1 hP hD hS 0 rfl rfl 43 (by decide) h5w (fun _ h9 => h9) rfl (by decide +kernel) rfl rfl (Nat.le_of_ble_eq_true rfl) dX10_tellRide_16 (fun H locs hP hD hS => ?_)
  refine lv_iload_n hx hb dX10_tellRide_19 rfl (lv_at hl 3 rfl) ?_
  refine lv_iload_n hx hb dX10_tellRide_20 rfl (lv_at hl 2 rfl) ?_
  refine lv_icmp_le (tgt := 28) hx hb dX10_tellRide_21 (by decide) (fun _ => ?_) (fun q => absurd (by decide +kernel) (q))
  refine lv_iconst (v := (-1)) hx hb dX10_tellRide_28 (by decide +kernel) ?_
  refine lv_istore (lv' := [(4, .int (-1)), (0, .ref p0), (1, .ref p1), (2, .int 1), (3, .int 0)]) hx hb dX10_tellRide_29 hl (by decide) rfl (fun ls hl => ?_)
  refine lv_iload_n hx hb dX10_tellRide_31 rfl (lv_at hl 4 rfl) ?_
  refine lv_iload_n hx hb dX10_tellRide_32 rfl (lv_at hl 3 rfl) ?_
  refine lv_icmp_le (tgt := 40) hx hb dX10_tellRide_33 (by decide) (fun _ => ?_) (fun q => absurd (by decide +kernel) (q))
  refine lv_iconst (v := 1) hx hb dX10_tellRide_40 (by decide +kernel) ?_
  refine lv_istore (lv' := [(5, .int 1), (4, .int (-1)), (0, .ref p0), (1, .ref p1), (2, .int 1), (3, .int 0)]) hx hb dX10_tellRide_41 hl (by decide) rfl (fun ls hl => ?_)
  refine lv_iload_n hx hb dX10_tellRide_43 rfl (lv_at hl 4 rfl) ?_
  refine lv_istore (lv' := [(6, .int 1), (5, .int 1), (4, .int (-1)), (0, .ref p0), (1, .ref p1), (2, .int 1), (3, .int 0)]) hx hb dX10_tellRide_44 hl (by decide) rfl (fun ls hl => ?_)
  refine lv_iload hx hb dX10_tellRide_46 (lv_at hl 0 rfl) ?_
  refine lv_iload_n hx hb dX10_tellRide_48 rfl (lv_at hl 6 rfl) ?_
  refine lv_icmp_eq (tgt := 155) hx hb dX10_tellRide_49 (by decide) (fun q => absurd (q) (by decide +kernel)) (fun _ => ?_)
  refine lv_aload_n hx hb dX10_tellRide_52 rfl (lv_at hl 3 rfl) ?_
  refine lv_aload_n hx hb dX10_tellRide_53 rfl (lv_at hl 4 rfl) ?_
  refine lv_iload hx hb dX10_tellRide_54 (lv_at hl 1 rfl) ?_
  refine lv_iload hx hb dX10_tellRide_56 (lv_at hl 0 rfl) ?_
  refine cz_i (wr := []) (va_runV (As := [.ref p1, .int 1, .int 1]) (rest := []) ⟨hx, hb, hml, hown, hts⟩ (cX10_sideOf_2 l G k p0 p1 v2 v3 v4 p5 v6 v7 v8 v9 v10 v11 v12 v13 v14 v15 v16 v17 v18 v19 v20 v21 v22 v23 v24 v25 v26 v27 v28 v29 v30 v31 v32 v33 v34 v35 v36 v37 v38 v39 v40 v41 (.int 1000000000) (.int (-1000000000)) (.int 0) v42 v43 v44 v45 v46 v47 v48 v49 v50 v51 v52 v53 v54 v55 v56 v57 v58 v59 v60 v61 v62 v63 v64 v65 v66 v67 v68 H.size) (cwV 3 hts gX10_tellRide_X10_sideOf rfl rfl rfl (by decide +kernel) ⟨Nat.le_of_ble_eq_true rfl, Nat.le_of_ble_eq_true rfl⟩) (cz_preV hZ hS hX hP hD [0, 1] rfl rfl (ci := 7) (q0 := 0) rfl rfl) rfl rfl hl.1 rfl (lv_room (Nat.le_of_ble_eq_true rfl)) dX10_tellRide_58 ⟨Nat.le_of_ble_eq_true rfl, Nat.le_of_ble_eq_true rfl⟩) hP hD hS hA [0, 1] [] rfl rfl (by decide) (by decide) (fun r u H locs hp hP hD hS => ?_)
  have hp : r = 0 := hp
  subst hp
  refine lv_aload_n hx hb dX10_tellRide_61 rfl (lv_at hl 3 rfl) ?_
  refine lv_aload_n hx hb dX10_tellRide_62 rfl (lv_at hl 4 rfl) ?_
  refine lv_iconst (v := 1) hx hb dX10_tellRide_63 (by decide +kernel) ?_
  refine lv_iload hx hb dX10_tellRide_64 (lv_at hl 1 rfl) ?_
  refine lv_isub hx hb dX10_tellRide_66 ?_
  refine cz_ti (w := 0) (by decide +kernel) ?_
  refine lv_iload hx hb dX10_tellRide_67 (lv_at hl 0 rfl) ?_
  refine cz_i (wr := []) (va_runV (As := [.ref p1, .int 0, .int 1]) (rest := [.int 0]) ⟨hx, hb, hml, hown, hts⟩ (cX10_sideOf_3 l G k p0 p1 v2 v3 v4 p5 v6 v7 v8 v9 v10 v11 v12 v13 v14 v15 v16 v17 v18 v19 v20 v21 v22 v23 v24 v25 v26 v27 v28 v29 v30 v31 v32 v33 v34 v35 v36 v37 v38 v39 v40 v41 (.int 1000000000) (.int (-1000000000)) (.int 0) v42 v43 v44 v45 v46 v47 v48 v49 v50 v51 v52 v53 v54 v55 v56 v57 v58 v59 v60 v61 v62 v63 v64 v65 v66 v67 v68 H.size) (cwV 3 hts gX10_tellRide_X10_sideOf rfl rfl rfl (by decide +kernel) ⟨Nat.le_of_ble_eq_true rfl, Nat.le_of_ble_eq_true rfl⟩) (cz_preV hZ hS hX hP hD [0, 1] rfl rfl (ci := 7) (q0 := 0) rfl rfl) rfl rfl hl.1 rfl (lv_room (Nat.le_of_ble_eq_true rfl)) dX10_tellRide_69 ⟨Nat.le_of_ble_eq_true rfl, Nat.le_of_ble_eq_true rfl⟩) hP hD hS hA [0, 1] [] rfl rfl (by decide) (by decide) (fun r u H locs hp hP hD hS => ?_)
  have hp : r = 0 := hp
  subst hp
  refine lv_isub hx hb dX10_tellRide_72 ?_
  refine cz_ti (w := 0) (by decide +kernel) ?_
  refine lv_istore (lv' := [(7, .int 0), (6, .int 1), (5, .int 1), (4, .int (-1)), (0, .ref p0), (1, .ref p1), (2, .int 1), (3, .int 0)]) hx hb dX10_tellRide_73 hl (by decide) rfl (fun ls hl => ?_)
  refine lv_aload_n hx hb dX10_tellRide_75 rfl (lv_at hl 4 rfl) ?_
  refine lv_aload_n hx hb dX10_tellRide_76 rfl (lv_at hl 4 rfl) ?_
  refine va_get (D := G) (ci := 7) (v := .int 1000000000) (C := RX10) (T := TX10) (N := 71) (ref := RX10) hx hb hts h2w hown hX.1 hP 1 rfl rfl 41 (by decide) h1w (fun _ h9 => h9) rfl dX10_tellRide_77 ?_
  refine lv_iload hx hb dX10_tellRide_80 (lv_at hl 0 rfl) ?_
  refine va_mmin hx hb (hml.trans hl.1.symm) hown h6w h7w h8w h9w (Nat.le_of_ble_eq_true rfl) (Nat.le_of_ble_eq_true rfl) (Nat.le_of_ble_eq_true rfl) (Nat.le_of_ble_eq_true rfl) dX10_tellRide_82 ?_
  refine cz_ti (w := 0) (by decide +kernel) ?_
  refine va_put (D := G) (ci := 7) (v := .int 0) (ty := .int) (C := RX10) (T := TX10) (N := 71) (ref := RX10) hx hb hts h2w tyX10 tyX10_ok nmX10 hown hX.1 hP hD hS 1 rfl rfl 41 (by decide) h1w (fun _ h9 => h9) rfl (by decide +kernel) rfl rfl (Nat.le_of_ble_eq_true rfl) dX10_tellRide_85 (fun H locs hP hD hS => ?_)
  obtain ⟨hP, hD⟩ : va_P G vwCl [(p5, .inl (k 0, 14, .inl (upd (upd (upd (upd (upd (upd (upd (fun _ => 0) (0 : Int32).toNatClampNeg 1) (1 : Int32).toNatClampNeg 0) (2 : Int32).toNatClampNeg 99) (3 : Int32).toNatClampNeg 0) (4 : Int32).toNatClampNeg 1) (5 : Int32).toNatClampNeg 20) (6 : Int32).toNatClampNeg 0))), (p0, .inr (7, (v2 :: v3 :: v4 :: .ref p5 :: v6 :: v7 :: v8 :: v9 :: v10 :: v11 :: v12 :: v13 :: .int 0 :: v14 :: v15 :: v16 :: v17 :: v18 :: v19 :: v20 :: v21 :: v22 :: v23 :: v24 :: v25 :: v26 :: v27 :: v28 :: v29 :: v30 :: v31 :: v32 :: v33 :: v34 :: v35 :: v36 :: v37 :: v38 :: v39 :: v40 :: v41 :: .int 0 :: .int (-1000000000) :: .int 0 :: v42 :: v43 :: v44 :: v45 :: v46 :: v47 :: v48 :: v49 :: v50 :: v51 :: v52 :: v53 :: v54 :: v55 :: v56 :: v57 :: v58 :: v59 :: v60 :: v61 :: v62 :: v63 :: v64 :: v65 :: v66 :: v67 :: v68 :: [])))] H ∧ va_D A [(p5, .inl (k 0, 14, .inl (upd (upd (upd (upd (upd (upd (upd (fun _ => 0) (0 : Int32).toNatClampNeg 1) (1 : Int32).toNatClampNeg 0) (2 : Int32).toNatClampNeg 99) (3 : Int32).toNatClampNeg 0) (4 : Int32).toNatClampNeg 1) (5 : Int32).toNatClampNeg 20) (6 : Int32).toNatClampNeg 0))), (p0, .inr (7, (v2 :: v3 :: v4 :: .ref p5 :: v6 :: v7 :: v8 :: v9 :: v10 :: v11 :: v12 :: v13 :: .int 0 :: v14 :: v15 :: v16 :: v17 :: v18 :: v19 :: v20 :: v21 :: v22 :: v23 :: v24 :: v25 :: v26 :: v27 :: v28 :: v29 :: v30 :: v31 :: v32 :: v33 :: v34 :: v35 :: v36 :: v37 :: v38 :: v39 :: v40 :: v41 :: .int 0 :: .int (-1000000000) :: .int 0 :: v42 :: v43 :: v44 :: v45 :: v46 :: v47 :: v48 :: v49 :: v50 :: v51 :: v52 :: v53 :: v54 :: v55 :: v56 :: v57 :: v58 :: v59 :: v60 :: v61 :: v62 :: v63 :: v64 :: v65 :: v66 :: v67 :: v68 :: [])))] := ⟨hP, hD⟩
  refine lv_aload_n hx hb dX10_tellRide_88 rfl (lv_at hl 4 rfl) ?_
  refine lv_aload_n hx hb dX10_tellRide_89 rfl (lv_at hl 4 rfl) ?_
  refine va_get (D := G) (ci := 7) (v := .int (-1000000000)) (C := RX10) (T := TX10) (N := 71) (ref := RX10) hx hb hts h2w hown hX.1 hP 1 rfl rfl 42 (by decide) h4w (fun _ h9 => h9) rfl dX10_tellRide_90 ?_
  refine lv_iload hx hb dX10_tellRide_93 (lv_at hl 0 rfl) ?_
  refine va_mmax hx hb (hml.trans hl.1.symm) hown h10w h11w h8w h12w (Nat.le_of_ble_eq_true rfl) (Nat.le_of_ble_eq_true rfl) (Nat.le_of_ble_eq_true rfl) (Nat.le_of_ble_eq_true rfl) dX10_tellRide_95 ?_
  refine cz_ti (w := 0) (by decide +kernel) ?_
  refine va_put (D := G) (ci := 7) (v := .int 0) (ty := .int) (C := RX10) (T := TX10) (N := 71) (ref := RX10) hx hb hts h2w tyX10 tyX10_ok nmX10 hown hX.1 hP hD hS 1 rfl rfl 42 (by decide) h4w (fun _ h9 => h9) rfl (by decide +kernel) rfl rfl (Nat.le_of_ble_eq_true rfl) dX10_tellRide_98 (fun H locs hP hD hS => ?_)
  refine lv_aload_n hx hb dX10_tellRide_101 rfl (lv_at hl 4 rfl) ?_
  refine lv_dup hx hb dX10_tellRide_102 rfl ?_
  refine va_get (D := G) (ci := 7) (v := .int 0) (C := RX10) (T := TX10) (N := 71) (ref := RX10) hx hb hts h2w hown hX.1 hP 1 rfl rfl 43 (by decide) h5w (fun _ h9 => h9) rfl dX10_tellRide_103 ?_
  refine lv_iconst (v := 0) hx hb dX10_tellRide_106 (by decide +kernel) ?_
  refine lv_aload_n hx hb dX10_tellRide_107 rfl (lv_at hl 4 rfl) ?_
  refine va_get (D := G) (ci := 7) (v := .ref p5) (C := RX10) (T := TX10) (N := 71) (ref := RX10) hx hb hts h2w hown hX.1 hP 1 rfl rfl 3 (by decide) h13w (fun _ h9 => h9) rfl dX10_tellRide_108 ?_
  refine lv_iconst (v := 4) hx hb dX10_tellRide_111 (by decide +kernel) ?_
  refine va_iald hx hb hX.1 hP 0 0 rfl rfl (by unfold vp_in; decide +kernel) dX10_tellRide_112 ?_
  refine cz_ti (w := 1) (by rfl) ?_
  refine lv_iload hx hb dX10_tellRide_113 (lv_at hl 0 rfl) ?_
  refine lv_isub hx hb dX10_tellRide_115 ?_
  refine cz_ti (w := 1) (by decide +kernel) ?_
  refine va_mmax hx hb (hml.trans hl.1.symm) hown h10w h11w h8w h12w (Nat.le_of_ble_eq_true rfl) (Nat.le_of_ble_eq_true rfl) (Nat.le_of_ble_eq_true rfl) (Nat.le_of_ble_eq_true rfl) dX10_tellRide_116 ?_
  refine cz_ti (w := 1) (by decide +kernel) ?_
  refine lv_iconst (v := 0) hx hb dX10_tellRide_119 (by decide +kernel) ?_
  refine lv_iload hx hb dX10_tellRide_120 (lv_at hl 0 rfl) ?_
  refine lv_aload_n hx hb dX10_tellRide_122 rfl (lv_at hl 4 rfl) ?_
  refine va_get (D := G) (ci := 7) (v := .ref p5) (C := RX10) (T := TX10) (N := 71) (ref := RX10) hx hb hts h2w hown hX.1 hP 1 rfl rfl 3 (by decide) h13w (fun _ h9 => h9) rfl dX10_tellRide_123 ?_
  refine lv_iconst (v := 5) hx hb dX10_tellRide_126 (by decide +kernel) ?_
  refine va_iald hx hb hX.1 hP 0 0 rfl rfl (by unfold vp_in; decide +kernel) dX10_tellRide_127 ?_
  refine cz_ti (w := 20) (by rfl) ?_
  refine lv_isub hx hb dX10_tellRide_128 ?_
  refine cz_ti (w := (-20)) (by decide +kernel) ?_
  refine lv_aload_n hx hb dX10_tellRide_129 rfl (lv_at hl 4 rfl) ?_
  refine va_get (D := G) (ci := 7) (v := .ref p5) (C := RX10) (T := TX10) (N := 71) (ref := RX10) hx hb hts h2w hown hX.1 hP 1 rfl rfl 3 (by decide) h13w (fun _ h9 => h9) rfl dX10_tellRide_130 ?_
  refine lv_bipush (v := 6) hx hb dX10_tellRide_133 (by decide +kernel) ?_
  refine va_iald hx hb hX.1 hP 0 0 rfl rfl (by unfold vp_in; decide +kernel) dX10_tellRide_135 ?_
  refine cz_ti (w := 0) (by rfl) ?_
  refine lv_isub hx hb dX10_tellRide_136 ?_
  refine cz_ti (w := (-20)) (by decide +kernel) ?_
  refine va_mmax hx hb (hml.trans hl.1.symm) hown h10w h11w h8w h12w (Nat.le_of_ble_eq_true rfl) (Nat.le_of_ble_eq_true rfl) (Nat.le_of_ble_eq_true rfl) (Nat.le_of_ble_eq_true rfl) dX10_tellRide_137 ?_
  refine cz_ti (w := 0) (by decide +kernel) ?_
  refine lv_iadd hx hb dX10_tellRide_140 ?_
  refine cz_ti (w := 1) (by decide +kernel) ?_
  refine lv_iadd hx hb dX10_tellRide_141 ?_
  refine cz_ti (w := 1) (by decide +kernel) ?_
  refine va_put (D := G) (ci := 7) (v := .int 1) (ty := .int) (C := RX10) (T := TX10) (N := 71) (ref := RX10) hx hb hts h2w tyX10 tyX10_ok nmX10 hown hX.1 hP hD hS 1 rfl rfl 43 (by decide) h5w (fun _ h9 => h9) rfl (by decide +kernel) rfl rfl (Nat.le_of_ble_eq_true rfl) dX10_tellRide_142 (fun H locs hP hD hS => ?_)
  refine lv_iload hx hb dX10_tellRide_145 (lv_at hl 1 rfl) ?_
  refine lv_iload hx hb dX10_tellRide_147 (lv_at hl 3 rfl) ?_
  refine lv_iadd hx hb dX10_tellRide_149 ?_
  refine cz_ti (w := 0) (by decide +kernel) ?_
  refine lv_istore (lv' := [(6, .int 0), (7, .int 0), (5, .int 1), (4, .int (-1)), (0, .ref p0), (1, .ref p1), (2, .int 1), (3, .int 0)]) hx hb dX10_tellRide_150 hl (by decide) rfl (fun ls hl => ?_)
  refine lv_goto (tgt := 46) hx hb dX10_tellRide_152 (by decide) ?_
  refine lv_iload hx hb dX10_tellRide_46 (lv_at hl 0 rfl) ?_
  refine lv_iload_n hx hb dX10_tellRide_48 rfl (lv_at hl 7 rfl) ?_
  refine lv_icmp_eq (tgt := 155) hx hb dX10_tellRide_49 (by decide) (fun _ => ?_) (fun q => absurd (by decide +kernel) (q))
  have hP9 := hP.sub (ws' := [(p5, .inl (k 0, 14, .inl (upd (upd (upd (upd (upd (upd (upd (fun _ => 0) (0 : Int32).toNatClampNeg 1) (1 : Int32).toNatClampNeg 0) (2 : Int32).toNatClampNeg 99) (3 : Int32).toNatClampNeg 0) (4 : Int32).toNatClampNeg 1) (5 : Int32).toNatClampNeg 20) (6 : Int32).toNatClampNeg 0))), (p0, .inr (7, (v2 :: v3 :: v4 :: .ref p5 :: v6 :: v7 :: v8 :: v9 :: v10 :: v11 :: v12 :: v13 :: .int 0 :: v14 :: v15 :: v16 :: v17 :: v18 :: v19 :: v20 :: v21 :: v22 :: v23 :: v24 :: v25 :: v26 :: v27 :: v28 :: v29 :: v30 :: v31 :: v32 :: v33 :: v34 :: v35 :: v36 :: v37 :: v38 :: v39 :: v40 :: v41 :: .int 0 :: .int 0 :: .int 1 :: v42 :: v43 :: v44 :: v45 :: v46 :: v47 :: v48 :: v49 :: v50 :: v51 :: v52 :: v53 :: v54 :: v55 :: v56 :: v57 :: v58 :: v59 :: v60 :: v61 :: v62 :: v63 :: v64 :: v65 :: v66 :: v67 :: v68 :: [])))]) [0, 1] rfl
  have hD9 := hD.sub (ws' := [(p5, .inl (k 0, 14, .inl (upd (upd (upd (upd (upd (upd (upd (fun _ => 0) (0 : Int32).toNatClampNeg 1) (1 : Int32).toNatClampNeg 0) (2 : Int32).toNatClampNeg 99) (3 : Int32).toNatClampNeg 0) (4 : Int32).toNatClampNeg 1) (5 : Int32).toNatClampNeg 20) (6 : Int32).toNatClampNeg 0))), (p0, .inr (7, (v2 :: v3 :: v4 :: .ref p5 :: v6 :: v7 :: v8 :: v9 :: v10 :: v11 :: v12 :: v13 :: .int 0 :: v14 :: v15 :: v16 :: v17 :: v18 :: v19 :: v20 :: v21 :: v22 :: v23 :: v24 :: v25 :: v26 :: v27 :: v28 :: v29 :: v30 :: v31 :: v32 :: v33 :: v34 :: v35 :: v36 :: v37 :: v38 :: v39 :: v40 :: v41 :: .int 0 :: .int 0 :: .int 1 :: v42 :: v43 :: v44 :: v45 :: v46 :: v47 :: v48 :: v49 :: v50 :: v51 :: v52 :: v53 :: v54 :: v55 :: v56 :: v57 :: v58 :: v59 :: v60 :: v61 :: v62 :: v63 :: v64 :: v65 :: v66 :: v67 :: v68 :: [])))]) [0, 1] (by decide) rfl
  exact W.vret hx hb hr (fun t ht hW => ⟨⟨(), rfl, trivial, by rw [ht]; exact hP9, hD9⟩, hS.F ht⟩) hS.2.2 dX10_tellRide_155

set_option maxHeartbeats 4000000 in
set_option maxRecDepth 100000 in
theorem cX10_pack_2 (l : Launch) (G : va_G) (k : Nat → ClassId) (p0 : Nat) (sz : Nat) : CMl l G k yX10_pack wsX10_pack ({ frames := 0, cells := 0, slots := 0, locals := 0 }) [.ref p0, .int 0] sz [(p0, .inl (k 0, 7, .inl (upd (upd (upd (upd (upd (upd (upd (upd (upd (upd (upd (upd (upd (upd (upd (upd (upd (upd (upd (upd (upd (fun _ => 0) (0 : Int32).toNatClampNeg 15) (1 : Int32).toNatClampNeg 15) (2 : Int32).toNatClampNeg 15) (3 : Int32).toNatClampNeg 15) (4 : Int32).toNatClampNeg 15) (5 : Int32).toNatClampNeg 15) (6 : Int32).toNatClampNeg 15) (0 : Int32).toNatClampNeg 15) (1 : Int32).toNatClampNeg 15) (2 : Int32).toNatClampNeg 15) (3 : Int32).toNatClampNeg 15) (4 : Int32).toNatClampNeg 15) (5 : Int32).toNatClampNeg 15) (6 : Int32).toNatClampNeg 15) (0 : Int32).toNatClampNeg 15) (1 : Int32).toNatClampNeg 15) (2 : Int32).toNatClampNeg 15) (3 : Int32).toNatClampNeg 15) (4 : Int32).toNatClampNeg 15) (5 : Int32).toNatClampNeg 15) (6 : Int32).toNatClampNeg 15)))] (fun r (u : Unit) => r = 268435455) (fun (u : Unit) => [(p0, .inl (k 0, 7, .inl (upd (upd (upd (upd (upd (upd (upd (upd (upd (upd (upd (upd (upd (upd (upd (upd (upd (upd (upd (upd (upd (fun _ => 0) (0 : Int32).toNatClampNeg 15) (1 : Int32).toNatClampNeg 15) (2 : Int32).toNatClampNeg 15) (3 : Int32).toNatClampNeg 15) (4 : Int32).toNatClampNeg 15) (5 : Int32).toNatClampNeg 15) (6 : Int32).toNatClampNeg 15) (0 : Int32).toNatClampNeg 15) (1 : Int32).toNatClampNeg 15) (2 : Int32).toNatClampNeg 15) (3 : Int32).toNatClampNeg 15) (4 : Int32).toNatClampNeg 15) (5 : Int32).toNatClampNeg 15) (6 : Int32).toNatClampNeg 15) (0 : Int32).toNatClampNeg 15) (1 : Int32).toNatClampNeg 15) (2 : Int32).toNatClampNeg 15) (3 : Int32).toNatClampNeg 15) (4 : Int32).toNatClampNeg 15) (5 : Int32).toNatClampNeg 15) (6 : Int32).toNatClampNeg 15)))]) := by
  refine Met.ofW (cc := cX10_pack) (maxL := 5) (ret := (some .long)) (by decide) rfl ?_
  intro p e s m args below meth c s₁ B hml hv
  obtain ⟨rfl, hsz, hP, hX, hD0, hZ0⟩ := hv
  have hx := B.exec
  have hb := B.bytes
  have hr := B.returns
  have hts := atoms_spec (ws := wsX10_pack) B.pre
  have hown : s.vm.findClass RX10 = some m.cls := findClass_of_methodNamed B.named
  subst hsz
  have hD := hD0.self (sz := s.heap.size)
  have hZ := ZX.up hP hZ0
  generalize hAe : va_A [(p0, .inl (k 0, 7, .inl (upd (upd (upd (upd (upd (upd (upd (upd (upd (upd (upd (upd (upd (upd (upd (upd (upd (upd (upd (upd (upd (fun _ => 0) (0 : Int32).toNatClampNeg 15) (1 : Int32).toNatClampNeg 15) (2 : Int32).toNatClampNeg 15) (3 : Int32).toNatClampNeg 15) (4 : Int32).toNatClampNeg 15) (5 : Int32).toNatClampNeg 15) (6 : Int32).toNatClampNeg 15) (0 : Int32).toNatClampNeg 15) (1 : Int32).toNatClampNeg 15) (2 : Int32).toNatClampNeg 15) (3 : Int32).toNatClampNeg 15) (4 : Int32).toNatClampNeg 15) (5 : Int32).toNatClampNeg 15) (6 : Int32).toNatClampNeg 15) (0 : Int32).toNatClampNeg 15) (1 : Int32).toNatClampNeg 15) (2 : Int32).toNatClampNeg 15) (3 : Int32).toNatClampNeg 15) (4 : Int32).toNatClampNeg 15) (5 : Int32).toNatClampNeg 15) (6 : Int32).toNatClampNeg 15)))] s.heap.size = A at hD hZ ⊢
  have hA : ∀ q : Nat, s.heap.size ≤ q → A q := fun q h => by rw [← hAe]; exact Or.inr h
  have hS : va_S A s.heap s.heap [] := va_S.rf
  have hP : va_P G vwCl [(p0, .inl (k 0, 7, .inl (upd (upd (upd (upd (upd (upd (upd (upd (upd (upd (upd (upd (upd (upd (upd (upd (upd (upd (upd (upd (upd (fun _ => 0) (0 : Int32).toNatClampNeg 15) (1 : Int32).toNatClampNeg 15) (2 : Int32).toNatClampNeg 15) (3 : Int32).toNatClampNeg 15) (4 : Int32).toNatClampNeg 15) (5 : Int32).toNatClampNeg 15) (6 : Int32).toNatClampNeg 15) (0 : Int32).toNatClampNeg 15) (1 : Int32).toNatClampNeg 15) (2 : Int32).toNatClampNeg 15) (3 : Int32).toNatClampNeg 15) (4 : Int32).toNatClampNeg 15) (5 : Int32).toNatClampNeg 15) (6 : Int32).toNatClampNeg 15) (0 : Int32).toNatClampNeg 15) (1 : Int32).toNatClampNeg 15) (2 : Int32).toNatClampNeg 15) (3 : Int32).toNatClampNeg 15) (4 : Int32).toNatClampNeg 15) (5 : Int32).toNatClampNeg 15) (6 : Int32).toNatClampNeg 15)))] s.heap := hP
  have hl := lv_entry ([.ref p0, .int 0]) (n := 5) (Nat.le_of_ble_eq_true rfl)
  rw [lg_entry_eq]
  generalize (lg_sl ([.ref p0, .int 0]) ++ List.replicate (5 - (lg_sl ([.ref p0, .int 0])).length) Slot.unset).toArray = ls at hl ⊢
  have hl : lv_has ls 5 [(0, .ref p0), (1, .int 0)] := hl
  have h0w := hts (.constantLong RX10 425 (16)) (by decide +kernel)
  refine lv_iload_n hx hb dX10_pack_0 rfl (lv_at hl 1 rfl) ?_
  refine lv_i2l (v := 0) hx hb dX10_pack_1 (by decide +kernel) ?_
  refine lv_lstore_n (lv' := [(2, .long 0), (0, .ref p0), (1, .int 0)]) hx hb dX10_pack_2 rfl hl (by decide) rfl (fun ls hl => ?_)
  refine lv_iconst (v := 0) hx hb dX10_pack_3 (by decide +kernel) ?_
  refine lv_istore (lv' := [(4, .int 0), (2, .long 0), (0, .ref p0), (1, .int 0)]) hx hb dX10_pack_4 hl (by decide) rfl (fun ls hl => ?_)
  refine lv_iload hx hb dX10_pack_6 (lv_at hl 0 rfl) ?_
  refine lv_bipush (v := 7) hx hb dX10_pack_8 (by decide +kernel) ?_
  refine lv_icmp_ge (tgt := 31) hx hb dX10_pack_10 (by decide) (fun q => absurd (q) (by decide +kernel)) (fun _ => ?_)
  refine lv_ldc2 (v := 16) hx hb hown h0w dX10_pack_13 ?_
  refine lv_lload_n hx hb dX10_pack_16 rfl (lv_at hl 1 rfl) ?_
  refine lv_lmul hx hb dX10_pack_17 ?_
  refine cz_tl (w := 0) (by decide +kernel) ?_
  refine lv_aload_n hx hb dX10_pack_18 rfl (lv_at hl 2 rfl) ?_
  refine lv_iload hx hb dX10_pack_19 (lv_at hl 0 rfl) ?_
  refine va_iald hx hb hX.1 hP 0 0 rfl rfl (by unfold vp_in; decide +kernel) dX10_pack_21 ?_
  refine cz_ti (w := 15) (by rfl) ?_
  refine lv_i2l (v := 15) hx hb dX10_pack_22 (by decide +kernel) ?_
  refine lv_ladd hx hb dX10_pack_23 ?_
  refine cz_tl (w := 15) (by decide +kernel) ?_
  refine lv_lstore_n (lv' := [(2, .long 15), (4, .int 0), (0, .ref p0), (1, .int 0)]) hx hb dX10_pack_24 rfl hl (by decide) rfl (fun ls hl => ?_)
  refine lv_iinc (v := 1) (lv' := [(4, .int 1), (2, .long 15), (0, .ref p0), (1, .int 0)]) hx hb dX10_pack_25 hl (k := 1) rfl (by decide +kernel) (by decide) rfl (fun ls hl => ?_)
  refine lv_goto (tgt := 6) hx hb dX10_pack_28 (by decide) ?_
  refine lv_iload hx hb dX10_pack_6 (lv_at hl 0 rfl) ?_
  refine lv_bipush (v := 7) hx hb dX10_pack_8 (by decide +kernel) ?_
  refine lv_icmp_ge (tgt := 31) hx hb dX10_pack_10 (by decide) (fun q => absurd (q) (by decide +kernel)) (fun _ => ?_)
  refine lv_ldc2 (v := 16) hx hb hown h0w dX10_pack_13 ?_
  refine lv_lload_n hx hb dX10_pack_16 rfl (lv_at hl 1 rfl) ?_
  refine lv_lmul hx hb dX10_pack_17 ?_
  refine cz_tl (w := 240) (by decide +kernel) ?_
  refine lv_aload_n hx hb dX10_pack_18 rfl (lv_at hl 2 rfl) ?_
  refine lv_iload hx hb dX10_pack_19 (lv_at hl 0 rfl) ?_
  refine va_iald hx hb hX.1 hP 0 0 rfl rfl (by unfold vp_in; decide +kernel) dX10_pack_21 ?_
  refine cz_ti (w := 15) (by rfl) ?_
  refine lv_i2l (v := 15) hx hb dX10_pack_22 (by decide +kernel) ?_
  refine lv_ladd hx hb dX10_pack_23 ?_
  refine cz_tl (w := 255) (by decide +kernel) ?_
  refine lv_lstore_n (lv' := [(2, .long 255), (4, .int 1), (0, .ref p0), (1, .int 0)]) hx hb dX10_pack_24 rfl hl (by decide) rfl (fun ls hl => ?_)
  refine lv_iinc (v := 2) (lv' := [(4, .int 2), (2, .long 255), (0, .ref p0), (1, .int 0)]) hx hb dX10_pack_25 hl (k := 1) rfl (by decide +kernel) (by decide) rfl (fun ls hl => ?_)
  refine lv_goto (tgt := 6) hx hb dX10_pack_28 (by decide) ?_
  refine lv_iload hx hb dX10_pack_6 (lv_at hl 0 rfl) ?_
  refine lv_bipush (v := 7) hx hb dX10_pack_8 (by decide +kernel) ?_
  refine lv_icmp_ge (tgt := 31) hx hb dX10_pack_10 (by decide) (fun q => absurd (q) (by decide +kernel)) (fun _ => ?_)
  refine lv_ldc2 (v := 16) hx hb hown h0w dX10_pack_13 ?_
  refine lv_lload_n hx hb dX10_pack_16 rfl (lv_at hl 1 rfl) ?_
  refine lv_lmul hx hb dX10_pack_17 ?_
  refine cz_tl (w := 4080) (by decide +kernel) ?_
  refine lv_aload_n hx hb dX10_pack_18 rfl (lv_at hl 2 rfl) ?_
  refine lv_iload hx hb dX10_pack_19 (lv_at hl 0 rfl) ?_
  refine va_iald hx hb hX.1 hP 0 0 rfl rfl (by unfold vp_in; decide +kernel) dX10_pack_21 ?_
  refine cz_ti (w := 15) (by rfl) ?_
  refine lv_i2l (v := 15) hx hb dX10_pack_22 (by decide +kernel) ?_
  refine lv_ladd hx hb dX10_pack_23 ?_
  refine cz_tl (w := 4095) (by decide +kernel) ?_
  refine lv_lstore_n (lv' := [(2, .long 4095), (4, .int 2), (0, .ref p0), (1, .int 0)]) hx hb dX10_pack_24 rfl hl (by decide) rfl (fun ls hl => ?_)
  refine lv_iinc (v := 3) (lv' := [(4, .int 3), (2, .long 4095), (0, .ref p0), (1, .int 0)]) hx hb dX10_pack_25 hl (k := 1) rfl (by decide +kernel) (by decide) rfl (fun ls hl => ?_)
  refine lv_goto (tgt := 6) hx hb dX10_pack_28 (by decide) ?_
  refine lv_iload hx hb dX10_pack_6 (lv_at hl 0 rfl) ?_
  refine lv_bipush (v := 7) hx hb dX10_pack_8 (by decide +kernel) ?_
  refine lv_icmp_ge (tgt := 31) hx hb dX10_pack_10 (by decide) (fun q => absurd (q) (by decide +kernel)) (fun _ => ?_)
  refine lv_ldc2 (v := 16) hx hb hown h0w dX10_pack_13 ?_
  refine lv_lload_n hx hb dX10_pack_16 rfl (lv_at hl 1 rfl) ?_
  refine lv_lmul hx hb dX10_pack_17 ?_
  refine cz_tl (w := 65520) (by decide +kernel) ?_
  refine lv_aload_n hx hb dX10_pack_18 rfl (lv_at hl 2 rfl) ?_
  refine lv_iload hx hb dX10_pack_19 (lv_at hl 0 rfl) ?_
  refine va_iald hx hb hX.1 hP 0 0 rfl rfl (by unfold vp_in; decide +kernel) dX10_pack_21 ?_
  refine cz_ti (w := 15) (by rfl) ?_
  refine lv_i2l (v := 15) hx hb dX10_pack_22 (by decide +kernel) ?_
  refine lv_ladd hx hb dX10_pack_23 ?_
  refine cz_tl (w := 65535) (by decide +kernel) ?_
  refine lv_lstore_n (lv' := [(2, .long 65535), (4, .int 3), (0, .ref p0), (1, .int 0)]) hx hb dX10_pack_24 rfl hl (by decide) rfl (fun ls hl => ?_)
  refine lv_iinc (v := 4) (lv' := [(4, .int 4), (2, .long 65535), (0, .ref p0), (1, .int 0)]) hx hb dX10_pack_25 hl (k := 1) rfl (by decide +kernel) (by decide) rfl (fun ls hl => ?_)
  refine lv_goto (tgt := 6) hx hb dX10_pack_28 (by decide) ?_
  refine lv_iload hx hb dX10_pack_6 (lv_at hl 0 rfl) ?_
  refine lv_bipush (v := 7) hx hb dX10_pack_8 (by decide +kernel) ?_
  refine lv_icmp_ge (tgt := 31) hx hb dX10_pack_10 (by decide) (fun q => absurd (q) (by decide +kernel)) (fun _ => ?_)
  refine lv_ldc2 (v := 16) hx hb hown h0w dX10_pack_13 ?_
  refine lv_lload_n hx hb dX10_pack_16 rfl (lv_at hl 1 rfl) ?_
  refine lv_lmul hx hb dX10_pack_17 ?_
  refine cz_tl (w := 1048560) (by decide +kernel) ?_
  refine lv_aload_n hx hb dX10_pack_18 rfl (lv_at hl 2 rfl) ?_
  refine lv_iload hx hb dX10_pack_19 (lv_at hl 0 rfl) ?_
  refine va_iald hx hb hX.1 hP 0 0 rfl rfl (by unfold vp_in; decide +kernel) dX10_pack_21 ?_
  refine cz_ti (w := 15) (by rfl) ?_
  refine lv_i2l (v := 15) hx hb dX10_pack_22 (by decide +kernel) ?_
  refine lv_ladd hx hb dX10_pack_23 ?_
  refine cz_tl (w := 1048575) (by decide +kernel) ?_
  refine lv_lstore_n (lv' := [(2, .long 1048575), (4, .int 4), (0, .ref p0), (1, .int 0)]) hx hb dX10_pack_24 rfl hl (by decide) rfl (fun ls hl => ?_)
  refine lv_iinc (v := 5) (lv' := [(4, .int 5), (2, .long 1048575), (0, .ref p0), (1, .int 0)]) hx hb dX10_pack_25 hl (k := 1) rfl (by decide +kernel) (by decide) rfl (fun ls hl => ?_)
  refine lv_goto (tgt := 6) hx hb dX10_pack_28 (by decide) ?_
  refine lv_iload hx hb dX10_pack_6 (lv_at hl 0 rfl) ?_
  refine lv_bipush (v := 7) hx hb dX10_pack_8 (by decide +kernel) ?_
  refine lv_icmp_ge (tgt := 31) hx hb dX10_pack_10 (by decide) (fun q => absurd (q) (by decide +kernel)) (fun _ => ?_)
  refine lv_ldc2 (v := 16) hx hb hown h0w dX10_pack_13 ?_
  refine lv_lload_n hx hb dX10_pack_16 rfl (lv_at hl 1 rfl) ?_
  refine lv_lmul hx hb dX10_pack_17 ?_
  refine cz_tl (w := 16777200) (by decide +kernel) ?_
  refine lv_aload_n hx hb dX10_pack_18 rfl (lv_at hl 2 rfl) ?_
  refine lv_iload hx hb dX10_pack_19 (lv_at hl 0 rfl) ?_
  refine va_iald hx hb hX.1 hP 0 0 rfl rfl (by unfold vp_in; decide +kernel) dX10_pack_21 ?_
  refine cz_ti (w := 15) (by rfl) ?_
  refine lv_i2l (v := 15) hx hb dX10_pack_22 (by decide +kernel) ?_
  refine lv_ladd hx hb dX10_pack_23 ?_
  refine cz_tl (w := 16777215) (by decide +kernel) ?_
  refine lv_lstore_n (lv' := [(2, .long 16777215), (4, .int 5), (0, .ref p0), (1, .int 0)]) hx hb dX10_pack_24 rfl hl (by decide) rfl (fun ls hl => ?_)
  refine lv_iinc (v := 6) (lv' := [(4, .int 6), (2, .long 16777215), (0, .ref p0), (1, .int 0)]) hx hb dX10_pack_25 hl (k := 1) rfl (by decide +kernel) (by decide) rfl (fun ls hl => ?_)
  refine lv_goto (tgt := 6) hx hb dX10_pack_28 (by decide) ?_
  refine lv_iload hx hb dX10_pack_6 (lv_at hl 0 rfl) ?_
  refine lv_bipush (v := 7) hx hb dX10_pack_8 (by decide +kernel) ?_
  refine lv_icmp_ge (tgt := 31) hx hb dX10_pack_10 (by decide) (fun q => absurd (q) (by decide +kernel)) (fun _ => ?_)
  refine lv_ldc2 (v := 16) hx hb hown h0w dX10_pack_13 ?_
  refine lv_lload_n hx hb dX10_pack_16 rfl (lv_at hl 1 rfl) ?_
  refine lv_lmul hx hb dX10_pack_17 ?_
  refine cz_tl (w := 268435440) (by decide +kernel) ?_
  refine lv_aload_n hx hb dX10_pack_18 rfl (lv_at hl 2 rfl) ?_
  refine lv_iload hx hb dX10_pack_19 (lv_at hl 0 rfl) ?_
  refine va_iald hx hb hX.1 hP 0 0 rfl rfl (by unfold vp_in; decide +kernel) dX10_pack_21 ?_
  refine cz_ti (w := 15) (by rfl) ?_
  refine lv_i2l (v := 15) hx hb dX10_pack_22 (by decide +kernel) ?_
  refine lv_ladd hx hb dX10_pack_23 ?_
  refine cz_tl (w := 268435455) (by decide +kernel) ?_
  refine lv_lstore_n (lv' := [(2, .long 268435455), (4, .int 6), (0, .ref p0), (1, .int 0)]) hx hb dX10_pack_24 rfl hl (by decide) rfl (fun ls hl => ?_)
  refine lv_iinc (v := 7) (lv' := [(4, .int 7), (2, .long 268435455), (0, .ref p0), (1, .int 0)]) hx hb dX10_pack_25 hl (k := 1) rfl (by decide +kernel) (by decide) rfl (fun ls hl => ?_)
  refine lv_goto (tgt := 6) hx hb dX10_pack_28 (by decide) ?_
  refine lv_iload hx hb dX10_pack_6 (lv_at hl 0 rfl) ?_
  refine lv_bipush (v := 7) hx hb dX10_pack_8 (by decide +kernel) ?_
  refine lv_icmp_ge (tgt := 31) hx hb dX10_pack_10 (by decide) (fun _ => ?_) (fun q => absurd (by decide +kernel) (q))
  refine lv_lload_n hx hb dX10_pack_31 rfl (lv_at hl 1 rfl) ?_
  have hP9 := hP.sub (ws' := [(p0, .inl (k 0, 7, .inl (upd (upd (upd (upd (upd (upd (upd (upd (upd (upd (upd (upd (upd (upd (upd (upd (upd (upd (upd (upd (upd (fun _ => 0) (0 : Int32).toNatClampNeg 15) (1 : Int32).toNatClampNeg 15) (2 : Int32).toNatClampNeg 15) (3 : Int32).toNatClampNeg 15) (4 : Int32).toNatClampNeg 15) (5 : Int32).toNatClampNeg 15) (6 : Int32).toNatClampNeg 15) (0 : Int32).toNatClampNeg 15) (1 : Int32).toNatClampNeg 15) (2 : Int32).toNatClampNeg 15) (3 : Int32).toNatClampNeg 15) (4 : Int32).toNatClampNeg 15) (5 : Int32).toNatClampNeg 15) (6 : Int32).toNatClampNeg 15) (0 : Int32).toNatClampNeg 15) (1 : Int32).toNatClampNeg 15) (2 : Int32).toNatClampNeg 15) (3 : Int32).toNatClampNeg 15) (4 : Int32).toNatClampNeg 15) (5 : Int32).toNatClampNeg 15) (6 : Int32).toNatClampNeg 15)))]) [0] rfl
  have hD9 := hD.sub (ws' := [(p0, .inl (k 0, 7, .inl (upd (upd (upd (upd (upd (upd (upd (upd (upd (upd (upd (upd (upd (upd (upd (upd (upd (upd (upd (upd (upd (fun _ => 0) (0 : Int32).toNatClampNeg 15) (1 : Int32).toNatClampNeg 15) (2 : Int32).toNatClampNeg 15) (3 : Int32).toNatClampNeg 15) (4 : Int32).toNatClampNeg 15) (5 : Int32).toNatClampNeg 15) (6 : Int32).toNatClampNeg 15) (0 : Int32).toNatClampNeg 15) (1 : Int32).toNatClampNeg 15) (2 : Int32).toNatClampNeg 15) (3 : Int32).toNatClampNeg 15) (4 : Int32).toNatClampNeg 15) (5 : Int32).toNatClampNeg 15) (6 : Int32).toNatClampNeg 15) (0 : Int32).toNatClampNeg 15) (1 : Int32).toNatClampNeg 15) (2 : Int32).toNatClampNeg 15) (3 : Int32).toNatClampNeg 15) (4 : Int32).toNatClampNeg 15) (5 : Int32).toNatClampNeg 15) (6 : Int32).toNatClampNeg 15)))]) [0] (by decide) rfl
  exact W.lret (v := 268435455) hx hb hr (fun t ht hW => ⟨⟨268435455, (), rfl, rfl, by rw [ht]; exact hP9, hD9⟩, hS.F ht⟩) hS.2.2 dX10_pack_32

