set_option maxHeartbeats 4000000 in
set_option maxRecDepth 100000 in
theorem cX10_may_2 (l : Launch) (G : va_G) (k : Nat → ClassId) (p0 : Nat) (v1 : Value) (v2 : Value) (v3 : Value) (p4 : Nat) (v5 : Value) (v6 : Value) (v7 : Value) (v8 : Value) (v9 : Value) (v10 : Value) (v11 : Value) (v12 : Value) (v13 : Value) (v14 : Value) (v15 : Value) (v16 : Value) (v17 : Value) (v18 : Value) (v19 : Value) (v20 : Value) (v21 : Value) (v22 : Value) (v23 : Value) (v24 : Value) (v25 : Value) (v26 : Value) (v27 : Value) (v28 : Value) (v29 : Value) (p30 : Nat) (v31 : Value) (v32 : Value) (v33 : Value) (v34 : Value) (v35 : Value) (v36 : Value) (p37 : Nat) (v38 : Value) (v39 : Value) (v40 : Value) (v41 : Value) (v42 : Value) (v43 : Value) (v44 : Value) (v45 : Value) (v46 : Value) (v47 : Value) (v48 : Value) (v49 : Value) (v50 : Value) (v51 : Value) (v52 : Value) (v53 : Value) (v54 : Value) (v55 : Value) (v56 : Value) (v57 : Value) (v58 : Value) (v59 : Value) (v60 : Value) (v61 : Value) (v62 : Value) (v63 : Value) (v64 : Value) (v65 : Value) (f66 : Nat → Int32) (sz : Nat) : CMi l G k yX10_may wsX10_may ({ frames := 4, cells := 0, slots := 0, locals := 92 }) [.ref p0, .int 1] sz [(p0, .inr (7, (v1 :: v2 :: v3 :: .ref p4 :: v5 :: v6 :: v7 :: v8 :: v9 :: v10 :: v11 :: v12 :: .int 0 :: .int 0 :: v13 :: v14 :: v15 :: v16 :: v17 :: v18 :: v19 :: v20 :: v21 :: v22 :: v23 :: v24 :: v25 :: v26 :: .int 0 :: v27 :: v28 :: v29 :: .ref p30 :: v31 :: v32 :: v33 :: v34 :: v35 :: v36 :: .ref p37 :: v38 :: .int 0 :: .int 0 :: .int 0 :: v39 :: v40 :: v41 :: v42 :: v43 :: v44 :: v45 :: v46 :: v47 :: v48 :: v49 :: v50 :: v51 :: v52 :: v53 :: v54 :: v55 :: v56 :: v57 :: v58 :: v59 :: v60 :: v61 :: v62 :: v63 :: v64 :: v65 :: []))), (p4, .inl (k 0, 14, .inl (upd (upd (upd (upd (upd (upd (upd (fun _ => 0) (0 : Int32).toNatClampNeg 1) (1 : Int32).toNatClampNeg 0) (2 : Int32).toNatClampNeg 99) (3 : Int32).toNatClampNeg 0) (4 : Int32).toNatClampNeg 1) (5 : Int32).toNatClampNeg 20) (6 : Int32).toNatClampNeg 0))), (p37, .inl (k 0, 7, .inl f66))] (fun r (u : Unit) => r = 4) (fun (u : Unit) => [(p37, .inl (k 0, 7, .inl (upd (upd (upd (upd (upd (upd (upd (upd (upd (upd (upd (upd (upd (upd f66 (0 : Int32).toNatClampNeg 0) (1 : Int32).toNatClampNeg 0) (2 : Int32).toNatClampNeg 0) (3 : Int32).toNatClampNeg 0) (4 : Int32).toNatClampNeg 0) (5 : Int32).toNatClampNeg 0) (6 : Int32).toNatClampNeg 0) (0 : Int32).toNatClampNeg 0) (1 : Int32).toNatClampNeg 0) (2 : Int32).toNatClampNeg 0) (3 : Int32).toNatClampNeg 0) (4 : Int32).toNatClampNeg 0) (5 : Int32).toNatClampNeg 1) (6 : Int32).toNatClampNeg 0))), (p0, .inr (7, (v1 :: v2 :: .int 0 :: .ref p4 :: v5 :: v6 :: v7 :: v8 :: v9 :: v10 :: v11 :: v12 :: .int 0 :: .int 0 :: v13 :: v14 :: v15 :: v16 :: v17 :: v18 :: v19 :: v20 :: v21 :: v22 :: v23 :: v24 :: v25 :: v26 :: .int 0 :: v27 :: v28 :: v29 :: .ref p30 :: v31 :: v32 :: v33 :: v34 :: v35 :: v36 :: .ref p37 :: v38 :: .int 0 :: .int 0 :: .int 1 :: v39 :: v40 :: v41 :: v42 :: v43 :: v44 :: v45 :: v46 :: v47 :: v48 :: v49 :: v50 :: v51 :: v52 :: v53 :: v54 :: v55 :: v56 :: v57 :: v58 :: v59 :: v60 :: v61 :: v62 :: v63 :: v64 :: v65 :: []))), (p4, .inl (k 0, 14, .inl (upd (upd (upd (upd (upd (upd (upd (fun _ => 0) (0 : Int32).toNatClampNeg 1) (1 : Int32).toNatClampNeg 0) (2 : Int32).toNatClampNeg 99) (3 : Int32).toNatClampNeg 0) (4 : Int32).toNatClampNeg 1) (5 : Int32).toNatClampNeg 20) (6 : Int32).toNatClampNeg 0)))]) := by
  refine Met.ofW (cc := cX10_may) (maxL := 4) (ret := (some .int)) (by decide) rfl ?_
  intro p e s m args below meth c s₁ B hml hv
  obtain ⟨rfl, hsz, hP, hX, hD0, hZ0⟩ := hv
  have hx := B.exec
  have hb := B.bytes
  have hr := B.returns
  have hts := atoms_spec (ws := wsX10_may) B.pre
  have hown : s.vm.findClass RX10 = some m.cls := findClass_of_methodNamed B.named
  subst hsz
  have hD := hD0.self (sz := s.heap.size)
  have hZ := ZX.up hP hZ0
  generalize hAe : va_A [(p0, .inr (7, (v1 :: v2 :: v3 :: .ref p4 :: v5 :: v6 :: v7 :: v8 :: v9 :: v10 :: v11 :: v12 :: .int 0 :: .int 0 :: v13 :: v14 :: v15 :: v16 :: v17 :: v18 :: v19 :: v20 :: v21 :: v22 :: v23 :: v24 :: v25 :: v26 :: .int 0 :: v27 :: v28 :: v29 :: .ref p30 :: v31 :: v32 :: v33 :: v34 :: v35 :: v36 :: .ref p37 :: v38 :: .int 0 :: .int 0 :: .int 0 :: v39 :: v40 :: v41 :: v42 :: v43 :: v44 :: v45 :: v46 :: v47 :: v48 :: v49 :: v50 :: v51 :: v52 :: v53 :: v54 :: v55 :: v56 :: v57 :: v58 :: v59 :: v60 :: v61 :: v62 :: v63 :: v64 :: v65 :: []))), (p4, .inl (k 0, 14, .inl (upd (upd (upd (upd (upd (upd (upd (fun _ => 0) (0 : Int32).toNatClampNeg 1) (1 : Int32).toNatClampNeg 0) (2 : Int32).toNatClampNeg 99) (3 : Int32).toNatClampNeg 0) (4 : Int32).toNatClampNeg 1) (5 : Int32).toNatClampNeg 20) (6 : Int32).toNatClampNeg 0))), (p37, .inl (k 0, 7, .inl f66))] s.heap.size = A at hD hZ ⊢
  have hA : ∀ q : Nat, s.heap.size ≤ q → A q := fun q h => by rw [← hAe]; exact Or.inr h
  have hS : va_S A s.heap s.heap [] := va_S.rf
  have hP : va_P G vwCl [(p0, .inr (7, (v1 :: v2 :: v3 :: .ref p4 :: v5 :: v6 :: v7 :: v8 :: v9 :: v10 :: v11 :: v12 :: .int 0 :: .int 0 :: v13 :: v14 :: v15 :: v16 :: v17 :: v18 :: v19 :: v20 :: v21 :: v22 :: v23 :: v24 :: v25 :: v26 :: .int 0 :: v27 :: v28 :: v29 :: .ref p30 :: v31 :: v32 :: v33 :: v34 :: v35 :: v36 :: .ref p37 :: v38 :: .int 0 :: .int 0 :: .int 0 :: v39 :: v40 :: v41 :: v42 :: v43 :: v44 :: v45 :: v46 :: v47 :: v48 :: v49 :: v50 :: v51 :: v52 :: v53 :: v54 :: v55 :: v56 :: v57 :: v58 :: v59 :: v60 :: v61 :: v62 :: v63 :: v64 :: v65 :: []))), (p4, .inl (k 0, 14, .inl (upd (upd (upd (upd (upd (upd (upd (fun _ => 0) (0 : Int32).toNatClampNeg 1) (1 : Int32).toNatClampNeg 0) (2 : Int32).toNatClampNeg 99) (3 : Int32).toNatClampNeg 0) (4 : Int32).toNatClampNeg 1) (5 : Int32).toNatClampNeg 20) (6 : Int32).toNatClampNeg 0))), (p37, .inl (k 0, 7, .inl f66))] s.heap := hP
  have hl := lv_entry ([.ref p0, .int 1]) (n := 4) (Nat.le_of_ble_eq_true rfl)
  rw [lg_entry_eq]
  generalize (lg_sl ([.ref p0, .int 1]) ++ List.replicate (4 - (lg_sl ([.ref p0, .int 1])).length) Slot.unset).toArray = ls at hl ⊢
  have hl : lv_has ls 4 [(0, .ref p0), (1, .int 1)] := hl
  have h0w := hts (.fieldLink RX10 171 "RopeTownModel" "code" "I") (by decide +kernel)
  have h1w : ∀ w ∈ wsX100, w ∈ wsX10_may := by decide +kernel
  have h2w := hts (.fieldLink RX10 327 "RopeTownModel" "bucket0" "I") (by decide +kernel)
  have h3w := hts (.fieldLink RX10 87 "RopeTownModel" "place" "[I") (by decide +kernel)
  refine lv_aload_n hx hb dX10_may_0 rfl (lv_at hl 0 rfl) ?_
  refine lv_iconst (v := 0) hx hb dX10_may_1 (by decide +kernel) ?_
  refine va_put (D := G) (ci := 7) (v := .int 0) (ty := .int) (C := RX10) (T := TX10) (N := 71) (ref := RX10) hx hb hts h1w tyX10 tyX10_ok nmX10 hown hX.1 hP hD hS 0 rfl rfl 2 (by decide) h0w (fun _ h9 => h9) rfl (by decide +kernel) rfl rfl (Nat.le_of_ble_eq_true rfl) dX10_may_2 (fun H locs hP hD hS => ?_)
  refine lv_iload_n hx hb dX10_may_5 rfl (lv_at hl 1 rfl) ?_
  refine lv_iconst (v := 0) hx hb dX10_may_6 (by decide +kernel) ?_
  refine lv_aload_n hx hb dX10_may_7 rfl (lv_at hl 0 rfl) ?_
  refine cz_i (wr := [(p37, .inl (k 0, 7, .inl f66))]) (va_runV (As := []) (rest := [.int 0, .int 1]) ⟨hx, hb, hml, hown, hts⟩ (cX10_depths_0 l G k p0 v1 v2 (.int 0) p4 v5 v6 v7 v8 v9 v10 v11 v12 (.int 0) (.int 0) v13 v14 v15 v16 v17 v18 v19 v20 v21 v22 v23 v24 v25 v26 (.int 0) v27 v28 v29 (.ref p30) v31 v32 v33 v34 v35 v36 (.ref p37) v38 (.int 0) (.int 0) (.int 0) v39 v40 v41 v42 v43 v44 v45 v46 v47 v48 v49 v50 v51 v52 v53 v54 v55 v56 v57 v58 v59 v60 v61 v62 v63 v64 v65 H.size) (cwV 0 hts gX10_may_X10_depths rfl rfl rfl (by decide +kernel) ⟨Nat.le_of_ble_eq_true rfl, Nat.le_of_ble_eq_true rfl⟩) (cz_preV hZ hS hX hP hD [0, 1] rfl rfl (ci := 7) (q0 := 0) rfl rfl) rfl rfl hl.1 rfl (lv_room (Nat.le_of_ble_eq_true rfl)) dX10_may_8 ⟨Nat.le_of_ble_eq_true rfl, Nat.le_of_ble_eq_true rfl⟩) hP hD hS hA [0, 1] [2] rfl rfl (by decide) (by decide) (fun r u H locs hp hP hD hS => ?_)
  have hp : r = 1 := hp
  subst hp
  refine cz_i (wr := [(p37, .inl (k 0, 7, .inl f66)), (p0, .inr (7, (v1 :: v2 :: .int 0 :: .ref p4 :: v5 :: v6 :: v7 :: v8 :: v9 :: v10 :: v11 :: v12 :: .int 0 :: .int 0 :: v13 :: v14 :: v15 :: v16 :: v17 :: v18 :: v19 :: v20 :: v21 :: v22 :: v23 :: v24 :: v25 :: v26 :: .int 0 :: v27 :: v28 :: v29 :: .ref p30 :: v31 :: v32 :: v33 :: v34 :: v35 :: v36 :: .ref p37 :: v38 :: .int 0 :: .int 0 :: .int 0 :: v39 :: v40 :: v41 :: v42 :: v43 :: v44 :: v45 :: v46 :: v47 :: v48 :: v49 :: v50 :: v51 :: v52 :: v53 :: v54 :: v55 :: v56 :: v57 :: v58 :: v59 :: v60 :: v61 :: v62 :: v63 :: v64 :: v65 :: []))), (p4, .inl (k 0, 14, .inl (upd (upd (upd (upd (upd (upd (upd (fun _ => 0) (0 : Int32).toNatClampNeg 1) (1 : Int32).toNatClampNeg 0) (2 : Int32).toNatClampNeg 99) (3 : Int32).toNatClampNeg 0) (4 : Int32).toNatClampNeg 1) (5 : Int32).toNatClampNeg 20) (6 : Int32).toNatClampNeg 0)))]) (va_runS (As := [.int 1, .int 0, .int 1]) (rest := []) ⟨hx, hb, hml, hown, hts⟩ (cX10_isIn_25 l G k H.size) (cwS 3 hts gX10_may_X10_isIn rfl rfl rfl (by decide +kernel) ⟨Nat.le_of_ble_eq_true rfl, Nat.le_of_ble_eq_true rfl⟩) (cz_preS hZ hS hX hP hD [] rfl rfl) rfl rfl hl.1 rfl (lv_room (Nat.le_of_ble_eq_true rfl)) dX10_may_11 ⟨Nat.le_of_ble_eq_true rfl, Nat.le_of_ble_eq_true rfl⟩) hP hD hS hA [] [0, 1, 2] rfl rfl (by decide) (by decide) (fun r u H locs hp hP hD hS => ?_)
  have hp : r = 1 := hp
  subst hp
  refine lv_if_eq (tgt := 51) hx hb dX10_may_14 (by decide) (fun q => absurd (q) (by decide +kernel)) (fun _ => ?_)
  refine lv_iload_n hx hb dX10_may_17 rfl (lv_at hl 1 rfl) ?_
  refine lv_aload_n hx hb dX10_may_18 rfl (lv_at hl 0 rfl) ?_
  refine va_get (D := G) (ci := 7) (v := .int 0) (C := RX10) (T := TX10) (N := 71) (ref := RX10) hx hb hts h1w hown hX.1 hP 1 rfl rfl 28 (by decide) h2w (fun _ h9 => h9) rfl dX10_may_19 ?_
  refine lv_icmp_eq (tgt := 51) hx hb dX10_may_22 (by decide) (fun q => absurd (q) (by decide +kernel)) (fun _ => ?_)
  refine lv_aload_n hx hb dX10_may_25 rfl (lv_at hl 0 rfl) ?_
  refine lv_aload_n hx hb dX10_may_26 rfl (lv_at hl 0 rfl) ?_
  refine va_get (D := G) (ci := 7) (v := .ref p30) (C := RX10) (T := TX10) (N := 71) (ref := RX10) hx hb hts h1w hown hX.1 hP 1 rfl rfl 32 (by decide) h3w (fun _ h9 => h9) rfl dX10_may_27 ?_
  refine cz_i (wr := [(p37, .inl (k 0, 7, .inl f66))]) (va_runV (As := [.ref p30]) (rest := []) ⟨hx, hb, hml, hown, hts⟩ (cX10_keepsCap_0 l G k p0 p30 v1 v2 (.int 0) p4 v5 v6 v7 v8 v9 v10 v11 v12 (.int 0) v13 v14 v15 v16 v17 v18 v19 v20 v21 v22 v23 v24 v25 v26 (.int 0) v27 v28 v29 (.ref p30) v31 v32 v33 v34 v35 v36 (.ref p37) v38 (.int 0) (.int 0) (.int 0) v39 v40 v41 v42 v43 v44 v45 v46 v47 v48 v49 v50 v51 v52 v53 v54 v55 v56 v57 v58 v59 v60 v61 v62 v63 v64 v65 H.size) (cwV 1 hts gX10_may_X10_keepsCap rfl rfl rfl (by decide +kernel) ⟨Nat.le_of_ble_eq_true rfl, Nat.le_of_ble_eq_true rfl⟩) (cz_preV hZ hS hX hP hD [1, 2] rfl rfl (ci := 7) (q0 := 1) rfl rfl) rfl rfl hl.1 rfl (lv_room (Nat.le_of_ble_eq_true rfl)) dX10_may_30 ⟨Nat.le_of_ble_eq_true rfl, Nat.le_of_ble_eq_true rfl⟩) hP hD hS hA [1, 2] [0] rfl rfl (by decide) (by decide) (fun r u H locs hp hP hD hS => ?_)
  have hp : r = 1 := hp
  subst hp
  refine lv_if_eq (tgt := 51) hx hb dX10_may_33 (by decide) (fun q => absurd (q) (by decide +kernel)) (fun _ => ?_)
  refine lv_aload_n hx hb dX10_may_36 rfl (lv_at hl 0 rfl) ?_
  refine lv_aload_n hx hb dX10_may_37 rfl (lv_at hl 0 rfl) ?_
  refine va_get (D := G) (ci := 7) (v := .ref p30) (C := RX10) (T := TX10) (N := 71) (ref := RX10) hx hb hts h1w hown hX.1 hP 2 rfl rfl 32 (by decide) h3w (fun _ h9 => h9) rfl dX10_may_38 ?_
  refine lv_aload_n hx hb dX10_may_41 rfl (lv_at hl 0 rfl) ?_
  refine va_get (D := G) (ci := 7) (v := .int 0) (C := RX10) (T := TX10) (N := 71) (ref := RX10) hx hb hts h1w hown hX.1 hP 2 rfl rfl 28 (by decide) h2w (fun _ h9 => h9) rfl dX10_may_42 ?_
  refine cz_i (wr := []) (va_runV (As := [.ref p30, .int 0]) (rest := []) ⟨hx, hb, hml, hown, hts⟩ (cX10_keepsRules_0 l G k p0 p30 v1 v2 (.int 0) p4 v5 v6 v7 v8 v9 v10 v11 v12 v13 v14 v15 v16 v17 v18 v19 v20 v21 v22 v23 v24 v25 v26 (.int 0) v27 v28 v29 (.ref p30) v31 v32 v33 v34 v35 v36 p37 v38 (.int 0) (.int 0) (.int 0) v39 v40 v41 v42 v43 v44 v45 v46 v47 v48 v49 v50 v51 v52 v53 v54 v55 v56 v57 v58 v59 v60 v61 v62 v63 v64 v65 f66 H.size) (cwV 2 hts gX10_may_X10_keepsRules rfl rfl rfl (by decide +kernel) ⟨Nat.le_of_ble_eq_true rfl, Nat.le_of_ble_eq_true rfl⟩) (cz_preV hZ hS hX hP hD [2, 0, 1] rfl rfl (ci := 7) (q0 := 2) rfl rfl) rfl rfl hl.1 rfl (lv_room (Nat.le_of_ble_eq_true rfl)) dX10_may_45 ⟨Nat.le_of_ble_eq_true rfl, Nat.le_of_ble_eq_true rfl⟩) hP hD hS hA [2, 0, 1] [] rfl rfl (by decide) (by decide) (fun r u H locs hp hP hD hS => ?_)
  have hp : r = 1 := hp
  subst hp
  refine lv_if_ne (tgt := 53) hx hb dX10_may_48 (by decide) (fun _ => ?_) (fun q => absurd (q) (by decide +kernel))
  refine lv_aload_n hx hb dX10_may_53 rfl (lv_at hl 0 rfl) ?_
  refine lv_aload_n hx hb dX10_may_54 rfl (lv_at hl 0 rfl) ?_
  refine va_get (D := G) (ci := 7) (v := .ref p30) (C := RX10) (T := TX10) (N := 71) (ref := RX10) hx hb hts h1w hown hX.1 hP 2 rfl rfl 32 (by decide) h3w (fun _ h9 => h9) rfl dX10_may_55 ?_
  refine lv_aload_n hx hb dX10_may_58 rfl (lv_at hl 0 rfl) ?_
  refine va_get (D := G) (ci := 7) (v := .int 0) (C := RX10) (T := TX10) (N := 71) (ref := RX10) hx hb hts h1w hown hX.1 hP 2 rfl rfl 28 (by decide) h2w (fun _ h9 => h9) rfl dX10_may_59 ?_
  refine lv_iload_n hx hb dX10_may_62 rfl (lv_at hl 1 rfl) ?_
  refine cz_v (wr := [(p37, .inl (k 0, 7, .inl (upd (upd (upd (upd (upd (upd (upd (upd (upd (upd (upd (upd (upd (upd f66 (0 : Int32).toNatClampNeg 0) (1 : Int32).toNatClampNeg 0) (2 : Int32).toNatClampNeg 0) (3 : Int32).toNatClampNeg 0) (4 : Int32).toNatClampNeg 0) (5 : Int32).toNatClampNeg 0) (6 : Int32).toNatClampNeg 0) (0 : Int32).toNatClampNeg 0) (1 : Int32).toNatClampNeg 0) (2 : Int32).toNatClampNeg 0) (3 : Int32).toNatClampNeg 0) (4 : Int32).toNatClampNeg 0) (5 : Int32).toNatClampNeg 1) (6 : Int32).toNatClampNeg 0)))]) (va_runV (As := [.ref p30, .int 0, .int 1]) (rest := []) ⟨hx, hb, hml, hown, hts⟩ (cX10_tellRide_0 l G k p0 p30 v1 v2 (.int 0) p4 v5 v6 v7 v8 v9 v10 v11 v12 (.int 0) v13 v14 v15 v16 v17 v18 v19 v20 v21 v22 v23 v24 v25 v26 (.int 0) v27 v28 v29 (.ref p30) v31 v32 v33 v34 v35 v36 (.ref p37) v38 v39 v40 v41 v42 v43 v44 v45 v46 v47 v48 v49 v50 v51 v52 v53 v54 v55 v56 v57 v58 v59 v60 v61 v62 v63 v64 v65 H.size) (cwV 3 hts gX10_may_X10_tellRide rfl rfl rfl (by decide +kernel) ⟨Nat.le_of_ble_eq_true rfl, Nat.le_of_ble_eq_true rfl⟩) (cz_preV hZ hS hX hP hD [2, 1] rfl rfl (ci := 7) (q0 := 2) rfl rfl) rfl rfl hl.1 rfl (lv_room (Nat.le_of_ble_eq_true rfl)) dX10_may_63 ⟨Nat.le_of_ble_eq_true rfl, Nat.le_of_ble_eq_true rfl⟩) hP hD hS hA [2, 1] [0] rfl rfl (by decide) (by decide) (fun u H locs hp hP hD hS => ?_)
  obtain ⟨hP, hD⟩ : va_P G vwCl [(p37, .inl (k 0, 7, .inl (upd (upd (upd (upd (upd (upd (upd (upd (upd (upd (upd (upd (upd (upd f66 (0 : Int32).toNatClampNeg 0) (1 : Int32).toNatClampNeg 0) (2 : Int32).toNatClampNeg 0) (3 : Int32).toNatClampNeg 0) (4 : Int32).toNatClampNeg 0) (5 : Int32).toNatClampNeg 0) (6 : Int32).toNatClampNeg 0) (0 : Int32).toNatClampNeg 0) (1 : Int32).toNatClampNeg 0) (2 : Int32).toNatClampNeg 0) (3 : Int32).toNatClampNeg 0) (4 : Int32).toNatClampNeg 0) (5 : Int32).toNatClampNeg 1) (6 : Int32).toNatClampNeg 0))), (p0, .inr (7, (v1 :: v2 :: .int 0 :: .ref p4 :: v5 :: v6 :: v7 :: v8 :: v9 :: v10 :: v11 :: v12 :: .int 0 :: .int 0 :: v13 :: v14 :: v15 :: v16 :: v17 :: v18 :: v19 :: v20 :: v21 :: v22 :: v23 :: v24 :: v25 :: v26 :: .int 0 :: v27 :: v28 :: v29 :: .ref p30 :: v31 :: v32 :: v33 :: v34 :: v35 :: v36 :: .ref p37 :: v38 :: .int 0 :: .int 0 :: .int 1 :: v39 :: v40 :: v41 :: v42 :: v43 :: v44 :: v45 :: v46 :: v47 :: v48 :: v49 :: v50 :: v51 :: v52 :: v53 :: v54 :: v55 :: v56 :: v57 :: v58 :: v59 :: v60 :: v61 :: v62 :: v63 :: v64 :: v65 :: []))), (p4, .inl (k 0, 14, .inl (upd (upd (upd (upd (upd (upd (upd (fun _ => 0) (0 : Int32).toNatClampNeg 1) (1 : Int32).toNatClampNeg 0) (2 : Int32).toNatClampNeg 99) (3 : Int32).toNatClampNeg 0) (4 : Int32).toNatClampNeg 1) (5 : Int32).toNatClampNeg 20) (6 : Int32).toNatClampNeg 0)))] H ∧ va_D A [(p37, .inl (k 0, 7, .inl (upd (upd (upd (upd (upd (upd (upd (upd (upd (upd (upd (upd (upd (upd f66 (0 : Int32).toNatClampNeg 0) (1 : Int32).toNatClampNeg 0) (2 : Int32).toNatClampNeg 0) (3 : Int32).toNatClampNeg 0) (4 : Int32).toNatClampNeg 0) (5 : Int32).toNatClampNeg 0) (6 : Int32).toNatClampNeg 0) (0 : Int32).toNatClampNeg 0) (1 : Int32).toNatClampNeg 0) (2 : Int32).toNatClampNeg 0) (3 : Int32).toNatClampNeg 0) (4 : Int32).toNatClampNeg 0) (5 : Int32).toNatClampNeg 1) (6 : Int32).toNatClampNeg 0))), (p0, .inr (7, (v1 :: v2 :: .int 0 :: .ref p4 :: v5 :: v6 :: v7 :: v8 :: v9 :: v10 :: v11 :: v12 :: .int 0 :: .int 0 :: v13 :: v14 :: v15 :: v16 :: v17 :: v18 :: v19 :: v20 :: v21 :: v22 :: v23 :: v24 :: v25 :: v26 :: .int 0 :: v27 :: v28 :: v29 :: .ref p30 :: v31 :: v32 :: v33 :: v34 :: v35 :: v36 :: .ref p37 :: v38 :: .int 0 :: .int 0 :: .int 1 :: v39 :: v40 :: v41 :: v42 :: v43 :: v44 :: v45 :: v46 :: v47 :: v48 :: v49 :: v50 :: v51 :: v52 :: v53 :: v54 :: v55 :: v56 :: v57 :: v58 :: v59 :: v60 :: v61 :: v62 :: v63 :: v64 :: v65 :: []))), (p4, .inl (k 0, 14, .inl (upd (upd (upd (upd (upd (upd (upd (fun _ => 0) (0 : Int32).toNatClampNeg 1) (1 : Int32).toNatClampNeg 0) (2 : Int32).toNatClampNeg 99) (3 : Int32).toNatClampNeg 0) (4 : Int32).toNatClampNeg 1) (5 : Int32).toNatClampNeg 20) (6 : Int32).toNatClampNeg 0)))] := ⟨hP, hD⟩
  refine lv_iconst (v := 0) hx hb dX10_may_66 (by decide +kernel) ?_
  refine lv_istore_n (lv' := [(2, .int 0), (0, .ref p0), (1, .int 1)]) hx hb dX10_may_67 rfl hl (by decide) rfl (fun ls hl => ?_)
  refine lv_iconst (v := 0) hx hb dX10_may_68 (by decide +kernel) ?_
  refine lv_istore_n (lv' := [(3, .int 0), (2, .int 0), (0, .ref p0), (1, .int 1)]) hx hb dX10_may_69 rfl hl (by decide) rfl (fun ls hl => ?_)
  refine lv_iload_n hx hb dX10_may_70 rfl (lv_at hl 0 rfl) ?_
  refine lv_iconst (v := 2) hx hb dX10_may_71 (by decide +kernel) ?_
  refine lv_icmp_gt (tgt := 99) hx hb dX10_may_72 (by decide) (fun q => absurd (q) (by decide +kernel)) (fun _ => ?_)
  refine lv_iload_n hx hb dX10_may_75 rfl (lv_at hl 1 rfl) ?_
  refine lv_aload_n hx hb dX10_may_76 rfl (lv_at hl 2 rfl) ?_
  refine lv_iload_n hx hb dX10_may_77 rfl (lv_at hl 0 rfl) ?_
  refine cz_i (wr := [(p37, .inl (k 0, 7, .inl (upd (upd (upd (upd (upd (upd (upd (upd (upd (upd (upd (upd (upd (upd f66 (0 : Int32).toNatClampNeg 0) (1 : Int32).toNatClampNeg 0) (2 : Int32).toNatClampNeg 0) (3 : Int32).toNatClampNeg 0) (4 : Int32).toNatClampNeg 0) (5 : Int32).toNatClampNeg 0) (6 : Int32).toNatClampNeg 0) (0 : Int32).toNatClampNeg 0) (1 : Int32).toNatClampNeg 0) (2 : Int32).toNatClampNeg 0) (3 : Int32).toNatClampNeg 0) (4 : Int32).toNatClampNeg 0) (5 : Int32).toNatClampNeg 1) (6 : Int32).toNatClampNeg 0)))]) (va_runV (As := [.int 0]) (rest := [.int 0]) ⟨hx, hb, hml, hown, hts⟩ (cX10_swing_0 l G k p0 v1 v2 (.int 0) p4 v5 v6 v7 v8 v9 v10 v11 v12 (.int 0) (.int 0) v13 v14 v15 v16 v17 v18 v19 v20 v21 v22 v23 v24 v25 v26 (.int 0) v27 v28 v29 (.ref p30) v31 v32 v33 v34 v35 v36 (.ref p37) v38 (.int 0) (.int 1) v39 v40 v41 v42 v43 v44 v45 v46 v47 v48 v49 v50 v51 v52 v53 v54 v55 v56 v57 v58 v59 v60 v61 v62 v63 v64 v65 H.size) (cwV 1 hts gX10_may_X10_swing rfl rfl rfl (by decide +kernel) ⟨Nat.le_of_ble_eq_true rfl, Nat.le_of_ble_eq_true rfl⟩) (cz_preV hZ hS hX hP hD [1, 2] rfl rfl (ci := 7) (q0 := 1) rfl rfl) rfl rfl hl.1 rfl (lv_room (Nat.le_of_ble_eq_true rfl)) dX10_may_78 ⟨Nat.le_of_ble_eq_true rfl, Nat.le_of_ble_eq_true rfl⟩) hP hD hS hA [1, 2] [0] rfl rfl (by decide) (by decide) (fun r u H locs hp hP hD hS => ?_)
  have hp : r = 6 := hp
  subst hp
  refine lv_if_ne (tgt := 90) hx hb dX10_may_81 (by decide) (fun _ => ?_) (fun q => absurd (q) (by decide +kernel))
  refine lv_iconst (v := 0) hx hb dX10_may_90 (by decide +kernel) ?_
  refine lv_ior hx hb dX10_may_91 ?_
  refine cz_ti (w := 0) (by decide +kernel) ?_
  refine lv_istore_n (lv' := [(2, .int 0), (3, .int 0), (0, .ref p0), (1, .int 1)]) hx hb dX10_may_92 rfl hl (by decide) rfl (fun ls hl => ?_)
  refine lv_iinc (v := 1) (lv' := [(3, .int 1), (2, .int 0), (0, .ref p0), (1, .int 1)]) hx hb dX10_may_93 hl (k := 1) rfl (by decide +kernel) (by decide) rfl (fun ls hl => ?_)
  refine lv_goto (tgt := 70) hx hb dX10_may_96 (by decide) ?_
  refine lv_iload_n hx hb dX10_may_70 rfl (lv_at hl 0 rfl) ?_
  refine lv_iconst (v := 2) hx hb dX10_may_71 (by decide +kernel) ?_
  refine lv_icmp_gt (tgt := 99) hx hb dX10_may_72 (by decide) (fun q => absurd (q) (by decide +kernel)) (fun _ => ?_)
  refine lv_iload_n hx hb dX10_may_75 rfl (lv_at hl 1 rfl) ?_
  refine lv_aload_n hx hb dX10_may_76 rfl (lv_at hl 2 rfl) ?_
  refine lv_iload_n hx hb dX10_may_77 rfl (lv_at hl 0 rfl) ?_
  refine cz_i (wr := [(p37, .inl (k 0, 7, .inl (upd (upd (upd (upd (upd (upd (upd (upd (upd (upd (upd (upd (upd (upd f66 (0 : Int32).toNatClampNeg 0) (1 : Int32).toNatClampNeg 0) (2 : Int32).toNatClampNeg 0) (3 : Int32).toNatClampNeg 0) (4 : Int32).toNatClampNeg 0) (5 : Int32).toNatClampNeg 0) (6 : Int32).toNatClampNeg 0) (0 : Int32).toNatClampNeg 0) (1 : Int32).toNatClampNeg 0) (2 : Int32).toNatClampNeg 0) (3 : Int32).toNatClampNeg 0) (4 : Int32).toNatClampNeg 0) (5 : Int32).toNatClampNeg 1) (6 : Int32).toNatClampNeg 0)))]) (va_runV (As := [.int 1]) (rest := [.int 0]) ⟨hx, hb, hml, hown, hts⟩ (cX10_swing_1 l G k p0 v1 v2 (.int 0) p4 v5 v6 v7 v8 v9 v10 v11 v12 (.int 0) (.int 0) v13 v14 v15 v16 v17 v18 v19 v20 v21 v22 v23 v24 v25 v26 (.int 0) v27 v28 v29 (.ref p30) v31 v32 v33 v34 v35 v36 (.ref p37) v38 (.int 0) (.int 1) v39 v40 v41 v42 v43 v44 v45 v46 v47 v48 v49 v50 v51 v52 v53 v54 v55 v56 v57 v58 v59 v60 v61 v62 v63 v64 v65 H.size) (cwV 1 hts gX10_may_X10_swing rfl rfl rfl (by decide +kernel) ⟨Nat.le_of_ble_eq_true rfl, Nat.le_of_ble_eq_true rfl⟩) (cz_preV hZ hS hX hP hD [1, 2] rfl rfl (ci := 7) (q0 := 1) rfl rfl) rfl rfl hl.1 rfl (lv_room (Nat.le_of_ble_eq_true rfl)) dX10_may_78 ⟨Nat.le_of_ble_eq_true rfl, Nat.le_of_ble_eq_true rfl⟩) hP hD hS hA [1, 2] [0] rfl rfl (by decide) (by decide) (fun r u H locs hp hP hD hS => ?_)
  have hp : r = 6 := hp
  subst hp
  refine lv_if_ne (tgt := 90) hx hb dX10_may_81 (by decide) (fun _ => ?_) (fun q => absurd (q) (by decide +kernel))
  refine lv_iconst (v := 0) hx hb dX10_may_90 (by decide +kernel) ?_
  refine lv_ior hx hb dX10_may_91 ?_
  refine cz_ti (w := 0) (by decide +kernel) ?_
  refine lv_istore_n (lv' := [(2, .int 0), (3, .int 1), (0, .ref p0), (1, .int 1)]) hx hb dX10_may_92 rfl hl (by decide) rfl (fun ls hl => ?_)
  refine lv_iinc (v := 2) (lv' := [(3, .int 2), (2, .int 0), (0, .ref p0), (1, .int 1)]) hx hb dX10_may_93 hl (k := 1) rfl (by decide +kernel) (by decide) rfl (fun ls hl => ?_)
  refine lv_goto (tgt := 70) hx hb dX10_may_96 (by decide) ?_
  refine lv_iload_n hx hb dX10_may_70 rfl (lv_at hl 0 rfl) ?_
  refine lv_iconst (v := 2) hx hb dX10_may_71 (by decide +kernel) ?_
  refine lv_icmp_gt (tgt := 99) hx hb dX10_may_72 (by decide) (fun q => absurd (q) (by decide +kernel)) (fun _ => ?_)
  refine lv_iload_n hx hb dX10_may_75 rfl (lv_at hl 1 rfl) ?_
  refine lv_aload_n hx hb dX10_may_76 rfl (lv_at hl 2 rfl) ?_
  refine lv_iload_n hx hb dX10_may_77 rfl (lv_at hl 0 rfl) ?_
  refine cz_i (wr := [(p37, .inl (k 0, 7, .inl (upd (upd (upd (upd (upd (upd (upd (upd (upd (upd (upd (upd (upd (upd f66 (0 : Int32).toNatClampNeg 0) (1 : Int32).toNatClampNeg 0) (2 : Int32).toNatClampNeg 0) (3 : Int32).toNatClampNeg 0) (4 : Int32).toNatClampNeg 0) (5 : Int32).toNatClampNeg 0) (6 : Int32).toNatClampNeg 0) (0 : Int32).toNatClampNeg 0) (1 : Int32).toNatClampNeg 0) (2 : Int32).toNatClampNeg 0) (3 : Int32).toNatClampNeg 0) (4 : Int32).toNatClampNeg 0) (5 : Int32).toNatClampNeg 1) (6 : Int32).toNatClampNeg 0))), (p0, .inr (7, (v1 :: v2 :: .int 0 :: .ref p4 :: v5 :: v6 :: v7 :: v8 :: v9 :: v10 :: v11 :: v12 :: .int 0 :: .int 0 :: v13 :: v14 :: v15 :: v16 :: v17 :: v18 :: v19 :: v20 :: v21 :: v22 :: v23 :: v24 :: v25 :: v26 :: .int 0 :: v27 :: v28 :: v29 :: .ref p30 :: v31 :: v32 :: v33 :: v34 :: v35 :: v36 :: .ref p37 :: v38 :: .int 0 :: .int 0 :: .int 1 :: v39 :: v40 :: v41 :: v42 :: v43 :: v44 :: v45 :: v46 :: v47 :: v48 :: v49 :: v50 :: v51 :: v52 :: v53 :: v54 :: v55 :: v56 :: v57 :: v58 :: v59 :: v60 :: v61 :: v62 :: v63 :: v64 :: v65 :: []))), (p4, .inl (k 0, 14, .inl (upd (upd (upd (upd (upd (upd (upd (fun _ => 0) (0 : Int32).toNatClampNeg 1) (1 : Int32).toNatClampNeg 0) (2 : Int32).toNatClampNeg 99) (3 : Int32).toNatClampNeg 0) (4 : Int32).toNatClampNeg 1) (5 : Int32).toNatClampNeg 20) (6 : Int32).toNatClampNeg 0)))]) (va_runV (As := [.int 2]) (rest := [.int 0]) ⟨hx, hb, hml, hown, hts⟩ (cX10_swing_2 l G k p0 H.size) (cwV 1 hts gX10_may_X10_swing rfl rfl rfl (by decide +kernel) ⟨Nat.le_of_ble_eq_true rfl, Nat.le_of_ble_eq_true rfl⟩) (cz_preV hZ hS hX hP hD [] rfl rfl (ci := 7) (q0 := 1) rfl rfl) rfl rfl hl.1 rfl (lv_room (Nat.le_of_ble_eq_true rfl)) dX10_may_78 ⟨Nat.le_of_ble_eq_true rfl, Nat.le_of_ble_eq_true rfl⟩) hP hD hS hA [] [0, 1, 2] rfl rfl (by decide) (by decide) (fun r u H locs hp hP hD hS => ?_)
  have hp : r = 0 := hp
  subst hp
  refine lv_if_ne (tgt := 90) hx hb dX10_may_81 (by decide) (fun q => absurd (by decide +kernel) (q)) (fun _ => ?_)
  refine lv_iconst (v := 1) hx hb dX10_may_84 (by decide +kernel) ?_
  refine lv_iload_n hx hb dX10_may_85 rfl (lv_at hl 0 rfl) ?_
  refine lv_ishl hx hb dX10_may_86 ?_
  refine cz_ti (w := 4) (by decide +kernel) ?_
  refine lv_goto (tgt := 91) hx hb dX10_may_87 (by decide) ?_
  refine lv_ior hx hb dX10_may_91 ?_
  refine cz_ti (w := 4) (by decide +kernel) ?_
  refine lv_istore_n (lv' := [(2, .int 4), (3, .int 2), (0, .ref p0), (1, .int 1)]) hx hb dX10_may_92 rfl hl (by decide) rfl (fun ls hl => ?_)
  refine lv_iinc (v := 3) (lv' := [(3, .int 3), (2, .int 4), (0, .ref p0), (1, .int 1)]) hx hb dX10_may_93 hl (k := 1) rfl (by decide +kernel) (by decide) rfl (fun ls hl => ?_)
  refine lv_goto (tgt := 70) hx hb dX10_may_96 (by decide) ?_
  refine lv_iload_n hx hb dX10_may_70 rfl (lv_at hl 0 rfl) ?_
  refine lv_iconst (v := 2) hx hb dX10_may_71 (by decide +kernel) ?_
  refine lv_icmp_gt (tgt := 99) hx hb dX10_may_72 (by decide) (fun _ => ?_) (fun q => absurd (by decide +kernel) (q))
  refine lv_iload_n hx hb dX10_may_99 rfl (lv_at hl 1 rfl) ?_
  have hP9 := hP.sub (ws' := [(p37, .inl (k 0, 7, .inl (upd (upd (upd (upd (upd (upd (upd (upd (upd (upd (upd (upd (upd (upd f66 (0 : Int32).toNatClampNeg 0) (1 : Int32).toNatClampNeg 0) (2 : Int32).toNatClampNeg 0) (3 : Int32).toNatClampNeg 0) (4 : Int32).toNatClampNeg 0) (5 : Int32).toNatClampNeg 0) (6 : Int32).toNatClampNeg 0) (0 : Int32).toNatClampNeg 0) (1 : Int32).toNatClampNeg 0) (2 : Int32).toNatClampNeg 0) (3 : Int32).toNatClampNeg 0) (4 : Int32).toNatClampNeg 0) (5 : Int32).toNatClampNeg 1) (6 : Int32).toNatClampNeg 0))), (p0, .inr (7, (v1 :: v2 :: .int 0 :: .ref p4 :: v5 :: v6 :: v7 :: v8 :: v9 :: v10 :: v11 :: v12 :: .int 0 :: .int 0 :: v13 :: v14 :: v15 :: v16 :: v17 :: v18 :: v19 :: v20 :: v21 :: v22 :: v23 :: v24 :: v25 :: v26 :: .int 0 :: v27 :: v28 :: v29 :: .ref p30 :: v31 :: v32 :: v33 :: v34 :: v35 :: v36 :: .ref p37 :: v38 :: .int 0 :: .int 0 :: .int 1 :: v39 :: v40 :: v41 :: v42 :: v43 :: v44 :: v45 :: v46 :: v47 :: v48 :: v49 :: v50 :: v51 :: v52 :: v53 :: v54 :: v55 :: v56 :: v57 :: v58 :: v59 :: v60 :: v61 :: v62 :: v63 :: v64 :: v65 :: []))), (p4, .inl (k 0, 14, .inl (upd (upd (upd (upd (upd (upd (upd (fun _ => 0) (0 : Int32).toNatClampNeg 1) (1 : Int32).toNatClampNeg 0) (2 : Int32).toNatClampNeg 99) (3 : Int32).toNatClampNeg 0) (4 : Int32).toNatClampNeg 1) (5 : Int32).toNatClampNeg 20) (6 : Int32).toNatClampNeg 0)))]) [0, 1, 2] rfl
  have hD9 := hD.sub (ws' := [(p37, .inl (k 0, 7, .inl (upd (upd (upd (upd (upd (upd (upd (upd (upd (upd (upd (upd (upd (upd f66 (0 : Int32).toNatClampNeg 0) (1 : Int32).toNatClampNeg 0) (2 : Int32).toNatClampNeg 0) (3 : Int32).toNatClampNeg 0) (4 : Int32).toNatClampNeg 0) (5 : Int32).toNatClampNeg 0) (6 : Int32).toNatClampNeg 0) (0 : Int32).toNatClampNeg 0) (1 : Int32).toNatClampNeg 0) (2 : Int32).toNatClampNeg 0) (3 : Int32).toNatClampNeg 0) (4 : Int32).toNatClampNeg 0) (5 : Int32).toNatClampNeg 1) (6 : Int32).toNatClampNeg 0))), (p0, .inr (7, (v1 :: v2 :: .int 0 :: .ref p4 :: v5 :: v6 :: v7 :: v8 :: v9 :: v10 :: v11 :: v12 :: .int 0 :: .int 0 :: v13 :: v14 :: v15 :: v16 :: v17 :: v18 :: v19 :: v20 :: v21 :: v22 :: v23 :: v24 :: v25 :: v26 :: .int 0 :: v27 :: v28 :: v29 :: .ref p30 :: v31 :: v32 :: v33 :: v34 :: v35 :: v36 :: .ref p37 :: v38 :: .int 0 :: .int 0 :: .int 1 :: v39 :: v40 :: v41 :: v42 :: v43 :: v44 :: v45 :: v46 :: v47 :: v48 :: v49 :: v50 :: v51 :: v52 :: v53 :: v54 :: v55 :: v56 :: v57 :: v58 :: v59 :: v60 :: v61 :: v62 :: v63 :: v64 :: v65 :: []))), (p4, .inl (k 0, 14, .inl (upd (upd (upd (upd (upd (upd (upd (fun _ => 0) (0 : Int32).toNatClampNeg 1) (1 : Int32).toNatClampNeg 0) (2 : Int32).toNatClampNeg 99) (3 : Int32).toNatClampNeg 0) (4 : Int32).toNatClampNeg 1) (5 : Int32).toNatClampNeg 20) (6 : Int32).toNatClampNeg 0)))]) [0, 1, 2] (by decide) rfl
  exact W.iret (v := 4) hx hb hr (fun t ht hW => ⟨⟨4, (), rfl, rfl, by rw [ht]; exact hP9, hD9⟩, hS.F ht⟩) hS.2.2 dX10_may_100

set_option maxHeartbeats 4000000 in
set_option maxRecDepth 100000 in
theorem cX10_may_3 (l : Launch) (G : va_G) (k : Nat → ClassId) (p0 : Nat) (i1 : Int32) (v2 : Value) (v3 : Value) (v4 : Value) (p5 : Nat) (v6 : Value) (v7 : Value) (v8 : Value) (v9 : Value) (v10 : Value) (v11 : Value) (v12 : Value) (v13 : Value) (v14 : Value) (v15 : Value) (v16 : Value) (v17 : Value) (v18 : Value) (v19 : Value) (v20 : Value) (v21 : Value) (v22 : Value) (v23 : Value) (v24 : Value) (v25 : Value) (v26 : Value) (v27 : Value) (v28 : Value) (v29 : Value) (v30 : Value) (v31 : Value) (v32 : Value) (v33 : Value) (v34 : Value) (v35 : Value) (v36 : Value) (v37 : Value) (v38 : Value) (v39 : Value) (v40 : Value) (v41 : Value) (v42 : Value) (v43 : Value) (v44 : Value) (v45 : Value) (v46 : Value) (v47 : Value) (v48 : Value) (v49 : Value) (v50 : Value) (v51 : Value) (v52 : Value) (v53 : Value) (v54 : Value) (v55 : Value) (v56 : Value) (v57 : Value) (v58 : Value) (v59 : Value) (v60 : Value) (v61 : Value) (v62 : Value) (v63 : Value) (v64 : Value) (v65 : Value) (v66 : Value) (v67 : Value) (v68 : Value) (v69 : Value) (v70 : Value) (v71 : Value) (v72 : Value) (sz : Nat) (hi1 : 1 < i1) : CMi l G k yX10_may wsX10_may ({ frames := 1, cells := 0, slots := 0, locals := 22 }) [.ref p0, .int i1] sz [(p0, .inr (7, (v2 :: v3 :: v4 :: .ref p5 :: v6 :: v7 :: v8 :: v9 :: v10 :: v11 :: v12 :: v13 :: v14 :: v15 :: v16 :: v17 :: v18 :: v19 :: v20 :: v21 :: v22 :: v23 :: v24 :: v25 :: v26 :: v27 :: v28 :: v29 :: v30 :: v31 :: v32 :: v33 :: v34 :: v35 :: v36 :: v37 :: v38 :: v39 :: v40 :: v41 :: v42 :: v43 :: v44 :: v45 :: v46 :: v47 :: v48 :: v49 :: v50 :: v51 :: v52 :: v53 :: v54 :: v55 :: v56 :: v57 :: v58 :: v59 :: v60 :: v61 :: v62 :: v63 :: v64 :: v65 :: v66 :: v67 :: v68 :: v69 :: v70 :: v71 :: v72 :: []))), (p5, .inl (k 0, 14, .inl (upd (upd (upd (upd (upd (upd (upd (fun _ => 0) (0 : Int32).toNatClampNeg 1) (1 : Int32).toNatClampNeg 0) (2 : Int32).toNatClampNeg 99) (3 : Int32).toNatClampNeg 0) (4 : Int32).toNatClampNeg 1) (5 : Int32).toNatClampNeg 20) (6 : Int32).toNatClampNeg 0)))] (fun r (u : Unit) => r = 0) (fun (u : Unit) => [(p0, .inr (7, (v2 :: v3 :: .int 0 :: .ref p5 :: v6 :: v7 :: v8 :: v9 :: v10 :: v11 :: v12 :: v13 :: v14 :: v15 :: v16 :: v17 :: v18 :: v19 :: v20 :: v21 :: v22 :: v23 :: v24 :: v25 :: v26 :: v27 :: v28 :: v29 :: v30 :: v31 :: v32 :: v33 :: v34 :: v35 :: v36 :: v37 :: v38 :: v39 :: v40 :: v41 :: v42 :: v43 :: v44 :: v45 :: v46 :: v47 :: v48 :: v49 :: v50 :: v51 :: v52 :: v53 :: v54 :: v55 :: v56 :: v57 :: v58 :: v59 :: v60 :: v61 :: v62 :: v63 :: v64 :: v65 :: v66 :: v67 :: v68 :: v69 :: v70 :: v71 :: v72 :: []))), (p5, .inl (k 0, 14, .inl (upd (upd (upd (upd (upd (upd (upd (fun _ => 0) (0 : Int32).toNatClampNeg 1) (1 : Int32).toNatClampNeg 0) (2 : Int32).toNatClampNeg 99) (3 : Int32).toNatClampNeg 0) (4 : Int32).toNatClampNeg 1) (5 : Int32).toNatClampNeg 20) (6 : Int32).toNatClampNeg 0)))]) := by
  refine Met.ofW (cc := cX10_may) (maxL := 4) (ret := (some .int)) (by decide) rfl ?_
  intro p e s m args below meth c s₁ B hml hv
  obtain ⟨rfl, hsz, hP, hX, hD0, hZ0⟩ := hv
  have hx := B.exec
  have hb := B.bytes
  have hr := B.returns
  have hts := atoms_spec (ws := wsX10_may) B.pre
  have hown : s.vm.findClass RX10 = some m.cls := findClass_of_methodNamed B.named
  subst hsz
  have hD := hD0.self (sz := s.heap.size)
  have hZ := ZX.up hP hZ0
  generalize hAe : va_A [(p0, .inr (7, (v2 :: v3 :: v4 :: .ref p5 :: v6 :: v7 :: v8 :: v9 :: v10 :: v11 :: v12 :: v13 :: v14 :: v15 :: v16 :: v17 :: v18 :: v19 :: v20 :: v21 :: v22 :: v23 :: v24 :: v25 :: v26 :: v27 :: v28 :: v29 :: v30 :: v31 :: v32 :: v33 :: v34 :: v35 :: v36 :: v37 :: v38 :: v39 :: v40 :: v41 :: v42 :: v43 :: v44 :: v45 :: v46 :: v47 :: v48 :: v49 :: v50 :: v51 :: v52 :: v53 :: v54 :: v55 :: v56 :: v57 :: v58 :: v59 :: v60 :: v61 :: v62 :: v63 :: v64 :: v65 :: v66 :: v67 :: v68 :: v69 :: v70 :: v71 :: v72 :: []))), (p5, .inl (k 0, 14, .inl (upd (upd (upd (upd (upd (upd (upd (fun _ => 0) (0 : Int32).toNatClampNeg 1) (1 : Int32).toNatClampNeg 0) (2 : Int32).toNatClampNeg 99) (3 : Int32).toNatClampNeg 0) (4 : Int32).toNatClampNeg 1) (5 : Int32).toNatClampNeg 20) (6 : Int32).toNatClampNeg 0)))] s.heap.size = A at hD hZ ⊢
  have hA : ∀ q : Nat, s.heap.size ≤ q → A q := fun q h => by rw [← hAe]; exact Or.inr h
  have hS : va_S A s.heap s.heap [] := va_S.rf
  have hP : va_P G vwCl [(p0, .inr (7, (v2 :: v3 :: v4 :: .ref p5 :: v6 :: v7 :: v8 :: v9 :: v10 :: v11 :: v12 :: v13 :: v14 :: v15 :: v16 :: v17 :: v18 :: v19 :: v20 :: v21 :: v22 :: v23 :: v24 :: v25 :: v26 :: v27 :: v28 :: v29 :: v30 :: v31 :: v32 :: v33 :: v34 :: v35 :: v36 :: v37 :: v38 :: v39 :: v40 :: v41 :: v42 :: v43 :: v44 :: v45 :: v46 :: v47 :: v48 :: v49 :: v50 :: v51 :: v52 :: v53 :: v54 :: v55 :: v56 :: v57 :: v58 :: v59 :: v60 :: v61 :: v62 :: v63 :: v64 :: v65 :: v66 :: v67 :: v68 :: v69 :: v70 :: v71 :: v72 :: []))), (p5, .inl (k 0, 14, .inl (upd (upd (upd (upd (upd (upd (upd (fun _ => 0) (0 : Int32).toNatClampNeg 1) (1 : Int32).toNatClampNeg 0) (2 : Int32).toNatClampNeg 99) (3 : Int32).toNatClampNeg 0) (4 : Int32).toNatClampNeg 1) (5 : Int32).toNatClampNeg 20) (6 : Int32).toNatClampNeg 0)))] s.heap := hP
  have hl := lv_entry ([.ref p0, .int i1]) (n := 4) (Nat.le_of_ble_eq_true rfl)
  rw [lg_entry_eq]
  generalize (lg_sl ([.ref p0, .int i1]) ++ List.replicate (4 - (lg_sl ([.ref p0, .int i1])).length) Slot.unset).toArray = ls at hl ⊢
  have hl : lv_has ls 4 [(0, .ref p0), (1, .int i1)] := hl
  have h0w := hts (.fieldLink RX10 171 "RopeTownModel" "code" "I") (by decide +kernel)
  have h1w : ∀ w ∈ wsX100, w ∈ wsX10_may := by decide +kernel
  refine lv_aload_n hx hb dX10_may_0 rfl (lv_at hl 0 rfl) ?_
  refine lv_iconst (v := 0) hx hb dX10_may_1 (by decide +kernel) ?_
  refine va_put (D := G) (ci := 7) (v := .int 0) (ty := .int) (C := RX10) (T := TX10) (N := 71) (ref := RX10) hx hb hts h1w tyX10 tyX10_ok nmX10 hown hX.1 hP hD hS 0 rfl rfl 2 (by decide) h0w (fun _ h9 => h9) rfl (by decide +kernel) rfl rfl (Nat.le_of_ble_eq_true rfl) dX10_may_2 (fun H locs hP hD hS => ?_)
  refine lv_iload_n hx hb dX10_may_5 rfl (lv_at hl 1 rfl) ?_
  refine lv_iconst (v := 0) hx hb dX10_may_6 (by decide +kernel) ?_
  refine lv_aload_n hx hb dX10_may_7 rfl (lv_at hl 0 rfl) ?_
  refine cz_i (wr := []) (va_runV (As := []) (rest := [.int 0, .int i1]) ⟨hx, hb, hml, hown, hts⟩ (cX10_depths_0 l G k p0 v2 v3 (.int 0) p5 v6 v7 v8 v9 v10 v11 v12 v13 v14 v15 v16 v17 v18 v19 v20 v21 v22 v23 v24 v25 v26 v27 v28 v29 v30 v31 v32 v33 v34 v35 v36 v37 v38 v39 v40 v41 v42 v43 v44 v45 v46 v47 v48 v49 v50 v51 v52 v53 v54 v55 v56 v57 v58 v59 v60 v61 v62 v63 v64 v65 v66 v67 v68 v69 v70 v71 v72 H.size) (cwV 0 hts gX10_may_X10_depths rfl rfl rfl (by decide +kernel) ⟨Nat.le_of_ble_eq_true rfl, Nat.le_of_ble_eq_true rfl⟩) (cz_preV hZ hS hX hP hD [0, 1] rfl rfl (ci := 7) (q0 := 0) rfl rfl) rfl rfl hl.1 rfl (lv_room (Nat.le_of_ble_eq_true rfl)) dX10_may_8 ⟨Nat.le_of_ble_eq_true rfl, Nat.le_of_ble_eq_true rfl⟩) hP hD hS hA [0, 1] [] rfl rfl (by decide) (by decide) (fun r u H locs hp hP hD hS => ?_)
  have hp : r = 1 := hp
  subst hp
  refine cz_i (wr := [(p0, .inr (7, (v2 :: v3 :: .int 0 :: .ref p5 :: v6 :: v7 :: v8 :: v9 :: v10 :: v11 :: v12 :: v13 :: v14 :: v15 :: v16 :: v17 :: v18 :: v19 :: v20 :: v21 :: v22 :: v23 :: v24 :: v25 :: v26 :: v27 :: v28 :: v29 :: v30 :: v31 :: v32 :: v33 :: v34 :: v35 :: v36 :: v37 :: v38 :: v39 :: v40 :: v41 :: v42 :: v43 :: v44 :: v45 :: v46 :: v47 :: v48 :: v49 :: v50 :: v51 :: v52 :: v53 :: v54 :: v55 :: v56 :: v57 :: v58 :: v59 :: v60 :: v61 :: v62 :: v63 :: v64 :: v65 :: v66 :: v67 :: v68 :: v69 :: v70 :: v71 :: v72 :: []))), (p5, .inl (k 0, 14, .inl (upd (upd (upd (upd (upd (upd (upd (fun _ => 0) (0 : Int32).toNatClampNeg 1) (1 : Int32).toNatClampNeg 0) (2 : Int32).toNatClampNeg 99) (3 : Int32).toNatClampNeg 0) (4 : Int32).toNatClampNeg 1) (5 : Int32).toNatClampNeg 20) (6 : Int32).toNatClampNeg 0)))]) (va_runS (As := [.int i1, .int 0, .int 1]) (rest := []) ⟨hx, hb, hml, hown, hts⟩ (cX10_isIn_23 l G k i1 H.size hi1) (cwS 3 hts gX10_may_X10_isIn rfl rfl rfl (by decide +kernel) ⟨Nat.le_of_ble_eq_true rfl, Nat.le_of_ble_eq_true rfl⟩) (cz_preS hZ hS hX hP hD [] rfl rfl) rfl rfl hl.1 rfl (lv_room (Nat.le_of_ble_eq_true rfl)) dX10_may_11 ⟨Nat.le_of_ble_eq_true rfl, Nat.le_of_ble_eq_true rfl⟩) hP hD hS hA [] [0, 1] rfl rfl (by decide) (by decide) (fun r u H locs hp hP hD hS => ?_)
  have hp : r = 0 := hp
  subst hp
  refine lv_if_eq (tgt := 51) hx hb dX10_may_14 (by decide) (fun _ => ?_) (fun q => absurd (by decide +kernel) (q))
  refine lv_iconst (v := 0) hx hb dX10_may_51 (by decide +kernel) ?_
  have hP9 := hP.sub (ws' := [(p0, .inr (7, (v2 :: v3 :: .int 0 :: .ref p5 :: v6 :: v7 :: v8 :: v9 :: v10 :: v11 :: v12 :: v13 :: v14 :: v15 :: v16 :: v17 :: v18 :: v19 :: v20 :: v21 :: v22 :: v23 :: v24 :: v25 :: v26 :: v27 :: v28 :: v29 :: v30 :: v31 :: v32 :: v33 :: v34 :: v35 :: v36 :: v37 :: v38 :: v39 :: v40 :: v41 :: v42 :: v43 :: v44 :: v45 :: v46 :: v47 :: v48 :: v49 :: v50 :: v51 :: v52 :: v53 :: v54 :: v55 :: v56 :: v57 :: v58 :: v59 :: v60 :: v61 :: v62 :: v63 :: v64 :: v65 :: v66 :: v67 :: v68 :: v69 :: v70 :: v71 :: v72 :: []))), (p5, .inl (k 0, 14, .inl (upd (upd (upd (upd (upd (upd (upd (fun _ => 0) (0 : Int32).toNatClampNeg 1) (1 : Int32).toNatClampNeg 0) (2 : Int32).toNatClampNeg 99) (3 : Int32).toNatClampNeg 0) (4 : Int32).toNatClampNeg 1) (5 : Int32).toNatClampNeg 20) (6 : Int32).toNatClampNeg 0)))]) [0, 1] rfl
  have hD9 := hD.sub (ws' := [(p0, .inr (7, (v2 :: v3 :: .int 0 :: .ref p5 :: v6 :: v7 :: v8 :: v9 :: v10 :: v11 :: v12 :: v13 :: v14 :: v15 :: v16 :: v17 :: v18 :: v19 :: v20 :: v21 :: v22 :: v23 :: v24 :: v25 :: v26 :: v27 :: v28 :: v29 :: v30 :: v31 :: v32 :: v33 :: v34 :: v35 :: v36 :: v37 :: v38 :: v39 :: v40 :: v41 :: v42 :: v43 :: v44 :: v45 :: v46 :: v47 :: v48 :: v49 :: v50 :: v51 :: v52 :: v53 :: v54 :: v55 :: v56 :: v57 :: v58 :: v59 :: v60 :: v61 :: v62 :: v63 :: v64 :: v65 :: v66 :: v67 :: v68 :: v69 :: v70 :: v71 :: v72 :: []))), (p5, .inl (k 0, 14, .inl (upd (upd (upd (upd (upd (upd (upd (fun _ => 0) (0 : Int32).toNatClampNeg 1) (1 : Int32).toNatClampNeg 0) (2 : Int32).toNatClampNeg 99) (3 : Int32).toNatClampNeg 0) (4 : Int32).toNatClampNeg 1) (5 : Int32).toNatClampNeg 20) (6 : Int32).toNatClampNeg 0)))]) [0, 1] (by decide) rfl
  exact W.iret (v := 0) hx hb hr (fun t ht hW => ⟨⟨0, (), rfl, rfl, by rw [ht]; exact hP9, hD9⟩, hS.F ht⟩) hS.2.2 dX10_may_52

set_option maxHeartbeats 4000000 in
set_option maxRecDepth 100000 in
theorem cX10_undo_0 (l : Launch) (G : va_G) (k : Nat → ClassId) (p0 : Nat) (v1 : Value) (v2 : Value) (v3 : Value) (v4 : Value) (v5 : Value) (v6 : Value) (v7 : Value) (v8 : Value) (v9 : Value) (v10 : Value) (v11 : Value) (v12 : Value) (v13 : Value) (v14 : Value) (v15 : Value) (v16 : Value) (v17 : Value) (v18 : Value) (v19 : Value) (v20 : Value) (v21 : Value) (v22 : Value) (v23 : Value) (v24 : Value) (v25 : Value) (v26 : Value) (v27 : Value) (v28 : Value) (v29 : Value) (v30 : Value) (v31 : Value) (v32 : Value) (v33 : Value) (v34 : Value) (v35 : Value) (v36 : Value) (v37 : Value) (v38 : Value) (v39 : Value) (v40 : Value) (v41 : Value) (v42 : Value) (v43 : Value) (v44 : Value) (v45 : Value) (v46 : Value) (v47 : Value) (v48 : Value) (v49 : Value) (v50 : Value) (v51 : Value) (v52 : Value) (v53 : Value) (v54 : Value) (v55 : Value) (v56 : Value) (v57 : Value) (v58 : Value) (v59 : Value) (v60 : Value) (v61 : Value) (v62 : Value) (v63 : Value) (v64 : Value) (v65 : Value) (v66 : Value) (v67 : Value) (v68 : Value) (v69 : Value) (v70 : Value) (sz : Nat) : CMi l G k yX10_undo wsX10_undo ({ frames := 0, cells := 0, slots := 0, locals := 0 }) [.ref p0] sz [(p0, .inr (7, (v1 :: v2 :: v3 :: v4 :: v5 :: v6 :: v7 :: v8 :: v9 :: v10 :: v11 :: v12 :: v13 :: v14 :: v15 :: v16 :: v17 :: v18 :: v19 :: v20 :: v21 :: v22 :: v23 :: v24 :: v25 :: v26 :: v27 :: v28 :: v29 :: .int 0 :: v30 :: v31 :: v32 :: v33 :: v34 :: v35 :: v36 :: v37 :: v38 :: v39 :: v40 :: v41 :: v42 :: v43 :: v44 :: v45 :: v46 :: v47 :: v48 :: v49 :: v50 :: v51 :: v52 :: v53 :: v54 :: v55 :: v56 :: v57 :: v58 :: v59 :: v60 :: v61 :: v62 :: v63 :: v64 :: v65 :: v66 :: v67 :: v68 :: v69 :: v70 :: [])))] (fun r (u : Unit) => r = (-1)) (fun (u : Unit) => [(p0, .inr (7, (v1 :: v2 :: .int 0 :: v4 :: v5 :: v6 :: v7 :: v8 :: v9 :: v10 :: v11 :: v12 :: v13 :: v14 :: v15 :: v16 :: v17 :: v18 :: v19 :: v20 :: v21 :: v22 :: v23 :: v24 :: v25 :: v26 :: v27 :: v28 :: v29 :: .int 0 :: v30 :: v31 :: v32 :: v33 :: v34 :: v35 :: v36 :: v37 :: v38 :: v39 :: v40 :: v41 :: v42 :: v43 :: v44 :: v45 :: v46 :: v47 :: v48 :: v49 :: v50 :: v51 :: v52 :: v53 :: v54 :: v55 :: v56 :: v57 :: v58 :: v59 :: v60 :: v61 :: v62 :: v63 :: v64 :: v65 :: v66 :: v67 :: v68 :: v69 :: v70 :: [])))]) := by
  refine Met.ofW (cc := cX10_undo) (maxL := 1) (ret := (some .int)) (by decide) rfl ?_
  intro p e s m args below meth c s₁ B hml hv
  obtain ⟨rfl, hsz, hP, hX, hD0, hZ0⟩ := hv
  have hx := B.exec
  have hb := B.bytes
  have hr := B.returns
  have hts := atoms_spec (ws := wsX10_undo) B.pre
  have hown : s.vm.findClass RX10 = some m.cls := findClass_of_methodNamed B.named
  subst hsz
  have hD := hD0.self (sz := s.heap.size)
  have hZ := ZX.up hP hZ0
  generalize hAe : va_A [(p0, .inr (7, (v1 :: v2 :: v3 :: v4 :: v5 :: v6 :: v7 :: v8 :: v9 :: v10 :: v11 :: v12 :: v13 :: v14 :: v15 :: v16 :: v17 :: v18 :: v19 :: v20 :: v21 :: v22 :: v23 :: v24 :: v25 :: v26 :: v27 :: v28 :: v29 :: .int 0 :: v30 :: v31 :: v32 :: v33 :: v34 :: v35 :: v36 :: v37 :: v38 :: v39 :: v40 :: v41 :: v42 :: v43 :: v44 :: v45 :: v46 :: v47 :: v48 :: v49 :: v50 :: v51 :: v52 :: v53 :: v54 :: v55 :: v56 :: v57 :: v58 :: v59 :: v60 :: v61 :: v62 :: v63 :: v64 :: v65 :: v66 :: v67 :: v68 :: v69 :: v70 :: [])))] s.heap.size = A at hD hZ ⊢
  have hA : ∀ q : Nat, s.heap.size ≤ q → A q := fun q h => by rw [← hAe]; exact Or.inr h
  have hS : va_S A s.heap s.heap [] := va_S.rf
  have hP : va_P G vwCl [(p0, .inr (7, (v1 :: v2 :: v3 :: v4 :: v5 :: v6 :: v7 :: v8 :: v9 :: v10 :: v11 :: v12 :: v13 :: v14 :: v15 :: v16 :: v17 :: v18 :: v19 :: v20 :: v21 :: v22 :: v23 :: v24 :: v25 :: v26 :: v27 :: v28 :: v29 :: .int 0 :: v30 :: v31 :: v32 :: v33 :: v34 :: v35 :: v36 :: v37 :: v38 :: v39 :: v40 :: v41 :: v42 :: v43 :: v44 :: v45 :: v46 :: v47 :: v48 :: v49 :: v50 :: v51 :: v52 :: v53 :: v54 :: v55 :: v56 :: v57 :: v58 :: v59 :: v60 :: v61 :: v62 :: v63 :: v64 :: v65 :: v66 :: v67 :: v68 :: v69 :: v70 :: [])))] s.heap := hP
  have hl := lv_entry ([.ref p0]) (n := 1) (Nat.le_of_ble_eq_true rfl)
  rw [lg_entry_eq]
  generalize (lg_sl ([.ref p0]) ++ List.replicate (1 - (lg_sl ([.ref p0])).length) Slot.unset).toArray = ls at hl ⊢
  have hl : lv_has ls 1 [(0, .ref p0)] := hl
  have h0w := hts (.fieldLink RX10 171 "RopeTownModel" "code" "I") (by decide +kernel)
  have h1w : ∀ w ∈ wsX100, w ∈ wsX10_undo := by decide +kernel
  have h2w := hts (.fieldLink RX10 330 "RopeTownModel" "moves" "I") (by decide +kernel)
  refine lv_aload_n hx hb dX10_undo_0 rfl (lv_at hl 0 rfl) ?_
  refine lv_iconst (v := 0) hx hb dX10_undo_1 (by decide +kernel) ?_
  refine va_put (D := G) (ci := 7) (v := .int 0) (ty := .int) (C := RX10) (T := TX10) (N := 71) (ref := RX10) hx hb hts h1w tyX10 tyX10_ok nmX10 hown hX.1 hP hD hS 0 rfl rfl 2 (by decide) h0w (fun _ h9 => h9) rfl (by decide +kernel) rfl rfl (Nat.le_of_ble_eq_true rfl) dX10_undo_2 (fun H locs hP hD hS => ?_)
  refine lv_aload_n hx hb dX10_undo_5 rfl (lv_at hl 0 rfl) ?_
  refine va_get (D := G) (ci := 7) (v := .int 0) (C := RX10) (T := TX10) (N := 71) (ref := RX10) hx hb hts h1w hown hX.1 hP 0 rfl rfl 29 (by decide) h2w (fun _ h9 => h9) rfl dX10_undo_6 ?_
  refine lv_if_ne (tgt := 14) hx hb dX10_undo_9 (by decide) (fun q => absurd (by decide +kernel) (q)) (fun _ => ?_)
  refine lv_iconst (v := (-1)) hx hb dX10_undo_12 (by decide +kernel) ?_
  have hP9 := hP.sub (ws' := [(p0, .inr (7, (v1 :: v2 :: .int 0 :: v4 :: v5 :: v6 :: v7 :: v8 :: v9 :: v10 :: v11 :: v12 :: v13 :: v14 :: v15 :: v16 :: v17 :: v18 :: v19 :: v20 :: v21 :: v22 :: v23 :: v24 :: v25 :: v26 :: v27 :: v28 :: v29 :: .int 0 :: v30 :: v31 :: v32 :: v33 :: v34 :: v35 :: v36 :: v37 :: v38 :: v39 :: v40 :: v41 :: v42 :: v43 :: v44 :: v45 :: v46 :: v47 :: v48 :: v49 :: v50 :: v51 :: v52 :: v53 :: v54 :: v55 :: v56 :: v57 :: v58 :: v59 :: v60 :: v61 :: v62 :: v63 :: v64 :: v65 :: v66 :: v67 :: v68 :: v69 :: v70 :: [])))]) [0] rfl
  have hD9 := hD.sub (ws' := [(p0, .inr (7, (v1 :: v2 :: .int 0 :: v4 :: v5 :: v6 :: v7 :: v8 :: v9 :: v10 :: v11 :: v12 :: v13 :: v14 :: v15 :: v16 :: v17 :: v18 :: v19 :: v20 :: v21 :: v22 :: v23 :: v24 :: v25 :: v26 :: v27 :: v28 :: v29 :: .int 0 :: v30 :: v31 :: v32 :: v33 :: v34 :: v35 :: v36 :: v37 :: v38 :: v39 :: v40 :: v41 :: v42 :: v43 :: v44 :: v45 :: v46 :: v47 :: v48 :: v49 :: v50 :: v51 :: v52 :: v53 :: v54 :: v55 :: v56 :: v57 :: v58 :: v59 :: v60 :: v61 :: v62 :: v63 :: v64 :: v65 :: v66 :: v67 :: v68 :: v69 :: v70 :: [])))]) [0] (by decide) rfl
  exact W.iret (v := (-1)) hx hb hr (fun t ht hW => ⟨⟨(-1), (), rfl, rfl, by rw [ht]; exact hP9, hD9⟩, hS.F ht⟩) hS.2.2 dX10_undo_13

set_option maxHeartbeats 4000000 in
set_option maxRecDepth 100000 in
theorem xX9_moved_0 (l : Launch) (htr : l.stackTraces = false) (G : va_G) (k : Nat → ClassId) (p0 : Nat) (i1 : Int32) (i2 : Int32) (sz : Nat) (hi1 : i1 < 0) : CXi l G k yX9_moved wsX9_moved ({ frames := 6, cells := 1, slots := 6, locals := 100 }) [.ref p0, .int i1, .int i2] sz [] ns_X := by
  refine vx_ofW (cc := cX9_moved) (maxL := 3) (ret := (some .int)) (by decide) rfl ?_
  intro p e s m args below meth c s₁ B hml htab hv
  obtain ⟨⟨rfl, hsz, hP, hX, hD0, hZ0⟩, hT9⟩ := hv
  have hlocks := B.notSynchronized
  have hx := B.exec
  have hb := B.bytes
  have hr := B.returns
  have hts := atoms_spec (ws := wsX9_moved) B.pre
  have hown : s.vm.findClass RX9 = some m.cls := findClass_of_methodNamed B.named
  subst hsz
  have hD := hD0.self (sz := s.heap.size)
  have hZ := ZX.up hP hZ0
  generalize hAe : va_A [] s.heap.size = A at hD hZ ⊢
  have hA : ∀ q : Nat, s.heap.size ≤ q → A q := fun q h => by rw [← hAe]; exact Or.inr h
  have hS : va_S A s.heap s.heap [] := va_S.rf
  have hP : va_P G vwCl [] s.heap := hP
  have hl := lv_entry ([.ref p0, .int i1, .int i2]) (n := 3) (Nat.le_of_ble_eq_true rfl)
  rw [lg_entry_eq]
  generalize (lg_sl ([.ref p0, .int i1, .int i2]) ++ List.replicate (3 - (lg_sl ([.ref p0, .int i1, .int i2])).length) Slot.unset).toArray = ls at hl ⊢
  have hl : lv_has ls 3 [(0, .ref p0), (1, .int i1), (2, .int i2)] := hl
  have h0w := hts (.classLink RX9 144 "java/util/NoSuchElementException") (by decide +kernel)
  have h1w := hts (.initialized "java/util/NoSuchElementException") (by decide +kernel)
  refine lv_iload_n hx hb dX9_moved_0 rfl (lv_at hl 1 rfl) ?_
  refine lv_if_lt (tgt := 15) hx hb dX9_moved_1 (by decide) (fun _ => ?_) (fun q_1 => absurd (zl_lt hi1 (by decide)) q_1)
  exact ns_throw (own := RX9) (ik := 144) (is := 228) (ic := 148) hx hb htr hown h0w h1w (hX.2.2.2.2 6 _ rfl) (tx_ns hT9 (fun w h => hts w (twmoved w h))) ns_good hZ.2.1 hZ.2.2 hS (hl.1.trans hml.symm) dX9_moved_15 dX9_moved_18 dX9_moved_19 dX9_moved_21 dX9_moved_24 (fun x hx9 => (htab x hx9).elim) (Nat.le_of_ble_eq_true rfl) (Nat.le_of_ble_eq_true rfl) (Nat.le_of_ble_eq_true rfl) (Nat.le_of_ble_eq_true rfl) hlocks (fun t ha hz hq => ⟨(), trivial, rfl, Nat.le_trans hS.1 hz, fun q h3 h4 => (hq q (Nat.lt_of_lt_of_le h3 hS.1)).trans (hS.2.1 q h3 h4)⟩) hS.2.2 (Nat.le_of_ble_eq_true rfl) (Nat.le_of_ble_eq_true rfl)

set_option maxHeartbeats 4000000 in
set_option maxRecDepth 100000 in
theorem xL_moved_0 (l : Launch) (htr : l.stackTraces = false) (G : va_G) (k : Nat → ClassId) (p0 : Nat) (i1 : Int32) (i2 : Int32) (p3 : Nat) (v4 : Value) (v5 : Value) (v6 : Value) (v7 : Value) (v8 : Value) (v9 : Value) (v10 : Value) (v11 : Value) (v12 : Value) (v13 : Value) (v14 : Value) (sz : Nat) (hi1 : i1 < 0) : CTi l G k yL_moved wsL_moved ({ frames := 7, cells := 1, slots := 6, locals := 122 }) [.ref p0, .int i1, .int i2, .ref p3] sz [(p0, .inr (6, [v4, v5, v6, v7, v8, v9, v10, v11, v12, v13, v14]))] (fun r (u : Unit) => r = 1) (fun (u : Unit) => [(p0, .inr (6, [v4, v5, v6, v7, v8, v9, v10, v11, v12, v13, v14]))]) := by
  refine va_MetW (cc := cL_moved) (maxL := 5) (ret := (some .int)) (by decide) rfl ?_
  intro p e s m args below meth c s₁ B hml hv
  obtain ⟨⟨rfl, hsz, hP, hX, hD0, hZ0⟩, hT9⟩ := hv
  have hlocks := B.notSynchronized
  have hx := B.exec
  have hb := B.bytes
  have hr := B.returns
  have hts := atoms_spec (ws := wsL_moved) B.pre
  have hown : s.vm.findClass RL = some m.cls := findClass_of_methodNamed B.named
  subst hsz
  have hD := hD0.self (sz := s.heap.size)
  have hZ := ZX.up hP hZ0
  generalize hAe : va_A [(p0, .inr (6, [v4, v5, v6, v7, v8, v9, v10, v11, v12, v13, v14]))] s.heap.size = A at hD hZ ⊢
  have hA : ∀ q : Nat, s.heap.size ≤ q → A q := fun q h => by rw [← hAe]; exact Or.inr h
  have hS : va_S A s.heap s.heap [] := va_S.rf
  have hP : va_P G vwCl [(p0, .inr (6, [v4, v5, v6, v7, v8, v9, v10, v11, v12, v13, v14]))] s.heap := hP
  have hl := lv_entry ([.ref p0, .int i1, .int i2, .ref p3]) (n := 5) (Nat.le_of_ble_eq_true rfl)
  rw [lg_entry_eq]
  generalize (lg_sl ([.ref p0, .int i1, .int i2, .ref p3]) ++ List.replicate (5 - (lg_sl ([.ref p0, .int i1, .int i2, .ref p3])).length) Slot.unset).toArray = ls at hl ⊢
  have hl : lv_has ls 5 [(0, .ref p0), (1, .int i1), (2, .int i2), (3, .ref p3)] := hl
  have h0w := hts (.classLink RL 18 "java/util/NoSuchElementException") (by decide +kernel)
  refine lv_aload_n hx hb dL_moved_0 rfl (lv_at hl 3 rfl) ?_
  refine lv_iconst (v := 0) hx hb dL_moved_1 (by decide +kernel) ?_
  refine lv_aload_n hx hb dL_moved_2 rfl (lv_at hl 0 rfl) ?_
  refine lv_iload_n hx hb dL_moved_3 rfl (lv_at hl 1 rfl) ?_
  refine lv_iload_n hx hb dL_moved_4 rfl (lv_at hl 2 rfl) ?_
  refine cz_xi (wr := [(p0, .inr (6, [v4, v5, v6, v7, v8, v9, v10, v11, v12, v13, v14]))]) (vx_runV (As := [.int i1, .int i2]) (rest := [.int 0, .ref p3]) ⟨hx, hb, hml, hown, hts⟩ (xX9_moved_0 l htr G k p0 i1 i2 s.heap.size hi1) (cwV 2 hts gL_moved_X9_moved rfl rfl rfl (by decide +kernel) ⟨Nat.le_of_ble_eq_true rfl, Nat.le_of_ble_eq_true rfl⟩) (cz_preVT hT9 hZ hS hX hP hD [] rfl rfl (ci := 6) (q0 := 0) rfl rfl) rfl rfl hl.1 rfl (lv_room (Nat.le_of_ble_eq_true rfl)) dL_moved_5 ⟨Nat.le_of_ble_eq_true rfl, Nat.le_of_ble_eq_true rfl⟩) hP hD hS hA [] [0] rfl rfl (by decide) (by decide) (fun ce q9 H locs hce hcv hcl hP hD hS => ?_)
  refine cz_catch (name := "java/util/NoSuchElementException") hown ⟨0, 10, 13, 18⟩ (vx_table (x := yL_moved) B (hts _ List.mem_cons_self)) (by decide +kernel) (by decide) h0w (va_Nw.use rfl (hT9.2 _ List.mem_cons_self)) hce hcv hcl ?_
  refine W.widen (k := 1) (n := 6) (Nat.le_of_ble_eq_true rfl) (Nat.le_of_ble_eq_true rfl) ?_
  refine lv_astore (lv' := [(4, .ref q9), (0, .ref p0), (1, .int i1), (2, .int i2), (3, .ref p3)]) hx hb dL_moved_13 hl (by decide) rfl (fun ls hl => ?_)
  refine lv_iconst (v := 1) hx hb dL_moved_15 (by decide +kernel) ?_
  have hP9 := hP.sub (ws' := [(p0, .inr (6, [v4, v5, v6, v7, v8, v9, v10, v11, v12, v13, v14]))]) [0] rfl
  have hD9 := hD.sub (ws' := [(p0, .inr (6, [v4, v5, v6, v7, v8, v9, v10, v11, v12, v13, v14]))]) [0] (by decide) rfl
  refine W.widen (k := 1) (n := 6) (Nat.le_of_ble_eq_true rfl) (Nat.le_of_ble_eq_true rfl) ?_
  exact W.iret (v := 1) hx hb hr (fun t ht hW => ⟨⟨1, (), rfl, rfl, by rw [ht]; exact hP9, hD9⟩, hS.F ht⟩) hS.2.2 dL_moved_16

