set_option maxHeartbeats 4000000 in
set_option maxRecDepth 100000 in
theorem cX10_take_0 (l : Launch) (G : va_G) (k : Nat → ClassId) (p0 : Nat) (v1 : Value) (v2 : Value) (v3 : Value) (p4 : Nat) (p5 : Nat) (p6 : Nat) (p7 : Nat) (p8 : Nat) (p9 : Nat) (p10 : Nat) (v11 : Value) (v12 : Value) (v13 : Value) (v14 : Value) (v15 : Value) (v16 : Value) (v17 : Value) (v18 : Value) (v19 : Value) (v20 : Value) (v21 : Value) (v22 : Value) (v23 : Value) (v24 : Value) (v25 : Value) (v26 : Value) (v27 : Value) (v28 : Value) (p29 : Nat) (v30 : Value) (v31 : Value) (v32 : Value) (v33 : Value) (v34 : Value) (v35 : Value) (v36 : Value) (v37 : Value) (v38 : Value) (v39 : Value) (v40 : Value) (v41 : Value) (v42 : Value) (v43 : Value) (v44 : Value) (v45 : Value) (v46 : Value) (v47 : Value) (v48 : Value) (v49 : Value) (v50 : Value) (v51 : Value) (v52 : Value) (v53 : Value) (v54 : Value) (v55 : Value) (v56 : Value) (v57 : Value) (v58 : Value) (v59 : Value) (v60 : Value) (v61 : Value) (v62 : Value) (v63 : Value) (v64 : Value) (v65 : Value) (v66 : Value) (v67 : Value) (f68 : Nat → Int32) (sz : Nat) : CMv l G k yX10_take wsX10_take ({ frames := 0, cells := 0, slots := 0, locals := 0 }) [.ref p0] sz [(p0, .inr (7, (v1 :: v2 :: v3 :: .ref p4 :: .ref p5 :: .ref p6 :: .ref p7 :: .ref p8 :: .ref p9 :: .ref p10 :: v11 :: v12 :: .int 0 :: v13 :: .int 0 :: .int 0 :: v14 :: v15 :: v16 :: v17 :: v18 :: v19 :: v20 :: v21 :: v22 :: v23 :: v24 :: .int 0 :: v25 :: v26 :: v27 :: v28 :: .ref p29 :: v30 :: v31 :: v32 :: v33 :: v34 :: v35 :: v36 :: v37 :: v38 :: v39 :: v40 :: v41 :: v42 :: v43 :: v44 :: v45 :: v46 :: v47 :: v48 :: v49 :: v50 :: v51 :: v52 :: v53 :: v54 :: v55 :: v56 :: v57 :: v58 :: v59 :: v60 :: v61 :: v62 :: v63 :: v64 :: v65 :: v66 :: v67 :: []))), (p4, .inl (k 0, 14, .inl (upd (upd (upd (upd (upd (upd (upd (upd (upd (upd (upd (upd (upd (upd (fun _ => 0) (0 : Int32).toNatClampNeg 1) (1 : Int32).toNatClampNeg 0) (2 : Int32).toNatClampNeg 99) (3 : Int32).toNatClampNeg 0) (4 : Int32).toNatClampNeg 1) (5 : Int32).toNatClampNeg 20) (6 : Int32).toNatClampNeg 0) (7 : Int32).toNatClampNeg 1) (8 : Int32).toNatClampNeg 0) (9 : Int32).toNatClampNeg 99) (10 : Int32).toNatClampNeg 0) (11 : Int32).toNatClampNeg 1) (12 : Int32).toNatClampNeg 20) (13 : Int32).toNatClampNeg 0))), (p5, .inl (k 0, 14, .inl (fun _ => 0))), (p6, .inl (k 0, 14, .inl (fun _ => 0))), (p7, .inl (k 0, 14, .inl (fun _ => 0))), (p8, .inl (k 0, 14, .inl (fun _ => 0))), (p9, .inl (k 0, 8, .inl (fun _ => 0))), (p10, .inl (k 0, 8, .inl (fun _ => 0))), (p29, .inl (k 0, 7, .inl f68))] (fun (u : Unit) => True) (fun (u : Unit) => [(p0, .inr (7, (v1 :: v2 :: v3 :: .ref p4 :: .ref p5 :: .ref p6 :: .ref p7 :: .ref p8 :: .ref p9 :: .ref p10 :: v11 :: v12 :: .int 0 :: .int 0 :: .int 0 :: .int 0 :: v14 :: v15 :: v16 :: v17 :: v18 :: v19 :: v20 :: v21 :: v22 :: v23 :: v24 :: .int 0 :: .int 0 :: .int 0 :: .int 0 :: .int 0 :: .ref p29 :: v30 :: v31 :: v32 :: v33 :: v34 :: v35 :: v36 :: v37 :: v38 :: v39 :: v40 :: v41 :: v42 :: v43 :: v44 :: v45 :: v46 :: v47 :: v48 :: v49 :: v50 :: v51 :: v52 :: v53 :: v54 :: .int 0 :: v56 :: v57 :: v58 :: v59 :: v60 :: v61 :: v62 :: v63 :: v64 :: v65 :: v66 :: v67 :: []))), (p4, .inl (k 0, 14, .inl (upd (upd (upd (upd (upd (upd (upd (upd (upd (upd (upd (upd (upd (upd (upd (upd (upd (upd (upd (upd (upd (fun _ => 0) (0 : Int32).toNatClampNeg 1) (1 : Int32).toNatClampNeg 0) (2 : Int32).toNatClampNeg 99) (3 : Int32).toNatClampNeg 0) (4 : Int32).toNatClampNeg 1) (5 : Int32).toNatClampNeg 20) (6 : Int32).toNatClampNeg 0) (7 : Int32).toNatClampNeg 1) (8 : Int32).toNatClampNeg 0) (9 : Int32).toNatClampNeg 99) (10 : Int32).toNatClampNeg 0) (11 : Int32).toNatClampNeg 1) (12 : Int32).toNatClampNeg 20) (13 : Int32).toNatClampNeg 0) (0 : Int32).toNatClampNeg 1) (1 : Int32).toNatClampNeg 0) (2 : Int32).toNatClampNeg 99) (3 : Int32).toNatClampNeg 0) (4 : Int32).toNatClampNeg 1) (5 : Int32).toNatClampNeg 20) (6 : Int32).toNatClampNeg 0))), (p5, .inl (k 0, 14, .inl (upd (upd (upd (upd (upd (upd (upd (fun _ => 0) (0 : Int32).toNatClampNeg 0) (1 : Int32).toNatClampNeg 0) (2 : Int32).toNatClampNeg 0) (3 : Int32).toNatClampNeg 0) (4 : Int32).toNatClampNeg 0) (5 : Int32).toNatClampNeg 0) (6 : Int32).toNatClampNeg 0))), (p6, .inl (k 0, 14, .inl (upd (upd (upd (upd (upd (upd (upd (fun _ => 0) (0 : Int32).toNatClampNeg 0) (1 : Int32).toNatClampNeg 0) (2 : Int32).toNatClampNeg 0) (3 : Int32).toNatClampNeg 0) (4 : Int32).toNatClampNeg 0) (5 : Int32).toNatClampNeg 0) (6 : Int32).toNatClampNeg 0))), (p7, .inl (k 0, 14, .inl (upd (upd (upd (upd (upd (upd (upd (fun _ => 0) (0 : Int32).toNatClampNeg 0) (1 : Int32).toNatClampNeg 0) (2 : Int32).toNatClampNeg 0) (3 : Int32).toNatClampNeg 0) (4 : Int32).toNatClampNeg 0) (5 : Int32).toNatClampNeg 0) (6 : Int32).toNatClampNeg 0))), (p8, .inl (k 0, 14, .inl (upd (upd (upd (upd (upd (upd (upd (fun _ => 0) (0 : Int32).toNatClampNeg 0) (1 : Int32).toNatClampNeg 0) (2 : Int32).toNatClampNeg 0) (3 : Int32).toNatClampNeg 0) (4 : Int32).toNatClampNeg 0) (5 : Int32).toNatClampNeg 0) (6 : Int32).toNatClampNeg 0))), (p9, .inl (k 0, 8, .inl (upd (upd (upd (upd (fun _ => 0) (0 : Int32).toNatClampNeg 0) (1 : Int32).toNatClampNeg 0) (2 : Int32).toNatClampNeg 0) (3 : Int32).toNatClampNeg 0))), (p10, .inl (k 0, 8, .inl (upd (upd (upd (upd (fun _ => 0) (0 : Int32).toNatClampNeg 0) (1 : Int32).toNatClampNeg 0) (2 : Int32).toNatClampNeg 0) (3 : Int32).toNatClampNeg 0))), (p29, .inl (k 0, 7, .inl (upd (upd (upd (upd (upd (upd (upd f68 (0 : Int32).toNatClampNeg 15) (1 : Int32).toNatClampNeg 15) (2 : Int32).toNatClampNeg 15) (3 : Int32).toNatClampNeg 15) (4 : Int32).toNatClampNeg 15) (5 : Int32).toNatClampNeg 15) (6 : Int32).toNatClampNeg 15)))]) := by
  refine Met.ofW (cc := cX10_take) (maxL := 2) (ret := none) (by decide) rfl ?_
  intro p e s m args below meth c s₁ B hml hv
  obtain ⟨rfl, hsz, hP, hX, hD0, hZ0⟩ := hv
  have hx := B.exec
  have hb := B.bytes
  have hr := B.returns
  have hts := atoms_spec (ws := wsX10_take) B.pre
  have hown : s.vm.findClass RX10 = some m.cls := findClass_of_methodNamed B.named
  subst hsz
  have hD := hD0.self (sz := s.heap.size)
  have hZ := ZX.up hP hZ0
  generalize hAe : va_A [(p0, .inr (7, (v1 :: v2 :: v3 :: .ref p4 :: .ref p5 :: .ref p6 :: .ref p7 :: .ref p8 :: .ref p9 :: .ref p10 :: v11 :: v12 :: .int 0 :: v13 :: .int 0 :: .int 0 :: v14 :: v15 :: v16 :: v17 :: v18 :: v19 :: v20 :: v21 :: v22 :: v23 :: v24 :: .int 0 :: v25 :: v26 :: v27 :: v28 :: .ref p29 :: v30 :: v31 :: v32 :: v33 :: v34 :: v35 :: v36 :: v37 :: v38 :: v39 :: v40 :: v41 :: v42 :: v43 :: v44 :: v45 :: v46 :: v47 :: v48 :: v49 :: v50 :: v51 :: v52 :: v53 :: v54 :: v55 :: v56 :: v57 :: v58 :: v59 :: v60 :: v61 :: v62 :: v63 :: v64 :: v65 :: v66 :: v67 :: []))), (p4, .inl (k 0, 14, .inl (upd (upd (upd (upd (upd (upd (upd (upd (upd (upd (upd (upd (upd (upd (fun _ => 0) (0 : Int32).toNatClampNeg 1) (1 : Int32).toNatClampNeg 0) (2 : Int32).toNatClampNeg 99) (3 : Int32).toNatClampNeg 0) (4 : Int32).toNatClampNeg 1) (5 : Int32).toNatClampNeg 20) (6 : Int32).toNatClampNeg 0) (7 : Int32).toNatClampNeg 1) (8 : Int32).toNatClampNeg 0) (9 : Int32).toNatClampNeg 99) (10 : Int32).toNatClampNeg 0) (11 : Int32).toNatClampNeg 1) (12 : Int32).toNatClampNeg 20) (13 : Int32).toNatClampNeg 0))), (p5, .inl (k 0, 14, .inl (fun _ => 0))), (p6, .inl (k 0, 14, .inl (fun _ => 0))), (p7, .inl (k 0, 14, .inl (fun _ => 0))), (p8, .inl (k 0, 14, .inl (fun _ => 0))), (p9, .inl (k 0, 8, .inl (fun _ => 0))), (p10, .inl (k 0, 8, .inl (fun _ => 0))), (p29, .inl (k 0, 7, .inl f68))] s.heap.size = A at hD hZ ⊢
  have hA : ∀ q : Nat, s.heap.size ≤ q → A q := fun q h => by rw [← hAe]; exact Or.inr h
  have hS : va_S A s.heap s.heap [] := va_S.rf
  have hP : va_P G vwCl [(p0, .inr (7, (v1 :: v2 :: v3 :: .ref p4 :: .ref p5 :: .ref p6 :: .ref p7 :: .ref p8 :: .ref p9 :: .ref p10 :: v11 :: v12 :: .int 0 :: v13 :: .int 0 :: .int 0 :: v14 :: v15 :: v16 :: v17 :: v18 :: v19 :: v20 :: v21 :: v22 :: v23 :: v24 :: .int 0 :: v25 :: v26 :: v27 :: v28 :: .ref p29 :: v30 :: v31 :: v32 :: v33 :: v34 :: v35 :: v36 :: v37 :: v38 :: v39 :: v40 :: v41 :: v42 :: v43 :: v44 :: v45 :: v46 :: v47 :: v48 :: v49 :: v50 :: v51 :: v52 :: v53 :: v54 :: v55 :: v56 :: v57 :: v58 :: v59 :: v60 :: v61 :: v62 :: v63 :: v64 :: v65 :: v66 :: v67 :: []))), (p4, .inl (k 0, 14, .inl (upd (upd (upd (upd (upd (upd (upd (upd (upd (upd (upd (upd (upd (upd (fun _ => 0) (0 : Int32).toNatClampNeg 1) (1 : Int32).toNatClampNeg 0) (2 : Int32).toNatClampNeg 99) (3 : Int32).toNatClampNeg 0) (4 : Int32).toNatClampNeg 1) (5 : Int32).toNatClampNeg 20) (6 : Int32).toNatClampNeg 0) (7 : Int32).toNatClampNeg 1) (8 : Int32).toNatClampNeg 0) (9 : Int32).toNatClampNeg 99) (10 : Int32).toNatClampNeg 0) (11 : Int32).toNatClampNeg 1) (12 : Int32).toNatClampNeg 20) (13 : Int32).toNatClampNeg 0))), (p5, .inl (k 0, 14, .inl (fun _ => 0))), (p6, .inl (k 0, 14, .inl (fun _ => 0))), (p7, .inl (k 0, 14, .inl (fun _ => 0))), (p8, .inl (k 0, 14, .inl (fun _ => 0))), (p9, .inl (k 0, 8, .inl (fun _ => 0))), (p10, .inl (k 0, 8, .inl (fun _ => 0))), (p29, .inl (k 0, 7, .inl f68))] s.heap := hP
  have hl := lv_entry ([.ref p0]) (n := 2) (Nat.le_of_ble_eq_true rfl)
  rw [lg_entry_eq]
  generalize (lg_sl ([.ref p0]) ++ List.replicate (2 - (lg_sl ([.ref p0])).length) Slot.unset).toArray = ls at hl ⊢
  have hl : lv_has ls 2 [(0, .ref p0)] := hl
  have h0w := hts (.fieldLink RX10 54 "RopeTownModel" "rule" "[I") (by decide +kernel)
  have h1w : ∀ w ∈ wsX100, w ∈ wsX10_take := by decide +kernel
  have h2w := hts (.fieldLink RX10 290 "RopeTownModel" "readThings" "I") (by decide +kernel)
  have h3w := hts (.fieldLink RX10 174 "RopeTownModel" "things" "I") (by decide +kernel)
  have h4w := hts (.fieldLink RX10 303 "RopeTownModel" "readRules" "I") (by decide +kernel)
  have h5w := hts (.fieldLink RX10 324 "RopeTownModel" "rules" "I") (by decide +kernel)
  have h6w := hts (.fieldLink RX10 57 "RopeTownModel" "kind" "[I") (by decide +kernel)
  have h7w := hts (.fieldLink RX10 60 "RopeTownModel" "weight" "[I") (by decide +kernel)
  have h8w := hts (.fieldLink RX10 62 "RopeTownModel" "begins0" "[I") (by decide +kernel)
  have h9w := hts (.fieldLink RX10 65 "RopeTownModel" "aim" "[I") (by decide +kernel)
  have h10w := hts (.fieldLink RX10 68 "RopeTownModel" "begin" "[I") (by decide +kernel)
  have h11w := hts (.fieldLink RX10 71 "RopeTownModel" "finish" "[I") (by decide +kernel)
  have h12w := hts (.fieldLink RX10 250 "RopeTownModel" "laid" "I") (by decide +kernel)
  have h13w := hts (.fieldLink RX10 87 "RopeTownModel" "place" "[I") (by decide +kernel)
  have h14w := hts (.fieldLink RX10 327 "RopeTownModel" "bucket0" "I") (by decide +kernel)
  have h15w := hts (.fieldLink RX10 330 "RopeTownModel" "moves" "I") (by decide +kernel)
  have h16w := hts (.fieldLink RX10 333 "RopeTownModel" "cost" "I") (by decide +kernel)
  have h17w := hts (.fieldLink RX10 336 "RopeTownModel" "days" "I") (by decide +kernel)
  have h18w := hts (.fieldLink RX10 339 "RopeTownModel" "hasImage" "Z") (by decide +kernel)
  refine lv_iconst (v := 0) hx hb dX10_take_0 (by decide +kernel) ?_
  refine lv_istore_n (lv' := [(1, .int 0), (0, .ref p0)]) hx hb dX10_take_1 rfl hl (by decide) rfl (fun ls hl => ?_)
  refine lv_iload_n hx hb dX10_take_2 rfl (lv_at hl 0 rfl) ?_
  refine lv_bipush (v := 7) hx hb dX10_take_3 (by decide +kernel) ?_
  refine lv_icmp_ge (tgt := 29) hx hb dX10_take_5 (by decide) (fun q => absurd (q) (by decide +kernel)) (fun _ => ?_)
  refine lv_aload_n hx hb dX10_take_8 rfl (lv_at hl 1 rfl) ?_
  refine va_get (D := G) (ci := 7) (v := .ref p4) (C := RX10) (T := TX10) (N := 71) (ref := RX10) hx hb hts h1w hown hX.1 hP 0 rfl rfl 3 (by decide) h0w (fun _ h9 => h9) rfl dX10_take_9 ?_
  refine lv_iload_n hx hb dX10_take_12 rfl (lv_at hl 0 rfl) ?_
  refine lv_aload_n hx hb dX10_take_13 rfl (lv_at hl 1 rfl) ?_
  refine va_get (D := G) (ci := 7) (v := .ref p4) (C := RX10) (T := TX10) (N := 71) (ref := RX10) hx hb hts h1w hown hX.1 hP 0 rfl rfl 3 (by decide) h0w (fun _ h9 => h9) rfl dX10_take_14 ?_
  refine lv_bipush (v := 7) hx hb dX10_take_17 (by decide +kernel) ?_
  refine lv_iload_n hx hb dX10_take_19 rfl (lv_at hl 0 rfl) ?_
  refine lv_iadd hx hb dX10_take_20 ?_
  refine cz_ti (w := 7) (by decide +kernel) ?_
  refine va_iald hx hb hX.1 hP 1 0 rfl rfl (by unfold vp_in; decide +kernel) dX10_take_21 ?_
  refine cz_ti (w := 1) (by rfl) ?_
  refine va_iast hx hb hX.1 hP hD hS 1 0 rfl rfl (by unfold vp_in; decide +kernel) dX10_take_22 (fun H locs hP hD hS => ?_)
  refine lv_iinc (v := 1) (lv' := [(1, .int 1), (0, .ref p0)]) hx hb dX10_take_23 hl (k := 0) rfl (by decide +kernel) (by decide) rfl (fun ls hl => ?_)
  refine lv_goto (tgt := 2) hx hb dX10_take_26 (by decide) ?_
  refine lv_iload_n hx hb dX10_take_2 rfl (lv_at hl 0 rfl) ?_
  refine lv_bipush (v := 7) hx hb dX10_take_3 (by decide +kernel) ?_
  refine lv_icmp_ge (tgt := 29) hx hb dX10_take_5 (by decide) (fun q => absurd (q) (by decide +kernel)) (fun _ => ?_)
  refine lv_aload_n hx hb dX10_take_8 rfl (lv_at hl 1 rfl) ?_
  refine va_get (D := G) (ci := 7) (v := .ref p4) (C := RX10) (T := TX10) (N := 71) (ref := RX10) hx hb hts h1w hown hX.1 hP 0 rfl rfl 3 (by decide) h0w (fun _ h9 => h9) rfl dX10_take_9 ?_
  refine lv_iload_n hx hb dX10_take_12 rfl (lv_at hl 0 rfl) ?_
  refine lv_aload_n hx hb dX10_take_13 rfl (lv_at hl 1 rfl) ?_
  refine va_get (D := G) (ci := 7) (v := .ref p4) (C := RX10) (T := TX10) (N := 71) (ref := RX10) hx hb hts h1w hown hX.1 hP 0 rfl rfl 3 (by decide) h0w (fun _ h9 => h9) rfl dX10_take_14 ?_
  refine lv_bipush (v := 7) hx hb dX10_take_17 (by decide +kernel) ?_
  refine lv_iload_n hx hb dX10_take_19 rfl (lv_at hl 0 rfl) ?_
  refine lv_iadd hx hb dX10_take_20 ?_
  refine cz_ti (w := 8) (by decide +kernel) ?_
  refine va_iald hx hb hX.1 hP 1 0 rfl rfl (by unfold vp_in; decide +kernel) dX10_take_21 ?_
  refine cz_ti (w := 0) (by rfl) ?_
  refine va_iast hx hb hX.1 hP hD hS 1 0 rfl rfl (by unfold vp_in; decide +kernel) dX10_take_22 (fun H locs hP hD hS => ?_)
  refine lv_iinc (v := 2) (lv' := [(1, .int 2), (0, .ref p0)]) hx hb dX10_take_23 hl (k := 0) rfl (by decide +kernel) (by decide) rfl (fun ls hl => ?_)
  refine lv_goto (tgt := 2) hx hb dX10_take_26 (by decide) ?_
  refine lv_iload_n hx hb dX10_take_2 rfl (lv_at hl 0 rfl) ?_
  refine lv_bipush (v := 7) hx hb dX10_take_3 (by decide +kernel) ?_
  refine lv_icmp_ge (tgt := 29) hx hb dX10_take_5 (by decide) (fun q => absurd (q) (by decide +kernel)) (fun _ => ?_)
  refine lv_aload_n hx hb dX10_take_8 rfl (lv_at hl 1 rfl) ?_
  refine va_get (D := G) (ci := 7) (v := .ref p4) (C := RX10) (T := TX10) (N := 71) (ref := RX10) hx hb hts h1w hown hX.1 hP 0 rfl rfl 3 (by decide) h0w (fun _ h9 => h9) rfl dX10_take_9 ?_
  refine lv_iload_n hx hb dX10_take_12 rfl (lv_at hl 0 rfl) ?_
  refine lv_aload_n hx hb dX10_take_13 rfl (lv_at hl 1 rfl) ?_
  refine va_get (D := G) (ci := 7) (v := .ref p4) (C := RX10) (T := TX10) (N := 71) (ref := RX10) hx hb hts h1w hown hX.1 hP 0 rfl rfl 3 (by decide) h0w (fun _ h9 => h9) rfl dX10_take_14 ?_
  refine lv_bipush (v := 7) hx hb dX10_take_17 (by decide +kernel) ?_
  refine lv_iload_n hx hb dX10_take_19 rfl (lv_at hl 0 rfl) ?_
  refine lv_iadd hx hb dX10_take_20 ?_
  refine cz_ti (w := 9) (by decide +kernel) ?_
  refine va_iald hx hb hX.1 hP 1 0 rfl rfl (by unfold vp_in; decide +kernel) dX10_take_21 ?_
  refine cz_ti (w := 99) (by rfl) ?_
  refine va_iast hx hb hX.1 hP hD hS 1 0 rfl rfl (by unfold vp_in; decide +kernel) dX10_take_22 (fun H locs hP hD hS => ?_)
  refine lv_iinc (v := 3) (lv' := [(1, .int 3), (0, .ref p0)]) hx hb dX10_take_23 hl (k := 0) rfl (by decide +kernel) (by decide) rfl (fun ls hl => ?_)
  refine lv_goto (tgt := 2) hx hb dX10_take_26 (by decide) ?_
  refine lv_iload_n hx hb dX10_take_2 rfl (lv_at hl 0 rfl) ?_
  refine lv_bipush (v := 7) hx hb dX10_take_3 (by decide +kernel) ?_
  refine lv_icmp_ge (tgt := 29) hx hb dX10_take_5 (by decide) (fun q => absurd (q) (by decide +kernel)) (fun _ => ?_)
  refine lv_aload_n hx hb dX10_take_8 rfl (lv_at hl 1 rfl) ?_
  refine va_get (D := G) (ci := 7) (v := .ref p4) (C := RX10) (T := TX10) (N := 71) (ref := RX10) hx hb hts h1w hown hX.1 hP 0 rfl rfl 3 (by decide) h0w (fun _ h9 => h9) rfl dX10_take_9 ?_
  refine lv_iload_n hx hb dX10_take_12 rfl (lv_at hl 0 rfl) ?_
  refine lv_aload_n hx hb dX10_take_13 rfl (lv_at hl 1 rfl) ?_
  refine va_get (D := G) (ci := 7) (v := .ref p4) (C := RX10) (T := TX10) (N := 71) (ref := RX10) hx hb hts h1w hown hX.1 hP 0 rfl rfl 3 (by decide) h0w (fun _ h9 => h9) rfl dX10_take_14 ?_
  refine lv_bipush (v := 7) hx hb dX10_take_17 (by decide +kernel) ?_
  refine lv_iload_n hx hb dX10_take_19 rfl (lv_at hl 0 rfl) ?_
  refine lv_iadd hx hb dX10_take_20 ?_
  refine cz_ti (w := 10) (by decide +kernel) ?_
  refine va_iald hx hb hX.1 hP 1 0 rfl rfl (by unfold vp_in; decide +kernel) dX10_take_21 ?_
  refine cz_ti (w := 0) (by rfl) ?_
  refine va_iast hx hb hX.1 hP hD hS 1 0 rfl rfl (by unfold vp_in; decide +kernel) dX10_take_22 (fun H locs hP hD hS => ?_)
  refine lv_iinc (v := 4) (lv' := [(1, .int 4), (0, .ref p0)]) hx hb dX10_take_23 hl (k := 0) rfl (by decide +kernel) (by decide) rfl (fun ls hl => ?_)
  refine lv_goto (tgt := 2) hx hb dX10_take_26 (by decide) ?_
  refine lv_iload_n hx hb dX10_take_2 rfl (lv_at hl 0 rfl) ?_
  refine lv_bipush (v := 7) hx hb dX10_take_3 (by decide +kernel) ?_
  refine lv_icmp_ge (tgt := 29) hx hb dX10_take_5 (by decide) (fun q => absurd (q) (by decide +kernel)) (fun _ => ?_)
  refine lv_aload_n hx hb dX10_take_8 rfl (lv_at hl 1 rfl) ?_
  refine va_get (D := G) (ci := 7) (v := .ref p4) (C := RX10) (T := TX10) (N := 71) (ref := RX10) hx hb hts h1w hown hX.1 hP 0 rfl rfl 3 (by decide) h0w (fun _ h9 => h9) rfl dX10_take_9 ?_
  refine lv_iload_n hx hb dX10_take_12 rfl (lv_at hl 0 rfl) ?_
  refine lv_aload_n hx hb dX10_take_13 rfl (lv_at hl 1 rfl) ?_
  refine va_get (D := G) (ci := 7) (v := .ref p4) (C := RX10) (T := TX10) (N := 71) (ref := RX10) hx hb hts h1w hown hX.1 hP 0 rfl rfl 3 (by decide) h0w (fun _ h9 => h9) rfl dX10_take_14 ?_
  refine lv_bipush (v := 7) hx hb dX10_take_17 (by decide +kernel) ?_
  refine lv_iload_n hx hb dX10_take_19 rfl (lv_at hl 0 rfl) ?_
  refine lv_iadd hx hb dX10_take_20 ?_
  refine cz_ti (w := 11) (by decide +kernel) ?_
  refine va_iald hx hb hX.1 hP 1 0 rfl rfl (by unfold vp_in; decide +kernel) dX10_take_21 ?_
  refine cz_ti (w := 1) (by rfl) ?_
  refine va_iast hx hb hX.1 hP hD hS 1 0 rfl rfl (by unfold vp_in; decide +kernel) dX10_take_22 (fun H locs hP hD hS => ?_)
  refine lv_iinc (v := 5) (lv' := [(1, .int 5), (0, .ref p0)]) hx hb dX10_take_23 hl (k := 0) rfl (by decide +kernel) (by decide) rfl (fun ls hl => ?_)
  refine lv_goto (tgt := 2) hx hb dX10_take_26 (by decide) ?_
  refine lv_iload_n hx hb dX10_take_2 rfl (lv_at hl 0 rfl) ?_
  refine lv_bipush (v := 7) hx hb dX10_take_3 (by decide +kernel) ?_
  refine lv_icmp_ge (tgt := 29) hx hb dX10_take_5 (by decide) (fun q => absurd (q) (by decide +kernel)) (fun _ => ?_)
  refine lv_aload_n hx hb dX10_take_8 rfl (lv_at hl 1 rfl) ?_
  refine va_get (D := G) (ci := 7) (v := .ref p4) (C := RX10) (T := TX10) (N := 71) (ref := RX10) hx hb hts h1w hown hX.1 hP 0 rfl rfl 3 (by decide) h0w (fun _ h9 => h9) rfl dX10_take_9 ?_
  refine lv_iload_n hx hb dX10_take_12 rfl (lv_at hl 0 rfl) ?_
  refine lv_aload_n hx hb dX10_take_13 rfl (lv_at hl 1 rfl) ?_
  refine va_get (D := G) (ci := 7) (v := .ref p4) (C := RX10) (T := TX10) (N := 71) (ref := RX10) hx hb hts h1w hown hX.1 hP 0 rfl rfl 3 (by decide) h0w (fun _ h9 => h9) rfl dX10_take_14 ?_
  refine lv_bipush (v := 7) hx hb dX10_take_17 (by decide +kernel) ?_
  refine lv_iload_n hx hb dX10_take_19 rfl (lv_at hl 0 rfl) ?_
  refine lv_iadd hx hb dX10_take_20 ?_
  refine cz_ti (w := 12) (by decide +kernel) ?_
  refine va_iald hx hb hX.1 hP 1 0 rfl rfl (by unfold vp_in; decide +kernel) dX10_take_21 ?_
  refine cz_ti (w := 20) (by rfl) ?_
  refine va_iast hx hb hX.1 hP hD hS 1 0 rfl rfl (by unfold vp_in; decide +kernel) dX10_take_22 (fun H locs hP hD hS => ?_)
  obtain ⟨hP, hD⟩ : va_P G vwCl [(p0, .inr (7, (v1 :: v2 :: v3 :: .ref p4 :: .ref p5 :: .ref p6 :: .ref p7 :: .ref p8 :: .ref p9 :: .ref p10 :: v11 :: v12 :: .int 0 :: v13 :: .int 0 :: .int 0 :: v14 :: v15 :: v16 :: v17 :: v18 :: v19 :: v20 :: v21 :: v22 :: v23 :: v24 :: .int 0 :: v25 :: v26 :: v27 :: v28 :: .ref p29 :: v30 :: v31 :: v32 :: v33 :: v34 :: v35 :: v36 :: v37 :: v38 :: v39 :: v40 :: v41 :: v42 :: v43 :: v44 :: v45 :: v46 :: v47 :: v48 :: v49 :: v50 :: v51 :: v52 :: v53 :: v54 :: v55 :: v56 :: v57 :: v58 :: v59 :: v60 :: v61 :: v62 :: v63 :: v64 :: v65 :: v66 :: v67 :: []))), (p4, .inl (k 0, 14, .inl (upd (upd (upd (upd (upd (upd (upd (upd (upd (upd (upd (upd (upd (upd (upd (upd (upd (upd (upd (upd (fun _ => 0) (0 : Int32).toNatClampNeg 1) (1 : Int32).toNatClampNeg 0) (2 : Int32).toNatClampNeg 99) (3 : Int32).toNatClampNeg 0) (4 : Int32).toNatClampNeg 1) (5 : Int32).toNatClampNeg 20) (6 : Int32).toNatClampNeg 0) (7 : Int32).toNatClampNeg 1) (8 : Int32).toNatClampNeg 0) (9 : Int32).toNatClampNeg 99) (10 : Int32).toNatClampNeg 0) (11 : Int32).toNatClampNeg 1) (12 : Int32).toNatClampNeg 20) (13 : Int32).toNatClampNeg 0) (0 : Int32).toNatClampNeg 1) (1 : Int32).toNatClampNeg 0) (2 : Int32).toNatClampNeg 99) (3 : Int32).toNatClampNeg 0) (4 : Int32).toNatClampNeg 1) (5 : Int32).toNatClampNeg 20))), (p5, .inl (k 0, 14, .inl (fun _ => 0))), (p6, .inl (k 0, 14, .inl (fun _ => 0))), (p7, .inl (k 0, 14, .inl (fun _ => 0))), (p8, .inl (k 0, 14, .inl (fun _ => 0))), (p9, .inl (k 0, 8, .inl (fun _ => 0))), (p10, .inl (k 0, 8, .inl (fun _ => 0))), (p29, .inl (k 0, 7, .inl f68))] H ∧ va_D A [(p0, .inr (7, (v1 :: v2 :: v3 :: .ref p4 :: .ref p5 :: .ref p6 :: .ref p7 :: .ref p8 :: .ref p9 :: .ref p10 :: v11 :: v12 :: .int 0 :: v13 :: .int 0 :: .int 0 :: v14 :: v15 :: v16 :: v17 :: v18 :: v19 :: v20 :: v21 :: v22 :: v23 :: v24 :: .int 0 :: v25 :: v26 :: v27 :: v28 :: .ref p29 :: v30 :: v31 :: v32 :: v33 :: v34 :: v35 :: v36 :: v37 :: v38 :: v39 :: v40 :: v41 :: v42 :: v43 :: v44 :: v45 :: v46 :: v47 :: v48 :: v49 :: v50 :: v51 :: v52 :: v53 :: v54 :: v55 :: v56 :: v57 :: v58 :: v59 :: v60 :: v61 :: v62 :: v63 :: v64 :: v65 :: v66 :: v67 :: []))), (p4, .inl (k 0, 14, .inl (upd (upd (upd (upd (upd (upd (upd (upd (upd (upd (upd (upd (upd (upd (upd (upd (upd (upd (upd (upd (fun _ => 0) (0 : Int32).toNatClampNeg 1) (1 : Int32).toNatClampNeg 0) (2 : Int32).toNatClampNeg 99) (3 : Int32).toNatClampNeg 0) (4 : Int32).toNatClampNeg 1) (5 : Int32).toNatClampNeg 20) (6 : Int32).toNatClampNeg 0) (7 : Int32).toNatClampNeg 1) (8 : Int32).toNatClampNeg 0) (9 : Int32).toNatClampNeg 99) (10 : Int32).toNatClampNeg 0) (11 : Int32).toNatClampNeg 1) (12 : Int32).toNatClampNeg 20) (13 : Int32).toNatClampNeg 0) (0 : Int32).toNatClampNeg 1) (1 : Int32).toNatClampNeg 0) (2 : Int32).toNatClampNeg 99) (3 : Int32).toNatClampNeg 0) (4 : Int32).toNatClampNeg 1) (5 : Int32).toNatClampNeg 20))), (p5, .inl (k 0, 14, .inl (fun _ => 0))), (p6, .inl (k 0, 14, .inl (fun _ => 0))), (p7, .inl (k 0, 14, .inl (fun _ => 0))), (p8, .inl (k 0, 14, .inl (fun _ => 0))), (p9, .inl (k 0, 8, .inl (fun _ => 0))), (p10, .inl (k 0, 8, .inl (fun _ => 0))), (p29, .inl (k 0, 7, .inl f68))] := ⟨hP, hD⟩
  refine lv_iinc (v := 6) (lv' := [(1, .int 6), (0, .ref p0)]) hx hb dX10_take_23 hl (k := 0) rfl (by decide +kernel) (by decide) rfl (fun ls hl => ?_)
  refine lv_goto (tgt := 2) hx hb dX10_take_26 (by decide) ?_
  refine lv_iload_n hx hb dX10_take_2 rfl (lv_at hl 0 rfl) ?_
  refine lv_bipush (v := 7) hx hb dX10_take_3 (by decide +kernel) ?_
  refine lv_icmp_ge (tgt := 29) hx hb dX10_take_5 (by decide) (fun q => absurd (q) (by decide +kernel)) (fun _ => ?_)
  refine lv_aload_n hx hb dX10_take_8 rfl (lv_at hl 1 rfl) ?_
  refine va_get (D := G) (ci := 7) (v := .ref p4) (C := RX10) (T := TX10) (N := 71) (ref := RX10) hx hb hts h1w hown hX.1 hP 0 rfl rfl 3 (by decide) h0w (fun _ h9 => h9) rfl dX10_take_9 ?_
  refine lv_iload_n hx hb dX10_take_12 rfl (lv_at hl 0 rfl) ?_
  refine lv_aload_n hx hb dX10_take_13 rfl (lv_at hl 1 rfl) ?_
  refine va_get (D := G) (ci := 7) (v := .ref p4) (C := RX10) (T := TX10) (N := 71) (ref := RX10) hx hb hts h1w hown hX.1 hP 0 rfl rfl 3 (by decide) h0w (fun _ h9 => h9) rfl dX10_take_14 ?_
  refine lv_bipush (v := 7) hx hb dX10_take_17 (by decide +kernel) ?_
  refine lv_iload_n hx hb dX10_take_19 rfl (lv_at hl 0 rfl) ?_
  refine lv_iadd hx hb dX10_take_20 ?_
  refine cz_ti (w := 13) (by decide +kernel) ?_
  refine va_iald hx hb hX.1 hP 1 0 rfl rfl (by unfold vp_in; decide +kernel) dX10_take_21 ?_
  refine cz_ti (w := 0) (by rfl) ?_
  refine va_iast hx hb hX.1 hP hD hS 1 0 rfl rfl (by unfold vp_in; decide +kernel) dX10_take_22 (fun H locs hP hD hS => ?_)
  refine lv_iinc (v := 7) (lv' := [(1, .int 7), (0, .ref p0)]) hx hb dX10_take_23 hl (k := 0) rfl (by decide +kernel) (by decide) rfl (fun ls hl => ?_)
  refine lv_goto (tgt := 2) hx hb dX10_take_26 (by decide) ?_
  refine lv_iload_n hx hb dX10_take_2 rfl (lv_at hl 0 rfl) ?_
  refine lv_bipush (v := 7) hx hb dX10_take_3 (by decide +kernel) ?_
  refine lv_icmp_ge (tgt := 29) hx hb dX10_take_5 (by decide) (fun _ => ?_) (fun q => absurd (by decide +kernel) (q))
  refine lv_aload_n hx hb dX10_take_29 rfl (lv_at hl 1 rfl) ?_
  refine lv_aload_n hx hb dX10_take_30 rfl (lv_at hl 1 rfl) ?_
  refine va_get (D := G) (ci := 7) (v := .int 0) (C := RX10) (T := TX10) (N := 71) (ref := RX10) hx hb hts h1w hown hX.1 hP 0 rfl rfl 14 (by decide) h2w (fun _ h9 => h9) rfl dX10_take_31 ?_
  refine va_put (D := G) (ci := 7) (v := .int 0) (ty := .int) (C := RX10) (T := TX10) (N := 71) (ref := RX10) hx hb hts h1w tyX10 tyX10_ok nmX10 hown hX.1 hP hD hS 0 rfl rfl 12 (by decide) h3w (fun _ h9 => h9) rfl (by decide +kernel) rfl rfl (Nat.le_of_ble_eq_true rfl) dX10_take_34 (fun H locs hP hD hS => ?_)
  refine lv_aload_n hx hb dX10_take_37 rfl (lv_at hl 1 rfl) ?_
  refine lv_aload_n hx hb dX10_take_38 rfl (lv_at hl 1 rfl) ?_
  refine va_get (D := G) (ci := 7) (v := .int 0) (C := RX10) (T := TX10) (N := 71) (ref := RX10) hx hb hts h1w hown hX.1 hP 0 rfl rfl 15 (by decide) h4w (fun _ h9 => h9) rfl dX10_take_39 ?_
  refine va_put (D := G) (ci := 7) (v := .int 0) (ty := .int) (C := RX10) (T := TX10) (N := 71) (ref := RX10) hx hb hts h1w tyX10 tyX10_ok nmX10 hown hX.1 hP hD hS 0 rfl rfl 13 (by decide) h5w (fun _ h9 => h9) rfl (by decide +kernel) rfl rfl (Nat.le_of_ble_eq_true rfl) dX10_take_42 (fun H locs hP hD hS => ?_)
  refine lv_iconst (v := 0) hx hb dX10_take_45 (by decide +kernel) ?_
  refine lv_istore_n (lv' := [(1, .int 0), (0, .ref p0)]) hx hb dX10_take_46 rfl hl (by decide) rfl (fun ls hl => ?_)
  refine lv_iload_n hx hb dX10_take_47 rfl (lv_at hl 0 rfl) ?_
  refine lv_bipush (v := 7) hx hb dX10_take_48 (by decide +kernel) ?_
  refine lv_icmp_ge (tgt := 119) hx hb dX10_take_50 (by decide) (fun q => absurd (q) (by decide +kernel)) (fun _ => ?_)
  refine lv_aload_n hx hb dX10_take_53 rfl (lv_at hl 1 rfl) ?_
  refine va_get (D := G) (ci := 7) (v := .ref p5) (C := RX10) (T := TX10) (N := 71) (ref := RX10) hx hb hts h1w hown hX.1 hP 0 rfl rfl 4 (by decide) h6w (fun _ h9 => h9) rfl dX10_take_54 ?_
  refine lv_iload_n hx hb dX10_take_57 rfl (lv_at hl 0 rfl) ?_
  refine lv_aload_n hx hb dX10_take_58 rfl (lv_at hl 1 rfl) ?_
  refine va_get (D := G) (ci := 7) (v := .ref p5) (C := RX10) (T := TX10) (N := 71) (ref := RX10) hx hb hts h1w hown hX.1 hP 0 rfl rfl 4 (by decide) h6w (fun _ h9 => h9) rfl dX10_take_59 ?_
  refine lv_bipush (v := 7) hx hb dX10_take_62 (by decide +kernel) ?_
  refine lv_iload_n hx hb dX10_take_64 rfl (lv_at hl 0 rfl) ?_
  refine lv_iadd hx hb dX10_take_65 ?_
  refine cz_ti (w := 7) (by decide +kernel) ?_
  refine va_iald hx hb hX.1 hP 2 0 rfl rfl (by unfold vp_in; decide +kernel) dX10_take_66 ?_
  refine cz_ti (w := 0) (by rfl) ?_
  refine va_iast hx hb hX.1 hP hD hS 2 0 rfl rfl (by unfold vp_in; decide +kernel) dX10_take_67 (fun H locs hP hD hS => ?_)
  refine lv_aload_n hx hb dX10_take_68 rfl (lv_at hl 1 rfl) ?_
  refine va_get (D := G) (ci := 7) (v := .ref p6) (C := RX10) (T := TX10) (N := 71) (ref := RX10) hx hb hts h1w hown hX.1 hP 0 rfl rfl 5 (by decide) h7w (fun _ h9 => h9) rfl dX10_take_69 ?_
  refine lv_iload_n hx hb dX10_take_72 rfl (lv_at hl 0 rfl) ?_
  refine lv_aload_n hx hb dX10_take_73 rfl (lv_at hl 1 rfl) ?_
  refine va_get (D := G) (ci := 7) (v := .ref p6) (C := RX10) (T := TX10) (N := 71) (ref := RX10) hx hb hts h1w hown hX.1 hP 0 rfl rfl 5 (by decide) h7w (fun _ h9 => h9) rfl dX10_take_74 ?_
  refine lv_bipush (v := 7) hx hb dX10_take_77 (by decide +kernel) ?_
  refine lv_iload_n hx hb dX10_take_79 rfl (lv_at hl 0 rfl) ?_
  refine lv_iadd hx hb dX10_take_80 ?_
  refine cz_ti (w := 7) (by decide +kernel) ?_
  refine va_iald hx hb hX.1 hP 3 0 rfl rfl (by unfold vp_in; decide +kernel) dX10_take_81 ?_
  refine cz_ti (w := 0) (by rfl) ?_
  refine va_iast hx hb hX.1 hP hD hS 3 0 rfl rfl (by unfold vp_in; decide +kernel) dX10_take_82 (fun H locs hP hD hS => ?_)
  refine lv_aload_n hx hb dX10_take_83 rfl (lv_at hl 1 rfl) ?_
  refine va_get (D := G) (ci := 7) (v := .ref p7) (C := RX10) (T := TX10) (N := 71) (ref := RX10) hx hb hts h1w hown hX.1 hP 0 rfl rfl 6 (by decide) h8w (fun _ h9 => h9) rfl dX10_take_84 ?_
  refine lv_iload_n hx hb dX10_take_87 rfl (lv_at hl 0 rfl) ?_
  refine lv_aload_n hx hb dX10_take_88 rfl (lv_at hl 1 rfl) ?_
  refine va_get (D := G) (ci := 7) (v := .ref p7) (C := RX10) (T := TX10) (N := 71) (ref := RX10) hx hb hts h1w hown hX.1 hP 0 rfl rfl 6 (by decide) h8w (fun _ h9 => h9) rfl dX10_take_89 ?_
  refine lv_bipush (v := 7) hx hb dX10_take_92 (by decide +kernel) ?_
  refine lv_iload_n hx hb dX10_take_94 rfl (lv_at hl 0 rfl) ?_
  refine lv_iadd hx hb dX10_take_95 ?_
  refine cz_ti (w := 7) (by decide +kernel) ?_
  refine va_iald hx hb hX.1 hP 4 0 rfl rfl (by unfold vp_in; decide +kernel) dX10_take_96 ?_
  refine cz_ti (w := 0) (by rfl) ?_
  refine va_iast hx hb hX.1 hP hD hS 4 0 rfl rfl (by unfold vp_in; decide +kernel) dX10_take_97 (fun H locs hP hD hS => ?_)
  obtain ⟨hP, hD⟩ : va_P G vwCl [(p0, .inr (7, (v1 :: v2 :: v3 :: .ref p4 :: .ref p5 :: .ref p6 :: .ref p7 :: .ref p8 :: .ref p9 :: .ref p10 :: v11 :: v12 :: .int 0 :: .int 0 :: .int 0 :: .int 0 :: v14 :: v15 :: v16 :: v17 :: v18 :: v19 :: v20 :: v21 :: v22 :: v23 :: v24 :: .int 0 :: v25 :: v26 :: v27 :: v28 :: .ref p29 :: v30 :: v31 :: v32 :: v33 :: v34 :: v35 :: v36 :: v37 :: v38 :: v39 :: v40 :: v41 :: v42 :: v43 :: v44 :: v45 :: v46 :: v47 :: v48 :: v49 :: v50 :: v51 :: v52 :: v53 :: v54 :: v55 :: v56 :: v57 :: v58 :: v59 :: v60 :: v61 :: v62 :: v63 :: v64 :: v65 :: v66 :: v67 :: []))), (p4, .inl (k 0, 14, .inl (upd (upd (upd (upd (upd (upd (upd (upd (upd (upd (upd (upd (upd (upd (upd (upd (upd (upd (upd (upd (upd (fun _ => 0) (0 : Int32).toNatClampNeg 1) (1 : Int32).toNatClampNeg 0) (2 : Int32).toNatClampNeg 99) (3 : Int32).toNatClampNeg 0) (4 : Int32).toNatClampNeg 1) (5 : Int32).toNatClampNeg 20) (6 : Int32).toNatClampNeg 0) (7 : Int32).toNatClampNeg 1) (8 : Int32).toNatClampNeg 0) (9 : Int32).toNatClampNeg 99) (10 : Int32).toNatClampNeg 0) (11 : Int32).toNatClampNeg 1) (12 : Int32).toNatClampNeg 20) (13 : Int32).toNatClampNeg 0) (0 : Int32).toNatClampNeg 1) (1 : Int32).toNatClampNeg 0) (2 : Int32).toNatClampNeg 99) (3 : Int32).toNatClampNeg 0) (4 : Int32).toNatClampNeg 1) (5 : Int32).toNatClampNeg 20) (6 : Int32).toNatClampNeg 0))), (p5, .inl (k 0, 14, .inl (upd (fun _ => 0) (0 : Int32).toNatClampNeg 0))), (p6, .inl (k 0, 14, .inl (upd (fun _ => 0) (0 : Int32).toNatClampNeg 0))), (p7, .inl (k 0, 14, .inl (upd (fun _ => 0) (0 : Int32).toNatClampNeg 0))), (p8, .inl (k 0, 14, .inl (fun _ => 0))), (p9, .inl (k 0, 8, .inl (fun _ => 0))), (p10, .inl (k 0, 8, .inl (fun _ => 0))), (p29, .inl (k 0, 7, .inl f68))] H ∧ va_D A [(p0, .inr (7, (v1 :: v2 :: v3 :: .ref p4 :: .ref p5 :: .ref p6 :: .ref p7 :: .ref p8 :: .ref p9 :: .ref p10 :: v11 :: v12 :: .int 0 :: .int 0 :: .int 0 :: .int 0 :: v14 :: v15 :: v16 :: v17 :: v18 :: v19 :: v20 :: v21 :: v22 :: v23 :: v24 :: .int 0 :: v25 :: v26 :: v27 :: v28 :: .ref p29 :: v30 :: v31 :: v32 :: v33 :: v34 :: v35 :: v36 :: v37 :: v38 :: v39 :: v40 :: v41 :: v42 :: v43 :: v44 :: v45 :: v46 :: v47 :: v48 :: v49 :: v50 :: v51 :: v52 :: v53 :: v54 :: v55 :: v56 :: v57 :: v58 :: v59 :: v60 :: v61 :: v62 :: v63 :: v64 :: v65 :: v66 :: v67 :: []))), (p4, .inl (k 0, 14, .inl (upd (upd (upd (upd (upd (upd (upd (upd (upd (upd (upd (upd (upd (upd (upd (upd (upd (upd (upd (upd (upd (fun _ => 0) (0 : Int32).toNatClampNeg 1) (1 : Int32).toNatClampNeg 0) (2 : Int32).toNatClampNeg 99) (3 : Int32).toNatClampNeg 0) (4 : Int32).toNatClampNeg 1) (5 : Int32).toNatClampNeg 20) (6 : Int32).toNatClampNeg 0) (7 : Int32).toNatClampNeg 1) (8 : Int32).toNatClampNeg 0) (9 : Int32).toNatClampNeg 99) (10 : Int32).toNatClampNeg 0) (11 : Int32).toNatClampNeg 1) (12 : Int32).toNatClampNeg 20) (13 : Int32).toNatClampNeg 0) (0 : Int32).toNatClampNeg 1) (1 : Int32).toNatClampNeg 0) (2 : Int32).toNatClampNeg 99) (3 : Int32).toNatClampNeg 0) (4 : Int32).toNatClampNeg 1) (5 : Int32).toNatClampNeg 20) (6 : Int32).toNatClampNeg 0))), (p5, .inl (k 0, 14, .inl (upd (fun _ => 0) (0 : Int32).toNatClampNeg 0))), (p6, .inl (k 0, 14, .inl (upd (fun _ => 0) (0 : Int32).toNatClampNeg 0))), (p7, .inl (k 0, 14, .inl (upd (fun _ => 0) (0 : Int32).toNatClampNeg 0))), (p8, .inl (k 0, 14, .inl (fun _ => 0))), (p9, .inl (k 0, 8, .inl (fun _ => 0))), (p10, .inl (k 0, 8, .inl (fun _ => 0))), (p29, .inl (k 0, 7, .inl f68))] := ⟨hP, hD⟩
  refine lv_aload_n hx hb dX10_take_98 rfl (lv_at hl 1 rfl) ?_
  refine va_get (D := G) (ci := 7) (v := .ref p8) (C := RX10) (T := TX10) (N := 71) (ref := RX10) hx hb hts h1w hown hX.1 hP 0 rfl rfl 7 (by decide) h9w (fun _ h9 => h9) rfl dX10_take_99 ?_
  refine lv_iload_n hx hb dX10_take_102 rfl (lv_at hl 0 rfl) ?_
  refine lv_aload_n hx hb dX10_take_103 rfl (lv_at hl 1 rfl) ?_
  refine va_get (D := G) (ci := 7) (v := .ref p8) (C := RX10) (T := TX10) (N := 71) (ref := RX10) hx hb hts h1w hown hX.1 hP 0 rfl rfl 7 (by decide) h9w (fun _ h9 => h9) rfl dX10_take_104 ?_
  refine lv_bipush (v := 7) hx hb dX10_take_107 (by decide +kernel) ?_
  refine lv_iload_n hx hb dX10_take_109 rfl (lv_at hl 0 rfl) ?_
  refine lv_iadd hx hb dX10_take_110 ?_
  refine cz_ti (w := 7) (by decide +kernel) ?_
  refine va_iald hx hb hX.1 hP 5 0 rfl rfl (by unfold vp_in; decide +kernel) dX10_take_111 ?_
  refine cz_ti (w := 0) (by rfl) ?_
  refine va_iast hx hb hX.1 hP hD hS 5 0 rfl rfl (by unfold vp_in; decide +kernel) dX10_take_112 (fun H locs hP hD hS => ?_)
  refine lv_iinc (v := 1) (lv' := [(1, .int 1), (0, .ref p0)]) hx hb dX10_take_113 hl (k := 0) rfl (by decide +kernel) (by decide) rfl (fun ls hl => ?_)
  refine lv_goto (tgt := 47) hx hb dX10_take_116 (by decide) ?_
  refine lv_iload_n hx hb dX10_take_47 rfl (lv_at hl 0 rfl) ?_
  refine lv_bipush (v := 7) hx hb dX10_take_48 (by decide +kernel) ?_
  refine lv_icmp_ge (tgt := 119) hx hb dX10_take_50 (by decide) (fun q => absurd (q) (by decide +kernel)) (fun _ => ?_)
  refine lv_aload_n hx hb dX10_take_53 rfl (lv_at hl 1 rfl) ?_
  refine va_get (D := G) (ci := 7) (v := .ref p5) (C := RX10) (T := TX10) (N := 71) (ref := RX10) hx hb hts h1w hown hX.1 hP 0 rfl rfl 4 (by decide) h6w (fun _ h9 => h9) rfl dX10_take_54 ?_
  refine lv_iload_n hx hb dX10_take_57 rfl (lv_at hl 0 rfl) ?_
  refine lv_aload_n hx hb dX10_take_58 rfl (lv_at hl 1 rfl) ?_
  refine va_get (D := G) (ci := 7) (v := .ref p5) (C := RX10) (T := TX10) (N := 71) (ref := RX10) hx hb hts h1w hown hX.1 hP 0 rfl rfl 4 (by decide) h6w (fun _ h9 => h9) rfl dX10_take_59 ?_
  refine lv_bipush (v := 7) hx hb dX10_take_62 (by decide +kernel) ?_
  refine lv_iload_n hx hb dX10_take_64 rfl (lv_at hl 0 rfl) ?_
  refine lv_iadd hx hb dX10_take_65 ?_
  refine cz_ti (w := 8) (by decide +kernel) ?_
  refine va_iald hx hb hX.1 hP 2 0 rfl rfl (by unfold vp_in; decide +kernel) dX10_take_66 ?_
  refine cz_ti (w := 0) (by rfl) ?_
  refine va_iast hx hb hX.1 hP hD hS 2 0 rfl rfl (by unfold vp_in; decide +kernel) dX10_take_67 (fun H locs hP hD hS => ?_)
  refine lv_aload_n hx hb dX10_take_68 rfl (lv_at hl 1 rfl) ?_
  refine va_get (D := G) (ci := 7) (v := .ref p6) (C := RX10) (T := TX10) (N := 71) (ref := RX10) hx hb hts h1w hown hX.1 hP 0 rfl rfl 5 (by decide) h7w (fun _ h9 => h9) rfl dX10_take_69 ?_
  refine lv_iload_n hx hb dX10_take_72 rfl (lv_at hl 0 rfl) ?_
  refine lv_aload_n hx hb dX10_take_73 rfl (lv_at hl 1 rfl) ?_
  refine va_get (D := G) (ci := 7) (v := .ref p6) (C := RX10) (T := TX10) (N := 71) (ref := RX10) hx hb hts h1w hown hX.1 hP 0 rfl rfl 5 (by decide) h7w (fun _ h9 => h9) rfl dX10_take_74 ?_
  refine lv_bipush (v := 7) hx hb dX10_take_77 (by decide +kernel) ?_
  refine lv_iload_n hx hb dX10_take_79 rfl (lv_at hl 0 rfl) ?_
  refine lv_iadd hx hb dX10_take_80 ?_
  refine cz_ti (w := 8) (by decide +kernel) ?_
  refine va_iald hx hb hX.1 hP 3 0 rfl rfl (by unfold vp_in; decide +kernel) dX10_take_81 ?_
  refine cz_ti (w := 0) (by rfl) ?_
  refine va_iast hx hb hX.1 hP hD hS 3 0 rfl rfl (by unfold vp_in; decide +kernel) dX10_take_82 (fun H locs hP hD hS => ?_)
  refine lv_aload_n hx hb dX10_take_83 rfl (lv_at hl 1 rfl) ?_
  refine va_get (D := G) (ci := 7) (v := .ref p7) (C := RX10) (T := TX10) (N := 71) (ref := RX10) hx hb hts h1w hown hX.1 hP 0 rfl rfl 6 (by decide) h8w (fun _ h9 => h9) rfl dX10_take_84 ?_
  refine lv_iload_n hx hb dX10_take_87 rfl (lv_at hl 0 rfl) ?_
  refine lv_aload_n hx hb dX10_take_88 rfl (lv_at hl 1 rfl) ?_
  refine va_get (D := G) (ci := 7) (v := .ref p7) (C := RX10) (T := TX10) (N := 71) (ref := RX10) hx hb hts h1w hown hX.1 hP 0 rfl rfl 6 (by decide) h8w (fun _ h9 => h9) rfl dX10_take_89 ?_
  refine lv_bipush (v := 7) hx hb dX10_take_92 (by decide +kernel) ?_
  refine lv_iload_n hx hb dX10_take_94 rfl (lv_at hl 0 rfl) ?_
  refine lv_iadd hx hb dX10_take_95 ?_
  refine cz_ti (w := 8) (by decide +kernel) ?_
  refine va_iald hx hb hX.1 hP 4 0 rfl rfl (by unfold vp_in; decide +kernel) dX10_take_96 ?_
  refine cz_ti (w := 0) (by rfl) ?_
  refine va_iast hx hb hX.1 hP hD hS 4 0 rfl rfl (by unfold vp_in; decide +kernel) dX10_take_97 (fun H locs hP hD hS => ?_)
  refine lv_aload_n hx hb dX10_take_98 rfl (lv_at hl 1 rfl) ?_
  refine va_get (D := G) (ci := 7) (v := .ref p8) (C := RX10) (T := TX10) (N := 71) (ref := RX10) hx hb hts h1w hown hX.1 hP 0 rfl rfl 7 (by decide) h9w (fun _ h9 => h9) rfl dX10_take_99 ?_
  refine lv_iload_n hx hb dX10_take_102 rfl (lv_at hl 0 rfl) ?_
  refine lv_aload_n hx hb dX10_take_103 rfl (lv_at hl 1 rfl) ?_
  refine va_get (D := G) (ci := 7) (v := .ref p8) (C := RX10) (T := TX10) (N := 71) (ref := RX10) hx hb hts h1w hown hX.1 hP 0 rfl rfl 7 (by decide) h9w (fun _ h9 => h9) rfl dX10_take_104 ?_
  refine lv_bipush (v := 7) hx hb dX10_take_107 (by decide +kernel) ?_
  refine lv_iload_n hx hb dX10_take_109 rfl (lv_at hl 0 rfl) ?_
  refine lv_iadd hx hb dX10_take_110 ?_
  refine cz_ti (w := 8) (by decide +kernel) ?_
  refine va_iald hx hb hX.1 hP 5 0 rfl rfl (by unfold vp_in; decide +kernel) dX10_take_111 ?_
  refine cz_ti (w := 0) (by rfl) ?_
  refine va_iast hx hb hX.1 hP hD hS 5 0 rfl rfl (by unfold vp_in; decide +kernel) dX10_take_112 (fun H locs hP hD hS => ?_)
  refine lv_iinc (v := 2) (lv' := [(1, .int 2), (0, .ref p0)]) hx hb dX10_take_113 hl (k := 0) rfl (by decide +kernel) (by decide) rfl (fun ls hl => ?_)
  refine lv_goto (tgt := 47) hx hb dX10_take_116 (by decide) ?_
  refine lv_iload_n hx hb dX10_take_47 rfl (lv_at hl 0 rfl) ?_
  refine lv_bipush (v := 7) hx hb dX10_take_48 (by decide +kernel) ?_
  refine lv_icmp_ge (tgt := 119) hx hb dX10_take_50 (by decide) (fun q => absurd (q) (by decide +kernel)) (fun _ => ?_)
  refine lv_aload_n hx hb dX10_take_53 rfl (lv_at hl 1 rfl) ?_
  refine va_get (D := G) (ci := 7) (v := .ref p5) (C := RX10) (T := TX10) (N := 71) (ref := RX10) hx hb hts h1w hown hX.1 hP 0 rfl rfl 4 (by decide) h6w (fun _ h9 => h9) rfl dX10_take_54 ?_
  refine lv_iload_n hx hb dX10_take_57 rfl (lv_at hl 0 rfl) ?_
  refine lv_aload_n hx hb dX10_take_58 rfl (lv_at hl 1 rfl) ?_
  refine va_get (D := G) (ci := 7) (v := .ref p5) (C := RX10) (T := TX10) (N := 71) (ref := RX10) hx hb hts h1w hown hX.1 hP 0 rfl rfl 4 (by decide) h6w (fun _ h9 => h9) rfl dX10_take_59 ?_
  refine lv_bipush (v := 7) hx hb dX10_take_62 (by decide +kernel) ?_
  refine lv_iload_n hx hb dX10_take_64 rfl (lv_at hl 0 rfl) ?_
  refine lv_iadd hx hb dX10_take_65 ?_
  refine cz_ti (w := 9) (by decide +kernel) ?_
  refine va_iald hx hb hX.1 hP 2 0 rfl rfl (by unfold vp_in; decide +kernel) dX10_take_66 ?_
  refine cz_ti (w := 0) (by rfl) ?_
  refine va_iast hx hb hX.1 hP hD hS 2 0 rfl rfl (by unfold vp_in; decide +kernel) dX10_take_67 (fun H locs hP hD hS => ?_)
  obtain ⟨hP, hD⟩ : va_P G vwCl [(p0, .inr (7, (v1 :: v2 :: v3 :: .ref p4 :: .ref p5 :: .ref p6 :: .ref p7 :: .ref p8 :: .ref p9 :: .ref p10 :: v11 :: v12 :: .int 0 :: .int 0 :: .int 0 :: .int 0 :: v14 :: v15 :: v16 :: v17 :: v18 :: v19 :: v20 :: v21 :: v22 :: v23 :: v24 :: .int 0 :: v25 :: v26 :: v27 :: v28 :: .ref p29 :: v30 :: v31 :: v32 :: v33 :: v34 :: v35 :: v36 :: v37 :: v38 :: v39 :: v40 :: v41 :: v42 :: v43 :: v44 :: v45 :: v46 :: v47 :: v48 :: v49 :: v50 :: v51 :: v52 :: v53 :: v54 :: v55 :: v56 :: v57 :: v58 :: v59 :: v60 :: v61 :: v62 :: v63 :: v64 :: v65 :: v66 :: v67 :: []))), (p4, .inl (k 0, 14, .inl (upd (upd (upd (upd (upd (upd (upd (upd (upd (upd (upd (upd (upd (upd (upd (upd (upd (upd (upd (upd (upd (fun _ => 0) (0 : Int32).toNatClampNeg 1) (1 : Int32).toNatClampNeg 0) (2 : Int32).toNatClampNeg 99) (3 : Int32).toNatClampNeg 0) (4 : Int32).toNatClampNeg 1) (5 : Int32).toNatClampNeg 20) (6 : Int32).toNatClampNeg 0) (7 : Int32).toNatClampNeg 1) (8 : Int32).toNatClampNeg 0) (9 : Int32).toNatClampNeg 99) (10 : Int32).toNatClampNeg 0) (11 : Int32).toNatClampNeg 1) (12 : Int32).toNatClampNeg 20) (13 : Int32).toNatClampNeg 0) (0 : Int32).toNatClampNeg 1) (1 : Int32).toNatClampNeg 0) (2 : Int32).toNatClampNeg 99) (3 : Int32).toNatClampNeg 0) (4 : Int32).toNatClampNeg 1) (5 : Int32).toNatClampNeg 20) (6 : Int32).toNatClampNeg 0))), (p5, .inl (k 0, 14, .inl (upd (upd (upd (fun _ => 0) (0 : Int32).toNatClampNeg 0) (1 : Int32).toNatClampNeg 0) (2 : Int32).toNatClampNeg 0))), (p6, .inl (k 0, 14, .inl (upd (upd (fun _ => 0) (0 : Int32).toNatClampNeg 0) (1 : Int32).toNatClampNeg 0))), (p7, .inl (k 0, 14, .inl (upd (upd (fun _ => 0) (0 : Int32).toNatClampNeg 0) (1 : Int32).toNatClampNeg 0))), (p8, .inl (k 0, 14, .inl (upd (upd (fun _ => 0) (0 : Int32).toNatClampNeg 0) (1 : Int32).toNatClampNeg 0))), (p9, .inl (k 0, 8, .inl (fun _ => 0))), (p10, .inl (k 0, 8, .inl (fun _ => 0))), (p29, .inl (k 0, 7, .inl f68))] H ∧ va_D A [(p0, .inr (7, (v1 :: v2 :: v3 :: .ref p4 :: .ref p5 :: .ref p6 :: .ref p7 :: .ref p8 :: .ref p9 :: .ref p10 :: v11 :: v12 :: .int 0 :: .int 0 :: .int 0 :: .int 0 :: v14 :: v15 :: v16 :: v17 :: v18 :: v19 :: v20 :: v21 :: v22 :: v23 :: v24 :: .int 0 :: v25 :: v26 :: v27 :: v28 :: .ref p29 :: v30 :: v31 :: v32 :: v33 :: v34 :: v35 :: v36 :: v37 :: v38 :: v39 :: v40 :: v41 :: v42 :: v43 :: v44 :: v45 :: v46 :: v47 :: v48 :: v49 :: v50 :: v51 :: v52 :: v53 :: v54 :: v55 :: v56 :: v57 :: v58 :: v59 :: v60 :: v61 :: v62 :: v63 :: v64 :: v65 :: v66 :: v67 :: []))), (p4, .inl (k 0, 14, .inl (upd (upd (upd (upd (upd (upd (upd (upd (upd (upd (upd (upd (upd (upd (upd (upd (upd (upd (upd (upd (upd (fun _ => 0) (0 : Int32).toNatClampNeg 1) (1 : Int32).toNatClampNeg 0) (2 : Int32).toNatClampNeg 99) (3 : Int32).toNatClampNeg 0) (4 : Int32).toNatClampNeg 1) (5 : Int32).toNatClampNeg 20) (6 : Int32).toNatClampNeg 0) (7 : Int32).toNatClampNeg 1) (8 : Int32).toNatClampNeg 0) (9 : Int32).toNatClampNeg 99) (10 : Int32).toNatClampNeg 0) (11 : Int32).toNatClampNeg 1) (12 : Int32).toNatClampNeg 20) (13 : Int32).toNatClampNeg 0) (0 : Int32).toNatClampNeg 1) (1 : Int32).toNatClampNeg 0) (2 : Int32).toNatClampNeg 99) (3 : Int32).toNatClampNeg 0) (4 : Int32).toNatClampNeg 1) (5 : Int32).toNatClampNeg 20) (6 : Int32).toNatClampNeg 0))), (p5, .inl (k 0, 14, .inl (upd (upd (upd (fun _ => 0) (0 : Int32).toNatClampNeg 0) (1 : Int32).toNatClampNeg 0) (2 : Int32).toNatClampNeg 0))), (p6, .inl (k 0, 14, .inl (upd (upd (fun _ => 0) (0 : Int32).toNatClampNeg 0) (1 : Int32).toNatClampNeg 0))), (p7, .inl (k 0, 14, .inl (upd (upd (fun _ => 0) (0 : Int32).toNatClampNeg 0) (1 : Int32).toNatClampNeg 0))), (p8, .inl (k 0, 14, .inl (upd (upd (fun _ => 0) (0 : Int32).toNatClampNeg 0) (1 : Int32).toNatClampNeg 0))), (p9, .inl (k 0, 8, .inl (fun _ => 0))), (p10, .inl (k 0, 8, .inl (fun _ => 0))), (p29, .inl (k 0, 7, .inl f68))] := ⟨hP, hD⟩
  refine lv_aload_n hx hb dX10_take_68 rfl (lv_at hl 1 rfl) ?_
  refine va_get (D := G) (ci := 7) (v := .ref p6) (C := RX10) (T := TX10) (N := 71) (ref := RX10) hx hb hts h1w hown hX.1 hP 0 rfl rfl 5 (by decide) h7w (fun _ h9 => h9) rfl dX10_take_69 ?_
  refine lv_iload_n hx hb dX10_take_72 rfl (lv_at hl 0 rfl) ?_
  refine lv_aload_n hx hb dX10_take_73 rfl (lv_at hl 1 rfl) ?_
  refine va_get (D := G) (ci := 7) (v := .ref p6) (C := RX10) (T := TX10) (N := 71) (ref := RX10) hx hb hts h1w hown hX.1 hP 0 rfl rfl 5 (by decide) h7w (fun _ h9 => h9) rfl dX10_take_74 ?_
  refine lv_bipush (v := 7) hx hb dX10_take_77 (by decide +kernel) ?_
  refine lv_iload_n hx hb dX10_take_79 rfl (lv_at hl 0 rfl) ?_
  refine lv_iadd hx hb dX10_take_80 ?_
  refine cz_ti (w := 9) (by decide +kernel) ?_
  refine va_iald hx hb hX.1 hP 3 0 rfl rfl (by unfold vp_in; decide +kernel) dX10_take_81 ?_
  refine cz_ti (w := 0) (by rfl) ?_
  refine va_iast hx hb hX.1 hP hD hS 3 0 rfl rfl (by unfold vp_in; decide +kernel) dX10_take_82 (fun H locs hP hD hS => ?_)
  refine lv_aload_n hx hb dX10_take_83 rfl (lv_at hl 1 rfl) ?_
  refine va_get (D := G) (ci := 7) (v := .ref p7) (C := RX10) (T := TX10) (N := 71) (ref := RX10) hx hb hts h1w hown hX.1 hP 0 rfl rfl 6 (by decide) h8w (fun _ h9 => h9) rfl dX10_take_84 ?_
  refine lv_iload_n hx hb dX10_take_87 rfl (lv_at hl 0 rfl) ?_
  refine lv_aload_n hx hb dX10_take_88 rfl (lv_at hl 1 rfl) ?_
  refine va_get (D := G) (ci := 7) (v := .ref p7) (C := RX10) (T := TX10) (N := 71) (ref := RX10) hx hb hts h1w hown hX.1 hP 0 rfl rfl 6 (by decide) h8w (fun _ h9 => h9) rfl dX10_take_89 ?_
  refine lv_bipush (v := 7) hx hb dX10_take_92 (by decide +kernel) ?_
  refine lv_iload_n hx hb dX10_take_94 rfl (lv_at hl 0 rfl) ?_
  refine lv_iadd hx hb dX10_take_95 ?_
  refine cz_ti (w := 9) (by decide +kernel) ?_
  refine va_iald hx hb hX.1 hP 4 0 rfl rfl (by unfold vp_in; decide +kernel) dX10_take_96 ?_
  refine cz_ti (w := 0) (by rfl) ?_
  refine va_iast hx hb hX.1 hP hD hS 4 0 rfl rfl (by unfold vp_in; decide +kernel) dX10_take_97 (fun H locs hP hD hS => ?_)
  refine lv_aload_n hx hb dX10_take_98 rfl (lv_at hl 1 rfl) ?_
  refine va_get (D := G) (ci := 7) (v := .ref p8) (C := RX10) (T := TX10) (N := 71) (ref := RX10) hx hb hts h1w hown hX.1 hP 0 rfl rfl 7 (by decide) h9w (fun _ h9 => h9) rfl dX10_take_99 ?_
  refine lv_iload_n hx hb dX10_take_102 rfl (lv_at hl 0 rfl) ?_
  refine lv_aload_n hx hb dX10_take_103 rfl (lv_at hl 1 rfl) ?_
  refine va_get (D := G) (ci := 7) (v := .ref p8) (C := RX10) (T := TX10) (N := 71) (ref := RX10) hx hb hts h1w hown hX.1 hP 0 rfl rfl 7 (by decide) h9w (fun _ h9 => h9) rfl dX10_take_104 ?_
  refine lv_bipush (v := 7) hx hb dX10_take_107 (by decide +kernel) ?_
  refine lv_iload_n hx hb dX10_take_109 rfl (lv_at hl 0 rfl) ?_
  refine lv_iadd hx hb dX10_take_110 ?_
  refine cz_ti (w := 9) (by decide +kernel) ?_
  refine va_iald hx hb hX.1 hP 5 0 rfl rfl (by unfold vp_in; decide +kernel) dX10_take_111 ?_
  refine cz_ti (w := 0) (by rfl) ?_
  refine va_iast hx hb hX.1 hP hD hS 5 0 rfl rfl (by unfold vp_in; decide +kernel) dX10_take_112 (fun H locs hP hD hS => ?_)
  refine lv_iinc (v := 3) (lv' := [(1, .int 3), (0, .ref p0)]) hx hb dX10_take_113 hl (k := 0) rfl (by decide +kernel) (by decide) rfl (fun ls hl => ?_)
  refine lv_goto (tgt := 47) hx hb dX10_take_116 (by decide) ?_
  refine lv_iload_n hx hb dX10_take_47 rfl (lv_at hl 0 rfl) ?_
  refine lv_bipush (v := 7) hx hb dX10_take_48 (by decide +kernel) ?_
  refine lv_icmp_ge (tgt := 119) hx hb dX10_take_50 (by decide) (fun q => absurd (q) (by decide +kernel)) (fun _ => ?_)
  refine lv_aload_n hx hb dX10_take_53 rfl (lv_at hl 1 rfl) ?_
  refine va_get (D := G) (ci := 7) (v := .ref p5) (C := RX10) (T := TX10) (N := 71) (ref := RX10) hx hb hts h1w hown hX.1 hP 0 rfl rfl 4 (by decide) h6w (fun _ h9 => h9) rfl dX10_take_54 ?_
  refine lv_iload_n hx hb dX10_take_57 rfl (lv_at hl 0 rfl) ?_
  refine lv_aload_n hx hb dX10_take_58 rfl (lv_at hl 1 rfl) ?_
  refine va_get (D := G) (ci := 7) (v := .ref p5) (C := RX10) (T := TX10) (N := 71) (ref := RX10) hx hb hts h1w hown hX.1 hP 0 rfl rfl 4 (by decide) h6w (fun _ h9 => h9) rfl dX10_take_59 ?_
  refine lv_bipush (v := 7) hx hb dX10_take_62 (by decide +kernel) ?_
  refine lv_iload_n hx hb dX10_take_64 rfl (lv_at hl 0 rfl) ?_
  refine lv_iadd hx hb dX10_take_65 ?_
  refine cz_ti (w := 10) (by decide +kernel) ?_
  refine va_iald hx hb hX.1 hP 2 0 rfl rfl (by unfold vp_in; decide +kernel) dX10_take_66 ?_
  refine cz_ti (w := 0) (by rfl) ?_
  refine va_iast hx hb hX.1 hP hD hS 2 0 rfl rfl (by unfold vp_in; decide +kernel) dX10_take_67 (fun H locs hP hD hS => ?_)
  refine lv_aload_n hx hb dX10_take_68 rfl (lv_at hl 1 rfl) ?_
  refine va_get (D := G) (ci := 7) (v := .ref p6) (C := RX10) (T := TX10) (N := 71) (ref := RX10) hx hb hts h1w hown hX.1 hP 0 rfl rfl 5 (by decide) h7w (fun _ h9 => h9) rfl dX10_take_69 ?_
  refine lv_iload_n hx hb dX10_take_72 rfl (lv_at hl 0 rfl) ?_
  refine lv_aload_n hx hb dX10_take_73 rfl (lv_at hl 1 rfl) ?_
  refine va_get (D := G) (ci := 7) (v := .ref p6) (C := RX10) (T := TX10) (N := 71) (ref := RX10) hx hb hts h1w hown hX.1 hP 0 rfl rfl 5 (by decide) h7w (fun _ h9 => h9) rfl dX10_take_74 ?_
  refine lv_bipush (v := 7) hx hb dX10_take_77 (by decide +kernel) ?_
  refine lv_iload_n hx hb dX10_take_79 rfl (lv_at hl 0 rfl) ?_
  refine lv_iadd hx hb dX10_take_80 ?_
  refine cz_ti (w := 10) (by decide +kernel) ?_
  refine va_iald hx hb hX.1 hP 3 0 rfl rfl (by unfold vp_in; decide +kernel) dX10_take_81 ?_
  refine cz_ti (w := 0) (by rfl) ?_
  refine va_iast hx hb hX.1 hP hD hS 3 0 rfl rfl (by unfold vp_in; decide +kernel) dX10_take_82 (fun H locs hP hD hS => ?_)
  refine lv_aload_n hx hb dX10_take_83 rfl (lv_at hl 1 rfl) ?_
  refine va_get (D := G) (ci := 7) (v := .ref p7) (C := RX10) (T := TX10) (N := 71) (ref := RX10) hx hb hts h1w hown hX.1 hP 0 rfl rfl 6 (by decide) h8w (fun _ h9 => h9) rfl dX10_take_84 ?_
  refine lv_iload_n hx hb dX10_take_87 rfl (lv_at hl 0 rfl) ?_
  refine lv_aload_n hx hb dX10_take_88 rfl (lv_at hl 1 rfl) ?_
  refine va_get (D := G) (ci := 7) (v := .ref p7) (C := RX10) (T := TX10) (N := 71) (ref := RX10) hx hb hts h1w hown hX.1 hP 0 rfl rfl 6 (by decide) h8w (fun _ h9 => h9) rfl dX10_take_89 ?_
  refine lv_bipush (v := 7) hx hb dX10_take_92 (by decide +kernel) ?_
  refine lv_iload_n hx hb dX10_take_94 rfl (lv_at hl 0 rfl) ?_
  refine lv_iadd hx hb dX10_take_95 ?_
  refine cz_ti (w := 10) (by decide +kernel) ?_
  refine va_iald hx hb hX.1 hP 4 0 rfl rfl (by unfold vp_in; decide +kernel) dX10_take_96 ?_
  refine cz_ti (w := 0) (by rfl) ?_
  refine va_iast hx hb hX.1 hP hD hS 4 0 rfl rfl (by unfold vp_in; decide +kernel) dX10_take_97 (fun H locs hP hD hS => ?_)
  obtain ⟨hP, hD⟩ : va_P G vwCl [(p0, .inr (7, (v1 :: v2 :: v3 :: .ref p4 :: .ref p5 :: .ref p6 :: .ref p7 :: .ref p8 :: .ref p9 :: .ref p10 :: v11 :: v12 :: .int 0 :: .int 0 :: .int 0 :: .int 0 :: v14 :: v15 :: v16 :: v17 :: v18 :: v19 :: v20 :: v21 :: v22 :: v23 :: v24 :: .int 0 :: v25 :: v26 :: v27 :: v28 :: .ref p29 :: v30 :: v31 :: v32 :: v33 :: v34 :: v35 :: v36 :: v37 :: v38 :: v39 :: v40 :: v41 :: v42 :: v43 :: v44 :: v45 :: v46 :: v47 :: v48 :: v49 :: v50 :: v51 :: v52 :: v53 :: v54 :: v55 :: v56 :: v57 :: v58 :: v59 :: v60 :: v61 :: v62 :: v63 :: v64 :: v65 :: v66 :: v67 :: []))), (p4, .inl (k 0, 14, .inl (upd (upd (upd (upd (upd (upd (upd (upd (upd (upd (upd (upd (upd (upd (upd (upd (upd (upd (upd (upd (upd (fun _ => 0) (0 : Int32).toNatClampNeg 1) (1 : Int32).toNatClampNeg 0) (2 : Int32).toNatClampNeg 99) (3 : Int32).toNatClampNeg 0) (4 : Int32).toNatClampNeg 1) (5 : Int32).toNatClampNeg 20) (6 : Int32).toNatClampNeg 0) (7 : Int32).toNatClampNeg 1) (8 : Int32).toNatClampNeg 0) (9 : Int32).toNatClampNeg 99) (10 : Int32).toNatClampNeg 0) (11 : Int32).toNatClampNeg 1) (12 : Int32).toNatClampNeg 20) (13 : Int32).toNatClampNeg 0) (0 : Int32).toNatClampNeg 1) (1 : Int32).toNatClampNeg 0) (2 : Int32).toNatClampNeg 99) (3 : Int32).toNatClampNeg 0) (4 : Int32).toNatClampNeg 1) (5 : Int32).toNatClampNeg 20) (6 : Int32).toNatClampNeg 0))), (p5, .inl (k 0, 14, .inl (upd (upd (upd (upd (fun _ => 0) (0 : Int32).toNatClampNeg 0) (1 : Int32).toNatClampNeg 0) (2 : Int32).toNatClampNeg 0) (3 : Int32).toNatClampNeg 0))), (p6, .inl (k 0, 14, .inl (upd (upd (upd (upd (fun _ => 0) (0 : Int32).toNatClampNeg 0) (1 : Int32).toNatClampNeg 0) (2 : Int32).toNatClampNeg 0) (3 : Int32).toNatClampNeg 0))), (p7, .inl (k 0, 14, .inl (upd (upd (upd (upd (fun _ => 0) (0 : Int32).toNatClampNeg 0) (1 : Int32).toNatClampNeg 0) (2 : Int32).toNatClampNeg 0) (3 : Int32).toNatClampNeg 0))), (p8, .inl (k 0, 14, .inl (upd (upd (upd (fun _ => 0) (0 : Int32).toNatClampNeg 0) (1 : Int32).toNatClampNeg 0) (2 : Int32).toNatClampNeg 0))), (p9, .inl (k 0, 8, .inl (fun _ => 0))), (p10, .inl (k 0, 8, .inl (fun _ => 0))), (p29, .inl (k 0, 7, .inl f68))] H ∧ va_D A [(p0, .inr (7, (v1 :: v2 :: v3 :: .ref p4 :: .ref p5 :: .ref p6 :: .ref p7 :: .ref p8 :: .ref p9 :: .ref p10 :: v11 :: v12 :: .int 0 :: .int 0 :: .int 0 :: .int 0 :: v14 :: v15 :: v16 :: v17 :: v18 :: v19 :: v20 :: v21 :: v22 :: v23 :: v24 :: .int 0 :: v25 :: v26 :: v27 :: v28 :: .ref p29 :: v30 :: v31 :: v32 :: v33 :: v34 :: v35 :: v36 :: v37 :: v38 :: v39 :: v40 :: v41 :: v42 :: v43 :: v44 :: v45 :: v46 :: v47 :: v48 :: v49 :: v50 :: v51 :: v52 :: v53 :: v54 :: v55 :: v56 :: v57 :: v58 :: v59 :: v60 :: v61 :: v62 :: v63 :: v64 :: v65 :: v66 :: v67 :: []))), (p4, .inl (k 0, 14, .inl (upd (upd (upd (upd (upd (upd (upd (upd (upd (upd (upd (upd (upd (upd (upd (upd (upd (upd (upd (upd (upd (fun _ => 0) (0 : Int32).toNatClampNeg 1) (1 : Int32).toNatClampNeg 0) (2 : Int32).toNatClampNeg 99) (3 : Int32).toNatClampNeg 0) (4 : Int32).toNatClampNeg 1) (5 : Int32).toNatClampNeg 20) (6 : Int32).toNatClampNeg 0) (7 : Int32).toNatClampNeg 1) (8 : Int32).toNatClampNeg 0) (9 : Int32).toNatClampNeg 99) (10 : Int32).toNatClampNeg 0) (11 : Int32).toNatClampNeg 1) (12 : Int32).toNatClampNeg 20) (13 : Int32).toNatClampNeg 0) (0 : Int32).toNatClampNeg 1) (1 : Int32).toNatClampNeg 0) (2 : Int32).toNatClampNeg 99) (3 : Int32).toNatClampNeg 0) (4 : Int32).toNatClampNeg 1) (5 : Int32).toNatClampNeg 20) (6 : Int32).toNatClampNeg 0))), (p5, .inl (k 0, 14, .inl (upd (upd (upd (upd (fun _ => 0) (0 : Int32).toNatClampNeg 0) (1 : Int32).toNatClampNeg 0) (2 : Int32).toNatClampNeg 0) (3 : Int32).toNatClampNeg 0))), (p6, .inl (k 0, 14, .inl (upd (upd (upd (upd (fun _ => 0) (0 : Int32).toNatClampNeg 0) (1 : Int32).toNatClampNeg 0) (2 : Int32).toNatClampNeg 0) (3 : Int32).toNatClampNeg 0))), (p7, .inl (k 0, 14, .inl (upd (upd (upd (upd (fun _ => 0) (0 : Int32).toNatClampNeg 0) (1 : Int32).toNatClampNeg 0) (2 : Int32).toNatClampNeg 0) (3 : Int32).toNatClampNeg 0))), (p8, .inl (k 0, 14, .inl (upd (upd (upd (fun _ => 0) (0 : Int32).toNatClampNeg 0) (1 : Int32).toNatClampNeg 0) (2 : Int32).toNatClampNeg 0))), (p9, .inl (k 0, 8, .inl (fun _ => 0))), (p10, .inl (k 0, 8, .inl (fun _ => 0))), (p29, .inl (k 0, 7, .inl f68))] := ⟨hP, hD⟩
  refine lv_aload_n hx hb dX10_take_98 rfl (lv_at hl 1 rfl) ?_
  refine va_get (D := G) (ci := 7) (v := .ref p8) (C := RX10) (T := TX10) (N := 71) (ref := RX10) hx hb hts h1w hown hX.1 hP 0 rfl rfl 7 (by decide) h9w (fun _ h9 => h9) rfl dX10_take_99 ?_
  refine lv_iload_n hx hb dX10_take_102 rfl (lv_at hl 0 rfl) ?_
  refine lv_aload_n hx hb dX10_take_103 rfl (lv_at hl 1 rfl) ?_
  refine va_get (D := G) (ci := 7) (v := .ref p8) (C := RX10) (T := TX10) (N := 71) (ref := RX10) hx hb hts h1w hown hX.1 hP 0 rfl rfl 7 (by decide) h9w (fun _ h9 => h9) rfl dX10_take_104 ?_
  refine lv_bipush (v := 7) hx hb dX10_take_107 (by decide +kernel) ?_
  refine lv_iload_n hx hb dX10_take_109 rfl (lv_at hl 0 rfl) ?_
  refine lv_iadd hx hb dX10_take_110 ?_
  refine cz_ti (w := 10) (by decide +kernel) ?_
  refine va_iald hx hb hX.1 hP 5 0 rfl rfl (by unfold vp_in; decide +kernel) dX10_take_111 ?_
  refine cz_ti (w := 0) (by rfl) ?_
  refine va_iast hx hb hX.1 hP hD hS 5 0 rfl rfl (by unfold vp_in; decide +kernel) dX10_take_112 (fun H locs hP hD hS => ?_)
  refine lv_iinc (v := 4) (lv' := [(1, .int 4), (0, .ref p0)]) hx hb dX10_take_113 hl (k := 0) rfl (by decide +kernel) (by decide) rfl (fun ls hl => ?_)
  refine lv_goto (tgt := 47) hx hb dX10_take_116 (by decide) ?_
  refine lv_iload_n hx hb dX10_take_47 rfl (lv_at hl 0 rfl) ?_
  refine lv_bipush (v := 7) hx hb dX10_take_48 (by decide +kernel) ?_
  refine lv_icmp_ge (tgt := 119) hx hb dX10_take_50 (by decide) (fun q => absurd (q) (by decide +kernel)) (fun _ => ?_)
  refine lv_aload_n hx hb dX10_take_53 rfl (lv_at hl 1 rfl) ?_
  refine va_get (D := G) (ci := 7) (v := .ref p5) (C := RX10) (T := TX10) (N := 71) (ref := RX10) hx hb hts h1w hown hX.1 hP 0 rfl rfl 4 (by decide) h6w (fun _ h9 => h9) rfl dX10_take_54 ?_
  refine lv_iload_n hx hb dX10_take_57 rfl (lv_at hl 0 rfl) ?_
  refine lv_aload_n hx hb dX10_take_58 rfl (lv_at hl 1 rfl) ?_
  refine va_get (D := G) (ci := 7) (v := .ref p5) (C := RX10) (T := TX10) (N := 71) (ref := RX10) hx hb hts h1w hown hX.1 hP 0 rfl rfl 4 (by decide) h6w (fun _ h9 => h9) rfl dX10_take_59 ?_
  refine lv_bipush (v := 7) hx hb dX10_take_62 (by decide +kernel) ?_
  refine lv_iload_n hx hb dX10_take_64 rfl (lv_at hl 0 rfl) ?_
  refine lv_iadd hx hb dX10_take_65 ?_
  refine cz_ti (w := 11) (by decide +kernel) ?_
  refine va_iald hx hb hX.1 hP 2 0 rfl rfl (by unfold vp_in; decide +kernel) dX10_take_66 ?_
  refine cz_ti (w := 0) (by rfl) ?_
  refine va_iast hx hb hX.1 hP hD hS 2 0 rfl rfl (by unfold vp_in; decide +kernel) dX10_take_67 (fun H locs hP hD hS => ?_)
  refine lv_aload_n hx hb dX10_take_68 rfl (lv_at hl 1 rfl) ?_
  refine va_get (D := G) (ci := 7) (v := .ref p6) (C := RX10) (T := TX10) (N := 71) (ref := RX10) hx hb hts h1w hown hX.1 hP 0 rfl rfl 5 (by decide) h7w (fun _ h9 => h9) rfl dX10_take_69 ?_
  refine lv_iload_n hx hb dX10_take_72 rfl (lv_at hl 0 rfl) ?_
  refine lv_aload_n hx hb dX10_take_73 rfl (lv_at hl 1 rfl) ?_
  refine va_get (D := G) (ci := 7) (v := .ref p6) (C := RX10) (T := TX10) (N := 71) (ref := RX10) hx hb hts h1w hown hX.1 hP 0 rfl rfl 5 (by decide) h7w (fun _ h9 => h9) rfl dX10_take_74 ?_
  refine lv_bipush (v := 7) hx hb dX10_take_77 (by decide +kernel) ?_
  refine lv_iload_n hx hb dX10_take_79 rfl (lv_at hl 0 rfl) ?_
  refine lv_iadd hx hb dX10_take_80 ?_
  refine cz_ti (w := 11) (by decide +kernel) ?_
  refine va_iald hx hb hX.1 hP 3 0 rfl rfl (by unfold vp_in; decide +kernel) dX10_take_81 ?_
  refine cz_ti (w := 0) (by rfl) ?_
  refine va_iast hx hb hX.1 hP hD hS 3 0 rfl rfl (by unfold vp_in; decide +kernel) dX10_take_82 (fun H locs hP hD hS => ?_)
  refine lv_aload_n hx hb dX10_take_83 rfl (lv_at hl 1 rfl) ?_
  refine va_get (D := G) (ci := 7) (v := .ref p7) (C := RX10) (T := TX10) (N := 71) (ref := RX10) hx hb hts h1w hown hX.1 hP 0 rfl rfl 6 (by decide) h8w (fun _ h9 => h9) rfl dX10_take_84 ?_
  refine lv_iload_n hx hb dX10_take_87 rfl (lv_at hl 0 rfl) ?_
  refine lv_aload_n hx hb dX10_take_88 rfl (lv_at hl 1 rfl) ?_
  refine va_get (D := G) (ci := 7) (v := .ref p7) (C := RX10) (T := TX10) (N := 71) (ref := RX10) hx hb hts h1w hown hX.1 hP 0 rfl rfl 6 (by decide) h8w (fun _ h9 => h9) rfl dX10_take_89 ?_
  refine lv_bipush (v := 7) hx hb dX10_take_92 (by decide +kernel) ?_
  refine lv_iload_n hx hb dX10_take_94 rfl (lv_at hl 0 rfl) ?_
  refine lv_iadd hx hb dX10_take_95 ?_
  refine cz_ti (w := 11) (by decide +kernel) ?_
  refine va_iald hx hb hX.1 hP 4 0 rfl rfl (by unfold vp_in; decide +kernel) dX10_take_96 ?_
  refine cz_ti (w := 0) (by rfl) ?_
  refine va_iast hx hb hX.1 hP hD hS 4 0 rfl rfl (by unfold vp_in; decide +kernel) dX10_take_97 (fun H locs hP hD hS => ?_)
  refine lv_aload_n hx hb dX10_take_98 rfl (lv_at hl 1 rfl) ?_
  refine va_get (D := G) (ci := 7) (v := .ref p8) (C := RX10) (T := TX10) (N := 71) (ref := RX10) hx hb hts h1w hown hX.1 hP 0 rfl rfl 7 (by decide) h9w (fun _ h9 => h9) rfl dX10_take_99 ?_
  refine lv_iload_n hx hb dX10_take_102 rfl (lv_at hl 0 rfl) ?_
  refine lv_aload_n hx hb dX10_take_103 rfl (lv_at hl 1 rfl) ?_
  refine va_get (D := G) (ci := 7) (v := .ref p8) (C := RX10) (T := TX10) (N := 71) (ref := RX10) hx hb hts h1w hown hX.1 hP 0 rfl rfl 7 (by decide) h9w (fun _ h9 => h9) rfl dX10_take_104 ?_
  refine lv_bipush (v := 7) hx hb dX10_take_107 (by decide +kernel) ?_
  refine lv_iload_n hx hb dX10_take_109 rfl (lv_at hl 0 rfl) ?_
  refine lv_iadd hx hb dX10_take_110 ?_
  refine cz_ti (w := 11) (by decide +kernel) ?_
  refine va_iald hx hb hX.1 hP 5 0 rfl rfl (by unfold vp_in; decide +kernel) dX10_take_111 ?_
  refine cz_ti (w := 0) (by rfl) ?_
  refine va_iast hx hb hX.1 hP hD hS 5 0 rfl rfl (by unfold vp_in; decide +kernel) dX10_take_112 (fun H locs hP hD hS => ?_)
  refine lv_iinc (v := 5) (lv' := [(1, .int 5), (0, .ref p0)]) hx hb dX10_take_113 hl (k := 0) rfl (by decide +kernel) (by decide) rfl (fun ls hl => ?_)
  refine lv_goto (tgt := 47) hx hb dX10_take_116 (by decide) ?_
  refine lv_iload_n hx hb dX10_take_47 rfl (lv_at hl 0 rfl) ?_
  refine lv_bipush (v := 7) hx hb dX10_take_48 (by decide +kernel) ?_
  refine lv_icmp_ge (tgt := 119) hx hb dX10_take_50 (by decide) (fun q => absurd (q) (by decide +kernel)) (fun _ => ?_)
  refine lv_aload_n hx hb dX10_take_53 rfl (lv_at hl 1 rfl) ?_
  refine va_get (D := G) (ci := 7) (v := .ref p5) (C := RX10) (T := TX10) (N := 71) (ref := RX10) hx hb hts h1w hown hX.1 hP 0 rfl rfl 4 (by decide) h6w (fun _ h9 => h9) rfl dX10_take_54 ?_
  refine lv_iload_n hx hb dX10_take_57 rfl (lv_at hl 0 rfl) ?_
  refine lv_aload_n hx hb dX10_take_58 rfl (lv_at hl 1 rfl) ?_
  refine va_get (D := G) (ci := 7) (v := .ref p5) (C := RX10) (T := TX10) (N := 71) (ref := RX10) hx hb hts h1w hown hX.1 hP 0 rfl rfl 4 (by decide) h6w (fun _ h9 => h9) rfl dX10_take_59 ?_
  refine lv_bipush (v := 7) hx hb dX10_take_62 (by decide +kernel) ?_
  refine lv_iload_n hx hb dX10_take_64 rfl (lv_at hl 0 rfl) ?_
  refine lv_iadd hx hb dX10_take_65 ?_
  refine cz_ti (w := 12) (by decide +kernel) ?_
  refine va_iald hx hb hX.1 hP 2 0 rfl rfl (by unfold vp_in; decide +kernel) dX10_take_66 ?_
  refine cz_ti (w := 0) (by rfl) ?_
  refine va_iast hx hb hX.1 hP hD hS 2 0 rfl rfl (by unfold vp_in; decide +kernel) dX10_take_67 (fun H locs hP hD hS => ?_)
  obtain ⟨hP, hD⟩ : va_P G vwCl [(p0, .inr (7, (v1 :: v2 :: v3 :: .ref p4 :: .ref p5 :: .ref p6 :: .ref p7 :: .ref p8 :: .ref p9 :: .ref p10 :: v11 :: v12 :: .int 0 :: .int 0 :: .int 0 :: .int 0 :: v14 :: v15 :: v16 :: v17 :: v18 :: v19 :: v20 :: v21 :: v22 :: v23 :: v24 :: .int 0 :: v25 :: v26 :: v27 :: v28 :: .ref p29 :: v30 :: v31 :: v32 :: v33 :: v34 :: v35 :: v36 :: v37 :: v38 :: v39 :: v40 :: v41 :: v42 :: v43 :: v44 :: v45 :: v46 :: v47 :: v48 :: v49 :: v50 :: v51 :: v52 :: v53 :: v54 :: v55 :: v56 :: v57 :: v58 :: v59 :: v60 :: v61 :: v62 :: v63 :: v64 :: v65 :: v66 :: v67 :: []))), (p4, .inl (k 0, 14, .inl (upd (upd (upd (upd (upd (upd (upd (upd (upd (upd (upd (upd (upd (upd (upd (upd (upd (upd (upd (upd (upd (fun _ => 0) (0 : Int32).toNatClampNeg 1) (1 : Int32).toNatClampNeg 0) (2 : Int32).toNatClampNeg 99) (3 : Int32).toNatClampNeg 0) (4 : Int32).toNatClampNeg 1) (5 : Int32).toNatClampNeg 20) (6 : Int32).toNatClampNeg 0) (7 : Int32).toNatClampNeg 1) (8 : Int32).toNatClampNeg 0) (9 : Int32).toNatClampNeg 99) (10 : Int32).toNatClampNeg 0) (11 : Int32).toNatClampNeg 1) (12 : Int32).toNatClampNeg 20) (13 : Int32).toNatClampNeg 0) (0 : Int32).toNatClampNeg 1) (1 : Int32).toNatClampNeg 0) (2 : Int32).toNatClampNeg 99) (3 : Int32).toNatClampNeg 0) (4 : Int32).toNatClampNeg 1) (5 : Int32).toNatClampNeg 20) (6 : Int32).toNatClampNeg 0))), (p5, .inl (k 0, 14, .inl (upd (upd (upd (upd (upd (upd (fun _ => 0) (0 : Int32).toNatClampNeg 0) (1 : Int32).toNatClampNeg 0) (2 : Int32).toNatClampNeg 0) (3 : Int32).toNatClampNeg 0) (4 : Int32).toNatClampNeg 0) (5 : Int32).toNatClampNeg 0))), (p6, .inl (k 0, 14, .inl (upd (upd (upd (upd (upd (fun _ => 0) (0 : Int32).toNatClampNeg 0) (1 : Int32).toNatClampNeg 0) (2 : Int32).toNatClampNeg 0) (3 : Int32).toNatClampNeg 0) (4 : Int32).toNatClampNeg 0))), (p7, .inl (k 0, 14, .inl (upd (upd (upd (upd (upd (fun _ => 0) (0 : Int32).toNatClampNeg 0) (1 : Int32).toNatClampNeg 0) (2 : Int32).toNatClampNeg 0) (3 : Int32).toNatClampNeg 0) (4 : Int32).toNatClampNeg 0))), (p8, .inl (k 0, 14, .inl (upd (upd (upd (upd (upd (fun _ => 0) (0 : Int32).toNatClampNeg 0) (1 : Int32).toNatClampNeg 0) (2 : Int32).toNatClampNeg 0) (3 : Int32).toNatClampNeg 0) (4 : Int32).toNatClampNeg 0))), (p9, .inl (k 0, 8, .inl (fun _ => 0))), (p10, .inl (k 0, 8, .inl (fun _ => 0))), (p29, .inl (k 0, 7, .inl f68))] H ∧ va_D A [(p0, .inr (7, (v1 :: v2 :: v3 :: .ref p4 :: .ref p5 :: .ref p6 :: .ref p7 :: .ref p8 :: .ref p9 :: .ref p10 :: v11 :: v12 :: .int 0 :: .int 0 :: .int 0 :: .int 0 :: v14 :: v15 :: v16 :: v17 :: v18 :: v19 :: v20 :: v21 :: v22 :: v23 :: v24 :: .int 0 :: v25 :: v26 :: v27 :: v28 :: .ref p29 :: v30 :: v31 :: v32 :: v33 :: v34 :: v35 :: v36 :: v37 :: v38 :: v39 :: v40 :: v41 :: v42 :: v43 :: v44 :: v45 :: v46 :: v47 :: v48 :: v49 :: v50 :: v51 :: v52 :: v53 :: v54 :: v55 :: v56 :: v57 :: v58 :: v59 :: v60 :: v61 :: v62 :: v63 :: v64 :: v65 :: v66 :: v67 :: []))), (p4, .inl (k 0, 14, .inl (upd (upd (upd (upd (upd (upd (upd (upd (upd (upd (upd (upd (upd (upd (upd (upd (upd (upd (upd (upd (upd (fun _ => 0) (0 : Int32).toNatClampNeg 1) (1 : Int32).toNatClampNeg 0) (2 : Int32).toNatClampNeg 99) (3 : Int32).toNatClampNeg 0) (4 : Int32).toNatClampNeg 1) (5 : Int32).toNatClampNeg 20) (6 : Int32).toNatClampNeg 0) (7 : Int32).toNatClampNeg 1) (8 : Int32).toNatClampNeg 0) (9 : Int32).toNatClampNeg 99) (10 : Int32).toNatClampNeg 0) (11 : Int32).toNatClampNeg 1) (12 : Int32).toNatClampNeg 20) (13 : Int32).toNatClampNeg 0) (0 : Int32).toNatClampNeg 1) (1 : Int32).toNatClampNeg 0) (2 : Int32).toNatClampNeg 99) (3 : Int32).toNatClampNeg 0) (4 : Int32).toNatClampNeg 1) (5 : Int32).toNatClampNeg 20) (6 : Int32).toNatClampNeg 0))), (p5, .inl (k 0, 14, .inl (upd (upd (upd (upd (upd (upd (fun _ => 0) (0 : Int32).toNatClampNeg 0) (1 : Int32).toNatClampNeg 0) (2 : Int32).toNatClampNeg 0) (3 : Int32).toNatClampNeg 0) (4 : Int32).toNatClampNeg 0) (5 : Int32).toNatClampNeg 0))), (p6, .inl (k 0, 14, .inl (upd (upd (upd (upd (upd (fun _ => 0) (0 : Int32).toNatClampNeg 0) (1 : Int32).toNatClampNeg 0) (2 : Int32).toNatClampNeg 0) (3 : Int32).toNatClampNeg 0) (4 : Int32).toNatClampNeg 0))), (p7, .inl (k 0, 14, .inl (upd (upd (upd (upd (upd (fun _ => 0) (0 : Int32).toNatClampNeg 0) (1 : Int32).toNatClampNeg 0) (2 : Int32).toNatClampNeg 0) (3 : Int32).toNatClampNeg 0) (4 : Int32).toNatClampNeg 0))), (p8, .inl (k 0, 14, .inl (upd (upd (upd (upd (upd (fun _ => 0) (0 : Int32).toNatClampNeg 0) (1 : Int32).toNatClampNeg 0) (2 : Int32).toNatClampNeg 0) (3 : Int32).toNatClampNeg 0) (4 : Int32).toNatClampNeg 0))), (p9, .inl (k 0, 8, .inl (fun _ => 0))), (p10, .inl (k 0, 8, .inl (fun _ => 0))), (p29, .inl (k 0, 7, .inl f68))] := ⟨hP, hD⟩
  refine lv_aload_n hx hb dX10_take_68 rfl (lv_at hl 1 rfl) ?_
  refine va_get (D := G) (ci := 7) (v := .ref p6) (C := RX10) (T := TX10) (N := 71) (ref := RX10) hx hb hts h1w hown hX.1 hP 0 rfl rfl 5 (by decide) h7w (fun _ h9 => h9) rfl dX10_take_69 ?_
  refine lv_iload_n hx hb dX10_take_72 rfl (lv_at hl 0 rfl) ?_
  refine lv_aload_n hx hb dX10_take_73 rfl (lv_at hl 1 rfl) ?_
  refine va_get (D := G) (ci := 7) (v := .ref p6) (C := RX10) (T := TX10) (N := 71) (ref := RX10) hx hb hts h1w hown hX.1 hP 0 rfl rfl 5 (by decide) h7w (fun _ h9 => h9) rfl dX10_take_74 ?_
  refine lv_bipush (v := 7) hx hb dX10_take_77 (by decide +kernel) ?_
  refine lv_iload_n hx hb dX10_take_79 rfl (lv_at hl 0 rfl) ?_
  refine lv_iadd hx hb dX10_take_80 ?_
  refine cz_ti (w := 12) (by decide +kernel) ?_
  refine va_iald hx hb hX.1 hP 3 0 rfl rfl (by unfold vp_in; decide +kernel) dX10_take_81 ?_
  refine cz_ti (w := 0) (by rfl) ?_
  refine va_iast hx hb hX.1 hP hD hS 3 0 rfl rfl (by unfold vp_in; decide +kernel) dX10_take_82 (fun H locs hP hD hS => ?_)
  refine lv_aload_n hx hb dX10_take_83 rfl (lv_at hl 1 rfl) ?_
  refine va_get (D := G) (ci := 7) (v := .ref p7) (C := RX10) (T := TX10) (N := 71) (ref := RX10) hx hb hts h1w hown hX.1 hP 0 rfl rfl 6 (by decide) h8w (fun _ h9 => h9) rfl dX10_take_84 ?_
  refine lv_iload_n hx hb dX10_take_87 rfl (lv_at hl 0 rfl) ?_
  refine lv_aload_n hx hb dX10_take_88 rfl (lv_at hl 1 rfl) ?_
  refine va_get (D := G) (ci := 7) (v := .ref p7) (C := RX10) (T := TX10) (N := 71) (ref := RX10) hx hb hts h1w hown hX.1 hP 0 rfl rfl 6 (by decide) h8w (fun _ h9 => h9) rfl dX10_take_89 ?_
  refine lv_bipush (v := 7) hx hb dX10_take_92 (by decide +kernel) ?_
  refine lv_iload_n hx hb dX10_take_94 rfl (lv_at hl 0 rfl) ?_
  refine lv_iadd hx hb dX10_take_95 ?_
  refine cz_ti (w := 12) (by decide +kernel) ?_
  refine va_iald hx hb hX.1 hP 4 0 rfl rfl (by unfold vp_in; decide +kernel) dX10_take_96 ?_
  refine cz_ti (w := 0) (by rfl) ?_
  refine va_iast hx hb hX.1 hP hD hS 4 0 rfl rfl (by unfold vp_in; decide +kernel) dX10_take_97 (fun H locs hP hD hS => ?_)
  refine lv_aload_n hx hb dX10_take_98 rfl (lv_at hl 1 rfl) ?_
  refine va_get (D := G) (ci := 7) (v := .ref p8) (C := RX10) (T := TX10) (N := 71) (ref := RX10) hx hb hts h1w hown hX.1 hP 0 rfl rfl 7 (by decide) h9w (fun _ h9 => h9) rfl dX10_take_99 ?_
  refine lv_iload_n hx hb dX10_take_102 rfl (lv_at hl 0 rfl) ?_
  refine lv_aload_n hx hb dX10_take_103 rfl (lv_at hl 1 rfl) ?_
  refine va_get (D := G) (ci := 7) (v := .ref p8) (C := RX10) (T := TX10) (N := 71) (ref := RX10) hx hb hts h1w hown hX.1 hP 0 rfl rfl 7 (by decide) h9w (fun _ h9 => h9) rfl dX10_take_104 ?_
  refine lv_bipush (v := 7) hx hb dX10_take_107 (by decide +kernel) ?_
  refine lv_iload_n hx hb dX10_take_109 rfl (lv_at hl 0 rfl) ?_
  refine lv_iadd hx hb dX10_take_110 ?_
  refine cz_ti (w := 12) (by decide +kernel) ?_
  refine va_iald hx hb hX.1 hP 5 0 rfl rfl (by unfold vp_in; decide +kernel) dX10_take_111 ?_
  refine cz_ti (w := 0) (by rfl) ?_
  refine va_iast hx hb hX.1 hP hD hS 5 0 rfl rfl (by unfold vp_in; decide +kernel) dX10_take_112 (fun H locs hP hD hS => ?_)
  refine lv_iinc (v := 6) (lv' := [(1, .int 6), (0, .ref p0)]) hx hb dX10_take_113 hl (k := 0) rfl (by decide +kernel) (by decide) rfl (fun ls hl => ?_)
  refine lv_goto (tgt := 47) hx hb dX10_take_116 (by decide) ?_
  refine lv_iload_n hx hb dX10_take_47 rfl (lv_at hl 0 rfl) ?_
  refine lv_bipush (v := 7) hx hb dX10_take_48 (by decide +kernel) ?_
  refine lv_icmp_ge (tgt := 119) hx hb dX10_take_50 (by decide) (fun q => absurd (q) (by decide +kernel)) (fun _ => ?_)
  refine lv_aload_n hx hb dX10_take_53 rfl (lv_at hl 1 rfl) ?_
  refine va_get (D := G) (ci := 7) (v := .ref p5) (C := RX10) (T := TX10) (N := 71) (ref := RX10) hx hb hts h1w hown hX.1 hP 0 rfl rfl 4 (by decide) h6w (fun _ h9 => h9) rfl dX10_take_54 ?_
  refine lv_iload_n hx hb dX10_take_57 rfl (lv_at hl 0 rfl) ?_
  refine lv_aload_n hx hb dX10_take_58 rfl (lv_at hl 1 rfl) ?_
  refine va_get (D := G) (ci := 7) (v := .ref p5) (C := RX10) (T := TX10) (N := 71) (ref := RX10) hx hb hts h1w hown hX.1 hP 0 rfl rfl 4 (by decide) h6w (fun _ h9 => h9) rfl dX10_take_59 ?_
  refine lv_bipush (v := 7) hx hb dX10_take_62 (by decide +kernel) ?_
  refine lv_iload_n hx hb dX10_take_64 rfl (lv_at hl 0 rfl) ?_
  refine lv_iadd hx hb dX10_take_65 ?_
  refine cz_ti (w := 13) (by decide +kernel) ?_
  refine va_iald hx hb hX.1 hP 2 0 rfl rfl (by unfold vp_in; decide +kernel) dX10_take_66 ?_
  refine cz_ti (w := 0) (by rfl) ?_
  refine va_iast hx hb hX.1 hP hD hS 2 0 rfl rfl (by unfold vp_in; decide +kernel) dX10_take_67 (fun H locs hP hD hS => ?_)
  refine lv_aload_n hx hb dX10_take_68 rfl (lv_at hl 1 rfl) ?_
  refine va_get (D := G) (ci := 7) (v := .ref p6) (C := RX10) (T := TX10) (N := 71) (ref := RX10) hx hb hts h1w hown hX.1 hP 0 rfl rfl 5 (by decide) h7w (fun _ h9 => h9) rfl dX10_take_69 ?_
  refine lv_iload_n hx hb dX10_take_72 rfl (lv_at hl 0 rfl) ?_
  refine lv_aload_n hx hb dX10_take_73 rfl (lv_at hl 1 rfl) ?_
  refine va_get (D := G) (ci := 7) (v := .ref p6) (C := RX10) (T := TX10) (N := 71) (ref := RX10) hx hb hts h1w hown hX.1 hP 0 rfl rfl 5 (by decide) h7w (fun _ h9 => h9) rfl dX10_take_74 ?_
  refine lv_bipush (v := 7) hx hb dX10_take_77 (by decide +kernel) ?_
  refine lv_iload_n hx hb dX10_take_79 rfl (lv_at hl 0 rfl) ?_
  refine lv_iadd hx hb dX10_take_80 ?_
  refine cz_ti (w := 13) (by decide +kernel) ?_
  refine va_iald hx hb hX.1 hP 3 0 rfl rfl (by unfold vp_in; decide +kernel) dX10_take_81 ?_
  refine cz_ti (w := 0) (by rfl) ?_
  refine va_iast hx hb hX.1 hP hD hS 3 0 rfl rfl (by unfold vp_in; decide +kernel) dX10_take_82 (fun H locs hP hD hS => ?_)
  refine lv_aload_n hx hb dX10_take_83 rfl (lv_at hl 1 rfl) ?_
  refine va_get (D := G) (ci := 7) (v := .ref p7) (C := RX10) (T := TX10) (N := 71) (ref := RX10) hx hb hts h1w hown hX.1 hP 0 rfl rfl 6 (by decide) h8w (fun _ h9 => h9) rfl dX10_take_84 ?_
  refine lv_iload_n hx hb dX10_take_87 rfl (lv_at hl 0 rfl) ?_
  refine lv_aload_n hx hb dX10_take_88 rfl (lv_at hl 1 rfl) ?_
  refine va_get (D := G) (ci := 7) (v := .ref p7) (C := RX10) (T := TX10) (N := 71) (ref := RX10) hx hb hts h1w hown hX.1 hP 0 rfl rfl 6 (by decide) h8w (fun _ h9 => h9) rfl dX10_take_89 ?_
  refine lv_bipush (v := 7) hx hb dX10_take_92 (by decide +kernel) ?_
  refine lv_iload_n hx hb dX10_take_94 rfl (lv_at hl 0 rfl) ?_
  refine lv_iadd hx hb dX10_take_95 ?_
  refine cz_ti (w := 13) (by decide +kernel) ?_
  refine va_iald hx hb hX.1 hP 4 0 rfl rfl (by unfold vp_in; decide +kernel) dX10_take_96 ?_
  refine cz_ti (w := 0) (by rfl) ?_
  refine va_iast hx hb hX.1 hP hD hS 4 0 rfl rfl (by unfold vp_in; decide +kernel) dX10_take_97 (fun H locs hP hD hS => ?_)
  obtain ⟨hP, hD⟩ : va_P G vwCl [(p0, .inr (7, (v1 :: v2 :: v3 :: .ref p4 :: .ref p5 :: .ref p6 :: .ref p7 :: .ref p8 :: .ref p9 :: .ref p10 :: v11 :: v12 :: .int 0 :: .int 0 :: .int 0 :: .int 0 :: v14 :: v15 :: v16 :: v17 :: v18 :: v19 :: v20 :: v21 :: v22 :: v23 :: v24 :: .int 0 :: v25 :: v26 :: v27 :: v28 :: .ref p29 :: v30 :: v31 :: v32 :: v33 :: v34 :: v35 :: v36 :: v37 :: v38 :: v39 :: v40 :: v41 :: v42 :: v43 :: v44 :: v45 :: v46 :: v47 :: v48 :: v49 :: v50 :: v51 :: v52 :: v53 :: v54 :: v55 :: v56 :: v57 :: v58 :: v59 :: v60 :: v61 :: v62 :: v63 :: v64 :: v65 :: v66 :: v67 :: []))), (p4, .inl (k 0, 14, .inl (upd (upd (upd (upd (upd (upd (upd (upd (upd (upd (upd (upd (upd (upd (upd (upd (upd (upd (upd (upd (upd (fun _ => 0) (0 : Int32).toNatClampNeg 1) (1 : Int32).toNatClampNeg 0) (2 : Int32).toNatClampNeg 99) (3 : Int32).toNatClampNeg 0) (4 : Int32).toNatClampNeg 1) (5 : Int32).toNatClampNeg 20) (6 : Int32).toNatClampNeg 0) (7 : Int32).toNatClampNeg 1) (8 : Int32).toNatClampNeg 0) (9 : Int32).toNatClampNeg 99) (10 : Int32).toNatClampNeg 0) (11 : Int32).toNatClampNeg 1) (12 : Int32).toNatClampNeg 20) (13 : Int32).toNatClampNeg 0) (0 : Int32).toNatClampNeg 1) (1 : Int32).toNatClampNeg 0) (2 : Int32).toNatClampNeg 99) (3 : Int32).toNatClampNeg 0) (4 : Int32).toNatClampNeg 1) (5 : Int32).toNatClampNeg 20) (6 : Int32).toNatClampNeg 0))), (p5, .inl (k 0, 14, .inl (upd (upd (upd (upd (upd (upd (upd (fun _ => 0) (0 : Int32).toNatClampNeg 0) (1 : Int32).toNatClampNeg 0) (2 : Int32).toNatClampNeg 0) (3 : Int32).toNatClampNeg 0) (4 : Int32).toNatClampNeg 0) (5 : Int32).toNatClampNeg 0) (6 : Int32).toNatClampNeg 0))), (p6, .inl (k 0, 14, .inl (upd (upd (upd (upd (upd (upd (upd (fun _ => 0) (0 : Int32).toNatClampNeg 0) (1 : Int32).toNatClampNeg 0) (2 : Int32).toNatClampNeg 0) (3 : Int32).toNatClampNeg 0) (4 : Int32).toNatClampNeg 0) (5 : Int32).toNatClampNeg 0) (6 : Int32).toNatClampNeg 0))), (p7, .inl (k 0, 14, .inl (upd (upd (upd (upd (upd (upd (upd (fun _ => 0) (0 : Int32).toNatClampNeg 0) (1 : Int32).toNatClampNeg 0) (2 : Int32).toNatClampNeg 0) (3 : Int32).toNatClampNeg 0) (4 : Int32).toNatClampNeg 0) (5 : Int32).toNatClampNeg 0) (6 : Int32).toNatClampNeg 0))), (p8, .inl (k 0, 14, .inl (upd (upd (upd (upd (upd (upd (fun _ => 0) (0 : Int32).toNatClampNeg 0) (1 : Int32).toNatClampNeg 0) (2 : Int32).toNatClampNeg 0) (3 : Int32).toNatClampNeg 0) (4 : Int32).toNatClampNeg 0) (5 : Int32).toNatClampNeg 0))), (p9, .inl (k 0, 8, .inl (fun _ => 0))), (p10, .inl (k 0, 8, .inl (fun _ => 0))), (p29, .inl (k 0, 7, .inl f68))] H ∧ va_D A [(p0, .inr (7, (v1 :: v2 :: v3 :: .ref p4 :: .ref p5 :: .ref p6 :: .ref p7 :: .ref p8 :: .ref p9 :: .ref p10 :: v11 :: v12 :: .int 0 :: .int 0 :: .int 0 :: .int 0 :: v14 :: v15 :: v16 :: v17 :: v18 :: v19 :: v20 :: v21 :: v22 :: v23 :: v24 :: .int 0 :: v25 :: v26 :: v27 :: v28 :: .ref p29 :: v30 :: v31 :: v32 :: v33 :: v34 :: v35 :: v36 :: v37 :: v38 :: v39 :: v40 :: v41 :: v42 :: v43 :: v44 :: v45 :: v46 :: v47 :: v48 :: v49 :: v50 :: v51 :: v52 :: v53 :: v54 :: v55 :: v56 :: v57 :: v58 :: v59 :: v60 :: v61 :: v62 :: v63 :: v64 :: v65 :: v66 :: v67 :: []))), (p4, .inl (k 0, 14, .inl (upd (upd (upd (upd (upd (upd (upd (upd (upd (upd (upd (upd (upd (upd (upd (upd (upd (upd (upd (upd (upd (fun _ => 0) (0 : Int32).toNatClampNeg 1) (1 : Int32).toNatClampNeg 0) (2 : Int32).toNatClampNeg 99) (3 : Int32).toNatClampNeg 0) (4 : Int32).toNatClampNeg 1) (5 : Int32).toNatClampNeg 20) (6 : Int32).toNatClampNeg 0) (7 : Int32).toNatClampNeg 1) (8 : Int32).toNatClampNeg 0) (9 : Int32).toNatClampNeg 99) (10 : Int32).toNatClampNeg 0) (11 : Int32).toNatClampNeg 1) (12 : Int32).toNatClampNeg 20) (13 : Int32).toNatClampNeg 0) (0 : Int32).toNatClampNeg 1) (1 : Int32).toNatClampNeg 0) (2 : Int32).toNatClampNeg 99) (3 : Int32).toNatClampNeg 0) (4 : Int32).toNatClampNeg 1) (5 : Int32).toNatClampNeg 20) (6 : Int32).toNatClampNeg 0))), (p5, .inl (k 0, 14, .inl (upd (upd (upd (upd (upd (upd (upd (fun _ => 0) (0 : Int32).toNatClampNeg 0) (1 : Int32).toNatClampNeg 0) (2 : Int32).toNatClampNeg 0) (3 : Int32).toNatClampNeg 0) (4 : Int32).toNatClampNeg 0) (5 : Int32).toNatClampNeg 0) (6 : Int32).toNatClampNeg 0))), (p6, .inl (k 0, 14, .inl (upd (upd (upd (upd (upd (upd (upd (fun _ => 0) (0 : Int32).toNatClampNeg 0) (1 : Int32).toNatClampNeg 0) (2 : Int32).toNatClampNeg 0) (3 : Int32).toNatClampNeg 0) (4 : Int32).toNatClampNeg 0) (5 : Int32).toNatClampNeg 0) (6 : Int32).toNatClampNeg 0))), (p7, .inl (k 0, 14, .inl (upd (upd (upd (upd (upd (upd (upd (fun _ => 0) (0 : Int32).toNatClampNeg 0) (1 : Int32).toNatClampNeg 0) (2 : Int32).toNatClampNeg 0) (3 : Int32).toNatClampNeg 0) (4 : Int32).toNatClampNeg 0) (5 : Int32).toNatClampNeg 0) (6 : Int32).toNatClampNeg 0))), (p8, .inl (k 0, 14, .inl (upd (upd (upd (upd (upd (upd (fun _ => 0) (0 : Int32).toNatClampNeg 0) (1 : Int32).toNatClampNeg 0) (2 : Int32).toNatClampNeg 0) (3 : Int32).toNatClampNeg 0) (4 : Int32).toNatClampNeg 0) (5 : Int32).toNatClampNeg 0))), (p9, .inl (k 0, 8, .inl (fun _ => 0))), (p10, .inl (k 0, 8, .inl (fun _ => 0))), (p29, .inl (k 0, 7, .inl f68))] := ⟨hP, hD⟩
  refine lv_aload_n hx hb dX10_take_98 rfl (lv_at hl 1 rfl) ?_
  refine va_get (D := G) (ci := 7) (v := .ref p8) (C := RX10) (T := TX10) (N := 71) (ref := RX10) hx hb hts h1w hown hX.1 hP 0 rfl rfl 7 (by decide) h9w (fun _ h9 => h9) rfl dX10_take_99 ?_
  refine lv_iload_n hx hb dX10_take_102 rfl (lv_at hl 0 rfl) ?_
  refine lv_aload_n hx hb dX10_take_103 rfl (lv_at hl 1 rfl) ?_
  refine va_get (D := G) (ci := 7) (v := .ref p8) (C := RX10) (T := TX10) (N := 71) (ref := RX10) hx hb hts h1w hown hX.1 hP 0 rfl rfl 7 (by decide) h9w (fun _ h9 => h9) rfl dX10_take_104 ?_
  refine lv_bipush (v := 7) hx hb dX10_take_107 (by decide +kernel) ?_
  refine lv_iload_n hx hb dX10_take_109 rfl (lv_at hl 0 rfl) ?_
  refine lv_iadd hx hb dX10_take_110 ?_
  refine cz_ti (w := 13) (by decide +kernel) ?_
  refine va_iald hx hb hX.1 hP 5 0 rfl rfl (by unfold vp_in; decide +kernel) dX10_take_111 ?_
  refine cz_ti (w := 0) (by rfl) ?_
  refine va_iast hx hb hX.1 hP hD hS 5 0 rfl rfl (by unfold vp_in; decide +kernel) dX10_take_112 (fun H locs hP hD hS => ?_)
  refine lv_iinc (v := 7) (lv' := [(1, .int 7), (0, .ref p0)]) hx hb dX10_take_113 hl (k := 0) rfl (by decide +kernel) (by decide) rfl (fun ls hl => ?_)
  refine lv_goto (tgt := 47) hx hb dX10_take_116 (by decide) ?_
  refine lv_iload_n hx hb dX10_take_47 rfl (lv_at hl 0 rfl) ?_
  refine lv_bipush (v := 7) hx hb dX10_take_48 (by decide +kernel) ?_
  refine lv_icmp_ge (tgt := 119) hx hb dX10_take_50 (by decide) (fun _ => ?_) (fun q => absurd (by decide +kernel) (q))
  refine lv_iconst (v := 0) hx hb dX10_take_119 (by decide +kernel) ?_
  refine lv_istore_n (lv' := [(1, .int 0), (0, .ref p0)]) hx hb dX10_take_120 rfl hl (by decide) rfl (fun ls hl => ?_)
  refine lv_iload_n hx hb dX10_take_121 rfl (lv_at hl 0 rfl) ?_
  refine lv_iconst (v := 4) hx hb dX10_take_122 (by decide +kernel) ?_
  refine lv_icmp_ge (tgt := 160) hx hb dX10_take_123 (by decide) (fun q => absurd (q) (by decide +kernel)) (fun _ => ?_)
  refine lv_aload_n hx hb dX10_take_126 rfl (lv_at hl 1 rfl) ?_
  refine va_get (D := G) (ci := 7) (v := .ref p9) (C := RX10) (T := TX10) (N := 71) (ref := RX10) hx hb hts h1w hown hX.1 hP 0 rfl rfl 8 (by decide) h10w (fun _ h9 => h9) rfl dX10_take_127 ?_
  refine lv_iload_n hx hb dX10_take_130 rfl (lv_at hl 0 rfl) ?_
  refine lv_aload_n hx hb dX10_take_131 rfl (lv_at hl 1 rfl) ?_
  refine va_get (D := G) (ci := 7) (v := .ref p9) (C := RX10) (T := TX10) (N := 71) (ref := RX10) hx hb hts h1w hown hX.1 hP 0 rfl rfl 8 (by decide) h10w (fun _ h9 => h9) rfl dX10_take_132 ?_
  refine lv_iconst (v := 4) hx hb dX10_take_135 (by decide +kernel) ?_
  refine lv_iload_n hx hb dX10_take_136 rfl (lv_at hl 0 rfl) ?_
  refine lv_iadd hx hb dX10_take_137 ?_
  refine cz_ti (w := 4) (by decide +kernel) ?_
  refine va_iald hx hb hX.1 hP 6 0 rfl rfl (by unfold vp_in; decide +kernel) dX10_take_138 ?_
  refine cz_ti (w := 0) (by rfl) ?_
  refine va_iast hx hb hX.1 hP hD hS 6 0 rfl rfl (by unfold vp_in; decide +kernel) dX10_take_139 (fun H locs hP hD hS => ?_)
  refine lv_aload_n hx hb dX10_take_140 rfl (lv_at hl 1 rfl) ?_
  refine va_get (D := G) (ci := 7) (v := .ref p10) (C := RX10) (T := TX10) (N := 71) (ref := RX10) hx hb hts h1w hown hX.1 hP 0 rfl rfl 9 (by decide) h11w (fun _ h9 => h9) rfl dX10_take_141 ?_
  refine lv_iload_n hx hb dX10_take_144 rfl (lv_at hl 0 rfl) ?_
  refine lv_aload_n hx hb dX10_take_145 rfl (lv_at hl 1 rfl) ?_
  refine va_get (D := G) (ci := 7) (v := .ref p10) (C := RX10) (T := TX10) (N := 71) (ref := RX10) hx hb hts h1w hown hX.1 hP 0 rfl rfl 9 (by decide) h11w (fun _ h9 => h9) rfl dX10_take_146 ?_
  refine lv_iconst (v := 4) hx hb dX10_take_149 (by decide +kernel) ?_
  refine lv_iload_n hx hb dX10_take_150 rfl (lv_at hl 0 rfl) ?_
  refine lv_iadd hx hb dX10_take_151 ?_
  refine cz_ti (w := 4) (by decide +kernel) ?_
  refine va_iald hx hb hX.1 hP 7 0 rfl rfl (by unfold vp_in; decide +kernel) dX10_take_152 ?_
  refine cz_ti (w := 0) (by rfl) ?_
  refine va_iast hx hb hX.1 hP hD hS 7 0 rfl rfl (by unfold vp_in; decide +kernel) dX10_take_153 (fun H locs hP hD hS => ?_)
  refine lv_iinc (v := 1) (lv' := [(1, .int 1), (0, .ref p0)]) hx hb dX10_take_154 hl (k := 0) rfl (by decide +kernel) (by decide) rfl (fun ls hl => ?_)
  refine lv_goto (tgt := 121) hx hb dX10_take_157 (by decide) ?_
  refine lv_iload_n hx hb dX10_take_121 rfl (lv_at hl 0 rfl) ?_
  refine lv_iconst (v := 4) hx hb dX10_take_122 (by decide +kernel) ?_
  refine lv_icmp_ge (tgt := 160) hx hb dX10_take_123 (by decide) (fun q => absurd (q) (by decide +kernel)) (fun _ => ?_)
  refine lv_aload_n hx hb dX10_take_126 rfl (lv_at hl 1 rfl) ?_
  refine va_get (D := G) (ci := 7) (v := .ref p9) (C := RX10) (T := TX10) (N := 71) (ref := RX10) hx hb hts h1w hown hX.1 hP 0 rfl rfl 8 (by decide) h10w (fun _ h9 => h9) rfl dX10_take_127 ?_
  refine lv_iload_n hx hb dX10_take_130 rfl (lv_at hl 0 rfl) ?_
  refine lv_aload_n hx hb dX10_take_131 rfl (lv_at hl 1 rfl) ?_
  refine va_get (D := G) (ci := 7) (v := .ref p9) (C := RX10) (T := TX10) (N := 71) (ref := RX10) hx hb hts h1w hown hX.1 hP 0 rfl rfl 8 (by decide) h10w (fun _ h9 => h9) rfl dX10_take_132 ?_
  refine lv_iconst (v := 4) hx hb dX10_take_135 (by decide +kernel) ?_
  refine lv_iload_n hx hb dX10_take_136 rfl (lv_at hl 0 rfl) ?_
  refine lv_iadd hx hb dX10_take_137 ?_
  refine cz_ti (w := 5) (by decide +kernel) ?_
  refine va_iald hx hb hX.1 hP 6 0 rfl rfl (by unfold vp_in; decide +kernel) dX10_take_138 ?_
  refine cz_ti (w := 0) (by rfl) ?_
  refine va_iast hx hb hX.1 hP hD hS 6 0 rfl rfl (by unfold vp_in; decide +kernel) dX10_take_139 (fun H locs hP hD hS => ?_)
  refine lv_aload_n hx hb dX10_take_140 rfl (lv_at hl 1 rfl) ?_
  refine va_get (D := G) (ci := 7) (v := .ref p10) (C := RX10) (T := TX10) (N := 71) (ref := RX10) hx hb hts h1w hown hX.1 hP 0 rfl rfl 9 (by decide) h11w (fun _ h9 => h9) rfl dX10_take_141 ?_
  refine lv_iload_n hx hb dX10_take_144 rfl (lv_at hl 0 rfl) ?_
  refine lv_aload_n hx hb dX10_take_145 rfl (lv_at hl 1 rfl) ?_
  refine va_get (D := G) (ci := 7) (v := .ref p10) (C := RX10) (T := TX10) (N := 71) (ref := RX10) hx hb hts h1w hown hX.1 hP 0 rfl rfl 9 (by decide) h11w (fun _ h9 => h9) rfl dX10_take_146 ?_
  refine lv_iconst (v := 4) hx hb dX10_take_149 (by decide +kernel) ?_
  refine lv_iload_n hx hb dX10_take_150 rfl (lv_at hl 0 rfl) ?_
  refine lv_iadd hx hb dX10_take_151 ?_
  refine cz_ti (w := 5) (by decide +kernel) ?_
  refine va_iald hx hb hX.1 hP 7 0 rfl rfl (by unfold vp_in; decide +kernel) dX10_take_152 ?_
  refine cz_ti (w := 0) (by rfl) ?_
  refine va_iast hx hb hX.1 hP hD hS 7 0 rfl rfl (by unfold vp_in; decide +kernel) dX10_take_153 (fun H locs hP hD hS => ?_)
  refine lv_iinc (v := 2) (lv' := [(1, .int 2), (0, .ref p0)]) hx hb dX10_take_154 hl (k := 0) rfl (by decide +kernel) (by decide) rfl (fun ls hl => ?_)
  refine lv_goto (tgt := 121) hx hb dX10_take_157 (by decide) ?_
  refine lv_iload_n hx hb dX10_take_121 rfl (lv_at hl 0 rfl) ?_
  refine lv_iconst (v := 4) hx hb dX10_take_122 (by decide +kernel) ?_
  refine lv_icmp_ge (tgt := 160) hx hb dX10_take_123 (by decide) (fun q => absurd (q) (by decide +kernel)) (fun _ => ?_)
  refine lv_aload_n hx hb dX10_take_126 rfl (lv_at hl 1 rfl) ?_
  refine va_get (D := G) (ci := 7) (v := .ref p9) (C := RX10) (T := TX10) (N := 71) (ref := RX10) hx hb hts h1w hown hX.1 hP 0 rfl rfl 8 (by decide) h10w (fun _ h9 => h9) rfl dX10_take_127 ?_
  refine lv_iload_n hx hb dX10_take_130 rfl (lv_at hl 0 rfl) ?_
  refine lv_aload_n hx hb dX10_take_131 rfl (lv_at hl 1 rfl) ?_
  refine va_get (D := G) (ci := 7) (v := .ref p9) (C := RX10) (T := TX10) (N := 71) (ref := RX10) hx hb hts h1w hown hX.1 hP 0 rfl rfl 8 (by decide) h10w (fun _ h9 => h9) rfl dX10_take_132 ?_
  refine lv_iconst (v := 4) hx hb dX10_take_135 (by decide +kernel) ?_
  refine lv_iload_n hx hb dX10_take_136 rfl (lv_at hl 0 rfl) ?_
  refine lv_iadd hx hb dX10_take_137 ?_
  refine cz_ti (w := 6) (by decide +kernel) ?_
  refine va_iald hx hb hX.1 hP 6 0 rfl rfl (by unfold vp_in; decide +kernel) dX10_take_138 ?_
  refine cz_ti (w := 0) (by rfl) ?_
  refine va_iast hx hb hX.1 hP hD hS 6 0 rfl rfl (by unfold vp_in; decide +kernel) dX10_take_139 (fun H locs hP hD hS => ?_)
  obtain ⟨hP, hD⟩ : va_P G vwCl [(p0, .inr (7, (v1 :: v2 :: v3 :: .ref p4 :: .ref p5 :: .ref p6 :: .ref p7 :: .ref p8 :: .ref p9 :: .ref p10 :: v11 :: v12 :: .int 0 :: .int 0 :: .int 0 :: .int 0 :: v14 :: v15 :: v16 :: v17 :: v18 :: v19 :: v20 :: v21 :: v22 :: v23 :: v24 :: .int 0 :: v25 :: v26 :: v27 :: v28 :: .ref p29 :: v30 :: v31 :: v32 :: v33 :: v34 :: v35 :: v36 :: v37 :: v38 :: v39 :: v40 :: v41 :: v42 :: v43 :: v44 :: v45 :: v46 :: v47 :: v48 :: v49 :: v50 :: v51 :: v52 :: v53 :: v54 :: v55 :: v56 :: v57 :: v58 :: v59 :: v60 :: v61 :: v62 :: v63 :: v64 :: v65 :: v66 :: v67 :: []))), (p4, .inl (k 0, 14, .inl (upd (upd (upd (upd (upd (upd (upd (upd (upd (upd (upd (upd (upd (upd (upd (upd (upd (upd (upd (upd (upd (fun _ => 0) (0 : Int32).toNatClampNeg 1) (1 : Int32).toNatClampNeg 0) (2 : Int32).toNatClampNeg 99) (3 : Int32).toNatClampNeg 0) (4 : Int32).toNatClampNeg 1) (5 : Int32).toNatClampNeg 20) (6 : Int32).toNatClampNeg 0) (7 : Int32).toNatClampNeg 1) (8 : Int32).toNatClampNeg 0) (9 : Int32).toNatClampNeg 99) (10 : Int32).toNatClampNeg 0) (11 : Int32).toNatClampNeg 1) (12 : Int32).toNatClampNeg 20) (13 : Int32).toNatClampNeg 0) (0 : Int32).toNatClampNeg 1) (1 : Int32).toNatClampNeg 0) (2 : Int32).toNatClampNeg 99) (3 : Int32).toNatClampNeg 0) (4 : Int32).toNatClampNeg 1) (5 : Int32).toNatClampNeg 20) (6 : Int32).toNatClampNeg 0))), (p5, .inl (k 0, 14, .inl (upd (upd (upd (upd (upd (upd (upd (fun _ => 0) (0 : Int32).toNatClampNeg 0) (1 : Int32).toNatClampNeg 0) (2 : Int32).toNatClampNeg 0) (3 : Int32).toNatClampNeg 0) (4 : Int32).toNatClampNeg 0) (5 : Int32).toNatClampNeg 0) (6 : Int32).toNatClampNeg 0))), (p6, .inl (k 0, 14, .inl (upd (upd (upd (upd (upd (upd (upd (fun _ => 0) (0 : Int32).toNatClampNeg 0) (1 : Int32).toNatClampNeg 0) (2 : Int32).toNatClampNeg 0) (3 : Int32).toNatClampNeg 0) (4 : Int32).toNatClampNeg 0) (5 : Int32).toNatClampNeg 0) (6 : Int32).toNatClampNeg 0))), (p7, .inl (k 0, 14, .inl (upd (upd (upd (upd (upd (upd (upd (fun _ => 0) (0 : Int32).toNatClampNeg 0) (1 : Int32).toNatClampNeg 0) (2 : Int32).toNatClampNeg 0) (3 : Int32).toNatClampNeg 0) (4 : Int32).toNatClampNeg 0) (5 : Int32).toNatClampNeg 0) (6 : Int32).toNatClampNeg 0))), (p8, .inl (k 0, 14, .inl (upd (upd (upd (upd (upd (upd (upd (fun _ => 0) (0 : Int32).toNatClampNeg 0) (1 : Int32).toNatClampNeg 0) (2 : Int32).toNatClampNeg 0) (3 : Int32).toNatClampNeg 0) (4 : Int32).toNatClampNeg 0) (5 : Int32).toNatClampNeg 0) (6 : Int32).toNatClampNeg 0))), (p9, .inl (k 0, 8, .inl (upd (upd (upd (fun _ => 0) (0 : Int32).toNatClampNeg 0) (1 : Int32).toNatClampNeg 0) (2 : Int32).toNatClampNeg 0))), (p10, .inl (k 0, 8, .inl (upd (upd (fun _ => 0) (0 : Int32).toNatClampNeg 0) (1 : Int32).toNatClampNeg 0))), (p29, .inl (k 0, 7, .inl f68))] H ∧ va_D A [(p0, .inr (7, (v1 :: v2 :: v3 :: .ref p4 :: .ref p5 :: .ref p6 :: .ref p7 :: .ref p8 :: .ref p9 :: .ref p10 :: v11 :: v12 :: .int 0 :: .int 0 :: .int 0 :: .int 0 :: v14 :: v15 :: v16 :: v17 :: v18 :: v19 :: v20 :: v21 :: v22 :: v23 :: v24 :: .int 0 :: v25 :: v26 :: v27 :: v28 :: .ref p29 :: v30 :: v31 :: v32 :: v33 :: v34 :: v35 :: v36 :: v37 :: v38 :: v39 :: v40 :: v41 :: v42 :: v43 :: v44 :: v45 :: v46 :: v47 :: v48 :: v49 :: v50 :: v51 :: v52 :: v53 :: v54 :: v55 :: v56 :: v57 :: v58 :: v59 :: v60 :: v61 :: v62 :: v63 :: v64 :: v65 :: v66 :: v67 :: []))), (p4, .inl (k 0, 14, .inl (upd (upd (upd (upd (upd (upd (upd (upd (upd (upd (upd (upd (upd (upd (upd (upd (upd (upd (upd (upd (upd (fun _ => 0) (0 : Int32).toNatClampNeg 1) (1 : Int32).toNatClampNeg 0) (2 : Int32).toNatClampNeg 99) (3 : Int32).toNatClampNeg 0) (4 : Int32).toNatClampNeg 1) (5 : Int32).toNatClampNeg 20) (6 : Int32).toNatClampNeg 0) (7 : Int32).toNatClampNeg 1) (8 : Int32).toNatClampNeg 0) (9 : Int32).toNatClampNeg 99) (10 : Int32).toNatClampNeg 0) (11 : Int32).toNatClampNeg 1) (12 : Int32).toNatClampNeg 20) (13 : Int32).toNatClampNeg 0) (0 : Int32).toNatClampNeg 1) (1 : Int32).toNatClampNeg 0) (2 : Int32).toNatClampNeg 99) (3 : Int32).toNatClampNeg 0) (4 : Int32).toNatClampNeg 1) (5 : Int32).toNatClampNeg 20) (6 : Int32).toNatClampNeg 0))), (p5, .inl (k 0, 14, .inl (upd (upd (upd (upd (upd (upd (upd (fun _ => 0) (0 : Int32).toNatClampNeg 0) (1 : Int32).toNatClampNeg 0) (2 : Int32).toNatClampNeg 0) (3 : Int32).toNatClampNeg 0) (4 : Int32).toNatClampNeg 0) (5 : Int32).toNatClampNeg 0) (6 : Int32).toNatClampNeg 0))), (p6, .inl (k 0, 14, .inl (upd (upd (upd (upd (upd (upd (upd (fun _ => 0) (0 : Int32).toNatClampNeg 0) (1 : Int32).toNatClampNeg 0) (2 : Int32).toNatClampNeg 0) (3 : Int32).toNatClampNeg 0) (4 : Int32).toNatClampNeg 0) (5 : Int32).toNatClampNeg 0) (6 : Int32).toNatClampNeg 0))), (p7, .inl (k 0, 14, .inl (upd (upd (upd (upd (upd (upd (upd (fun _ => 0) (0 : Int32).toNatClampNeg 0) (1 : Int32).toNatClampNeg 0) (2 : Int32).toNatClampNeg 0) (3 : Int32).toNatClampNeg 0) (4 : Int32).toNatClampNeg 0) (5 : Int32).toNatClampNeg 0) (6 : Int32).toNatClampNeg 0))), (p8, .inl (k 0, 14, .inl (upd (upd (upd (upd (upd (upd (upd (fun _ => 0) (0 : Int32).toNatClampNeg 0) (1 : Int32).toNatClampNeg 0) (2 : Int32).toNatClampNeg 0) (3 : Int32).toNatClampNeg 0) (4 : Int32).toNatClampNeg 0) (5 : Int32).toNatClampNeg 0) (6 : Int32).toNatClampNeg 0))), (p9, .inl (k 0, 8, .inl (upd (upd (upd (fun _ => 0) (0 : Int32).toNatClampNeg 0) (1 : Int32).toNatClampNeg 0) (2 : Int32).toNatClampNeg 0))), (p10, .inl (k 0, 8, .inl (upd (upd (fun _ => 0) (0 : Int32).toNatClampNeg 0) (1 : Int32).toNatClampNeg 0))), (p29, .inl (k 0, 7, .inl f68))] := ⟨hP, hD⟩
  refine lv_aload_n hx hb dX10_take_140 rfl (lv_at hl 1 rfl) ?_
  refine va_get (D := G) (ci := 7) (v := .ref p10) (C := RX10) (T := TX10) (N := 71) (ref := RX10) hx hb hts h1w hown hX.1 hP 0 rfl rfl 9 (by decide) h11w (fun _ h9 => h9) rfl dX10_take_141 ?_
  refine lv_iload_n hx hb dX10_take_144 rfl (lv_at hl 0 rfl) ?_
  refine lv_aload_n hx hb dX10_take_145 rfl (lv_at hl 1 rfl) ?_
  refine va_get (D := G) (ci := 7) (v := .ref p10) (C := RX10) (T := TX10) (N := 71) (ref := RX10) hx hb hts h1w hown hX.1 hP 0 rfl rfl 9 (by decide) h11w (fun _ h9 => h9) rfl dX10_take_146 ?_
  refine lv_iconst (v := 4) hx hb dX10_take_149 (by decide +kernel) ?_
  refine lv_iload_n hx hb dX10_take_150 rfl (lv_at hl 0 rfl) ?_
  refine lv_iadd hx hb dX10_take_151 ?_
  refine cz_ti (w := 6) (by decide +kernel) ?_
  refine va_iald hx hb hX.1 hP 7 0 rfl rfl (by unfold vp_in; decide +kernel) dX10_take_152 ?_
  refine cz_ti (w := 0) (by rfl) ?_
  refine va_iast hx hb hX.1 hP hD hS 7 0 rfl rfl (by unfold vp_in; decide +kernel) dX10_take_153 (fun H locs hP hD hS => ?_)
  refine lv_iinc (v := 3) (lv' := [(1, .int 3), (0, .ref p0)]) hx hb dX10_take_154 hl (k := 0) rfl (by decide +kernel) (by decide) rfl (fun ls hl => ?_)
  refine lv_goto (tgt := 121) hx hb dX10_take_157 (by decide) ?_
  refine lv_iload_n hx hb dX10_take_121 rfl (lv_at hl 0 rfl) ?_
  refine lv_iconst (v := 4) hx hb dX10_take_122 (by decide +kernel) ?_
  refine lv_icmp_ge (tgt := 160) hx hb dX10_take_123 (by decide) (fun q => absurd (q) (by decide +kernel)) (fun _ => ?_)
  refine lv_aload_n hx hb dX10_take_126 rfl (lv_at hl 1 rfl) ?_
  refine va_get (D := G) (ci := 7) (v := .ref p9) (C := RX10) (T := TX10) (N := 71) (ref := RX10) hx hb hts h1w hown hX.1 hP 0 rfl rfl 8 (by decide) h10w (fun _ h9 => h9) rfl dX10_take_127 ?_
  refine lv_iload_n hx hb dX10_take_130 rfl (lv_at hl 0 rfl) ?_
  refine lv_aload_n hx hb dX10_take_131 rfl (lv_at hl 1 rfl) ?_
  refine va_get (D := G) (ci := 7) (v := .ref p9) (C := RX10) (T := TX10) (N := 71) (ref := RX10) hx hb hts h1w hown hX.1 hP 0 rfl rfl 8 (by decide) h10w (fun _ h9 => h9) rfl dX10_take_132 ?_
  refine lv_iconst (v := 4) hx hb dX10_take_135 (by decide +kernel) ?_
  refine lv_iload_n hx hb dX10_take_136 rfl (lv_at hl 0 rfl) ?_
  refine lv_iadd hx hb dX10_take_137 ?_
  refine cz_ti (w := 7) (by decide +kernel) ?_
  refine va_iald hx hb hX.1 hP 6 0 rfl rfl (by unfold vp_in; decide +kernel) dX10_take_138 ?_
  refine cz_ti (w := 0) (by rfl) ?_
  refine va_iast hx hb hX.1 hP hD hS 6 0 rfl rfl (by unfold vp_in; decide +kernel) dX10_take_139 (fun H locs hP hD hS => ?_)
  refine lv_aload_n hx hb dX10_take_140 rfl (lv_at hl 1 rfl) ?_
  refine va_get (D := G) (ci := 7) (v := .ref p10) (C := RX10) (T := TX10) (N := 71) (ref := RX10) hx hb hts h1w hown hX.1 hP 0 rfl rfl 9 (by decide) h11w (fun _ h9 => h9) rfl dX10_take_141 ?_
  refine lv_iload_n hx hb dX10_take_144 rfl (lv_at hl 0 rfl) ?_
  refine lv_aload_n hx hb dX10_take_145 rfl (lv_at hl 1 rfl) ?_
  refine va_get (D := G) (ci := 7) (v := .ref p10) (C := RX10) (T := TX10) (N := 71) (ref := RX10) hx hb hts h1w hown hX.1 hP 0 rfl rfl 9 (by decide) h11w (fun _ h9 => h9) rfl dX10_take_146 ?_
  refine lv_iconst (v := 4) hx hb dX10_take_149 (by decide +kernel) ?_
  refine lv_iload_n hx hb dX10_take_150 rfl (lv_at hl 0 rfl) ?_
  refine lv_iadd hx hb dX10_take_151 ?_
  refine cz_ti (w := 7) (by decide +kernel) ?_
  refine va_iald hx hb hX.1 hP 7 0 rfl rfl (by unfold vp_in; decide +kernel) dX10_take_152 ?_
  refine cz_ti (w := 0) (by rfl) ?_
  refine va_iast hx hb hX.1 hP hD hS 7 0 rfl rfl (by unfold vp_in; decide +kernel) dX10_take_153 (fun H locs hP hD hS => ?_)
  refine lv_iinc (v := 4) (lv' := [(1, .int 4), (0, .ref p0)]) hx hb dX10_take_154 hl (k := 0) rfl (by decide +kernel) (by decide) rfl (fun ls hl => ?_)
  refine lv_goto (tgt := 121) hx hb dX10_take_157 (by decide) ?_
  refine lv_iload_n hx hb dX10_take_121 rfl (lv_at hl 0 rfl) ?_
  refine lv_iconst (v := 4) hx hb dX10_take_122 (by decide +kernel) ?_
  refine lv_icmp_ge (tgt := 160) hx hb dX10_take_123 (by decide) (fun _ => ?_) (fun q => absurd (by decide +kernel) (q))
  refine lv_iconst (v := 0) hx hb dX10_take_160 (by decide +kernel) ?_
  refine lv_istore_n (lv' := [(1, .int 0), (0, .ref p0)]) hx hb dX10_take_161 rfl hl (by decide) rfl (fun ls hl => ?_)
  refine lv_iload_n hx hb dX10_take_162 rfl (lv_at hl 0 rfl) ?_
  refine lv_aload_n hx hb dX10_take_163 rfl (lv_at hl 1 rfl) ?_
  refine va_get (D := G) (ci := 7) (v := .int 0) (C := RX10) (T := TX10) (N := 71) (ref := RX10) hx hb hts h1w hown hX.1 hP 0 rfl rfl 27 (by decide) h12w (fun _ h9 => h9) rfl dX10_take_164 ?_
  refine lv_icmp_ge (tgt := 192) hx hb dX10_take_167 (by decide) (fun _ => ?_) (fun q => absurd (by decide +kernel) (q))
  refine lv_iconst (v := 0) hx hb dX10_take_192 (by decide +kernel) ?_
  refine lv_istore_n (lv' := [(1, .int 0), (0, .ref p0)]) hx hb dX10_take_193 rfl hl (by decide) rfl (fun ls hl => ?_)
  refine lv_iload_n hx hb dX10_take_194 rfl (lv_at hl 0 rfl) ?_
  refine lv_bipush (v := 7) hx hb dX10_take_195 (by decide +kernel) ?_
  refine lv_icmp_ge (tgt := 231) hx hb dX10_take_197 (by decide) (fun q => absurd (q) (by decide +kernel)) (fun _ => ?_)
  refine lv_aload_n hx hb dX10_take_200 rfl (lv_at hl 1 rfl) ?_
  refine va_get (D := G) (ci := 7) (v := .ref p29) (C := RX10) (T := TX10) (N := 71) (ref := RX10) hx hb hts h1w hown hX.1 hP 0 rfl rfl 32 (by decide) h13w (fun _ h9 => h9) rfl dX10_take_201 ?_
  refine lv_iload_n hx hb dX10_take_204 rfl (lv_at hl 0 rfl) ?_
  refine lv_iload_n hx hb dX10_take_205 rfl (lv_at hl 0 rfl) ?_
  refine lv_aload_n hx hb dX10_take_206 rfl (lv_at hl 1 rfl) ?_
  refine va_get (D := G) (ci := 7) (v := .int 0) (C := RX10) (T := TX10) (N := 71) (ref := RX10) hx hb hts h1w hown hX.1 hP 0 rfl rfl 12 (by decide) h3w (fun _ h9 => h9) rfl dX10_take_207 ?_
  refine lv_icmp_ge (tgt := 222) hx hb dX10_take_210 (by decide) (fun _ => ?_) (fun q => absurd (by decide +kernel) (q))
  refine lv_bipush (v := 15) hx hb dX10_take_222 (by decide +kernel) ?_
  refine va_iast hx hb hX.1 hP hD hS 8 0 rfl rfl (by unfold vp_in; decide +kernel) dX10_take_224 (fun H locs hP hD hS => ?_)
  refine lv_iinc (v := 1) (lv' := [(1, .int 1), (0, .ref p0)]) hx hb dX10_take_225 hl (k := 0) rfl (by decide +kernel) (by decide) rfl (fun ls hl => ?_)
  refine lv_goto (tgt := 194) hx hb dX10_take_228 (by decide) ?_
  refine lv_iload_n hx hb dX10_take_194 rfl (lv_at hl 0 rfl) ?_
  refine lv_bipush (v := 7) hx hb dX10_take_195 (by decide +kernel) ?_
  refine lv_icmp_ge (tgt := 231) hx hb dX10_take_197 (by decide) (fun q => absurd (q) (by decide +kernel)) (fun _ => ?_)
  refine lv_aload_n hx hb dX10_take_200 rfl (lv_at hl 1 rfl) ?_
  refine va_get (D := G) (ci := 7) (v := .ref p29) (C := RX10) (T := TX10) (N := 71) (ref := RX10) hx hb hts h1w hown hX.1 hP 0 rfl rfl 32 (by decide) h13w (fun _ h9 => h9) rfl dX10_take_201 ?_
  refine lv_iload_n hx hb dX10_take_204 rfl (lv_at hl 0 rfl) ?_
  refine lv_iload_n hx hb dX10_take_205 rfl (lv_at hl 0 rfl) ?_
  refine lv_aload_n hx hb dX10_take_206 rfl (lv_at hl 1 rfl) ?_
  refine va_get (D := G) (ci := 7) (v := .int 0) (C := RX10) (T := TX10) (N := 71) (ref := RX10) hx hb hts h1w hown hX.1 hP 0 rfl rfl 12 (by decide) h3w (fun _ h9 => h9) rfl dX10_take_207 ?_
  refine lv_icmp_ge (tgt := 222) hx hb dX10_take_210 (by decide) (fun _ => ?_) (fun q => absurd (by decide +kernel) (q))
  refine lv_bipush (v := 15) hx hb dX10_take_222 (by decide +kernel) ?_
  refine va_iast hx hb hX.1 hP hD hS 8 0 rfl rfl (by unfold vp_in; decide +kernel) dX10_take_224 (fun H locs hP hD hS => ?_)
  refine lv_iinc (v := 2) (lv' := [(1, .int 2), (0, .ref p0)]) hx hb dX10_take_225 hl (k := 0) rfl (by decide +kernel) (by decide) rfl (fun ls hl => ?_)
  refine lv_goto (tgt := 194) hx hb dX10_take_228 (by decide) ?_
  refine lv_iload_n hx hb dX10_take_194 rfl (lv_at hl 0 rfl) ?_
  refine lv_bipush (v := 7) hx hb dX10_take_195 (by decide +kernel) ?_
  refine lv_icmp_ge (tgt := 231) hx hb dX10_take_197 (by decide) (fun q => absurd (q) (by decide +kernel)) (fun _ => ?_)
  refine lv_aload_n hx hb dX10_take_200 rfl (lv_at hl 1 rfl) ?_
  refine va_get (D := G) (ci := 7) (v := .ref p29) (C := RX10) (T := TX10) (N := 71) (ref := RX10) hx hb hts h1w hown hX.1 hP 0 rfl rfl 32 (by decide) h13w (fun _ h9 => h9) rfl dX10_take_201 ?_
  refine lv_iload_n hx hb dX10_take_204 rfl (lv_at hl 0 rfl) ?_
  refine lv_iload_n hx hb dX10_take_205 rfl (lv_at hl 0 rfl) ?_
  refine lv_aload_n hx hb dX10_take_206 rfl (lv_at hl 1 rfl) ?_
  refine va_get (D := G) (ci := 7) (v := .int 0) (C := RX10) (T := TX10) (N := 71) (ref := RX10) hx hb hts h1w hown hX.1 hP 0 rfl rfl 12 (by decide) h3w (fun _ h9 => h9) rfl dX10_take_207 ?_
  refine lv_icmp_ge (tgt := 222) hx hb dX10_take_210 (by decide) (fun _ => ?_) (fun q => absurd (by decide +kernel) (q))
  refine lv_bipush (v := 15) hx hb dX10_take_222 (by decide +kernel) ?_
  refine va_iast hx hb hX.1 hP hD hS 8 0 rfl rfl (by unfold vp_in; decide +kernel) dX10_take_224 (fun H locs hP hD hS => ?_)
  obtain ⟨hP, hD⟩ : va_P G vwCl [(p0, .inr (7, (v1 :: v2 :: v3 :: .ref p4 :: .ref p5 :: .ref p6 :: .ref p7 :: .ref p8 :: .ref p9 :: .ref p10 :: v11 :: v12 :: .int 0 :: .int 0 :: .int 0 :: .int 0 :: v14 :: v15 :: v16 :: v17 :: v18 :: v19 :: v20 :: v21 :: v22 :: v23 :: v24 :: .int 0 :: v25 :: v26 :: v27 :: v28 :: .ref p29 :: v30 :: v31 :: v32 :: v33 :: v34 :: v35 :: v36 :: v37 :: v38 :: v39 :: v40 :: v41 :: v42 :: v43 :: v44 :: v45 :: v46 :: v47 :: v48 :: v49 :: v50 :: v51 :: v52 :: v53 :: v54 :: v55 :: v56 :: v57 :: v58 :: v59 :: v60 :: v61 :: v62 :: v63 :: v64 :: v65 :: v66 :: v67 :: []))), (p4, .inl (k 0, 14, .inl (upd (upd (upd (upd (upd (upd (upd (upd (upd (upd (upd (upd (upd (upd (upd (upd (upd (upd (upd (upd (upd (fun _ => 0) (0 : Int32).toNatClampNeg 1) (1 : Int32).toNatClampNeg 0) (2 : Int32).toNatClampNeg 99) (3 : Int32).toNatClampNeg 0) (4 : Int32).toNatClampNeg 1) (5 : Int32).toNatClampNeg 20) (6 : Int32).toNatClampNeg 0) (7 : Int32).toNatClampNeg 1) (8 : Int32).toNatClampNeg 0) (9 : Int32).toNatClampNeg 99) (10 : Int32).toNatClampNeg 0) (11 : Int32).toNatClampNeg 1) (12 : Int32).toNatClampNeg 20) (13 : Int32).toNatClampNeg 0) (0 : Int32).toNatClampNeg 1) (1 : Int32).toNatClampNeg 0) (2 : Int32).toNatClampNeg 99) (3 : Int32).toNatClampNeg 0) (4 : Int32).toNatClampNeg 1) (5 : Int32).toNatClampNeg 20) (6 : Int32).toNatClampNeg 0))), (p5, .inl (k 0, 14, .inl (upd (upd (upd (upd (upd (upd (upd (fun _ => 0) (0 : Int32).toNatClampNeg 0) (1 : Int32).toNatClampNeg 0) (2 : Int32).toNatClampNeg 0) (3 : Int32).toNatClampNeg 0) (4 : Int32).toNatClampNeg 0) (5 : Int32).toNatClampNeg 0) (6 : Int32).toNatClampNeg 0))), (p6, .inl (k 0, 14, .inl (upd (upd (upd (upd (upd (upd (upd (fun _ => 0) (0 : Int32).toNatClampNeg 0) (1 : Int32).toNatClampNeg 0) (2 : Int32).toNatClampNeg 0) (3 : Int32).toNatClampNeg 0) (4 : Int32).toNatClampNeg 0) (5 : Int32).toNatClampNeg 0) (6 : Int32).toNatClampNeg 0))), (p7, .inl (k 0, 14, .inl (upd (upd (upd (upd (upd (upd (upd (fun _ => 0) (0 : Int32).toNatClampNeg 0) (1 : Int32).toNatClampNeg 0) (2 : Int32).toNatClampNeg 0) (3 : Int32).toNatClampNeg 0) (4 : Int32).toNatClampNeg 0) (5 : Int32).toNatClampNeg 0) (6 : Int32).toNatClampNeg 0))), (p8, .inl (k 0, 14, .inl (upd (upd (upd (upd (upd (upd (upd (fun _ => 0) (0 : Int32).toNatClampNeg 0) (1 : Int32).toNatClampNeg 0) (2 : Int32).toNatClampNeg 0) (3 : Int32).toNatClampNeg 0) (4 : Int32).toNatClampNeg 0) (5 : Int32).toNatClampNeg 0) (6 : Int32).toNatClampNeg 0))), (p9, .inl (k 0, 8, .inl (upd (upd (upd (upd (fun _ => 0) (0 : Int32).toNatClampNeg 0) (1 : Int32).toNatClampNeg 0) (2 : Int32).toNatClampNeg 0) (3 : Int32).toNatClampNeg 0))), (p10, .inl (k 0, 8, .inl (upd (upd (upd (upd (fun _ => 0) (0 : Int32).toNatClampNeg 0) (1 : Int32).toNatClampNeg 0) (2 : Int32).toNatClampNeg 0) (3 : Int32).toNatClampNeg 0))), (p29, .inl (k 0, 7, .inl (upd (upd (upd f68 (0 : Int32).toNatClampNeg 15) (1 : Int32).toNatClampNeg 15) (2 : Int32).toNatClampNeg 15)))] H ∧ va_D A [(p0, .inr (7, (v1 :: v2 :: v3 :: .ref p4 :: .ref p5 :: .ref p6 :: .ref p7 :: .ref p8 :: .ref p9 :: .ref p10 :: v11 :: v12 :: .int 0 :: .int 0 :: .int 0 :: .int 0 :: v14 :: v15 :: v16 :: v17 :: v18 :: v19 :: v20 :: v21 :: v22 :: v23 :: v24 :: .int 0 :: v25 :: v26 :: v27 :: v28 :: .ref p29 :: v30 :: v31 :: v32 :: v33 :: v34 :: v35 :: v36 :: v37 :: v38 :: v39 :: v40 :: v41 :: v42 :: v43 :: v44 :: v45 :: v46 :: v47 :: v48 :: v49 :: v50 :: v51 :: v52 :: v53 :: v54 :: v55 :: v56 :: v57 :: v58 :: v59 :: v60 :: v61 :: v62 :: v63 :: v64 :: v65 :: v66 :: v67 :: []))), (p4, .inl (k 0, 14, .inl (upd (upd (upd (upd (upd (upd (upd (upd (upd (upd (upd (upd (upd (upd (upd (upd (upd (upd (upd (upd (upd (fun _ => 0) (0 : Int32).toNatClampNeg 1) (1 : Int32).toNatClampNeg 0) (2 : Int32).toNatClampNeg 99) (3 : Int32).toNatClampNeg 0) (4 : Int32).toNatClampNeg 1) (5 : Int32).toNatClampNeg 20) (6 : Int32).toNatClampNeg 0) (7 : Int32).toNatClampNeg 1) (8 : Int32).toNatClampNeg 0) (9 : Int32).toNatClampNeg 99) (10 : Int32).toNatClampNeg 0) (11 : Int32).toNatClampNeg 1) (12 : Int32).toNatClampNeg 20) (13 : Int32).toNatClampNeg 0) (0 : Int32).toNatClampNeg 1) (1 : Int32).toNatClampNeg 0) (2 : Int32).toNatClampNeg 99) (3 : Int32).toNatClampNeg 0) (4 : Int32).toNatClampNeg 1) (5 : Int32).toNatClampNeg 20) (6 : Int32).toNatClampNeg 0))), (p5, .inl (k 0, 14, .inl (upd (upd (upd (upd (upd (upd (upd (fun _ => 0) (0 : Int32).toNatClampNeg 0) (1 : Int32).toNatClampNeg 0) (2 : Int32).toNatClampNeg 0) (3 : Int32).toNatClampNeg 0) (4 : Int32).toNatClampNeg 0) (5 : Int32).toNatClampNeg 0) (6 : Int32).toNatClampNeg 0))), (p6, .inl (k 0, 14, .inl (upd (upd (upd (upd (upd (upd (upd (fun _ => 0) (0 : Int32).toNatClampNeg 0) (1 : Int32).toNatClampNeg 0) (2 : Int32).toNatClampNeg 0) (3 : Int32).toNatClampNeg 0) (4 : Int32).toNatClampNeg 0) (5 : Int32).toNatClampNeg 0) (6 : Int32).toNatClampNeg 0))), (p7, .inl (k 0, 14, .inl (upd (upd (upd (upd (upd (upd (upd (fun _ => 0) (0 : Int32).toNatClampNeg 0) (1 : Int32).toNatClampNeg 0) (2 : Int32).toNatClampNeg 0) (3 : Int32).toNatClampNeg 0) (4 : Int32).toNatClampNeg 0) (5 : Int32).toNatClampNeg 0) (6 : Int32).toNatClampNeg 0))), (p8, .inl (k 0, 14, .inl (upd (upd (upd (upd (upd (upd (upd (fun _ => 0) (0 : Int32).toNatClampNeg 0) (1 : Int32).toNatClampNeg 0) (2 : Int32).toNatClampNeg 0) (3 : Int32).toNatClampNeg 0) (4 : Int32).toNatClampNeg 0) (5 : Int32).toNatClampNeg 0) (6 : Int32).toNatClampNeg 0))), (p9, .inl (k 0, 8, .inl (upd (upd (upd (upd (fun _ => 0) (0 : Int32).toNatClampNeg 0) (1 : Int32).toNatClampNeg 0) (2 : Int32).toNatClampNeg 0) (3 : Int32).toNatClampNeg 0))), (p10, .inl (k 0, 8, .inl (upd (upd (upd (upd (fun _ => 0) (0 : Int32).toNatClampNeg 0) (1 : Int32).toNatClampNeg 0) (2 : Int32).toNatClampNeg 0) (3 : Int32).toNatClampNeg 0))), (p29, .inl (k 0, 7, .inl (upd (upd (upd f68 (0 : Int32).toNatClampNeg 15) (1 : Int32).toNatClampNeg 15) (2 : Int32).toNatClampNeg 15)))] := ⟨hP, hD⟩
  refine lv_iinc (v := 3) (lv' := [(1, .int 3), (0, .ref p0)]) hx hb dX10_take_225 hl (k := 0) rfl (by decide +kernel) (by decide) rfl (fun ls hl => ?_)
  refine lv_goto (tgt := 194) hx hb dX10_take_228 (by decide) ?_
  refine lv_iload_n hx hb dX10_take_194 rfl (lv_at hl 0 rfl) ?_
  refine lv_bipush (v := 7) hx hb dX10_take_195 (by decide +kernel) ?_
  refine lv_icmp_ge (tgt := 231) hx hb dX10_take_197 (by decide) (fun q => absurd (q) (by decide +kernel)) (fun _ => ?_)
  refine lv_aload_n hx hb dX10_take_200 rfl (lv_at hl 1 rfl) ?_
  refine va_get (D := G) (ci := 7) (v := .ref p29) (C := RX10) (T := TX10) (N := 71) (ref := RX10) hx hb hts h1w hown hX.1 hP 0 rfl rfl 32 (by decide) h13w (fun _ h9 => h9) rfl dX10_take_201 ?_
  refine lv_iload_n hx hb dX10_take_204 rfl (lv_at hl 0 rfl) ?_
  refine lv_iload_n hx hb dX10_take_205 rfl (lv_at hl 0 rfl) ?_
  refine lv_aload_n hx hb dX10_take_206 rfl (lv_at hl 1 rfl) ?_
  refine va_get (D := G) (ci := 7) (v := .int 0) (C := RX10) (T := TX10) (N := 71) (ref := RX10) hx hb hts h1w hown hX.1 hP 0 rfl rfl 12 (by decide) h3w (fun _ h9 => h9) rfl dX10_take_207 ?_
  refine lv_icmp_ge (tgt := 222) hx hb dX10_take_210 (by decide) (fun _ => ?_) (fun q => absurd (by decide +kernel) (q))
  refine lv_bipush (v := 15) hx hb dX10_take_222 (by decide +kernel) ?_
  refine va_iast hx hb hX.1 hP hD hS 8 0 rfl rfl (by unfold vp_in; decide +kernel) dX10_take_224 (fun H locs hP hD hS => ?_)
  refine lv_iinc (v := 4) (lv' := [(1, .int 4), (0, .ref p0)]) hx hb dX10_take_225 hl (k := 0) rfl (by decide +kernel) (by decide) rfl (fun ls hl => ?_)
  refine lv_goto (tgt := 194) hx hb dX10_take_228 (by decide) ?_
  refine lv_iload_n hx hb dX10_take_194 rfl (lv_at hl 0 rfl) ?_
  refine lv_bipush (v := 7) hx hb dX10_take_195 (by decide +kernel) ?_
  refine lv_icmp_ge (tgt := 231) hx hb dX10_take_197 (by decide) (fun q => absurd (q) (by decide +kernel)) (fun _ => ?_)
  refine lv_aload_n hx hb dX10_take_200 rfl (lv_at hl 1 rfl) ?_
  refine va_get (D := G) (ci := 7) (v := .ref p29) (C := RX10) (T := TX10) (N := 71) (ref := RX10) hx hb hts h1w hown hX.1 hP 0 rfl rfl 32 (by decide) h13w (fun _ h9 => h9) rfl dX10_take_201 ?_
  refine lv_iload_n hx hb dX10_take_204 rfl (lv_at hl 0 rfl) ?_
  refine lv_iload_n hx hb dX10_take_205 rfl (lv_at hl 0 rfl) ?_
  refine lv_aload_n hx hb dX10_take_206 rfl (lv_at hl 1 rfl) ?_
  refine va_get (D := G) (ci := 7) (v := .int 0) (C := RX10) (T := TX10) (N := 71) (ref := RX10) hx hb hts h1w hown hX.1 hP 0 rfl rfl 12 (by decide) h3w (fun _ h9 => h9) rfl dX10_take_207 ?_
  refine lv_icmp_ge (tgt := 222) hx hb dX10_take_210 (by decide) (fun _ => ?_) (fun q => absurd (by decide +kernel) (q))
  refine lv_bipush (v := 15) hx hb dX10_take_222 (by decide +kernel) ?_
  refine va_iast hx hb hX.1 hP hD hS 8 0 rfl rfl (by unfold vp_in; decide +kernel) dX10_take_224 (fun H locs hP hD hS => ?_)
  refine lv_iinc (v := 5) (lv' := [(1, .int 5), (0, .ref p0)]) hx hb dX10_take_225 hl (k := 0) rfl (by decide +kernel) (by decide) rfl (fun ls hl => ?_)
  refine lv_goto (tgt := 194) hx hb dX10_take_228 (by decide) ?_
  refine lv_iload_n hx hb dX10_take_194 rfl (lv_at hl 0 rfl) ?_
  refine lv_bipush (v := 7) hx hb dX10_take_195 (by decide +kernel) ?_
  refine lv_icmp_ge (tgt := 231) hx hb dX10_take_197 (by decide) (fun q => absurd (q) (by decide +kernel)) (fun _ => ?_)
  refine lv_aload_n hx hb dX10_take_200 rfl (lv_at hl 1 rfl) ?_
  refine va_get (D := G) (ci := 7) (v := .ref p29) (C := RX10) (T := TX10) (N := 71) (ref := RX10) hx hb hts h1w hown hX.1 hP 0 rfl rfl 32 (by decide) h13w (fun _ h9 => h9) rfl dX10_take_201 ?_
  refine lv_iload_n hx hb dX10_take_204 rfl (lv_at hl 0 rfl) ?_
  refine lv_iload_n hx hb dX10_take_205 rfl (lv_at hl 0 rfl) ?_
  refine lv_aload_n hx hb dX10_take_206 rfl (lv_at hl 1 rfl) ?_
  refine va_get (D := G) (ci := 7) (v := .int 0) (C := RX10) (T := TX10) (N := 71) (ref := RX10) hx hb hts h1w hown hX.1 hP 0 rfl rfl 12 (by decide) h3w (fun _ h9 => h9) rfl dX10_take_207 ?_
  refine lv_icmp_ge (tgt := 222) hx hb dX10_take_210 (by decide) (fun _ => ?_) (fun q => absurd (by decide +kernel) (q))
  refine lv_bipush (v := 15) hx hb dX10_take_222 (by decide +kernel) ?_
  refine va_iast hx hb hX.1 hP hD hS 8 0 rfl rfl (by unfold vp_in; decide +kernel) dX10_take_224 (fun H locs hP hD hS => ?_)
  refine lv_iinc (v := 6) (lv' := [(1, .int 6), (0, .ref p0)]) hx hb dX10_take_225 hl (k := 0) rfl (by decide +kernel) (by decide) rfl (fun ls hl => ?_)
  refine lv_goto (tgt := 194) hx hb dX10_take_228 (by decide) ?_
  refine lv_iload_n hx hb dX10_take_194 rfl (lv_at hl 0 rfl) ?_
  refine lv_bipush (v := 7) hx hb dX10_take_195 (by decide +kernel) ?_
  refine lv_icmp_ge (tgt := 231) hx hb dX10_take_197 (by decide) (fun q => absurd (q) (by decide +kernel)) (fun _ => ?_)
  refine lv_aload_n hx hb dX10_take_200 rfl (lv_at hl 1 rfl) ?_
  refine va_get (D := G) (ci := 7) (v := .ref p29) (C := RX10) (T := TX10) (N := 71) (ref := RX10) hx hb hts h1w hown hX.1 hP 0 rfl rfl 32 (by decide) h13w (fun _ h9 => h9) rfl dX10_take_201 ?_
  refine lv_iload_n hx hb dX10_take_204 rfl (lv_at hl 0 rfl) ?_
  refine lv_iload_n hx hb dX10_take_205 rfl (lv_at hl 0 rfl) ?_
  refine lv_aload_n hx hb dX10_take_206 rfl (lv_at hl 1 rfl) ?_
  refine va_get (D := G) (ci := 7) (v := .int 0) (C := RX10) (T := TX10) (N := 71) (ref := RX10) hx hb hts h1w hown hX.1 hP 0 rfl rfl 12 (by decide) h3w (fun _ h9 => h9) rfl dX10_take_207 ?_
  refine lv_icmp_ge (tgt := 222) hx hb dX10_take_210 (by decide) (fun _ => ?_) (fun q => absurd (by decide +kernel) (q))
  refine lv_bipush (v := 15) hx hb dX10_take_222 (by decide +kernel) ?_
  refine va_iast hx hb hX.1 hP hD hS 8 0 rfl rfl (by unfold vp_in; decide +kernel) dX10_take_224 (fun H locs hP hD hS => ?_)
  refine lv_iinc (v := 7) (lv' := [(1, .int 7), (0, .ref p0)]) hx hb dX10_take_225 hl (k := 0) rfl (by decide +kernel) (by decide) rfl (fun ls hl => ?_)
  refine lv_goto (tgt := 194) hx hb dX10_take_228 (by decide) ?_
  refine lv_iload_n hx hb dX10_take_194 rfl (lv_at hl 0 rfl) ?_
  refine lv_bipush (v := 7) hx hb dX10_take_195 (by decide +kernel) ?_
  refine lv_icmp_ge (tgt := 231) hx hb dX10_take_197 (by decide) (fun _ => ?_) (fun q => absurd (by decide +kernel) (q))
  refine lv_aload_n hx hb dX10_take_231 rfl (lv_at hl 1 rfl) ?_
  refine lv_aload_n hx hb dX10_take_232 rfl (lv_at hl 1 rfl) ?_
  refine va_get (D := G) (ci := 7) (v := .ref p4) (C := RX10) (T := TX10) (N := 71) (ref := RX10) hx hb hts h1w hown hX.1 hP 0 rfl rfl 3 (by decide) h0w (fun _ h9 => h9) rfl dX10_take_233 ?_
  refine lv_iconst (v := 1) hx hb dX10_take_236 (by decide +kernel) ?_
  refine va_iald hx hb hX.1 hP 1 0 rfl rfl (by unfold vp_in; decide +kernel) dX10_take_237 ?_
  refine cz_ti (w := 0) (by rfl) ?_
  refine va_put (D := G) (ci := 7) (v := .int 0) (ty := .int) (C := RX10) (T := TX10) (N := 71) (ref := RX10) hx hb hts h1w tyX10 tyX10_ok nmX10 hown hX.1 hP hD hS 0 rfl rfl 28 (by decide) h14w (fun _ h9 => h9) rfl (by decide +kernel) rfl rfl (Nat.le_of_ble_eq_true rfl) dX10_take_238 (fun H locs hP hD hS => ?_)
  refine lv_aload_n hx hb dX10_take_241 rfl (lv_at hl 1 rfl) ?_
  refine lv_iconst (v := 0) hx hb dX10_take_242 (by decide +kernel) ?_
  refine va_put (D := G) (ci := 7) (v := .int 0) (ty := .int) (C := RX10) (T := TX10) (N := 71) (ref := RX10) hx hb hts h1w tyX10 tyX10_ok nmX10 hown hX.1 hP hD hS 0 rfl rfl 29 (by decide) h15w (fun _ h9 => h9) rfl (by decide +kernel) rfl rfl (Nat.le_of_ble_eq_true rfl) dX10_take_243 (fun H locs hP hD hS => ?_)
  obtain ⟨hP, hD⟩ : va_P G vwCl [(p0, .inr (7, (v1 :: v2 :: v3 :: .ref p4 :: .ref p5 :: .ref p6 :: .ref p7 :: .ref p8 :: .ref p9 :: .ref p10 :: v11 :: v12 :: .int 0 :: .int 0 :: .int 0 :: .int 0 :: v14 :: v15 :: v16 :: v17 :: v18 :: v19 :: v20 :: v21 :: v22 :: v23 :: v24 :: .int 0 :: .int 0 :: .int 0 :: v27 :: v28 :: .ref p29 :: v30 :: v31 :: v32 :: v33 :: v34 :: v35 :: v36 :: v37 :: v38 :: v39 :: v40 :: v41 :: v42 :: v43 :: v44 :: v45 :: v46 :: v47 :: v48 :: v49 :: v50 :: v51 :: v52 :: v53 :: v54 :: v55 :: v56 :: v57 :: v58 :: v59 :: v60 :: v61 :: v62 :: v63 :: v64 :: v65 :: v66 :: v67 :: []))), (p4, .inl (k 0, 14, .inl (upd (upd (upd (upd (upd (upd (upd (upd (upd (upd (upd (upd (upd (upd (upd (upd (upd (upd (upd (upd (upd (fun _ => 0) (0 : Int32).toNatClampNeg 1) (1 : Int32).toNatClampNeg 0) (2 : Int32).toNatClampNeg 99) (3 : Int32).toNatClampNeg 0) (4 : Int32).toNatClampNeg 1) (5 : Int32).toNatClampNeg 20) (6 : Int32).toNatClampNeg 0) (7 : Int32).toNatClampNeg 1) (8 : Int32).toNatClampNeg 0) (9 : Int32).toNatClampNeg 99) (10 : Int32).toNatClampNeg 0) (11 : Int32).toNatClampNeg 1) (12 : Int32).toNatClampNeg 20) (13 : Int32).toNatClampNeg 0) (0 : Int32).toNatClampNeg 1) (1 : Int32).toNatClampNeg 0) (2 : Int32).toNatClampNeg 99) (3 : Int32).toNatClampNeg 0) (4 : Int32).toNatClampNeg 1) (5 : Int32).toNatClampNeg 20) (6 : Int32).toNatClampNeg 0))), (p5, .inl (k 0, 14, .inl (upd (upd (upd (upd (upd (upd (upd (fun _ => 0) (0 : Int32).toNatClampNeg 0) (1 : Int32).toNatClampNeg 0) (2 : Int32).toNatClampNeg 0) (3 : Int32).toNatClampNeg 0) (4 : Int32).toNatClampNeg 0) (5 : Int32).toNatClampNeg 0) (6 : Int32).toNatClampNeg 0))), (p6, .inl (k 0, 14, .inl (upd (upd (upd (upd (upd (upd (upd (fun _ => 0) (0 : Int32).toNatClampNeg 0) (1 : Int32).toNatClampNeg 0) (2 : Int32).toNatClampNeg 0) (3 : Int32).toNatClampNeg 0) (4 : Int32).toNatClampNeg 0) (5 : Int32).toNatClampNeg 0) (6 : Int32).toNatClampNeg 0))), (p7, .inl (k 0, 14, .inl (upd (upd (upd (upd (upd (upd (upd (fun _ => 0) (0 : Int32).toNatClampNeg 0) (1 : Int32).toNatClampNeg 0) (2 : Int32).toNatClampNeg 0) (3 : Int32).toNatClampNeg 0) (4 : Int32).toNatClampNeg 0) (5 : Int32).toNatClampNeg 0) (6 : Int32).toNatClampNeg 0))), (p8, .inl (k 0, 14, .inl (upd (upd (upd (upd (upd (upd (upd (fun _ => 0) (0 : Int32).toNatClampNeg 0) (1 : Int32).toNatClampNeg 0) (2 : Int32).toNatClampNeg 0) (3 : Int32).toNatClampNeg 0) (4 : Int32).toNatClampNeg 0) (5 : Int32).toNatClampNeg 0) (6 : Int32).toNatClampNeg 0))), (p9, .inl (k 0, 8, .inl (upd (upd (upd (upd (fun _ => 0) (0 : Int32).toNatClampNeg 0) (1 : Int32).toNatClampNeg 0) (2 : Int32).toNatClampNeg 0) (3 : Int32).toNatClampNeg 0))), (p10, .inl (k 0, 8, .inl (upd (upd (upd (upd (fun _ => 0) (0 : Int32).toNatClampNeg 0) (1 : Int32).toNatClampNeg 0) (2 : Int32).toNatClampNeg 0) (3 : Int32).toNatClampNeg 0))), (p29, .inl (k 0, 7, .inl (upd (upd (upd (upd (upd (upd (upd f68 (0 : Int32).toNatClampNeg 15) (1 : Int32).toNatClampNeg 15) (2 : Int32).toNatClampNeg 15) (3 : Int32).toNatClampNeg 15) (4 : Int32).toNatClampNeg 15) (5 : Int32).toNatClampNeg 15) (6 : Int32).toNatClampNeg 15)))] H ∧ va_D A [(p0, .inr (7, (v1 :: v2 :: v3 :: .ref p4 :: .ref p5 :: .ref p6 :: .ref p7 :: .ref p8 :: .ref p9 :: .ref p10 :: v11 :: v12 :: .int 0 :: .int 0 :: .int 0 :: .int 0 :: v14 :: v15 :: v16 :: v17 :: v18 :: v19 :: v20 :: v21 :: v22 :: v23 :: v24 :: .int 0 :: .int 0 :: .int 0 :: v27 :: v28 :: .ref p29 :: v30 :: v31 :: v32 :: v33 :: v34 :: v35 :: v36 :: v37 :: v38 :: v39 :: v40 :: v41 :: v42 :: v43 :: v44 :: v45 :: v46 :: v47 :: v48 :: v49 :: v50 :: v51 :: v52 :: v53 :: v54 :: v55 :: v56 :: v57 :: v58 :: v59 :: v60 :: v61 :: v62 :: v63 :: v64 :: v65 :: v66 :: v67 :: []))), (p4, .inl (k 0, 14, .inl (upd (upd (upd (upd (upd (upd (upd (upd (upd (upd (upd (upd (upd (upd (upd (upd (upd (upd (upd (upd (upd (fun _ => 0) (0 : Int32).toNatClampNeg 1) (1 : Int32).toNatClampNeg 0) (2 : Int32).toNatClampNeg 99) (3 : Int32).toNatClampNeg 0) (4 : Int32).toNatClampNeg 1) (5 : Int32).toNatClampNeg 20) (6 : Int32).toNatClampNeg 0) (7 : Int32).toNatClampNeg 1) (8 : Int32).toNatClampNeg 0) (9 : Int32).toNatClampNeg 99) (10 : Int32).toNatClampNeg 0) (11 : Int32).toNatClampNeg 1) (12 : Int32).toNatClampNeg 20) (13 : Int32).toNatClampNeg 0) (0 : Int32).toNatClampNeg 1) (1 : Int32).toNatClampNeg 0) (2 : Int32).toNatClampNeg 99) (3 : Int32).toNatClampNeg 0) (4 : Int32).toNatClampNeg 1) (5 : Int32).toNatClampNeg 20) (6 : Int32).toNatClampNeg 0))), (p5, .inl (k 0, 14, .inl (upd (upd (upd (upd (upd (upd (upd (fun _ => 0) (0 : Int32).toNatClampNeg 0) (1 : Int32).toNatClampNeg 0) (2 : Int32).toNatClampNeg 0) (3 : Int32).toNatClampNeg 0) (4 : Int32).toNatClampNeg 0) (5 : Int32).toNatClampNeg 0) (6 : Int32).toNatClampNeg 0))), (p6, .inl (k 0, 14, .inl (upd (upd (upd (upd (upd (upd (upd (fun _ => 0) (0 : Int32).toNatClampNeg 0) (1 : Int32).toNatClampNeg 0) (2 : Int32).toNatClampNeg 0) (3 : Int32).toNatClampNeg 0) (4 : Int32).toNatClampNeg 0) (5 : Int32).toNatClampNeg 0) (6 : Int32).toNatClampNeg 0))), (p7, .inl (k 0, 14, .inl (upd (upd (upd (upd (upd (upd (upd (fun _ => 0) (0 : Int32).toNatClampNeg 0) (1 : Int32).toNatClampNeg 0) (2 : Int32).toNatClampNeg 0) (3 : Int32).toNatClampNeg 0) (4 : Int32).toNatClampNeg 0) (5 : Int32).toNatClampNeg 0) (6 : Int32).toNatClampNeg 0))), (p8, .inl (k 0, 14, .inl (upd (upd (upd (upd (upd (upd (upd (fun _ => 0) (0 : Int32).toNatClampNeg 0) (1 : Int32).toNatClampNeg 0) (2 : Int32).toNatClampNeg 0) (3 : Int32).toNatClampNeg 0) (4 : Int32).toNatClampNeg 0) (5 : Int32).toNatClampNeg 0) (6 : Int32).toNatClampNeg 0))), (p9, .inl (k 0, 8, .inl (upd (upd (upd (upd (fun _ => 0) (0 : Int32).toNatClampNeg 0) (1 : Int32).toNatClampNeg 0) (2 : Int32).toNatClampNeg 0) (3 : Int32).toNatClampNeg 0))), (p10, .inl (k 0, 8, .inl (upd (upd (upd (upd (fun _ => 0) (0 : Int32).toNatClampNeg 0) (1 : Int32).toNatClampNeg 0) (2 : Int32).toNatClampNeg 0) (3 : Int32).toNatClampNeg 0))), (p29, .inl (k 0, 7, .inl (upd (upd (upd (upd (upd (upd (upd f68 (0 : Int32).toNatClampNeg 15) (1 : Int32).toNatClampNeg 15) (2 : Int32).toNatClampNeg 15) (3 : Int32).toNatClampNeg 15) (4 : Int32).toNatClampNeg 15) (5 : Int32).toNatClampNeg 15) (6 : Int32).toNatClampNeg 15)))] := ⟨hP, hD⟩
  refine lv_aload_n hx hb dX10_take_246 rfl (lv_at hl 1 rfl) ?_
  refine lv_iconst (v := 0) hx hb dX10_take_247 (by decide +kernel) ?_
  refine va_put (D := G) (ci := 7) (v := .int 0) (ty := .int) (C := RX10) (T := TX10) (N := 71) (ref := RX10) hx hb hts h1w tyX10 tyX10_ok nmX10 hown hX.1 hP hD hS 0 rfl rfl 30 (by decide) h16w (fun _ h9 => h9) rfl (by decide +kernel) rfl rfl (Nat.le_of_ble_eq_true rfl) dX10_take_248 (fun H locs hP hD hS => ?_)
  refine lv_aload_n hx hb dX10_take_251 rfl (lv_at hl 1 rfl) ?_
  refine lv_iconst (v := 0) hx hb dX10_take_252 (by decide +kernel) ?_
  refine va_put (D := G) (ci := 7) (v := .int 0) (ty := .int) (C := RX10) (T := TX10) (N := 71) (ref := RX10) hx hb hts h1w tyX10 tyX10_ok nmX10 hown hX.1 hP hD hS 0 rfl rfl 31 (by decide) h17w (fun _ h9 => h9) rfl (by decide +kernel) rfl rfl (Nat.le_of_ble_eq_true rfl) dX10_take_253 (fun H locs hP hD hS => ?_)
  refine lv_aload_n hx hb dX10_take_256 rfl (lv_at hl 1 rfl) ?_
  refine lv_iconst (v := 0) hx hb dX10_take_257 (by decide +kernel) ?_
  refine va_put (D := G) (ci := 7) (v := .int 0) (ty := .boolean) (C := RX10) (T := TX10) (N := 71) (ref := RX10) hx hb hts h1w tyX10 tyX10_ok nmX10 hown hX.1 hP hD hS 0 rfl rfl 58 (by decide) h18w (fun _ h9 => h9) rfl (by decide +kernel) (by decide +kernel) rfl (Nat.le_of_ble_eq_true rfl) dX10_take_258 (fun H locs hP hD hS => ?_)
  have hP9 := hP.sub (ws' := [(p0, .inr (7, (v1 :: v2 :: v3 :: .ref p4 :: .ref p5 :: .ref p6 :: .ref p7 :: .ref p8 :: .ref p9 :: .ref p10 :: v11 :: v12 :: .int 0 :: .int 0 :: .int 0 :: .int 0 :: v14 :: v15 :: v16 :: v17 :: v18 :: v19 :: v20 :: v21 :: v22 :: v23 :: v24 :: .int 0 :: .int 0 :: .int 0 :: .int 0 :: .int 0 :: .ref p29 :: v30 :: v31 :: v32 :: v33 :: v34 :: v35 :: v36 :: v37 :: v38 :: v39 :: v40 :: v41 :: v42 :: v43 :: v44 :: v45 :: v46 :: v47 :: v48 :: v49 :: v50 :: v51 :: v52 :: v53 :: v54 :: .int 0 :: v56 :: v57 :: v58 :: v59 :: v60 :: v61 :: v62 :: v63 :: v64 :: v65 :: v66 :: v67 :: []))), (p4, .inl (k 0, 14, .inl (upd (upd (upd (upd (upd (upd (upd (upd (upd (upd (upd (upd (upd (upd (upd (upd (upd (upd (upd (upd (upd (fun _ => 0) (0 : Int32).toNatClampNeg 1) (1 : Int32).toNatClampNeg 0) (2 : Int32).toNatClampNeg 99) (3 : Int32).toNatClampNeg 0) (4 : Int32).toNatClampNeg 1) (5 : Int32).toNatClampNeg 20) (6 : Int32).toNatClampNeg 0) (7 : Int32).toNatClampNeg 1) (8 : Int32).toNatClampNeg 0) (9 : Int32).toNatClampNeg 99) (10 : Int32).toNatClampNeg 0) (11 : Int32).toNatClampNeg 1) (12 : Int32).toNatClampNeg 20) (13 : Int32).toNatClampNeg 0) (0 : Int32).toNatClampNeg 1) (1 : Int32).toNatClampNeg 0) (2 : Int32).toNatClampNeg 99) (3 : Int32).toNatClampNeg 0) (4 : Int32).toNatClampNeg 1) (5 : Int32).toNatClampNeg 20) (6 : Int32).toNatClampNeg 0))), (p5, .inl (k 0, 14, .inl (upd (upd (upd (upd (upd (upd (upd (fun _ => 0) (0 : Int32).toNatClampNeg 0) (1 : Int32).toNatClampNeg 0) (2 : Int32).toNatClampNeg 0) (3 : Int32).toNatClampNeg 0) (4 : Int32).toNatClampNeg 0) (5 : Int32).toNatClampNeg 0) (6 : Int32).toNatClampNeg 0))), (p6, .inl (k 0, 14, .inl (upd (upd (upd (upd (upd (upd (upd (fun _ => 0) (0 : Int32).toNatClampNeg 0) (1 : Int32).toNatClampNeg 0) (2 : Int32).toNatClampNeg 0) (3 : Int32).toNatClampNeg 0) (4 : Int32).toNatClampNeg 0) (5 : Int32).toNatClampNeg 0) (6 : Int32).toNatClampNeg 0))), (p7, .inl (k 0, 14, .inl (upd (upd (upd (upd (upd (upd (upd (fun _ => 0) (0 : Int32).toNatClampNeg 0) (1 : Int32).toNatClampNeg 0) (2 : Int32).toNatClampNeg 0) (3 : Int32).toNatClampNeg 0) (4 : Int32).toNatClampNeg 0) (5 : Int32).toNatClampNeg 0) (6 : Int32).toNatClampNeg 0))), (p8, .inl (k 0, 14, .inl (upd (upd (upd (upd (upd (upd (upd (fun _ => 0) (0 : Int32).toNatClampNeg 0) (1 : Int32).toNatClampNeg 0) (2 : Int32).toNatClampNeg 0) (3 : Int32).toNatClampNeg 0) (4 : Int32).toNatClampNeg 0) (5 : Int32).toNatClampNeg 0) (6 : Int32).toNatClampNeg 0))), (p9, .inl (k 0, 8, .inl (upd (upd (upd (upd (fun _ => 0) (0 : Int32).toNatClampNeg 0) (1 : Int32).toNatClampNeg 0) (2 : Int32).toNatClampNeg 0) (3 : Int32).toNatClampNeg 0))), (p10, .inl (k 0, 8, .inl (upd (upd (upd (upd (fun _ => 0) (0 : Int32).toNatClampNeg 0) (1 : Int32).toNatClampNeg 0) (2 : Int32).toNatClampNeg 0) (3 : Int32).toNatClampNeg 0))), (p29, .inl (k 0, 7, .inl (upd (upd (upd (upd (upd (upd (upd f68 (0 : Int32).toNatClampNeg 15) (1 : Int32).toNatClampNeg 15) (2 : Int32).toNatClampNeg 15) (3 : Int32).toNatClampNeg 15) (4 : Int32).toNatClampNeg 15) (5 : Int32).toNatClampNeg 15) (6 : Int32).toNatClampNeg 15)))]) [0, 1, 2, 3, 4, 5, 6, 7, 8] rfl
  have hD9 := hD.sub (ws' := [(p0, .inr (7, (v1 :: v2 :: v3 :: .ref p4 :: .ref p5 :: .ref p6 :: .ref p7 :: .ref p8 :: .ref p9 :: .ref p10 :: v11 :: v12 :: .int 0 :: .int 0 :: .int 0 :: .int 0 :: v14 :: v15 :: v16 :: v17 :: v18 :: v19 :: v20 :: v21 :: v22 :: v23 :: v24 :: .int 0 :: .int 0 :: .int 0 :: .int 0 :: .int 0 :: .ref p29 :: v30 :: v31 :: v32 :: v33 :: v34 :: v35 :: v36 :: v37 :: v38 :: v39 :: v40 :: v41 :: v42 :: v43 :: v44 :: v45 :: v46 :: v47 :: v48 :: v49 :: v50 :: v51 :: v52 :: v53 :: v54 :: .int 0 :: v56 :: v57 :: v58 :: v59 :: v60 :: v61 :: v62 :: v63 :: v64 :: v65 :: v66 :: v67 :: []))), (p4, .inl (k 0, 14, .inl (upd (upd (upd (upd (upd (upd (upd (upd (upd (upd (upd (upd (upd (upd (upd (upd (upd (upd (upd (upd (upd (fun _ => 0) (0 : Int32).toNatClampNeg 1) (1 : Int32).toNatClampNeg 0) (2 : Int32).toNatClampNeg 99) (3 : Int32).toNatClampNeg 0) (4 : Int32).toNatClampNeg 1) (5 : Int32).toNatClampNeg 20) (6 : Int32).toNatClampNeg 0) (7 : Int32).toNatClampNeg 1) (8 : Int32).toNatClampNeg 0) (9 : Int32).toNatClampNeg 99) (10 : Int32).toNatClampNeg 0) (11 : Int32).toNatClampNeg 1) (12 : Int32).toNatClampNeg 20) (13 : Int32).toNatClampNeg 0) (0 : Int32).toNatClampNeg 1) (1 : Int32).toNatClampNeg 0) (2 : Int32).toNatClampNeg 99) (3 : Int32).toNatClampNeg 0) (4 : Int32).toNatClampNeg 1) (5 : Int32).toNatClampNeg 20) (6 : Int32).toNatClampNeg 0))), (p5, .inl (k 0, 14, .inl (upd (upd (upd (upd (upd (upd (upd (fun _ => 0) (0 : Int32).toNatClampNeg 0) (1 : Int32).toNatClampNeg 0) (2 : Int32).toNatClampNeg 0) (3 : Int32).toNatClampNeg 0) (4 : Int32).toNatClampNeg 0) (5 : Int32).toNatClampNeg 0) (6 : Int32).toNatClampNeg 0))), (p6, .inl (k 0, 14, .inl (upd (upd (upd (upd (upd (upd (upd (fun _ => 0) (0 : Int32).toNatClampNeg 0) (1 : Int32).toNatClampNeg 0) (2 : Int32).toNatClampNeg 0) (3 : Int32).toNatClampNeg 0) (4 : Int32).toNatClampNeg 0) (5 : Int32).toNatClampNeg 0) (6 : Int32).toNatClampNeg 0))), (p7, .inl (k 0, 14, .inl (upd (upd (upd (upd (upd (upd (upd (fun _ => 0) (0 : Int32).toNatClampNeg 0) (1 : Int32).toNatClampNeg 0) (2 : Int32).toNatClampNeg 0) (3 : Int32).toNatClampNeg 0) (4 : Int32).toNatClampNeg 0) (5 : Int32).toNatClampNeg 0) (6 : Int32).toNatClampNeg 0))), (p8, .inl (k 0, 14, .inl (upd (upd (upd (upd (upd (upd (upd (fun _ => 0) (0 : Int32).toNatClampNeg 0) (1 : Int32).toNatClampNeg 0) (2 : Int32).toNatClampNeg 0) (3 : Int32).toNatClampNeg 0) (4 : Int32).toNatClampNeg 0) (5 : Int32).toNatClampNeg 0) (6 : Int32).toNatClampNeg 0))), (p9, .inl (k 0, 8, .inl (upd (upd (upd (upd (fun _ => 0) (0 : Int32).toNatClampNeg 0) (1 : Int32).toNatClampNeg 0) (2 : Int32).toNatClampNeg 0) (3 : Int32).toNatClampNeg 0))), (p10, .inl (k 0, 8, .inl (upd (upd (upd (upd (fun _ => 0) (0 : Int32).toNatClampNeg 0) (1 : Int32).toNatClampNeg 0) (2 : Int32).toNatClampNeg 0) (3 : Int32).toNatClampNeg 0))), (p29, .inl (k 0, 7, .inl (upd (upd (upd (upd (upd (upd (upd f68 (0 : Int32).toNatClampNeg 15) (1 : Int32).toNatClampNeg 15) (2 : Int32).toNatClampNeg 15) (3 : Int32).toNatClampNeg 15) (4 : Int32).toNatClampNeg 15) (5 : Int32).toNatClampNeg 15) (6 : Int32).toNatClampNeg 15)))]) [0, 1, 2, 3, 4, 5, 6, 7, 8] (by decide) rfl
  exact W.vret hx hb hr (fun t ht hW => ⟨⟨(), rfl, trivial, by rw [ht]; exact hP9, hD9⟩, hS.F ht⟩) hS.2.2 dX10_take_261

