set_option maxHeartbeats 4000000 in
set_option maxRecDepth 100000 in
theorem cX10_back_0 (l : Launch) (G : va_G) (k : Nat → ClassId) (p0 : Nat) (v1 : Value) (v2 : Value) (v3 : Value) (v4 : Value) (v5 : Value) (v6 : Value) (v7 : Value) (v8 : Value) (v9 : Value) (v10 : Value) (v11 : Value) (v12 : Value) (v13 : Value) (v14 : Value) (v15 : Value) (v16 : Value) (v17 : Value) (v18 : Value) (v19 : Value) (v20 : Value) (v21 : Value) (v22 : Value) (v23 : Value) (v24 : Value) (v25 : Value) (v26 : Value) (v27 : Value) (v28 : Value) (v29 : Value) (v30 : Value) (v31 : Value) (p32 : Nat) (v33 : Value) (v34 : Value) (v35 : Value) (v36 : Value) (v37 : Value) (v38 : Value) (v39 : Value) (v40 : Value) (v41 : Value) (v42 : Value) (v43 : Value) (p44 : Nat) (v45 : Value) (v46 : Value) (v47 : Value) (v48 : Value) (v49 : Value) (v50 : Value) (v51 : Value) (v52 : Value) (v53 : Value) (v54 : Value) (v55 : Value) (v56 : Value) (v57 : Value) (v58 : Value) (v59 : Value) (v60 : Value) (v61 : Value) (v62 : Value) (v63 : Value) (v64 : Value) (v65 : Value) (v66 : Value) (v67 : Value) (v68 : Value) (v69 : Value) (v70 : Value) (f71 : Nat → Int32) (sz : Nat) : CMi l G k yX10_back wsX10_back ({ frames := 0, cells := 0, slots := 0, locals := 0 }) [.ref p0] sz [(p0, .inr (7, (v1 :: v2 :: v3 :: v4 :: v5 :: v6 :: v7 :: v8 :: v9 :: v10 :: v11 :: v12 :: v13 :: v14 :: v15 :: v16 :: v17 :: v18 :: v19 :: v20 :: v21 :: v22 :: v23 :: v24 :: v25 :: v26 :: v27 :: v28 :: v29 :: .int 0 :: v30 :: v31 :: .ref p32 :: v33 :: v34 :: v35 :: v36 :: v37 :: v38 :: v39 :: v40 :: v41 :: v42 :: v43 :: .ref p44 :: v45 :: v46 :: v47 :: v48 :: v49 :: v50 :: v51 :: v52 :: v53 :: v54 :: v55 :: v56 :: v57 :: v58 :: v59 :: v60 :: v61 :: v62 :: v63 :: v64 :: v65 :: v66 :: v67 :: v68 :: v69 :: v70 :: []))), (p32, .inl (k 0, 7, .inl (upd (upd (upd (upd (upd (upd (upd (fun _ => 0) (0 : Int32).toNatClampNeg 15) (1 : Int32).toNatClampNeg 15) (2 : Int32).toNatClampNeg 15) (3 : Int32).toNatClampNeg 15) (4 : Int32).toNatClampNeg 15) (5 : Int32).toNatClampNeg 15) (6 : Int32).toNatClampNeg 15))), (p44, .inl (k 0, 7, .inl f71))] (fun r (u : Unit) => r = 0) (fun (u : Unit) => [(p0, .inr (7, (v1 :: v2 :: .int 0 :: v4 :: v5 :: v6 :: v7 :: v8 :: v9 :: v10 :: v11 :: v12 :: v13 :: v14 :: v15 :: v16 :: v17 :: v18 :: v19 :: v20 :: v21 :: v22 :: v23 :: v24 :: v25 :: v26 :: v27 :: v28 :: v29 :: .int 0 :: v30 :: v31 :: .ref p32 :: v33 :: v34 :: v35 :: v36 :: v37 :: v38 :: v39 :: v40 :: v41 :: v42 :: v43 :: .ref p44 :: v45 :: v46 :: v47 :: v48 :: v49 :: v50 :: v51 :: v52 :: v53 :: v54 :: v55 :: v56 :: v57 :: v58 :: v59 :: v60 :: v61 :: v62 :: v63 :: v64 :: v65 :: v66 :: v67 :: v68 :: v69 :: v70 :: []))), (p32, .inl (k 0, 7, .inl (upd (upd (upd (upd (upd (upd (upd (fun _ => 0) (0 : Int32).toNatClampNeg 15) (1 : Int32).toNatClampNeg 15) (2 : Int32).toNatClampNeg 15) (3 : Int32).toNatClampNeg 15) (4 : Int32).toNatClampNeg 15) (5 : Int32).toNatClampNeg 15) (6 : Int32).toNatClampNeg 15))), (p44, .inl (k 0, 7, .inl (upd (upd (upd (upd (upd (upd (upd f71 (0 : Int32).toNatClampNeg 15) (1 : Int32).toNatClampNeg 15) (2 : Int32).toNatClampNeg 15) (3 : Int32).toNatClampNeg 15) (4 : Int32).toNatClampNeg 15) (5 : Int32).toNatClampNeg 15) (6 : Int32).toNatClampNeg 15)))]) := by
  refine Met.ofW (cc := cX10_back) (maxL := 3) (ret := (some .int)) (by decide) rfl ?_
  intro p e s m args below meth c s₁ B hml hv
  obtain ⟨rfl, hsz, hP, hX, hD0, hZ0⟩ := hv
  have hx := B.exec
  have hb := B.bytes
  have hr := B.returns
  have hts := atoms_spec (ws := wsX10_back) B.pre
  have hown : s.vm.findClass RX10 = some m.cls := findClass_of_methodNamed B.named
  subst hsz
  have hD := hD0.self (sz := s.heap.size)
  have hZ := ZX.up hP hZ0
  generalize hAe : va_A [(p0, .inr (7, (v1 :: v2 :: v3 :: v4 :: v5 :: v6 :: v7 :: v8 :: v9 :: v10 :: v11 :: v12 :: v13 :: v14 :: v15 :: v16 :: v17 :: v18 :: v19 :: v20 :: v21 :: v22 :: v23 :: v24 :: v25 :: v26 :: v27 :: v28 :: v29 :: .int 0 :: v30 :: v31 :: .ref p32 :: v33 :: v34 :: v35 :: v36 :: v37 :: v38 :: v39 :: v40 :: v41 :: v42 :: v43 :: .ref p44 :: v45 :: v46 :: v47 :: v48 :: v49 :: v50 :: v51 :: v52 :: v53 :: v54 :: v55 :: v56 :: v57 :: v58 :: v59 :: v60 :: v61 :: v62 :: v63 :: v64 :: v65 :: v66 :: v67 :: v68 :: v69 :: v70 :: []))), (p32, .inl (k 0, 7, .inl (upd (upd (upd (upd (upd (upd (upd (fun _ => 0) (0 : Int32).toNatClampNeg 15) (1 : Int32).toNatClampNeg 15) (2 : Int32).toNatClampNeg 15) (3 : Int32).toNatClampNeg 15) (4 : Int32).toNatClampNeg 15) (5 : Int32).toNatClampNeg 15) (6 : Int32).toNatClampNeg 15))), (p44, .inl (k 0, 7, .inl f71))] s.heap.size = A at hD hZ ⊢
  have hA : ∀ q : Nat, s.heap.size ≤ q → A q := fun q h => by rw [← hAe]; exact Or.inr h
  have hS : va_S A s.heap s.heap [] := va_S.rf
  have hP : va_P G vwCl [(p0, .inr (7, (v1 :: v2 :: v3 :: v4 :: v5 :: v6 :: v7 :: v8 :: v9 :: v10 :: v11 :: v12 :: v13 :: v14 :: v15 :: v16 :: v17 :: v18 :: v19 :: v20 :: v21 :: v22 :: v23 :: v24 :: v25 :: v26 :: v27 :: v28 :: v29 :: .int 0 :: v30 :: v31 :: .ref p32 :: v33 :: v34 :: v35 :: v36 :: v37 :: v38 :: v39 :: v40 :: v41 :: v42 :: v43 :: .ref p44 :: v45 :: v46 :: v47 :: v48 :: v49 :: v50 :: v51 :: v52 :: v53 :: v54 :: v55 :: v56 :: v57 :: v58 :: v59 :: v60 :: v61 :: v62 :: v63 :: v64 :: v65 :: v66 :: v67 :: v68 :: v69 :: v70 :: []))), (p32, .inl (k 0, 7, .inl (upd (upd (upd (upd (upd (upd (upd (fun _ => 0) (0 : Int32).toNatClampNeg 15) (1 : Int32).toNatClampNeg 15) (2 : Int32).toNatClampNeg 15) (3 : Int32).toNatClampNeg 15) (4 : Int32).toNatClampNeg 15) (5 : Int32).toNatClampNeg 15) (6 : Int32).toNatClampNeg 15))), (p44, .inl (k 0, 7, .inl f71))] s.heap := hP
  have hl := lv_entry ([.ref p0]) (n := 3) (Nat.le_of_ble_eq_true rfl)
  rw [lg_entry_eq]
  generalize (lg_sl ([.ref p0]) ++ List.replicate (3 - (lg_sl ([.ref p0])).length) Slot.unset).toArray = ls at hl ⊢
  have hl : lv_has ls 3 [(0, .ref p0)] := hl
  have h0w := hts (.fieldLink RX10 171 "RopeTownModel" "code" "I") (by decide +kernel)
  have h1w : ∀ w ∈ wsX100, w ∈ wsX10_back := by decide +kernel
  have h2w := hts (.fieldLink RX10 114 "RopeTownModel" "rowThen" "[I") (by decide +kernel)
  have h3w := hts (.fieldLink RX10 87 "RopeTownModel" "place" "[I") (by decide +kernel)
  have h4w := hts (.fieldLink RX10 330 "RopeTownModel" "moves" "I") (by decide +kernel)
  refine lv_aload_n hx hb dX10_back_0 rfl (lv_at hl 0 rfl) ?_
  refine lv_iconst (v := 0) hx hb dX10_back_1 (by decide +kernel) ?_
  refine va_put (D := G) (ci := 7) (v := .int 0) (ty := .int) (C := RX10) (T := TX10) (N := 71) (ref := RX10) hx hb hts h1w tyX10 tyX10_ok nmX10 hown hX.1 hP hD hS 0 rfl rfl 2 (by decide) h0w (fun _ h9 => h9) rfl (by decide +kernel) rfl rfl (Nat.le_of_ble_eq_true rfl) dX10_back_2 (fun H locs hP hD hS => ?_)
  refine lv_iconst (v := 0) hx hb dX10_back_5 (by decide +kernel) ?_
  refine lv_istore_n (lv' := [(1, .int 0), (0, .ref p0)]) hx hb dX10_back_6 rfl hl (by decide) rfl (fun ls hl => ?_)
  refine lv_iload_n hx hb dX10_back_7 rfl (lv_at hl 0 rfl) ?_
  refine lv_bipush (v := 7) hx hb dX10_back_8 (by decide +kernel) ?_
  refine lv_icmp_ge (tgt := 31) hx hb dX10_back_10 (by decide) (fun q => absurd (q) (by decide +kernel)) (fun _ => ?_)
  refine lv_aload_n hx hb dX10_back_13 rfl (lv_at hl 1 rfl) ?_
  refine va_get (D := G) (ci := 7) (v := .ref p44) (C := RX10) (T := TX10) (N := 71) (ref := RX10) hx hb hts h1w hown hX.1 hP 0 rfl rfl 44 (by decide) h2w (fun _ h9 => h9) rfl dX10_back_14 ?_
  refine lv_iload_n hx hb dX10_back_17 rfl (lv_at hl 0 rfl) ?_
  refine lv_aload_n hx hb dX10_back_18 rfl (lv_at hl 1 rfl) ?_
  refine va_get (D := G) (ci := 7) (v := .ref p32) (C := RX10) (T := TX10) (N := 71) (ref := RX10) hx hb hts h1w hown hX.1 hP 0 rfl rfl 32 (by decide) h3w (fun _ h9 => h9) rfl dX10_back_19 ?_
  refine lv_iload_n hx hb dX10_back_22 rfl (lv_at hl 0 rfl) ?_
  refine va_iald hx hb hX.1 hP 1 0 rfl rfl (by unfold vp_in; decide +kernel) dX10_back_23 ?_
  refine cz_ti (w := 15) (by rfl) ?_
  refine va_iast hx hb hX.1 hP hD hS 2 0 rfl rfl (by unfold vp_in; decide +kernel) dX10_back_24 (fun H locs hP hD hS => ?_)
  refine lv_iinc (v := 1) (lv' := [(1, .int 1), (0, .ref p0)]) hx hb dX10_back_25 hl (k := 0) rfl (by decide +kernel) (by decide) rfl (fun ls hl => ?_)
  refine lv_goto (tgt := 7) hx hb dX10_back_28 (by decide) ?_
  refine lv_iload_n hx hb dX10_back_7 rfl (lv_at hl 0 rfl) ?_
  refine lv_bipush (v := 7) hx hb dX10_back_8 (by decide +kernel) ?_
  refine lv_icmp_ge (tgt := 31) hx hb dX10_back_10 (by decide) (fun q => absurd (q) (by decide +kernel)) (fun _ => ?_)
  refine lv_aload_n hx hb dX10_back_13 rfl (lv_at hl 1 rfl) ?_
  refine va_get (D := G) (ci := 7) (v := .ref p44) (C := RX10) (T := TX10) (N := 71) (ref := RX10) hx hb hts h1w hown hX.1 hP 0 rfl rfl 44 (by decide) h2w (fun _ h9 => h9) rfl dX10_back_14 ?_
  refine lv_iload_n hx hb dX10_back_17 rfl (lv_at hl 0 rfl) ?_
  refine lv_aload_n hx hb dX10_back_18 rfl (lv_at hl 1 rfl) ?_
  refine va_get (D := G) (ci := 7) (v := .ref p32) (C := RX10) (T := TX10) (N := 71) (ref := RX10) hx hb hts h1w hown hX.1 hP 0 rfl rfl 32 (by decide) h3w (fun _ h9 => h9) rfl dX10_back_19 ?_
  refine lv_iload_n hx hb dX10_back_22 rfl (lv_at hl 0 rfl) ?_
  refine va_iald hx hb hX.1 hP 1 0 rfl rfl (by unfold vp_in; decide +kernel) dX10_back_23 ?_
  refine cz_ti (w := 15) (by rfl) ?_
  refine va_iast hx hb hX.1 hP hD hS 2 0 rfl rfl (by unfold vp_in; decide +kernel) dX10_back_24 (fun H locs hP hD hS => ?_)
  refine lv_iinc (v := 2) (lv' := [(1, .int 2), (0, .ref p0)]) hx hb dX10_back_25 hl (k := 0) rfl (by decide +kernel) (by decide) rfl (fun ls hl => ?_)
  refine lv_goto (tgt := 7) hx hb dX10_back_28 (by decide) ?_
  refine lv_iload_n hx hb dX10_back_7 rfl (lv_at hl 0 rfl) ?_
  refine lv_bipush (v := 7) hx hb dX10_back_8 (by decide +kernel) ?_
  refine lv_icmp_ge (tgt := 31) hx hb dX10_back_10 (by decide) (fun q => absurd (q) (by decide +kernel)) (fun _ => ?_)
  refine lv_aload_n hx hb dX10_back_13 rfl (lv_at hl 1 rfl) ?_
  refine va_get (D := G) (ci := 7) (v := .ref p44) (C := RX10) (T := TX10) (N := 71) (ref := RX10) hx hb hts h1w hown hX.1 hP 0 rfl rfl 44 (by decide) h2w (fun _ h9 => h9) rfl dX10_back_14 ?_
  refine lv_iload_n hx hb dX10_back_17 rfl (lv_at hl 0 rfl) ?_
  refine lv_aload_n hx hb dX10_back_18 rfl (lv_at hl 1 rfl) ?_
  refine va_get (D := G) (ci := 7) (v := .ref p32) (C := RX10) (T := TX10) (N := 71) (ref := RX10) hx hb hts h1w hown hX.1 hP 0 rfl rfl 32 (by decide) h3w (fun _ h9 => h9) rfl dX10_back_19 ?_
  refine lv_iload_n hx hb dX10_back_22 rfl (lv_at hl 0 rfl) ?_
  refine va_iald hx hb hX.1 hP 1 0 rfl rfl (by unfold vp_in; decide +kernel) dX10_back_23 ?_
  refine cz_ti (w := 15) (by rfl) ?_
  refine va_iast hx hb hX.1 hP hD hS 2 0 rfl rfl (by unfold vp_in; decide +kernel) dX10_back_24 (fun H locs hP hD hS => ?_)
  refine lv_iinc (v := 3) (lv' := [(1, .int 3), (0, .ref p0)]) hx hb dX10_back_25 hl (k := 0) rfl (by decide +kernel) (by decide) rfl (fun ls hl => ?_)
  refine lv_goto (tgt := 7) hx hb dX10_back_28 (by decide) ?_
  refine lv_iload_n hx hb dX10_back_7 rfl (lv_at hl 0 rfl) ?_
  refine lv_bipush (v := 7) hx hb dX10_back_8 (by decide +kernel) ?_
  refine lv_icmp_ge (tgt := 31) hx hb dX10_back_10 (by decide) (fun q => absurd (q) (by decide +kernel)) (fun _ => ?_)
  refine lv_aload_n hx hb dX10_back_13 rfl (lv_at hl 1 rfl) ?_
  refine va_get (D := G) (ci := 7) (v := .ref p44) (C := RX10) (T := TX10) (N := 71) (ref := RX10) hx hb hts h1w hown hX.1 hP 0 rfl rfl 44 (by decide) h2w (fun _ h9 => h9) rfl dX10_back_14 ?_
  refine lv_iload_n hx hb dX10_back_17 rfl (lv_at hl 0 rfl) ?_
  refine lv_aload_n hx hb dX10_back_18 rfl (lv_at hl 1 rfl) ?_
  refine va_get (D := G) (ci := 7) (v := .ref p32) (C := RX10) (T := TX10) (N := 71) (ref := RX10) hx hb hts h1w hown hX.1 hP 0 rfl rfl 32 (by decide) h3w (fun _ h9 => h9) rfl dX10_back_19 ?_
  refine lv_iload_n hx hb dX10_back_22 rfl (lv_at hl 0 rfl) ?_
  refine va_iald hx hb hX.1 hP 1 0 rfl rfl (by unfold vp_in; decide +kernel) dX10_back_23 ?_
  refine cz_ti (w := 15) (by rfl) ?_
  refine va_iast hx hb hX.1 hP hD hS 2 0 rfl rfl (by unfold vp_in; decide +kernel) dX10_back_24 (fun H locs hP hD hS => ?_)
  refine lv_iinc (v := 4) (lv' := [(1, .int 4), (0, .ref p0)]) hx hb dX10_back_25 hl (k := 0) rfl (by decide +kernel) (by decide) rfl (fun ls hl => ?_)
  refine lv_goto (tgt := 7) hx hb dX10_back_28 (by decide) ?_
  refine lv_iload_n hx hb dX10_back_7 rfl (lv_at hl 0 rfl) ?_
  refine lv_bipush (v := 7) hx hb dX10_back_8 (by decide +kernel) ?_
  refine lv_icmp_ge (tgt := 31) hx hb dX10_back_10 (by decide) (fun q => absurd (q) (by decide +kernel)) (fun _ => ?_)
  refine lv_aload_n hx hb dX10_back_13 rfl (lv_at hl 1 rfl) ?_
  refine va_get (D := G) (ci := 7) (v := .ref p44) (C := RX10) (T := TX10) (N := 71) (ref := RX10) hx hb hts h1w hown hX.1 hP 0 rfl rfl 44 (by decide) h2w (fun _ h9 => h9) rfl dX10_back_14 ?_
  refine lv_iload_n hx hb dX10_back_17 rfl (lv_at hl 0 rfl) ?_
  refine lv_aload_n hx hb dX10_back_18 rfl (lv_at hl 1 rfl) ?_
  refine va_get (D := G) (ci := 7) (v := .ref p32) (C := RX10) (T := TX10) (N := 71) (ref := RX10) hx hb hts h1w hown hX.1 hP 0 rfl rfl 32 (by decide) h3w (fun _ h9 => h9) rfl dX10_back_19 ?_
  refine lv_iload_n hx hb dX10_back_22 rfl (lv_at hl 0 rfl) ?_
  refine va_iald hx hb hX.1 hP 1 0 rfl rfl (by unfold vp_in; decide +kernel) dX10_back_23 ?_
  refine cz_ti (w := 15) (by rfl) ?_
  refine va_iast hx hb hX.1 hP hD hS 2 0 rfl rfl (by unfold vp_in; decide +kernel) dX10_back_24 (fun H locs hP hD hS => ?_)
  obtain ⟨hP, hD⟩ : va_P G vwCl [(p0, .inr (7, (v1 :: v2 :: .int 0 :: v4 :: v5 :: v6 :: v7 :: v8 :: v9 :: v10 :: v11 :: v12 :: v13 :: v14 :: v15 :: v16 :: v17 :: v18 :: v19 :: v20 :: v21 :: v22 :: v23 :: v24 :: v25 :: v26 :: v27 :: v28 :: v29 :: .int 0 :: v30 :: v31 :: .ref p32 :: v33 :: v34 :: v35 :: v36 :: v37 :: v38 :: v39 :: v40 :: v41 :: v42 :: v43 :: .ref p44 :: v45 :: v46 :: v47 :: v48 :: v49 :: v50 :: v51 :: v52 :: v53 :: v54 :: v55 :: v56 :: v57 :: v58 :: v59 :: v60 :: v61 :: v62 :: v63 :: v64 :: v65 :: v66 :: v67 :: v68 :: v69 :: v70 :: []))), (p32, .inl (k 0, 7, .inl (upd (upd (upd (upd (upd (upd (upd (fun _ => 0) (0 : Int32).toNatClampNeg 15) (1 : Int32).toNatClampNeg 15) (2 : Int32).toNatClampNeg 15) (3 : Int32).toNatClampNeg 15) (4 : Int32).toNatClampNeg 15) (5 : Int32).toNatClampNeg 15) (6 : Int32).toNatClampNeg 15))), (p44, .inl (k 0, 7, .inl (upd (upd (upd (upd (upd f71 (0 : Int32).toNatClampNeg 15) (1 : Int32).toNatClampNeg 15) (2 : Int32).toNatClampNeg 15) (3 : Int32).toNatClampNeg 15) (4 : Int32).toNatClampNeg 15)))] H ∧ va_D A [(p0, .inr (7, (v1 :: v2 :: .int 0 :: v4 :: v5 :: v6 :: v7 :: v8 :: v9 :: v10 :: v11 :: v12 :: v13 :: v14 :: v15 :: v16 :: v17 :: v18 :: v19 :: v20 :: v21 :: v22 :: v23 :: v24 :: v25 :: v26 :: v27 :: v28 :: v29 :: .int 0 :: v30 :: v31 :: .ref p32 :: v33 :: v34 :: v35 :: v36 :: v37 :: v38 :: v39 :: v40 :: v41 :: v42 :: v43 :: .ref p44 :: v45 :: v46 :: v47 :: v48 :: v49 :: v50 :: v51 :: v52 :: v53 :: v54 :: v55 :: v56 :: v57 :: v58 :: v59 :: v60 :: v61 :: v62 :: v63 :: v64 :: v65 :: v66 :: v67 :: v68 :: v69 :: v70 :: []))), (p32, .inl (k 0, 7, .inl (upd (upd (upd (upd (upd (upd (upd (fun _ => 0) (0 : Int32).toNatClampNeg 15) (1 : Int32).toNatClampNeg 15) (2 : Int32).toNatClampNeg 15) (3 : Int32).toNatClampNeg 15) (4 : Int32).toNatClampNeg 15) (5 : Int32).toNatClampNeg 15) (6 : Int32).toNatClampNeg 15))), (p44, .inl (k 0, 7, .inl (upd (upd (upd (upd (upd f71 (0 : Int32).toNatClampNeg 15) (1 : Int32).toNatClampNeg 15) (2 : Int32).toNatClampNeg 15) (3 : Int32).toNatClampNeg 15) (4 : Int32).toNatClampNeg 15)))] := ⟨hP, hD⟩
  refine lv_iinc (v := 5) (lv' := [(1, .int 5), (0, .ref p0)]) hx hb dX10_back_25 hl (k := 0) rfl (by decide +kernel) (by decide) rfl (fun ls hl => ?_)
  refine lv_goto (tgt := 7) hx hb dX10_back_28 (by decide) ?_
  refine lv_iload_n hx hb dX10_back_7 rfl (lv_at hl 0 rfl) ?_
  refine lv_bipush (v := 7) hx hb dX10_back_8 (by decide +kernel) ?_
  refine lv_icmp_ge (tgt := 31) hx hb dX10_back_10 (by decide) (fun q => absurd (q) (by decide +kernel)) (fun _ => ?_)
  refine lv_aload_n hx hb dX10_back_13 rfl (lv_at hl 1 rfl) ?_
  refine va_get (D := G) (ci := 7) (v := .ref p44) (C := RX10) (T := TX10) (N := 71) (ref := RX10) hx hb hts h1w hown hX.1 hP 0 rfl rfl 44 (by decide) h2w (fun _ h9 => h9) rfl dX10_back_14 ?_
  refine lv_iload_n hx hb dX10_back_17 rfl (lv_at hl 0 rfl) ?_
  refine lv_aload_n hx hb dX10_back_18 rfl (lv_at hl 1 rfl) ?_
  refine va_get (D := G) (ci := 7) (v := .ref p32) (C := RX10) (T := TX10) (N := 71) (ref := RX10) hx hb hts h1w hown hX.1 hP 0 rfl rfl 32 (by decide) h3w (fun _ h9 => h9) rfl dX10_back_19 ?_
  refine lv_iload_n hx hb dX10_back_22 rfl (lv_at hl 0 rfl) ?_
  refine va_iald hx hb hX.1 hP 1 0 rfl rfl (by unfold vp_in; decide +kernel) dX10_back_23 ?_
  refine cz_ti (w := 15) (by rfl) ?_
  refine va_iast hx hb hX.1 hP hD hS 2 0 rfl rfl (by unfold vp_in; decide +kernel) dX10_back_24 (fun H locs hP hD hS => ?_)
  refine lv_iinc (v := 6) (lv' := [(1, .int 6), (0, .ref p0)]) hx hb dX10_back_25 hl (k := 0) rfl (by decide +kernel) (by decide) rfl (fun ls hl => ?_)
  refine lv_goto (tgt := 7) hx hb dX10_back_28 (by decide) ?_
  refine lv_iload_n hx hb dX10_back_7 rfl (lv_at hl 0 rfl) ?_
  refine lv_bipush (v := 7) hx hb dX10_back_8 (by decide +kernel) ?_
  refine lv_icmp_ge (tgt := 31) hx hb dX10_back_10 (by decide) (fun q => absurd (q) (by decide +kernel)) (fun _ => ?_)
  refine lv_aload_n hx hb dX10_back_13 rfl (lv_at hl 1 rfl) ?_
  refine va_get (D := G) (ci := 7) (v := .ref p44) (C := RX10) (T := TX10) (N := 71) (ref := RX10) hx hb hts h1w hown hX.1 hP 0 rfl rfl 44 (by decide) h2w (fun _ h9 => h9) rfl dX10_back_14 ?_
  refine lv_iload_n hx hb dX10_back_17 rfl (lv_at hl 0 rfl) ?_
  refine lv_aload_n hx hb dX10_back_18 rfl (lv_at hl 1 rfl) ?_
  refine va_get (D := G) (ci := 7) (v := .ref p32) (C := RX10) (T := TX10) (N := 71) (ref := RX10) hx hb hts h1w hown hX.1 hP 0 rfl rfl 32 (by decide) h3w (fun _ h9 => h9) rfl dX10_back_19 ?_
  refine lv_iload_n hx hb dX10_back_22 rfl (lv_at hl 0 rfl) ?_
  refine va_iald hx hb hX.1 hP 1 0 rfl rfl (by unfold vp_in; decide +kernel) dX10_back_23 ?_
  refine cz_ti (w := 15) (by rfl) ?_
  refine va_iast hx hb hX.1 hP hD hS 2 0 rfl rfl (by unfold vp_in; decide +kernel) dX10_back_24 (fun H locs hP hD hS => ?_)
  refine lv_iinc (v := 7) (lv' := [(1, .int 7), (0, .ref p0)]) hx hb dX10_back_25 hl (k := 0) rfl (by decide +kernel) (by decide) rfl (fun ls hl => ?_)
  refine lv_goto (tgt := 7) hx hb dX10_back_28 (by decide) ?_
  refine lv_iload_n hx hb dX10_back_7 rfl (lv_at hl 0 rfl) ?_
  refine lv_bipush (v := 7) hx hb dX10_back_8 (by decide +kernel) ?_
  refine lv_icmp_ge (tgt := 31) hx hb dX10_back_10 (by decide) (fun _ => ?_) (fun q => absurd (by decide +kernel) (q))
  refine lv_iconst (v := 0) hx hb dX10_back_31 (by decide +kernel) ?_
  refine lv_istore_n (lv' := [(1, .int 0), (0, .ref p0)]) hx hb dX10_back_32 rfl hl (by decide) rfl (fun ls hl => ?_)
  refine lv_aload_n hx hb dX10_back_33 rfl (lv_at hl 1 rfl) ?_
  refine va_get (D := G) (ci := 7) (v := .int 0) (C := RX10) (T := TX10) (N := 71) (ref := RX10) hx hb hts h1w hown hX.1 hP 0 rfl rfl 29 (by decide) h4w (fun _ h9 => h9) rfl dX10_back_34 ?_
  refine lv_iconst (v := 1) hx hb dX10_back_37 (by decide +kernel) ?_
  refine lv_isub hx hb dX10_back_38 ?_
  refine cz_ti (w := (-1)) (by decide +kernel) ?_
  refine lv_istore_n (lv' := [(2, .int (-1)), (1, .int 0), (0, .ref p0)]) hx hb dX10_back_39 rfl hl (by decide) rfl (fun ls hl => ?_)
  refine lv_iload_n hx hb dX10_back_40 rfl (lv_at hl 0 rfl) ?_
  refine lv_if_lt (tgt := 141) hx hb dX10_back_41 (by decide) (fun _ => ?_) (fun q => absurd (by decide +kernel) (q))
  refine lv_iload_n hx hb dX10_back_141 rfl (lv_at hl 1 rfl) ?_
  have hP9 := hP.sub (ws' := [(p0, .inr (7, (v1 :: v2 :: .int 0 :: v4 :: v5 :: v6 :: v7 :: v8 :: v9 :: v10 :: v11 :: v12 :: v13 :: v14 :: v15 :: v16 :: v17 :: v18 :: v19 :: v20 :: v21 :: v22 :: v23 :: v24 :: v25 :: v26 :: v27 :: v28 :: v29 :: .int 0 :: v30 :: v31 :: .ref p32 :: v33 :: v34 :: v35 :: v36 :: v37 :: v38 :: v39 :: v40 :: v41 :: v42 :: v43 :: .ref p44 :: v45 :: v46 :: v47 :: v48 :: v49 :: v50 :: v51 :: v52 :: v53 :: v54 :: v55 :: v56 :: v57 :: v58 :: v59 :: v60 :: v61 :: v62 :: v63 :: v64 :: v65 :: v66 :: v67 :: v68 :: v69 :: v70 :: []))), (p32, .inl (k 0, 7, .inl (upd (upd (upd (upd (upd (upd (upd (fun _ => 0) (0 : Int32).toNatClampNeg 15) (1 : Int32).toNatClampNeg 15) (2 : Int32).toNatClampNeg 15) (3 : Int32).toNatClampNeg 15) (4 : Int32).toNatClampNeg 15) (5 : Int32).toNatClampNeg 15) (6 : Int32).toNatClampNeg 15))), (p44, .inl (k 0, 7, .inl (upd (upd (upd (upd (upd (upd (upd f71 (0 : Int32).toNatClampNeg 15) (1 : Int32).toNatClampNeg 15) (2 : Int32).toNatClampNeg 15) (3 : Int32).toNatClampNeg 15) (4 : Int32).toNatClampNeg 15) (5 : Int32).toNatClampNeg 15) (6 : Int32).toNatClampNeg 15)))]) [0, 1, 2] rfl
  have hD9 := hD.sub (ws' := [(p0, .inr (7, (v1 :: v2 :: .int 0 :: v4 :: v5 :: v6 :: v7 :: v8 :: v9 :: v10 :: v11 :: v12 :: v13 :: v14 :: v15 :: v16 :: v17 :: v18 :: v19 :: v20 :: v21 :: v22 :: v23 :: v24 :: v25 :: v26 :: v27 :: v28 :: v29 :: .int 0 :: v30 :: v31 :: .ref p32 :: v33 :: v34 :: v35 :: v36 :: v37 :: v38 :: v39 :: v40 :: v41 :: v42 :: v43 :: .ref p44 :: v45 :: v46 :: v47 :: v48 :: v49 :: v50 :: v51 :: v52 :: v53 :: v54 :: v55 :: v56 :: v57 :: v58 :: v59 :: v60 :: v61 :: v62 :: v63 :: v64 :: v65 :: v66 :: v67 :: v68 :: v69 :: v70 :: []))), (p32, .inl (k 0, 7, .inl (upd (upd (upd (upd (upd (upd (upd (fun _ => 0) (0 : Int32).toNatClampNeg 15) (1 : Int32).toNatClampNeg 15) (2 : Int32).toNatClampNeg 15) (3 : Int32).toNatClampNeg 15) (4 : Int32).toNatClampNeg 15) (5 : Int32).toNatClampNeg 15) (6 : Int32).toNatClampNeg 15))), (p44, .inl (k 0, 7, .inl (upd (upd (upd (upd (upd (upd (upd f71 (0 : Int32).toNatClampNeg 15) (1 : Int32).toNatClampNeg 15) (2 : Int32).toNatClampNeg 15) (3 : Int32).toNatClampNeg 15) (4 : Int32).toNatClampNeg 15) (5 : Int32).toNatClampNeg 15) (6 : Int32).toNatClampNeg 15)))]) [0, 1, 2] (by decide) rfl
  exact W.iret (v := 0) hx hb hr (fun t ht hW => ⟨⟨0, (), rfl, rfl, by rw [ht]; exact hP9, hD9⟩, hS.F ht⟩) hS.2.2 dX10_back_142

set_option maxHeartbeats 4000000 in
set_option maxRecDepth 100000 in
theorem xX9_fewest_2 (l : Launch) (htr : l.stackTraces = false) (G : va_G) (k : Nat → ClassId) (p0 : Nat) (i1 : Int32) (sz : Nat) (hi1 : i1 < 0) : CXi l G k yX9_fewest wsX9_fewest ({ frames := 6, cells := 1, slots := 6, locals := 100 }) [.ref p0, .int i1] sz [] ns_X := by
  refine vx_ofW (cc := cX9_fewest) (maxL := 3) (ret := (some .int)) (by decide) rfl ?_
  intro p e s m args below meth c s₁ B hml htab hv
  obtain ⟨⟨rfl, hsz, hP, hX, hD0, hZ0⟩, hT9⟩ := hv
  have hlocks := B.notSynchronized
  have hx := B.exec
  have hb := B.bytes
  have hr := B.returns
  have hts := atoms_spec (ws := wsX9_fewest) B.pre
  have hown : s.vm.findClass RX9 = some m.cls := findClass_of_methodNamed B.named
  subst hsz
  have hD := hD0.self (sz := s.heap.size)
  have hZ := ZX.up hP hZ0
  generalize hAe : va_A [] s.heap.size = A at hD hZ ⊢
  have hA : ∀ q : Nat, s.heap.size ≤ q → A q := fun q h => by rw [← hAe]; exact Or.inr h
  have hS : va_S A s.heap s.heap [] := va_S.rf
  have hP : va_P G vwCl [] s.heap := hP
  have hl := lv_entry ([.ref p0, .int i1]) (n := 3) (Nat.le_of_ble_eq_true rfl)
  rw [lg_entry_eq]
  generalize (lg_sl ([.ref p0, .int i1]) ++ List.replicate (3 - (lg_sl ([.ref p0, .int i1])).length) Slot.unset).toArray = ls at hl ⊢
  have hl : lv_has ls 3 [(0, .ref p0), (1, .int i1)] := hl
  have h0w := hts (.classLink RX9 144 "java/util/NoSuchElementException") (by decide +kernel)
  have h1w := hts (.initialized "java/util/NoSuchElementException") (by decide +kernel)
  refine lv_iload_n hx hb dX9_fewest_0 rfl (lv_at hl 1 rfl) ?_
  refine lv_if_eq (tgt := 19) hx hb dX9_fewest_1 (by decide) (fun q_1 => absurd q_1 (zl_ne hi1 (by decide))) (fun _ => ?_)
  refine lv_iload_n hx hb dX9_fewest_4 rfl (lv_at hl 1 rfl) ?_
  refine lv_iconst (v := 1) hx hb dX9_fewest_5 (by decide +kernel) ?_
  refine lv_icmp_eq (tgt := 19) hx hb dX9_fewest_6 (by decide) (fun q_2 => absurd q_2 (zl_ne hi1 (by decide))) (fun _ => ?_)
  exact ns_throw (own := RX9) (ik := 144) (is := 244) (ic := 148) hx hb htr hown h0w h1w (hX.2.2.2.2 8 _ rfl) (tx_ns hT9 (fun w h => hts w (twfewest w h))) ns_good hZ.2.1 hZ.2.2 hS (hl.1.trans hml.symm) dX9_fewest_9 dX9_fewest_12 dX9_fewest_13 dX9_fewest_15 dX9_fewest_18 (fun x hx9 => (htab x hx9).elim) (Nat.le_of_ble_eq_true rfl) (Nat.le_of_ble_eq_true rfl) (Nat.le_of_ble_eq_true rfl) (Nat.le_of_ble_eq_true rfl) hlocks (fun t ha hz hq => ⟨(), trivial, rfl, Nat.le_trans hS.1 hz, fun q h3 h4 => (hq q (Nat.lt_of_lt_of_le h3 hS.1)).trans (hS.2.1 q h3 h4)⟩) hS.2.2 (Nat.le_of_ble_eq_true rfl) (Nat.le_of_ble_eq_true rfl)

set_option maxHeartbeats 4000000 in
set_option maxRecDepth 100000 in
theorem xL_fewest_0 (l : Launch) (htr : l.stackTraces = false) (G : va_G) (k : Nat → ClassId) (p0 : Nat) (i1 : Int32) (p2 : Nat) (v3 : Value) (v4 : Value) (v5 : Value) (v6 : Value) (v7 : Value) (v8 : Value) (v9 : Value) (v10 : Value) (v11 : Value) (v12 : Value) (v13 : Value) (sz : Nat) (hi1 : i1 < 0) : CTi l G k yL_fewest wsL_fewest ({ frames := 7, cells := 1, slots := 6, locals := 122 }) [.ref p0, .int i1, .ref p2] sz [(p0, .inr (6, [v3, v4, v5, v6, v7, v8, v9, v10, v11, v12, v13]))] (fun r (u : Unit) => r = 1) (fun (u : Unit) => [(p0, .inr (6, [v3, v4, v5, v6, v7, v8, v9, v10, v11, v12, v13]))]) := by
  refine va_MetW (cc := cL_fewest) (maxL := 4) (ret := (some .int)) (by decide) rfl ?_
  intro p e s m args below meth c s₁ B hml hv
  obtain ⟨⟨rfl, hsz, hP, hX, hD0, hZ0⟩, hT9⟩ := hv
  have hlocks := B.notSynchronized
  have hx := B.exec
  have hb := B.bytes
  have hr := B.returns
  have hts := atoms_spec (ws := wsL_fewest) B.pre
  have hown : s.vm.findClass RL = some m.cls := findClass_of_methodNamed B.named
  subst hsz
  have hD := hD0.self (sz := s.heap.size)
  have hZ := ZX.up hP hZ0
  generalize hAe : va_A [(p0, .inr (6, [v3, v4, v5, v6, v7, v8, v9, v10, v11, v12, v13]))] s.heap.size = A at hD hZ ⊢
  have hA : ∀ q : Nat, s.heap.size ≤ q → A q := fun q h => by rw [← hAe]; exact Or.inr h
  have hS : va_S A s.heap s.heap [] := va_S.rf
  have hP : va_P G vwCl [(p0, .inr (6, [v3, v4, v5, v6, v7, v8, v9, v10, v11, v12, v13]))] s.heap := hP
  have hl := lv_entry ([.ref p0, .int i1, .ref p2]) (n := 4) (Nat.le_of_ble_eq_true rfl)
  rw [lg_entry_eq]
  generalize (lg_sl ([.ref p0, .int i1, .ref p2]) ++ List.replicate (4 - (lg_sl ([.ref p0, .int i1, .ref p2])).length) Slot.unset).toArray = ls at hl ⊢
  have hl : lv_has ls 4 [(0, .ref p0), (1, .int i1), (2, .ref p2)] := hl
  have h0w := hts (.classLink RL 18 "java/util/NoSuchElementException") (by decide +kernel)
  refine lv_aload_n hx hb dL_fewest_0 rfl (lv_at hl 2 rfl) ?_
  refine lv_iconst (v := 0) hx hb dL_fewest_1 (by decide +kernel) ?_
  refine lv_aload_n hx hb dL_fewest_2 rfl (lv_at hl 0 rfl) ?_
  refine lv_iload_n hx hb dL_fewest_3 rfl (lv_at hl 1 rfl) ?_
  refine cz_xi (wr := [(p0, .inr (6, [v3, v4, v5, v6, v7, v8, v9, v10, v11, v12, v13]))]) (vx_runV (As := [.int i1]) (rest := [.int 0, .ref p2]) ⟨hx, hb, hml, hown, hts⟩ (xX9_fewest_2 l htr G k p0 i1 s.heap.size hi1) (cwV 1 hts gL_fewest_X9_fewest rfl rfl rfl (by decide +kernel) ⟨Nat.le_of_ble_eq_true rfl, Nat.le_of_ble_eq_true rfl⟩) (cz_preVT hT9 hZ hS hX hP hD [] rfl rfl (ci := 6) (q0 := 0) rfl rfl) rfl rfl hl.1 rfl (lv_room (Nat.le_of_ble_eq_true rfl)) dL_fewest_4 ⟨Nat.le_of_ble_eq_true rfl, Nat.le_of_ble_eq_true rfl⟩) hP hD hS hA [] [0] rfl rfl (by decide) (by decide) (fun ce q9 H locs hce hcv hcl hP hD hS => ?_)
  refine cz_catch (name := "java/util/NoSuchElementException") hown ⟨0, 9, 12, 18⟩ (vx_table (x := yL_fewest) B (hts _ List.mem_cons_self)) (by decide +kernel) (by decide) h0w (va_Nw.use rfl (hT9.2 _ List.mem_cons_self)) hce hcv hcl ?_
  refine W.widen (k := 1) (n := 6) (Nat.le_of_ble_eq_true rfl) (Nat.le_of_ble_eq_true rfl) ?_
  refine lv_astore_n (lv' := [(3, .ref q9), (0, .ref p0), (1, .int i1), (2, .ref p2)]) hx hb dL_fewest_12 rfl hl (by decide) rfl (fun ls hl => ?_)
  refine lv_iconst (v := 1) hx hb dL_fewest_13 (by decide +kernel) ?_
  have hP9 := hP.sub (ws' := [(p0, .inr (6, [v3, v4, v5, v6, v7, v8, v9, v10, v11, v12, v13]))]) [0] rfl
  have hD9 := hD.sub (ws' := [(p0, .inr (6, [v3, v4, v5, v6, v7, v8, v9, v10, v11, v12, v13]))]) [0] (by decide) rfl
  refine W.widen (k := 1) (n := 6) (Nat.le_of_ble_eq_true rfl) (Nat.le_of_ble_eq_true rfl) ?_
  exact W.iret (v := 1) hx hb hr (fun t ht hW => ⟨⟨1, (), rfl, rfl, by rw [ht]; exact hP9, hD9⟩, hS.F ht⟩) hS.2.2 dL_fewest_14

set_option maxHeartbeats 4000000 in
set_option maxRecDepth 100000 in
theorem cX10_fewest_0 (l : Launch) (G : va_G) (k : Nat → ClassId) (p0 : Nat) (i1 : Int32) (v2 : Value) (v3 : Value) (v4 : Value) (v5 : Value) (v6 : Value) (v7 : Value) (v8 : Value) (v9 : Value) (v10 : Value) (v11 : Value) (v12 : Value) (v13 : Value) (v14 : Value) (v15 : Value) (v16 : Value) (v17 : Value) (v18 : Value) (v19 : Value) (v20 : Value) (v21 : Value) (v22 : Value) (v23 : Value) (v24 : Value) (v25 : Value) (v26 : Value) (v27 : Value) (v28 : Value) (v29 : Value) (v30 : Value) (v31 : Value) (v32 : Value) (v33 : Value) (v34 : Value) (v35 : Value) (v36 : Value) (v37 : Value) (v38 : Value) (v39 : Value) (v40 : Value) (v41 : Value) (v42 : Value) (v43 : Value) (v44 : Value) (v45 : Value) (v46 : Value) (v47 : Value) (v48 : Value) (v49 : Value) (v50 : Value) (v51 : Value) (v52 : Value) (v53 : Value) (v54 : Value) (v55 : Value) (v56 : Value) (v57 : Value) (v58 : Value) (v59 : Value) (v60 : Value) (v61 : Value) (v62 : Value) (v63 : Value) (v64 : Value) (v65 : Value) (v66 : Value) (v67 : Value) (v68 : Value) (v69 : Value) (v70 : Value) (v71 : Value) (v72 : Value) (sz : Nat) (hi1 : i1 < 0) : CMi l G k yX10_fewest wsX10_fewest ({ frames := 1, cells := 0, slots := 0, locals := 21 }) [.ref p0, .int i1] sz [(p0, .inr (7, (v2 :: v3 :: v4 :: v5 :: v6 :: v7 :: v8 :: v9 :: v10 :: v11 :: v12 :: v13 :: v14 :: v15 :: v16 :: v17 :: v18 :: v19 :: v20 :: v21 :: v22 :: v23 :: v24 :: v25 :: v26 :: v27 :: v28 :: v29 :: v30 :: v31 :: v32 :: v33 :: v34 :: v35 :: v36 :: v37 :: v38 :: v39 :: v40 :: v41 :: v42 :: v43 :: v44 :: v45 :: v46 :: v47 :: v48 :: v49 :: v50 :: v51 :: v52 :: v53 :: v54 :: v55 :: v56 :: v57 :: v58 :: v59 :: v60 :: v61 :: v62 :: v63 :: v64 :: v65 :: v66 :: v67 :: v68 :: v69 :: v70 :: v71 :: v72 :: [])))] (fun r (u : Unit) => r = 0) (fun (u : Unit) => [(p0, .inr (7, (v2 :: v3 :: .int 1 :: v5 :: v6 :: v7 :: v8 :: v9 :: v10 :: v11 :: v12 :: v13 :: v14 :: v15 :: v16 :: v17 :: v18 :: v19 :: v20 :: v21 :: v22 :: v23 :: v24 :: v25 :: v26 :: v27 :: v28 :: v29 :: v30 :: v31 :: v32 :: v33 :: v34 :: v35 :: v36 :: v37 :: v38 :: v39 :: v40 :: v41 :: v42 :: v43 :: v44 :: v45 :: v46 :: v47 :: v48 :: v49 :: v50 :: v51 :: v52 :: v53 :: v54 :: v55 :: v56 :: v57 :: v58 :: v59 :: v60 :: v61 :: v62 :: v63 :: v64 :: v65 :: v66 :: v67 :: v68 :: v69 :: v70 :: v71 :: v72 :: [])))]) := by
  refine Met.ofW (cc := cX10_fewest) (maxL := 2) (ret := (some .int)) (by decide) rfl ?_
  intro p e s m args below meth c s₁ B hml hv
  obtain ⟨rfl, hsz, hP, hX, hD0, hZ0⟩ := hv
  have hx := B.exec
  have hb := B.bytes
  have hr := B.returns
  have hts := atoms_spec (ws := wsX10_fewest) B.pre
  have hown : s.vm.findClass RX10 = some m.cls := findClass_of_methodNamed B.named
  subst hsz
  have hD := hD0.self (sz := s.heap.size)
  have hZ := ZX.up hP hZ0
  generalize hAe : va_A [(p0, .inr (7, (v2 :: v3 :: v4 :: v5 :: v6 :: v7 :: v8 :: v9 :: v10 :: v11 :: v12 :: v13 :: v14 :: v15 :: v16 :: v17 :: v18 :: v19 :: v20 :: v21 :: v22 :: v23 :: v24 :: v25 :: v26 :: v27 :: v28 :: v29 :: v30 :: v31 :: v32 :: v33 :: v34 :: v35 :: v36 :: v37 :: v38 :: v39 :: v40 :: v41 :: v42 :: v43 :: v44 :: v45 :: v46 :: v47 :: v48 :: v49 :: v50 :: v51 :: v52 :: v53 :: v54 :: v55 :: v56 :: v57 :: v58 :: v59 :: v60 :: v61 :: v62 :: v63 :: v64 :: v65 :: v66 :: v67 :: v68 :: v69 :: v70 :: v71 :: v72 :: [])))] s.heap.size = A at hD hZ ⊢
  have hA : ∀ q : Nat, s.heap.size ≤ q → A q := fun q h => by rw [← hAe]; exact Or.inr h
  have hS : va_S A s.heap s.heap [] := va_S.rf
  have hP : va_P G vwCl [(p0, .inr (7, (v2 :: v3 :: v4 :: v5 :: v6 :: v7 :: v8 :: v9 :: v10 :: v11 :: v12 :: v13 :: v14 :: v15 :: v16 :: v17 :: v18 :: v19 :: v20 :: v21 :: v22 :: v23 :: v24 :: v25 :: v26 :: v27 :: v28 :: v29 :: v30 :: v31 :: v32 :: v33 :: v34 :: v35 :: v36 :: v37 :: v38 :: v39 :: v40 :: v41 :: v42 :: v43 :: v44 :: v45 :: v46 :: v47 :: v48 :: v49 :: v50 :: v51 :: v52 :: v53 :: v54 :: v55 :: v56 :: v57 :: v58 :: v59 :: v60 :: v61 :: v62 :: v63 :: v64 :: v65 :: v66 :: v67 :: v68 :: v69 :: v70 :: v71 :: v72 :: [])))] s.heap := hP
  have hl := lv_entry ([.ref p0, .int i1]) (n := 2) (Nat.le_of_ble_eq_true rfl)
  rw [lg_entry_eq]
  generalize (lg_sl ([.ref p0, .int i1]) ++ List.replicate (2 - (lg_sl ([.ref p0, .int i1])).length) Slot.unset).toArray = ls at hl ⊢
  have hl : lv_has ls 2 [(0, .ref p0), (1, .int i1)] := hl
  have h0w := hts (.fieldLink RX10 171 "RopeTownModel" "code" "I") (by decide +kernel)
  have h1w : ∀ w ∈ wsX100, w ∈ wsX10_fewest := by decide +kernel
  refine lv_aload_n hx hb dX10_fewest_0 rfl (lv_at hl 0 rfl) ?_
  refine lv_iconst (v := 0) hx hb dX10_fewest_1 (by decide +kernel) ?_
  refine va_put (D := G) (ci := 7) (v := .int 0) (ty := .int) (C := RX10) (T := TX10) (N := 71) (ref := RX10) hx hb hts h1w tyX10 tyX10_ok nmX10 hown hX.1 hP hD hS 0 rfl rfl 2 (by decide) h0w (fun _ h9 => h9) rfl (by decide +kernel) rfl rfl (Nat.le_of_ble_eq_true rfl) dX10_fewest_2 (fun H locs hP hD hS => ?_)
  refine lv_iload_n hx hb dX10_fewest_5 rfl (lv_at hl 1 rfl) ?_
  refine lv_if_lt (tgt := 14) hx hb dX10_fewest_6 (by decide) (fun _ => ?_) (fun q_1 => absurd (zl_lt hi1 (by decide)) q_1)
  refine lv_aload_n hx hb dX10_fewest_14 rfl (lv_at hl 0 rfl) ?_
  refine lv_iconst (v := 1) hx hb dX10_fewest_15 (by decide +kernel) ?_
  refine cz_i (wr := []) (va_runV (As := [.int 1]) (rest := []) ⟨hx, hb, hml, hown, hts⟩ (cX10_fail_0 l G k p0 v2 v3 (.int 0) v5 v6 v7 v8 v9 v10 v11 v12 v13 v14 v15 v16 v17 v18 v19 v20 v21 v22 v23 v24 v25 v26 v27 v28 v29 v30 v31 v32 v33 v34 v35 v36 v37 v38 v39 v40 v41 v42 v43 v44 v45 v46 v47 v48 v49 v50 v51 v52 v53 v54 v55 v56 v57 v58 v59 v60 v61 v62 v63 v64 v65 v66 v67 v68 v69 v70 v71 v72 H.size) (cwV 1 hts gX10_fewest_X10_fail rfl rfl rfl (by decide +kernel) ⟨Nat.le_of_ble_eq_true rfl, Nat.le_of_ble_eq_true rfl⟩) (cz_preV hZ hS hX hP hD [0] rfl rfl (ci := 7) (q0 := 0) rfl rfl) rfl rfl hl.1 rfl (lv_room (Nat.le_of_ble_eq_true rfl)) dX10_fewest_16 ⟨Nat.le_of_ble_eq_true rfl, Nat.le_of_ble_eq_true rfl⟩) hP hD hS hA [0] [] rfl rfl (by decide) (by decide) (fun r u H locs hp hP hD hS => ?_)
  have hp : r = 0 := hp
  subst hp
  have hP9 := hP.sub (ws' := [(p0, .inr (7, (v2 :: v3 :: .int 1 :: v5 :: v6 :: v7 :: v8 :: v9 :: v10 :: v11 :: v12 :: v13 :: v14 :: v15 :: v16 :: v17 :: v18 :: v19 :: v20 :: v21 :: v22 :: v23 :: v24 :: v25 :: v26 :: v27 :: v28 :: v29 :: v30 :: v31 :: v32 :: v33 :: v34 :: v35 :: v36 :: v37 :: v38 :: v39 :: v40 :: v41 :: v42 :: v43 :: v44 :: v45 :: v46 :: v47 :: v48 :: v49 :: v50 :: v51 :: v52 :: v53 :: v54 :: v55 :: v56 :: v57 :: v58 :: v59 :: v60 :: v61 :: v62 :: v63 :: v64 :: v65 :: v66 :: v67 :: v68 :: v69 :: v70 :: v71 :: v72 :: [])))]) [0] rfl
  have hD9 := hD.sub (ws' := [(p0, .inr (7, (v2 :: v3 :: .int 1 :: v5 :: v6 :: v7 :: v8 :: v9 :: v10 :: v11 :: v12 :: v13 :: v14 :: v15 :: v16 :: v17 :: v18 :: v19 :: v20 :: v21 :: v22 :: v23 :: v24 :: v25 :: v26 :: v27 :: v28 :: v29 :: v30 :: v31 :: v32 :: v33 :: v34 :: v35 :: v36 :: v37 :: v38 :: v39 :: v40 :: v41 :: v42 :: v43 :: v44 :: v45 :: v46 :: v47 :: v48 :: v49 :: v50 :: v51 :: v52 :: v53 :: v54 :: v55 :: v56 :: v57 :: v58 :: v59 :: v60 :: v61 :: v62 :: v63 :: v64 :: v65 :: v66 :: v67 :: v68 :: v69 :: v70 :: v71 :: v72 :: [])))]) [0] (by decide) rfl
  exact W.iret (v := 0) hx hb hr (fun t ht hW => ⟨⟨0, (), rfl, rfl, by rw [ht]; exact hP9, hD9⟩, hS.F ht⟩) hS.2.2 dX10_fewest_19

set_option maxHeartbeats 4000000 in
set_option maxRecDepth 100000 in
theorem cL_fewest_1 (l : Launch) (G : va_G) (k : Nat → ClassId) (p0 : Nat) (p1 : Nat) (v2 : Value) (v3 : Value) (v4 : Value) (v5 : Value) (p6 : Nat) (v7 : Value) (p8 : Nat) (v9 : Value) (v10 : Value) (p11 : Nat) (v12 : Value) (v13 : Value) (v14 : Value) (v15 : Value) (v16 : Value) (v17 : Value) (v18 : Value) (v19 : Value) (v20 : Value) (v21 : Value) (v22 : Value) (v23 : Value) (p24 : Nat) (p25 : Nat) (p26 : Nat) (p27 : Nat) (p28 : Nat) (p29 : Nat) (p30 : Nat) (v31 : Value) (p32 : Nat) (f33 : Nat → Int32) (f34 : Nat → Int32) (v35 : Value) (v36 : Value) (v37 : Value) (v38 : Value) (v39 : Value) (v40 : Value) (v41 : Value) (v42 : Value) (p43 : Nat) (v44 : Value) (v45 : Value) (v46 : Value) (v47 : Value) (v48 : Value) (f49 : Nat → Int64) (sz : Nat) : CMi l G k yL_fewest wsL_fewest ({ frames := 6, cells := 0, slots := 0, locals := 149 }) [.ref p0, .int 0, .ref p1] sz [(p0, .inr (6, [v2, v3, v4, v5, .ref p6, v7, .ref p8, v9, v10, .ref p11, v12])), (p8, .inr (0, [.int 268435455, v13, v14, v15, v16, v17, v18, v19, v20, v21, v22, v23])), (p11, .inr (5, [.ref p6, .int 0, .int 0, .ref p24, .ref p25, .ref p26, .int 0, .ref p27, .ref p28, .ref p29, .ref p30, .int 0, .int (-1), v31, .ref p32])), (p27, .inl (k 0, 1024, .inl (fun _ => 0))), (p24, .inl (k 0, 1500, .inl (fun _ => 0))), (p28, .inl (k 0, 1500, .inl f33)), (p30, .inl (k 0, 1500, .inl (fun _ => 0))), (p25, .inl (k 0, 1500, .inl (fun _ => 0))), (p26, .inl (k 0, 1500, .inl f34)), (p29, .inl (k 0, 1500, .inl (fun _ => 0))), (p6, .inr (2, [.int 1, v35, v36, .int 0, .int 1, v37, v38, .int 0, v39, v40, v41, v42, .ref p43, v44])), (p32, .inl (k 0, 1641, .inl (fun _ => 0))), (p43, .inr (4, [v45, v46, v47, v48, .int 0])), (p1, .inl (k 2, 1, .inr (.inl f49)))] (fun r (u : Unit) => r = 0) (fun (u : Unit) => [(p1, .inl (k 2, 1, .inr (.inl (vp_updL f49 (0 : Int32).toNatClampNeg 0)))), (p0, .inr (6, [v2, v3, v4, v5, .ref p6, v7, .ref p8, v9, v10, .ref p11, v12])), (p8, .inr (0, [.int 268435455, v13, v14, v15, v16, v17, v18, v19, v20, v21, v22, v23])), (p27, .inl (k 0, 1024, .inl (upd (fun _ => (-1)) (455 : Int32).toNatClampNeg 0))), (p28, .inl (k 0, 1500, .inl (upd f33 (0 : Int32).toNatClampNeg (-1)))), (p26, .inl (k 0, 1500, .inl (upd f34 (0 : Int32).toNatClampNeg (-1)))), (p29, .inl (k 0, 1500, .inl (upd (upd (fun _ => 0) (0 : Int32).toNatClampNeg 0) (0 : Int32).toNatClampNeg 0))), (p30, .inl (k 0, 1500, .inl (upd (upd (upd (fun _ => 0) (0 : Int32).toNatClampNeg 0) (0 : Int32).toNatClampNeg 0) (0 : Int32).toNatClampNeg 0))), (p32, .inl (k 0, 1641, .inl (upd (fun _ => 0) (0 : Int32).toNatClampNeg 3))), (p43, .inr (4, [v45, v46, v47, v48, .int 0])), (p11, .inr (5, [.ref p6, .int 0, .int 0, .ref p24, .ref p25, .ref p26, .int 1, .ref p27, .ref p28, .ref p29, .ref p30, .int 0, .int 0, v31, .ref p32])), (p24, .inl (k 0, 1500, .inl (upd (fun _ => 0) (0 : Int32).toNatClampNeg 268435455))), (p25, .inl (k 0, 1500, .inl (upd (fun _ => 0) (0 : Int32).toNatClampNeg 0))), (p6, .inr (2, [.int 1, v35, v36, .int 0, .int 1, v37, v38, .int 0, v39, v40, v41, v42, .ref p43, v44]))]) := by
  refine va_MetW (cc := cL_fewest) (maxL := 4) (ret := (some .int)) (by decide) rfl ?_
  intro p e s m args below meth c s₁ B hml hv
  obtain ⟨rfl, hsz, hP, hX, hD0, hZ0⟩ := hv
  have hx := B.exec
  have hb := B.bytes
  have hr := B.returns
  have hts := atoms_spec (ws := wsL_fewest) B.pre
  have hown : s.vm.findClass RL = some m.cls := findClass_of_methodNamed B.named
  subst hsz
  have hD := hD0.self (sz := s.heap.size)
  have hZ := ZX.up hP hZ0
  generalize hAe : va_A [(p0, .inr (6, [v2, v3, v4, v5, .ref p6, v7, .ref p8, v9, v10, .ref p11, v12])), (p8, .inr (0, [.int 268435455, v13, v14, v15, v16, v17, v18, v19, v20, v21, v22, v23])), (p11, .inr (5, [.ref p6, .int 0, .int 0, .ref p24, .ref p25, .ref p26, .int 0, .ref p27, .ref p28, .ref p29, .ref p30, .int 0, .int (-1), v31, .ref p32])), (p27, .inl (k 0, 1024, .inl (fun _ => 0))), (p24, .inl (k 0, 1500, .inl (fun _ => 0))), (p28, .inl (k 0, 1500, .inl f33)), (p30, .inl (k 0, 1500, .inl (fun _ => 0))), (p25, .inl (k 0, 1500, .inl (fun _ => 0))), (p26, .inl (k 0, 1500, .inl f34)), (p29, .inl (k 0, 1500, .inl (fun _ => 0))), (p6, .inr (2, [.int 1, v35, v36, .int 0, .int 1, v37, v38, .int 0, v39, v40, v41, v42, .ref p43, v44])), (p32, .inl (k 0, 1641, .inl (fun _ => 0))), (p43, .inr (4, [v45, v46, v47, v48, .int 0])), (p1, .inl (k 2, 1, .inr (.inl f49)))] s.heap.size = A at hD hZ ⊢
  have hA : ∀ q : Nat, s.heap.size ≤ q → A q := fun q h => by rw [← hAe]; exact Or.inr h
  have hS : va_S A s.heap s.heap [] := va_S.rf
  have hP : va_P G vwCl [(p0, .inr (6, [v2, v3, v4, v5, .ref p6, v7, .ref p8, v9, v10, .ref p11, v12])), (p8, .inr (0, [.int 268435455, v13, v14, v15, v16, v17, v18, v19, v20, v21, v22, v23])), (p11, .inr (5, [.ref p6, .int 0, .int 0, .ref p24, .ref p25, .ref p26, .int 0, .ref p27, .ref p28, .ref p29, .ref p30, .int 0, .int (-1), v31, .ref p32])), (p27, .inl (k 0, 1024, .inl (fun _ => 0))), (p24, .inl (k 0, 1500, .inl (fun _ => 0))), (p28, .inl (k 0, 1500, .inl f33)), (p30, .inl (k 0, 1500, .inl (fun _ => 0))), (p25, .inl (k 0, 1500, .inl (fun _ => 0))), (p26, .inl (k 0, 1500, .inl f34)), (p29, .inl (k 0, 1500, .inl (fun _ => 0))), (p6, .inr (2, [.int 1, v35, v36, .int 0, .int 1, v37, v38, .int 0, v39, v40, v41, v42, .ref p43, v44])), (p32, .inl (k 0, 1641, .inl (fun _ => 0))), (p43, .inr (4, [v45, v46, v47, v48, .int 0])), (p1, .inl (k 2, 1, .inr (.inl f49)))] s.heap := hP
  have hl := lv_entry ([.ref p0, .int 0, .ref p1]) (n := 4) (Nat.le_of_ble_eq_true rfl)
  rw [lg_entry_eq]
  generalize (lg_sl ([.ref p0, .int 0, .ref p1]) ++ List.replicate (4 - (lg_sl ([.ref p0, .int 0, .ref p1])).length) Slot.unset).toArray = ls at hl ⊢
  have hl : lv_has ls 4 [(0, .ref p0), (1, .int 0), (2, .ref p1)] := hl
  refine lv_aload_n hx hb dL_fewest_0 rfl (lv_at hl 2 rfl) ?_
  refine lv_iconst (v := 0) hx hb dL_fewest_1 (by decide +kernel) ?_
  refine lv_aload_n hx hb dL_fewest_2 rfl (lv_at hl 0 rfl) ?_
  refine lv_iload_n hx hb dL_fewest_3 rfl (lv_at hl 1 rfl) ?_
  refine cz_i (wr := [(p1, .inl (k 2, 1, .inr (.inl f49)))]) (va_runV (As := [.int 0]) (rest := [.int 0, .ref p1]) ⟨hx, hb, hml, hown, hts⟩ (cX9_fewest_0 l G k p0 v2 v3 v4 v5 p6 v7 p8 v9 v10 p11 v12 v13 v14 v15 v16 v17 v18 v19 v20 v21 v22 v23 p24 p25 p26 p27 p28 p29 p30 v31 p32 f33 f34 v35 v36 v37 v38 v39 v40 v41 v42 p43 v44 v45 v46 v47 v48 s.heap.size) (cwV 1 hts gL_fewest_X9_fewest rfl rfl rfl (by decide +kernel) ⟨Nat.le_of_ble_eq_true rfl, Nat.le_of_ble_eq_true rfl⟩) (cz_preV hZ hS hX hP hD [0, 1, 2, 3, 4, 5, 6, 7, 8, 9, 10, 11, 12] rfl rfl (ci := 6) (q0 := 0) rfl rfl) rfl rfl hl.1 rfl (lv_room (Nat.le_of_ble_eq_true rfl)) dL_fewest_4 ⟨Nat.le_of_ble_eq_true rfl, Nat.le_of_ble_eq_true rfl⟩) hP hD hS hA [0, 1, 2, 3, 4, 5, 6, 7, 8, 9, 10, 11, 12] [13] rfl rfl (by decide) (by decide) (fun r u H locs hp hP hD hS => ?_)
  have hp : r = 0 := hp
  subst hp
  refine lv_i2l (v := 0) hx hb dL_fewest_7 (by decide +kernel) ?_
  refine va_last hx hb hX.1 hP hD hS 0 2 rfl rfl (by unfold vp_in; decide +kernel) dL_fewest_8 (fun H locs hP hD hS => ?_)
  refine lv_goto (tgt := 15) hx hb dL_fewest_9 (by decide) ?_
  refine lv_iconst (v := 0) hx hb dL_fewest_15 (by decide +kernel) ?_
  have hP9 := hP.sub (ws' := [(p1, .inl (k 2, 1, .inr (.inl (vp_updL f49 (0 : Int32).toNatClampNeg 0)))), (p0, .inr (6, [v2, v3, v4, v5, .ref p6, v7, .ref p8, v9, v10, .ref p11, v12])), (p8, .inr (0, [.int 268435455, v13, v14, v15, v16, v17, v18, v19, v20, v21, v22, v23])), (p27, .inl (k 0, 1024, .inl (upd (fun _ => (-1)) (455 : Int32).toNatClampNeg 0))), (p28, .inl (k 0, 1500, .inl (upd f33 (0 : Int32).toNatClampNeg (-1)))), (p26, .inl (k 0, 1500, .inl (upd f34 (0 : Int32).toNatClampNeg (-1)))), (p29, .inl (k 0, 1500, .inl (upd (upd (fun _ => 0) (0 : Int32).toNatClampNeg 0) (0 : Int32).toNatClampNeg 0))), (p30, .inl (k 0, 1500, .inl (upd (upd (upd (fun _ => 0) (0 : Int32).toNatClampNeg 0) (0 : Int32).toNatClampNeg 0) (0 : Int32).toNatClampNeg 0))), (p32, .inl (k 0, 1641, .inl (upd (fun _ => 0) (0 : Int32).toNatClampNeg 3))), (p43, .inr (4, [v45, v46, v47, v48, .int 0])), (p11, .inr (5, [.ref p6, .int 0, .int 0, .ref p24, .ref p25, .ref p26, .int 1, .ref p27, .ref p28, .ref p29, .ref p30, .int 0, .int 0, v31, .ref p32])), (p24, .inl (k 0, 1500, .inl (upd (fun _ => 0) (0 : Int32).toNatClampNeg 268435455))), (p25, .inl (k 0, 1500, .inl (upd (fun _ => 0) (0 : Int32).toNatClampNeg 0))), (p6, .inr (2, [.int 1, v35, v36, .int 0, .int 1, v37, v38, .int 0, v39, v40, v41, v42, .ref p43, v44]))]) [0, 1, 2, 3, 4, 5, 6, 7, 8, 9, 10, 11, 12, 13] rfl
  have hD9 := hD.sub (ws' := [(p1, .inl (k 2, 1, .inr (.inl (vp_updL f49 (0 : Int32).toNatClampNeg 0)))), (p0, .inr (6, [v2, v3, v4, v5, .ref p6, v7, .ref p8, v9, v10, .ref p11, v12])), (p8, .inr (0, [.int 268435455, v13, v14, v15, v16, v17, v18, v19, v20, v21, v22, v23])), (p27, .inl (k 0, 1024, .inl (upd (fun _ => (-1)) (455 : Int32).toNatClampNeg 0))), (p28, .inl (k 0, 1500, .inl (upd f33 (0 : Int32).toNatClampNeg (-1)))), (p26, .inl (k 0, 1500, .inl (upd f34 (0 : Int32).toNatClampNeg (-1)))), (p29, .inl (k 0, 1500, .inl (upd (upd (fun _ => 0) (0 : Int32).toNatClampNeg 0) (0 : Int32).toNatClampNeg 0))), (p30, .inl (k 0, 1500, .inl (upd (upd (upd (fun _ => 0) (0 : Int32).toNatClampNeg 0) (0 : Int32).toNatClampNeg 0) (0 : Int32).toNatClampNeg 0))), (p32, .inl (k 0, 1641, .inl (upd (fun _ => 0) (0 : Int32).toNatClampNeg 3))), (p43, .inr (4, [v45, v46, v47, v48, .int 0])), (p11, .inr (5, [.ref p6, .int 0, .int 0, .ref p24, .ref p25, .ref p26, .int 1, .ref p27, .ref p28, .ref p29, .ref p30, .int 0, .int 0, v31, .ref p32])), (p24, .inl (k 0, 1500, .inl (upd (fun _ => 0) (0 : Int32).toNatClampNeg 268435455))), (p25, .inl (k 0, 1500, .inl (upd (fun _ => 0) (0 : Int32).toNatClampNeg 0))), (p6, .inr (2, [.int 1, v35, v36, .int 0, .int 1, v37, v38, .int 0, v39, v40, v41, v42, .ref p43, v44]))]) [0, 1, 2, 3, 4, 5, 6, 7, 8, 9, 10, 11, 12, 13] (by decide) rfl
  exact W.iret (v := 0) hx hb hr (fun t ht hW => ⟨⟨0, (), rfl, rfl, by rw [ht]; exact hP9, hD9⟩, hS.F ht⟩) hS.2.2 dL_fewest_16

set_option maxHeartbeats 4000000 in
set_option maxRecDepth 100000 in
theorem cX10_pack_0 (l : Launch) (G : va_G) (k : Nat → ClassId) (p0 : Nat) (sz : Nat) : CMl l G k yX10_pack wsX10_pack ({ frames := 0, cells := 0, slots := 0, locals := 0 }) [.ref p0, .int 0] sz [(p0, .inl (k 0, 7, .inl (upd (upd (upd (upd (upd (upd (upd (fun _ => 0) (0 : Int32).toNatClampNeg 15) (1 : Int32).toNatClampNeg 15) (2 : Int32).toNatClampNeg 15) (3 : Int32).toNatClampNeg 15) (4 : Int32).toNatClampNeg 15) (5 : Int32).toNatClampNeg 15) (6 : Int32).toNatClampNeg 15)))] (fun r (u : Unit) => r = 268435455) (fun (u : Unit) => [(p0, .inl (k 0, 7, .inl (upd (upd (upd (upd (upd (upd (upd (fun _ => 0) (0 : Int32).toNatClampNeg 15) (1 : Int32).toNatClampNeg 15) (2 : Int32).toNatClampNeg 15) (3 : Int32).toNatClampNeg 15) (4 : Int32).toNatClampNeg 15) (5 : Int32).toNatClampNeg 15) (6 : Int32).toNatClampNeg 15)))]) := by
  refine Met.ofW (cc := cX10_pack) (maxL := 5) (ret := (some .long)) (by decide) rfl ?_
  intro p e s m args below meth c s₁ B hml hv
  obtain ⟨rfl, hsz, hP, hX, hD0, hZ0⟩ := hv
  have hx := B.exec
  have hb := B.bytes
  have hr := B.returns
  have hts := atoms_spec (ws := wsX10_pack) B.pre
  have hown : s.vm.findClass RX10 = some m.cls := findClass_of_methodNamed B.named
  subst hsz
  have hD := hD0.self (sz := s.heap.size)
  have hZ := ZX.up hP hZ0
  generalize hAe : va_A [(p0, .inl (k 0, 7, .inl (upd (upd (upd (upd (upd (upd (upd (fun _ => 0) (0 : Int32).toNatClampNeg 15) (1 : Int32).toNatClampNeg 15) (2 : Int32).toNatClampNeg 15) (3 : Int32).toNatClampNeg 15) (4 : Int32).toNatClampNeg 15) (5 : Int32).toNatClampNeg 15) (6 : Int32).toNatClampNeg 15)))] s.heap.size = A at hD hZ ⊢
  have hA : ∀ q : Nat, s.heap.size ≤ q → A q := fun q h => by rw [← hAe]; exact Or.inr h
  have hS : va_S A s.heap s.heap [] := va_S.rf
  have hP : va_P G vwCl [(p0, .inl (k 0, 7, .inl (upd (upd (upd (upd (upd (upd (upd (fun _ => 0) (0 : Int32).toNatClampNeg 15) (1 : Int32).toNatClampNeg 15) (2 : Int32).toNatClampNeg 15) (3 : Int32).toNatClampNeg 15) (4 : Int32).toNatClampNeg 15) (5 : Int32).toNatClampNeg 15) (6 : Int32).toNatClampNeg 15)))] s.heap := hP
  have hl := lv_entry ([.ref p0, .int 0]) (n := 5) (Nat.le_of_ble_eq_true rfl)
  rw [lg_entry_eq]
  generalize (lg_sl ([.ref p0, .int 0]) ++ List.replicate (5 - (lg_sl ([.ref p0, .int 0])).length) Slot.unset).toArray = ls at hl ⊢
  have hl : lv_has ls 5 [(0, .ref p0), (1, .int 0)] := hl
  have h0w := hts (.constantLong RX10 425 (16)) (by decide +kernel)
  refine lv_iload_n hx hb dX10_pack_0 rfl (lv_at hl 1 rfl) ?_
  refine lv_i2l (v := 0) hx hb dX10_pack_1 (by decide +kernel) ?_
  refine lv_lstore_n (lv' := [(2, .long 0), (0, .ref p0), (1, .int 0)]) hx hb dX10_pack_2 rfl hl (by decide) rfl (fun ls hl => ?_)
  refine lv_iconst (v := 0) hx hb dX10_pack_3 (by decide +kernel) ?_
  refine lv_istore (lv' := [(4, .int 0), (2, .long 0), (0, .ref p0), (1, .int 0)]) hx hb dX10_pack_4 hl (by decide) rfl (fun ls hl => ?_)
  refine lv_iload hx hb dX10_pack_6 (lv_at hl 0 rfl) ?_
  refine lv_bipush (v := 7) hx hb dX10_pack_8 (by decide +kernel) ?_
  refine lv_icmp_ge (tgt := 31) hx hb dX10_pack_10 (by decide) (fun q => absurd (q) (by decide +kernel)) (fun _ => ?_)
  refine lv_ldc2 (v := 16) hx hb hown h0w dX10_pack_13 ?_
  refine lv_lload_n hx hb dX10_pack_16 rfl (lv_at hl 1 rfl) ?_
  refine lv_lmul hx hb dX10_pack_17 ?_
  refine cz_tl (w := 0) (by decide +kernel) ?_
  refine lv_aload_n hx hb dX10_pack_18 rfl (lv_at hl 2 rfl) ?_
  refine lv_iload hx hb dX10_pack_19 (lv_at hl 0 rfl) ?_
  refine va_iald hx hb hX.1 hP 0 0 rfl rfl (by unfold vp_in; decide +kernel) dX10_pack_21 ?_
  refine cz_ti (w := 15) (by rfl) ?_
  refine lv_i2l (v := 15) hx hb dX10_pack_22 (by decide +kernel) ?_
  refine lv_ladd hx hb dX10_pack_23 ?_
  refine cz_tl (w := 15) (by decide +kernel) ?_
  refine lv_lstore_n (lv' := [(2, .long 15), (4, .int 0), (0, .ref p0), (1, .int 0)]) hx hb dX10_pack_24 rfl hl (by decide) rfl (fun ls hl => ?_)
  refine lv_iinc (v := 1) (lv' := [(4, .int 1), (2, .long 15), (0, .ref p0), (1, .int 0)]) hx hb dX10_pack_25 hl (k := 1) rfl (by decide +kernel) (by decide) rfl (fun ls hl => ?_)
  refine lv_goto (tgt := 6) hx hb dX10_pack_28 (by decide) ?_
  refine lv_iload hx hb dX10_pack_6 (lv_at hl 0 rfl) ?_
  refine lv_bipush (v := 7) hx hb dX10_pack_8 (by decide +kernel) ?_
  refine lv_icmp_ge (tgt := 31) hx hb dX10_pack_10 (by decide) (fun q => absurd (q) (by decide +kernel)) (fun _ => ?_)
  refine lv_ldc2 (v := 16) hx hb hown h0w dX10_pack_13 ?_
  refine lv_lload_n hx hb dX10_pack_16 rfl (lv_at hl 1 rfl) ?_
  refine lv_lmul hx hb dX10_pack_17 ?_
  refine cz_tl (w := 240) (by decide +kernel) ?_
  refine lv_aload_n hx hb dX10_pack_18 rfl (lv_at hl 2 rfl) ?_
  refine lv_iload hx hb dX10_pack_19 (lv_at hl 0 rfl) ?_
  refine va_iald hx hb hX.1 hP 0 0 rfl rfl (by unfold vp_in; decide +kernel) dX10_pack_21 ?_
  refine cz_ti (w := 15) (by rfl) ?_
  refine lv_i2l (v := 15) hx hb dX10_pack_22 (by decide +kernel) ?_
  refine lv_ladd hx hb dX10_pack_23 ?_
  refine cz_tl (w := 255) (by decide +kernel) ?_
  refine lv_lstore_n (lv' := [(2, .long 255), (4, .int 1), (0, .ref p0), (1, .int 0)]) hx hb dX10_pack_24 rfl hl (by decide) rfl (fun ls hl => ?_)
  refine lv_iinc (v := 2) (lv' := [(4, .int 2), (2, .long 255), (0, .ref p0), (1, .int 0)]) hx hb dX10_pack_25 hl (k := 1) rfl (by decide +kernel) (by decide) rfl (fun ls hl => ?_)
  refine lv_goto (tgt := 6) hx hb dX10_pack_28 (by decide) ?_
  refine lv_iload hx hb dX10_pack_6 (lv_at hl 0 rfl) ?_
  refine lv_bipush (v := 7) hx hb dX10_pack_8 (by decide +kernel) ?_
  refine lv_icmp_ge (tgt := 31) hx hb dX10_pack_10 (by decide) (fun q => absurd (q) (by decide +kernel)) (fun _ => ?_)
  refine lv_ldc2 (v := 16) hx hb hown h0w dX10_pack_13 ?_
  refine lv_lload_n hx hb dX10_pack_16 rfl (lv_at hl 1 rfl) ?_
  refine lv_lmul hx hb dX10_pack_17 ?_
  refine cz_tl (w := 4080) (by decide +kernel) ?_
  refine lv_aload_n hx hb dX10_pack_18 rfl (lv_at hl 2 rfl) ?_
  refine lv_iload hx hb dX10_pack_19 (lv_at hl 0 rfl) ?_
  refine va_iald hx hb hX.1 hP 0 0 rfl rfl (by unfold vp_in; decide +kernel) dX10_pack_21 ?_
  refine cz_ti (w := 15) (by rfl) ?_
  refine lv_i2l (v := 15) hx hb dX10_pack_22 (by decide +kernel) ?_
  refine lv_ladd hx hb dX10_pack_23 ?_
  refine cz_tl (w := 4095) (by decide +kernel) ?_
  refine lv_lstore_n (lv' := [(2, .long 4095), (4, .int 2), (0, .ref p0), (1, .int 0)]) hx hb dX10_pack_24 rfl hl (by decide) rfl (fun ls hl => ?_)
  refine lv_iinc (v := 3) (lv' := [(4, .int 3), (2, .long 4095), (0, .ref p0), (1, .int 0)]) hx hb dX10_pack_25 hl (k := 1) rfl (by decide +kernel) (by decide) rfl (fun ls hl => ?_)
  refine lv_goto (tgt := 6) hx hb dX10_pack_28 (by decide) ?_
  refine lv_iload hx hb dX10_pack_6 (lv_at hl 0 rfl) ?_
  refine lv_bipush (v := 7) hx hb dX10_pack_8 (by decide +kernel) ?_
  refine lv_icmp_ge (tgt := 31) hx hb dX10_pack_10 (by decide) (fun q => absurd (q) (by decide +kernel)) (fun _ => ?_)
  refine lv_ldc2 (v := 16) hx hb hown h0w dX10_pack_13 ?_
  refine lv_lload_n hx hb dX10_pack_16 rfl (lv_at hl 1 rfl) ?_
  refine lv_lmul hx hb dX10_pack_17 ?_
  refine cz_tl (w := 65520) (by decide +kernel) ?_
  refine lv_aload_n hx hb dX10_pack_18 rfl (lv_at hl 2 rfl) ?_
  refine lv_iload hx hb dX10_pack_19 (lv_at hl 0 rfl) ?_
  refine va_iald hx hb hX.1 hP 0 0 rfl rfl (by unfold vp_in; decide +kernel) dX10_pack_21 ?_
  refine cz_ti (w := 15) (by rfl) ?_
  refine lv_i2l (v := 15) hx hb dX10_pack_22 (by decide +kernel) ?_
  refine lv_ladd hx hb dX10_pack_23 ?_
  refine cz_tl (w := 65535) (by decide +kernel) ?_
  refine lv_lstore_n (lv' := [(2, .long 65535), (4, .int 3), (0, .ref p0), (1, .int 0)]) hx hb dX10_pack_24 rfl hl (by decide) rfl (fun ls hl => ?_)
  refine lv_iinc (v := 4) (lv' := [(4, .int 4), (2, .long 65535), (0, .ref p0), (1, .int 0)]) hx hb dX10_pack_25 hl (k := 1) rfl (by decide +kernel) (by decide) rfl (fun ls hl => ?_)
  refine lv_goto (tgt := 6) hx hb dX10_pack_28 (by decide) ?_
  refine lv_iload hx hb dX10_pack_6 (lv_at hl 0 rfl) ?_
  refine lv_bipush (v := 7) hx hb dX10_pack_8 (by decide +kernel) ?_
  refine lv_icmp_ge (tgt := 31) hx hb dX10_pack_10 (by decide) (fun q => absurd (q) (by decide +kernel)) (fun _ => ?_)
  refine lv_ldc2 (v := 16) hx hb hown h0w dX10_pack_13 ?_
  refine lv_lload_n hx hb dX10_pack_16 rfl (lv_at hl 1 rfl) ?_
  refine lv_lmul hx hb dX10_pack_17 ?_
  refine cz_tl (w := 1048560) (by decide +kernel) ?_
  refine lv_aload_n hx hb dX10_pack_18 rfl (lv_at hl 2 rfl) ?_
  refine lv_iload hx hb dX10_pack_19 (lv_at hl 0 rfl) ?_
  refine va_iald hx hb hX.1 hP 0 0 rfl rfl (by unfold vp_in; decide +kernel) dX10_pack_21 ?_
  refine cz_ti (w := 15) (by rfl) ?_
  refine lv_i2l (v := 15) hx hb dX10_pack_22 (by decide +kernel) ?_
  refine lv_ladd hx hb dX10_pack_23 ?_
  refine cz_tl (w := 1048575) (by decide +kernel) ?_
  refine lv_lstore_n (lv' := [(2, .long 1048575), (4, .int 4), (0, .ref p0), (1, .int 0)]) hx hb dX10_pack_24 rfl hl (by decide) rfl (fun ls hl => ?_)
  refine lv_iinc (v := 5) (lv' := [(4, .int 5), (2, .long 1048575), (0, .ref p0), (1, .int 0)]) hx hb dX10_pack_25 hl (k := 1) rfl (by decide +kernel) (by decide) rfl (fun ls hl => ?_)
  refine lv_goto (tgt := 6) hx hb dX10_pack_28 (by decide) ?_
  refine lv_iload hx hb dX10_pack_6 (lv_at hl 0 rfl) ?_
  refine lv_bipush (v := 7) hx hb dX10_pack_8 (by decide +kernel) ?_
  refine lv_icmp_ge (tgt := 31) hx hb dX10_pack_10 (by decide) (fun q => absurd (q) (by decide +kernel)) (fun _ => ?_)
  refine lv_ldc2 (v := 16) hx hb hown h0w dX10_pack_13 ?_
  refine lv_lload_n hx hb dX10_pack_16 rfl (lv_at hl 1 rfl) ?_
  refine lv_lmul hx hb dX10_pack_17 ?_
  refine cz_tl (w := 16777200) (by decide +kernel) ?_
  refine lv_aload_n hx hb dX10_pack_18 rfl (lv_at hl 2 rfl) ?_
  refine lv_iload hx hb dX10_pack_19 (lv_at hl 0 rfl) ?_
  refine va_iald hx hb hX.1 hP 0 0 rfl rfl (by unfold vp_in; decide +kernel) dX10_pack_21 ?_
  refine cz_ti (w := 15) (by rfl) ?_
  refine lv_i2l (v := 15) hx hb dX10_pack_22 (by decide +kernel) ?_
  refine lv_ladd hx hb dX10_pack_23 ?_
  refine cz_tl (w := 16777215) (by decide +kernel) ?_
  refine lv_lstore_n (lv' := [(2, .long 16777215), (4, .int 5), (0, .ref p0), (1, .int 0)]) hx hb dX10_pack_24 rfl hl (by decide) rfl (fun ls hl => ?_)
  refine lv_iinc (v := 6) (lv' := [(4, .int 6), (2, .long 16777215), (0, .ref p0), (1, .int 0)]) hx hb dX10_pack_25 hl (k := 1) rfl (by decide +kernel) (by decide) rfl (fun ls hl => ?_)
  refine lv_goto (tgt := 6) hx hb dX10_pack_28 (by decide) ?_
  refine lv_iload hx hb dX10_pack_6 (lv_at hl 0 rfl) ?_
  refine lv_bipush (v := 7) hx hb dX10_pack_8 (by decide +kernel) ?_
  refine lv_icmp_ge (tgt := 31) hx hb dX10_pack_10 (by decide) (fun q => absurd (q) (by decide +kernel)) (fun _ => ?_)
  refine lv_ldc2 (v := 16) hx hb hown h0w dX10_pack_13 ?_
  refine lv_lload_n hx hb dX10_pack_16 rfl (lv_at hl 1 rfl) ?_
  refine lv_lmul hx hb dX10_pack_17 ?_
  refine cz_tl (w := 268435440) (by decide +kernel) ?_
  refine lv_aload_n hx hb dX10_pack_18 rfl (lv_at hl 2 rfl) ?_
  refine lv_iload hx hb dX10_pack_19 (lv_at hl 0 rfl) ?_
  refine va_iald hx hb hX.1 hP 0 0 rfl rfl (by unfold vp_in; decide +kernel) dX10_pack_21 ?_
  refine cz_ti (w := 15) (by rfl) ?_
  refine lv_i2l (v := 15) hx hb dX10_pack_22 (by decide +kernel) ?_
  refine lv_ladd hx hb dX10_pack_23 ?_
  refine cz_tl (w := 268435455) (by decide +kernel) ?_
  refine lv_lstore_n (lv' := [(2, .long 268435455), (4, .int 6), (0, .ref p0), (1, .int 0)]) hx hb dX10_pack_24 rfl hl (by decide) rfl (fun ls hl => ?_)
  refine lv_iinc (v := 7) (lv' := [(4, .int 7), (2, .long 268435455), (0, .ref p0), (1, .int 0)]) hx hb dX10_pack_25 hl (k := 1) rfl (by decide +kernel) (by decide) rfl (fun ls hl => ?_)
  refine lv_goto (tgt := 6) hx hb dX10_pack_28 (by decide) ?_
  refine lv_iload hx hb dX10_pack_6 (lv_at hl 0 rfl) ?_
  refine lv_bipush (v := 7) hx hb dX10_pack_8 (by decide +kernel) ?_
  refine lv_icmp_ge (tgt := 31) hx hb dX10_pack_10 (by decide) (fun _ => ?_) (fun q => absurd (by decide +kernel) (q))
  refine lv_lload_n hx hb dX10_pack_31 rfl (lv_at hl 1 rfl) ?_
  have hP9 := hP.sub (ws' := [(p0, .inl (k 0, 7, .inl (upd (upd (upd (upd (upd (upd (upd (fun _ => 0) (0 : Int32).toNatClampNeg 15) (1 : Int32).toNatClampNeg 15) (2 : Int32).toNatClampNeg 15) (3 : Int32).toNatClampNeg 15) (4 : Int32).toNatClampNeg 15) (5 : Int32).toNatClampNeg 15) (6 : Int32).toNatClampNeg 15)))]) [0] rfl
  have hD9 := hD.sub (ws' := [(p0, .inl (k 0, 7, .inl (upd (upd (upd (upd (upd (upd (upd (fun _ => 0) (0 : Int32).toNatClampNeg 15) (1 : Int32).toNatClampNeg 15) (2 : Int32).toNatClampNeg 15) (3 : Int32).toNatClampNeg 15) (4 : Int32).toNatClampNeg 15) (5 : Int32).toNatClampNeg 15) (6 : Int32).toNatClampNeg 15)))]) [0] (by decide) rfl
  exact W.lret (v := 268435455) hx hb hr (fun t ht hW => ⟨⟨268435455, (), rfl, rfl, by rw [ht]; exact hP9, hD9⟩, hS.F ht⟩) hS.2.2 dX10_pack_32

