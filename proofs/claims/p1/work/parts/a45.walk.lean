set_option maxHeartbeats 4000000 in
set_option maxRecDepth 100000 in
theorem cX10_foldOf_0 (l : Launch) (G : va_G) (k : Nat → ClassId) (sz : Nat) : CMi l G k yX10_foldOf wsX10_foldOf ({ frames := 0, cells := 0, slots := 0, locals := 0 }) [.long 268435455] sz [] (fun r (u : Unit) => r = 7991) (fun (u : Unit) => []) := by
  refine Met.ofW (cc := cX10_foldOf) (maxL := 4) (ret := (some .int)) (by decide) rfl ?_
  intro p e s m args below meth c s₁ B hml hv
  obtain ⟨rfl, hsz, hP, hX, hD0, hZ0⟩ := hv
  have hx := B.exec
  have hb := B.bytes
  have hr := B.returns
  have hts := atoms_spec (ws := wsX10_foldOf) B.pre
  have hown : s.vm.findClass RX10 = some m.cls := findClass_of_methodNamed B.named
  subst hsz
  have hD := hD0.self (sz := s.heap.size)
  have hZ := ZX.up hP hZ0
  generalize hAe : va_A [] s.heap.size = A at hD hZ ⊢
  have hA : ∀ q : Nat, s.heap.size ≤ q → A q := fun q h => by rw [← hAe]; exact Or.inr h
  have hS : va_S A s.heap s.heap [] := va_S.rf
  have hP : va_P G vwCl [] s.heap := hP
  have hl := lv_entry ([.long 268435455]) (n := 4) (Nat.le_of_ble_eq_true rfl)
  rw [lg_entry_eq]
  generalize (lg_sl ([.long 268435455]) ++ List.replicate (4 - (lg_sl ([.long 268435455])).length) Slot.unset).toArray = ls at hl ⊢
  have hl : lv_has ls 4 [(0, .long 268435455)] := hl
  have h0w := hts (.constantLong RX10 430 (-7046029254386353131)) (by decide +kernel)
  refine lv_lload_n hx hb dX10_foldOf_0 rfl (lv_at hl 0 rfl) ?_
  refine lv_ldc2 (v := (-7046029254386353131)) hx hb hown h0w dX10_foldOf_1 ?_
  refine lv_lmul hx hb dX10_foldOf_4 ?_
  refine cz_tl (w := (-451153776565976085)) (by decide +kernel) ?_
  refine lv_lstore_n (lv' := [(2, .long (-451153776565976085)), (0, .long 268435455)]) hx hb dX10_foldOf_5 rfl hl (by decide) rfl (fun ls hl => ?_)
  refine lv_lload_n hx hb dX10_foldOf_6 rfl (lv_at hl 0 rfl) ?_
  refine lv_bipush (v := 51) hx hb dX10_foldOf_7 (by decide +kernel) ?_
  refine lv_lushr (v := 7991) hx hb dX10_foldOf_9 (by decide +kernel) ?_
  refine lv_l2i (v := 7991) hx hb dX10_foldOf_10 (by decide +kernel) ?_
  have hP9 := hP.sub (ws' := []) [] rfl
  have hD9 := hD.sub (ws' := []) [] (by decide) rfl
  exact W.iret (v := 7991) hx hb hr (fun t ht hW => ⟨⟨7991, (), rfl, rfl, by rw [ht]; exact hP9, hD9⟩, hS.F ht⟩) hS.2.2 dX10_foldOf_11

set_option maxHeartbeats 4000000 in
set_option maxRecDepth 100000 in
theorem cX10_come_0 (l : Launch) (G : va_G) (k : Nat → ClassId) (p0 : Nat) (v1 : Value) (v2 : Value) (v3 : Value) (v4 : Value) (v5 : Value) (v6 : Value) (v7 : Value) (v8 : Value) (v9 : Value) (v10 : Value) (v11 : Value) (v12 : Value) (v13 : Value) (v14 : Value) (v15 : Value) (v16 : Value) (v17 : Value) (v18 : Value) (v19 : Value) (v20 : Value) (v21 : Value) (v22 : Value) (v23 : Value) (v24 : Value) (v25 : Value) (v26 : Value) (v27 : Value) (v28 : Value) (v29 : Value) (v30 : Value) (v31 : Value) (v32 : Value) (v33 : Value) (v34 : Value) (v35 : Value) (v36 : Value) (v37 : Value) (v38 : Value) (v39 : Value) (v40 : Value) (v41 : Value) (v42 : Value) (v43 : Value) (v44 : Value) (v45 : Value) (p46 : Nat) (p47 : Nat) (p48 : Nat) (p49 : Nat) (p50 : Nat) (v51 : Value) (v52 : Value) (v53 : Value) (v54 : Value) (v55 : Value) (v56 : Value) (v57 : Value) (v58 : Value) (v59 : Value) (v60 : Value) (v61 : Value) (v62 : Value) (v63 : Value) (v64 : Value) (v65 : Value) (v66 : Value) (v67 : Value) (v68 : Value) (v69 : Value) (v70 : Value) (f71 : Nat → Int64) (f72 : Nat → Int32) (f73 : Nat → Int32) (f74 : Nat → Int32) (sz : Nat) : CMv l G k yX10_come wsX10_come ({ frames := 1, cells := 0, slots := 0, locals := 23 }) [.ref p0, .long 268435455, .int 0] sz [(p0, .inr (7, (v1 :: v2 :: v3 :: v4 :: v5 :: v6 :: v7 :: v8 :: v9 :: v10 :: v11 :: v12 :: v13 :: v14 :: v15 :: v16 :: v17 :: v18 :: v19 :: v20 :: v21 :: v22 :: v23 :: v24 :: v25 :: v26 :: v27 :: v28 :: v29 :: v30 :: v31 :: v32 :: v33 :: v34 :: v35 :: v36 :: v37 :: v38 :: v39 :: v40 :: v41 :: v42 :: v43 :: v44 :: v45 :: .ref p46 :: .ref p47 :: .ref p48 :: .ref p49 :: .ref p50 :: .int 0 :: v51 :: v52 :: v53 :: v54 :: v55 :: v56 :: v57 :: v58 :: v59 :: v60 :: v61 :: v62 :: v63 :: v64 :: v65 :: v66 :: v67 :: v68 :: v69 :: v70 :: []))), (p49, .inl (k 0, 8192, .inl (fun _ => (-1)))), (p46, .inl (k 2, 1501, .inr (.inl f71))), (p47, .inl (k 0, 1501, .inl f72)), (p50, .inl (k 3, 1501, .inl f73)), (p48, .inl (k 0, 1501, .inl f74))] (fun (u : Unit) => True) (fun (u : Unit) => [(p0, .inr (7, (v1 :: v2 :: v3 :: v4 :: v5 :: v6 :: v7 :: v8 :: v9 :: v10 :: v11 :: v12 :: v13 :: v14 :: v15 :: v16 :: v17 :: v18 :: v19 :: v20 :: v21 :: v22 :: v23 :: v24 :: v25 :: v26 :: v27 :: v28 :: v29 :: v30 :: v31 :: v32 :: v33 :: v34 :: v35 :: v36 :: v37 :: v38 :: v39 :: v40 :: v41 :: v42 :: v43 :: v44 :: v45 :: .ref p46 :: .ref p47 :: .ref p48 :: .ref p49 :: .ref p50 :: .int 1 :: v51 :: v52 :: v53 :: v54 :: v55 :: v56 :: v57 :: v58 :: v59 :: v60 :: v61 :: v62 :: v63 :: v64 :: v65 :: v66 :: v67 :: v68 :: v69 :: v70 :: []))), (p49, .inl (k 0, 8192, .inl (upd (fun _ => (-1)) (7991 : Int32).toNatClampNeg 0))), (p46, .inl (k 2, 1501, .inr (.inl (vp_updL f71 (0 : Int32).toNatClampNeg 268435455)))), (p47, .inl (k 0, 1501, .inl (upd f72 (0 : Int32).toNatClampNeg 0))), (p50, .inl (k 3, 1501, .inl (upd f73 (0 : Int32).toNatClampNeg (vp_nar .boolean 0)))), (p48, .inl (k 0, 1501, .inl (upd f74 (0 : Int32).toNatClampNeg (-1))))]) := by
  refine Met.ofW (cc := cX10_come) (maxL := 6) (ret := none) (by decide) rfl ?_
  intro p e s m args below meth c s₁ B hml hv
  obtain ⟨rfl, hsz, hP, hX, hD0, hZ0⟩ := hv
  have hx := B.exec
  have hb := B.bytes
  have hr := B.returns
  have hts := atoms_spec (ws := wsX10_come) B.pre
  have hown : s.vm.findClass RX10 = some m.cls := findClass_of_methodNamed B.named
  subst hsz
  have hD := hD0.self (sz := s.heap.size)
  have hZ := ZX.up hP hZ0
  generalize hAe : va_A [(p0, .inr (7, (v1 :: v2 :: v3 :: v4 :: v5 :: v6 :: v7 :: v8 :: v9 :: v10 :: v11 :: v12 :: v13 :: v14 :: v15 :: v16 :: v17 :: v18 :: v19 :: v20 :: v21 :: v22 :: v23 :: v24 :: v25 :: v26 :: v27 :: v28 :: v29 :: v30 :: v31 :: v32 :: v33 :: v34 :: v35 :: v36 :: v37 :: v38 :: v39 :: v40 :: v41 :: v42 :: v43 :: v44 :: v45 :: .ref p46 :: .ref p47 :: .ref p48 :: .ref p49 :: .ref p50 :: .int 0 :: v51 :: v52 :: v53 :: v54 :: v55 :: v56 :: v57 :: v58 :: v59 :: v60 :: v61 :: v62 :: v63 :: v64 :: v65 :: v66 :: v67 :: v68 :: v69 :: v70 :: []))), (p49, .inl (k 0, 8192, .inl (fun _ => (-1)))), (p46, .inl (k 2, 1501, .inr (.inl f71))), (p47, .inl (k 0, 1501, .inl f72)), (p50, .inl (k 3, 1501, .inl f73)), (p48, .inl (k 0, 1501, .inl f74))] s.heap.size = A at hD hZ ⊢
  have hA : ∀ q : Nat, s.heap.size ≤ q → A q := fun q h => by rw [← hAe]; exact Or.inr h
  have hS : va_S A s.heap s.heap [] := va_S.rf
  have hP : va_P G vwCl [(p0, .inr (7, (v1 :: v2 :: v3 :: v4 :: v5 :: v6 :: v7 :: v8 :: v9 :: v10 :: v11 :: v12 :: v13 :: v14 :: v15 :: v16 :: v17 :: v18 :: v19 :: v20 :: v21 :: v22 :: v23 :: v24 :: v25 :: v26 :: v27 :: v28 :: v29 :: v30 :: v31 :: v32 :: v33 :: v34 :: v35 :: v36 :: v37 :: v38 :: v39 :: v40 :: v41 :: v42 :: v43 :: v44 :: v45 :: .ref p46 :: .ref p47 :: .ref p48 :: .ref p49 :: .ref p50 :: .int 0 :: v51 :: v52 :: v53 :: v54 :: v55 :: v56 :: v57 :: v58 :: v59 :: v60 :: v61 :: v62 :: v63 :: v64 :: v65 :: v66 :: v67 :: v68 :: v69 :: v70 :: []))), (p49, .inl (k 0, 8192, .inl (fun _ => (-1)))), (p46, .inl (k 2, 1501, .inr (.inl f71))), (p47, .inl (k 0, 1501, .inl f72)), (p50, .inl (k 3, 1501, .inl f73)), (p48, .inl (k 0, 1501, .inl f74))] s.heap := hP
  have hl := lv_entry ([.ref p0, .long 268435455, .int 0]) (n := 6) (Nat.le_of_ble_eq_true rfl)
  rw [lg_entry_eq]
  generalize (lg_sl ([.ref p0, .long 268435455, .int 0]) ++ List.replicate (6 - (lg_sl ([.ref p0, .long 268435455, .int 0])).length) Slot.unset).toArray = ls at hl ⊢
  have hl : lv_has ls 6 [(0, .ref p0), (1, .long 268435455), (3, .int 0)] := hl
  have h0w := hts (.fieldLink RX10 127 "RopeTownModel" "heads" "[I") (by decide +kernel)
  have h1w : ∀ w ∈ wsX100, w ∈ wsX10_come := by decide +kernel
  have h2w := hts (.fieldLink RX10 436 "RopeTownModel" "states" "I") (by decide +kernel)
  have h3w := hts (.fieldLink RX10 117 "RopeTownModel" "state" "[J") (by decide +kernel)
  have h4w := hts (.fieldLink RX10 121 "RopeTownModel" "far" "[I") (by decide +kernel)
  have h5w := hts (.fieldLink RX10 130 "RopeTownModel" "isDone" "[Z") (by decide +kernel)
  have h6w := hts (.fieldLink RX10 124 "RopeTownModel" "next" "[I") (by decide +kernel)
  refine lv_lload_n hx hb dX10_come_0 rfl (lv_at hl 1 rfl) ?_
  refine cz_i (wr := [(p0, .inr (7, (v1 :: v2 :: v3 :: v4 :: v5 :: v6 :: v7 :: v8 :: v9 :: v10 :: v11 :: v12 :: v13 :: v14 :: v15 :: v16 :: v17 :: v18 :: v19 :: v20 :: v21 :: v22 :: v23 :: v24 :: v25 :: v26 :: v27 :: v28 :: v29 :: v30 :: v31 :: v32 :: v33 :: v34 :: v35 :: v36 :: v37 :: v38 :: v39 :: v40 :: v41 :: v42 :: v43 :: v44 :: v45 :: .ref p46 :: .ref p47 :: .ref p48 :: .ref p49 :: .ref p50 :: .int 0 :: v51 :: v52 :: v53 :: v54 :: v55 :: v56 :: v57 :: v58 :: v59 :: v60 :: v61 :: v62 :: v63 :: v64 :: v65 :: v66 :: v67 :: v68 :: v69 :: v70 :: []))), (p49, .inl (k 0, 8192, .inl (fun _ => (-1)))), (p46, .inl (k 2, 1501, .inr (.inl f71))), (p47, .inl (k 0, 1501, .inl f72)), (p50, .inl (k 3, 1501, .inl f73)), (p48, .inl (k 0, 1501, .inl f74))]) (va_runS (As := [.long 268435455]) (rest := []) ⟨hx, hb, hml, hown, hts⟩ (cX10_foldOf_0 l G k s.heap.size) (cwS 1 hts gX10_come_X10_foldOf rfl rfl rfl (by decide +kernel) ⟨Nat.le_of_ble_eq_true rfl, Nat.le_of_ble_eq_true rfl⟩) (cz_preS hZ hS hX hP hD [] rfl rfl) rfl rfl hl.1 rfl (lv_room (Nat.le_of_ble_eq_true rfl)) dX10_come_1 ⟨Nat.le_of_ble_eq_true rfl, Nat.le_of_ble_eq_true rfl⟩) hP hD hS hA [] [0, 1, 2, 3, 4, 5] rfl rfl (by decide) (by decide) (fun r u H locs hp hP hD hS => ?_)
  have hp : r = 7991 := hp
  subst hp
  refine lv_istore (lv' := [(4, .int 7991), (0, .ref p0), (1, .long 268435455), (3, .int 0)]) hx hb dX10_come_4 hl (by decide) rfl (fun ls hl => ?_)
  refine lv_aload_n hx hb dX10_come_6 rfl (lv_at hl 1 rfl) ?_
  refine va_get (D := G) (ci := 7) (v := .ref p49) (C := RX10) (T := TX10) (N := 71) (ref := RX10) hx hb hts h1w hown hX.1 hP 0 rfl rfl 48 (by decide) h0w (fun _ h9 => h9) rfl dX10_come_7 ?_
  refine lv_iload hx hb dX10_come_10 (lv_at hl 0 rfl) ?_
  refine va_iald hx hb hX.1 hP 1 0 rfl rfl (by unfold vp_in; decide +kernel) dX10_come_12 ?_
  refine cz_ti (w := (-1)) (by rfl) ?_
  refine lv_istore (lv' := [(5, .int (-1)), (4, .int 7991), (0, .ref p0), (1, .long 268435455), (3, .int 0)]) hx hb dX10_come_13 hl (by decide) rfl (fun ls hl => ?_)
  refine lv_iload hx hb dX10_come_15 (lv_at hl 0 rfl) ?_
  refine lv_iconst (v := (-1)) hx hb dX10_come_17 (by decide +kernel) ?_
  refine lv_icmp_eq (tgt := 67) hx hb dX10_come_18 (by decide) (fun _ => ?_) (fun q => absurd (by decide +kernel) (q))
  refine lv_aload_n hx hb dX10_come_67 rfl (lv_at hl 2 rfl) ?_
  refine va_get (D := G) (ci := 7) (v := .int 0) (C := RX10) (T := TX10) (N := 71) (ref := RX10) hx hb hts h1w hown hX.1 hP 0 rfl rfl 50 (by decide) h2w (fun _ h9 => h9) rfl dX10_come_68 ?_
  refine lv_sipush (v := 1500) hx hb dX10_come_71 (by decide +kernel) ?_
  refine lv_icmp_ne (tgt := 83) hx hb dX10_come_74 (by decide) (fun _ => ?_) (fun q => absurd (q) (by decide +kernel))
  refine lv_aload_n hx hb dX10_come_83 rfl (lv_at hl 2 rfl) ?_
  refine va_get (D := G) (ci := 7) (v := .ref p46) (C := RX10) (T := TX10) (N := 71) (ref := RX10) hx hb hts h1w hown hX.1 hP 0 rfl rfl 45 (by decide) h3w (fun _ h9 => h9) rfl dX10_come_84 ?_
  refine lv_aload_n hx hb dX10_come_87 rfl (lv_at hl 2 rfl) ?_
  refine va_get (D := G) (ci := 7) (v := .int 0) (C := RX10) (T := TX10) (N := 71) (ref := RX10) hx hb hts h1w hown hX.1 hP 0 rfl rfl 50 (by decide) h2w (fun _ h9 => h9) rfl dX10_come_88 ?_
  refine lv_lload_n hx hb dX10_come_91 rfl (lv_at hl 3 rfl) ?_
  refine va_last hx hb hX.1 hP hD hS 2 2 rfl rfl (by unfold vp_in; decide +kernel) dX10_come_92 (fun H locs hP hD hS => ?_)
  refine lv_aload_n hx hb dX10_come_93 rfl (lv_at hl 2 rfl) ?_
  refine va_get (D := G) (ci := 7) (v := .ref p47) (C := RX10) (T := TX10) (N := 71) (ref := RX10) hx hb hts h1w hown hX.1 hP 0 rfl rfl 46 (by decide) h4w (fun _ h9 => h9) rfl dX10_come_94 ?_
  refine lv_aload_n hx hb dX10_come_97 rfl (lv_at hl 2 rfl) ?_
  refine va_get (D := G) (ci := 7) (v := .int 0) (C := RX10) (T := TX10) (N := 71) (ref := RX10) hx hb hts h1w hown hX.1 hP 0 rfl rfl 50 (by decide) h2w (fun _ h9 => h9) rfl dX10_come_98 ?_
  refine lv_iload_n hx hb dX10_come_101 rfl (lv_at hl 4 rfl) ?_
  refine va_iast hx hb hX.1 hP hD hS 3 0 rfl rfl (by unfold vp_in; decide +kernel) dX10_come_102 (fun H locs hP hD hS => ?_)
  refine lv_aload_n hx hb dX10_come_103 rfl (lv_at hl 2 rfl) ?_
  refine va_get (D := G) (ci := 7) (v := .ref p50) (C := RX10) (T := TX10) (N := 71) (ref := RX10) hx hb hts h1w hown hX.1 hP 0 rfl rfl 49 (by decide) h5w (fun _ h9 => h9) rfl dX10_come_104 ?_
  refine lv_aload_n hx hb dX10_come_107 rfl (lv_at hl 2 rfl) ?_
  refine va_get (D := G) (ci := 7) (v := .int 0) (C := RX10) (T := TX10) (N := 71) (ref := RX10) hx hb hts h1w hown hX.1 hP 0 rfl rfl 50 (by decide) h2w (fun _ h9 => h9) rfl dX10_come_108 ?_
  refine lv_iconst (v := 0) hx hb dX10_come_111 (by decide +kernel) ?_
  refine va_zast hx hb hX.1 hP hD hS 4 3 rfl rfl (by unfold vp_in; decide +kernel) dX10_come_112 (fun H locs hP hD hS => ?_)
  refine lv_aload_n hx hb dX10_come_113 rfl (lv_at hl 2 rfl) ?_
  refine va_get (D := G) (ci := 7) (v := .ref p48) (C := RX10) (T := TX10) (N := 71) (ref := RX10) hx hb hts h1w hown hX.1 hP 0 rfl rfl 47 (by decide) h6w (fun _ h9 => h9) rfl dX10_come_114 ?_
  refine lv_aload_n hx hb dX10_come_117 rfl (lv_at hl 2 rfl) ?_
  refine va_get (D := G) (ci := 7) (v := .int 0) (C := RX10) (T := TX10) (N := 71) (ref := RX10) hx hb hts h1w hown hX.1 hP 0 rfl rfl 50 (by decide) h2w (fun _ h9 => h9) rfl dX10_come_118 ?_
  refine lv_aload_n hx hb dX10_come_121 rfl (lv_at hl 2 rfl) ?_
  refine va_get (D := G) (ci := 7) (v := .ref p49) (C := RX10) (T := TX10) (N := 71) (ref := RX10) hx hb hts h1w hown hX.1 hP 0 rfl rfl 48 (by decide) h0w (fun _ h9 => h9) rfl dX10_come_122 ?_
  refine lv_iload hx hb dX10_come_125 (lv_at hl 1 rfl) ?_
  refine va_iald hx hb hX.1 hP 1 0 rfl rfl (by unfold vp_in; decide +kernel) dX10_come_127 ?_
  refine cz_ti (w := (-1)) (by rfl) ?_
  refine va_iast hx hb hX.1 hP hD hS 5 0 rfl rfl (by unfold vp_in; decide +kernel) dX10_come_128 (fun H locs hP hD hS => ?_)
  refine lv_aload_n hx hb dX10_come_129 rfl (lv_at hl 2 rfl) ?_
  refine va_get (D := G) (ci := 7) (v := .ref p49) (C := RX10) (T := TX10) (N := 71) (ref := RX10) hx hb hts h1w hown hX.1 hP 0 rfl rfl 48 (by decide) h0w (fun _ h9 => h9) rfl dX10_come_130 ?_
  refine lv_iload hx hb dX10_come_133 (lv_at hl 1 rfl) ?_
  refine lv_aload_n hx hb dX10_come_135 rfl (lv_at hl 2 rfl) ?_
  refine va_get (D := G) (ci := 7) (v := .int 0) (C := RX10) (T := TX10) (N := 71) (ref := RX10) hx hb hts h1w hown hX.1 hP 0 rfl rfl 50 (by decide) h2w (fun _ h9 => h9) rfl dX10_come_136 ?_
  refine va_iast hx hb hX.1 hP hD hS 1 0 rfl rfl (by unfold vp_in; decide +kernel) dX10_come_139 (fun H locs hP hD hS => ?_)
  obtain ⟨hP, hD⟩ : va_P G vwCl [(p0, .inr (7, (v1 :: v2 :: v3 :: v4 :: v5 :: v6 :: v7 :: v8 :: v9 :: v10 :: v11 :: v12 :: v13 :: v14 :: v15 :: v16 :: v17 :: v18 :: v19 :: v20 :: v21 :: v22 :: v23 :: v24 :: v25 :: v26 :: v27 :: v28 :: v29 :: v30 :: v31 :: v32 :: v33 :: v34 :: v35 :: v36 :: v37 :: v38 :: v39 :: v40 :: v41 :: v42 :: v43 :: v44 :: v45 :: .ref p46 :: .ref p47 :: .ref p48 :: .ref p49 :: .ref p50 :: .int 0 :: v51 :: v52 :: v53 :: v54 :: v55 :: v56 :: v57 :: v58 :: v59 :: v60 :: v61 :: v62 :: v63 :: v64 :: v65 :: v66 :: v67 :: v68 :: v69 :: v70 :: []))), (p49, .inl (k 0, 8192, .inl (upd (fun _ => (-1)) (7991 : Int32).toNatClampNeg 0))), (p46, .inl (k 2, 1501, .inr (.inl (vp_updL f71 (0 : Int32).toNatClampNeg 268435455)))), (p47, .inl (k 0, 1501, .inl (upd f72 (0 : Int32).toNatClampNeg 0))), (p50, .inl (k 3, 1501, .inl (upd f73 (0 : Int32).toNatClampNeg (vp_nar .boolean 0)))), (p48, .inl (k 0, 1501, .inl (upd f74 (0 : Int32).toNatClampNeg (-1))))] H ∧ va_D A [(p0, .inr (7, (v1 :: v2 :: v3 :: v4 :: v5 :: v6 :: v7 :: v8 :: v9 :: v10 :: v11 :: v12 :: v13 :: v14 :: v15 :: v16 :: v17 :: v18 :: v19 :: v20 :: v21 :: v22 :: v23 :: v24 :: v25 :: v26 :: v27 :: v28 :: v29 :: v30 :: v31 :: v32 :: v33 :: v34 :: v35 :: v36 :: v37 :: v38 :: v39 :: v40 :: v41 :: v42 :: v43 :: v44 :: v45 :: .ref p46 :: .ref p47 :: .ref p48 :: .ref p49 :: .ref p50 :: .int 0 :: v51 :: v52 :: v53 :: v54 :: v55 :: v56 :: v57 :: v58 :: v59 :: v60 :: v61 :: v62 :: v63 :: v64 :: v65 :: v66 :: v67 :: v68 :: v69 :: v70 :: []))), (p49, .inl (k 0, 8192, .inl (upd (fun _ => (-1)) (7991 : Int32).toNatClampNeg 0))), (p46, .inl (k 2, 1501, .inr (.inl (vp_updL f71 (0 : Int32).toNatClampNeg 268435455)))), (p47, .inl (k 0, 1501, .inl (upd f72 (0 : Int32).toNatClampNeg 0))), (p50, .inl (k 3, 1501, .inl (upd f73 (0 : Int32).toNatClampNeg (vp_nar .boolean 0)))), (p48, .inl (k 0, 1501, .inl (upd f74 (0 : Int32).toNatClampNeg (-1))))] := ⟨hP, hD⟩
  refine lv_aload_n hx hb dX10_come_140 rfl (lv_at hl 2 rfl) ?_
  refine lv_dup hx hb dX10_come_141 rfl ?_
  refine va_get (D := G) (ci := 7) (v := .int 0) (C := RX10) (T := TX10) (N := 71) (ref := RX10) hx hb hts h1w hown hX.1 hP 0 rfl rfl 50 (by decide) h2w (fun _ h9 => h9) rfl dX10_come_142 ?_
  refine lv_iconst (v := 1) hx hb dX10_come_145 (by decide +kernel) ?_
  refine lv_iadd hx hb dX10_come_146 ?_
  refine cz_ti (w := 1) (by decide +kernel) ?_
  refine va_put (D := G) (ci := 7) (v := .int 1) (ty := .int) (C := RX10) (T := TX10) (N := 71) (ref := RX10) hx hb hts h1w tyX10 tyX10_ok nmX10 hown hX.1 hP hD hS 0 rfl rfl 50 (by decide) h2w (fun _ h9 => h9) rfl (by decide +kernel) rfl rfl (Nat.le_of_ble_eq_true rfl) dX10_come_147 (fun H locs hP hD hS => ?_)
  have hP9 := hP.sub (ws' := [(p0, .inr (7, (v1 :: v2 :: v3 :: v4 :: v5 :: v6 :: v7 :: v8 :: v9 :: v10 :: v11 :: v12 :: v13 :: v14 :: v15 :: v16 :: v17 :: v18 :: v19 :: v20 :: v21 :: v22 :: v23 :: v24 :: v25 :: v26 :: v27 :: v28 :: v29 :: v30 :: v31 :: v32 :: v33 :: v34 :: v35 :: v36 :: v37 :: v38 :: v39 :: v40 :: v41 :: v42 :: v43 :: v44 :: v45 :: .ref p46 :: .ref p47 :: .ref p48 :: .ref p49 :: .ref p50 :: .int 1 :: v51 :: v52 :: v53 :: v54 :: v55 :: v56 :: v57 :: v58 :: v59 :: v60 :: v61 :: v62 :: v63 :: v64 :: v65 :: v66 :: v67 :: v68 :: v69 :: v70 :: []))), (p49, .inl (k 0, 8192, .inl (upd (fun _ => (-1)) (7991 : Int32).toNatClampNeg 0))), (p46, .inl (k 2, 1501, .inr (.inl (vp_updL f71 (0 : Int32).toNatClampNeg 268435455)))), (p47, .inl (k 0, 1501, .inl (upd f72 (0 : Int32).toNatClampNeg 0))), (p50, .inl (k 3, 1501, .inl (upd f73 (0 : Int32).toNatClampNeg (vp_nar .boolean 0)))), (p48, .inl (k 0, 1501, .inl (upd f74 (0 : Int32).toNatClampNeg (-1))))]) [0, 1, 2, 3, 4, 5] rfl
  have hD9 := hD.sub (ws' := [(p0, .inr (7, (v1 :: v2 :: v3 :: v4 :: v5 :: v6 :: v7 :: v8 :: v9 :: v10 :: v11 :: v12 :: v13 :: v14 :: v15 :: v16 :: v17 :: v18 :: v19 :: v20 :: v21 :: v22 :: v23 :: v24 :: v25 :: v26 :: v27 :: v28 :: v29 :: v30 :: v31 :: v32 :: v33 :: v34 :: v35 :: v36 :: v37 :: v38 :: v39 :: v40 :: v41 :: v42 :: v43 :: v44 :: v45 :: .ref p46 :: .ref p47 :: .ref p48 :: .ref p49 :: .ref p50 :: .int 1 :: v51 :: v52 :: v53 :: v54 :: v55 :: v56 :: v57 :: v58 :: v59 :: v60 :: v61 :: v62 :: v63 :: v64 :: v65 :: v66 :: v67 :: v68 :: v69 :: v70 :: []))), (p49, .inl (k 0, 8192, .inl (upd (fun _ => (-1)) (7991 : Int32).toNatClampNeg 0))), (p46, .inl (k 2, 1501, .inr (.inl (vp_updL f71 (0 : Int32).toNatClampNeg 268435455)))), (p47, .inl (k 0, 1501, .inl (upd f72 (0 : Int32).toNatClampNeg 0))), (p50, .inl (k 3, 1501, .inl (upd f73 (0 : Int32).toNatClampNeg (vp_nar .boolean 0)))), (p48, .inl (k 0, 1501, .inl (upd f74 (0 : Int32).toNatClampNeg (-1))))]) [0, 1, 2, 3, 4, 5] (by decide) rfl
  exact W.vret hx hb hr (fun t ht hW => ⟨⟨(), rfl, trivial, by rw [ht]; exact hP9, hD9⟩, hS.F ht⟩) hS.2.2 dX10_come_150

set_option maxHeartbeats 4000000 in
set_option maxRecDepth 100000 in
theorem cX10_nearest_0 (l : Launch) (G : va_G) (k : Nat → ClassId) (p0 : Nat) (v1 : Value) (v2 : Value) (v3 : Value) (v4 : Value) (v5 : Value) (v6 : Value) (v7 : Value) (v8 : Value) (v9 : Value) (v10 : Value) (v11 : Value) (v12 : Value) (v13 : Value) (v14 : Value) (v15 : Value) (v16 : Value) (v17 : Value) (v18 : Value) (v19 : Value) (v20 : Value) (v21 : Value) (v22 : Value) (v23 : Value) (v24 : Value) (v25 : Value) (v26 : Value) (v27 : Value) (v28 : Value) (v29 : Value) (v30 : Value) (v31 : Value) (v32 : Value) (v33 : Value) (v34 : Value) (v35 : Value) (v36 : Value) (v37 : Value) (v38 : Value) (v39 : Value) (v40 : Value) (v41 : Value) (v42 : Value) (v43 : Value) (v44 : Value) (v45 : Value) (v46 : Value) (v47 : Value) (v48 : Value) (v49 : Value) (p50 : Nat) (v51 : Value) (v52 : Value) (v53 : Value) (v54 : Value) (v55 : Value) (v56 : Value) (v57 : Value) (v58 : Value) (v59 : Value) (v60 : Value) (v61 : Value) (v62 : Value) (v63 : Value) (v64 : Value) (v65 : Value) (v66 : Value) (v67 : Value) (v68 : Value) (v69 : Value) (v70 : Value) (sz : Nat) : CMi l G k yX10_nearest wsX10_nearest ({ frames := 0, cells := 0, slots := 0, locals := 0 }) [.ref p0] sz [(p0, .inr (7, (v1 :: v2 :: v3 :: v4 :: v5 :: v6 :: v7 :: v8 :: v9 :: v10 :: v11 :: v12 :: v13 :: v14 :: v15 :: v16 :: v17 :: v18 :: v19 :: v20 :: v21 :: v22 :: v23 :: v24 :: v25 :: v26 :: v27 :: v28 :: v29 :: v30 :: v31 :: v32 :: v33 :: v34 :: v35 :: v36 :: v37 :: v38 :: v39 :: v40 :: v41 :: v42 :: v43 :: v44 :: v45 :: v46 :: v47 :: v48 :: v49 :: .ref p50 :: .int 1 :: v51 :: v52 :: v53 :: v54 :: v55 :: v56 :: v57 :: v58 :: v59 :: v60 :: v61 :: v62 :: v63 :: v64 :: v65 :: v66 :: v67 :: v68 :: v69 :: v70 :: []))), (p50, .inl (k 3, 1501, .inl (upd (fun _ => 0) (0 : Int32).toNatClampNeg (vp_nar .boolean 0))))] (fun r (u : Unit) => r = 0) (fun (u : Unit) => [(p0, .inr (7, (v1 :: v2 :: v3 :: v4 :: v5 :: v6 :: v7 :: v8 :: v9 :: v10 :: v11 :: v12 :: v13 :: v14 :: v15 :: v16 :: v17 :: v18 :: v19 :: v20 :: v21 :: v22 :: v23 :: v24 :: v25 :: v26 :: v27 :: v28 :: v29 :: v30 :: v31 :: v32 :: v33 :: v34 :: v35 :: v36 :: v37 :: v38 :: v39 :: v40 :: v41 :: v42 :: v43 :: v44 :: v45 :: v46 :: v47 :: v48 :: v49 :: .ref p50 :: .int 1 :: v51 :: v52 :: v53 :: v54 :: v55 :: v56 :: v57 :: v58 :: v59 :: v60 :: v61 :: v62 :: v63 :: v64 :: v65 :: v66 :: v67 :: v68 :: v69 :: v70 :: []))), (p50, .inl (k 3, 1501, .inl (upd (fun _ => 0) (0 : Int32).toNatClampNeg (vp_nar .boolean 0))))]) := by
  refine Met.ofW (cc := cX10_nearest) (maxL := 3) (ret := (some .int)) (by decide) rfl ?_
  intro p e s m args below meth c s₁ B hml hv
  obtain ⟨rfl, hsz, hP, hX, hD0, hZ0⟩ := hv
  have hx := B.exec
  have hb := B.bytes
  have hr := B.returns
  have hts := atoms_spec (ws := wsX10_nearest) B.pre
  have hown : s.vm.findClass RX10 = some m.cls := findClass_of_methodNamed B.named
  subst hsz
  have hD := hD0.self (sz := s.heap.size)
  have hZ := ZX.up hP hZ0
  generalize hAe : va_A [(p0, .inr (7, (v1 :: v2 :: v3 :: v4 :: v5 :: v6 :: v7 :: v8 :: v9 :: v10 :: v11 :: v12 :: v13 :: v14 :: v15 :: v16 :: v17 :: v18 :: v19 :: v20 :: v21 :: v22 :: v23 :: v24 :: v25 :: v26 :: v27 :: v28 :: v29 :: v30 :: v31 :: v32 :: v33 :: v34 :: v35 :: v36 :: v37 :: v38 :: v39 :: v40 :: v41 :: v42 :: v43 :: v44 :: v45 :: v46 :: v47 :: v48 :: v49 :: .ref p50 :: .int 1 :: v51 :: v52 :: v53 :: v54 :: v55 :: v56 :: v57 :: v58 :: v59 :: v60 :: v61 :: v62 :: v63 :: v64 :: v65 :: v66 :: v67 :: v68 :: v69 :: v70 :: []))), (p50, .inl (k 3, 1501, .inl (upd (fun _ => 0) (0 : Int32).toNatClampNeg (vp_nar .boolean 0))))] s.heap.size = A at hD hZ ⊢
  have hA : ∀ q : Nat, s.heap.size ≤ q → A q := fun q h => by rw [← hAe]; exact Or.inr h
  have hS : va_S A s.heap s.heap [] := va_S.rf
  have hP : va_P G vwCl [(p0, .inr (7, (v1 :: v2 :: v3 :: v4 :: v5 :: v6 :: v7 :: v8 :: v9 :: v10 :: v11 :: v12 :: v13 :: v14 :: v15 :: v16 :: v17 :: v18 :: v19 :: v20 :: v21 :: v22 :: v23 :: v24 :: v25 :: v26 :: v27 :: v28 :: v29 :: v30 :: v31 :: v32 :: v33 :: v34 :: v35 :: v36 :: v37 :: v38 :: v39 :: v40 :: v41 :: v42 :: v43 :: v44 :: v45 :: v46 :: v47 :: v48 :: v49 :: .ref p50 :: .int 1 :: v51 :: v52 :: v53 :: v54 :: v55 :: v56 :: v57 :: v58 :: v59 :: v60 :: v61 :: v62 :: v63 :: v64 :: v65 :: v66 :: v67 :: v68 :: v69 :: v70 :: []))), (p50, .inl (k 3, 1501, .inl (upd (fun _ => 0) (0 : Int32).toNatClampNeg (vp_nar .boolean 0))))] s.heap := hP
  have hl := lv_entry ([.ref p0]) (n := 3) (Nat.le_of_ble_eq_true rfl)
  rw [lg_entry_eq]
  generalize (lg_sl ([.ref p0]) ++ List.replicate (3 - (lg_sl ([.ref p0])).length) Slot.unset).toArray = ls at hl ⊢
  have hl : lv_has ls 3 [(0, .ref p0)] := hl
  have h0w := hts (.fieldLink RX10 436 "RopeTownModel" "states" "I") (by decide +kernel)
  have h1w : ∀ w ∈ wsX100, w ∈ wsX10_nearest := by decide +kernel
  have h2w := hts (.fieldLink RX10 130 "RopeTownModel" "isDone" "[Z") (by decide +kernel)
  refine lv_iconst (v := (-1)) hx hb dX10_nearest_0 (by decide +kernel) ?_
  refine lv_istore_n (lv' := [(1, .int (-1)), (0, .ref p0)]) hx hb dX10_nearest_1 rfl hl (by decide) rfl (fun ls hl => ?_)
  refine lv_iconst (v := 0) hx hb dX10_nearest_2 (by decide +kernel) ?_
  refine lv_istore_n (lv' := [(2, .int 0), (1, .int (-1)), (0, .ref p0)]) hx hb dX10_nearest_3 rfl hl (by decide) rfl (fun ls hl => ?_)
  refine lv_iload_n hx hb dX10_nearest_4 rfl (lv_at hl 0 rfl) ?_
  refine lv_aload_n hx hb dX10_nearest_5 rfl (lv_at hl 2 rfl) ?_
  refine va_get (D := G) (ci := 7) (v := .int 1) (C := RX10) (T := TX10) (N := 71) (ref := RX10) hx hb hts h1w hown hX.1 hP 0 rfl rfl 50 (by decide) h0w (fun _ h9 => h9) rfl dX10_nearest_6 ?_
  refine lv_icmp_ge (tgt := 49) hx hb dX10_nearest_9 (by decide) (fun q => absurd (q) (by decide +kernel)) (fun _ => ?_)
  refine lv_aload_n hx hb dX10_nearest_12 rfl (lv_at hl 2 rfl) ?_
  refine va_get (D := G) (ci := 7) (v := .ref p50) (C := RX10) (T := TX10) (N := 71) (ref := RX10) hx hb hts h1w hown hX.1 hP 0 rfl rfl 49 (by decide) h2w (fun _ h9 => h9) rfl dX10_nearest_13 ?_
  refine lv_iload_n hx hb dX10_nearest_16 rfl (lv_at hl 0 rfl) ?_
  refine va_zald hx hb hX.1 hP 1 3 rfl rfl (by unfold vp_in; decide +kernel) dX10_nearest_17 ?_
  refine cz_ti (w := (vp_nar .boolean 0)) (by rfl) ?_
  refine lv_if_ne (tgt := 43) hx hb dX10_nearest_18 (by decide) (fun q => absurd (by decide +kernel) (q)) (fun _ => ?_)
  refine lv_iload_n hx hb dX10_nearest_21 rfl (lv_at hl 1 rfl) ?_
  refine lv_iconst (v := (-1)) hx hb dX10_nearest_22 (by decide +kernel) ?_
  refine lv_icmp_eq (tgt := 41) hx hb dX10_nearest_23 (by decide) (fun _ => ?_) (fun q => absurd (by decide +kernel) (q))
  refine lv_iload_n hx hb dX10_nearest_41 rfl (lv_at hl 0 rfl) ?_
  refine lv_istore_n (lv' := [(1, .int 0), (2, .int 0), (0, .ref p0)]) hx hb dX10_nearest_42 rfl hl (by decide) rfl (fun ls hl => ?_)
  refine lv_iinc (v := 1) (lv' := [(2, .int 1), (1, .int 0), (0, .ref p0)]) hx hb dX10_nearest_43 hl (k := 1) rfl (by decide +kernel) (by decide) rfl (fun ls hl => ?_)
  refine lv_goto (tgt := 4) hx hb dX10_nearest_46 (by decide) ?_
  refine lv_iload_n hx hb dX10_nearest_4 rfl (lv_at hl 0 rfl) ?_
  refine lv_aload_n hx hb dX10_nearest_5 rfl (lv_at hl 2 rfl) ?_
  refine va_get (D := G) (ci := 7) (v := .int 1) (C := RX10) (T := TX10) (N := 71) (ref := RX10) hx hb hts h1w hown hX.1 hP 0 rfl rfl 50 (by decide) h0w (fun _ h9 => h9) rfl dX10_nearest_6 ?_
  refine lv_icmp_ge (tgt := 49) hx hb dX10_nearest_9 (by decide) (fun _ => ?_) (fun q => absurd (by decide +kernel) (q))
  refine lv_iload_n hx hb dX10_nearest_49 rfl (lv_at hl 1 rfl) ?_
  have hP9 := hP.sub (ws' := [(p0, .inr (7, (v1 :: v2 :: v3 :: v4 :: v5 :: v6 :: v7 :: v8 :: v9 :: v10 :: v11 :: v12 :: v13 :: v14 :: v15 :: v16 :: v17 :: v18 :: v19 :: v20 :: v21 :: v22 :: v23 :: v24 :: v25 :: v26 :: v27 :: v28 :: v29 :: v30 :: v31 :: v32 :: v33 :: v34 :: v35 :: v36 :: v37 :: v38 :: v39 :: v40 :: v41 :: v42 :: v43 :: v44 :: v45 :: v46 :: v47 :: v48 :: v49 :: .ref p50 :: .int 1 :: v51 :: v52 :: v53 :: v54 :: v55 :: v56 :: v57 :: v58 :: v59 :: v60 :: v61 :: v62 :: v63 :: v64 :: v65 :: v66 :: v67 :: v68 :: v69 :: v70 :: []))), (p50, .inl (k 3, 1501, .inl (upd (fun _ => 0) (0 : Int32).toNatClampNeg (vp_nar .boolean 0))))]) [0, 1] rfl
  have hD9 := hD.sub (ws' := [(p0, .inr (7, (v1 :: v2 :: v3 :: v4 :: v5 :: v6 :: v7 :: v8 :: v9 :: v10 :: v11 :: v12 :: v13 :: v14 :: v15 :: v16 :: v17 :: v18 :: v19 :: v20 :: v21 :: v22 :: v23 :: v24 :: v25 :: v26 :: v27 :: v28 :: v29 :: v30 :: v31 :: v32 :: v33 :: v34 :: v35 :: v36 :: v37 :: v38 :: v39 :: v40 :: v41 :: v42 :: v43 :: v44 :: v45 :: v46 :: v47 :: v48 :: v49 :: .ref p50 :: .int 1 :: v51 :: v52 :: v53 :: v54 :: v55 :: v56 :: v57 :: v58 :: v59 :: v60 :: v61 :: v62 :: v63 :: v64 :: v65 :: v66 :: v67 :: v68 :: v69 :: v70 :: []))), (p50, .inl (k 3, 1501, .inl (upd (fun _ => 0) (0 : Int32).toNatClampNeg (vp_nar .boolean 0))))]) [0, 1] (by decide) rfl
  exact W.iret (v := 0) hx hb hr (fun t ht hW => ⟨⟨0, (), rfl, rfl, by rw [ht]; exact hP9, hD9⟩, hS.F ht⟩) hS.2.2 dX10_nearest_50

set_option maxHeartbeats 4000000 in
set_option maxRecDepth 100000 in
theorem cX10_unpack_0 (l : Launch) (G : va_G) (k : Nat → ClassId) (p0 : Nat) (v1 : Value) (v2 : Value) (v3 : Value) (v4 : Value) (v5 : Value) (v6 : Value) (v7 : Value) (v8 : Value) (v9 : Value) (v10 : Value) (v11 : Value) (v12 : Value) (v13 : Value) (v14 : Value) (v15 : Value) (v16 : Value) (v17 : Value) (v18 : Value) (v19 : Value) (v20 : Value) (v21 : Value) (v22 : Value) (v23 : Value) (v24 : Value) (v25 : Value) (v26 : Value) (v27 : Value) (v28 : Value) (v29 : Value) (v30 : Value) (v31 : Value) (v32 : Value) (v33 : Value) (v34 : Value) (v35 : Value) (v36 : Value) (v37 : Value) (v38 : Value) (v39 : Value) (v40 : Value) (v41 : Value) (v42 : Value) (v43 : Value) (v44 : Value) (v45 : Value) (v46 : Value) (v47 : Value) (v48 : Value) (v49 : Value) (v50 : Value) (v51 : Value) (v52 : Value) (v53 : Value) (p54 : Nat) (v55 : Value) (v56 : Value) (v57 : Value) (v58 : Value) (v59 : Value) (v60 : Value) (v61 : Value) (v62 : Value) (v63 : Value) (v64 : Value) (v65 : Value) (v66 : Value) (v67 : Value) (v68 : Value) (v69 : Value) (v70 : Value) (v71 : Value) (f72 : Nat → Int32) (sz : Nat) : CMv l G k yX10_unpack wsX10_unpack ({ frames := 0, cells := 0, slots := 0, locals := 0 }) [.ref p0, .long 268435455] sz [(p0, .inr (7, (v1 :: v2 :: v3 :: v4 :: v5 :: v6 :: v7 :: v8 :: v9 :: v10 :: v11 :: v12 :: v13 :: v14 :: v15 :: v16 :: v17 :: v18 :: v19 :: v20 :: v21 :: v22 :: v23 :: v24 :: v25 :: v26 :: v27 :: v28 :: v29 :: v30 :: v31 :: v32 :: v33 :: v34 :: v35 :: v36 :: v37 :: v38 :: v39 :: v40 :: v41 :: v42 :: v43 :: v44 :: v45 :: v46 :: v47 :: v48 :: v49 :: v50 :: v51 :: v52 :: v53 :: .ref p54 :: v55 :: v56 :: v57 :: v58 :: v59 :: v60 :: v61 :: v62 :: v63 :: v64 :: v65 :: v66 :: v67 :: v68 :: v69 :: v70 :: v71 :: []))), (p54, .inl (k 0, 7, .inl f72))] (fun (u : Unit) => True) (fun (u : Unit) => [(p0, .inr (7, (v1 :: v2 :: v3 :: v4 :: v5 :: v6 :: v7 :: v8 :: v9 :: v10 :: v11 :: v12 :: v13 :: v14 :: v15 :: v16 :: v17 :: v18 :: v19 :: v20 :: v21 :: v22 :: v23 :: v24 :: v25 :: v26 :: v27 :: v28 :: v29 :: v30 :: v31 :: v32 :: v33 :: v34 :: v35 :: v36 :: v37 :: v38 :: v39 :: v40 :: v41 :: v42 :: v43 :: v44 :: v45 :: v46 :: v47 :: v48 :: v49 :: v50 :: v51 :: v52 :: v53 :: .ref p54 :: v55 :: .int 0 :: v57 :: v58 :: v59 :: v60 :: v61 :: v62 :: v63 :: v64 :: v65 :: v66 :: v67 :: v68 :: v69 :: v70 :: v71 :: []))), (p54, .inl (k 0, 7, .inl (upd (upd (upd (upd (upd (upd (upd f72 (6 : Int32).toNatClampNeg 15) (5 : Int32).toNatClampNeg 15) (4 : Int32).toNatClampNeg 15) (3 : Int32).toNatClampNeg 15) (2 : Int32).toNatClampNeg 15) (1 : Int32).toNatClampNeg 15) (0 : Int32).toNatClampNeg 15)))]) := by
  refine Met.ofW (cc := cX10_unpack) (maxL := 6) (ret := none) (by decide) rfl ?_
  intro p e s m args below meth c s₁ B hml hv
  obtain ⟨rfl, hsz, hP, hX, hD0, hZ0⟩ := hv
  have hx := B.exec
  have hb := B.bytes
  have hr := B.returns
  have hts := atoms_spec (ws := wsX10_unpack) B.pre
  have hown : s.vm.findClass RX10 = some m.cls := findClass_of_methodNamed B.named
  subst hsz
  have hD := hD0.self (sz := s.heap.size)
  have hZ := ZX.up hP hZ0
  generalize hAe : va_A [(p0, .inr (7, (v1 :: v2 :: v3 :: v4 :: v5 :: v6 :: v7 :: v8 :: v9 :: v10 :: v11 :: v12 :: v13 :: v14 :: v15 :: v16 :: v17 :: v18 :: v19 :: v20 :: v21 :: v22 :: v23 :: v24 :: v25 :: v26 :: v27 :: v28 :: v29 :: v30 :: v31 :: v32 :: v33 :: v34 :: v35 :: v36 :: v37 :: v38 :: v39 :: v40 :: v41 :: v42 :: v43 :: v44 :: v45 :: v46 :: v47 :: v48 :: v49 :: v50 :: v51 :: v52 :: v53 :: .ref p54 :: v55 :: v56 :: v57 :: v58 :: v59 :: v60 :: v61 :: v62 :: v63 :: v64 :: v65 :: v66 :: v67 :: v68 :: v69 :: v70 :: v71 :: []))), (p54, .inl (k 0, 7, .inl f72))] s.heap.size = A at hD hZ ⊢
  have hA : ∀ q : Nat, s.heap.size ≤ q → A q := fun q h => by rw [← hAe]; exact Or.inr h
  have hS : va_S A s.heap s.heap [] := va_S.rf
  have hP : va_P G vwCl [(p0, .inr (7, (v1 :: v2 :: v3 :: v4 :: v5 :: v6 :: v7 :: v8 :: v9 :: v10 :: v11 :: v12 :: v13 :: v14 :: v15 :: v16 :: v17 :: v18 :: v19 :: v20 :: v21 :: v22 :: v23 :: v24 :: v25 :: v26 :: v27 :: v28 :: v29 :: v30 :: v31 :: v32 :: v33 :: v34 :: v35 :: v36 :: v37 :: v38 :: v39 :: v40 :: v41 :: v42 :: v43 :: v44 :: v45 :: v46 :: v47 :: v48 :: v49 :: v50 :: v51 :: v52 :: v53 :: .ref p54 :: v55 :: v56 :: v57 :: v58 :: v59 :: v60 :: v61 :: v62 :: v63 :: v64 :: v65 :: v66 :: v67 :: v68 :: v69 :: v70 :: v71 :: []))), (p54, .inl (k 0, 7, .inl f72))] s.heap := hP
  have hl := lv_entry ([.ref p0, .long 268435455]) (n := 6) (Nat.le_of_ble_eq_true rfl)
  rw [lg_entry_eq]
  generalize (lg_sl ([.ref p0, .long 268435455]) ++ List.replicate (6 - (lg_sl ([.ref p0, .long 268435455])).length) Slot.unset).toArray = ls at hl ⊢
  have hl : lv_has ls 6 [(0, .ref p0), (1, .long 268435455)] := hl
  have h0w := hts (.fieldLink RX10 134 "RopeTownModel" "row" "[I") (by decide +kernel)
  have h1w : ∀ w ∈ wsX100, w ∈ wsX10_unpack := by decide +kernel
  have h2w := hts (.constantLong RX10 425 (16)) (by decide +kernel)
  have h3w := hts (.fieldLink RX10 427 "RopeTownModel" "rowBucket" "I") (by decide +kernel)
  refine lv_lload_n hx hb dX10_unpack_0 rfl (lv_at hl 1 rfl) ?_
  refine lv_lstore_n (lv' := [(3, .long 268435455), (0, .ref p0), (1, .long 268435455)]) hx hb dX10_unpack_1 rfl hl (by decide) rfl (fun ls hl => ?_)
  refine lv_bipush (v := 6) hx hb dX10_unpack_2 (by decide +kernel) ?_
  refine lv_istore (lv' := [(5, .int 6), (3, .long 268435455), (0, .ref p0), (1, .long 268435455)]) hx hb dX10_unpack_4 hl (by decide) rfl (fun ls hl => ?_)
  refine lv_iload hx hb dX10_unpack_6 (lv_at hl 0 rfl) ?_
  refine lv_if_lt (tgt := 36) hx hb dX10_unpack_8 (by decide) (fun q => absurd (q) (by decide +kernel)) (fun _ => ?_)
  refine lv_aload_n hx hb dX10_unpack_11 rfl (lv_at hl 2 rfl) ?_
  refine va_get (D := G) (ci := 7) (v := .ref p54) (C := RX10) (T := TX10) (N := 71) (ref := RX10) hx hb hts h1w hown hX.1 hP 0 rfl rfl 53 (by decide) h0w (fun _ h9 => h9) rfl dX10_unpack_12 ?_
  refine lv_iload hx hb dX10_unpack_15 (lv_at hl 0 rfl) ?_
  refine lv_lload_n hx hb dX10_unpack_17 rfl (lv_at hl 1 rfl) ?_
  refine lv_ldc2 (v := 16) hx hb hown h2w dX10_unpack_18 ?_
  refine lv_lrem hx hb dX10_unpack_21 (by decide +kernel) ?_
  refine cz_tl (w := 15) (by decide +kernel) ?_
  refine lv_l2i (v := 15) hx hb dX10_unpack_22 (by decide +kernel) ?_
  refine va_iast hx hb hX.1 hP hD hS 1 0 rfl rfl (by unfold vp_in; decide +kernel) dX10_unpack_23 (fun H locs hP hD hS => ?_)
  refine lv_lload_n hx hb dX10_unpack_24 rfl (lv_at hl 1 rfl) ?_
  refine lv_ldc2 (v := 16) hx hb hown h2w dX10_unpack_25 ?_
  refine lv_ldiv hx hb dX10_unpack_28 (by decide +kernel) ?_
  refine cz_tl (w := 16777215) (by decide +kernel) ?_
  refine lv_lstore_n (lv' := [(3, .long 16777215), (5, .int 6), (0, .ref p0), (1, .long 268435455)]) hx hb dX10_unpack_29 rfl hl (by decide) rfl (fun ls hl => ?_)
  refine lv_iinc (v := 5) (lv' := [(5, .int 5), (3, .long 16777215), (0, .ref p0), (1, .long 268435455)]) hx hb dX10_unpack_30 hl (k := 1) rfl (by decide +kernel) (by decide) rfl (fun ls hl => ?_)
  refine lv_goto (tgt := 6) hx hb dX10_unpack_33 (by decide) ?_
  refine lv_iload hx hb dX10_unpack_6 (lv_at hl 0 rfl) ?_
  refine lv_if_lt (tgt := 36) hx hb dX10_unpack_8 (by decide) (fun q => absurd (q) (by decide +kernel)) (fun _ => ?_)
  refine lv_aload_n hx hb dX10_unpack_11 rfl (lv_at hl 2 rfl) ?_
  refine va_get (D := G) (ci := 7) (v := .ref p54) (C := RX10) (T := TX10) (N := 71) (ref := RX10) hx hb hts h1w hown hX.1 hP 0 rfl rfl 53 (by decide) h0w (fun _ h9 => h9) rfl dX10_unpack_12 ?_
  refine lv_iload hx hb dX10_unpack_15 (lv_at hl 0 rfl) ?_
  refine lv_lload_n hx hb dX10_unpack_17 rfl (lv_at hl 1 rfl) ?_
  refine lv_ldc2 (v := 16) hx hb hown h2w dX10_unpack_18 ?_
  refine lv_lrem hx hb dX10_unpack_21 (by decide +kernel) ?_
  refine cz_tl (w := 15) (by decide +kernel) ?_
  refine lv_l2i (v := 15) hx hb dX10_unpack_22 (by decide +kernel) ?_
  refine va_iast hx hb hX.1 hP hD hS 1 0 rfl rfl (by unfold vp_in; decide +kernel) dX10_unpack_23 (fun H locs hP hD hS => ?_)
  refine lv_lload_n hx hb dX10_unpack_24 rfl (lv_at hl 1 rfl) ?_
  refine lv_ldc2 (v := 16) hx hb hown h2w dX10_unpack_25 ?_
  refine lv_ldiv hx hb dX10_unpack_28 (by decide +kernel) ?_
  refine cz_tl (w := 1048575) (by decide +kernel) ?_
  refine lv_lstore_n (lv' := [(3, .long 1048575), (5, .int 5), (0, .ref p0), (1, .long 268435455)]) hx hb dX10_unpack_29 rfl hl (by decide) rfl (fun ls hl => ?_)
  refine lv_iinc (v := 4) (lv' := [(5, .int 4), (3, .long 1048575), (0, .ref p0), (1, .long 268435455)]) hx hb dX10_unpack_30 hl (k := 1) rfl (by decide +kernel) (by decide) rfl (fun ls hl => ?_)
  refine lv_goto (tgt := 6) hx hb dX10_unpack_33 (by decide) ?_
  refine lv_iload hx hb dX10_unpack_6 (lv_at hl 0 rfl) ?_
  refine lv_if_lt (tgt := 36) hx hb dX10_unpack_8 (by decide) (fun q => absurd (q) (by decide +kernel)) (fun _ => ?_)
  refine lv_aload_n hx hb dX10_unpack_11 rfl (lv_at hl 2 rfl) ?_
  refine va_get (D := G) (ci := 7) (v := .ref p54) (C := RX10) (T := TX10) (N := 71) (ref := RX10) hx hb hts h1w hown hX.1 hP 0 rfl rfl 53 (by decide) h0w (fun _ h9 => h9) rfl dX10_unpack_12 ?_
  refine lv_iload hx hb dX10_unpack_15 (lv_at hl 0 rfl) ?_
  refine lv_lload_n hx hb dX10_unpack_17 rfl (lv_at hl 1 rfl) ?_
  refine lv_ldc2 (v := 16) hx hb hown h2w dX10_unpack_18 ?_
  refine lv_lrem hx hb dX10_unpack_21 (by decide +kernel) ?_
  refine cz_tl (w := 15) (by decide +kernel) ?_
  refine lv_l2i (v := 15) hx hb dX10_unpack_22 (by decide +kernel) ?_
  refine va_iast hx hb hX.1 hP hD hS 1 0 rfl rfl (by unfold vp_in; decide +kernel) dX10_unpack_23 (fun H locs hP hD hS => ?_)
  refine lv_lload_n hx hb dX10_unpack_24 rfl (lv_at hl 1 rfl) ?_
  refine lv_ldc2 (v := 16) hx hb hown h2w dX10_unpack_25 ?_
  refine lv_ldiv hx hb dX10_unpack_28 (by decide +kernel) ?_
  refine cz_tl (w := 65535) (by decide +kernel) ?_
  refine lv_lstore_n (lv' := [(3, .long 65535), (5, .int 4), (0, .ref p0), (1, .long 268435455)]) hx hb dX10_unpack_29 rfl hl (by decide) rfl (fun ls hl => ?_)
  refine lv_iinc (v := 3) (lv' := [(5, .int 3), (3, .long 65535), (0, .ref p0), (1, .long 268435455)]) hx hb dX10_unpack_30 hl (k := 1) rfl (by decide +kernel) (by decide) rfl (fun ls hl => ?_)
  refine lv_goto (tgt := 6) hx hb dX10_unpack_33 (by decide) ?_
  refine lv_iload hx hb dX10_unpack_6 (lv_at hl 0 rfl) ?_
  refine lv_if_lt (tgt := 36) hx hb dX10_unpack_8 (by decide) (fun q => absurd (q) (by decide +kernel)) (fun _ => ?_)
  refine lv_aload_n hx hb dX10_unpack_11 rfl (lv_at hl 2 rfl) ?_
  refine va_get (D := G) (ci := 7) (v := .ref p54) (C := RX10) (T := TX10) (N := 71) (ref := RX10) hx hb hts h1w hown hX.1 hP 0 rfl rfl 53 (by decide) h0w (fun _ h9 => h9) rfl dX10_unpack_12 ?_
  refine lv_iload hx hb dX10_unpack_15 (lv_at hl 0 rfl) ?_
  refine lv_lload_n hx hb dX10_unpack_17 rfl (lv_at hl 1 rfl) ?_
  refine lv_ldc2 (v := 16) hx hb hown h2w dX10_unpack_18 ?_
  refine lv_lrem hx hb dX10_unpack_21 (by decide +kernel) ?_
  refine cz_tl (w := 15) (by decide +kernel) ?_
  refine lv_l2i (v := 15) hx hb dX10_unpack_22 (by decide +kernel) ?_
  refine va_iast hx hb hX.1 hP hD hS 1 0 rfl rfl (by unfold vp_in; decide +kernel) dX10_unpack_23 (fun H locs hP hD hS => ?_)
  refine lv_lload_n hx hb dX10_unpack_24 rfl (lv_at hl 1 rfl) ?_
  refine lv_ldc2 (v := 16) hx hb hown h2w dX10_unpack_25 ?_
  refine lv_ldiv hx hb dX10_unpack_28 (by decide +kernel) ?_
  refine cz_tl (w := 4095) (by decide +kernel) ?_
  refine lv_lstore_n (lv' := [(3, .long 4095), (5, .int 3), (0, .ref p0), (1, .long 268435455)]) hx hb dX10_unpack_29 rfl hl (by decide) rfl (fun ls hl => ?_)
  refine lv_iinc (v := 2) (lv' := [(5, .int 2), (3, .long 4095), (0, .ref p0), (1, .long 268435455)]) hx hb dX10_unpack_30 hl (k := 1) rfl (by decide +kernel) (by decide) rfl (fun ls hl => ?_)
  refine lv_goto (tgt := 6) hx hb dX10_unpack_33 (by decide) ?_
  refine lv_iload hx hb dX10_unpack_6 (lv_at hl 0 rfl) ?_
  refine lv_if_lt (tgt := 36) hx hb dX10_unpack_8 (by decide) (fun q => absurd (q) (by decide +kernel)) (fun _ => ?_)
  refine lv_aload_n hx hb dX10_unpack_11 rfl (lv_at hl 2 rfl) ?_
  refine va_get (D := G) (ci := 7) (v := .ref p54) (C := RX10) (T := TX10) (N := 71) (ref := RX10) hx hb hts h1w hown hX.1 hP 0 rfl rfl 53 (by decide) h0w (fun _ h9 => h9) rfl dX10_unpack_12 ?_
  refine lv_iload hx hb dX10_unpack_15 (lv_at hl 0 rfl) ?_
  refine lv_lload_n hx hb dX10_unpack_17 rfl (lv_at hl 1 rfl) ?_
  refine lv_ldc2 (v := 16) hx hb hown h2w dX10_unpack_18 ?_
  refine lv_lrem hx hb dX10_unpack_21 (by decide +kernel) ?_
  refine cz_tl (w := 15) (by decide +kernel) ?_
  refine lv_l2i (v := 15) hx hb dX10_unpack_22 (by decide +kernel) ?_
  refine va_iast hx hb hX.1 hP hD hS 1 0 rfl rfl (by unfold vp_in; decide +kernel) dX10_unpack_23 (fun H locs hP hD hS => ?_)
  refine lv_lload_n hx hb dX10_unpack_24 rfl (lv_at hl 1 rfl) ?_
  refine lv_ldc2 (v := 16) hx hb hown h2w dX10_unpack_25 ?_
  refine lv_ldiv hx hb dX10_unpack_28 (by decide +kernel) ?_
  refine cz_tl (w := 255) (by decide +kernel) ?_
  refine lv_lstore_n (lv' := [(3, .long 255), (5, .int 2), (0, .ref p0), (1, .long 268435455)]) hx hb dX10_unpack_29 rfl hl (by decide) rfl (fun ls hl => ?_)
  refine lv_iinc (v := 1) (lv' := [(5, .int 1), (3, .long 255), (0, .ref p0), (1, .long 268435455)]) hx hb dX10_unpack_30 hl (k := 1) rfl (by decide +kernel) (by decide) rfl (fun ls hl => ?_)
  refine lv_goto (tgt := 6) hx hb dX10_unpack_33 (by decide) ?_
  refine lv_iload hx hb dX10_unpack_6 (lv_at hl 0 rfl) ?_
  refine lv_if_lt (tgt := 36) hx hb dX10_unpack_8 (by decide) (fun q => absurd (q) (by decide +kernel)) (fun _ => ?_)
  refine lv_aload_n hx hb dX10_unpack_11 rfl (lv_at hl 2 rfl) ?_
  refine va_get (D := G) (ci := 7) (v := .ref p54) (C := RX10) (T := TX10) (N := 71) (ref := RX10) hx hb hts h1w hown hX.1 hP 0 rfl rfl 53 (by decide) h0w (fun _ h9 => h9) rfl dX10_unpack_12 ?_
  refine lv_iload hx hb dX10_unpack_15 (lv_at hl 0 rfl) ?_
  refine lv_lload_n hx hb dX10_unpack_17 rfl (lv_at hl 1 rfl) ?_
  refine lv_ldc2 (v := 16) hx hb hown h2w dX10_unpack_18 ?_
  refine lv_lrem hx hb dX10_unpack_21 (by decide +kernel) ?_
  refine cz_tl (w := 15) (by decide +kernel) ?_
  refine lv_l2i (v := 15) hx hb dX10_unpack_22 (by decide +kernel) ?_
  refine va_iast hx hb hX.1 hP hD hS 1 0 rfl rfl (by unfold vp_in; decide +kernel) dX10_unpack_23 (fun H locs hP hD hS => ?_)
  obtain ⟨hP, hD⟩ : va_P G vwCl [(p0, .inr (7, (v1 :: v2 :: v3 :: v4 :: v5 :: v6 :: v7 :: v8 :: v9 :: v10 :: v11 :: v12 :: v13 :: v14 :: v15 :: v16 :: v17 :: v18 :: v19 :: v20 :: v21 :: v22 :: v23 :: v24 :: v25 :: v26 :: v27 :: v28 :: v29 :: v30 :: v31 :: v32 :: v33 :: v34 :: v35 :: v36 :: v37 :: v38 :: v39 :: v40 :: v41 :: v42 :: v43 :: v44 :: v45 :: v46 :: v47 :: v48 :: v49 :: v50 :: v51 :: v52 :: v53 :: .ref p54 :: v55 :: v56 :: v57 :: v58 :: v59 :: v60 :: v61 :: v62 :: v63 :: v64 :: v65 :: v66 :: v67 :: v68 :: v69 :: v70 :: v71 :: []))), (p54, .inl (k 0, 7, .inl (upd (upd (upd (upd (upd (upd f72 (6 : Int32).toNatClampNeg 15) (5 : Int32).toNatClampNeg 15) (4 : Int32).toNatClampNeg 15) (3 : Int32).toNatClampNeg 15) (2 : Int32).toNatClampNeg 15) (1 : Int32).toNatClampNeg 15)))] H ∧ va_D A [(p0, .inr (7, (v1 :: v2 :: v3 :: v4 :: v5 :: v6 :: v7 :: v8 :: v9 :: v10 :: v11 :: v12 :: v13 :: v14 :: v15 :: v16 :: v17 :: v18 :: v19 :: v20 :: v21 :: v22 :: v23 :: v24 :: v25 :: v26 :: v27 :: v28 :: v29 :: v30 :: v31 :: v32 :: v33 :: v34 :: v35 :: v36 :: v37 :: v38 :: v39 :: v40 :: v41 :: v42 :: v43 :: v44 :: v45 :: v46 :: v47 :: v48 :: v49 :: v50 :: v51 :: v52 :: v53 :: .ref p54 :: v55 :: v56 :: v57 :: v58 :: v59 :: v60 :: v61 :: v62 :: v63 :: v64 :: v65 :: v66 :: v67 :: v68 :: v69 :: v70 :: v71 :: []))), (p54, .inl (k 0, 7, .inl (upd (upd (upd (upd (upd (upd f72 (6 : Int32).toNatClampNeg 15) (5 : Int32).toNatClampNeg 15) (4 : Int32).toNatClampNeg 15) (3 : Int32).toNatClampNeg 15) (2 : Int32).toNatClampNeg 15) (1 : Int32).toNatClampNeg 15)))] := ⟨hP, hD⟩
  refine lv_lload_n hx hb dX10_unpack_24 rfl (lv_at hl 1 rfl) ?_
  refine lv_ldc2 (v := 16) hx hb hown h2w dX10_unpack_25 ?_
  refine lv_ldiv hx hb dX10_unpack_28 (by decide +kernel) ?_
  refine cz_tl (w := 15) (by decide +kernel) ?_
  refine lv_lstore_n (lv' := [(3, .long 15), (5, .int 1), (0, .ref p0), (1, .long 268435455)]) hx hb dX10_unpack_29 rfl hl (by decide) rfl (fun ls hl => ?_)
  refine lv_iinc (v := 0) (lv' := [(5, .int 0), (3, .long 15), (0, .ref p0), (1, .long 268435455)]) hx hb dX10_unpack_30 hl (k := 1) rfl (by decide +kernel) (by decide) rfl (fun ls hl => ?_)
  refine lv_goto (tgt := 6) hx hb dX10_unpack_33 (by decide) ?_
  refine lv_iload hx hb dX10_unpack_6 (lv_at hl 0 rfl) ?_
  refine lv_if_lt (tgt := 36) hx hb dX10_unpack_8 (by decide) (fun q => absurd (q) (by decide +kernel)) (fun _ => ?_)
  refine lv_aload_n hx hb dX10_unpack_11 rfl (lv_at hl 2 rfl) ?_
  refine va_get (D := G) (ci := 7) (v := .ref p54) (C := RX10) (T := TX10) (N := 71) (ref := RX10) hx hb hts h1w hown hX.1 hP 0 rfl rfl 53 (by decide) h0w (fun _ h9 => h9) rfl dX10_unpack_12 ?_
  refine lv_iload hx hb dX10_unpack_15 (lv_at hl 0 rfl) ?_
  refine lv_lload_n hx hb dX10_unpack_17 rfl (lv_at hl 1 rfl) ?_
  refine lv_ldc2 (v := 16) hx hb hown h2w dX10_unpack_18 ?_
  refine lv_lrem hx hb dX10_unpack_21 (by decide +kernel) ?_
  refine cz_tl (w := 15) (by decide +kernel) ?_
  refine lv_l2i (v := 15) hx hb dX10_unpack_22 (by decide +kernel) ?_
  refine va_iast hx hb hX.1 hP hD hS 1 0 rfl rfl (by unfold vp_in; decide +kernel) dX10_unpack_23 (fun H locs hP hD hS => ?_)
  refine lv_lload_n hx hb dX10_unpack_24 rfl (lv_at hl 1 rfl) ?_
  refine lv_ldc2 (v := 16) hx hb hown h2w dX10_unpack_25 ?_
  refine lv_ldiv hx hb dX10_unpack_28 (by decide +kernel) ?_
  refine cz_tl (w := 0) (by decide +kernel) ?_
  refine lv_lstore_n (lv' := [(3, .long 0), (5, .int 0), (0, .ref p0), (1, .long 268435455)]) hx hb dX10_unpack_29 rfl hl (by decide) rfl (fun ls hl => ?_)
  refine lv_iinc (v := (-1)) (lv' := [(5, .int (-1)), (3, .long 0), (0, .ref p0), (1, .long 268435455)]) hx hb dX10_unpack_30 hl (k := 1) rfl (by decide +kernel) (by decide) rfl (fun ls hl => ?_)
  refine lv_goto (tgt := 6) hx hb dX10_unpack_33 (by decide) ?_
  refine lv_iload hx hb dX10_unpack_6 (lv_at hl 0 rfl) ?_
  refine lv_if_lt (tgt := 36) hx hb dX10_unpack_8 (by decide) (fun _ => ?_) (fun q => absurd (by decide +kernel) (q))
  refine lv_aload_n hx hb dX10_unpack_36 rfl (lv_at hl 2 rfl) ?_
  refine lv_lload_n hx hb dX10_unpack_37 rfl (lv_at hl 1 rfl) ?_
  refine lv_l2i (v := 0) hx hb dX10_unpack_38 (by decide +kernel) ?_
  refine va_put (D := G) (ci := 7) (v := .int 0) (ty := .int) (C := RX10) (T := TX10) (N := 71) (ref := RX10) hx hb hts h1w tyX10 tyX10_ok nmX10 hown hX.1 hP hD hS 0 rfl rfl 55 (by decide) h3w (fun _ h9 => h9) rfl (by decide +kernel) rfl rfl (Nat.le_of_ble_eq_true rfl) dX10_unpack_39 (fun H locs hP hD hS => ?_)
  have hP9 := hP.sub (ws' := [(p0, .inr (7, (v1 :: v2 :: v3 :: v4 :: v5 :: v6 :: v7 :: v8 :: v9 :: v10 :: v11 :: v12 :: v13 :: v14 :: v15 :: v16 :: v17 :: v18 :: v19 :: v20 :: v21 :: v22 :: v23 :: v24 :: v25 :: v26 :: v27 :: v28 :: v29 :: v30 :: v31 :: v32 :: v33 :: v34 :: v35 :: v36 :: v37 :: v38 :: v39 :: v40 :: v41 :: v42 :: v43 :: v44 :: v45 :: v46 :: v47 :: v48 :: v49 :: v50 :: v51 :: v52 :: v53 :: .ref p54 :: v55 :: .int 0 :: v57 :: v58 :: v59 :: v60 :: v61 :: v62 :: v63 :: v64 :: v65 :: v66 :: v67 :: v68 :: v69 :: v70 :: v71 :: []))), (p54, .inl (k 0, 7, .inl (upd (upd (upd (upd (upd (upd (upd f72 (6 : Int32).toNatClampNeg 15) (5 : Int32).toNatClampNeg 15) (4 : Int32).toNatClampNeg 15) (3 : Int32).toNatClampNeg 15) (2 : Int32).toNatClampNeg 15) (1 : Int32).toNatClampNeg 15) (0 : Int32).toNatClampNeg 15)))]) [0, 1] rfl
  have hD9 := hD.sub (ws' := [(p0, .inr (7, (v1 :: v2 :: v3 :: v4 :: v5 :: v6 :: v7 :: v8 :: v9 :: v10 :: v11 :: v12 :: v13 :: v14 :: v15 :: v16 :: v17 :: v18 :: v19 :: v20 :: v21 :: v22 :: v23 :: v24 :: v25 :: v26 :: v27 :: v28 :: v29 :: v30 :: v31 :: v32 :: v33 :: v34 :: v35 :: v36 :: v37 :: v38 :: v39 :: v40 :: v41 :: v42 :: v43 :: v44 :: v45 :: v46 :: v47 :: v48 :: v49 :: v50 :: v51 :: v52 :: v53 :: .ref p54 :: v55 :: .int 0 :: v57 :: v58 :: v59 :: v60 :: v61 :: v62 :: v63 :: v64 :: v65 :: v66 :: v67 :: v68 :: v69 :: v70 :: v71 :: []))), (p54, .inl (k 0, 7, .inl (upd (upd (upd (upd (upd (upd (upd f72 (6 : Int32).toNatClampNeg 15) (5 : Int32).toNatClampNeg 15) (4 : Int32).toNatClampNeg 15) (3 : Int32).toNatClampNeg 15) (2 : Int32).toNatClampNeg 15) (1 : Int32).toNatClampNeg 15) (0 : Int32).toNatClampNeg 15)))]) [0, 1] (by decide) rfl
  exact W.vret hx hb hr (fun t ht hW => ⟨⟨(), rfl, trivial, by rw [ht]; exact hP9, hD9⟩, hS.F ht⟩) hS.2.2 dX10_unpack_42

