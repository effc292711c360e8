set_option maxHeartbeats 4000000 in
set_option maxRecDepth 100000 in
theorem cX10_feed_0 (l : Launch) (G : va_G) (k : Nat → ClassId) (p0 : Nat) (i1 : Int32) (i2 : Int32) (i3 : Int32) (i4 : Int32) (i5 : Int32) (v6 : Value) (v7 : Value) (v8 : Value) (v9 : Value) (v10 : Value) (v11 : Value) (v12 : Value) (v13 : Value) (v14 : Value) (v15 : Value) (v16 : Value) (v17 : Value) (v18 : Value) (v19 : Value) (v20 : Value) (v21 : Value) (p22 : Nat) (v23 : Value) (v24 : Value) (v25 : Value) (v26 : Value) (v27 : Value) (v28 : Value) (v29 : Value) (v30 : Value) (v31 : Value) (v32 : Value) (v33 : Value) (v34 : Value) (v35 : Value) (v36 : Value) (v37 : Value) (v38 : Value) (v39 : Value) (v40 : Value) (v41 : Value) (v42 : Value) (v43 : Value) (v44 : Value) (v45 : Value) (v46 : Value) (v47 : Value) (v48 : Value) (v49 : Value) (v50 : Value) (v51 : Value) (v52 : Value) (v53 : Value) (v54 : Value) (v55 : Value) (v56 : Value) (v57 : Value) (v58 : Value) (v59 : Value) (v60 : Value) (v61 : Value) (v62 : Value) (v63 : Value) (v64 : Value) (v65 : Value) (v66 : Value) (v67 : Value) (v68 : Value) (v69 : Value) (v70 : Value) (v71 : Value) (v72 : Value) (v73 : Value) (v74 : Value) (v75 : Value) (f76 : Nat → Int32) (sz : Nat) : CMi l G k yX10_feed wsX10_feed ({ frames := 0, cells := 0, slots := 0, locals := 0 }) [.ref p0, .int i1, .int i2, .int i3, .int i4, .int i5] sz [(p0, .inr (7, (v6 :: v7 :: v8 :: v9 :: v10 :: v11 :: v12 :: v13 :: v14 :: v15 :: v16 :: v17 :: v18 :: v19 :: v20 :: v21 :: .ref p22 :: .int 0 :: v23 :: v24 :: v25 :: v26 :: v27 :: v28 :: v29 :: v30 :: v31 :: v32 :: v33 :: v34 :: v35 :: v36 :: v37 :: v38 :: v39 :: v40 :: v41 :: v42 :: v43 :: v44 :: v45 :: v46 :: v47 :: v48 :: v49 :: v50 :: v51 :: v52 :: v53 :: v54 :: v55 :: v56 :: v57 :: v58 :: v59 :: v60 :: v61 :: v62 :: v63 :: v64 :: v65 :: v66 :: v67 :: v68 :: v69 :: v70 :: v71 :: v72 :: v73 :: v74 :: v75 :: []))), (p22, .inl (k 0, 600, .inl f76))] (fun r (u : (Nat → Int32)) => r = 20) (fun (u : (Nat → Int32)) => [(p0, .inr (7, (v6 :: v7 :: .int 0 :: v9 :: v10 :: v11 :: v12 :: v13 :: v14 :: v15 :: v16 :: v17 :: v18 :: v19 :: v20 :: v21 :: .ref p22 :: .int 20 :: v23 :: v24 :: v25 :: v26 :: v27 :: v28 :: v29 :: v30 :: v31 :: v32 :: v33 :: v34 :: v35 :: v36 :: v37 :: v38 :: v39 :: v40 :: v41 :: v42 :: v43 :: v44 :: v45 :: v46 :: v47 :: v48 :: v49 :: v50 :: v51 :: v52 :: v53 :: v54 :: v55 :: v56 :: v57 :: v58 :: v59 :: v60 :: v61 :: v62 :: v63 :: v64 :: v65 :: v66 :: v67 :: v68 :: v69 :: v70 :: v71 :: v72 :: v73 :: v74 :: v75 :: []))), (p22, .inl (k 0, 600, .inl u))]) := by
  refine Met.ofW (cc := cX10_feed) (maxL := 8) (ret := (some .int)) (by decide) rfl ?_
  intro p e s m args below meth c s₁ B hml hv
  obtain ⟨rfl, hsz, hP, hX, hD0, hZ0⟩ := hv
  have hx := B.exec
  have hb := B.bytes
  have hr := B.returns
  have hts := atoms_spec (ws := wsX10_feed) B.pre
  have hown : s.vm.findClass RX10 = some m.cls := findClass_of_methodNamed B.named
  subst hsz
  have hD := hD0.self (sz := s.heap.size)
  have hZ := ZX.up hP hZ0
  generalize hAe : va_A [(p0, .inr (7, (v6 :: v7 :: v8 :: v9 :: v10 :: v11 :: v12 :: v13 :: v14 :: v15 :: v16 :: v17 :: v18 :: v19 :: v20 :: v21 :: .ref p22 :: .int 0 :: v23 :: v24 :: v25 :: v26 :: v27 :: v28 :: v29 :: v30 :: v31 :: v32 :: v33 :: v34 :: v35 :: v36 :: v37 :: v38 :: v39 :: v40 :: v41 :: v42 :: v43 :: v44 :: v45 :: v46 :: v47 :: v48 :: v49 :: v50 :: v51 :: v52 :: v53 :: v54 :: v55 :: v56 :: v57 :: v58 :: v59 :: v60 :: v61 :: v62 :: v63 :: v64 :: v65 :: v66 :: v67 :: v68 :: v69 :: v70 :: v71 :: v72 :: v73 :: v74 :: v75 :: []))), (p22, .inl (k 0, 600, .inl f76))] s.heap.size = A at hD hZ ⊢
  have hA : ∀ q : Nat, s.heap.size ≤ q → A q := fun q h => by rw [← hAe]; exact Or.inr h
  have hS : va_S A s.heap s.heap [] := va_S.rf
  have hP : va_P G vwCl [(p0, .inr (7, (v6 :: v7 :: v8 :: v9 :: v10 :: v11 :: v12 :: v13 :: v14 :: v15 :: v16 :: v17 :: v18 :: v19 :: v20 :: v21 :: .ref p22 :: .int 0 :: v23 :: v24 :: v25 :: v26 :: v27 :: v28 :: v29 :: v30 :: v31 :: v32 :: v33 :: v34 :: v35 :: v36 :: v37 :: v38 :: v39 :: v40 :: v41 :: v42 :: v43 :: v44 :: v45 :: v46 :: v47 :: v48 :: v49 :: v50 :: v51 :: v52 :: v53 :: v54 :: v55 :: v56 :: v57 :: v58 :: v59 :: v60 :: v61 :: v62 :: v63 :: v64 :: v65 :: v66 :: v67 :: v68 :: v69 :: v70 :: v71 :: v72 :: v73 :: v74 :: v75 :: []))), (p22, .inl (k 0, 600, .inl f76))] s.heap := hP
  have hl := lv_entry ([.ref p0, .int i1, .int i2, .int i3, .int i4, .int i5]) (n := 8) (Nat.le_of_ble_eq_true rfl)
  rw [lg_entry_eq]
  generalize (lg_sl ([.ref p0, .int i1, .int i2, .int i3, .int i4, .int i5]) ++ List.replicate (8 - (lg_sl ([.ref p0, .int i1, .int i2, .int i3, .int i4, .int i5])).length) Slot.unset).toArray = ls at hl ⊢
  have hl : lv_has ls 8 [(0, .ref p0), (1, .int i1), (2, .int i2), (3, .int i3), (4, .int i4), (5, .int i5)] := hl
  have h0w := hts (.fieldLink RX10 171 "RopeTownModel" "code" "I") (by decide +kernel)
  have h1w : ∀ w ∈ wsX100, w ∈ wsX10_feed := by decide +kernel
  have h2w := hts (.fieldLink RX10 181 "RopeTownModel" "taped" "I") (by decide +kernel)
  have h3w := hts (.fieldLink RX10 80 "RopeTownModel" "tape" "[I") (by decide +kernel)
  refine lv_aload_n hx hb dX10_feed_0 rfl (lv_at hl 0 rfl) ?_
  refine lv_iconst (v := 0) hx hb dX10_feed_1 (by decide +kernel) ?_
  refine va_put (D := G) (ci := 7) (v := .int 0) (ty := .int) (C := RX10) (T := TX10) (N := 71) (ref := RX10) hx hb hts h1w tyX10 tyX10_ok nmX10 hown hX.1 hP hD hS 0 rfl rfl 2 (by decide) h0w (fun _ h9 => h9) rfl (by decide +kernel) rfl rfl (Nat.le_of_ble_eq_true rfl) dX10_feed_2 (fun H locs hP hD hS => ?_)
  refine lv_aload_n hx hb dX10_feed_5 rfl (lv_at hl 0 rfl) ?_
  refine va_get (D := G) (ci := 7) (v := .int 0) (C := RX10) (T := TX10) (N := 71) (ref := RX10) hx hb hts h1w hown hX.1 hP 0 rfl rfl 17 (by decide) h2w (fun _ h9 => h9) rfl dX10_feed_6 ?_
  refine lv_bipush (v := 20) hx hb dX10_feed_9 (by decide +kernel) ?_
  refine lv_iadd hx hb dX10_feed_11 ?_
  refine cz_ti (w := 20) (by decide +kernel) ?_
  refine lv_sipush (v := 600) hx hb dX10_feed_12 (by decide +kernel) ?_
  refine lv_icmp_le (tgt := 20) hx hb dX10_feed_15 (by decide) (fun _ => ?_) (fun q => absurd (by decide +kernel) (q))
  refine lv_iconst (v := 0) hx hb dX10_feed_20 (by decide +kernel) ?_
  refine lv_istore (lv' := [(6, .int 0), (0, .ref p0), (1, .int i1), (2, .int i2), (3, .int i3), (4, .int i4), (5, .int i5)]) hx hb dX10_feed_21 hl (by decide) rfl (fun ls hl => ?_)
  refine lv_iload hx hb dX10_feed_23 (lv_at hl 0 rfl) ?_
  refine lv_bipush (v := 20) hx hb dX10_feed_25 (by decide +kernel) ?_
  refine lv_icmp_ge (tgt := 120) hx hb dX10_feed_27 (by decide) (fun q => absurd (q) (by decide +kernel)) (fun _ => ?_)
  refine lv_iload hx hb dX10_feed_30 (lv_at hl 0 rfl) ?_
  refine lv_iconst (v := 4) hx hb dX10_feed_32 (by decide +kernel) ?_
  refine lv_icmp_ge (tgt := 40) hx hb dX10_feed_33 (by decide) (fun q => absurd (q) (by decide +kernel)) (fun _ => ?_)
  refine lv_iload_n hx hb dX10_feed_36 rfl (lv_at hl 2 rfl) ?_
  refine lv_goto (tgt := 76) hx hb dX10_feed_37 (by decide) ?_
  refine lv_istore (lv' := [(7, .int i1), (6, .int 0), (0, .ref p0), (1, .int i1), (2, .int i2), (3, .int i3), (4, .int i4), (5, .int i5)]) hx hb dX10_feed_76 hl (by decide) rfl (fun ls hl => ?_)
  refine lv_aload_n hx hb dX10_feed_78 rfl (lv_at hl 2 rfl) ?_
  refine va_get (D := G) (ci := 7) (v := .ref p22) (C := RX10) (T := TX10) (N := 71) (ref := RX10) hx hb hts h1w hown hX.1 hP 0 rfl rfl 16 (by decide) h3w (fun _ h9 => h9) rfl dX10_feed_79 ?_
  refine lv_aload_n hx hb dX10_feed_82 rfl (lv_at hl 2 rfl) ?_
  refine va_get (D := G) (ci := 7) (v := .int 0) (C := RX10) (T := TX10) (N := 71) (ref := RX10) hx hb hts h1w hown hX.1 hP 0 rfl rfl 17 (by decide) h2w (fun _ h9 => h9) rfl dX10_feed_83 ?_
  refine lv_iload hx hb dX10_feed_86 (lv_at hl 0 rfl) ?_
  refine lv_bipush (v := 24) hx hb dX10_feed_88 (by decide +kernel) ?_
  refine lv_bipush (v := 8) hx hb dX10_feed_90 (by decide +kernel) ?_
  refine lv_iload hx hb dX10_feed_92 (lv_at hl 1 rfl) ?_
  refine lv_iconst (v := 4) hx hb dX10_feed_94 (by decide +kernel) ?_
  refine lv_irem hx hb dX10_feed_95 (by decide +kernel) ?_
  refine cz_ti (w := 0) (by decide +kernel) ?_
  refine lv_imul hx hb dX10_feed_96 ?_
  refine cz_ti (w := 0) (by decide +kernel) ?_
  refine lv_isub hx hb dX10_feed_97 ?_
  refine cz_ti (w := 24) (by decide +kernel) ?_
  refine lv_ishr hx hb dX10_feed_98 ?_
  refine lv_topi (fun x_1 ex_1 => ?_)
  refine lv_sipush (v := 255) hx hb dX10_feed_99 (by decide +kernel) ?_
  refine lv_iand hx hb dX10_feed_102 ?_
  refine lv_topi (fun x_2 ex_2 => ?_)
  refine va_iast hx hb hX.1 hP hD hS 1 0 rfl rfl (by unfold vp_in; decide +kernel) dX10_feed_103 (fun H locs hP hD hS => ?_)
  refine lv_aload_n hx hb dX10_feed_104 rfl (lv_at hl 2 rfl) ?_
  refine lv_dup hx hb dX10_feed_105 rfl ?_
  refine va_get (D := G) (ci := 7) (v := .int 0) (C := RX10) (T := TX10) (N := 71) (ref := RX10) hx hb hts h1w hown hX.1 hP 0 rfl rfl 17 (by decide) h2w (fun _ h9 => h9) rfl dX10_feed_106 ?_
  refine lv_iconst (v := 1) hx hb dX10_feed_109 (by decide +kernel) ?_
  refine lv_iadd hx hb dX10_feed_110 ?_
  refine cz_ti (w := 1) (by decide +kernel) ?_
  refine va_put (D := G) (ci := 7) (v := .int 1) (ty := .int) (C := RX10) (T := TX10) (N := 71) (ref := RX10) hx hb hts h1w tyX10 tyX10_ok nmX10 hown hX.1 hP hD hS 0 rfl rfl 17 (by decide) h2w (fun _ h9 => h9) rfl (by decide +kernel) rfl rfl (Nat.le_of_ble_eq_true rfl) dX10_feed_111 (fun H locs hP hD hS => ?_)
  refine lv_iinc (v := 1) (lv' := [(6, .int 1), (7, .int i1), (0, .ref p0), (1, .int i1), (2, .int i2), (3, .int i3), (4, .int i4), (5, .int i5)]) hx hb dX10_feed_114 hl (k := 1) rfl (by decide +kernel) (by decide) rfl (fun ls hl => ?_)
  refine lv_goto (tgt := 23) hx hb dX10_feed_117 (by decide) ?_
  refine lv_iload hx hb dX10_feed_23 (lv_at hl 0 rfl) ?_
  refine lv_bipush (v := 20) hx hb dX10_feed_25 (by decide +kernel) ?_
  refine lv_icmp_ge (tgt := 120) hx hb dX10_feed_27 (by decide) (fun q => absurd (q) (by decide +kernel)) (fun _ => ?_)
  refine lv_iload hx hb dX10_feed_30 (lv_at hl 0 rfl) ?_
  refine lv_iconst (v := 4) hx hb dX10_feed_32 (by decide +kernel) ?_
  refine lv_icmp_ge (tgt := 40) hx hb dX10_feed_33 (by decide) (fun q => absurd (q) (by decide +kernel)) (fun _ => ?_)
  refine lv_iload_n hx hb dX10_feed_36 rfl (lv_at hl 3 rfl) ?_
  refine lv_goto (tgt := 76) hx hb dX10_feed_37 (by decide) ?_
  refine lv_istore (lv' := [(7, .int i1), (6, .int 1), (0, .ref p0), (1, .int i1), (2, .int i2), (3, .int i3), (4, .int i4), (5, .int i5)]) hx hb dX10_feed_76 hl (by decide) rfl (fun ls hl => ?_)
  refine lv_aload_n hx hb dX10_feed_78 rfl (lv_at hl 2 rfl) ?_
  refine va_get (D := G) (ci := 7) (v := .ref p22) (C := RX10) (T := TX10) (N := 71) (ref := RX10) hx hb hts h1w hown hX.1 hP 0 rfl rfl 16 (by decide) h3w (fun _ h9 => h9) rfl dX10_feed_79 ?_
  refine lv_aload_n hx hb dX10_feed_82 rfl (lv_at hl 2 rfl) ?_
  refine va_get (D := G) (ci := 7) (v := .int 1) (C := RX10) (T := TX10) (N := 71) (ref := RX10) hx hb hts h1w hown hX.1 hP 0 rfl rfl 17 (by decide) h2w (fun _ h9 => h9) rfl dX10_feed_83 ?_
  refine lv_iload hx hb dX10_feed_86 (lv_at hl 0 rfl) ?_
  refine lv_bipush (v := 24) hx hb dX10_feed_88 (by decide +kernel) ?_
  refine lv_bipush (v := 8) hx hb dX10_feed_90 (by decide +kernel) ?_
  refine lv_iload hx hb dX10_feed_92 (lv_at hl 1 rfl) ?_
  refine lv_iconst (v := 4) hx hb dX10_feed_94 (by decide +kernel) ?_
  refine lv_irem hx hb dX10_feed_95 (by decide +kernel) ?_
  refine cz_ti (w := 1) (by decide +kernel) ?_
  refine lv_imul hx hb dX10_feed_96 ?_
  refine cz_ti (w := 8) (by decide +kernel) ?_
  refine lv_isub hx hb dX10_feed_97 ?_
  refine cz_ti (w := 16) (by decide +kernel) ?_
  refine lv_ishr hx hb dX10_feed_98 ?_
  refine lv_topi (fun x_3 ex_3 => ?_)
  refine lv_sipush (v := 255) hx hb dX10_feed_99 (by decide +kernel) ?_
  refine lv_iand hx hb dX10_feed_102 ?_
  refine lv_topi (fun x_4 ex_4 => ?_)
  refine va_iast hx hb hX.1 hP hD hS 1 0 rfl rfl (by unfold vp_in; decide +kernel) dX10_feed_103 (fun H locs hP hD hS => ?_)
  refine lv_aload_n hx hb dX10_feed_104 rfl (lv_at hl 2 rfl) ?_
  refine lv_dup hx hb dX10_feed_105 rfl ?_
  refine va_get (D := G) (ci := 7) (v := .int 1) (C := RX10) (T := TX10) (N := 71) (ref := RX10) hx hb hts h1w hown hX.1 hP 0 rfl rfl 17 (by decide) h2w (fun _ h9 => h9) rfl dX10_feed_106 ?_
  refine lv_iconst (v := 1) hx hb dX10_feed_109 (by decide +kernel) ?_
  refine lv_iadd hx hb dX10_feed_110 ?_
  refine cz_ti (w := 2) (by decide +kernel) ?_
  refine va_put (D := G) (ci := 7) (v := .int 2) (ty := .int) (C := RX10) (T := TX10) (N := 71) (ref := RX10) hx hb hts h1w tyX10 tyX10_ok nmX10 hown hX.1 hP hD hS 0 rfl rfl 17 (by decide) h2w (fun _ h9 => h9) rfl (by decide +kernel) rfl rfl (Nat.le_of_ble_eq_true rfl) dX10_feed_111 (fun H locs hP hD hS => ?_)
  refine lv_iinc (v := 2) (lv' := [(6, .int 2), (7, .int i1), (0, .ref p0), (1, .int i1), (2, .int i2), (3, .int i3), (4, .int i4), (5, .int i5)]) hx hb dX10_feed_114 hl (k := 1) rfl (by decide +kernel) (by decide) rfl (fun ls hl => ?_)
  refine lv_goto (tgt := 23) hx hb dX10_feed_117 (by decide) ?_
  refine lv_iload hx hb dX10_feed_23 (lv_at hl 0 rfl) ?_
  refine lv_bipush (v := 20) hx hb dX10_feed_25 (by decide +kernel) ?_
  refine lv_icmp_ge (tgt := 120) hx hb dX10_feed_27 (by decide) (fun q => absurd (q) (by decide +kernel)) (fun _ => ?_)
  refine lv_iload hx hb dX10_feed_30 (lv_at hl 0 rfl) ?_
  refine lv_iconst (v := 4) hx hb dX10_feed_32 (by decide +kernel) ?_
  refine lv_icmp_ge (tgt := 40) hx hb dX10_feed_33 (by decide) (fun q => absurd (q) (by decide +kernel)) (fun _ => ?_)
  refine lv_iload_n hx hb dX10_feed_36 rfl (lv_at hl 3 rfl) ?_
  refine lv_goto (tgt := 76) hx hb dX10_feed_37 (by decide) ?_
  refine lv_istore (lv' := [(7, .int i1), (6, .int 2), (0, .ref p0), (1, .int i1), (2, .int i2), (3, .int i3), (4, .int i4), (5, .int i5)]) hx hb dX10_feed_76 hl (by decide) rfl (fun ls hl => ?_)
  refine lv_aload_n hx hb dX10_feed_78 rfl (lv_at hl 2 rfl) ?_
  refine va_get (D := G) (ci := 7) (v := .ref p22) (C := RX10) (T := TX10) (N := 71) (ref := RX10) hx hb hts h1w hown hX.1 hP 0 rfl rfl 16 (by decide) h3w (fun _ h9 => h9) rfl dX10_feed_79 ?_
  refine lv_aload_n hx hb dX10_feed_82 rfl (lv_at hl 2 rfl) ?_
  refine va_get (D := G) (ci := 7) (v := .int 2) (C := RX10) (T := TX10) (N := 71) (ref := RX10) hx hb hts h1w hown hX.1 hP 0 rfl rfl 17 (by decide) h2w (fun _ h9 => h9) rfl dX10_feed_83 ?_
  refine lv_iload hx hb dX10_feed_86 (lv_at hl 0 rfl) ?_
  refine lv_bipush (v := 24) hx hb dX10_feed_88 (by decide +kernel) ?_
  refine lv_bipush (v := 8) hx hb dX10_feed_90 (by decide +kernel) ?_
  refine lv_iload hx hb dX10_feed_92 (lv_at hl 1 rfl) ?_
  refine lv_iconst (v := 4) hx hb dX10_feed_94 (by decide +kernel) ?_
  refine lv_irem hx hb dX10_feed_95 (by decide +kernel) ?_
  refine cz_ti (w := 2) (by decide +kernel) ?_
  refine lv_imul hx hb dX10_feed_96 ?_
  refine cz_ti (w := 16) (by decide +kernel) ?_
  refine lv_isub hx hb dX10_feed_97 ?_
  refine cz_ti (w := 8) (by decide +kernel) ?_
  refine lv_ishr hx hb dX10_feed_98 ?_
  refine lv_topi (fun x_5 ex_5 => ?_)
  refine lv_sipush (v := 255) hx hb dX10_feed_99 (by decide +kernel) ?_
  refine lv_iand hx hb dX10_feed_102 ?_
  refine lv_topi (fun x_6 ex_6 => ?_)
  refine va_iast hx hb hX.1 hP hD hS 1 0 rfl rfl (by unfold vp_in; decide +kernel) dX10_feed_103 (fun H locs hP hD hS => ?_)
  obtain ⟨hP, hD⟩ : va_P G vwCl [(p0, .inr (7, (v6 :: v7 :: .int 0 :: v9 :: v10 :: v11 :: v12 :: v13 :: v14 :: v15 :: v16 :: v17 :: v18 :: v19 :: v20 :: v21 :: .ref p22 :: .int 2 :: v23 :: v24 :: v25 :: v26 :: v27 :: v28 :: v29 :: v30 :: v31 :: v32 :: v33 :: v34 :: v35 :: v36 :: v37 :: v38 :: v39 :: v40 :: v41 :: v42 :: v43 :: v44 :: v45 :: v46 :: v47 :: v48 :: v49 :: v50 :: v51 :: v52 :: v53 :: v54 :: v55 :: v56 :: v57 :: v58 :: v59 :: v60 :: v61 :: v62 :: v63 :: v64 :: v65 :: v66 :: v67 :: v68 :: v69 :: v70 :: v71 :: v72 :: v73 :: v74 :: v75 :: []))), (p22, .inl (k 0, 600, .inl (upd (upd (upd f76 (0 : Int32).toNatClampNeg x_2) (1 : Int32).toNatClampNeg x_4) (2 : Int32).toNatClampNeg x_6)))] H ∧ va_D A [(p0, .inr (7, (v6 :: v7 :: .int 0 :: v9 :: v10 :: v11 :: v12 :: v13 :: v14 :: v15 :: v16 :: v17 :: v18 :: v19 :: v20 :: v21 :: .ref p22 :: .int 2 :: v23 :: v24 :: v25 :: v26 :: v27 :: v28 :: v29 :: v30 :: v31 :: v32 :: v33 :: v34 :: v35 :: v36 :: v37 :: v38 :: v39 :: v40 :: v41 :: v42 :: v43 :: v44 :: v45 :: v46 :: v47 :: v48 :: v49 :: v50 :: v51 :: v52 :: v53 :: v54 :: v55 :: v56 :: v57 :: v58 :: v59 :: v60 :: v61 :: v62 :: v63 :: v64 :: v65 :: v66 :: v67 :: v68 :: v69 :: v70 :: v71 :: v72 :: v73 :: v74 :: v75 :: []))), (p22, .inl (k 0, 600, .inl (upd (upd (upd f76 (0 : Int32).toNatClampNeg x_2) (1 : Int32).toNatClampNeg x_4) (2 : Int32).toNatClampNeg x_6)))] := ⟨hP, hD⟩
  refine lv_aload_n hx hb dX10_feed_104 rfl (lv_at hl 2 rfl) ?_
  refine lv_dup hx hb dX10_feed_105 rfl ?_
  refine va_get (D := G) (ci := 7) (v := .int 2) (C := RX10) (T := TX10) (N := 71) (ref := RX10) hx hb hts h1w hown hX.1 hP 0 rfl rfl 17 (by decide) h2w (fun _ h9 => h9) rfl dX10_feed_106 ?_
  refine lv_iconst (v := 1) hx hb dX10_feed_109 (by decide +kernel) ?_
  refine lv_iadd hx hb dX10_feed_110 ?_
  refine cz_ti (w := 3) (by decide +kernel) ?_
  refine va_put (D := G) (ci := 7) (v := .int 3) (ty := .int) (C := RX10) (T := TX10) (N := 71) (ref := RX10) hx hb hts h1w tyX10 tyX10_ok nmX10 hown hX.1 hP hD hS 0 rfl rfl 17 (by decide) h2w (fun _ h9 => h9) rfl (by decide +kernel) rfl rfl (Nat.le_of_ble_eq_true rfl) dX10_feed_111 (fun H locs hP hD hS => ?_)
  refine lv_iinc (v := 3) (lv' := [(6, .int 3), (7, .int i1), (0, .ref p0), (1, .int i1), (2, .int i2), (3, .int i3), (4, .int i4), (5, .int i5)]) hx hb dX10_feed_114 hl (k := 1) rfl (by decide +kernel) (by decide) rfl (fun ls hl => ?_)
  refine lv_goto (tgt := 23) hx hb dX10_feed_117 (by decide) ?_
  refine lv_iload hx hb dX10_feed_23 (lv_at hl 0 rfl) ?_
  refine lv_bipush (v := 20) hx hb dX10_feed_25 (by decide +kernel) ?_
  refine lv_icmp_ge (tgt := 120) hx hb dX10_feed_27 (by decide) (fun q => absurd (q) (by decide +kernel)) (fun _ => ?_)
  refine lv_iload hx hb dX10_feed_30 (lv_at hl 0 rfl) ?_
  refine lv_iconst (v := 4) hx hb dX10_feed_32 (by decide +kernel) ?_
  refine lv_icmp_ge (tgt := 40) hx hb dX10_feed_33 (by decide) (fun q => absurd (q) (by decide +kernel)) (fun _ => ?_)
  refine lv_iload_n hx hb dX10_feed_36 rfl (lv_at hl 3 rfl) ?_
  refine lv_goto (tgt := 76) hx hb dX10_feed_37 (by decide) ?_
  refine lv_istore (lv' := [(7, .int i1), (6, .int 3), (0, .ref p0), (1, .int i1), (2, .int i2), (3, .int i3), (4, .int i4), (5, .int i5)]) hx hb dX10_feed_76 hl (by decide) rfl (fun ls hl => ?_)
  refine lv_aload_n hx hb dX10_feed_78 rfl (lv_at hl 2 rfl) ?_
  refine va_get (D := G) (ci := 7) (v := .ref p22) (C := RX10) (T := TX10) (N := 71) (ref := RX10) hx hb hts h1w hown hX.1 hP 0 rfl rfl 16 (by decide) h3w (fun _ h9 => h9) rfl dX10_feed_79 ?_
  refine lv_aload_n hx hb dX10_feed_82 rfl (lv_at hl 2 rfl) ?_
  refine va_get (D := G) (ci := 7) (v := .int 3) (C := RX10) (T := TX10) (N := 71) (ref := RX10) hx hb hts h1w hown hX.1 hP 0 rfl rfl 17 (by decide) h2w (fun _ h9 => h9) rfl dX10_feed_83 ?_
  refine lv_iload hx hb dX10_feed_86 (lv_at hl 0 rfl) ?_
  refine lv_bipush (v := 24) hx hb dX10_feed_88 (by decide +kernel) ?_
  refine lv_bipush (v := 8) hx hb dX10_feed_90 (by decide +kernel) ?_
  refine lv_iload hx hb dX10_feed_92 (lv_at hl 1 rfl) ?_
  refine lv_iconst (v := 4) hx hb dX10_feed_94 (by decide +kernel) ?_
  refine lv_irem hx hb dX10_feed_95 (by decide +kernel) ?_
  refine cz_ti (w := 3) (by decide +kernel) ?_
  refine lv_imul hx hb dX10_feed_96 ?_
  refine cz_ti (w := 24) (by decide +kernel) ?_
  refine lv_isub hx hb dX10_feed_97 ?_
  refine cz_ti (w := 0) (by decide +kernel) ?_
  refine lv_ishr hx hb dX10_feed_98 ?_
  refine lv_topi (fun x_7 ex_7 => ?_)
  refine lv_sipush (v := 255) hx hb dX10_feed_99 (by decide +kernel) ?_
  refine lv_iand hx hb dX10_feed_102 ?_
  refine lv_topi (fun x_8 ex_8 => ?_)
  refine va_iast hx hb hX.1 hP hD hS 1 0 rfl rfl (by unfold vp_in; decide +kernel) dX10_feed_103 (fun H locs hP hD hS => ?_)
  refine lv_aload_n hx hb dX10_feed_104 rfl (lv_at hl 2 rfl) ?_
  refine lv_dup hx hb dX10_feed_105 rfl ?_
  refine va_get (D := G) (ci := 7) (v := .int 3) (C := RX10) (T := TX10) (N := 71) (ref := RX10) hx hb hts h1w hown hX.1 hP 0 rfl rfl 17 (by decide) h2w (fun _ h9 => h9) rfl dX10_feed_106 ?_
  refine lv_iconst (v := 1) hx hb dX10_feed_109 (by decide +kernel) ?_
  refine lv_iadd hx hb dX10_feed_110 ?_
  refine cz_ti (w := 4) (by decide +kernel) ?_
  refine va_put (D := G) (ci := 7) (v := .int 4) (ty := .int) (C := RX10) (T := TX10) (N := 71) (ref := RX10) hx hb hts h1w tyX10 tyX10_ok nmX10 hown hX.1 hP hD hS 0 rfl rfl 17 (by decide) h2w (fun _ h9 => h9) rfl (by decide +kernel) rfl rfl (Nat.le_of_ble_eq_true rfl) dX10_feed_111 (fun H locs hP hD hS => ?_)
  refine lv_iinc (v := 4) (lv' := [(6, .int 4), (7, .int i1), (0, .ref p0), (1, .int i1), (2, .int i2), (3, .int i3), (4, .int i4), (5, .int i5)]) hx hb dX10_feed_114 hl (k := 1) rfl (by decide +kernel) (by decide) rfl (fun ls hl => ?_)
  refine lv_goto (tgt := 23) hx hb dX10_feed_117 (by decide) ?_
  refine lv_iload hx hb dX10_feed_23 (lv_at hl 0 rfl) ?_
  refine lv_bipush (v := 20) hx hb dX10_feed_25 (by decide +kernel) ?_
  refine lv_icmp_ge (tgt := 120) hx hb dX10_feed_27 (by decide) (fun q => absurd (q) (by decide +kernel)) (fun _ => ?_)
  refine lv_iload hx hb dX10_feed_30 (lv_at hl 0 rfl) ?_
  refine lv_iconst (v := 4) hx hb dX10_feed_32 (by decide +kernel) ?_
  refine lv_icmp_ge (tgt := 40) hx hb dX10_feed_33 (by decide) (fun _ => ?_) (fun q => absurd (by decide +kernel) (q))
  refine lv_iload hx hb dX10_feed_40 (lv_at hl 0 rfl) ?_
  refine lv_bipush (v := 8) hx hb dX10_feed_42 (by decide +kernel) ?_
  refine lv_icmp_ge (tgt := 51) hx hb dX10_feed_44 (by decide) (fun q => absurd (q) (by decide +kernel)) (fun _ => ?_)
  refine lv_iload_n hx hb dX10_feed_47 rfl (lv_at hl 4 rfl) ?_
  refine lv_goto (tgt := 76) hx hb dX10_feed_48 (by decide) ?_
  refine lv_istore (lv' := [(7, .int i2), (6, .int 4), (0, .ref p0), (1, .int i1), (2, .int i2), (3, .int i3), (4, .int i4), (5, .int i5)]) hx hb dX10_feed_76 hl (by decide) rfl (fun ls hl => ?_)
  refine lv_aload_n hx hb dX10_feed_78 rfl (lv_at hl 2 rfl) ?_
  refine va_get (D := G) (ci := 7) (v := .ref p22) (C := RX10) (T := TX10) (N := 71) (ref := RX10) hx hb hts h1w hown hX.1 hP 0 rfl rfl 16 (by decide) h3w (fun _ h9 => h9) rfl dX10_feed_79 ?_
  refine lv_aload_n hx hb dX10_feed_82 rfl (lv_at hl 2 rfl) ?_
  refine va_get (D := G) (ci := 7) (v := .int 4) (C := RX10) (T := TX10) (N := 71) (ref := RX10) hx hb hts h1w hown hX.1 hP 0 rfl rfl 17 (by decide) h2w (fun _ h9 => h9) rfl dX10_feed_83 ?_
  refine lv_iload hx hb dX10_feed_86 (lv_at hl 0 rfl) ?_
  refine lv_bipush (v := 24) hx hb dX10_feed_88 (by decide +kernel) ?_
  refine lv_bipush (v := 8) hx hb dX10_feed_90 (by decide +kernel) ?_
  refine lv_iload hx hb dX10_feed_92 (lv_at hl 1 rfl) ?_
  refine lv_iconst (v := 4) hx hb dX10_feed_94 (by decide +kernel) ?_
  refine lv_irem hx hb dX10_feed_95 (by decide +kernel) ?_
  refine cz_ti (w := 0) (by decide +kernel) ?_
  refine lv_imul hx hb dX10_feed_96 ?_
  refine cz_ti (w := 0) (by decide +kernel) ?_
  refine lv_isub hx hb dX10_feed_97 ?_
  refine cz_ti (w := 24) (by decide +kernel) ?_
  refine lv_ishr hx hb dX10_feed_98 ?_
  refine lv_topi (fun x_9 ex_9 => ?_)
  refine lv_sipush (v := 255) hx hb dX10_feed_99 (by decide +kernel) ?_
  refine lv_iand hx hb dX10_feed_102 ?_
  refine lv_topi (fun x_10 ex_10 => ?_)
  refine va_iast hx hb hX.1 hP hD hS 1 0 rfl rfl (by unfold vp_in; decide +kernel) dX10_feed_103 (fun H locs hP hD hS => ?_)
  refine lv_aload_n hx hb dX10_feed_104 rfl (lv_at hl 2 rfl) ?_
  refine lv_dup hx hb dX10_feed_105 rfl ?_
  refine va_get (D := G) (ci := 7) (v := .int 4) (C := RX10) (T := TX10) (N := 71) (ref := RX10) hx hb hts h1w hown hX.1 hP 0 rfl rfl 17 (by decide) h2w (fun _ h9 => h9) rfl dX10_feed_106 ?_
  refine lv_iconst (v := 1) hx hb dX10_feed_109 (by decide +kernel) ?_
  refine lv_iadd hx hb dX10_feed_110 ?_
  refine cz_ti (w := 5) (by decide +kernel) ?_
  refine va_put (D := G) (ci := 7) (v := .int 5) (ty := .int) (C := RX10) (T := TX10) (N := 71) (ref := RX10) hx hb hts h1w tyX10 tyX10_ok nmX10 hown hX.1 hP hD hS 0 rfl rfl 17 (by decide) h2w (fun _ h9 => h9) rfl (by decide +kernel) rfl rfl (Nat.le_of_ble_eq_true rfl) dX10_feed_111 (fun H locs hP hD hS => ?_)
  refine lv_iinc (v := 5) (lv' := [(6, .int 5), (7, .int i2), (0, .ref p0), (1, .int i1), (2, .int i2), (3, .int i3), (4, .int i4), (5, .int i5)]) hx hb dX10_feed_114 hl (k := 1) rfl (by decide +kernel) (by decide) rfl (fun ls hl => ?_)
  refine lv_goto (tgt := 23) hx hb dX10_feed_117 (by decide) ?_
  refine lv_iload hx hb dX10_feed_23 (lv_at hl 0 rfl) ?_
  refine lv_bipush (v := 20) hx hb dX10_feed_25 (by decide +kernel) ?_
  refine lv_icmp_ge (tgt := 120) hx hb dX10_feed_27 (by decide) (fun q => absurd (q) (by decide +kernel)) (fun _ => ?_)
  refine lv_iload hx hb dX10_feed_30 (lv_at hl 0 rfl) ?_
  refine lv_iconst (v := 4) hx hb dX10_feed_32 (by decide +kernel) ?_
  refine lv_icmp_ge (tgt := 40) hx hb dX10_feed_33 (by decide) (fun _ => ?_) (fun q => absurd (by decide +kernel) (q))
  refine lv_iload hx hb dX10_feed_40 (lv_at hl 0 rfl) ?_
  refine lv_bipush (v := 8) hx hb dX10_feed_42 (by decide +kernel) ?_
  refine lv_icmp_ge (tgt := 51) hx hb dX10_feed_44 (by decide) (fun q => absurd (q) (by decide +kernel)) (fun _ => ?_)
  refine lv_iload_n hx hb dX10_feed_47 rfl (lv_at hl 4 rfl) ?_
  refine lv_goto (tgt := 76) hx hb dX10_feed_48 (by decide) ?_
  refine lv_istore (lv' := [(7, .int i2), (6, .int 5), (0, .ref p0), (1, .int i1), (2, .int i2), (3, .int i3), (4, .int i4), (5, .int i5)]) hx hb dX10_feed_76 hl (by decide) rfl (fun ls hl => ?_)
  refine lv_aload_n hx hb dX10_feed_78 rfl (lv_at hl 2 rfl) ?_
  refine va_get (D := G) (ci := 7) (v := .ref p22) (C := RX10) (T := TX10) (N := 71) (ref := RX10) hx hb hts h1w hown hX.1 hP 0 rfl rfl 16 (by decide) h3w (fun _ h9 => h9) rfl dX10_feed_79 ?_
  refine lv_aload_n hx hb dX10_feed_82 rfl (lv_at hl 2 rfl) ?_
  refine va_get (D := G) (ci := 7) (v := .int 5) (C := RX10) (T := TX10) (N := 71) (ref := RX10) hx hb hts h1w hown hX.1 hP 0 rfl rfl 17 (by decide) h2w (fun _ h9 => h9) rfl dX10_feed_83 ?_
  refine lv_iload hx hb dX10_feed_86 (lv_at hl 0 rfl) ?_
  refine lv_bipush (v := 24) hx hb dX10_feed_88 (by decide +kernel) ?_
  refine lv_bipush (v := 8) hx hb dX10_feed_90 (by decide +kernel) ?_
  refine lv_iload hx hb dX10_feed_92 (lv_at hl 1 rfl) ?_
  refine lv_iconst (v := 4) hx hb dX10_feed_94 (by decide +kernel) ?_
  refine lv_irem hx hb dX10_feed_95 (by decide +kernel) ?_
  refine cz_ti (w := 1) (by decide +kernel) ?_
  refine lv_imul hx hb dX10_feed_96 ?_
  refine cz_ti (w := 8) (by decide +kernel) ?_
  refine lv_isub hx hb dX10_feed_97 ?_
  refine cz_ti (w := 16) (by decide +kernel) ?_
  refine lv_ishr hx hb dX10_feed_98 ?_
  refine lv_topi (fun x_11 ex_11 => ?_)
  refine lv_sipush (v := 255) hx hb dX10_feed_99 (by decide +kernel) ?_
  refine lv_iand hx hb dX10_feed_102 ?_
  refine lv_topi (fun x_12 ex_12 => ?_)
  refine va_iast hx hb hX.1 hP hD hS 1 0 rfl rfl (by unfold vp_in; decide +kernel) dX10_feed_103 (fun H locs hP hD hS => ?_)
  obtain ⟨hP, hD⟩ : va_P G vwCl [(p0, .inr (7, (v6 :: v7 :: .int 0 :: v9 :: v10 :: v11 :: v12 :: v13 :: v14 :: v15 :: v16 :: v17 :: v18 :: v19 :: v20 :: v21 :: .ref p22 :: .int 5 :: v23 :: v24 :: v25 :: v26 :: v27 :: v28 :: v29 :: v30 :: v31 :: v32 :: v33 :: v34 :: v35 :: v36 :: v37 :: v38 :: v39 :: v40 :: v41 :: v42 :: v43 :: v44 :: v45 :: v46 :: v47 :: v48 :: v49 :: v50 :: v51 :: v52 :: v53 :: v54 :: v55 :: v56 :: v57 :: v58 :: v59 :: v60 :: v61 :: v62 :: v63 :: v64 :: v65 :: v66 :: v67 :: v68 :: v69 :: v70 :: v71 :: v72 :: v73 :: v74 :: v75 :: []))), (p22, .inl (k 0, 600, .inl (upd (upd (upd (upd (upd (upd f76 (0 : Int32).toNatClampNeg x_2) (1 : Int32).toNatClampNeg x_4) (2 : Int32).toNatClampNeg x_6) (3 : Int32).toNatClampNeg x_8) (4 : Int32).toNatClampNeg x_10) (5 : Int32).toNatClampNeg x_12)))] H ∧ va_D A [(p0, .inr (7, (v6 :: v7 :: .int 0 :: v9 :: v10 :: v11 :: v12 :: v13 :: v14 :: v15 :: v16 :: v17 :: v18 :: v19 :: v20 :: v21 :: .ref p22 :: .int 5 :: v23 :: v24 :: v25 :: v26 :: v27 :: v28 :: v29 :: v30 :: v31 :: v32 :: v33 :: v34 :: v35 :: v36 :: v37 :: v38 :: v39 :: v40 :: v41 :: v42 :: v43 :: v44 :: v45 :: v46 :: v47 :: v48 :: v49 :: v50 :: v51 :: v52 :: v53 :: v54 :: v55 :: v56 :: v57 :: v58 :: v59 :: v60 :: v61 :: v62 :: v63 :: v64 :: v65 :: v66 :: v67 :: v68 :: v69 :: v70 :: v71 :: v72 :: v73 :: v74 :: v75 :: []))), (p22, .inl (k 0, 600, .inl (upd (upd (upd (upd (upd (upd f76 (0 : Int32).toNatClampNeg x_2) (1 : Int32).toNatClampNeg x_4) (2 : Int32).toNatClampNeg x_6) (3 : Int32).toNatClampNeg x_8) (4 : Int32).toNatClampNeg x_10) (5 : Int32).toNatClampNeg x_12)))] := ⟨hP, hD⟩
  refine lv_aload_n hx hb dX10_feed_104 rfl (lv_at hl 2 rfl) ?_
  refine lv_dup hx hb dX10_feed_105 rfl ?_
  refine va_get (D := G) (ci := 7) (v := .int 5) (C := RX10) (T := TX10) (N := 71) (ref := RX10) hx hb hts h1w hown hX.1 hP 0 rfl rfl 17 (by decide) h2w (fun _ h9 => h9) rfl dX10_feed_106 ?_
  refine lv_iconst (v := 1) hx hb dX10_feed_109 (by decide +kernel) ?_
  refine lv_iadd hx hb dX10_feed_110 ?_
  refine cz_ti (w := 6) (by decide +kernel) ?_
  refine va_put (D := G) (ci := 7) (v := .int 6) (ty := .int) (C := RX10) (T := TX10) (N := 71) (ref := RX10) hx hb hts h1w tyX10 tyX10_ok nmX10 hown hX.1 hP hD hS 0 rfl rfl 17 (by decide) h2w (fun _ h9 => h9) rfl (by decide +kernel) rfl rfl (Nat.le_of_ble_eq_true rfl) dX10_feed_111 (fun H locs hP hD hS => ?_)
  refine lv_iinc (v := 6) (lv' := [(6, .int 6), (7, .int i2), (0, .ref p0), (1, .int i1), (2, .int i2), (3, .int i3), (4, .int i4), (5, .int i5)]) hx hb dX10_feed_114 hl (k := 1) rfl (by decide +kernel) (by decide) rfl (fun ls hl => ?_)
  refine lv_goto (tgt := 23) hx hb dX10_feed_117 (by decide) ?_
  refine lv_iload hx hb dX10_feed_23 (lv_at hl 0 rfl) ?_
  refine lv_bipush (v := 20) hx hb dX10_feed_25 (by decide +kernel) ?_
  refine lv_icmp_ge (tgt := 120) hx hb dX10_feed_27 (by decide) (fun q => absurd (q) (by decide +kernel)) (fun _ => ?_)
  refine lv_iload hx hb dX10_feed_30 (lv_at hl 0 rfl) ?_
  refine lv_iconst (v := 4) hx hb dX10_feed_32 (by decide +kernel) ?_
  refine lv_icmp_ge (tgt := 40) hx hb dX10_feed_33 (by decide) (fun _ => ?_) (fun q => absurd (by decide +kernel) (q))
  refine lv_iload hx hb dX10_feed_40 (lv_at hl 0 rfl) ?_
  refine lv_bipush (v := 8) hx hb dX10_feed_42 (by decide +kernel) ?_
  refine lv_icmp_ge (tgt := 51) hx hb dX10_feed_44 (by decide) (fun q => absurd (q) (by decide +kernel)) (fun _ => ?_)
  refine lv_iload_n hx hb dX10_feed_47 rfl (lv_at hl 4 rfl) ?_
  refine lv_goto (tgt := 76) hx hb dX10_feed_48 (by decide) ?_
  refine lv_istore (lv' := [(7, .int i2), (6, .int 6), (0, .ref p0), (1, .int i1), (2, .int i2), (3, .int i3), (4, .int i4), (5, .int i5)]) hx hb dX10_feed_76 hl (by decide) rfl (fun ls hl => ?_)
  refine lv_aload_n hx hb dX10_feed_78 rfl (lv_at hl 2 rfl) ?_
  refine va_get (D := G) (ci := 7) (v := .ref p22) (C := RX10) (T := TX10) (N := 71) (ref := RX10) hx hb hts h1w hown hX.1 hP 0 rfl rfl 16 (by decide) h3w (fun _ h9 => h9) rfl dX10_feed_79 ?_
  refine lv_aload_n hx hb dX10_feed_82 rfl (lv_at hl 2 rfl) ?_
  refine va_get (D := G) (ci := 7) (v := .int 6) (C := RX10) (T := TX10) (N := 71) (ref := RX10) hx hb hts h1w hown hX.1 hP 0 rfl rfl 17 (by decide) h2w (fun _ h9 => h9) rfl dX10_feed_83 ?_
  refine lv_iload hx hb dX10_feed_86 (lv_at hl 0 rfl) ?_
  refine lv_bipush (v := 24) hx hb dX10_feed_88 (by decide +kernel) ?_
  refine lv_bipush (v := 8) hx hb dX10_feed_90 (by decide +kernel) ?_
  refine lv_iload hx hb dX10_feed_92 (lv_at hl 1 rfl) ?_
  refine lv_iconst (v := 4) hx hb dX10_feed_94 (by decide +kernel) ?_
  refine lv_irem hx hb dX10_feed_95 (by decide +kernel) ?_
  refine cz_ti (w := 2) (by decide +kernel) ?_
  refine lv_imul hx hb dX10_feed_96 ?_
  refine cz_ti (w := 16) (by decide +kernel) ?_
  refine lv_isub hx hb dX10_feed_97 ?_
  refine cz_ti (w := 8) (by decide +kernel) ?_
  refine lv_ishr hx hb dX10_feed_98 ?_
  refine lv_topi (fun x_13 ex_13 => ?_)
  refine lv_sipush (v := 255) hx hb dX10_feed_99 (by decide +kernel) ?_
  refine lv_iand hx hb dX10_feed_102 ?_
  refine lv_topi (fun x_14 ex_14 => ?_)
  refine va_iast hx hb hX.1 hP hD hS 1 0 rfl rfl (by unfold vp_in; decide +kernel) dX10_feed_103 (fun H locs hP hD hS => ?_)
  refine lv_aload_n hx hb dX10_feed_104 rfl (lv_at hl 2 rfl) ?_
  refine lv_dup hx hb dX10_feed_105 rfl ?_
  refine va_get (D := G) (ci := 7) (v := .int 6) (C := RX10) (T := TX10) (N := 71) (ref := RX10) hx hb hts h1w hown hX.1 hP 0 rfl rfl 17 (by decide) h2w (fun _ h9 => h9) rfl dX10_feed_106 ?_
  refine lv_iconst (v := 1) hx hb dX10_feed_109 (by decide +kernel) ?_
  refine lv_iadd hx hb dX10_feed_110 ?_
  refine cz_ti (w := 7) (by decide +kernel) ?_
  refine va_put (D := G) (ci := 7) (v := .int 7) (ty := .int) (C := RX10) (T := TX10) (N := 71) (ref := RX10) hx hb hts h1w tyX10 tyX10_ok nmX10 hown hX.1 hP hD hS 0 rfl rfl 17 (by decide) h2w (fun _ h9 => h9) rfl (by decide +kernel) rfl rfl (Nat.le_of_ble_eq_true rfl) dX10_feed_111 (fun H locs hP hD hS => ?_)
  refine lv_iinc (v := 7) (lv' := [(6, .int 7), (7, .int i2), (0, .ref p0), (1, .int i1), (2, .int i2), (3, .int i3), (4, .int i4), (5, .int i5)]) hx hb dX10_feed_114 hl (k := 1) rfl (by decide +kernel) (by decide) rfl (fun ls hl => ?_)
  refine lv_goto (tgt := 23) hx hb dX10_feed_117 (by decide) ?_
  refine lv_iload hx hb dX10_feed_23 (lv_at hl 0 rfl) ?_
  refine lv_bipush (v := 20) hx hb dX10_feed_25 (by decide +kernel) ?_
  refine lv_icmp_ge (tgt := 120) hx hb dX10_feed_27 (by decide) (fun q => absurd (q) (by decide +kernel)) (fun _ => ?_)
  refine lv_iload hx hb dX10_feed_30 (lv_at hl 0 rfl) ?_
  refine lv_iconst (v := 4) hx hb dX10_feed_32 (by decide +kernel) ?_
  refine lv_icmp_ge (tgt := 40) hx hb dX10_feed_33 (by decide) (fun _ => ?_) (fun q => absurd (by decide +kernel) (q))
  refine lv_iload hx hb dX10_feed_40 (lv_at hl 0 rfl) ?_
  refine lv_bipush (v := 8) hx hb dX10_feed_42 (by decide +kernel) ?_
  refine lv_icmp_ge (tgt := 51) hx hb dX10_feed_44 (by decide) (fun q => absurd (q) (by decide +kernel)) (fun _ => ?_)
  refine lv_iload_n hx hb dX10_feed_47 rfl (lv_at hl 4 rfl) ?_
  refine lv_goto (tgt := 76) hx hb dX10_feed_48 (by decide) ?_
  refine lv_istore (lv' := [(7, .int i2), (6, .int 7), (0, .ref p0), (1, .int i1), (2, .int i2), (3, .int i3), (4, .int i4), (5, .int i5)]) hx hb dX10_feed_76 hl (by decide) rfl (fun ls hl => ?_)
  refine lv_aload_n hx hb dX10_feed_78 rfl (lv_at hl 2 rfl) ?_
  refine va_get (D := G) (ci := 7) (v := .ref p22) (C := RX10) (T := TX10) (N := 71) (ref := RX10) hx hb hts h1w hown hX.1 hP 0 rfl rfl 16 (by decide) h3w (fun _ h9 => h9) rfl dX10_feed_79 ?_
  refine lv_aload_n hx hb dX10_feed_82 rfl (lv_at hl 2 rfl) ?_
  refine va_get (D := G) (ci := 7) (v := .int 7) (C := RX10) (T := TX10) (N := 71) (ref := RX10) hx hb hts h1w hown hX.1 hP 0 rfl rfl 17 (by decide) h2w (fun _ h9 => h9) rfl dX10_feed_83 ?_
  refine lv_iload hx hb dX10_feed_86 (lv_at hl 0 rfl) ?_
  refine lv_bipush (v := 24) hx hb dX10_feed_88 (by decide +kernel) ?_
  refine lv_bipush (v := 8) hx hb dX10_feed_90 (by decide +kernel) ?_
  refine lv_iload hx hb dX10_feed_92 (lv_at hl 1 rfl) ?_
  refine lv_iconst (v := 4) hx hb dX10_feed_94 (by decide +kernel) ?_
  refine lv_irem hx hb dX10_feed_95 (by decide +kernel) ?_
  refine cz_ti (w := 3) (by decide +kernel) ?_
  refine lv_imul hx hb dX10_feed_96 ?_
  refine cz_ti (w := 24) (by decide +kernel) ?_
  refine lv_isub hx hb dX10_feed_97 ?_
  refine cz_ti (w := 0) (by decide +kernel) ?_
  refine lv_ishr hx hb dX10_feed_98 ?_
  refine lv_topi (fun x_15 ex_15 => ?_)
  refine lv_sipush (v := 255) hx hb dX10_feed_99 (by decide +kernel) ?_
  refine lv_iand hx hb dX10_feed_102 ?_
  refine lv_topi (fun x_16 ex_16 => ?_)
  refine va_iast hx hb hX.1 hP hD hS 1 0 rfl rfl (by unfold vp_in; decide +kernel) dX10_feed_103 (fun H locs hP hD hS => ?_)
  refine lv_aload_n hx hb dX10_feed_104 rfl (lv_at hl 2 rfl) ?_
  refine lv_dup hx hb dX10_feed_105 rfl ?_
  refine va_get (D := G) (ci := 7) (v := .int 7) (C := RX10) (T := TX10) (N := 71) (ref := RX10) hx hb hts h1w hown hX.1 hP 0 rfl rfl 17 (by decide) h2w (fun _ h9 => h9) rfl dX10_feed_106 ?_
  refine lv_iconst (v := 1) hx hb dX10_feed_109 (by decide +kernel) ?_
  refine lv_iadd hx hb dX10_feed_110 ?_
  refine cz_ti (w := 8) (by decide +kernel) ?_
  refine va_put (D := G) (ci := 7) (v := .int 8) (ty := .int) (C := RX10) (T := TX10) (N := 71) (ref := RX10) hx hb hts h1w tyX10 tyX10_ok nmX10 hown hX.1 hP hD hS 0 rfl rfl 17 (by decide) h2w (fun _ h9 => h9) rfl (by decide +kernel) rfl rfl (Nat.le_of_ble_eq_true rfl) dX10_feed_111 (fun H locs hP hD hS => ?_)
  refine lv_iinc (v := 8) (lv' := [(6, .int 8), (7, .int i2), (0, .ref p0), (1, .int i1), (2, .int i2), (3, .int i3), (4, .int i4), (5, .int i5)]) hx hb dX10_feed_114 hl (k := 1) rfl (by decide +kernel) (by decide) rfl (fun ls hl => ?_)
  refine lv_goto (tgt := 23) hx hb dX10_feed_117 (by decide) ?_
  refine lv_iload hx hb dX10_feed_23 (lv_at hl 0 rfl) ?_
  refine lv_bipush (v := 20) hx hb dX10_feed_25 (by decide +kernel) ?_
  refine lv_icmp_ge (tgt := 120) hx hb dX10_feed_27 (by decide) (fun q => absurd (q) (by decide +kernel)) (fun _ => ?_)
  refine lv_iload hx hb dX10_feed_30 (lv_at hl 0 rfl) ?_
  refine lv_iconst (v := 4) hx hb dX10_feed_32 (by decide +kernel) ?_
  refine lv_icmp_ge (tgt := 40) hx hb dX10_feed_33 (by decide) (fun _ => ?_) (fun q => absurd (by decide +kernel) (q))
  refine lv_iload hx hb dX10_feed_40 (lv_at hl 0 rfl) ?_
  refine lv_bipush (v := 8) hx hb dX10_feed_42 (by decide +kernel) ?_
  refine lv_icmp_ge (tgt := 51) hx hb dX10_feed_44 (by decide) (fun _ => ?_) (fun q => absurd (by decide +kernel) (q))
  refine lv_iload hx hb dX10_feed_51 (lv_at hl 0 rfl) ?_
  refine lv_bipush (v := 12) hx hb dX10_feed_53 (by decide +kernel) ?_
  refine lv_icmp_ge (tgt := 62) hx hb dX10_feed_55 (by decide) (fun q => absurd (q) (by decide +kernel)) (fun _ => ?_)
  refine lv_iload_n hx hb dX10_feed_58 rfl (lv_at hl 5 rfl) ?_
  refine lv_goto (tgt := 76) hx hb dX10_feed_59 (by decide) ?_
  refine lv_istore (lv' := [(7, .int i3), (6, .int 8), (0, .ref p0), (1, .int i1), (2, .int i2), (3, .int i3), (4, .int i4), (5, .int i5)]) hx hb dX10_feed_76 hl (by decide) rfl (fun ls hl => ?_)
  refine lv_aload_n hx hb dX10_feed_78 rfl (lv_at hl 2 rfl) ?_
  refine va_get (D := G) (ci := 7) (v := .ref p22) (C := RX10) (T := TX10) (N := 71) (ref := RX10) hx hb hts h1w hown hX.1 hP 0 rfl rfl 16 (by decide) h3w (fun _ h9 => h9) rfl dX10_feed_79 ?_
  refine lv_aload_n hx hb dX10_feed_82 rfl (lv_at hl 2 rfl) ?_
  refine va_get (D := G) (ci := 7) (v := .int 8) (C := RX10) (T := TX10) (N := 71) (ref := RX10) hx hb hts h1w hown hX.1 hP 0 rfl rfl 17 (by decide) h2w (fun _ h9 => h9) rfl dX10_feed_83 ?_
  refine lv_iload hx hb dX10_feed_86 (lv_at hl 0 rfl) ?_
  refine lv_bipush (v := 24) hx hb dX10_feed_88 (by decide +kernel) ?_
  refine lv_bipush (v := 8) hx hb dX10_feed_90 (by decide +kernel) ?_
  refine lv_iload hx hb dX10_feed_92 (lv_at hl 1 rfl) ?_
  refine lv_iconst (v := 4) hx hb dX10_feed_94 (by decide +kernel) ?_
  refine lv_irem hx hb dX10_feed_95 (by decide +kernel) ?_
  refine cz_ti (w := 0) (by decide +kernel) ?_
  refine lv_imul hx hb dX10_feed_96 ?_
  refine cz_ti (w := 0) (by decide +kernel) ?_
  refine lv_isub hx hb dX10_feed_97 ?_
  refine cz_ti (w := 24) (by decide +kernel) ?_
  refine lv_ishr hx hb dX10_feed_98 ?_
  refine lv_topi (fun x_17 ex_17 => ?_)
  refine lv_sipush (v := 255) hx hb dX10_feed_99 (by decide +kernel) ?_
  refine lv_iand hx hb dX10_feed_102 ?_
  refine lv_topi (fun x_18 ex_18 => ?_)
  refine va_iast hx hb hX.1 hP hD hS 1 0 rfl rfl (by unfold vp_in; decide +kernel) dX10_feed_103 (fun H locs hP hD hS => ?_)
  obtain ⟨hP, hD⟩ : va_P G vwCl [(p0, .inr (7, (v6 :: v7 :: .int 0 :: v9 :: v10 :: v11 :: v12 :: v13 :: v14 :: v15 :: v16 :: v17 :: v18 :: v19 :: v20 :: v21 :: .ref p22 :: .int 8 :: v23 :: v24 :: v25 :: v26 :: v27 :: v28 :: v29 :: v30 :: v31 :: v32 :: v33 :: v34 :: v35 :: v36 :: v37 :: v38 :: v39 :: v40 :: v41 :: v42 :: v43 :: v44 :: v45 :: v46 :: v47 :: v48 :: v49 :: v50 :: v51 :: v52 :: v53 :: v54 :: v55 :: v56 :: v57 :: v58 :: v59 :: v60 :: v61 :: v62 :: v63 :: v64 :: v65 :: v66 :: v67 :: v68 :: v69 :: v70 :: v71 :: v72 :: v73 :: v74 :: v75 :: []))), (p22, .inl (k 0, 600, .inl (upd (upd (upd (upd (upd (upd (upd (upd (upd f76 (0 : Int32).toNatClampNeg x_2) (1 : Int32).toNatClampNeg x_4) (2 : Int32).toNatClampNeg x_6) (3 : Int32).toNatClampNeg x_8) (4 : Int32).toNatClampNeg x_10) (5 : Int32).toNatClampNeg x_12) (6 : Int32).toNatClampNeg x_14) (7 : Int32).toNatClampNeg x_16) (8 : Int32).toNatClampNeg x_18)))] H ∧ va_D A [(p0, .inr (7, (v6 :: v7 :: .int 0 :: v9 :: v10 :: v11 :: v12 :: v13 :: v14 :: v15 :: v16 :: v17 :: v18 :: v19 :: v20 :: v21 :: .ref p22 :: .int 8 :: v23 :: v24 :: v25 :: v26 :: v27 :: v28 :: v29 :: v30 :: v31 :: v32 :: v33 :: v34 :: v35 :: v36 :: v37 :: v38 :: v39 :: v40 :: v41 :: v42 :: v43 :: v44 :: v45 :: v46 :: v47 :: v48 :: v49 :: v50 :: v51 :: v52 :: v53 :: v54 :: v55 :: v56 :: v57 :: v58 :: v59 :: v60 :: v61 :: v62 :: v63 :: v64 :: v65 :: v66 :: v67 :: v68 :: v69 :: v70 :: v71 :: v72 :: v73 :: v74 :: v75 :: []))), (p22, .inl (k 0, 600, .inl (upd (upd (upd (upd (upd (upd (upd (upd (upd f76 (0 : Int32).toNatClampNeg x_2) (1 : Int32).toNatClampNeg x_4) (2 : Int32).toNatClampNeg x_6) (3 : Int32).toNatClampNeg x_8) (4 : Int32).toNatClampNeg x_10) (5 : Int32).toNatClampNeg x_12) (6 : Int32).toNatClampNeg x_14) (7 : Int32).toNatClampNeg x_16) (8 : Int32).toNatClampNeg x_18)))] := ⟨hP, hD⟩
  refine lv_aload_n hx hb dX10_feed_104 rfl (lv_at hl 2 rfl) ?_
  refine lv_dup hx hb dX10_feed_105 rfl ?_
  refine va_get (D := G) (ci := 7) (v := .int 8) (C := RX10) (T := TX10) (N := 71) (ref := RX10) hx hb hts h1w hown hX.1 hP 0 rfl rfl 17 (by decide) h2w (fun _ h9 => h9) rfl dX10_feed_106 ?_
  refine lv_iconst (v := 1) hx hb dX10_feed_109 (by decide +kernel) ?_
  refine lv_iadd hx hb dX10_feed_110 ?_
  refine cz_ti (w := 9) (by decide +kernel) ?_
  refine va_put (D := G) (ci := 7) (v := .int 9) (ty := .int) (C := RX10) (T := TX10) (N := 71) (ref := RX10) hx hb hts h1w tyX10 tyX10_ok nmX10 hown hX.1 hP hD hS 0 rfl rfl 17 (by decide) h2w (fun _ h9 => h9) rfl (by decide +kernel) rfl rfl (Nat.le_of_ble_eq_true rfl) dX10_feed_111 (fun H locs hP hD hS => ?_)
  refine lv_iinc (v := 9) (lv' := [(6, .int 9), (7, .int i3), (0, .ref p0), (1, .int i1), (2, .int i2), (3, .int i3), (4, .int i4), (5, .int i5)]) hx hb dX10_feed_114 hl (k := 1) rfl (by decide +kernel) (by decide) rfl (fun ls hl => ?_)
  refine lv_goto (tgt := 23) hx hb dX10_feed_117 (by decide) ?_
  refine lv_iload hx hb dX10_feed_23 (lv_at hl 0 rfl) ?_
  refine lv_bipush (v := 20) hx hb dX10_feed_25 (by decide +kernel) ?_
  refine lv_icmp_ge (tgt := 120) hx hb dX10_feed_27 (by decide) (fun q => absurd (q) (by decide +kernel)) (fun _ => ?_)
  refine lv_iload hx hb dX10_feed_30 (lv_at hl 0 rfl) ?_
  refine lv_iconst (v := 4) hx hb dX10_feed_32 (by decide +kernel) ?_
  refine lv_icmp_ge (tgt := 40) hx hb dX10_feed_33 (by decide) (fun _ => ?_) (fun q => absurd (by decide +kernel) (q))
  refine lv_iload hx hb dX10_feed_40 (lv_at hl 0 rfl) ?_
  refine lv_bipush (v := 8) hx hb dX10_feed_42 (by decide +kernel) ?_
  refine lv_icmp_ge (tgt := 51) hx hb dX10_feed_44 (by decide) (fun _ => ?_) (fun q => absurd (by decide +kernel) (q))
  refine lv_iload hx hb dX10_feed_51 (lv_at hl 0 rfl) ?_
  refine lv_bipush (v := 12) hx hb dX10_feed_53 (by decide +kernel) ?_
  refine lv_icmp_ge (tgt := 62) hx hb dX10_feed_55 (by decide) (fun q => absurd (q) (by decide +kernel)) (fun _ => ?_)
  refine lv_iload_n hx hb dX10_feed_58 rfl (lv_at hl 5 rfl) ?_
  refine lv_goto (tgt := 76) hx hb dX10_feed_59 (by decide) ?_
  refine lv_istore (lv' := [(7, .int i3), (6, .int 9), (0, .ref p0), (1, .int i1), (2, .int i2), (3, .int i3), (4, .int i4), (5, .int i5)]) hx hb dX10_feed_76 hl (by decide) rfl (fun ls hl => ?_)
  refine lv_aload_n hx hb dX10_feed_78 rfl (lv_at hl 2 rfl) ?_
  refine va_get (D := G) (ci := 7) (v := .ref p22) (C := RX10) (T := TX10) (N := 71) (ref := RX10) hx hb hts h1w hown hX.1 hP 0 rfl rfl 16 (by decide) h3w (fun _ h9 => h9) rfl dX10_feed_79 ?_
  refine lv_aload_n hx hb dX10_feed_82 rfl (lv_at hl 2 rfl) ?_
  refine va_get (D := G) (ci := 7) (v := .int 9) (C := RX10) (T := TX10) (N := 71) (ref := RX10) hx hb hts h1w hown hX.1 hP 0 rfl rfl 17 (by decide) h2w (fun _ h9 => h9) rfl dX10_feed_83 ?_
  refine lv_iload hx hb dX10_feed_86 (lv_at hl 0 rfl) ?_
  refine lv_bipush (v := 24) hx hb dX10_feed_88 (by decide +kernel) ?_
  refine lv_bipush (v := 8) hx hb dX10_feed_90 (by decide +kernel) ?_
  refine lv_iload hx hb dX10_feed_92 (lv_at hl 1 rfl) ?_
  refine lv_iconst (v := 4) hx hb dX10_feed_94 (by decide +kernel) ?_
  refine lv_irem hx hb dX10_feed_95 (by decide +kernel) ?_
  refine cz_ti (w := 1) (by decide +kernel) ?_
  refine lv_imul hx hb dX10_feed_96 ?_
  refine cz_ti (w := 8) (by decide +kernel) ?_
  refine lv_isub hx hb dX10_feed_97 ?_
  refine cz_ti (w := 16) (by decide +kernel) ?_
  refine lv_ishr hx hb dX10_feed_98 ?_
  refine lv_topi (fun x_19 ex_19 => ?_)
  refine lv_sipush (v := 255) hx hb dX10_feed_99 (by decide +kernel) ?_
  refine lv_iand hx hb dX10_feed_102 ?_
  refine lv_topi (fun x_20 ex_20 => ?_)
  refine va_iast hx hb hX.1 hP hD hS 1 0 rfl rfl (by unfold vp_in; decide +kernel) dX10_feed_103 (fun H locs hP hD hS => ?_)
  refine lv_aload_n hx hb dX10_feed_104 rfl (lv_at hl 2 rfl) ?_
  refine lv_dup hx hb dX10_feed_105 rfl ?_
  refine va_get (D := G) (ci := 7) (v := .int 9) (C := RX10) (T := TX10) (N := 71) (ref := RX10) hx hb hts h1w hown hX.1 hP 0 rfl rfl 17 (by decide) h2w (fun _ h9 => h9) rfl dX10_feed_106 ?_
  refine lv_iconst (v := 1) hx hb dX10_feed_109 (by decide +kernel) ?_
  refine lv_iadd hx hb dX10_feed_110 ?_
  refine cz_ti (w := 10) (by decide +kernel) ?_
  refine va_put (D := G) (ci := 7) (v := .int 10) (ty := .int) (C := RX10) (T := TX10) (N := 71) (ref := RX10) hx hb hts h1w tyX10 tyX10_ok nmX10 hown hX.1 hP hD hS 0 rfl rfl 17 (by decide) h2w (fun _ h9 => h9) rfl (by decide +kernel) rfl rfl (Nat.le_of_ble_eq_true rfl) dX10_feed_111 (fun H locs hP hD hS => ?_)
  refine lv_iinc (v := 10) (lv' := [(6, .int 10), (7, .int i3), (0, .ref p0), (1, .int i1), (2, .int i2), (3, .int i3), (4, .int i4), (5, .int i5)]) hx hb dX10_feed_114 hl (k := 1) rfl (by decide +kernel) (by decide) rfl (fun ls hl => ?_)
  refine lv_goto (tgt := 23) hx hb dX10_feed_117 (by decide) ?_
  refine lv_iload hx hb dX10_feed_23 (lv_at hl 0 rfl) ?_
  refine lv_bipush (v := 20) hx hb dX10_feed_25 (by decide +kernel) ?_
  refine lv_icmp_ge (tgt := 120) hx hb dX10_feed_27 (by decide) (fun q => absurd (q) (by decide +kernel)) (fun _ => ?_)
  refine lv_iload hx hb dX10_feed_30 (lv_at hl 0 rfl) ?_
  refine lv_iconst (v := 4) hx hb dX10_feed_32 (by decide +kernel) ?_
  refine lv_icmp_ge (tgt := 40) hx hb dX10_feed_33 (by decide) (fun _ => ?_) (fun q => absurd (by decide +kernel) (q))
  refine lv_iload hx hb dX10_feed_40 (lv_at hl 0 rfl) ?_
  refine lv_bipush (v := 8) hx hb dX10_feed_42 (by decide +kernel) ?_
  refine lv_icmp_ge (tgt := 51) hx hb dX10_feed_44 (by decide) (fun _ => ?_) (fun q => absurd (by decide +kernel) (q))
  refine lv_iload hx hb dX10_feed_51 (lv_at hl 0 rfl) ?_
  refine lv_bipush (v := 12) hx hb dX10_feed_53 (by decide +kernel) ?_
  refine lv_icmp_ge (tgt := 62) hx hb dX10_feed_55 (by decide) (fun q => absurd (q) (by decide +kernel)) (fun _ => ?_)
  refine lv_iload_n hx hb dX10_feed_58 rfl (lv_at hl 5 rfl) ?_
  refine lv_goto (tgt := 76) hx hb dX10_feed_59 (by decide) ?_
  refine lv_istore (lv' := [(7, .int i3), (6, .int 10), (0, .ref p0), (1, .int i1), (2, .int i2), (3, .int i3), (4, .int i4), (5, .int i5)]) hx hb dX10_feed_76 hl (by decide) rfl (fun ls hl => ?_)
  refine lv_aload_n hx hb dX10_feed_78 rfl (lv_at hl 2 rfl) ?_
  refine va_get (D := G) (ci := 7) (v := .ref p22) (C := RX10) (T := TX10) (N := 71) (ref := RX10) hx hb hts h1w hown hX.1 hP 0 rfl rfl 16 (by decide) h3w (fun _ h9 => h9) rfl dX10_feed_79 ?_
  refine lv_aload_n hx hb dX10_feed_82 rfl (lv_at hl 2 rfl) ?_
  refine va_get (D := G) (ci := 7) (v := .int 10) (C := RX10) (T := TX10) (N := 71) (ref := RX10) hx hb hts h1w hown hX.1 hP 0 rfl rfl 17 (by decide) h2w (fun _ h9 => h9) rfl dX10_feed_83 ?_
  refine lv_iload hx hb dX10_feed_86 (lv_at hl 0 rfl) ?_
  refine lv_bipush (v := 24) hx hb dX10_feed_88 (by decide +kernel) ?_
  refine lv_bipush (v := 8) hx hb dX10_feed_90 (by decide +kernel) ?_
  refine lv_iload hx hb dX10_feed_92 (lv_at hl 1 rfl) ?_
  refine lv_iconst (v := 4) hx hb dX10_feed_94 (by decide +kernel) ?_
  refine lv_irem hx hb dX10_feed_95 (by decide +kernel) ?_
  refine cz_ti (w := 2) (by decide +kernel) ?_
  refine lv_imul hx hb dX10_feed_96 ?_
  refine cz_ti (w := 16) (by decide +kernel) ?_
  refine lv_isub hx hb dX10_feed_97 ?_
  refine cz_ti (w := 8) (by decide +kernel) ?_
  refine lv_ishr hx hb dX10_feed_98 ?_
  refine lv_topi (fun x_21 ex_21 => ?_)
  refine lv_sipush (v := 255) hx hb dX10_feed_99 (by decide +kernel) ?_
  refine lv_iand hx hb dX10_feed_102 ?_
  refine lv_topi (fun x_22 ex_22 => ?_)
  refine va_iast hx hb hX.1 hP hD hS 1 0 rfl rfl (by unfold vp_in; decide +kernel) dX10_feed_103 (fun H locs hP hD hS => ?_)
  refine lv_aload_n hx hb dX10_feed_104 rfl (lv_at hl 2 rfl) ?_
  refine lv_dup hx hb dX10_feed_105 rfl ?_
  refine va_get (D := G) (ci := 7) (v := .int 10) (C := RX10) (T := TX10) (N := 71) (ref := RX10) hx hb hts h1w hown hX.1 hP 0 rfl rfl 17 (by decide) h2w (fun _ h9 => h9) rfl dX10_feed_106 ?_
  refine lv_iconst (v := 1) hx hb dX10_feed_109 (by decide +kernel) ?_
  refine lv_iadd hx hb dX10_feed_110 ?_
  refine cz_ti (w := 11) (by decide +kernel) ?_
  refine va_put (D := G) (ci := 7) (v := .int 11) (ty := .int) (C := RX10) (T := TX10) (N := 71) (ref := RX10) hx hb hts h1w tyX10 tyX10_ok nmX10 hown hX.1 hP hD hS 0 rfl rfl 17 (by decide) h2w (fun _ h9 => h9) rfl (by decide +kernel) rfl rfl (Nat.le_of_ble_eq_true rfl) dX10_feed_111 (fun H locs hP hD hS => ?_)
  refine lv_iinc (v := 11) (lv' := [(6, .int 11), (7, .int i3), (0, .ref p0), (1, .int i1), (2, .int i2), (3, .int i3), (4, .int i4), (5, .int i5)]) hx hb dX10_feed_114 hl (k := 1) rfl (by decide +kernel) (by decide) rfl (fun ls hl => ?_)
  refine lv_goto (tgt := 23) hx hb dX10_feed_117 (by decide) ?_
  refine lv_iload hx hb dX10_feed_23 (lv_at hl 0 rfl) ?_
  refine lv_bipush (v := 20) hx hb dX10_feed_25 (by decide +kernel) ?_
  refine lv_icmp_ge (tgt := 120) hx hb dX10_feed_27 (by decide) (fun q => absurd (q) (by decide +kernel)) (fun _ => ?_)
  refine lv_iload hx hb dX10_feed_30 (lv_at hl 0 rfl) ?_
  refine lv_iconst (v := 4) hx hb dX10_feed_32 (by decide +kernel) ?_
  refine lv_icmp_ge (tgt := 40) hx hb dX10_feed_33 (by decide) (fun _ => ?_) (fun q => absurd (by decide +kernel) (q))
  refine lv_iload hx hb dX10_feed_40 (lv_at hl 0 rfl) ?_
  refine lv_bipush (v := 8) hx hb dX10_feed_42 (by decide +kernel) ?_
  refine lv_icmp_ge (tgt := 51) hx hb dX10_feed_44 (by decide) (fun _ => ?_) (fun q => absurd (by decide +kernel) (q))
  refine lv_iload hx hb dX10_feed_51 (lv_at hl 0 rfl) ?_
  refine lv_bipush (v := 12) hx hb dX10_feed_53 (by decide +kernel) ?_
  refine lv_icmp_ge (tgt := 62) hx hb dX10_feed_55 (by decide) (fun q => absurd (q) (by decide +kernel)) (fun _ => ?_)
  refine lv_iload_n hx hb dX10_feed_58 rfl (lv_at hl 5 rfl) ?_
  refine lv_goto (tgt := 76) hx hb dX10_feed_59 (by decide) ?_
  refine lv_istore (lv' := [(7, .int i3), (6, .int 11), (0, .ref p0), (1, .int i1), (2, .int i2), (3, .int i3), (4, .int i4), (5, .int i5)]) hx hb dX10_feed_76 hl (by decide) rfl (fun ls hl => ?_)
  refine lv_aload_n hx hb dX10_feed_78 rfl (lv_at hl 2 rfl) ?_
  refine va_get (D := G) (ci := 7) (v := .ref p22) (C := RX10) (T := TX10) (N := 71) (ref := RX10) hx hb hts h1w hown hX.1 hP 0 rfl rfl 16 (by decide) h3w (fun _ h9 => h9) rfl dX10_feed_79 ?_
  refine lv_aload_n hx hb dX10_feed_82 rfl (lv_at hl 2 rfl) ?_
  refine va_get (D := G) (ci := 7) (v := .int 11) (C := RX10) (T := TX10) (N := 71) (ref := RX10) hx hb hts h1w hown hX.1 hP 0 rfl rfl 17 (by decide) h2w (fun _ h9 => h9) rfl dX10_feed_83 ?_
  refine lv_iload hx hb dX10_feed_86 (lv_at hl 0 rfl) ?_
  refine lv_bipush (v := 24) hx hb dX10_feed_88 (by decide +kernel) ?_
  refine lv_bipush (v := 8) hx hb dX10_feed_90 (by decide +kernel) ?_
  refine lv_iload hx hb dX10_feed_92 (lv_at hl 1 rfl) ?_
  refine lv_iconst (v := 4) hx hb dX10_feed_94 (by decide +kernel) ?_
  refine lv_irem hx hb dX10_feed_95 (by decide +kernel) ?_
  refine cz_ti (w := 3) (by decide +kernel) ?_
  refine lv_imul hx hb dX10_feed_96 ?_
  refine cz_ti (w := 24) (by decide +kernel) ?_
  refine lv_isub hx hb dX10_feed_97 ?_
  refine cz_ti (w := 0) (by decide +kernel) ?_
  refine lv_ishr hx hb dX10_feed_98 ?_
  refine lv_topi (fun x_23 ex_23 => ?_)
  refine lv_sipush (v := 255) hx hb dX10_feed_99 (by decide +kernel) ?_
  refine lv_iand hx hb dX10_feed_102 ?_
  refine lv_topi (fun x_24 ex_24 => ?_)
  refine va_iast hx hb hX.1 hP hD hS 1 0 rfl rfl (by unfold vp_in; decide +kernel) dX10_feed_103 (fun H locs hP hD hS => ?_)
  obtain ⟨hP, hD⟩ : va_P G vwCl [(p0, .inr (7, (v6 :: v7 :: .int 0 :: v9 :: v10 :: v11 :: v12 :: v13 :: v14 :: v15 :: v16 :: v17 :: v18 :: v19 :: v20 :: v21 :: .ref p22 :: .int 11 :: v23 :: v24 :: v25 :: v26 :: v27 :: v28 :: v29 :: v30 :: v31 :: v32 :: v33 :: v34 :: v35 :: v36 :: v37 :: v38 :: v39 :: v40 :: v41 :: v42 :: v43 :: v44 :: v45 :: v46 :: v47 :: v48 :: v49 :: v50 :: v51 :: v52 :: v53 :: v54 :: v55 :: v56 :: v57 :: v58 :: v59 :: v60 :: v61 :: v62 :: v63 :: v64 :: v65 :: v66 :: v67 :: v68 :: v69 :: v70 :: v71 :: v72 :: v73 :: v74 :: v75 :: []))), (p22, .inl (k 0, 600, .inl (upd (upd (upd (upd (upd (upd (upd (upd (upd (upd (upd (upd f76 (0 : Int32).toNatClampNeg x_2) (1 : Int32).toNatClampNeg x_4) (2 : Int32).toNatClampNeg x_6) (3 : Int32).toNatClampNeg x_8) (4 : Int32).toNatClampNeg x_10) (5 : Int32).toNatClampNeg x_12) (6 : Int32).toNatClampNeg x_14) (7 : Int32).toNatClampNeg x_16) (8 : Int32).toNatClampNeg x_18) (9 : Int32).toNatClampNeg x_20) (10 : Int32).toNatClampNeg x_22) (11 : Int32).toNatClampNeg x_24)))] H ∧ va_D A [(p0, .inr (7, (v6 :: v7 :: .int 0 :: v9 :: v10 :: v11 :: v12 :: v13 :: v14 :: v15 :: v16 :: v17 :: v18 :: v19 :: v20 :: v21 :: .ref p22 :: .int 11 :: v23 :: v24 :: v25 :: v26 :: v27 :: v28 :: v29 :: v30 :: v31 :: v32 :: v33 :: v34 :: v35 :: v36 :: v37 :: v38 :: v39 :: v40 :: v41 :: v42 :: v43 :: v44 :: v45 :: v46 :: v47 :: v48 :: v49 :: v50 :: v51 :: v52 :: v53 :: v54 :: v55 :: v56 :: v57 :: v58 :: v59 :: v60 :: v61 :: v62 :: v63 :: v64 :: v65 :: v66 :: v67 :: v68 :: v69 :: v70 :: v71 :: v72 :: v73 :: v74 :: v75 :: []))), (p22, .inl (k 0, 600, .inl (upd (upd (upd (upd (upd (upd (upd (upd (upd (upd (upd (upd f76 (0 : Int32).toNatClampNeg x_2) (1 : Int32).toNatClampNeg x_4) (2 : Int32).toNatClampNeg x_6) (3 : Int32).toNatClampNeg x_8) (4 : Int32).toNatClampNeg x_10) (5 : Int32).toNatClampNeg x_12) (6 : Int32).toNatClampNeg x_14) (7 : Int32).toNatClampNeg x_16) (8 : Int32).toNatClampNeg x_18) (9 : Int32).toNatClampNeg x_20) (10 : Int32).toNatClampNeg x_22) (11 : Int32).toNatClampNeg x_24)))] := ⟨hP, hD⟩
  refine lv_aload_n hx hb dX10_feed_104 rfl (lv_at hl 2 rfl) ?_
  refine lv_dup hx hb dX10_feed_105 rfl ?_
  refine va_get (D := G) (ci := 7) (v := .int 11) (C := RX10) (T := TX10) (N := 71) (ref := RX10) hx hb hts h1w hown hX.1 hP 0 rfl rfl 17 (by decide) h2w (fun _ h9 => h9) rfl dX10_feed_106 ?_
  refine lv_iconst (v := 1) hx hb dX10_feed_109 (by decide +kernel) ?_
  refine lv_iadd hx hb dX10_feed_110 ?_
  refine cz_ti (w := 12) (by decide +kernel) ?_
  refine va_put (D := G) (ci := 7) (v := .int 12) (ty := .int) (C := RX10) (T := TX10) (N := 71) (ref := RX10) hx hb hts h1w tyX10 tyX10_ok nmX10 hown hX.1 hP hD hS 0 rfl rfl 17 (by decide) h2w (fun _ h9 => h9) rfl (by decide +kernel) rfl rfl (Nat.le_of_ble_eq_true rfl) dX10_feed_111 (fun H locs hP hD hS => ?_)
  refine lv_iinc (v := 12) (lv' := [(6, .int 12), (7, .int i3), (0, .ref p0), (1, .int i1), (2, .int i2), (3, .int i3), (4, .int i4), (5, .int i5)]) hx hb dX10_feed_114 hl (k := 1) rfl (by decide +kernel) (by decide) rfl (fun ls hl => ?_)
  refine lv_goto (tgt := 23) hx hb dX10_feed_117 (by decide) ?_
  refine lv_iload hx hb dX10_feed_23 (lv_at hl 0 rfl) ?_
  refine lv_bipush (v := 20) hx hb dX10_feed_25 (by decide +kernel) ?_
  refine lv_icmp_ge (tgt := 120) hx hb dX10_feed_27 (by decide) (fun q => absurd (q) (by decide +kernel)) (fun _ => ?_)
  refine lv_iload hx hb dX10_feed_30 (lv_at hl 0 rfl) ?_
  refine lv_iconst (v := 4) hx hb dX10_feed_32 (by decide +kernel) ?_
  refine lv_icmp_ge (tgt := 40) hx hb dX10_feed_33 (by decide) (fun _ => ?_) (fun q => absurd (by decide +kernel) (q))
  refine lv_iload hx hb dX10_feed_40 (lv_at hl 0 rfl) ?_
  refine lv_bipush (v := 8) hx hb dX10_feed_42 (by decide +kernel) ?_
  refine lv_icmp_ge (tgt := 51) hx hb dX10_feed_44 (by decide) (fun _ => ?_) (fun q => absurd (by decide +kernel) (q))
  refine lv_iload hx hb dX10_feed_51 (lv_at hl 0 rfl) ?_
  refine lv_bipush (v := 12) hx hb dX10_feed_53 (by decide +kernel) ?_
  refine lv_icmp_ge (tgt := 62) hx hb dX10_feed_55 (by decide) (fun _ => ?_) (fun q => absurd (by decide +kernel) (q))
  refine lv_iload hx hb dX10_feed_62 (lv_at hl 0 rfl) ?_
  refine lv_bipush (v := 16) hx hb dX10_feed_64 (by decide +kernel) ?_
  refine lv_icmp_ge (tgt := 74) hx hb dX10_feed_66 (by decide) (fun q => absurd (q) (by decide +kernel)) (fun _ => ?_)
  refine lv_iload hx hb dX10_feed_69 (lv_at hl 6 rfl) ?_
  refine lv_goto (tgt := 76) hx hb dX10_feed_71 (by decide) ?_
  refine lv_istore (lv' := [(7, .int i4), (6, .int 12), (0, .ref p0), (1, .int i1), (2, .int i2), (3, .int i3), (4, .int i4), (5, .int i5)]) hx hb dX10_feed_76 hl (by decide) rfl (fun ls hl => ?_)
  refine lv_aload_n hx hb dX10_feed_78 rfl (lv_at hl 2 rfl) ?_
  refine va_get (D := G) (ci := 7) (v := .ref p22) (C := RX10) (T := TX10) (N := 71) (ref := RX10) hx hb hts h1w hown hX.1 hP 0 rfl rfl 16 (by decide) h3w (fun _ h9 => h9) rfl dX10_feed_79 ?_
  refine lv_aload_n hx hb dX10_feed_82 rfl (lv_at hl 2 rfl) ?_
  refine va_get (D := G) (ci := 7) (v := .int 12) (C := RX10) (T := TX10) (N := 71) (ref := RX10) hx hb hts h1w hown hX.1 hP 0 rfl rfl 17 (by decide) h2w (fun _ h9 => h9) rfl dX10_feed_83 ?_
  refine lv_iload hx hb dX10_feed_86 (lv_at hl 0 rfl) ?_
  refine lv_bipush (v := 24) hx hb dX10_feed_88 (by decide +kernel) ?_
  refine lv_bipush (v := 8) hx hb dX10_feed_90 (by decide +kernel) ?_
  refine lv_iload hx hb dX10_feed_92 (lv_at hl 1 rfl) ?_
  refine lv_iconst (v := 4) hx hb dX10_feed_94 (by decide +kernel) ?_
  refine lv_irem hx hb dX10_feed_95 (by decide +kernel) ?_
  refine cz_ti (w := 0) (by decide +kernel) ?_
  refine lv_imul hx hb dX10_feed_96 ?_
  refine cz_ti (w := 0) (by decide +kernel) ?_
  refine lv_isub hx hb dX10_feed_97 ?_
  refine cz_ti (w := 24) (by decide +kernel) ?_
  refine lv_ishr hx hb dX10_feed_98 ?_
  refine lv_topi (fun x_25 ex_25 => ?_)
  refine lv_sipush (v := 255) hx hb dX10_feed_99 (by decide +kernel) ?_
  refine lv_iand hx hb dX10_feed_102 ?_
  refine lv_topi (fun x_26 ex_26 => ?_)
  refine va_iast hx hb hX.1 hP hD hS 1 0 rfl rfl (by unfold vp_in; decide +kernel) dX10_feed_103 (fun H locs hP hD hS => ?_)
  refine lv_aload_n hx hb dX10_feed_104 rfl (lv_at hl 2 rfl) ?_
  refine lv_dup hx hb dX10_feed_105 rfl ?_
  refine va_get (D := G) (ci := 7) (v := .int 12) (C := RX10) (T := TX10) (N := 71) (ref := RX10) hx hb hts h1w hown hX.1 hP 0 rfl rfl 17 (by decide) h2w (fun _ h9 => h9) rfl dX10_feed_106 ?_
  refine lv_iconst (v := 1) hx hb dX10_feed_109 (by decide +kernel) ?_
  refine lv_iadd hx hb dX10_feed_110 ?_
  refine cz_ti (w := 13) (by decide +kernel) ?_
  refine va_put (D := G) (ci := 7) (v := .int 13) (ty := .int) (C := RX10) (T := TX10) (N := 71) (ref := RX10) hx hb hts h1w tyX10 tyX10_ok nmX10 hown hX.1 hP hD hS 0 rfl rfl 17 (by decide) h2w (fun _ h9 => h9) rfl (by decide +kernel) rfl rfl (Nat.le_of_ble_eq_true rfl) dX10_feed_111 (fun H locs hP hD hS => ?_)
  refine lv_iinc (v := 13) (lv' := [(6, .int 13), (7, .int i4), (0, .ref p0), (1, .int i1), (2, .int i2), (3, .int i3), (4, .int i4), (5, .int i5)]) hx hb dX10_feed_114 hl (k := 1) rfl (by decide +kernel) (by decide) rfl (fun ls hl => ?_)
  refine lv_goto (tgt := 23) hx hb dX10_feed_117 (by decide) ?_
  refine lv_iload hx hb dX10_feed_23 (lv_at hl 0 rfl) ?_
  refine lv_bipush (v := 20) hx hb dX10_feed_25 (by decide +kernel) ?_
  refine lv_icmp_ge (tgt := 120) hx hb dX10_feed_27 (by decide) (fun q => absurd (q) (by decide +kernel)) (fun _ => ?_)
  refine lv_iload hx hb dX10_feed_30 (lv_at hl 0 rfl) ?_
  refine lv_iconst (v := 4) hx hb dX10_feed_32 (by decide +kernel) ?_
  refine lv_icmp_ge (tgt := 40) hx hb dX10_feed_33 (by decide) (fun _ => ?_) (fun q => absurd (by decide +kernel) (q))
  refine lv_iload hx hb dX10_feed_40 (lv_at hl 0 rfl) ?_
  refine lv_bipush (v := 8) hx hb dX10_feed_42 (by decide +kernel) ?_
  refine lv_icmp_ge (tgt := 51) hx hb dX10_feed_44 (by decide) (fun _ => ?_) (fun q => absurd (by decide +kernel) (q))
  refine lv_iload hx hb dX10_feed_51 (lv_at hl 0 rfl) ?_
  refine lv_bipush (v := 12) hx hb dX10_feed_53 (by decide +kernel) ?_
  refine lv_icmp_ge (tgt := 62) hx hb dX10_feed_55 (by decide) (fun _ => ?_) (fun q => absurd (by decide +kernel) (q))
  refine lv_iload hx hb dX10_feed_62 (lv_at hl 0 rfl) ?_
  refine lv_bipush (v := 16) hx hb dX10_feed_64 (by decide +kernel) ?_
  refine lv_icmp_ge (tgt := 74) hx hb dX10_feed_66 (by decide) (fun q => absurd (q) (by decide +kernel)) (fun _ => ?_)
  refine lv_iload hx hb dX10_feed_69 (lv_at hl 6 rfl) ?_
  refine lv_goto (tgt := 76) hx hb dX10_feed_71 (by decide) ?_
  refine lv_istore (lv' := [(7, .int i4), (6, .int 13), (0, .ref p0), (1, .int i1), (2, .int i2), (3, .int i3), (4, .int i4), (5, .int i5)]) hx hb dX10_feed_76 hl (by decide) rfl (fun ls hl => ?_)
  refine lv_aload_n hx hb dX10_feed_78 rfl (lv_at hl 2 rfl) ?_
  refine va_get (D := G) (ci := 7) (v := .ref p22) (C := RX10) (T := TX10) (N := 71) (ref := RX10) hx hb hts h1w hown hX.1 hP 0 rfl rfl 16 (by decide) h3w (fun _ h9 => h9) rfl dX10_feed_79 ?_
  refine lv_aload_n hx hb dX10_feed_82 rfl (lv_at hl 2 rfl) ?_
  refine va_get (D := G) (ci := 7) (v := .int 13) (C := RX10) (T := TX10) (N := 71) (ref := RX10) hx hb hts h1w hown hX.1 hP 0 rfl rfl 17 (by decide) h2w (fun _ h9 => h9) rfl dX10_feed_83 ?_
  refine lv_iload hx hb dX10_feed_86 (lv_at hl 0 rfl) ?_
  refine lv_bipush (v := 24) hx hb dX10_feed_88 (by decide +kernel) ?_
  refine lv_bipush (v := 8) hx hb dX10_feed_90 (by decide +kernel) ?_
  refine lv_iload hx hb dX10_feed_92 (lv_at hl 1 rfl) ?_
  refine lv_iconst (v := 4) hx hb dX10_feed_94 (by decide +kernel) ?_
  refine lv_irem hx hb dX10_feed_95 (by decide +kernel) ?_
  refine cz_ti (w := 1) (by decide +kernel) ?_
  refine lv_imul hx hb dX10_feed_96 ?_
  refine cz_ti (w := 8) (by decide +kernel) ?_
  refine lv_isub hx hb dX10_feed_97 ?_
  refine cz_ti (w := 16) (by decide +kernel) ?_
  refine lv_ishr hx hb dX10_feed_98 ?_
  refine lv_topi (fun x_27 ex_27 => ?_)
  refine lv_sipush (v := 255) hx hb dX10_feed_99 (by decide +kernel) ?_
  refine lv_iand hx hb dX10_feed_102 ?_
  refine lv_topi (fun x_28 ex_28 => ?_)
  refine va_iast hx hb hX.1 hP hD hS 1 0 rfl rfl (by unfold vp_in; decide +kernel) dX10_feed_103 (fun H locs hP hD hS => ?_)
  refine lv_aload_n hx hb dX10_feed_104 rfl (lv_at hl 2 rfl) ?_
  refine lv_dup hx hb dX10_feed_105 rfl ?_
  refine va_get (D := G) (ci := 7) (v := .int 13) (C := RX10) (T := TX10) (N := 71) (ref := RX10) hx hb hts h1w hown hX.1 hP 0 rfl rfl 17 (by decide) h2w (fun _ h9 => h9) rfl dX10_feed_106 ?_
  refine lv_iconst (v := 1) hx hb dX10_feed_109 (by decide +kernel) ?_
  refine lv_iadd hx hb dX10_feed_110 ?_
  refine cz_ti (w := 14) (by decide +kernel) ?_
  refine va_put (D := G) (ci := 7) (v := .int 14) (ty := .int) (C := RX10) (T := TX10) (N := 71) (ref := RX10) hx hb hts h1w tyX10 tyX10_ok nmX10 hown hX.1 hP hD hS 0 rfl rfl 17 (by decide) h2w (fun _ h9 => h9) rfl (by decide +kernel) rfl rfl (Nat.le_of_ble_eq_true rfl) dX10_feed_111 (fun H locs hP hD hS => ?_)
  refine lv_iinc (v := 14) (lv' := [(6, .int 14), (7, .int i4), (0, .ref p0), (1, .int i1), (2, .int i2), (3, .int i3), (4, .int i4), (5, .int i5)]) hx hb dX10_feed_114 hl (k := 1) rfl (by decide +kernel) (by decide) rfl (fun ls hl => ?_)
  refine lv_goto (tgt := 23) hx hb dX10_feed_117 (by decide) ?_
  refine lv_iload hx hb dX10_feed_23 (lv_at hl 0 rfl) ?_
  refine lv_bipush (v := 20) hx hb dX10_feed_25 (by decide +kernel) ?_
  refine lv_icmp_ge (tgt := 120) hx hb dX10_feed_27 (by decide) (fun q => absurd (q) (by decide +kernel)) (fun _ => ?_)
  refine lv_iload hx hb dX10_feed_30 (lv_at hl 0 rfl) ?_
  refine lv_iconst (v := 4) hx hb dX10_feed_32 (by decide +kernel) ?_
  refine lv_icmp_ge (tgt := 40) hx hb dX10_feed_33 (by decide) (fun _ => ?_) (fun q => absurd (by decide +kernel) (q))
  refine lv_iload hx hb dX10_feed_40 (lv_at hl 0 rfl) ?_
  refine lv_bipush (v := 8) hx hb dX10_feed_42 (by decide +kernel) ?_
  refine lv_icmp_ge (tgt := 51) hx hb dX10_feed_44 (by decide) (fun _ => ?_) (fun q => absurd (by decide +kernel) (q))
  refine lv_iload hx hb dX10_feed_51 (lv_at hl 0 rfl) ?_
  refine lv_bipush (v := 12) hx hb dX10_feed_53 (by decide +kernel) ?_
  refine lv_icmp_ge (tgt := 62) hx hb dX10_feed_55 (by decide) (fun _ => ?_) (fun q => absurd (by decide +kernel) (q))
  refine lv_iload hx hb dX10_feed_62 (lv_at hl 0 rfl) ?_
  refine lv_bipush (v := 16) hx hb dX10_feed_64 (by decide +kernel) ?_
  refine lv_icmp_ge (tgt := 74) hx hb dX10_feed_66 (by decide) (fun q => absurd (q) (by decide +kernel)) (fun _ => ?_)
  refine lv_iload hx hb dX10_feed_69 (lv_at hl 6 rfl) ?_
  refine lv_goto (tgt := 76) hx hb dX10_feed_71 (by decide) ?_
  refine lv_istore (lv' := [(7, .int i4), (6, .int 14), (0, .ref p0), (1, .int i1), (2, .int i2), (3, .int i3), (4, .int i4), (5, .int i5)]) hx hb dX10_feed_76 hl (by decide) rfl (fun ls hl => ?_)
  refine lv_aload_n hx hb dX10_feed_78 rfl (lv_at hl 2 rfl) ?_
  refine va_get (D := G) (ci := 7) (v := .ref p22) (C := RX10) (T := TX10) (N := 71) (ref := RX10) hx hb hts h1w hown hX.1 hP 0 rfl rfl 16 (by decide) h3w (fun _ h9 => h9) rfl dX10_feed_79 ?_
  refine lv_aload_n hx hb dX10_feed_82 rfl (lv_at hl 2 rfl) ?_
  refine va_get (D := G) (ci := 7) (v := .int 14) (C := RX10) (T := TX10) (N := 71) (ref := RX10) hx hb hts h1w hown hX.1 hP 0 rfl rfl 17 (by decide) h2w (fun _ h9 => h9) rfl dX10_feed_83 ?_
  refine lv_iload hx hb dX10_feed_86 (lv_at hl 0 rfl) ?_
  refine lv_bipush (v := 24) hx hb dX10_feed_88 (by decide +kernel) ?_
  refine lv_bipush (v := 8) hx hb dX10_feed_90 (by decide +kernel) ?_
  refine lv_iload hx hb dX10_feed_92 (lv_at hl 1 rfl) ?_
  refine lv_iconst (v := 4) hx hb dX10_feed_94 (by decide +kernel) ?_
  refine lv_irem hx hb dX10_feed_95 (by decide +kernel) ?_
  refine cz_ti (w := 2) (by decide +kernel) ?_
  refine lv_imul hx hb dX10_feed_96 ?_
  refine cz_ti (w := 16) (by decide +kernel) ?_
  refine lv_isub hx hb dX10_feed_97 ?_
  refine cz_ti (w := 8) (by decide +kernel) ?_
  refine lv_ishr hx hb dX10_feed_98 ?_
  refine lv_topi (fun x_29 ex_29 => ?_)
  refine lv_sipush (v := 255) hx hb dX10_feed_99 (by decide +kernel) ?_
  refine lv_iand hx hb dX10_feed_102 ?_
  refine lv_topi (fun x_30 ex_30 => ?_)
  refine va_iast hx hb hX.1 hP hD hS 1 0 rfl rfl (by unfold vp_in; decide +kernel) dX10_feed_103 (fun H locs hP hD hS => ?_)
  obtain ⟨hP, hD⟩ : va_P G vwCl [(p0, .inr (7, (v6 :: v7 :: .int 0 :: v9 :: v10 :: v11 :: v12 :: v13 :: v14 :: v15 :: v16 :: v17 :: v18 :: v19 :: v20 :: v21 :: .ref p22 :: .int 14 :: v23 :: v24 :: v25 :: v26 :: v27 :: v28 :: v29 :: v30 :: v31 :: v32 :: v33 :: v34 :: v35 :: v36 :: v37 :: v38 :: v39 :: v40 :: v41 :: v42 :: v43 :: v44 :: v45 :: v46 :: v47 :: v48 :: v49 :: v50 :: v51 :: v52 :: v53 :: v54 :: v55 :: v56 :: v57 :: v58 :: v59 :: v60 :: v61 :: v62 :: v63 :: v64 :: v65 :: v66 :: v67 :: v68 :: v69 :: v70 :: v71 :: v72 :: v73 :: v74 :: v75 :: []))), (p22, .inl (k 0, 600, .inl (upd (upd (upd (upd (upd (upd (upd (upd (upd (upd (upd (upd (upd (upd (upd f76 (0 : Int32).toNatClampNeg x_2) (1 : Int32).toNatClampNeg x_4) (2 : Int32).toNatClampNeg x_6) (3 : Int32).toNatClampNeg x_8) (4 : Int32).toNatClampNeg x_10) (5 : Int32).toNatClampNeg x_12) (6 : Int32).toNatClampNeg x_14) (7 : Int32).toNatClampNeg x_16) (8 : Int32).toNatClampNeg x_18) (9 : Int32).toNatClampNeg x_20) (10 : Int32).toNatClampNeg x_22) (11 : Int32).toNatClampNeg x_24) (12 : Int32).toNatClampNeg x_26) (13 : Int32).toNatClampNeg x_28) (14 : Int32).toNatClampNeg x_30)))] H ∧ va_D A [(p0, .inr (7, (v6 :: v7 :: .int 0 :: v9 :: v10 :: v11 :: v12 :: v13 :: v14 :: v15 :: v16 :: v17 :: v18 :: v19 :: v20 :: v21 :: .ref p22 :: .int 14 :: v23 :: v24 :: v25 :: v26 :: v27 :: v28 :: v29 :: v30 :: v31 :: v32 :: v33 :: v34 :: v35 :: v36 :: v37 :: v38 :: v39 :: v40 :: v41 :: v42 :: v43 :: v44 :: v45 :: v46 :: v47 :: v48 :: v49 :: v50 :: v51 :: v52 :: v53 :: v54 :: v55 :: v56 :: v57 :: v58 :: v59 :: v60 :: v61 :: v62 :: v63 :: v64 :: v65 :: v66 :: v67 :: v68 :: v69 :: v70 :: v71 :: v72 :: v73 :: v74 :: v75 :: []))), (p22, .inl (k 0, 600, .inl (upd (upd (upd (upd (upd (upd (upd (upd (upd (upd (upd (upd (upd (upd (upd f76 (0 : Int32).toNatClampNeg x_2) (1 : Int32).toNatClampNeg x_4) (2 : Int32).toNatClampNeg x_6) (3 : Int32).toNatClampNeg x_8) (4 : Int32).toNatClampNeg x_10) (5 : Int32).toNatClampNeg x_12) (6 : Int32).toNatClampNeg x_14) (7 : Int32).toNatClampNeg x_16) (8 : Int32).toNatClampNeg x_18) (9 : Int32).toNatClampNeg x_20) (10 : Int32).toNatClampNeg x_22) (11 : Int32).toNatClampNeg x_24) (12 : Int32).toNatClampNeg x_26) (13 : Int32).toNatClampNeg x_28) (14 : Int32).toNatClampNeg x_30)))] := ⟨hP, hD⟩
  refine lv_aload_n hx hb dX10_feed_104 rfl (lv_at hl 2 rfl) ?_
  refine lv_dup hx hb dX10_feed_105 rfl ?_
  refine va_get (D := G) (ci := 7) (v := .int 14) (C := RX10) (T := TX10) (N := 71) (ref := RX10) hx hb hts h1w hown hX.1 hP 0 rfl rfl 17 (by decide) h2w (fun _ h9 => h9) rfl dX10_feed_106 ?_
  refine lv_iconst (v := 1) hx hb dX10_feed_109 (by decide +kernel) ?_
  refine lv_iadd hx hb dX10_feed_110 ?_
  refine cz_ti (w := 15) (by decide +kernel) ?_
  refine va_put (D := G) (ci := 7) (v := .int 15) (ty := .int) (C := RX10) (T := TX10) (N := 71) (ref := RX10) hx hb hts h1w tyX10 tyX10_ok nmX10 hown hX.1 hP hD hS 0 rfl rfl 17 (by decide) h2w (fun _ h9 => h9) rfl (by decide +kernel) rfl rfl (Nat.le_of_ble_eq_true rfl) dX10_feed_111 (fun H locs hP hD hS => ?_)
  refine lv_iinc (v := 15) (lv' := [(6, .int 15), (7, .int i4), (0, .ref p0), (1, .int i1), (2, .int i2), (3, .int i3), (4, .int i4), (5, .int i5)]) hx hb dX10_feed_114 hl (k := 1) rfl (by decide +kernel) (by decide) rfl (fun ls hl => ?_)
  refine lv_goto (tgt := 23) hx hb dX10_feed_117 (by decide) ?_
  refine lv_iload hx hb dX10_feed_23 (lv_at hl 0 rfl) ?_
  refine lv_bipush (v := 20) hx hb dX10_feed_25 (by decide +kernel) ?_
  refine lv_icmp_ge (tgt := 120) hx hb dX10_feed_27 (by decide) (fun q => absurd (q) (by decide +kernel)) (fun _ => ?_)
  refine lv_iload hx hb dX10_feed_30 (lv_at hl 0 rfl) ?_
  refine lv_iconst (v := 4) hx hb dX10_feed_32 (by decide +kernel) ?_
  refine lv_icmp_ge (tgt := 40) hx hb dX10_feed_33 (by decide) (fun _ => ?_) (fun q => absurd (by decide +kernel) (q))
  refine lv_iload hx hb dX10_feed_40 (lv_at hl 0 rfl) ?_
  refine lv_bipush (v := 8) hx hb dX10_feed_42 (by decide +kernel) ?_
  refine lv_icmp_ge (tgt := 51) hx hb dX10_feed_44 (by decide) (fun _ => ?_) (fun q => absurd (by decide +kernel) (q))
  refine lv_iload hx hb dX10_feed_51 (lv_at hl 0 rfl) ?_
  refine lv_bipush (v := 12) hx hb dX10_feed_53 (by decide +kernel) ?_
  refine lv_icmp_ge (tgt := 62) hx hb dX10_feed_55 (by decide) (fun _ => ?_) (fun q => absurd (by decide +kernel) (q))
  refine lv_iload hx hb dX10_feed_62 (lv_at hl 0 rfl) ?_
  refine lv_bipush (v := 16) hx hb dX10_feed_64 (by decide +kernel) ?_
  refine lv_icmp_ge (tgt := 74) hx hb dX10_feed_66 (by decide) (fun q => absurd (q) (by decide +kernel)) (fun _ => ?_)
  refine lv_iload hx hb dX10_feed_69 (lv_at hl 6 rfl) ?_
  refine lv_goto (tgt := 76) hx hb dX10_feed_71 (by decide) ?_
  refine lv_istore (lv' := [(7, .int i4), (6, .int 15), (0, .ref p0), (1, .int i1), (2, .int i2), (3, .int i3), (4, .int i4), (5, .int i5)]) hx hb dX10_feed_76 hl (by decide) rfl (fun ls hl => ?_)
  refine lv_aload_n hx hb dX10_feed_78 rfl (lv_at hl 2 rfl) ?_
  refine va_get (D := G) (ci := 7) (v := .ref p22) (C := RX10) (T := TX10) (N := 71) (ref := RX10) hx hb hts h1w hown hX.1 hP 0 rfl rfl 16 (by decide) h3w (fun _ h9 => h9) rfl dX10_feed_79 ?_
  refine lv_aload_n hx hb dX10_feed_82 rfl (lv_at hl 2 rfl) ?_
  refine va_get (D := G) (ci := 7) (v := .int 15) (C := RX10) (T := TX10) (N := 71) (ref := RX10) hx hb hts h1w hown hX.1 hP 0 rfl rfl 17 (by decide) h2w (fun _ h9 => h9) rfl dX10_feed_83 ?_
  refine lv_iload hx hb dX10_feed_86 (lv_at hl 0 rfl) ?_
  refine lv_bipush (v := 24) hx hb dX10_feed_88 (by decide +kernel) ?_
  refine lv_bipush (v := 8) hx hb dX10_feed_90 (by decide +kernel) ?_
  refine lv_iload hx hb dX10_feed_92 (lv_at hl 1 rfl) ?_
  refine lv_iconst (v := 4) hx hb dX10_feed_94 (by decide +kernel) ?_
  refine lv_irem hx hb dX10_feed_95 (by decide +kernel) ?_
  refine cz_ti (w := 3) (by decide +kernel) ?_
  refine lv_imul hx hb dX10_feed_96 ?_
  refine cz_ti (w := 24) (by decide +kernel) ?_
  refine lv_isub hx hb dX10_feed_97 ?_
  refine cz_ti (w := 0) (by decide +kernel) ?_
  refine lv_ishr hx hb dX10_feed_98 ?_
  refine lv_topi (fun x_31 ex_31 => ?_)
  refine lv_sipush (v := 255) hx hb dX10_feed_99 (by decide +kernel) ?_
  refine lv_iand hx hb dX10_feed_102 ?_
  refine lv_topi (fun x_32 ex_32 => ?_)
  refine va_iast hx hb hX.1 hP hD hS 1 0 rfl rfl (by unfold vp_in; decide +kernel) dX10_feed_103 (fun H locs hP hD hS => ?_)
  refine lv_aload_n hx hb dX10_feed_104 rfl (lv_at hl 2 rfl) ?_
  refine lv_dup hx hb dX10_feed_105 rfl ?_
  refine va_get (D := G) (ci := 7) (v := .int 15) (C := RX10) (T := TX10) (N := 71) (ref := RX10) hx hb hts h1w hown hX.1 hP 0 rfl rfl 17 (by decide) h2w (fun _ h9 => h9) rfl dX10_feed_106 ?_
  refine lv_iconst (v := 1) hx hb dX10_feed_109 (by decide +kernel) ?_
  refine lv_iadd hx hb dX10_feed_110 ?_
  refine cz_ti (w := 16) (by decide +kernel) ?_
  refine va_put (D := G) (ci := 7) (v := .int 16) (ty := .int) (C := RX10) (T := TX10) (N := 71) (ref := RX10) hx hb hts h1w tyX10 tyX10_ok nmX10 hown hX.1 hP hD hS 0 rfl rfl 17 (by decide) h2w (fun _ h9 => h9) rfl (by decide +kernel) rfl rfl (Nat.le_of_ble_eq_true rfl) dX10_feed_111 (fun H locs hP hD hS => ?_)
  refine lv_iinc (v := 16) (lv' := [(6, .int 16), (7, .int i4), (0, .ref p0), (1, .int i1), (2, .int i2), (3, .int i3), (4, .int i4), (5, .int i5)]) hx hb dX10_feed_114 hl (k := 1) rfl (by decide +kernel) (by decide) rfl (fun ls hl => ?_)
  refine lv_goto (tgt := 23) hx hb dX10_feed_117 (by decide) ?_
  refine lv_iload hx hb dX10_feed_23 (lv_at hl 0 rfl) ?_
  refine lv_bipush (v := 20) hx hb dX10_feed_25 (by decide +kernel) ?_
  refine lv_icmp_ge (tgt := 120) hx hb dX10_feed_27 (by decide) (fun q => absurd (q) (by decide +kernel)) (fun _ => ?_)
  refine lv_iload hx hb dX10_feed_30 (lv_at hl 0 rfl) ?_
  refine lv_iconst (v := 4) hx hb dX10_feed_32 (by decide +kernel) ?_
  refine lv_icmp_ge (tgt := 40) hx hb dX10_feed_33 (by decide) (fun _ => ?_) (fun q => absurd (by decide +kernel) (q))
  refine lv_iload hx hb dX10_feed_40 (lv_at hl 0 rfl) ?_
  refine lv_bipush (v := 8) hx hb dX10_feed_42 (by decide +kernel) ?_
  refine lv_icmp_ge (tgt := 51) hx hb dX10_feed_44 (by decide) (fun _ => ?_) (fun q => absurd (by decide +kernel) (q))
  refine lv_iload hx hb dX10_feed_51 (lv_at hl 0 rfl) ?_
  refine lv_bipush (v := 12) hx hb dX10_feed_53 (by decide +kernel) ?_
  refine lv_icmp_ge (tgt := 62) hx hb dX10_feed_55 (by decide) (fun _ => ?_) (fun q => absurd (by decide +kernel) (q))
  refine lv_iload hx hb dX10_feed_62 (lv_at hl 0 rfl) ?_
  refine lv_bipush (v := 16) hx hb dX10_feed_64 (by decide +kernel) ?_
  refine lv_icmp_ge (tgt := 74) hx hb dX10_feed_66 (by decide) (fun _ => ?_) (fun q => absurd (by decide +kernel) (q))
  refine lv_iload hx hb dX10_feed_74 (lv_at hl 7 rfl) ?_
  refine lv_istore (lv' := [(7, .int i5), (6, .int 16), (0, .ref p0), (1, .int i1), (2, .int i2), (3, .int i3), (4, .int i4), (5, .int i5)]) hx hb dX10_feed_76 hl (by decide) rfl (fun ls hl => ?_)
  refine lv_aload_n hx hb dX10_feed_78 rfl (lv_at hl 2 rfl) ?_
  refine va_get (D := G) (ci := 7) (v := .ref p22) (C := RX10) (T := TX10) (N := 71) (ref := RX10) hx hb hts h1w hown hX.1 hP 0 rfl rfl 16 (by decide) h3w (fun _ h9 => h9) rfl dX10_feed_79 ?_
  refine lv_aload_n hx hb dX10_feed_82 rfl (lv_at hl 2 rfl) ?_
  refine va_get (D := G) (ci := 7) (v := .int 16) (C := RX10) (T := TX10) (N := 71) (ref := RX10) hx hb hts h1w hown hX.1 hP 0 rfl rfl 17 (by decide) h2w (fun _ h9 => h9) rfl dX10_feed_83 ?_
  refine lv_iload hx hb dX10_feed_86 (lv_at hl 0 rfl) ?_
  refine lv_bipush (v := 24) hx hb dX10_feed_88 (by decide +kernel) ?_
  refine lv_bipush (v := 8) hx hb dX10_feed_90 (by decide +kernel) ?_
  refine lv_iload hx hb dX10_feed_92 (lv_at hl 1 rfl) ?_
  refine lv_iconst (v := 4) hx hb dX10_feed_94 (by decide +kernel) ?_
  refine lv_irem hx hb dX10_feed_95 (by decide +kernel) ?_
  refine cz_ti (w := 0) (by decide +kernel) ?_
  refine lv_imul hx hb dX10_feed_96 ?_
  refine cz_ti (w := 0) (by decide +kernel) ?_
  refine lv_isub hx hb dX10_feed_97 ?_
  refine cz_ti (w := 24) (by decide +kernel) ?_
  refine lv_ishr hx hb dX10_feed_98 ?_
  refine lv_topi (fun x_33 ex_33 => ?_)
  refine lv_sipush (v := 255) hx hb dX10_feed_99 (by decide +kernel) ?_
  refine lv_iand hx hb dX10_feed_102 ?_
  refine lv_topi (fun x_34 ex_34 => ?_)
  refine va_iast hx hb hX.1 hP hD hS 1 0 rfl rfl (by unfold vp_in; decide +kernel) dX10_feed_103 (fun H locs hP hD hS => ?_)
  refine lv_aload_n hx hb dX10_feed_104 rfl (lv_at hl 2 rfl) ?_
  refine lv_dup hx hb dX10_feed_105 rfl ?_
  refine va_get (D := G) (ci := 7) (v := .int 16) (C := RX10) (T := TX10) (N := 71) (ref := RX10) hx hb hts h1w hown hX.1 hP 0 rfl rfl 17 (by decide) h2w (fun _ h9 => h9) rfl dX10_feed_106 ?_
  refine lv_iconst (v := 1) hx hb dX10_feed_109 (by decide +kernel) ?_
  refine lv_iadd hx hb dX10_feed_110 ?_
  refine cz_ti (w := 17) (by decide +kernel) ?_
  refine va_put (D := G) (ci := 7) (v := .int 17) (ty := .int) (C := RX10) (T := TX10) (N := 71) (ref := RX10) hx hb hts h1w tyX10 tyX10_ok nmX10 hown hX.1 hP hD hS 0 rfl rfl 17 (by decide) h2w (fun _ h9 => h9) rfl (by decide +kernel) rfl rfl (Nat.le_of_ble_eq_true rfl) dX10_feed_111 (fun H locs hP hD hS => ?_)
  refine lv_iinc (v := 17) (lv' := [(6, .int 17), (7, .int i5), (0, .ref p0), (1, .int i1), (2, .int i2), (3, .int i3), (4, .int i4), (5, .int i5)]) hx hb dX10_feed_114 hl (k := 1) rfl (by decide +kernel) (by decide) rfl (fun ls hl => ?_)
  refine lv_goto (tgt := 23) hx hb dX10_feed_117 (by decide) ?_
  refine lv_iload hx hb dX10_feed_23 (lv_at hl 0 rfl) ?_
  refine lv_bipush (v := 20) hx hb dX10_feed_25 (by decide +kernel) ?_
  refine lv_icmp_ge (tgt := 120) hx hb dX10_feed_27 (by decide) (fun q => absurd (q) (by decide +kernel)) (fun _ => ?_)
  refine lv_iload hx hb dX10_feed_30 (lv_at hl 0 rfl) ?_
  refine lv_iconst (v := 4) hx hb dX10_feed_32 (by decide +kernel) ?_
  refine lv_icmp_ge (tgt := 40) hx hb dX10_feed_33 (by decide) (fun _ => ?_) (fun q => absurd (by decide +kernel) (q))
  refine lv_iload hx hb dX10_feed_40 (lv_at hl 0 rfl) ?_
  refine lv_bipush (v := 8) hx hb dX10_feed_42 (by decide +kernel) ?_
  refine lv_icmp_ge (tgt := 51) hx hb dX10_feed_44 (by decide) (fun _ => ?_) (fun q => absurd (by decide +kernel) (q))
  refine lv_iload hx hb dX10_feed_51 (lv_at hl 0 rfl) ?_
  refine lv_bipush (v := 12) hx hb dX10_feed_53 (by decide +kernel) ?_
  refine lv_icmp_ge (tgt := 62) hx hb dX10_feed_55 (by decide) (fun _ => ?_) (fun q => absurd (by decide +kernel) (q))
  refine lv_iload hx hb dX10_feed_62 (lv_at hl 0 rfl) ?_
  refine lv_bipush (v := 16) hx hb dX10_feed_64 (by decide +kernel) ?_
  refine lv_icmp_ge (tgt := 74) hx hb dX10_feed_66 (by decide) (fun _ => ?_) (fun q => absurd (by decide +kernel) (q))
  refine lv_iload hx hb dX10_feed_74 (lv_at hl 7 rfl) ?_
  refine lv_istore (lv' := [(7, .int i5), (6, .int 17), (0, .ref p0), (1, .int i1), (2, .int i2), (3, .int i3), (4, .int i4), (5, .int i5)]) hx hb dX10_feed_76 hl (by decide) rfl (fun ls hl => ?_)
  refine lv_aload_n hx hb dX10_feed_78 rfl (lv_at hl 2 rfl) ?_
  refine va_get (D := G) (ci := 7) (v := .ref p22) (C := RX10) (T := TX10) (N := 71) (ref := RX10) hx hb hts h1w hown hX.1 hP 0 rfl rfl 16 (by decide) h3w (fun _ h9 => h9) rfl dX10_feed_79 ?_
  refine lv_aload_n hx hb dX10_feed_82 rfl (lv_at hl 2 rfl) ?_
  refine va_get (D := G) (ci := 7) (v := .int 17) (C := RX10) (T := TX10) (N := 71) (ref := RX10) hx hb hts h1w hown hX.1 hP 0 rfl rfl 17 (by decide) h2w (fun _ h9 => h9) rfl dX10_feed_83 ?_
  refine lv_iload hx hb dX10_feed_86 (lv_at hl 0 rfl) ?_
  refine lv_bipush (v := 24) hx hb dX10_feed_88 (by decide +kernel) ?_
  refine lv_bipush (v := 8) hx hb dX10_feed_90 (by decide +kernel) ?_
  refine lv_iload hx hb dX10_feed_92 (lv_at hl 1 rfl) ?_
  refine lv_iconst (v := 4) hx hb dX10_feed_94 (by decide +kernel) ?_
  refine lv_irem hx hb dX10_feed_95 (by decide +kernel) ?_
  refine cz_ti (w := 1) (by decide +kernel) ?_
  refine lv_imul hx hb dX10_feed_96 ?_
  refine cz_ti (w := 8) (by decide +kernel) ?_
  refine lv_isub hx hb dX10_feed_97 ?_
  refine cz_ti (w := 16) (by decide +kernel) ?_
  refine lv_ishr hx hb dX10_feed_98 ?_
  refine lv_topi (fun x_35 ex_35 => ?_)
  refine lv_sipush (v := 255) hx hb dX10_feed_99 (by decide +kernel) ?_
  refine lv_iand hx hb dX10_feed_102 ?_
  refine lv_topi (fun x_36 ex_36 => ?_)
  refine va_iast hx hb hX.1 hP hD hS 1 0 rfl rfl (by unfold vp_in; decide +kernel) dX10_feed_103 (fun H locs hP hD hS => ?_)
  obtain ⟨hP, hD⟩ : va_P G vwCl [(p0, .inr (7, (v6 :: v7 :: .int 0 :: v9 :: v10 :: v11 :: v12 :: v13 :: v14 :: v15 :: v16 :: v17 :: v18 :: v19 :: v20 :: v21 :: .ref p22 :: .int 17 :: v23 :: v24 :: v25 :: v26 :: v27 :: v28 :: v29 :: v30 :: v31 :: v32 :: v33 :: v34 :: v35 :: v36 :: v37 :: v38 :: v39 :: v40 :: v41 :: v42 :: v43 :: v44 :: v45 :: v46 :: v47 :: v48 :: v49 :: v50 :: v51 :: v52 :: v53 :: v54 :: v55 :: v56 :: v57 :: v58 :: v59 :: v60 :: v61 :: v62 :: v63 :: v64 :: v65 :: v66 :: v67 :: v68 :: v69 :: v70 :: v71 :: v72 :: v73 :: v74 :: v75 :: []))), (p22, .inl (k 0, 600, .inl (upd (upd (upd (upd (upd (upd (upd (upd (upd (upd (upd (upd (upd (upd (upd (upd (upd (upd f76 (0 : Int32).toNatClampNeg x_2) (1 : Int32).toNatClampNeg x_4) (2 : Int32).toNatClampNeg x_6) (3 : Int32).toNatClampNeg x_8) (4 : Int32).toNatClampNeg x_10) (5 : Int32).toNatClampNeg x_12) (6 : Int32).toNatClampNeg x_14) (7 : Int32).toNatClampNeg x_16) (8 : Int32).toNatClampNeg x_18) (9 : Int32).toNatClampNeg x_20) (10 : Int32).toNatClampNeg x_22) (11 : Int32).toNatClampNeg x_24) (12 : Int32).toNatClampNeg x_26) (13 : Int32).toNatClampNeg x_28) (14 : Int32).toNatClampNeg x_30) (15 : Int32).toNatClampNeg x_32) (16 : Int32).toNatClampNeg x_34) (17 : Int32).toNatClampNeg x_36)))] H ∧ va_D A [(p0, .inr (7, (v6 :: v7 :: .int 0 :: v9 :: v10 :: v11 :: v12 :: v13 :: v14 :: v15 :: v16 :: v17 :: v18 :: v19 :: v20 :: v21 :: .ref p22 :: .int 17 :: v23 :: v24 :: v25 :: v26 :: v27 :: v28 :: v29 :: v30 :: v31 :: v32 :: v33 :: v34 :: v35 :: v36 :: v37 :: v38 :: v39 :: v40 :: v41 :: v42 :: v43 :: v44 :: v45 :: v46 :: v47 :: v48 :: v49 :: v50 :: v51 :: v52 :: v53 :: v54 :: v55 :: v56 :: v57 :: v58 :: v59 :: v60 :: v61 :: v62 :: v63 :: v64 :: v65 :: v66 :: v67 :: v68 :: v69 :: v70 :: v71 :: v72 :: v73 :: v74 :: v75 :: []))), (p22, .inl (k 0, 600, .inl (upd (upd (upd (upd (upd (upd (upd (upd (upd (upd (upd (upd (upd (upd (upd (upd (upd (upd f76 (0 : Int32).toNatClampNeg x_2) (1 : Int32).toNatClampNeg x_4) (2 : Int32).toNatClampNeg x_6) (3 : Int32).toNatClampNeg x_8) (4 : Int32).toNatClampNeg x_10) (5 : Int32).toNatClampNeg x_12) (6 : Int32).toNatClampNeg x_14) (7 : Int32).toNatClampNeg x_16) (8 : Int32).toNatClampNeg x_18) (9 : Int32).toNatClampNeg x_20) (10 : Int32).toNatClampNeg x_22) (11 : Int32).toNatClampNeg x_24) (12 : Int32).toNatClampNeg x_26) (13 : Int32).toNatClampNeg x_28) (14 : Int32).toNatClampNeg x_30) (15 : Int32).toNatClampNeg x_32) (16 : Int32).toNatClampNeg x_34) (17 : Int32).toNatClampNeg x_36)))] := ⟨hP, hD⟩
  refine lv_aload_n hx hb dX10_feed_104 rfl (lv_at hl 2 rfl) ?_
  refine lv_dup hx hb dX10_feed_105 rfl ?_
  refine va_get (D := G) (ci := 7) (v := .int 17) (C := RX10) (T := TX10) (N := 71) (ref := RX10) hx hb hts h1w hown hX.1 hP 0 rfl rfl 17 (by decide) h2w (fun _ h9 => h9) rfl dX10_feed_106 ?_
  refine lv_iconst (v := 1) hx hb dX10_feed_109 (by decide +kernel) ?_
  refine lv_iadd hx hb dX10_feed_110 ?_
  refine cz_ti (w := 18) (by decide +kernel) ?_
  refine va_put (D := G) (ci := 7) (v := .int 18) (ty := .int) (C := RX10) (T := TX10) (N := 71) (ref := RX10) hx hb hts h1w tyX10 tyX10_ok nmX10 hown hX.1 hP hD hS 0 rfl rfl 17 (by decide) h2w (fun _ h9 => h9) rfl (by decide +kernel) rfl rfl (Nat.le_of_ble_eq_true rfl) dX10_feed_111 (fun H locs hP hD hS => ?_)
  refine lv_iinc (v := 18) (lv' := [(6, .int 18), (7, .int i5), (0, .ref p0), (1, .int i1), (2, .int i2), (3, .int i3), (4, .int i4), (5, .int i5)]) hx hb dX10_feed_114 hl (k := 1) rfl (by decide +kernel) (by decide) rfl (fun ls hl => ?_)
  refine lv_goto (tgt := 23) hx hb dX10_feed_117 (by decide) ?_
  refine lv_iload hx hb dX10_feed_23 (lv_at hl 0 rfl) ?_
  refine lv_bipush (v := 20) hx hb dX10_feed_25 (by decide +kernel) ?_
  refine lv_icmp_ge (tgt := 120) hx hb dX10_feed_27 (by decide) (fun q => absurd (q) (by decide +kernel)) (fun _ => ?_)
  refine lv_iload hx hb dX10_feed_30 (lv_at hl 0 rfl) ?_
  refine lv_iconst (v := 4) hx hb dX10_feed_32 (by decide +kernel) ?_
  refine lv_icmp_ge (tgt := 40) hx hb dX10_feed_33 (by decide) (fun _ => ?_) (fun q => absurd (by decide +kernel) (q))
  refine lv_iload hx hb dX10_feed_40 (lv_at hl 0 rfl) ?_
  refine lv_bipush (v := 8) hx hb dX10_feed_42 (by decide +kernel) ?_
  refine lv_icmp_ge (tgt := 51) hx hb dX10_feed_44 (by decide) (fun _ => ?_) (fun q => absurd (by decide +kernel) (q))
  refine lv_iload hx hb dX10_feed_51 (lv_at hl 0 rfl) ?_
  refine lv_bipush (v := 12) hx hb dX10_feed_53 (by decide +kernel) ?_
  refine lv_icmp_ge (tgt := 62) hx hb dX10_feed_55 (by decide) (fun _ => ?_) (fun q => absurd (by decide +kernel) (q))
  refine lv_iload hx hb dX10_feed_62 (lv_at hl 0 rfl) ?_
  refine lv_bipush (v := 16) hx hb dX10_feed_64 (by decide +kernel) ?_
  refine lv_icmp_ge (tgt := 74) hx hb dX10_feed_66 (by decide) (fun _ => ?_) (fun q => absurd (by decide +kernel) (q))
  refine lv_iload hx hb dX10_feed_74 (lv_at hl 7 rfl) ?_
  refine lv_istore (lv' := [(7, .int i5), (6, .int 18), (0, .ref p0), (1, .int i1), (2, .int i2), (3, .int i3), (4, .int i4), (5, .int i5)]) hx hb dX10_feed_76 hl (by decide) rfl (fun ls hl => ?_)
  refine lv_aload_n hx hb dX10_feed_78 rfl (lv_at hl 2 rfl) ?_
  refine va_get (D := G) (ci := 7) (v := .ref p22) (C := RX10) (T := TX10) (N := 71) (ref := RX10) hx hb hts h1w hown hX.1 hP 0 rfl rfl 16 (by decide) h3w (fun _ h9 => h9) rfl dX10_feed_79 ?_
  refine lv_aload_n hx hb dX10_feed_82 rfl (lv_at hl 2 rfl) ?_
  refine va_get (D := G) (ci := 7) (v := .int 18) (C := RX10) (T := TX10) (N := 71) (ref := RX10) hx hb hts h1w hown hX.1 hP 0 rfl rfl 17 (by decide) h2w (fun _ h9 => h9) rfl dX10_feed_83 ?_
  refine lv_iload hx hb dX10_feed_86 (lv_at hl 0 rfl) ?_
  refine lv_bipush (v := 24) hx hb dX10_feed_88 (by decide +kernel) ?_
  refine lv_bipush (v := 8) hx hb dX10_feed_90 (by decide +kernel) ?_
  refine lv_iload hx hb dX10_feed_92 (lv_at hl 1 rfl) ?_
  refine lv_iconst (v := 4) hx hb dX10_feed_94 (by decide +kernel) ?_
  refine lv_irem hx hb dX10_feed_95 (by decide +kernel) ?_
  refine cz_ti (w := 2) (by decide +kernel) ?_
  refine lv_imul hx hb dX10_feed_96 ?_
  refine cz_ti (w := 16) (by decide +kernel) ?_
  refine lv_isub hx hb dX10_feed_97 ?_
  refine cz_ti (w := 8) (by decide +kernel) ?_
  refine lv_ishr hx hb dX10_feed_98 ?_
  refine lv_topi (fun x_37 ex_37 => ?_)
  refine lv_sipush (v := 255) hx hb dX10_feed_99 (by decide +kernel) ?_
  refine lv_iand hx hb dX10_feed_102 ?_
  refine lv_topi (fun x_38 ex_38 => ?_)
  refine va_iast hx hb hX.1 hP hD hS 1 0 rfl rfl (by unfold vp_in; decide +kernel) dX10_feed_103 (fun H locs hP hD hS => ?_)
  refine lv_aload_n hx hb dX10_feed_104 rfl (lv_at hl 2 rfl) ?_
  refine lv_dup hx hb dX10_feed_105 rfl ?_
  refine va_get (D := G) (ci := 7) (v := .int 18) (C := RX10) (T := TX10) (N := 71) (ref := RX10) hx hb hts h1w hown hX.1 hP 0 rfl rfl 17 (by decide) h2w (fun _ h9 => h9) rfl dX10_feed_106 ?_
  refine lv_iconst (v := 1) hx hb dX10_feed_109 (by decide +kernel) ?_
  refine lv_iadd hx hb dX10_feed_110 ?_
  refine cz_ti (w := 19) (by decide +kernel) ?_
  refine va_put (D := G) (ci := 7) (v := .int 19) (ty := .int) (C := RX10) (T := TX10) (N := 71) (ref := RX10) hx hb hts h1w tyX10 tyX10_ok nmX10 hown hX.1 hP hD hS 0 rfl rfl 17 (by decide) h2w (fun _ h9 => h9) rfl (by decide +kernel) rfl rfl (Nat.le_of_ble_eq_true rfl) dX10_feed_111 (fun H locs hP hD hS => ?_)
  refine lv_iinc (v := 19) (lv' := [(6, .int 19), (7, .int i5), (0, .ref p0), (1, .int i1), (2, .int i2), (3, .int i3), (4, .int i4), (5, .int i5)]) hx hb dX10_feed_114 hl (k := 1) rfl (by decide +kernel) (by decide) rfl (fun ls hl => ?_)
  refine lv_goto (tgt := 23) hx hb dX10_feed_117 (by decide) ?_
  refine lv_iload hx hb dX10_feed_23 (lv_at hl 0 rfl) ?_
  refine lv_bipush (v := 20) hx hb dX10_feed_25 (by decide +kernel) ?_
  refine lv_icmp_ge (tgt := 120) hx hb dX10_feed_27 (by decide) (fun q => absurd (q) (by decide +kernel)) (fun _ => ?_)
  refine lv_iload hx hb dX10_feed_30 (lv_at hl 0 rfl) ?_
  refine lv_iconst (v := 4) hx hb dX10_feed_32 (by decide +kernel) ?_
  refine lv_icmp_ge (tgt := 40) hx hb dX10_feed_33 (by decide) (fun _ => ?_) (fun q => absurd (by decide +kernel) (q))
  refine lv_iload hx hb dX10_feed_40 (lv_at hl 0 rfl) ?_
  refine lv_bipush (v := 8) hx hb dX10_feed_42 (by decide +kernel) ?_
  refine lv_icmp_ge (tgt := 51) hx hb dX10_feed_44 (by decide) (fun _ => ?_) (fun q => absurd (by decide +kernel) (q))
  refine lv_iload hx hb dX10_feed_51 (lv_at hl 0 rfl) ?_
  refine lv_bipush (v := 12) hx hb dX10_feed_53 (by decide +kernel) ?_
  refine lv_icmp_ge (tgt := 62) hx hb dX10_feed_55 (by decide) (fun _ => ?_) (fun q => absurd (by decide +kernel) (q))
  refine lv_iload hx hb dX10_feed_62 (lv_at hl 0 rfl) ?_
  refine lv_bipush (v := 16) hx hb dX10_feed_64 (by decide +kernel) ?_
  refine lv_icmp_ge (tgt := 74) hx hb dX10_feed_66 (by decide) (fun _ => ?_) (fun q => absurd (by decide +kernel) (q))
  refine lv_iload hx hb dX10_feed_74 (lv_at hl 7 rfl) ?_
  refine lv_istore (lv' := [(7, .int i5), (6, .int 19), (0, .ref p0), (1, .int i1), (2, .int i2), (3, .int i3), (4, .int i4), (5, .int i5)]) hx hb dX10_feed_76 hl (by decide) rfl (fun ls hl => ?_)
  refine lv_aload_n hx hb dX10_feed_78 rfl (lv_at hl 2 rfl) ?_
  refine va_get (D := G) (ci := 7) (v := .ref p22) (C := RX10) (T := TX10) (N := 71) (ref := RX10) hx hb hts h1w hown hX.1 hP 0 rfl rfl 16 (by decide) h3w (fun _ h9 => h9) rfl dX10_feed_79 ?_
  refine lv_aload_n hx hb dX10_feed_82 rfl (lv_at hl 2 rfl) ?_
  refine va_get (D := G) (ci := 7) (v := .int 19) (C := RX10) (T := TX10) (N := 71) (ref := RX10) hx hb hts h1w hown hX.1 hP 0 rfl rfl 17 (by decide) h2w (fun _ h9 => h9) rfl dX10_feed_83 ?_
  refine lv_iload hx hb dX10_feed_86 (lv_at hl 0 rfl) ?_
  refine lv_bipush (v := 24) hx hb dX10_feed_88 (by decide +kernel) ?_
  refine lv_bipush (v := 8) hx hb dX10_feed_90 (by decide +kernel) ?_
  refine lv_iload hx hb dX10_feed_92 (lv_at hl 1 rfl) ?_
  refine lv_iconst (v := 4) hx hb dX10_feed_94 (by decide +kernel) ?_
  refine lv_irem hx hb dX10_feed_95 (by decide +kernel) ?_
  refine cz_ti (w := 3) (by decide +kernel) ?_
  refine lv_imul hx hb dX10_feed_96 ?_
  refine cz_ti (w := 24) (by decide +kernel) ?_
  refine lv_isub hx hb dX10_feed_97 ?_
  refine cz_ti (w := 0) (by decide +kernel) ?_
  refine lv_ishr hx hb dX10_feed_98 ?_
  refine lv_topi (fun x_39 ex_39 => ?_)
  refine lv_sipush (v := 255) hx hb dX10_feed_99 (by decide +kernel) ?_
  refine lv_iand hx hb dX10_feed_102 ?_
  refine lv_topi (fun x_40 ex_40 => ?_)
  refine va_iast hx hb hX.1 hP hD hS 1 0 rfl rfl (by unfold vp_in; decide +kernel) dX10_feed_103 (fun H locs hP hD hS => ?_)
  refine lv_aload_n hx hb dX10_feed_104 rfl (lv_at hl 2 rfl) ?_
  refine lv_dup hx hb dX10_feed_105 rfl ?_
  refine va_get (D := G) (ci := 7) (v := .int 19) (C := RX10) (T := TX10) (N := 71) (ref := RX10) hx hb hts h1w hown hX.1 hP 0 rfl rfl 17 (by decide) h2w (fun _ h9 => h9) rfl dX10_feed_106 ?_
  refine lv_iconst (v := 1) hx hb dX10_feed_109 (by decide +kernel) ?_
  refine lv_iadd hx hb dX10_feed_110 ?_
  refine cz_ti (w := 20) (by decide +kernel) ?_
  refine va_put (D := G) (ci := 7) (v := .int 20) (ty := .int) (C := RX10) (T := TX10) (N := 71) (ref := RX10) hx hb hts h1w tyX10 tyX10_ok nmX10 hown hX.1 hP hD hS 0 rfl rfl 17 (by decide) h2w (fun _ h9 => h9) rfl (by decide +kernel) rfl rfl (Nat.le_of_ble_eq_true rfl) dX10_feed_111 (fun H locs hP hD hS => ?_)
  refine lv_iinc (v := 20) (lv' := [(6, .int 20), (7, .int i5), (0, .ref p0), (1, .int i1), (2, .int i2), (3, .int i3), (4, .int i4), (5, .int i5)]) hx hb dX10_feed_114 hl (k := 1) rfl (by decide +kernel) (by decide) rfl (fun ls hl => ?_)
  refine lv_goto (tgt := 23) hx hb dX10_feed_117 (by decide) ?_
  refine lv_iload hx hb dX10_feed_23 (lv_at hl 0 rfl) ?_
  refine lv_bipush (v := 20) hx hb dX10_feed_25 (by decide +kernel) ?_
  refine lv_icmp_ge (tgt := 120) hx hb dX10_feed_27 (by decide) (fun _ => ?_) (fun q => absurd (by decide +kernel) (q))
  refine lv_aload_n hx hb dX10_feed_120 rfl (lv_at hl 2 rfl) ?_
  refine va_get (D := G) (ci := 7) (v := .int 20) (C := RX10) (T := TX10) (N := 71) (ref := RX10) hx hb hts h1w hown hX.1 hP 0 rfl rfl 17 (by decide) h2w (fun _ h9 => h9) rfl dX10_feed_121 ?_
  have hP9 := hP.sub (ws' := [(p0, .inr (7, (v6 :: v7 :: .int 0 :: v9 :: v10 :: v11 :: v12 :: v13 :: v14 :: v15 :: v16 :: v17 :: v18 :: v19 :: v20 :: v21 :: .ref p22 :: .int 20 :: v23 :: v24 :: v25 :: v26 :: v27 :: v28 :: v29 :: v30 :: v31 :: v32 :: v33 :: v34 :: v35 :: v36 :: v37 :: v38 :: v39 :: v40 :: v41 :: v42 :: v43 :: v44 :: v45 :: v46 :: v47 :: v48 :: v49 :: v50 :: v51 :: v52 :: v53 :: v54 :: v55 :: v56 :: v57 :: v58 :: v59 :: v60 :: v61 :: v62 :: v63 :: v64 :: v65 :: v66 :: v67 :: v68 :: v69 :: v70 :: v71 :: v72 :: v73 :: v74 :: v75 :: []))), (p22, .inl (k 0, 600, .inl (upd (upd (upd (upd (upd (upd (upd (upd (upd (upd (upd (upd (upd (upd (upd (upd (upd (upd (upd (upd f76 (0 : Int32).toNatClampNeg x_2) (1 : Int32).toNatClampNeg x_4) (2 : Int32).toNatClampNeg x_6) (3 : Int32).toNatClampNeg x_8) (4 : Int32).toNatClampNeg x_10) (5 : Int32).toNatClampNeg x_12) (6 : Int32).toNatClampNeg x_14) (7 : Int32).toNatClampNeg x_16) (8 : Int32).toNatClampNeg x_18) (9 : Int32).toNatClampNeg x_20) (10 : Int32).toNatClampNeg x_22) (11 : Int32).toNatClampNeg x_24) (12 : Int32).toNatClampNeg x_26) (13 : Int32).toNatClampNeg x_28) (14 : Int32).toNatClampNeg x_30) (15 : Int32).toNatClampNeg x_32) (16 : Int32).toNatClampNeg x_34) (17 : Int32).toNatClampNeg x_36) (18 : Int32).toNatClampNeg x_38) (19 : Int32).toNatClampNeg x_40)))]) [0, 1] rfl
  have hD9 := hD.sub (ws' := [(p0, .inr (7, (v6 :: v7 :: .int 0 :: v9 :: v10 :: v11 :: v12 :: v13 :: v14 :: v15 :: v16 :: v17 :: v18 :: v19 :: v20 :: v21 :: .ref p22 :: .int 20 :: v23 :: v24 :: v25 :: v26 :: v27 :: v28 :: v29 :: v30 :: v31 :: v32 :: v33 :: v34 :: v35 :: v36 :: v37 :: v38 :: v39 :: v40 :: v41 :: v42 :: v43 :: v44 :: v45 :: v46 :: v47 :: v48 :: v49 :: v50 :: v51 :: v52 :: v53 :: v54 :: v55 :: v56 :: v57 :: v58 :: v59 :: v60 :: v61 :: v62 :: v63 :: v64 :: v65 :: v66 :: v67 :: v68 :: v69 :: v70 :: v71 :: v72 :: v73 :: v74 :: v75 :: []))), (p22, .inl (k 0, 600, .inl (upd (upd (upd (upd (upd (upd (upd (upd (upd (upd (upd (upd (upd (upd (upd (upd (upd (upd (upd (upd f76 (0 : Int32).toNatClampNeg x_2) (1 : Int32).toNatClampNeg x_4) (2 : Int32).toNatClampNeg x_6) (3 : Int32).toNatClampNeg x_8) (4 : Int32).toNatClampNeg x_10) (5 : Int32).toNatClampNeg x_12) (6 : Int32).toNatClampNeg x_14) (7 : Int32).toNatClampNeg x_16) (8 : Int32).toNatClampNeg x_18) (9 : Int32).toNatClampNeg x_20) (10 : Int32).toNatClampNeg x_22) (11 : Int32).toNatClampNeg x_24) (12 : Int32).toNatClampNeg x_26) (13 : Int32).toNatClampNeg x_28) (14 : Int32).toNatClampNeg x_30) (15 : Int32).toNatClampNeg x_32) (16 : Int32).toNatClampNeg x_34) (17 : Int32).toNatClampNeg x_36) (18 : Int32).toNatClampNeg x_38) (19 : Int32).toNatClampNeg x_40)))]) [0, 1] (by decide) rfl
  exact W.iret (v := 20) hx hb hr (fun t ht hW => ⟨⟨20, ((upd (upd (upd (upd (upd (upd (upd (upd (upd (upd (upd (upd (upd (upd (upd (upd (upd (upd (upd (upd f76 (0 : Int32).toNatClampNeg x_2) (1 : Int32).toNatClampNeg x_4) (2 : Int32).toNatClampNeg x_6) (3 : Int32).toNatClampNeg x_8) (4 : Int32).toNatClampNeg x_10) (5 : Int32).toNatClampNeg x_12) (6 : Int32).toNatClampNeg x_14) (7 : Int32).toNatClampNeg x_16) (8 : Int32).toNatClampNeg x_18) (9 : Int32).toNatClampNeg x_20) (10 : Int32).toNatClampNeg x_22) (11 : Int32).toNatClampNeg x_24) (12 : Int32).toNatClampNeg x_26) (13 : Int32).toNatClampNeg x_28) (14 : Int32).toNatClampNeg x_30) (15 : Int32).toNatClampNeg x_32) (16 : Int32).toNatClampNeg x_34) (17 : Int32).toNatClampNeg x_36) (18 : Int32).toNatClampNeg x_38) (19 : Int32).toNatClampNeg x_40)), rfl, rfl, by rw [ht]; exact hP9, hD9⟩, hS.F ht⟩) hS.2.2 dX10_feed_124

