set_option maxHeartbeats 4000000 in
set_option maxRecDepth 100000 in
theorem cX10_come_2 (l : Launch) (G : va_G) (k : Nat → ClassId) (p0 : Nat) (v1 : Value) (v2 : Value) (v3 : Value) (v4 : Value) (v5 : Value) (v6 : Value) (v7 : Value) (v8 : Value) (v9 : Value) (v10 : Value) (v11 : Value) (v12 : Value) (v13 : Value) (v14 : Value) (v15 : Value) (v16 : Value) (v17 : Value) (v18 : Value) (v19 : Value) (v20 : Value) (v21 : Value) (v22 : Value) (v23 : Value) (v24 : Value) (v25 : Value) (v26 : Value) (v27 : Value) (v28 : Value) (v29 : Value) (v30 : Value) (v31 : Value) (v32 : Value) (v33 : Value) (v34 : Value) (v35 : Value) (v36 : Value) (v37 : Value) (v38 : Value) (v39 : Value) (v40 : Value) (v41 : Value) (v42 : Value) (v43 : Value) (v44 : Value) (v45 : Value) (p46 : Nat) (p47 : Nat) (v48 : Value) (p49 : Nat) (v50 : Value) (v51 : Value) (v52 : Value) (v53 : Value) (v54 : Value) (v55 : Value) (v56 : Value) (v57 : Value) (v58 : Value) (v59 : Value) (v60 : Value) (v61 : Value) (v62 : Value) (v63 : Value) (v64 : Value) (v65 : Value) (v66 : Value) (v67 : Value) (v68 : Value) (v69 : Value) (v70 : Value) (v71 : Value) (sz : Nat) : CMv l G k yX10_come wsX10_come ({ frames := 1, cells := 0, slots := 0, locals := 24 }) [.ref p0, .long 268435455, .int 2] sz [(p0, .inr (7, (v1 :: v2 :: v3 :: v4 :: v5 :: v6 :: v7 :: v8 :: v9 :: v10 :: v11 :: v12 :: v13 :: v14 :: v15 :: v16 :: v17 :: v18 :: v19 :: v20 :: v21 :: v22 :: v23 :: v24 :: v25 :: v26 :: v27 :: v28 :: v29 :: v30 :: v31 :: v32 :: v33 :: v34 :: v35 :: v36 :: v37 :: v38 :: v39 :: v40 :: v41 :: v42 :: v43 :: v44 :: v45 :: .ref p46 :: .ref p47 :: v48 :: .ref p49 :: v50 :: v51 :: v52 :: v53 :: v54 :: v55 :: v56 :: v57 :: v58 :: v59 :: v60 :: v61 :: v62 :: v63 :: v64 :: v65 :: v66 :: v67 :: v68 :: v69 :: v70 :: v71 :: []))), (p49, .inl (k 0, 8192, .inl (upd (upd (fun _ => (-1)) (7991 : Int32).toNatClampNeg 0) (4662 : Int32).toNatClampNeg 1))), (p46, .inl (k 2, 1501, .inr (.inl (vp_updL (vp_updL (fun _ => 0) (0 : Int32).toNatClampNeg 268435455) (1 : Int32).toNatClampNeg 536870911)))), (p47, .inl (k 0, 1501, .inl (upd (upd (fun _ => 0) (0 : Int32).toNatClampNeg 0) (1 : Int32).toNatClampNeg 1)))] (fun (u : Unit) => True) (fun (u : Unit) => [(p0, .inr (7, (v1 :: v2 :: v3 :: v4 :: v5 :: v6 :: v7 :: v8 :: v9 :: v10 :: v11 :: v12 :: v13 :: v14 :: v15 :: v16 :: v17 :: v18 :: v19 :: v20 :: v21 :: v22 :: v23 :: v24 :: v25 :: v26 :: v27 :: v28 :: v29 :: v30 :: v31 :: v32 :: v33 :: v34 :: v35 :: v36 :: v37 :: v38 :: v39 :: v40 :: v41 :: v42 :: v43 :: v44 :: v45 :: .ref p46 :: .ref p47 :: v48 :: .ref p49 :: v50 :: v51 :: v52 :: v53 :: v54 :: v55 :: v56 :: v57 :: v58 :: v59 :: v60 :: v61 :: v62 :: v63 :: v64 :: v65 :: v66 :: v67 :: v68 :: v69 :: v70 :: v71 :: []))), (p49, .inl (k 0, 8192, .inl (upd (upd (fun _ => (-1)) (7991 : Int32).toNatClampNeg 0) (4662 : Int32).toNatClampNeg 1))), (p46, .inl (k 2, 1501, .inr (.inl (vp_updL (vp_updL (fun _ => 0) (0 : Int32).toNatClampNeg 268435455) (1 : Int32).toNatClampNeg 536870911)))), (p47, .inl (k 0, 1501, .inl (upd (upd (upd (fun _ => 0) (0 : Int32).toNatClampNeg 0) (1 : Int32).toNatClampNeg 1) (0 : Int32).toNatClampNeg 0)))]) := by
  refine Met.ofW (cc := cX10_come) (maxL := 6) (ret := none) (by decide) rfl ?_
  intro p e s m args below meth c s₁ B hml hv
  obtain ⟨rfl, hsz, hP, hX, hD0, hZ0⟩ := hv
  have hx := B.exec
  have hb := B.bytes
  have hr := B.returns
  have hts := atoms_spec (ws := wsX10_come) B.pre
  have hown : s.vm.findClass RX10 = some m.cls := findClass_of_methodNamed B.named
  subst hsz
  have hD := hD0.self (sz := s.heap.size)
  have hZ := ZX.up hP hZ0
  generalize hAe : va_A [(p0, .inr (7, (v1 :: v2 :: v3 :: v4 :: v5 :: v6 :: v7 :: v8 :: v9 :: v10 :: v11 :: v12 :: v13 :: v14 :: v15 :: v16 :: v17 :: v18 :: v19 :: v20 :: v21 :: v22 :: v23 :: v24 :: v25 :: v26 :: v27 :: v28 :: v29 :: v30 :: v31 :: v32 :: v33 :: v34 :: v35 :: v36 :: v37 :: v38 :: v39 :: v40 :: v41 :: v42 :: v43 :: v44 :: v45 :: .ref p46 :: .ref p47 :: v48 :: .ref p49 :: v50 :: v51 :: v52 :: v53 :: v54 :: v55 :: v56 :: v57 :: v58 :: v59 :: v60 :: v61 :: v62 :: v63 :: v64 :: v65 :: v66 :: v67 :: v68 :: v69 :: v70 :: v71 :: []))), (p49, .inl (k 0, 8192, .inl (upd (upd (fun _ => (-1)) (7991 : Int32).toNatClampNeg 0) (4662 : Int32).toNatClampNeg 1))), (p46, .inl (k 2, 1501, .inr (.inl (vp_updL (vp_updL (fun _ => 0) (0 : Int32).toNatClampNeg 268435455) (1 : Int32).toNatClampNeg 536870911)))), (p47, .inl (k 0, 1501, .inl (upd (upd (fun _ => 0) (0 : Int32).toNatClampNeg 0) (1 : Int32).toNatClampNeg 1)))] s.heap.size = A at hD hZ ⊢
  have hA : ∀ q : Nat, s.heap.size ≤ q → A q := fun q h => by rw [← hAe]; exact Or.inr h
  have hS : va_S A s.heap s.heap [] := va_S.rf
  have hP : va_P G vwCl [(p0, .inr (7, (v1 :: v2 :: v3 :: v4 :: v5 :: v6 :: v7 :: v8 :: v9 :: v10 :: v11 :: v12 :: v13 :: v14 :: v15 :: v16 :: v17 :: v18 :: v19 :: v20 :: v21 :: v22 :: v23 :: v24 :: v25 :: v26 :: v27 :: v28 :: v29 :: v30 :: v31 :: v32 :: v33 :: v34 :: v35 :: v36 :: v37 :: v38 :: v39 :: v40 :: v41 :: v42 :: v43 :: v44 :: v45 :: .ref p46 :: .ref p47 :: v48 :: .ref p49 :: v50 :: v51 :: v52 :: v53 :: v54 :: v55 :: v56 :: v57 :: v58 :: v59 :: v60 :: v61 :: v62 :: v63 :: v64 :: v65 :: v66 :: v67 :: v68 :: v69 :: v70 :: v71 :: []))), (p49, .inl (k 0, 8192, .inl (upd (upd (fun _ => (-1)) (7991 : Int32).toNatClampNeg 0) (4662 : Int32).toNatClampNeg 1))), (p46, .inl (k 2, 1501, .inr (.inl (vp_updL (vp_updL (fun _ => 0) (0 : Int32).toNatClampNeg 268435455) (1 : Int32).toNatClampNeg 536870911)))), (p47, .inl (k 0, 1501, .inl (upd (upd (fun _ => 0) (0 : Int32).toNatClampNeg 0) (1 : Int32).toNatClampNeg 1)))] s.heap := hP
  have hl := lv_entry ([.ref p0, .long 268435455, .int 2]) (n := 6) (Nat.le_of_ble_eq_true rfl)
  rw [lg_entry_eq]
  generalize (lg_sl ([.ref p0, .long 268435455, .int 2]) ++ List.replicate (6 - (lg_sl ([.ref p0, .long 268435455, .int 2])).length) Slot.unset).toArray = ls at hl ⊢
  have hl : lv_has ls 6 [(0, .ref p0), (1, .long 268435455), (3, .int 2)] := hl
  have h0w := hts (.fieldLink RX10 127 "RopeTownModel" "heads" "[I") (by decide +kernel)
  have h1w : ∀ w ∈ wsX100, w ∈ wsX10_come := by decide +kernel
  have h2w := hts (.fieldLink RX10 117 "RopeTownModel" "state" "[J") (by decide +kernel)
  have h3w := hts (.fieldLink RX10 121 "RopeTownModel" "far" "[I") (by decide +kernel)
  have h4w := hts (.methodLink RX10 211 Lib.Math.min.name) (by decide +kernel)
  have h5w := hts (.static Lib.Math.min.name) (by decide +kernel)
  have h6w := hts (.initialized "java/lang/Math") (by decide +kernel)
  have h7w := hts (.code Lib.Math.min.name Lib.Math.min.code 2 (some .int)) (by decide +kernel)
  refine lv_lload_n hx hb dX10_come_0 rfl (lv_at hl 1 rfl) ?_
  refine cz_i (wr := [(p0, .inr (7, (v1 :: v2 :: v3 :: v4 :: v5 :: v6 :: v7 :: v8 :: v9 :: v10 :: v11 :: v12 :: v13 :: v14 :: v15 :: v16 :: v17 :: v18 :: v19 :: v20 :: v21 :: v22 :: v23 :: v24 :: v25 :: v26 :: v27 :: v28 :: v29 :: v30 :: v31 :: v32 :: v33 :: v34 :: v35 :: v36 :: v37 :: v38 :: v39 :: v40 :: v41 :: v42 :: v43 :: v44 :: v45 :: .ref p46 :: .ref p47 :: v48 :: .ref p49 :: v50 :: v51 :: v52 :: v53 :: v54 :: v55 :: v56 :: v57 :: v58 :: v59 :: v60 :: v61 :: v62 :: v63 :: v64 :: v65 :: v66 :: v67 :: v68 :: v69 :: v70 :: v71 :: []))), (p49, .inl (k 0, 8192, .inl (upd (upd (fun _ => (-1)) (7991 : Int32).toNatClampNeg 0) (4662 : Int32).toNatClampNeg 1))), (p46, .inl (k 2, 1501, .inr (.inl (vp_updL (vp_updL (fun _ => 0) (0 : Int32).toNatClampNeg 268435455) (1 : Int32).toNatClampNeg 536870911)))), (p47, .inl (k 0, 1501, .inl (upd (upd (fun _ => 0) (0 : Int32).toNatClampNeg 0) (1 : Int32).toNatClampNeg 1)))]) (va_runS (As := [.long 268435455]) (rest := []) ⟨hx, hb, hml, hown, hts⟩ (cX10_foldOf_0 l G k s.heap.size) (cwS 1 hts gX10_come_X10_foldOf rfl rfl rfl (by decide +kernel) ⟨Nat.le_of_ble_eq_true rfl, Nat.le_of_ble_eq_true rfl⟩) (cz_preS hZ hS hX hP hD [] rfl rfl) rfl rfl hl.1 rfl (lv_room (Nat.le_of_ble_eq_true rfl)) dX10_come_1 ⟨Nat.le_of_ble_eq_true rfl, Nat.le_of_ble_eq_true rfl⟩) hP hD hS hA [] [0, 1, 2, 3] rfl rfl (by decide) (by decide) (fun r u H locs hp hP hD hS => ?_)
  have hp : r = 7991 := hp
  subst hp
  refine lv_istore (lv' := [(4, .int 7991), (0, .ref p0), (1, .long 268435455), (3, .int 2)]) hx hb dX10_come_4 hl (by decide) rfl (fun ls hl => ?_)
  refine lv_aload_n hx hb dX10_come_6 rfl (lv_at hl 1 rfl) ?_
  refine va_get (D := G) (ci := 7) (v := .ref p49) (C := RX10) (T := TX10) (N := 71) (ref := RX10) hx hb hts h1w hown hX.1 hP 0 rfl rfl 48 (by decide) h0w (fun _ h9 => h9) rfl dX10_come_7 ?_
  refine lv_iload hx hb dX10_come_10 (lv_at hl 0 rfl) ?_
  refine va_iald hx hb hX.1 hP 1 0 rfl rfl (by unfold vp_in; decide +kernel) dX10_come_12 ?_
  refine cz_ti (w := 0) (by rfl) ?_
  refine lv_istore (lv' := [(5, .int 0), (4, .int 7991), (0, .ref p0), (1, .long 268435455), (3, .int 2)]) hx hb dX10_come_13 hl (by decide) rfl (fun ls hl => ?_)
  refine lv_iload hx hb dX10_come_15 (lv_at hl 0 rfl) ?_
  refine lv_iconst (v := (-1)) hx hb dX10_come_17 (by decide +kernel) ?_
  refine lv_icmp_eq (tgt := 67) hx hb dX10_come_18 (by decide) (fun q => absurd (q) (by decide +kernel)) (fun _ => ?_)
  refine lv_aload_n hx hb dX10_come_21 rfl (lv_at hl 2 rfl) ?_
  refine va_get (D := G) (ci := 7) (v := .ref p46) (C := RX10) (T := TX10) (N := 71) (ref := RX10) hx hb hts h1w hown hX.1 hP 0 rfl rfl 45 (by decide) h2w (fun _ h9 => h9) rfl dX10_come_22 ?_
  refine lv_iload hx hb dX10_come_25 (lv_at hl 0 rfl) ?_
  refine va_lald hx hb hX.1 hP 2 2 rfl rfl (by unfold vp_in; decide +kernel) dX10_come_27 ?_
  refine cz_tl (w := 268435455) (by rfl) ?_
  refine lv_lload_n hx hb dX10_come_28 rfl (lv_at hl 3 rfl) ?_
  refine W.lcmp hx hb dX10_come_29 ?_
  refine cz_ti (w := 0) (by decide +kernel) ?_
  refine lv_if_eq (tgt := 36) hx hb dX10_come_30 (by decide) (fun _ => ?_) (fun q => absurd (by decide +kernel) (q))
  refine lv_aload_n hx hb dX10_come_36 rfl (lv_at hl 2 rfl) ?_
  refine va_get (D := G) (ci := 7) (v := .ref p47) (C := RX10) (T := TX10) (N := 71) (ref := RX10) hx hb hts h1w hown hX.1 hP 0 rfl rfl 46 (by decide) h3w (fun _ h9 => h9) rfl dX10_come_37 ?_
  refine lv_iload hx hb dX10_come_40 (lv_at hl 0 rfl) ?_
  refine lv_aload_n hx hb dX10_come_42 rfl (lv_at hl 2 rfl) ?_
  refine va_get (D := G) (ci := 7) (v := .ref p47) (C := RX10) (T := TX10) (N := 71) (ref := RX10) hx hb hts h1w hown hX.1 hP 0 rfl rfl 46 (by decide) h3w (fun _ h9 => h9) rfl dX10_come_43 ?_
  refine lv_iload hx hb dX10_come_46 (lv_at hl 0 rfl) ?_
  refine va_iald hx hb hX.1 hP 3 0 rfl rfl (by unfold vp_in; decide +kernel) dX10_come_48 ?_
  refine cz_ti (w := 0) (by rfl) ?_
  refine lv_iload_n hx hb dX10_come_49 rfl (lv_at hl 4 rfl) ?_
  refine va_mmin hx hb (hml.trans hl.1.symm) hown h4w h5w h6w h7w (Nat.le_of_ble_eq_true rfl) (Nat.le_of_ble_eq_true rfl) (Nat.le_of_ble_eq_true rfl) (Nat.le_of_ble_eq_true rfl) dX10_come_50 ?_
  refine cz_ti (w := 0) (by decide +kernel) ?_
  refine va_iast hx hb hX.1 hP hD hS 3 0 rfl rfl (by unfold vp_in; decide +kernel) dX10_come_53 (fun H locs hP hD hS => ?_)
  have hP9 := hP.sub (ws' := [(p0, .inr (7, (v1 :: v2 :: v3 :: v4 :: v5 :: v6 :: v7 :: v8 :: v9 :: v10 :: v11 :: v12 :: v13 :: v14 :: v15 :: v16 :: v17 :: v18 :: v19 :: v20 :: v21 :: v22 :: v23 :: v24 :: v25 :: v26 :: v27 :: v28 :: v29 :: v30 :: v31 :: v32 :: v33 :: v34 :: v35 :: v36 :: v37 :: v38 :: v39 :: v40 :: v41 :: v42 :: v43 :: v44 :: v45 :: .ref p46 :: .ref p47 :: v48 :: .ref p49 :: v50 :: v51 :: v52 :: v53 :: v54 :: v55 :: v56 :: v57 :: v58 :: v59 :: v60 :: v61 :: v62 :: v63 :: v64 :: v65 :: v66 :: v67 :: v68 :: v69 :: v70 :: v71 :: []))), (p49, .inl (k 0, 8192, .inl (upd (upd (fun _ => (-1)) (7991 : Int32).toNatClampNeg 0) (4662 : Int32).toNatClampNeg 1))), (p46, .inl (k 2, 1501, .inr (.inl (vp_updL (vp_updL (fun _ => 0) (0 : Int32).toNatClampNeg 268435455) (1 : Int32).toNatClampNeg 536870911)))), (p47, .inl (k 0, 1501, .inl (upd (upd (upd (fun _ => 0) (0 : Int32).toNatClampNeg 0) (1 : Int32).toNatClampNeg 1) (0 : Int32).toNatClampNeg 0)))]) [0, 1, 2, 3] rfl
  have hD9 := hD.sub (ws' := [(p0, .inr (7, (v1 :: v2 :: v3 :: v4 :: v5 :: v6 :: v7 :: v8 :: v9 :: v10 :: v11 :: v12 :: v13 :: v14 :: v15 :: v16 :: v17 :: v18 :: v19 :: v20 :: v21 :: v22 :: v23 :: v24 :: v25 :: v26 :: v27 :: v28 :: v29 :: v30 :: v31 :: v32 :: v33 :: v34 :: v35 :: v36 :: v37 :: v38 :: v39 :: v40 :: v41 :: v42 :: v43 :: v44 :: v45 :: .ref p46 :: .ref p47 :: v48 :: .ref p49 :: v50 :: v51 :: v52 :: v53 :: v54 :: v55 :: v56 :: v57 :: v58 :: v59 :: v60 :: v61 :: v62 :: v63 :: v64 :: v65 :: v66 :: v67 :: v68 :: v69 :: v70 :: v71 :: []))), (p49, .inl (k 0, 8192, .inl (upd (upd (fun _ => (-1)) (7991 : Int32).toNatClampNeg 0) (4662 : Int32).toNatClampNeg 1))), (p46, .inl (k 2, 1501, .inr (.inl (vp_updL (vp_updL (fun _ => 0) (0 : Int32).toNatClampNeg 268435455) (1 : Int32).toNatClampNeg 536870911)))), (p47, .inl (k 0, 1501, .inl (upd (upd (upd (fun _ => 0) (0 : Int32).toNatClampNeg 0) (1 : Int32).toNatClampNeg 1) (0 : Int32).toNatClampNeg 0)))]) [0, 1, 2, 3] (by decide) rfl
  exact W.vret hx hb hr (fun t ht hW => ⟨⟨(), rfl, trivial, by rw [ht]; exact hP9, hD9⟩, hS.F ht⟩) hS.2.2 dX10_come_54

