set_option maxHeartbeats 4000000 in
set_option maxRecDepth 100000 in
theorem cX6_depart_2 (l : Launch) (G : va_G) (k : Nat → ClassId) (p0 : Nat) (p1 : Nat) (v2 : Value) (p3 : Nat) (p4 : Nat) (v5 : Value) (v6 : Value) (p7 : Nat) (v8 : Value) (v9 : Value) (v10 : Value) (v11 : Value) (v12 : Value) (p13 : Nat) (v14 : Value) (v15 : Value) (v16 : Value) (v17 : Value) (v18 : Value) (v19 : Value) (v20 : Value) (v21 : Value) (v22 : Value) (p23 : Nat) (v24 : Value) (v25 : Value) (v26 : Value) (v27 : Value) (v28 : Value) (sz : Nat) : CMv l G k yX6_depart wsX6_depart ({ frames := 2, cells := 0, slots := 0, locals := 52 }) [.ref p0, .int 536870911, .int 0, .int 0] sz [(p0, .inr (5, [.ref p1, .int 1, v2, .ref p3, .ref p4, v5, v6, .ref p7, v8, v9, v10, v11, .int 1, v12, .ref p13])), (p13, .inl (k 0, 1641, .inl (upd (fun _ => 0) (0 : Int32).toNatClampNeg 3))), (p1, .inr (2, [.int 1, v14, v15, .int 0, .int 1, v16, v17, v18, v19, v20, v21, v22, .ref p23, v24])), (p23, .inr (4, [v25, v26, v27, v28, .int 0])), (p4, .inl (k 0, 1500, .inl (upd (upd (fun _ => 0) (0 : Int32).toNatClampNeg 0) (1 : Int32).toNatClampNeg 1))), (p7, .inl (k 0, 1024, .inl (upd (upd (fun _ => (-1)) (455 : Int32).toNatClampNeg 0) (519 : Int32).toNatClampNeg 1))), (p3, .inl (k 0, 1500, .inl (upd (upd (fun _ => 0) (0 : Int32).toNatClampNeg 268435455) (1 : Int32).toNatClampNeg 536870911)))] (fun (u : Unit) => True) (fun (u : Unit) => [(p13, .inl (k 0, 1641, .inl (upd (upd (fun _ => 0) (0 : Int32).toNatClampNeg 3) (0 : Int32).toNatClampNeg 15))), (p23, .inr (4, [v25, v26, v27, v28, .int 0])), (p1, .inr (2, [.int 1, v14, v15, .int 0, .int 1, v16, v17, v18, v19, v20, v21, v22, .ref p23, v24])), (p0, .inr (5, [.ref p1, .int 1, v2, .ref p3, .ref p4, v5, v6, .ref p7, v8, v9, v10, v11, .int 1, v12, .ref p13])), (p4, .inl (k 0, 1500, .inl (upd (upd (fun _ => 0) (0 : Int32).toNatClampNeg 0) (1 : Int32).toNatClampNeg 1))), (p7, .inl (k 0, 1024, .inl (upd (upd (fun _ => (-1)) (455 : Int32).toNatClampNeg 0) (519 : Int32).toNatClampNeg 1))), (p3, .inl (k 0, 1500, .inl (upd (upd (fun _ => 0) (0 : Int32).toNatClampNeg 268435455) (1 : Int32).toNatClampNeg 536870911)))]) := by
  refine Met.ofW (cc := cX6_depart) (maxL := 8) (ret := none) (by decide) rfl ?_
  intro p e s m args below meth c s₁ B hml hv
  obtain ⟨rfl, hsz, hP, hX, hD0, hZ0⟩ := hv
  have hx := B.exec
  have hb := B.bytes
  have hr := B.returns
  have hts := atoms_spec (ws := wsX6_depart) B.pre
  have hown : s.vm.findClass RX6 = some m.cls := findClass_of_methodNamed B.named
  subst hsz
  have hD := hD0.self (sz := s.heap.size)
  have hZ := ZX.up hP hZ0
  generalize hAe : va_A [(p0, .inr (5, [.ref p1, .int 1, v2, .ref p3, .ref p4, v5, v6, .ref p7, v8, v9, v10, v11, .int 1, v12, .ref p13])), (p13, .inl (k 0, 1641, .inl (upd (fun _ => 0) (0 : Int32).toNatClampNeg 3))), (p1, .inr (2, [.int 1, v14, v15, .int 0, .int 1, v16, v17, v18, v19, v20, v21, v22, .ref p23, v24])), (p23, .inr (4, [v25, v26, v27, v28, .int 0])), (p4, .inl (k 0, 1500, .inl (upd (upd (fun _ => 0) (0 : Int32).toNatClampNeg 0) (1 : Int32).toNatClampNeg 1))), (p7, .inl (k 0, 1024, .inl (upd (upd (fun _ => (-1)) (455 : Int32).toNatClampNeg 0) (519 : Int32).toNatClampNeg 1))), (p3, .inl (k 0, 1500, .inl (upd (upd (fun _ => 0) (0 : Int32).toNatClampNeg 268435455) (1 : Int32).toNatClampNeg 536870911)))] s.heap.size = A at hD hZ ⊢
  have hA : ∀ q : Nat, s.heap.size ≤ q → A q := fun q h => by rw [← hAe]; exact Or.inr h
  have hS : va_S A s.heap s.heap [] := va_S.rf
  have hP : va_P G vwCl [(p0, .inr (5, [.ref p1, .int 1, v2, .ref p3, .ref p4, v5, v6, .ref p7, v8, v9, v10, v11, .int 1, v12, .ref p13])), (p13, .inl (k 0, 1641, .inl (upd (fun _ => 0) (0 : Int32).toNatClampNeg 3))), (p1, .inr (2, [.int 1, v14, v15, .int 0, .int 1, v16, v17, v18, v19, v20, v21, v22, .ref p23, v24])), (p23, .inr (4, [v25, v26, v27, v28, .int 0])), (p4, .inl (k 0, 1500, .inl (upd (upd (fun _ => 0) (0 : Int32).toNatClampNeg 0) (1 : Int32).toNatClampNeg 1))), (p7, .inl (k 0, 1024, .inl (upd (upd (fun _ => (-1)) (455 : Int32).toNatClampNeg 0) (519 : Int32).toNatClampNeg 1))), (p3, .inl (k 0, 1500, .inl (upd (upd (fun _ => 0) (0 : Int32).toNatClampNeg 268435455) (1 : Int32).toNatClampNeg 536870911)))] s.heap := hP
  have hl := lv_entry ([.ref p0, .int 536870911, .int 0, .int 0]) (n := 8) (Nat.le_of_ble_eq_true rfl)
  rw [lg_entry_eq]
  generalize (lg_sl ([.ref p0, .int 536870911, .int 0, .int 0]) ++ List.replicate (8 - (lg_sl ([.ref p0, .int 536870911, .int 0, .int 0])).length) Slot.unset).toArray = ls at hl ⊢
  have hl : lv_has ls 8 [(0, .ref p0), (1, .int 536870911), (2, .int 0), (3, .int 0)] := hl
  have h0w := hts (.initialized RX7) (by decide +kernel)
  have h1w := hts (.static yX7_depth) (by decide +kernel)
  have h2w := hts (.fieldLink RX6 57 "RopeTown$Search" "verdicts" "[I") (by decide +kernel)
  have h3w : ∀ w ∈ wsX60, w ∈ wsX6_depart := by decide +kernel
  have h4w := hts (.fieldLink RX6 9 "RopeTown$Search" "plan" "LRopeTown$Plan;") (by decide +kernel)
  have h5w := hts (.initialized RX3) (by decide +kernel)
  have h6w := hts (.instanceMethod yX3_brokenRule) (by decide +kernel)
  have h7w := hts (.selects RX3 yX3_brokenRule yX3_brokenRule) (by decide +kernel)
  refine lv_iload_n hx hb dX6_depart_0 rfl (lv_at hl 2 rfl) ?_
  refine lv_bipush (v := 12) hx hb dX6_depart_1 (by decide +kernel) ?_
  refine lv_imul hx hb dX6_depart_3 ?_
  refine cz_ti (w := 0) (by decide +kernel) ?_
  refine lv_iload_n hx hb dX6_depart_4 rfl (lv_at hl 1 rfl) ?_
  refine cz_i (wr := [(p0, .inr (5, [.ref p1, .int 1, v2, .ref p3, .ref p4, v5, v6, .ref p7, v8, v9, v10, v11, .int 1, v12, .ref p13])), (p13, .inl (k 0, 1641, .inl (upd (fun _ => 0) (0 : Int32).toNatClampNeg 3))), (p1, .inr (2, [.int 1, v14, v15, .int 0, .int 1, v16, v17, v18, v19, v20, v21, v22, .ref p23, v24])), (p23, .inr (4, [v25, v26, v27, v28, .int 0])), (p4, .inl (k 0, 1500, .inl (upd (upd (fun _ => 0) (0 : Int32).toNatClampNeg 0) (1 : Int32).toNatClampNeg 1))), (p7, .inl (k 0, 1024, .inl (upd (upd (fun _ => (-1)) (455 : Int32).toNatClampNeg 0) (519 : Int32).toNatClampNeg 1))), (p3, .inl (k 0, 1500, .inl (upd (upd (fun _ => 0) (0 : Int32).toNatClampNeg 268435455) (1 : Int32).toNatClampNeg 536870911)))]) (va_runSN (As := [.int 536870911]) (rest := [.int 0]) ⟨hx, hb, hml, hown, hts⟩ (cX7_depth_1 l G k s.heap.size) ⟨va_cnB 1 hts gX6_depart_X7_depth_n122 rfl rfl rfl (nm_52 hX.2.2.1) h0w (by decide +kernel) ⟨Nat.le_of_ble_eq_true rfl, Nat.le_of_ble_eq_true rfl⟩, h1w, trivial⟩ (cz_preS hZ hS hX hP hD [] rfl rfl) rfl rfl hl.1 rfl (lv_room (Nat.le_of_ble_eq_true rfl)) dX6_depart_5 ⟨Nat.le_of_ble_eq_true rfl, Nat.le_of_ble_eq_true rfl⟩) hP hD hS hA [] [0, 1, 2, 3, 4, 5, 6] rfl rfl (by decide) (by decide) (fun r u H locs hp hP hD hS => ?_)
  have hp : r = 1 := hp
  subst hp
  refine lv_iadd hx hb dX6_depart_8 ?_
  refine cz_ti (w := 1) (by decide +kernel) ?_
  refine lv_istore (lv' := [(4, .int 1), (0, .ref p0), (1, .int 536870911), (2, .int 0), (3, .int 0)]) hx hb dX6_depart_9 hl (by decide) rfl (fun ls hl => ?_)
  refine lv_iload hx hb dX6_depart_11 (lv_at hl 0 rfl) ?_
  refine lv_iconst (v := 4) hx hb dX6_depart_13 (by decide +kernel) ?_
  refine lv_ishr hx hb dX6_depart_14 ?_
  refine cz_ti (w := 0) (by decide +kernel) ?_
  refine lv_istore (lv' := [(5, .int 0), (4, .int 1), (0, .ref p0), (1, .int 536870911), (2, .int 0), (3, .int 0)]) hx hb dX6_depart_15 hl (by decide) rfl (fun ls hl => ?_)
  refine lv_iconst (v := 2) hx hb dX6_depart_17 (by decide +kernel) ?_
  refine lv_iload hx hb dX6_depart_18 (lv_at hl 1 rfl) ?_
  refine lv_bipush (v := 15) hx hb dX6_depart_20 (by decide +kernel) ?_
  refine lv_iand hx hb dX6_depart_22 ?_
  refine cz_ti (w := 1) (by decide +kernel) ?_
  refine lv_imul hx hb dX6_depart_23 ?_
  refine cz_ti (w := 2) (by decide +kernel) ?_
  refine lv_istore (lv' := [(6, .int 2), (5, .int 0), (4, .int 1), (0, .ref p0), (1, .int 536870911), (2, .int 0), (3, .int 0)]) hx hb dX6_depart_24 hl (by decide) rfl (fun ls hl => ?_)
  refine lv_iload hx hb dX6_depart_26 (lv_at hl 1 rfl) ?_
  refine lv_aload_n hx hb dX6_depart_28 rfl (lv_at hl 3 rfl) ?_
  refine va_get (D := G) (ci := 5) (v := .ref p13) (C := RX6) (T := TX6) (N := 15) (ref := RX6) hx hb hts h3w hown hX.1 hP 0 rfl rfl 14 (by decide) h2w (fun _ h9 => h9) rfl dX6_depart_29 ?_
  refine va_alen (v := 1641) hx hb hX.1 hP 1 0 rfl rfl (show Int32.ofNat 1641 = 1641 by decide +kernel) dX6_depart_32 ?_
  refine lv_icmp_lt (tgt := 37) hx hb dX6_depart_33 (by decide) (fun _ => ?_) (fun q => absurd (by decide +kernel) (q))
  refine lv_aload_n hx hb dX6_depart_37 rfl (lv_at hl 3 rfl) ?_
  refine va_get (D := G) (ci := 5) (v := .ref p13) (C := RX6) (T := TX6) (N := 15) (ref := RX6) hx hb hts h3w hown hX.1 hP 0 rfl rfl 14 (by decide) h2w (fun _ h9 => h9) rfl dX6_depart_38 ?_
  refine lv_iload hx hb dX6_depart_41 (lv_at hl 1 rfl) ?_
  refine va_iald hx hb hX.1 hP 1 0 rfl rfl (by unfold vp_in; decide +kernel) dX6_depart_43 ?_
  refine cz_ti (w := 3) (by rfl) ?_
  refine lv_iload hx hb dX6_depart_44 (lv_at hl 0 rfl) ?_
  refine lv_iushr (v := 0) hx hb dX6_depart_46 (by decide +kernel) ?_
  refine lv_iconst (v := 1) hx hb dX6_depart_47 (by decide +kernel) ?_
  refine lv_iand hx hb dX6_depart_48 ?_
  refine cz_ti (w := 0) (by decide +kernel) ?_
  refine lv_if_ne (tgt := 108) hx hb dX6_depart_49 (by decide) (fun q => absurd (by decide +kernel) (q)) (fun _ => ?_)
  refine lv_aload_n hx hb dX6_depart_52 rfl (lv_at hl 3 rfl) ?_
  refine va_get (D := G) (ci := 5) (v := .ref p1) (C := RX6) (T := TX6) (N := 15) (ref := RX6) hx hb hts h3w hown hX.1 hP 0 rfl rfl 0 (by decide) h4w (fun _ h9 => h9) rfl dX6_depart_53 ?_
  refine lv_iload_n hx hb dX6_depart_56 rfl (lv_at hl 4 rfl) ?_
  refine lv_iconst (v := 0) hx hb dX6_depart_57 (by decide +kernel) ?_
  refine cz_i (wr := [(p0, .inr (5, [.ref p1, .int 1, v2, .ref p3, .ref p4, v5, v6, .ref p7, v8, v9, v10, v11, .int 1, v12, .ref p13])), (p13, .inl (k 0, 1641, .inl (upd (fun _ => 0) (0 : Int32).toNatClampNeg 3))), (p4, .inl (k 0, 1500, .inl (upd (upd (fun _ => 0) (0 : Int32).toNatClampNeg 0) (1 : Int32).toNatClampNeg 1))), (p7, .inl (k 0, 1024, .inl (upd (upd (fun _ => (-1)) (455 : Int32).toNatClampNeg 0) (519 : Int32).toNatClampNeg 1))), (p3, .inl (k 0, 1500, .inl (upd (upd (fun _ => 0) (0 : Int32).toNatClampNeg 268435455) (1 : Int32).toNatClampNeg 536870911)))]) (va_runVN (As := [.int 536870911, .int 0]) (rest := []) ⟨hx, hb, hml, hown, hts⟩ (cX3_brokenRule_2 l G k p1 (.int 1) v14 v15 (.int 0) (.int 1) v16 v17 v18 v19 v20 v21 v22 p23 v24 v25 v26 v27 v28 H.size) ⟨va_cnB 2 hts gX6_depart_X3_brokenRule_n125 rfl rfl rfl (nm_53 hX.2.2.1) h5w (by decide +kernel) ⟨Nat.le_of_ble_eq_true rfl, Nat.le_of_ble_eq_true rfl⟩, h6w, h7w⟩ (cz_preV hZ hS hX hP hD [2, 3] rfl rfl (ci := 2) (q0 := 2) rfl rfl) rfl rfl hl.1 rfl (lv_room (Nat.le_of_ble_eq_true rfl)) dX6_depart_58 ⟨Nat.le_of_ble_eq_true rfl, Nat.le_of_ble_eq_true rfl⟩) hP hD hS hA [2, 3] [0, 1, 4, 5, 6] rfl rfl (by decide) (by decide) (fun r u H locs hp hP hD hS => ?_)
  have hp : r = (-1) := hp
  subst hp
  refine lv_iconst (v := (-1)) hx hb dX6_depart_61 (by decide +kernel) ?_
  refine lv_icmp_ne (tgt := 82) hx hb dX6_depart_62 (by decide) (fun q => absurd (by decide +kernel) (q)) (fun _ => ?_)
  refine lv_aload_n hx hb dX6_depart_65 rfl (lv_at hl 3 rfl) ?_
  refine va_get (D := G) (ci := 5) (v := .ref p1) (C := RX6) (T := TX6) (N := 15) (ref := RX6) hx hb hts h3w hown hX.1 hP 0 rfl rfl 0 (by decide) h4w (fun _ h9 => h9) rfl dX6_depart_66 ?_
  refine lv_iload_n hx hb dX6_depart_69 rfl (lv_at hl 4 rfl) ?_
  refine lv_iconst (v := 1) hx hb dX6_depart_70 (by decide +kernel) ?_
  refine cz_i (wr := [(p0, .inr (5, [.ref p1, .int 1, v2, .ref p3, .ref p4, v5, v6, .ref p7, v8, v9, v10, v11, .int 1, v12, .ref p13])), (p13, .inl (k 0, 1641, .inl (upd (fun _ => 0) (0 : Int32).toNatClampNeg 3))), (p4, .inl (k 0, 1500, .inl (upd (upd (fun _ => 0) (0 : Int32).toNatClampNeg 0) (1 : Int32).toNatClampNeg 1))), (p7, .inl (k 0, 1024, .inl (upd (upd (fun _ => (-1)) (455 : Int32).toNatClampNeg 0) (519 : Int32).toNatClampNeg 1))), (p3, .inl (k 0, 1500, .inl (upd (upd (fun _ => 0) (0 : Int32).toNatClampNeg 268435455) (1 : Int32).toNatClampNeg 536870911)))]) (va_runVN (As := [.int 536870911, .int 1]) (rest := []) ⟨hx, hb, hml, hown, hts⟩ (cX3_brokenRule_3 l G k p1 (.int 1) v14 v15 (.int 0) (.int 1) v16 v17 v18 v19 v20 v21 v22 p23 v24 v25 v26 v27 v28 H.size) ⟨va_cnB 2 hts gX6_depart_X3_brokenRule_n125 rfl rfl rfl (nm_53 hX.2.2.1) h5w (by decide +kernel) ⟨Nat.le_of_ble_eq_true rfl, Nat.le_of_ble_eq_true rfl⟩, h6w, h7w⟩ (cz_preV hZ hS hX hP hD [5, 6] rfl rfl (ci := 2) (q0 := 5) rfl rfl) rfl rfl hl.1 rfl (lv_room (Nat.le_of_ble_eq_true rfl)) dX6_depart_71 ⟨Nat.le_of_ble_eq_true rfl, Nat.le_of_ble_eq_true rfl⟩) hP hD hS hA [5, 6] [0, 1, 2, 3, 4] rfl rfl (by decide) (by decide) (fun r u H locs hp hP hD hS => ?_)
  have hp : r = (-1) := hp
  subst hp
  refine lv_iconst (v := (-1)) hx hb dX6_depart_74 (by decide +kernel) ?_
  refine lv_icmp_ne (tgt := 82) hx hb dX6_depart_75 (by decide) (fun q => absurd (by decide +kernel) (q)) (fun _ => ?_)
  refine lv_iconst (v := 1) hx hb dX6_depart_78 (by decide +kernel) ?_
  refine lv_goto (tgt := 83) hx hb dX6_depart_79 (by decide) ?_
  refine lv_istore (lv' := [(7, .int 1), (6, .int 2), (5, .int 0), (4, .int 1), (0, .ref p0), (1, .int 536870911), (2, .int 0), (3, .int 0)]) hx hb dX6_depart_83 hl (by decide) rfl (fun ls hl => ?_)
  refine lv_aload_n hx hb dX6_depart_85 rfl (lv_at hl 4 rfl) ?_
  refine va_get (D := G) (ci := 5) (v := .ref p13) (C := RX6) (T := TX6) (N := 15) (ref := RX6) hx hb hts h3w hown hX.1 hP 0 rfl rfl 14 (by decide) h2w (fun _ h9 => h9) rfl dX6_depart_86 ?_
  refine lv_iload hx hb dX6_depart_89 (lv_at hl 2 rfl) ?_
  refine lv_dup2_11 hx hb dX6_depart_91 rfl rfl ?_
  refine va_iald hx hb hX.1 hP 1 0 rfl rfl (by unfold vp_in; decide +kernel) dX6_depart_92 ?_
  refine cz_ti (w := 3) (by rfl) ?_
  refine lv_iload hx hb dX6_depart_93 (lv_at hl 0 rfl) ?_
  refine lv_if_eq (tgt := 102) hx hb dX6_depart_95 (by decide) (fun q => absurd (q) (by decide +kernel)) (fun _ => ?_)
  refine lv_iconst (v := 3) hx hb dX6_depart_98 (by decide +kernel) ?_
  refine lv_goto (tgt := 103) hx hb dX6_depart_99 (by decide) ?_
  refine lv_iload hx hb dX6_depart_103 (lv_at hl 1 rfl) ?_
  refine lv_ishl hx hb dX6_depart_105 ?_
  refine cz_ti (w := 12) (by decide +kernel) ?_
  refine lv_ior hx hb dX6_depart_106 ?_
  refine cz_ti (w := 15) (by decide +kernel) ?_
  refine va_iast hx hb hX.1 hP hD hS 1 0 rfl rfl (by unfold vp_in; decide +kernel) dX6_depart_107 (fun H locs hP hD hS => ?_)
  refine lv_aload_n hx hb dX6_depart_108 rfl (lv_at hl 4 rfl) ?_
  refine va_get (D := G) (ci := 5) (v := .ref p13) (C := RX6) (T := TX6) (N := 15) (ref := RX6) hx hb hts h3w hown hX.1 hP 0 rfl rfl 14 (by decide) h2w (fun _ h9 => h9) rfl dX6_depart_109 ?_
  refine lv_iload hx hb dX6_depart_112 (lv_at hl 2 rfl) ?_
  refine va_iald hx hb hX.1 hP 1 0 rfl rfl (by unfold vp_in; decide +kernel) dX6_depart_114 ?_
  refine cz_ti (w := 15) (by rfl) ?_
  refine lv_iload hx hb dX6_depart_115 (lv_at hl 1 rfl) ?_
  refine lv_iushr (v := 3) hx hb dX6_depart_117 (by decide +kernel) ?_
  refine lv_iconst (v := 2) hx hb dX6_depart_118 (by decide +kernel) ?_
  refine lv_iand hx hb dX6_depart_119 ?_
  refine cz_ti (w := 2) (by decide +kernel) ?_
  refine lv_if_eq (tgt := 137) hx hb dX6_depart_120 (by decide) (fun q => absurd (q) (by decide +kernel)) (fun _ => ?_)
  refine lv_aload_n hx hb dX6_depart_123 rfl (lv_at hl 4 rfl) ?_
  refine lv_iload_n hx hb dX6_depart_124 rfl (lv_at hl 5 rfl) ?_
  refine lv_iload_n hx hb dX6_depart_125 rfl (lv_at hl 7 rfl) ?_
  refine lv_iconst (v := 1) hx hb dX6_depart_126 (by decide +kernel) ?_
  refine cz_v (wr := [(p13, .inl (k 0, 1641, .inl (upd (upd (fun _ => 0) (0 : Int32).toNatClampNeg 3) (0 : Int32).toNatClampNeg 15))), (p4, .inl (k 0, 1500, .inl (upd (upd (fun _ => 0) (0 : Int32).toNatClampNeg 0) (1 : Int32).toNatClampNeg 1))), (p7, .inl (k 0, 1024, .inl (upd (upd (fun _ => (-1)) (455 : Int32).toNatClampNeg 0) (519 : Int32).toNatClampNeg 1))), (p3, .inl (k 0, 1500, .inl (upd (upd (fun _ => 0) (0 : Int32).toNatClampNeg 268435455) (1 : Int32).toNatClampNeg 536870911))), (p23, .inr (4, [v25, v26, v27, v28, .int 0]))]) (va_runV (As := [.int 536870911, .int 0, .int 1]) (rest := []) ⟨hx, hb, hml, hown, hts⟩ (cX6_go_3 l G k p0 p1 (.int 1) v2 (.ref p3) (.ref p4) v5 v6 (.ref p7) v8 v9 v10 v11 (.int 1) v12 (.ref p13) v14 v15 (.int 0) (.int 1) v16 v17 v18 v19 v20 v21 v22 (.ref p23) v24 H.size) (cwV 3 hts gX6_depart_X6_go rfl rfl rfl (by decide +kernel) ⟨Nat.le_of_ble_eq_true rfl, Nat.le_of_ble_eq_true rfl⟩) (cz_preV hZ hS hX hP hD [0, 5] rfl rfl (ci := 5) (q0 := 0) rfl rfl) rfl rfl hl.1 rfl (lv_room (Nat.le_of_ble_eq_true rfl)) dX6_depart_127 ⟨Nat.le_of_ble_eq_true rfl, Nat.le_of_ble_eq_true rfl⟩) hP hD hS hA [0, 5] [1, 2, 3, 4, 6] rfl rfl (by decide) (by decide) (fun u H locs hp hP hD hS => ?_)
  refine lv_aload_n hx hb dX6_depart_130 rfl (lv_at hl 4 rfl) ?_
  refine lv_iload_n hx hb dX6_depart_131 rfl (lv_at hl 5 rfl) ?_
  refine lv_iload_n hx hb dX6_depart_132 rfl (lv_at hl 7 rfl) ?_
  refine lv_iconst (v := (-1)) hx hb dX6_depart_133 (by decide +kernel) ?_
  refine cz_v (wr := [(p13, .inl (k 0, 1641, .inl (upd (upd (fun _ => 0) (0 : Int32).toNatClampNeg 3) (0 : Int32).toNatClampNeg 15))), (p23, .inr (4, [v25, v26, v27, v28, .int 0]))]) (va_runV (As := [.int 536870911, .int 0, .int (-1)]) (rest := []) ⟨hx, hb, hml, hown, hts⟩ (cX6_go_4 l G k p0 p1 v2 p3 p4 v5 v6 p7 v8 v9 v10 v11 v12 (.ref p13) v14 v15 v16 v17 v18 v19 v20 v21 v22 (.ref p23) v24 H.size) (cwV 3 hts gX6_depart_X6_go rfl rfl rfl (by decide +kernel) ⟨Nat.le_of_ble_eq_true rfl, Nat.le_of_ble_eq_true rfl⟩) (cz_preV hZ hS hX hP hD [5, 6, 1, 2, 3] rfl rfl (ci := 5) (q0 := 5) rfl rfl) rfl rfl hl.1 rfl (lv_room (Nat.le_of_ble_eq_true rfl)) dX6_depart_134 ⟨Nat.le_of_ble_eq_true rfl, Nat.le_of_ble_eq_true rfl⟩) hP hD hS hA [5, 6, 1, 2, 3] [0, 4] rfl rfl (by decide) (by decide) (fun u H locs hp hP hD hS => ?_)
  obtain ⟨hP, hD⟩ : va_P G vwCl [(p13, .inl (k 0, 1641, .inl (upd (upd (fun _ => 0) (0 : Int32).toNatClampNeg 3) (0 : Int32).toNatClampNeg 15))), (p23, .inr (4, [v25, v26, v27, v28, .int 0])), (p1, .inr (2, [.int 1, v14, v15, .int 0, .int 1, v16, v17, v18, v19, v20, v21, v22, .ref p23, v24])), (p0, .inr (5, [.ref p1, .int 1, v2, .ref p3, .ref p4, v5, v6, .ref p7, v8, v9, v10, v11, .int 1, v12, .ref p13])), (p4, .inl (k 0, 1500, .inl (upd (upd (fun _ => 0) (0 : Int32).toNatClampNeg 0) (1 : Int32).toNatClampNeg 1))), (p7, .inl (k 0, 1024, .inl (upd (upd (fun _ => (-1)) (455 : Int32).toNatClampNeg 0) (519 : Int32).toNatClampNeg 1))), (p3, .inl (k 0, 1500, .inl (upd (upd (fun _ => 0) (0 : Int32).toNatClampNeg 268435455) (1 : Int32).toNatClampNeg 536870911)))] H ∧ va_D A [(p13, .inl (k 0, 1641, .inl (upd (upd (fun _ => 0) (0 : Int32).toNatClampNeg 3) (0 : Int32).toNatClampNeg 15))), (p23, .inr (4, [v25, v26, v27, v28, .int 0])), (p1, .inr (2, [.int 1, v14, v15, .int 0, .int 1, v16, v17, v18, v19, v20, v21, v22, .ref p23, v24])), (p0, .inr (5, [.ref p1, .int 1, v2, .ref p3, .ref p4, v5, v6, .ref p7, v8, v9, v10, v11, .int 1, v12, .ref p13])), (p4, .inl (k 0, 1500, .inl (upd (upd (fun _ => 0) (0 : Int32).toNatClampNeg 0) (1 : Int32).toNatClampNeg 1))), (p7, .inl (k 0, 1024, .inl (upd (upd (fun _ => (-1)) (455 : Int32).toNatClampNeg 0) (519 : Int32).toNatClampNeg 1))), (p3, .inl (k 0, 1500, .inl (upd (upd (fun _ => 0) (0 : Int32).toNatClampNeg 268435455) (1 : Int32).toNatClampNeg 536870911)))] := ⟨hP, hD⟩
  have hP9 := hP.sub (ws' := [(p13, .inl (k 0, 1641, .inl (upd (upd (fun _ => 0) (0 : Int32).toNatClampNeg 3) (0 : Int32).toNatClampNeg 15))), (p23, .inr (4, [v25, v26, v27, v28, .int 0])), (p1, .inr (2, [.int 1, v14, v15, .int 0, .int 1, v16, v17, v18, v19, v20, v21, v22, .ref p23, v24])), (p0, .inr (5, [.ref p1, .int 1, v2, .ref p3, .ref p4, v5, v6, .ref p7, v8, v9, v10, v11, .int 1, v12, .ref p13])), (p4, .inl (k 0, 1500, .inl (upd (upd (fun _ => 0) (0 : Int32).toNatClampNeg 0) (1 : Int32).toNatClampNeg 1))), (p7, .inl (k 0, 1024, .inl (upd (upd (fun _ => (-1)) (455 : Int32).toNatClampNeg 0) (519 : Int32).toNatClampNeg 1))), (p3, .inl (k 0, 1500, .inl (upd (upd (fun _ => 0) (0 : Int32).toNatClampNeg 268435455) (1 : Int32).toNatClampNeg 536870911)))]) [0, 1, 2, 3, 4, 5, 6] rfl
  have hD9 := hD.sub (ws' := [(p13, .inl (k 0, 1641, .inl (upd (upd (fun _ => 0) (0 : Int32).toNatClampNeg 3) (0 : Int32).toNatClampNeg 15))), (p23, .inr (4, [v25, v26, v27, v28, .int 0])), (p1, .inr (2, [.int 1, v14, v15, .int 0, .int 1, v16, v17, v18, v19, v20, v21, v22, .ref p23, v24])), (p0, .inr (5, [.ref p1, .int 1, v2, .ref p3, .ref p4, v5, v6, .ref p7, v8, v9, v10, v11, .int 1, v12, .ref p13])), (p4, .inl (k 0, 1500, .inl (upd (upd (fun _ => 0) (0 : Int32).toNatClampNeg 0) (1 : Int32).toNatClampNeg 1))), (p7, .inl (k 0, 1024, .inl (upd (upd (fun _ => (-1)) (455 : Int32).toNatClampNeg 0) (519 : Int32).toNatClampNeg 1))), (p3, .inl (k 0, 1500, .inl (upd (upd (fun _ => 0) (0 : Int32).toNatClampNeg 268435455) (1 : Int32).toNatClampNeg 536870911)))]) [0, 1, 2, 3, 4, 5, 6] (by decide) rfl
  exact W.vret hx hb hr (fun t ht hW => ⟨⟨(), rfl, trivial, by rw [ht]; exact hP9, hD9⟩, hS.F ht⟩) hS.2.2 dX6_depart_137

set_option maxHeartbeats 4000000 in
set_option maxRecDepth 100000 in
theorem cX6_lade_2 (l : Launch) (G : va_G) (k : Nat → ClassId) (p0 : Nat) (p1 : Nat) (p2 : Nat) (p3 : Nat) (v4 : Value) (v5 : Value) (p6 : Nat) (v7 : Value) (v8 : Value) (v9 : Value) (v10 : Value) (v11 : Value) (p12 : Nat) (v13 : Value) (v14 : Value) (v15 : Value) (v16 : Value) (v17 : Value) (v18 : Value) (v19 : Value) (v20 : Value) (p21 : Nat) (v22 : Value) (v23 : Value) (v24 : Value) (v25 : Value) (v26 : Value) (sz : Nat) : CMv l G k yX6_lade wsX6_lade ({ frames := 3, cells := 0, slots := 0, locals := 79 }) [.ref p0, .int 0, .int 536870911, .int 0, .int 0, .int 0] sz [(p0, .inr (5, [.ref p1, .int 1, .int 0, .ref p2, .ref p3, v4, v5, .ref p6, v7, v8, v9, v10, .int 1, v11, .ref p12])), (p1, .inr (2, [.int 1, v13, v14, .int 0, .int 1, v15, v16, .int 0, v17, v18, v19, v20, .ref p21, v22])), (p12, .inl (k 0, 1641, .inl (upd (fun _ => 0) (0 : Int32).toNatClampNeg 3))), (p21, .inr (4, [v23, v24, v25, v26, .int 0])), (p3, .inl (k 0, 1500, .inl (upd (upd (fun _ => 0) (0 : Int32).toNatClampNeg 0) (1 : Int32).toNatClampNeg 1))), (p6, .inl (k 0, 1024, .inl (upd (upd (fun _ => (-1)) (455 : Int32).toNatClampNeg 0) (519 : Int32).toNatClampNeg 1))), (p2, .inl (k 0, 1500, .inl (upd (upd (fun _ => 0) (0 : Int32).toNatClampNeg 268435455) (1 : Int32).toNatClampNeg 536870911)))] (fun (u : Unit) => True) (fun (u : Unit) => [(p12, .inl (k 0, 1641, .inl (upd (upd (fun _ => 0) (0 : Int32).toNatClampNeg 3) (0 : Int32).toNatClampNeg 15))), (p21, .inr (4, [v23, v24, v25, v26, .int 0])), (p1, .inr (2, [.int 1, v13, v14, .int 0, .int 1, v15, v16, .int 0, v17, v18, v19, v20, .ref p21, v22])), (p0, .inr (5, [.ref p1, .int 1, .int 0, .ref p2, .ref p3, v4, v5, .ref p6, v7, v8, v9, v10, .int 1, v11, .ref p12])), (p3, .inl (k 0, 1500, .inl (upd (upd (fun _ => 0) (0 : Int32).toNatClampNeg 0) (1 : Int32).toNatClampNeg 1))), (p6, .inl (k 0, 1024, .inl (upd (upd (fun _ => (-1)) (455 : Int32).toNatClampNeg 0) (519 : Int32).toNatClampNeg 1))), (p2, .inl (k 0, 1500, .inl (upd (upd (fun _ => 0) (0 : Int32).toNatClampNeg 268435455) (1 : Int32).toNatClampNeg 536870911)))]) := by
  refine Met.ofW (cc := cX6_lade) (maxL := 8) (ret := none) (by decide) rfl ?_
  intro p e s m args below meth c s₁ B hml hv
  obtain ⟨rfl, hsz, hP, hX, hD0, hZ0⟩ := hv
  have hx := B.exec
  have hb := B.bytes
  have hr := B.returns
  have hts := atoms_spec (ws := wsX6_lade) B.pre
  have hown : s.vm.findClass RX6 = some m.cls := findClass_of_methodNamed B.named
  subst hsz
  have hD := hD0.self (sz := s.heap.size)
  have hZ := ZX.up hP hZ0
  generalize hAe : va_A [(p0, .inr (5, [.ref p1, .int 1, .int 0, .ref p2, .ref p3, v4, v5, .ref p6, v7, v8, v9, v10, .int 1, v11, .ref p12])), (p1, .inr (2, [.int 1, v13, v14, .int 0, .int 1, v15, v16, .int 0, v17, v18, v19, v20, .ref p21, v22])), (p12, .inl (k 0, 1641, .inl (upd (fun _ => 0) (0 : Int32).toNatClampNeg 3))), (p21, .inr (4, [v23, v24, v25, v26, .int 0])), (p3, .inl (k 0, 1500, .inl (upd (upd (fun _ => 0) (0 : Int32).toNatClampNeg 0) (1 : Int32).toNatClampNeg 1))), (p6, .inl (k 0, 1024, .inl (upd (upd (fun _ => (-1)) (455 : Int32).toNatClampNeg 0) (519 : Int32).toNatClampNeg 1))), (p2, .inl (k 0, 1500, .inl (upd (upd (fun _ => 0) (0 : Int32).toNatClampNeg 268435455) (1 : Int32).toNatClampNeg 536870911)))] s.heap.size = A at hD hZ ⊢
  have hA : ∀ q : Nat, s.heap.size ≤ q → A q := fun q h => by rw [← hAe]; exact Or.inr h
  have hS : va_S A s.heap s.heap [] := va_S.rf
  have hP : va_P G vwCl [(p0, .inr (5, [.ref p1, .int 1, .int 0, .ref p2, .ref p3, v4, v5, .ref p6, v7, v8, v9, v10, .int 1, v11, .ref p12])), (p1, .inr (2, [.int 1, v13, v14, .int 0, .int 1, v15, v16, .int 0, v17, v18, v19, v20, .ref p21, v22])), (p12, .inl (k 0, 1641, .inl (upd (fun _ => 0) (0 : Int32).toNatClampNeg 3))), (p21, .inr (4, [v23, v24, v25, v26, .int 0])), (p3, .inl (k 0, 1500, .inl (upd (upd (fun _ => 0) (0 : Int32).toNatClampNeg 0) (1 : Int32).toNatClampNeg 1))), (p6, .inl (k 0, 1024, .inl (upd (upd (fun _ => (-1)) (455 : Int32).toNatClampNeg 0) (519 : Int32).toNatClampNeg 1))), (p2, .inl (k 0, 1500, .inl (upd (upd (fun _ => 0) (0 : Int32).toNatClampNeg 268435455) (1 : Int32).toNatClampNeg 536870911)))] s.heap := hP
  have hl := lv_entry ([.ref p0, .int 0, .int 536870911, .int 0, .int 0, .int 0]) (n := 8) (Nat.le_of_ble_eq_true rfl)
  rw [lg_entry_eq]
  generalize (lg_sl ([.ref p0, .int 0, .int 536870911, .int 0, .int 0, .int 0]) ++ List.replicate (8 - (lg_sl ([.ref p0, .int 0, .int 536870911, .int 0, .int 0, .int 0])).length) Slot.unset).toArray = ls at hl ⊢
  have hl : lv_has ls 8 [(0, .ref p0), (1, .int 0), (2, .int 536870911), (3, .int 0), (4, .int 0), (5, .int 0)] := hl
  have h0w := hts (.fieldLink RX6 19 "RopeTown$Search" "isSpent" "Z") (by decide +kernel)
  have h1w : ∀ w ∈ wsX60, w ∈ wsX6_lade := by decide +kernel
  have h2w := hts (.fieldLink RX6 9 "RopeTown$Search" "plan" "LRopeTown$Plan;") (by decide +kernel)
  have h3w : ∀ w ∈ wsX30, w ∈ wsX6_lade := by decide +kernel
  refine lv_aload_n hx hb dX6_lade_0 rfl (lv_at hl 0 rfl) ?_
  refine va_get (D := G) (ci := 5) (v := .int 0) (C := RX6) (T := TX6) (N := 15) (ref := RX6) hx hb hts h1w hown hX.1 hP 0 rfl rfl 2 (by decide) h0w (fun _ h9 => h9) rfl dX6_lade_1 ?_
  refine lv_if_eq (tgt := 8) hx hb dX6_lade_4 (by decide) (fun _ => ?_) (fun q => absurd (by decide +kernel) (q))
  refine lv_iload_n hx hb dX6_lade_8 rfl (lv_at hl 1 rfl) ?_
  refine lv_aload_n hx hb dX6_lade_9 rfl (lv_at hl 0 rfl) ?_
  refine va_get (D := G) (ci := 5) (v := .ref p1) (C := RX6) (T := TX6) (N := 15) (ref := RX6) hx hb hts h1w hown hX.1 hP 0 rfl rfl 0 (by decide) h2w (fun _ h9 => h9) rfl dX6_lade_10 ?_
  refine va_getN (D := G) (ci := 2) (v := .int 0) (C := RX3) (T := TX3) (N := 14) (ref := RX3) (host := RX9) hx hb hts h3w hown hX.1 hP 1 rfl rfl 7 (by decide) (nf_17 hX.2.2.1) (fun _ h9 => h9) rfl dX6_lade_13 ?_
  refine lv_icmp_ge (tgt := 25) hx hb dX6_lade_16 (by decide) (fun _ => ?_) (fun q => absurd (by decide +kernel) (q))
  refine lv_aload_n hx hb dX6_lade_25 rfl (lv_at hl 0 rfl) ?_
  refine lv_iload_n hx hb dX6_lade_26 rfl (lv_at hl 2 rfl) ?_
  refine lv_iload_n hx hb dX6_lade_27 rfl (lv_at hl 3 rfl) ?_
  refine lv_iload hx hb dX6_lade_28 (lv_at hl 4 rfl) ?_
  refine lv_iload hx hb dX6_lade_30 (lv_at hl 5 rfl) ?_
  refine lv_isub hx hb dX6_lade_32 ?_
  refine cz_ti (w := 0) (by decide +kernel) ?_
  refine cz_v (wr := []) (va_runV (As := [.int 536870911, .int 0, .int 0]) (rest := []) ⟨hx, hb, hml, hown, hts⟩ (cX6_depart_2 l G k p0 p1 (.int 0) p2 p3 v4 v5 p6 v7 v8 v9 v10 v11 p12 v13 v14 v15 v16 (.int 0) v17 v18 v19 v20 p21 v22 v23 v24 v25 v26 s.heap.size) (cwV 3 hts gX6_lade_X6_depart rfl rfl rfl (by decide +kernel) ⟨Nat.le_of_ble_eq_true rfl, Nat.le_of_ble_eq_true rfl⟩) (cz_preV hZ hS hX hP hD [0, 2, 1, 3, 4, 5, 6] rfl rfl (ci := 5) (q0 := 0) rfl rfl) rfl rfl hl.1 rfl (lv_room (Nat.le_of_ble_eq_true rfl)) dX6_lade_33 ⟨Nat.le_of_ble_eq_true rfl, Nat.le_of_ble_eq_true rfl⟩) hP hD hS hA [0, 2, 1, 3, 4, 5, 6] [] rfl rfl (by decide) (by decide) (fun u H locs hp hP hD hS => ?_)
  have hP9 := hP.sub (ws' := [(p12, .inl (k 0, 1641, .inl (upd (upd (fun _ => 0) (0 : Int32).toNatClampNeg 3) (0 : Int32).toNatClampNeg 15))), (p21, .inr (4, [v23, v24, v25, v26, .int 0])), (p1, .inr (2, [.int 1, v13, v14, .int 0, .int 1, v15, v16, .int 0, v17, v18, v19, v20, .ref p21, v22])), (p0, .inr (5, [.ref p1, .int 1, .int 0, .ref p2, .ref p3, v4, v5, .ref p6, v7, v8, v9, v10, .int 1, v11, .ref p12])), (p3, .inl (k 0, 1500, .inl (upd (upd (fun _ => 0) (0 : Int32).toNatClampNeg 0) (1 : Int32).toNatClampNeg 1))), (p6, .inl (k 0, 1024, .inl (upd (upd (fun _ => (-1)) (455 : Int32).toNatClampNeg 0) (519 : Int32).toNatClampNeg 1))), (p2, .inl (k 0, 1500, .inl (upd (upd (fun _ => 0) (0 : Int32).toNatClampNeg 268435455) (1 : Int32).toNatClampNeg 536870911)))]) [0, 1, 2, 3, 4, 5, 6] rfl
  have hD9 := hD.sub (ws' := [(p12, .inl (k 0, 1641, .inl (upd (upd (fun _ => 0) (0 : Int32).toNatClampNeg 3) (0 : Int32).toNatClampNeg 15))), (p21, .inr (4, [v23, v24, v25, v26, .int 0])), (p1, .inr (2, [.int 1, v13, v14, .int 0, .int 1, v15, v16, .int 0, v17, v18, v19, v20, .ref p21, v22])), (p0, .inr (5, [.ref p1, .int 1, .int 0, .ref p2, .ref p3, v4, v5, .ref p6, v7, v8, v9, v10, .int 1, v11, .ref p12])), (p3, .inl (k 0, 1500, .inl (upd (upd (fun _ => 0) (0 : Int32).toNatClampNeg 0) (1 : Int32).toNatClampNeg 1))), (p6, .inl (k 0, 1024, .inl (upd (upd (fun _ => (-1)) (455 : Int32).toNatClampNeg 0) (519 : Int32).toNatClampNeg 1))), (p2, .inl (k 0, 1500, .inl (upd (upd (fun _ => 0) (0 : Int32).toNatClampNeg 268435455) (1 : Int32).toNatClampNeg 536870911)))]) [0, 1, 2, 3, 4, 5, 6] (by decide) rfl
  exact W.vret hx hb hr (fun t ht hW => ⟨⟨(), rfl, trivial, by rw [ht]; exact hP9, hD9⟩, hS.F ht⟩) hS.2.2 dX6_lade_36

