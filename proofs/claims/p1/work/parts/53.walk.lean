set_option maxHeartbeats 4000000 in
set_option maxRecDepth 100000 in
theorem cX6_explore_1 (l : Launch) (G : va_G) (k : Nat → ClassId) (p0 : Nat) (p1 : Nat) (p2 : Nat) (p3 : Nat) (p4 : Nat) (p5 : Nat) (p6 : Nat) (p7 : Nat) (p8 : Nat) (v9 : Value) (p10 : Nat) (f11 : Nat → Int32) (f12 : Nat → Int32) (v13 : Value) (v14 : Value) (v15 : Value) (v16 : Value) (v17 : Value) (v18 : Value) (v19 : Value) (v20 : Value) (p21 : Nat) (v22 : Value) (v23 : Value) (v24 : Value) (v25 : Value) (v26 : Value) (sz : Nat) : CMi l G k yX6_explore wsX6_explore ({ frames := 5, cells := 0, slots := 0, locals := 130 }) [.ref p0, .ref p1, .int 268435455, .int 1] sz [(p0, .inr (5, [.ref p1, .int 0, .int 0, .ref p2, .ref p3, .ref p4, .int 0, .ref p5, .ref p6, .ref p7, .ref p8, .int 0, .int (-1), v9, .ref p10])), (p5, .inl (k 0, 1024, .inl (fun _ => 0))), (p2, .inl (k 0, 1500, .inl (fun _ => 0))), (p6, .inl (k 0, 1500, .inl f11)), (p8, .inl (k 0, 1500, .inl (fun _ => 0))), (p3, .inl (k 0, 1500, .inl (fun _ => 0))), (p4, .inl (k 0, 1500, .inl f12)), (p7, .inl (k 0, 1500, .inl (fun _ => 0))), (p1, .inr (2, [.int 1, v13, v14, .int 0, .int 1, v15, v16, .int 0, v17, v18, v19, v20, .ref p21, v22])), (p10, .inl (k 0, 1641, .inl (fun _ => 0))), (p21, .inr (4, [v23, v24, v25, v26, .int 0]))] (fun r (u : Unit) => r = 1) (fun (u : Unit) => [(p6, .inl (k 0, 1500, .inl (upd (upd f11 (0 : Int32).toNatClampNeg (-1)) (1 : Int32).toNatClampNeg (-1)))), (p4, .inl (k 0, 1500, .inl (upd (upd f12 (0 : Int32).toNatClampNeg (-1)) (1 : Int32).toNatClampNeg 0))), (p7, .inl (k 0, 1500, .inl (upd (upd (upd (upd (fun _ => 0) (0 : Int32).toNatClampNeg 0) (0 : Int32).toNatClampNeg 0) (0 : Int32).toNatClampNeg 1) (0 : Int32).toNatClampNeg 1))), (p8, .inl (k 0, 1500, .inl (upd (upd (upd (upd (upd (upd (fun _ => 0) (0 : Int32).toNatClampNeg 0) (0 : Int32).toNatClampNeg 0) (0 : Int32).toNatClampNeg 0) (1 : Int32).toNatClampNeg 0) (1 : Int32).toNatClampNeg 0) (1 : Int32).toNatClampNeg 0))), (p10, .inl (k 0, 1641, .inl (upd (upd (fun _ => 0) (0 : Int32).toNatClampNeg 3) (0 : Int32).toNatClampNeg 15))), (p21, .inr (4, [v23, v24, v25, v26, .int 0])), (p1, .inr (2, [.int 1, v13, v14, .int 0, .int 1, v15, v16, .int 0, v17, v18, v19, v20, .ref p21, v22])), (p0, .inr (5, [.ref p1, .int 1, .int 0, .ref p2, .ref p3, .ref p4, .int 2, .ref p5, .ref p6, .ref p7, .ref p8, .int 0, .int 1, v9, .ref p10])), (p3, .inl (k 0, 1500, .inl (upd (upd (fun _ => 0) (0 : Int32).toNatClampNeg 0) (1 : Int32).toNatClampNeg 1))), (p5, .inl (k 0, 1024, .inl (upd (upd (fun _ => (-1)) (455 : Int32).toNatClampNeg 0) (519 : Int32).toNatClampNeg 1))), (p2, .inl (k 0, 1500, .inl (upd (upd (fun _ => 0) (0 : Int32).toNatClampNeg 268435455) (1 : Int32).toNatClampNeg 536870911)))]) := by
  refine Met.ofW (cc := cX6_explore) (maxL := 5) (ret := (some .boolean)) (by decide) rfl ?_
  intro p e s m args below meth c s₁ B hml hv
  obtain ⟨rfl, hsz, hP, hX, hD0, hZ0⟩ := hv
  have hx := B.exec
  have hb := B.bytes
  have hr := B.returns
  have hts := atoms_spec (ws := wsX6_explore) B.pre
  have hown : s.vm.findClass RX6 = some m.cls := findClass_of_methodNamed B.named
  subst hsz
  have hD := hD0.self (sz := s.heap.size)
  have hZ := ZX.up hP hZ0
  generalize hAe : va_A [(p0, .inr (5, [.ref p1, .int 0, .int 0, .ref p2, .ref p3, .ref p4, .int 0, .ref p5, .ref p6, .ref p7, .ref p8, .int 0, .int (-1), v9, .ref p10])), (p5, .inl (k 0, 1024, .inl (fun _ => 0))), (p2, .inl (k 0, 1500, .inl (fun _ => 0))), (p6, .inl (k 0, 1500, .inl f11)), (p8, .inl (k 0, 1500, .inl (fun _ => 0))), (p3, .inl (k 0, 1500, .inl (fun _ => 0))), (p4, .inl (k 0, 1500, .inl f12)), (p7, .inl (k 0, 1500, .inl (fun _ => 0))), (p1, .inr (2, [.int 1, v13, v14, .int 0, .int 1, v15, v16, .int 0, v17, v18, v19, v20, .ref p21, v22])), (p10, .inl (k 0, 1641, .inl (fun _ => 0))), (p21, .inr (4, [v23, v24, v25, v26, .int 0]))] s.heap.size = A at hD hZ ⊢
  have hA : ∀ q : Nat, s.heap.size ≤ q → A q := fun q h => by rw [← hAe]; exact Or.inr h
  have hS : va_S A s.heap s.heap [] := va_S.rf
  have hP : va_P G vwCl [(p0, .inr (5, [.ref p1, .int 0, .int 0, .ref p2, .ref p3, .ref p4, .int 0, .ref p5, .ref p6, .ref p7, .ref p8, .int 0, .int (-1), v9, .ref p10])), (p5, .inl (k 0, 1024, .inl (fun _ => 0))), (p2, .inl (k 0, 1500, .inl (fun _ => 0))), (p6, .inl (k 0, 1500, .inl f11)), (p8, .inl (k 0, 1500, .inl (fun _ => 0))), (p3, .inl (k 0, 1500, .inl (fun _ => 0))), (p4, .inl (k 0, 1500, .inl f12)), (p7, .inl (k 0, 1500, .inl (fun _ => 0))), (p1, .inr (2, [.int 1, v13, v14, .int 0, .int 1, v15, v16, .int 0, v17, v18, v19, v20, .ref p21, v22])), (p10, .inl (k 0, 1641, .inl (fun _ => 0))), (p21, .inr (4, [v23, v24, v25, v26, .int 0]))] s.heap := hP
  have hl := lv_entry ([.ref p0, .ref p1, .int 268435455, .int 1]) (n := 5) (Nat.le_of_ble_eq_true rfl)
  rw [lg_entry_eq]
  generalize (lg_sl ([.ref p0, .ref p1, .int 268435455, .int 1]) ++ List.replicate (5 - (lg_sl ([.ref p0, .ref p1, .int 268435455, .int 1])).length) Slot.unset).toArray = ls at hl ⊢
  have hl : lv_has ls 5 [(0, .ref p0), (1, .ref p1), (2, .int 268435455), (3, .int 1)] := hl
  have h0w := hts (.fieldLink RX6 22 "RopeTown$Search" "size" "I") (by decide +kernel)
  have h1w : ∀ w ∈ wsX60, w ∈ wsX6_explore := by decide +kernel
  have h2w := hts (.fieldLink RX6 9 "RopeTown$Search" "plan" "LRopeTown$Plan;") (by decide +kernel)
  have h3w := hts (.fieldLink RX6 15 "RopeTown$Search" "byHand" "Z") (by decide +kernel)
  have h4w := hts (.fieldLink RX6 19 "RopeTown$Search" "isSpent" "Z") (by decide +kernel)
  have h5w := hts (.fieldLink RX6 26 "RopeTown$Search" "waiting" "I") (by decide +kernel)
  have h6w := hts (.fieldLink RX6 29 "RopeTown$Search" "current" "I") (by decide +kernel)
  have h7w := hts (.fieldLink RX6 42 "RopeTown$Search" "heads" "[I") (by decide +kernel)
  have h8w := hts (.fieldLink RX6 32 "RopeTown$Search" "states" "[I") (by decide +kernel)
  refine lv_aload_n hx hb dX6_explore_0 rfl (lv_at hl 0 rfl) ?_
  refine va_get (D := G) (ci := 5) (v := .int 0) (C := RX6) (T := TX6) (N := 15) (ref := RX6) hx hb hts h1w hown hX.1 hP 0 rfl rfl 6 (by decide) h0w (fun _ h9 => h9) rfl dX6_explore_1 ?_
  refine lv_if_le (tgt := 38) hx hb dX6_explore_4 (by decide) (fun _ => ?_) (fun q => absurd (by decide +kernel) (q))
  refine lv_aload_n hx hb dX6_explore_38 rfl (lv_at hl 0 rfl) ?_
  refine lv_aload_n hx hb dX6_explore_39 rfl (lv_at hl 1 rfl) ?_
  refine va_put (D := G) (ci := 5) (v := .ref p1) (ty := .object "RopeTown$Plan") (C := RX6) (T := TX6) (N := 15) (ref := RX6) hx hb hts h1w tyX6 tyX6_ok nmX6 hown hX.1 hP hD hS 0 rfl rfl 0 (by decide) h2w (fun _ h9 => h9) rfl (by decide +kernel) rfl rfl (Nat.le_of_ble_eq_true rfl) dX6_explore_40 (fun H locs hP hD hS => ?_)
  refine lv_aload_n hx hb dX6_explore_43 rfl (lv_at hl 0 rfl) ?_
  refine lv_iload_n hx hb dX6_explore_44 rfl (lv_at hl 3 rfl) ?_
  refine va_put (D := G) (ci := 5) (v := .int 1) (ty := .boolean) (C := RX6) (T := TX6) (N := 15) (ref := RX6) hx hb hts h1w tyX6 tyX6_ok nmX6 hown hX.1 hP hD hS 0 rfl rfl 1 (by decide) h3w (fun _ h9 => h9) rfl (by decide +kernel) (by decide +kernel) rfl (Nat.le_of_ble_eq_true rfl) dX6_explore_45 (fun H locs hP hD hS => ?_)
  refine lv_aload_n hx hb dX6_explore_48 rfl (lv_at hl 0 rfl) ?_
  refine lv_iconst (v := 0) hx hb dX6_explore_49 (by decide +kernel) ?_
  refine va_put (D := G) (ci := 5) (v := .int 0) (ty := .boolean) (C := RX6) (T := TX6) (N := 15) (ref := RX6) hx hb hts h1w tyX6 tyX6_ok nmX6 hown hX.1 hP hD hS 0 rfl rfl 2 (by decide) h4w (fun _ h9 => h9) rfl (by decide +kernel) (by decide +kernel) rfl (Nat.le_of_ble_eq_true rfl) dX6_explore_50 (fun H locs hP hD hS => ?_)
  refine lv_aload_n hx hb dX6_explore_53 rfl (lv_at hl 0 rfl) ?_
  refine lv_iconst (v := 0) hx hb dX6_explore_54 (by decide +kernel) ?_
  refine va_put (D := G) (ci := 5) (v := .int 0) (ty := .int) (C := RX6) (T := TX6) (N := 15) (ref := RX6) hx hb hts h1w tyX6 tyX6_ok nmX6 hown hX.1 hP hD hS 0 rfl rfl 6 (by decide) h0w (fun _ h9 => h9) rfl (by decide +kernel) rfl rfl (Nat.le_of_ble_eq_true rfl) dX6_explore_55 (fun H locs hP hD hS => ?_)
  refine lv_aload_n hx hb dX6_explore_58 rfl (lv_at hl 0 rfl) ?_
  refine lv_iconst (v := 0) hx hb dX6_explore_59 (by decide +kernel) ?_
  refine va_put (D := G) (ci := 5) (v := .int 0) (ty := .int) (C := RX6) (T := TX6) (N := 15) (ref := RX6) hx hb hts h1w tyX6 tyX6_ok nmX6 hown hX.1 hP hD hS 0 rfl rfl 11 (by decide) h5w (fun _ h9 => h9) rfl (by decide +kernel) rfl rfl (Nat.le_of_ble_eq_true rfl) dX6_explore_60 (fun H locs hP hD hS => ?_)
  refine lv_aload_n hx hb dX6_explore_63 rfl (lv_at hl 0 rfl) ?_
  refine lv_iconst (v := (-1)) hx hb dX6_explore_64 (by decide +kernel) ?_
  refine va_put (D := G) (ci := 5) (v := .int (-1)) (ty := .int) (C := RX6) (T := TX6) (N := 15) (ref := RX6) hx hb hts h1w tyX6 tyX6_ok nmX6 hown hX.1 hP hD hS 0 rfl rfl 12 (by decide) h6w (fun _ h9 => h9) rfl (by decide +kernel) rfl rfl (Nat.le_of_ble_eq_true rfl) dX6_explore_65 (fun H locs hP hD hS => ?_)
  obtain ⟨hP, hD⟩ : va_P G vwCl [(p0, .inr (5, [.ref p1, .int 1, .int 0, .ref p2, .ref p3, .ref p4, .int 0, .ref p5, .ref p6, .ref p7, .ref p8, .int 0, .int (-1), v9, .ref p10])), (p5, .inl (k 0, 1024, .inl (fun _ => 0))), (p2, .inl (k 0, 1500, .inl (fun _ => 0))), (p6, .inl (k 0, 1500, .inl f11)), (p8, .inl (k 0, 1500, .inl (fun _ => 0))), (p3, .inl (k 0, 1500, .inl (fun _ => 0))), (p4, .inl (k 0, 1500, .inl f12)), (p7, .inl (k 0, 1500, .inl (fun _ => 0))), (p1, .inr (2, [.int 1, v13, v14, .int 0, .int 1, v15, v16, .int 0, v17, v18, v19, v20, .ref p21, v22])), (p10, .inl (k 0, 1641, .inl (fun _ => 0))), (p21, .inr (4, [v23, v24, v25, v26, .int 0]))] H ∧ va_D A [(p0, .inr (5, [.ref p1, .int 1, .int 0, .ref p2, .ref p3, .ref p4, .int 0, .ref p5, .ref p6, .ref p7, .ref p8, .int 0, .int (-1), v9, .ref p10])), (p5, .inl (k 0, 1024, .inl (fun _ => 0))), (p2, .inl (k 0, 1500, .inl (fun _ => 0))), (p6, .inl (k 0, 1500, .inl f11)), (p8, .inl (k 0, 1500, .inl (fun _ => 0))), (p3, .inl (k 0, 1500, .inl (fun _ => 0))), (p4, .inl (k 0, 1500, .inl f12)), (p7, .inl (k 0, 1500, .inl (fun _ => 0))), (p1, .inr (2, [.int 1, v13, v14, .int 0, .int 1, v15, v16, .int 0, v17, v18, v19, v20, .ref p21, v22])), (p10, .inl (k 0, 1641, .inl (fun _ => 0))), (p21, .inr (4, [v23, v24, v25, v26, .int 0]))] := ⟨hP, hD⟩
  refine lv_aload_n hx hb dX6_explore_68 rfl (lv_at hl 0 rfl) ?_
  refine va_get (D := G) (ci := 5) (v := .ref p5) (C := RX6) (T := TX6) (N := 15) (ref := RX6) hx hb hts h1w hown hX.1 hP 0 rfl rfl 7 (by decide) h7w (fun _ h9 => h9) rfl dX6_explore_69 ?_
  refine lv_iconst (v := (-1)) hx hb dX6_explore_72 (by decide +kernel) ?_
  refine cz_v (wr := [(p0, .inr (5, [.ref p1, .int 1, .int 0, .ref p2, .ref p3, .ref p4, .int 0, .ref p5, .ref p6, .ref p7, .ref p8, .int 0, .int (-1), v9, .ref p10])), (p2, .inl (k 0, 1500, .inl (fun _ => 0))), (p6, .inl (k 0, 1500, .inl f11)), (p8, .inl (k 0, 1500, .inl (fun _ => 0))), (p3, .inl (k 0, 1500, .inl (fun _ => 0))), (p4, .inl (k 0, 1500, .inl f12)), (p7, .inl (k 0, 1500, .inl (fun _ => 0))), (p1, .inr (2, [.int 1, v13, v14, .int 0, .int 1, v15, v16, .int 0, v17, v18, v19, v20, .ref p21, v22])), (p10, .inl (k 0, 1641, .inl (fun _ => 0))), (p21, .inr (4, [v23, v24, v25, v26, .int 0]))]) (va_runS (As := [.ref p5, .int (-1)]) (rest := []) ⟨hx, hb, hml, hown, hts⟩ (cJ7_fill l G k p5 1024 (-1) (fun _ => 0) H.size (by decide +kernel)) (va_cwS 2 hts gX6_explore_J7_fill_53178 rfl rfl rfl (by decide +kernel) ⟨Nat.le_of_ble_eq_true rfl, Nat.le_of_ble_eq_true rfl⟩) (cz_preS hZ hS hX hP hD [1] rfl rfl) rfl rfl hl.1 rfl (lv_room (Nat.le_of_ble_eq_true rfl)) dX6_explore_73 ⟨Nat.le_of_ble_eq_true rfl, Nat.le_of_ble_eq_true rfl⟩) hP hD hS hA [1] [0, 2, 3, 4, 5, 6, 7, 8, 9, 10] rfl rfl (by decide) (by decide) (fun u H locs hp hP hD hS => ?_)
  refine lv_aload_n hx hb dX6_explore_76 rfl (lv_at hl 0 rfl) ?_
  refine lv_iload_n hx hb dX6_explore_77 rfl (lv_at hl 2 rfl) ?_
  refine lv_iconst (v := 0) hx hb dX6_explore_78 (by decide +kernel) ?_
  refine cz_v (wr := [(p1, .inr (2, [.int 1, v13, v14, .int 0, .int 1, v15, v16, .int 0, v17, v18, v19, v20, .ref p21, v22])), (p10, .inl (k 0, 1641, .inl (fun _ => 0))), (p21, .inr (4, [v23, v24, v25, v26, .int 0]))]) (va_runV (As := [.int 268435455, .int 0]) (rest := []) ⟨hx, hb, hml, hown, hts⟩ (cX6_arrive_0 l G k p0 (.ref p1) (.int 1) (.int 0) p2 p3 p4 p5 p6 p7 p8 v9 (.ref p10) (fun _ => 0) f11 (fun _ => 0) f12 (fun _ => 0) H.size) (cwV 2 hts gX6_explore_X6_arrive rfl rfl rfl (by decide +kernel) ⟨Nat.le_of_ble_eq_true rfl, Nat.le_of_ble_eq_true rfl⟩) (cz_preV hZ hS hX hP hD [0, 10, 1, 2, 3, 4, 5, 6] rfl rfl (ci := 5) (q0 := 0) rfl rfl) rfl rfl hl.1 rfl (lv_room (Nat.le_of_ble_eq_true rfl)) dX6_explore_79 ⟨Nat.le_of_ble_eq_true rfl, Nat.le_of_ble_eq_true rfl⟩) hP hD hS hA [0, 10, 1, 2, 3, 4, 5, 6] [7, 8, 9] rfl rfl (by decide) (by decide) (fun u H locs hp hP hD hS => ?_)
  refine lv_iconst (v := 0) hx hb dX6_explore_82 (by decide +kernel) ?_
  refine lv_istore (lv' := [(4, .int 0), (0, .ref p0), (1, .ref p1), (2, .int 268435455), (3, .int 1)]) hx hb dX6_explore_83 hl (by decide) rfl (fun ls hl => ?_)
  refine lv_iload hx hb dX6_explore_85 (lv_at hl 0 rfl) ?_
  refine lv_sipush (v := 1500) hx hb dX6_explore_87 (by decide +kernel) ?_
  refine lv_icmp_ge (tgt := 142) hx hb dX6_explore_90 (by decide) (fun q => absurd (q) (by decide +kernel)) (fun _ => ?_)
  refine lv_aload_n hx hb dX6_explore_93 rfl (lv_at hl 1 rfl) ?_
  refine va_get (D := G) (ci := 5) (v := .int 1) (C := RX6) (T := TX6) (N := 15) (ref := RX6) hx hb hts h1w hown hX.1 hP 8 rfl rfl 11 (by decide) h5w (fun _ h9 => h9) rfl dX6_explore_94 ?_
  refine lv_if_le (tgt := 142) hx hb dX6_explore_97 (by decide) (fun q => absurd (q) (by decide +kernel)) (fun _ => ?_)
  refine lv_aload_n hx hb dX6_explore_100 rfl (lv_at hl 1 rfl) ?_
  refine va_get (D := G) (ci := 5) (v := .int 0) (C := RX6) (T := TX6) (N := 15) (ref := RX6) hx hb hts h1w hown hX.1 hP 8 rfl rfl 2 (by decide) h4w (fun _ h9 => h9) rfl dX6_explore_101 ?_
  refine lv_if_ne (tgt := 142) hx hb dX6_explore_104 (by decide) (fun q => absurd (by decide +kernel) (q)) (fun _ => ?_)
  refine lv_aload_n hx hb dX6_explore_107 rfl (lv_at hl 1 rfl) ?_
  refine lv_aload_n hx hb dX6_explore_108 rfl (lv_at hl 1 rfl) ?_
  refine cz_i (wr := [(p1, .inr (2, [.int 1, v13, v14, .int 0, .int 1, v15, v16, .int 0, v17, v18, v19, v20, .ref p21, v22])), (p10, .inl (k 0, 1641, .inl (fun _ => 0))), (p21, .inr (4, [v23, v24, v25, v26, .int 0])), (p5, .inl (k 0, 1024, .inl (upd (fun _ => (-1)) (455 : Int32).toNatClampNeg 0))), (p2, .inl (k 0, 1500, .inl (upd (fun _ => 0) (0 : Int32).toNatClampNeg 268435455))), (p6, .inl (k 0, 1500, .inl (upd f11 (0 : Int32).toNatClampNeg (-1)))), (p3, .inl (k 0, 1500, .inl (upd (fun _ => 0) (0 : Int32).toNatClampNeg 0))), (p4, .inl (k 0, 1500, .inl (upd f12 (0 : Int32).toNatClampNeg (-1))))]) (va_runV (As := []) (rest := [.ref p0]) ⟨hx, hb, hml, hown, hts⟩ (cX6_takeCheapest_0 l G k p0 (.ref p1) (.int 1) (.int 0) (.ref p2) (.ref p3) (.ref p4) (.int 1) (.ref p5) (.ref p6) p7 p8 (.int (-1)) v9 (.ref p10) (upd (upd (fun _ => 0) (0 : Int32).toNatClampNeg 0) (0 : Int32).toNatClampNeg 0) H.size) (cwV 0 hts gX6_explore_X6_takeCheapest rfl rfl rfl (by decide +kernel) ⟨Nat.le_of_ble_eq_true rfl, Nat.le_of_ble_eq_true rfl⟩) (cz_preV hZ hS hX hP hD [8, 10, 9] rfl rfl (ci := 5) (q0 := 8) rfl rfl) rfl rfl hl.1 rfl (lv_room (Nat.le_of_ble_eq_true rfl)) dX6_explore_109 ⟨Nat.le_of_ble_eq_true rfl, Nat.le_of_ble_eq_true rfl⟩) hP hD hS hA [8, 10, 9] [0, 1, 2, 3, 4, 5, 6, 7] rfl rfl (by decide) (by decide) (fun r u H locs hp hP hD hS => ?_)
  have hp : r = 0 := hp
  subst hp
  refine va_put (D := G) (ci := 5) (v := .int 0) (ty := .int) (C := RX6) (T := TX6) (N := 15) (ref := RX6) hx hb hts h1w tyX6 tyX6_ok nmX6 hown hX.1 hP hD hS 8 rfl rfl 12 (by decide) h6w (fun _ h9 => h9) rfl (by decide +kernel) rfl rfl (Nat.le_of_ble_eq_true rfl) dX6_explore_112 (fun H locs hP hD hS => ?_)
  refine lv_aload_n hx hb dX6_explore_115 rfl (lv_at hl 1 rfl) ?_
  refine lv_iconst (v := 0) hx hb dX6_explore_116 (by decide +kernel) ?_
  refine lv_aload_n hx hb dX6_explore_117 rfl (lv_at hl 1 rfl) ?_
  refine lv_aload_n hx hb dX6_explore_118 rfl (lv_at hl 1 rfl) ?_
  refine va_get (D := G) (ci := 5) (v := .ref p2) (C := RX6) (T := TX6) (N := 15) (ref := RX6) hx hb hts h1w hown hX.1 hP 8 rfl rfl 3 (by decide) h8w (fun _ h9 => h9) rfl dX6_explore_119 ?_
  refine lv_aload_n hx hb dX6_explore_122 rfl (lv_at hl 1 rfl) ?_
  refine va_get (D := G) (ci := 5) (v := .int 0) (C := RX6) (T := TX6) (N := 15) (ref := RX6) hx hb hts h1w hown hX.1 hP 8 rfl rfl 12 (by decide) h6w (fun _ h9 => h9) rfl dX6_explore_123 ?_
  refine va_iald hx hb hX.1 hP 4 0 rfl rfl (by unfold vp_in; decide +kernel) dX6_explore_126 ?_
  refine cz_ti (w := 268435455) (by rfl) ?_
  refine cz_i (wr := [(p10, .inl (k 0, 1641, .inl (fun _ => 0))), (p21, .inr (4, [v23, v24, v25, v26, .int 0])), (p5, .inl (k 0, 1024, .inl (upd (fun _ => (-1)) (455 : Int32).toNatClampNeg 0))), (p2, .inl (k 0, 1500, .inl (upd (fun _ => 0) (0 : Int32).toNatClampNeg 268435455))), (p6, .inl (k 0, 1500, .inl (upd f11 (0 : Int32).toNatClampNeg (-1)))), (p3, .inl (k 0, 1500, .inl (upd (fun _ => 0) (0 : Int32).toNatClampNeg 0))), (p4, .inl (k 0, 1500, .inl (upd f12 (0 : Int32).toNatClampNeg (-1)))), (p7, .inl (k 0, 1500, .inl (upd (upd (fun _ => 0) (0 : Int32).toNatClampNeg 0) (0 : Int32).toNatClampNeg 0))), (p8, .inl (k 0, 1500, .inl (upd (upd (upd (fun _ => 0) (0 : Int32).toNatClampNeg 0) (0 : Int32).toNatClampNeg 0) (0 : Int32).toNatClampNeg 0)))]) (va_runV (As := [.int 268435455]) (rest := [.int 0, .ref p0]) ⟨hx, hb, hml, hown, hts⟩ (cX6_emptied_0 l G k p0 p1 (.int 1) (.int 0) (.ref p2) (.ref p3) (.ref p4) (.int 1) (.ref p5) (.ref p6) (.ref p7) (.ref p8) (.int 0) (.int 0) v9 (.ref p10) (.int 1) v13 v14 (.int 0) (.int 1) v15 v16 v17 v18 v19 v20 (.ref p21) v22 H.size) (cwV 1 hts gX6_explore_X6_emptied rfl rfl rfl (by decide +kernel) ⟨Nat.le_of_ble_eq_true rfl, Nat.le_of_ble_eq_true rfl⟩) (cz_preV hZ hS hX hP hD [8, 0] rfl rfl (ci := 5) (q0 := 8) rfl rfl) rfl rfl hl.1 rfl (lv_room (Nat.le_of_ble_eq_true rfl)) dX6_explore_127 ⟨Nat.le_of_ble_eq_true rfl, Nat.le_of_ble_eq_true rfl⟩) hP hD hS hA [8, 0] [1, 2, 3, 4, 5, 6, 7, 9, 10] rfl rfl (by decide) (by decide) (fun r u H locs hp hP hD hS => ?_)
  have hp : r = 268435455 := hp
  subst hp
  refine lv_iconst (v := 0) hx hb dX6_explore_130 (by decide +kernel) ?_
  refine lv_iconst (v := 0) hx hb dX6_explore_131 (by decide +kernel) ?_
  refine lv_iconst (v := 0) hx hb dX6_explore_132 (by decide +kernel) ?_
  refine cz_v (wr := []) (va_runV (As := [.int 0, .int 268435455, .int 0, .int 0, .int 0]) (rest := []) ⟨hx, hb, hml, hown, hts⟩ (cX6_lade_1 l G k p0 p1 p2 p3 p4 p5 p6 p7 p8 v9 p10 v13 v14 v15 v16 v17 v18 v19 v20 p21 v22 v23 v24 v25 v26 (upd (fun _ => 0) (0 : Int32).toNatClampNeg 268435455) (upd f11 (0 : Int32).toNatClampNeg (-1)) (upd f12 (0 : Int32).toNatClampNeg (-1)) (upd (upd (fun _ => 0) (0 : Int32).toNatClampNeg 0) (0 : Int32).toNatClampNeg 0) H.size) (cwV 5 hts gX6_explore_X6_lade rfl rfl rfl (by decide +kernel) ⟨Nat.le_of_ble_eq_true rfl, Nat.le_of_ble_eq_true rfl⟩) (cz_preV hZ hS hX hP hD [9, 10, 0, 1, 5, 2, 3, 4, 8, 6, 7] rfl rfl (ci := 5) (q0 := 9) rfl rfl) rfl rfl hl.1 rfl (lv_room (Nat.le_of_ble_eq_true rfl)) dX6_explore_133 ⟨Nat.le_of_ble_eq_true rfl, Nat.le_of_ble_eq_true rfl⟩) hP hD hS hA [9, 10, 0, 1, 5, 2, 3, 4, 8, 6, 7] [] rfl rfl (by decide) (by decide) (fun u H locs hp hP hD hS => ?_)
  obtain ⟨hP, hD⟩ : va_P G vwCl [(p10, .inl (k 0, 1641, .inl (upd (fun _ => 0) (0 : Int32).toNatClampNeg 3))), (p21, .inr (4, [v23, v24, v25, v26, .int 0])), (p3, .inl (k 0, 1500, .inl (upd (upd (fun _ => 0) (0 : Int32).toNatClampNeg 0) (1 : Int32).toNatClampNeg 1))), (p5, .inl (k 0, 1024, .inl (upd (upd (fun _ => (-1)) (455 : Int32).toNatClampNeg 0) (519 : Int32).toNatClampNeg 1))), (p2, .inl (k 0, 1500, .inl (upd (upd (fun _ => 0) (0 : Int32).toNatClampNeg 268435455) (1 : Int32).toNatClampNeg 536870911))), (p6, .inl (k 0, 1500, .inl (upd (upd f11 (0 : Int32).toNatClampNeg (-1)) (1 : Int32).toNatClampNeg (-1)))), (p4, .inl (k 0, 1500, .inl (upd (upd f12 (0 : Int32).toNatClampNeg (-1)) (1 : Int32).toNatClampNeg 0))), (p8, .inl (k 0, 1500, .inl (upd (upd (upd (upd (upd (fun _ => 0) (0 : Int32).toNatClampNeg 0) (0 : Int32).toNatClampNeg 0) (0 : Int32).toNatClampNeg 0) (1 : Int32).toNatClampNeg 0) (1 : Int32).toNatClampNeg 0))), (p7, .inl (k 0, 1500, .inl (upd (upd (upd (fun _ => 0) (0 : Int32).toNatClampNeg 0) (0 : Int32).toNatClampNeg 0) (0 : Int32).toNatClampNeg 1))), (p0, .inr (5, [.ref p1, .int 1, .int 0, .ref p2, .ref p3, .ref p4, .int 2, .ref p5, .ref p6, .ref p7, .ref p8, .int 1, .int 0, v9, .ref p10])), (p1, .inr (2, [.int 1, v13, v14, .int 0, .int 1, v15, v16, .int 0, v17, v18, v19, v20, .ref p21, v22]))] H ∧ va_D A [(p10, .inl (k 0, 1641, .inl (upd (fun _ => 0) (0 : Int32).toNatClampNeg 3))), (p21, .inr (4, [v23, v24, v25, v26, .int 0])), (p3, .inl (k 0, 1500, .inl (upd (upd (fun _ => 0) (0 : Int32).toNatClampNeg 0) (1 : Int32).toNatClampNeg 1))), (p5, .inl (k 0, 1024, .inl (upd (upd (fun _ => (-1)) (455 : Int32).toNatClampNeg 0) (519 : Int32).toNatClampNeg 1))), (p2, .inl (k 0, 1500, .inl (upd (upd (fun _ => 0) (0 : Int32).toNatClampNeg 268435455) (1 : Int32).toNatClampNeg 536870911))), (p6, .inl (k 0, 1500, .inl (upd (upd f11 (0 : Int32).toNatClampNeg (-1)) (1 : Int32).toNatClampNeg (-1)))), (p4, .inl (k 0, 1500, .inl (upd (upd f12 (0 : Int32).toNatClampNeg (-1)) (1 : Int32).toNatClampNeg 0))), (p8, .inl (k 0, 1500, .inl (upd (upd (upd (upd (upd (fun _ => 0) (0 : Int32).toNatClampNeg 0) (0 : Int32).toNatClampNeg 0) (0 : Int32).toNatClampNeg 0) (1 : Int32).toNatClampNeg 0) (1 : Int32).toNatClampNeg 0))), (p7, .inl (k 0, 1500, .inl (upd (upd (upd (fun _ => 0) (0 : Int32).toNatClampNeg 0) (0 : Int32).toNatClampNeg 0) (0 : Int32).toNatClampNeg 1))), (p0, .inr (5, [.ref p1, .int 1, .int 0, .ref p2, .ref p3, .ref p4, .int 2, .ref p5, .ref p6, .ref p7, .ref p8, .int 1, .int 0, v9, .ref p10])), (p1, .inr (2, [.int 1, v13, v14, .int 0, .int 1, v15, v16, .int 0, v17, v18, v19, v20, .ref p21, v22]))] := ⟨hP, hD⟩
  refine lv_iinc (v := 1) (lv' := [(4, .int 1), (0, .ref p0), (1, .ref p1), (2, .int 268435455), (3, .int 1)]) hx hb dX6_explore_136 hl (k := 0) rfl (by decide +kernel) (by decide) rfl (fun ls hl => ?_)
  refine lv_goto (tgt := 85) hx hb dX6_explore_139 (by decide) ?_
  refine lv_iload hx hb dX6_explore_85 (lv_at hl 0 rfl) ?_
  refine lv_sipush (v := 1500) hx hb dX6_explore_87 (by decide +kernel) ?_
  refine lv_icmp_ge (tgt := 142) hx hb dX6_explore_90 (by decide) (fun q => absurd (q) (by decide +kernel)) (fun _ => ?_)
  refine lv_aload_n hx hb dX6_explore_93 rfl (lv_at hl 1 rfl) ?_
  refine va_get (D := G) (ci := 5) (v := .int 1) (C := RX6) (T := TX6) (N := 15) (ref := RX6) hx hb hts h1w hown hX.1 hP 9 rfl rfl 11 (by decide) h5w (fun _ h9 => h9) rfl dX6_explore_94 ?_
  refine lv_if_le (tgt := 142) hx hb dX6_explore_97 (by decide) (fun q => absurd (q) (by decide +kernel)) (fun _ => ?_)
  refine lv_aload_n hx hb dX6_explore_100 rfl (lv_at hl 1 rfl) ?_
  refine va_get (D := G) (ci := 5) (v := .int 0) (C := RX6) (T := TX6) (N := 15) (ref := RX6) hx hb hts h1w hown hX.1 hP 9 rfl rfl 2 (by decide) h4w (fun _ h9 => h9) rfl dX6_explore_101 ?_
  refine lv_if_ne (tgt := 142) hx hb dX6_explore_104 (by decide) (fun q => absurd (by decide +kernel) (q)) (fun _ => ?_)
  refine lv_aload_n hx hb dX6_explore_107 rfl (lv_at hl 1 rfl) ?_
  refine lv_aload_n hx hb dX6_explore_108 rfl (lv_at hl 1 rfl) ?_
  refine cz_i (wr := [(p10, .inl (k 0, 1641, .inl (upd (fun _ => 0) (0 : Int32).toNatClampNeg 3))), (p21, .inr (4, [v23, v24, v25, v26, .int 0])), (p3, .inl (k 0, 1500, .inl (upd (upd (fun _ => 0) (0 : Int32).toNatClampNeg 0) (1 : Int32).toNatClampNeg 1))), (p5, .inl (k 0, 1024, .inl (upd (upd (fun _ => (-1)) (455 : Int32).toNatClampNeg 0) (519 : Int32).toNatClampNeg 1))), (p2, .inl (k 0, 1500, .inl (upd (upd (fun _ => 0) (0 : Int32).toNatClampNeg 268435455) (1 : Int32).toNatClampNeg 536870911))), (p6, .inl (k 0, 1500, .inl (upd (upd f11 (0 : Int32).toNatClampNeg (-1)) (1 : Int32).toNatClampNeg (-1)))), (p4, .inl (k 0, 1500, .inl (upd (upd f12 (0 : Int32).toNatClampNeg (-1)) (1 : Int32).toNatClampNeg 0))), (p1, .inr (2, [.int 1, v13, v14, .int 0, .int 1, v15, v16, .int 0, v17, v18, v19, v20, .ref p21, v22]))]) (va_runV (As := []) (rest := [.ref p0]) ⟨hx, hb, hml, hown, hts⟩ (cX6_takeCheapest_1 l G k p0 (.ref p1) (.int 1) (.int 0) (.ref p2) (.ref p3) (.ref p4) (.int 2) (.ref p5) (.ref p6) p7 p8 (.int 0) v9 (.ref p10) (upd (upd (upd (upd (upd (fun _ => 0) (0 : Int32).toNatClampNeg 0) (0 : Int32).toNatClampNeg 0) (0 : Int32).toNatClampNeg 0) (1 : Int32).toNatClampNeg 0) (1 : Int32).toNatClampNeg 0) H.size) (cwV 0 hts gX6_explore_X6_takeCheapest rfl rfl rfl (by decide +kernel) ⟨Nat.le_of_ble_eq_true rfl, Nat.le_of_ble_eq_true rfl⟩) (cz_preV hZ hS hX hP hD [9, 8, 7] rfl rfl (ci := 5) (q0 := 9) rfl rfl) rfl rfl hl.1 rfl (lv_room (Nat.le_of_ble_eq_true rfl)) dX6_explore_109 ⟨Nat.le_of_ble_eq_true rfl, Nat.le_of_ble_eq_true rfl⟩) hP hD hS hA [9, 8, 7] [0, 1, 2, 3, 4, 5, 6, 10] rfl rfl (by decide) (by decide) (fun r u H locs hp hP hD hS => ?_)
  have hp : r = 1 := hp
  subst hp
  refine va_put (D := G) (ci := 5) (v := .int 1) (ty := .int) (C := RX6) (T := TX6) (N := 15) (ref := RX6) hx hb hts h1w tyX6 tyX6_ok nmX6 hown hX.1 hP hD hS 8 rfl rfl 12 (by decide) h6w (fun _ h9 => h9) rfl (by decide +kernel) rfl rfl (Nat.le_of_ble_eq_true rfl) dX6_explore_112 (fun H locs hP hD hS => ?_)
  refine lv_aload_n hx hb dX6_explore_115 rfl (lv_at hl 1 rfl) ?_
  refine lv_iconst (v := 0) hx hb dX6_explore_116 (by decide +kernel) ?_
  refine lv_aload_n hx hb dX6_explore_117 rfl (lv_at hl 1 rfl) ?_
  refine lv_aload_n hx hb dX6_explore_118 rfl (lv_at hl 1 rfl) ?_
  refine va_get (D := G) (ci := 5) (v := .ref p2) (C := RX6) (T := TX6) (N := 15) (ref := RX6) hx hb hts h1w hown hX.1 hP 8 rfl rfl 3 (by decide) h8w (fun _ h9 => h9) rfl dX6_explore_119 ?_
  refine lv_aload_n hx hb dX6_explore_122 rfl (lv_at hl 1 rfl) ?_
  refine va_get (D := G) (ci := 5) (v := .int 1) (C := RX6) (T := TX6) (N := 15) (ref := RX6) hx hb hts h1w hown hX.1 hP 8 rfl rfl 12 (by decide) h6w (fun _ h9 => h9) rfl dX6_explore_123 ?_
  refine va_iald hx hb hX.1 hP 4 0 rfl rfl (by unfold vp_in; decide +kernel) dX6_explore_126 ?_
  refine cz_ti (w := 536870911) (by rfl) ?_
  refine cz_i (wr := [(p10, .inl (k 0, 1641, .inl (upd (fun _ => 0) (0 : Int32).toNatClampNeg 3))), (p21, .inr (4, [v23, v24, v25, v26, .int 0])), (p3, .inl (k 0, 1500, .inl (upd (upd (fun _ => 0) (0 : Int32).toNatClampNeg 0) (1 : Int32).toNatClampNeg 1))), (p5, .inl (k 0, 1024, .inl (upd (upd (fun _ => (-1)) (455 : Int32).toNatClampNeg 0) (519 : Int32).toNatClampNeg 1))), (p2, .inl (k 0, 1500, .inl (upd (upd (fun _ => 0) (0 : Int32).toNatClampNeg 268435455) (1 : Int32).toNatClampNeg 536870911))), (p6, .inl (k 0, 1500, .inl (upd (upd f11 (0 : Int32).toNatClampNeg (-1)) (1 : Int32).toNatClampNeg (-1)))), (p4, .inl (k 0, 1500, .inl (upd (upd f12 (0 : Int32).toNatClampNeg (-1)) (1 : Int32).toNatClampNeg 0))), (p7, .inl (k 0, 1500, .inl (upd (upd (upd (upd (fun _ => 0) (0 : Int32).toNatClampNeg 0) (0 : Int32).toNatClampNeg 0) (0 : Int32).toNatClampNeg 1) (0 : Int32).toNatClampNeg 1))), (p8, .inl (k 0, 1500, .inl (upd (upd (upd (upd (upd (upd (fun _ => 0) (0 : Int32).toNatClampNeg 0) (0 : Int32).toNatClampNeg 0) (0 : Int32).toNatClampNeg 0) (1 : Int32).toNatClampNeg 0) (1 : Int32).toNatClampNeg 0) (1 : Int32).toNatClampNeg 0)))]) (va_runV (As := [.int 536870911]) (rest := [.int 0, .ref p0]) ⟨hx, hb, hml, hown, hts⟩ (cX6_emptied_1 l G k p0 p1 (.int 1) (.int 0) (.ref p2) (.ref p3) (.ref p4) (.int 2) (.ref p5) (.ref p6) (.ref p7) (.ref p8) (.int 0) (.int 1) v9 (.ref p10) (.int 1) v13 v14 (.int 0) (.int 1) v15 v16 v17 v18 v19 v20 (.ref p21) v22 H.size) (cwV 1 hts gX6_explore_X6_emptied rfl rfl rfl (by decide +kernel) ⟨Nat.le_of_ble_eq_true rfl, Nat.le_of_ble_eq_true rfl⟩) (cz_preV hZ hS hX hP hD [8, 7] rfl rfl (ci := 5) (q0 := 8) rfl rfl) rfl rfl hl.1 rfl (lv_room (Nat.le_of_ble_eq_true rfl)) dX6_explore_127 ⟨Nat.le_of_ble_eq_true rfl, Nat.le_of_ble_eq_true rfl⟩) hP hD hS hA [8, 7] [0, 1, 2, 3, 4, 5, 6, 9, 10] rfl rfl (by decide) (by decide) (fun r u H locs hp hP hD hS => ?_)
  have hp : r = 536870911 := hp
  subst hp
  refine lv_iconst (v := 0) hx hb dX6_explore_130 (by decide +kernel) ?_
  refine lv_iconst (v := 0) hx hb dX6_explore_131 (by decide +kernel) ?_
  refine lv_iconst (v := 0) hx hb dX6_explore_132 (by decide +kernel) ?_
  refine cz_v (wr := [(p6, .inl (k 0, 1500, .inl (upd (upd f11 (0 : Int32).toNatClampNeg (-1)) (1 : Int32).toNatClampNeg (-1)))), (p4, .inl (k 0, 1500, .inl (upd (upd f12 (0 : Int32).toNatClampNeg (-1)) (1 : Int32).toNatClampNeg 0))), (p7, .inl (k 0, 1500, .inl (upd (upd (upd (upd (fun _ => 0) (0 : Int32).toNatClampNeg 0) (0 : Int32).toNatClampNeg 0) (0 : Int32).toNatClampNeg 1) (0 : Int32).toNatClampNeg 1))), (p8, .inl (k 0, 1500, .inl (upd (upd (upd (upd (upd (upd (fun _ => 0) (0 : Int32).toNatClampNeg 0) (0 : Int32).toNatClampNeg 0) (0 : Int32).toNatClampNeg 0) (1 : Int32).toNatClampNeg 0) (1 : Int32).toNatClampNeg 0) (1 : Int32).toNatClampNeg 0)))]) (va_runV (As := [.int 0, .int 536870911, .int 0, .int 0, .int 0]) (rest := []) ⟨hx, hb, hml, hown, hts⟩ (cX6_lade_2 l G k p0 p1 p2 p3 (.ref p4) (.int 2) p5 (.ref p6) (.ref p7) (.ref p8) (.int 0) v9 p10 v13 v14 v15 v16 v17 v18 v19 v20 p21 v22 v23 v24 v25 v26 H.size) (cwV 5 hts gX6_explore_X6_lade rfl rfl rfl (by decide +kernel) ⟨Nat.le_of_ble_eq_true rfl, Nat.le_of_ble_eq_true rfl⟩) (cz_preV hZ hS hX hP hD [9, 10, 0, 1, 2, 3, 4] rfl rfl (ci := 5) (q0 := 9) rfl rfl) rfl rfl hl.1 rfl (lv_room (Nat.le_of_ble_eq_true rfl)) dX6_explore_133 ⟨Nat.le_of_ble_eq_true rfl, Nat.le_of_ble_eq_true rfl⟩) hP hD hS hA [9, 10, 0, 1, 2, 3, 4] [5, 6, 7, 8] rfl rfl (by decide) (by decide) (fun u H locs hp hP hD hS => ?_)
  refine lv_iinc (v := 2) (lv' := [(4, .int 2), (0, .ref p0), (1, .ref p1), (2, .int 268435455), (3, .int 1)]) hx hb dX6_explore_136 hl (k := 0) rfl (by decide +kernel) (by decide) rfl (fun ls hl => ?_)
  refine lv_goto (tgt := 85) hx hb dX6_explore_139 (by decide) ?_
  refine lv_iload hx hb dX6_explore_85 (lv_at hl 0 rfl) ?_
  refine lv_sipush (v := 1500) hx hb dX6_explore_87 (by decide +kernel) ?_
  refine lv_icmp_ge (tgt := 142) hx hb dX6_explore_90 (by decide) (fun q => absurd (q) (by decide +kernel)) (fun _ => ?_)
  refine lv_aload_n hx hb dX6_explore_93 rfl (lv_at hl 1 rfl) ?_
  refine va_get (D := G) (ci := 5) (v := .int 0) (C := RX6) (T := TX6) (N := 15) (ref := RX6) hx hb hts h1w hown hX.1 hP 7 rfl rfl 11 (by decide) h5w (fun _ h9 => h9) rfl dX6_explore_94 ?_
  refine lv_if_le (tgt := 142) hx hb dX6_explore_97 (by decide) (fun _ => ?_) (fun q => absurd (by decide +kernel) (q))
  refine lv_aload_n hx hb dX6_explore_142 rfl (lv_at hl 1 rfl) ?_
  refine va_get (D := G) (ci := 5) (v := .int 0) (C := RX6) (T := TX6) (N := 15) (ref := RX6) hx hb hts h1w hown hX.1 hP 7 rfl rfl 2 (by decide) h4w (fun _ h9 => h9) rfl dX6_explore_143 ?_
  refine lv_if_ne (tgt := 153) hx hb dX6_explore_146 (by decide) (fun q => absurd (by decide +kernel) (q)) (fun _ => ?_)
  refine lv_iconst (v := 1) hx hb dX6_explore_149 (by decide +kernel) ?_
  refine lv_goto (tgt := 154) hx hb dX6_explore_150 (by decide) ?_
  have hP9 := hP.sub (ws' := [(p6, .inl (k 0, 1500, .inl (upd (upd f11 (0 : Int32).toNatClampNeg (-1)) (1 : Int32).toNatClampNeg (-1)))), (p4, .inl (k 0, 1500, .inl (upd (upd f12 (0 : Int32).toNatClampNeg (-1)) (1 : Int32).toNatClampNeg 0))), (p7, .inl (k 0, 1500, .inl (upd (upd (upd (upd (fun _ => 0) (0 : Int32).toNatClampNeg 0) (0 : Int32).toNatClampNeg 0) (0 : Int32).toNatClampNeg 1) (0 : Int32).toNatClampNeg 1))), (p8, .inl (k 0, 1500, .inl (upd (upd (upd (upd (upd (upd (fun _ => 0) (0 : Int32).toNatClampNeg 0) (0 : Int32).toNatClampNeg 0) (0 : Int32).toNatClampNeg 0) (1 : Int32).toNatClampNeg 0) (1 : Int32).toNatClampNeg 0) (1 : Int32).toNatClampNeg 0))), (p10, .inl (k 0, 1641, .inl (upd (upd (fun _ => 0) (0 : Int32).toNatClampNeg 3) (0 : Int32).toNatClampNeg 15))), (p21, .inr (4, [v23, v24, v25, v26, .int 0])), (p1, .inr (2, [.int 1, v13, v14, .int 0, .int 1, v15, v16, .int 0, v17, v18, v19, v20, .ref p21, v22])), (p0, .inr (5, [.ref p1, .int 1, .int 0, .ref p2, .ref p3, .ref p4, .int 2, .ref p5, .ref p6, .ref p7, .ref p8, .int 0, .int 1, v9, .ref p10])), (p3, .inl (k 0, 1500, .inl (upd (upd (fun _ => 0) (0 : Int32).toNatClampNeg 0) (1 : Int32).toNatClampNeg 1))), (p5, .inl (k 0, 1024, .inl (upd (upd (fun _ => (-1)) (455 : Int32).toNatClampNeg 0) (519 : Int32).toNatClampNeg 1))), (p2, .inl (k 0, 1500, .inl (upd (upd (fun _ => 0) (0 : Int32).toNatClampNeg 268435455) (1 : Int32).toNatClampNeg 536870911)))]) [0, 1, 2, 3, 4, 5, 6, 7, 8, 9, 10] rfl
  have hD9 := hD.sub (ws' := [(p6, .inl (k 0, 1500, .inl (upd (upd f11 (0 : Int32).toNatClampNeg (-1)) (1 : Int32).toNatClampNeg (-1)))), (p4, .inl (k 0, 1500, .inl (upd (upd f12 (0 : Int32).toNatClampNeg (-1)) (1 : Int32).toNatClampNeg 0))), (p7, .inl (k 0, 1500, .inl (upd (upd (upd (upd (fun _ => 0) (0 : Int32).toNatClampNeg 0) (0 : Int32).toNatClampNeg 0) (0 : Int32).toNatClampNeg 1) (0 : Int32).toNatClampNeg 1))), (p8, .inl (k 0, 1500, .inl (upd (upd (upd (upd (upd (upd (fun _ => 0) (0 : Int32).toNatClampNeg 0) (0 : Int32).toNatClampNeg 0) (0 : Int32).toNatClampNeg 0) (1 : Int32).toNatClampNeg 0) (1 : Int32).toNatClampNeg 0) (1 : Int32).toNatClampNeg 0))), (p10, .inl (k 0, 1641, .inl (upd (upd (fun _ => 0) (0 : Int32).toNatClampNeg 3) (0 : Int32).toNatClampNeg 15))), (p21, .inr (4, [v23, v24, v25, v26, .int 0])), (p1, .inr (2, [.int 1, v13, v14, .int 0, .int 1, v15, v16, .int 0, v17, v18, v19, v20, .ref p21, v22])), (p0, .inr (5, [.ref p1, .int 1, .int 0, .ref p2, .ref p3, .ref p4, .int 2, .ref p5, .ref p6, .ref p7, .ref p8, .int 0, .int 1, v9, .ref p10])), (p3, .inl (k 0, 1500, .inl (upd (upd (fun _ => 0) (0 : Int32).toNatClampNeg 0) (1 : Int32).toNatClampNeg 1))), (p5, .inl (k 0, 1024, .inl (upd (upd (fun _ => (-1)) (455 : Int32).toNatClampNeg 0) (519 : Int32).toNatClampNeg 1))), (p2, .inl (k 0, 1500, .inl (upd (upd (fun _ => 0) (0 : Int32).toNatClampNeg 268435455) (1 : Int32).toNatClampNeg 536870911)))]) [0, 1, 2, 3, 4, 5, 6, 7, 8, 9, 10] (by decide) rfl
  exact W.zret (v := 1) hx hb hr (by decide +kernel) (fun t ht hW => ⟨⟨1, (), rfl, rfl, by rw [ht]; exact hP9, hD9⟩, hS.F ht⟩) hS.2.2 dX6_explore_154

set_option maxHeartbeats 4000000 in
set_option maxRecDepth 100000 in
theorem cX6_leastTillServed_1 (l : Launch) (G : va_G) (k : Nat → ClassId) (p0 : Nat) (p1 : Nat) (v2 : Value) (v3 : Value) (p4 : Nat) (p5 : Nat) (v6 : Value) (v7 : Value) (v8 : Value) (v9 : Value) (v10 : Value) (v11 : Value) (v12 : Value) (v13 : Value) (v14 : Value) (v15 : Value) (v16 : Value) (v17 : Value) (v18 : Value) (v19 : Value) (v20 : Value) (v21 : Value) (v22 : Value) (v23 : Value) (v24 : Value) (v25 : Value) (v26 : Value) (v27 : Value) (sz : Nat) : CMi l G k yX6_leastTillServed wsX6_leastTillServed ({ frames := 1, cells := 0, slots := 0, locals := 24 }) [.ref p0] sz [(p0, .inr (5, [.ref p1, v2, v3, .ref p4, .ref p5, v6, .int 2, v7, v8, v9, v10, v11, v12, v13, v14])), (p4, .inl (k 0, 1500, .inl (upd (upd (fun _ => 0) (0 : Int32).toNatClampNeg 268435455) (1 : Int32).toNatClampNeg 536870911))), (p1, .inr (2, [v15, v16, v17, v18, v19, v20, v21, .int 0, v22, v23, v24, v25, v26, v27])), (p5, .inl (k 0, 1500, .inl (upd (upd (fun _ => 0) (0 : Int32).toNatClampNeg 0) (1 : Int32).toNatClampNeg 1)))] (fun r (u : Unit) => r = 0) (fun (u : Unit) => [(p0, .inr (5, [.ref p1, v2, v3, .ref p4, .ref p5, v6, .int 2, v7, v8, v9, v10, v11, v12, v13, v14])), (p4, .inl (k 0, 1500, .inl (upd (upd (fun _ => 0) (0 : Int32).toNatClampNeg 268435455) (1 : Int32).toNatClampNeg 536870911))), (p5, .inl (k 0, 1500, .inl (upd (upd (fun _ => 0) (0 : Int32).toNatClampNeg 0) (1 : Int32).toNatClampNeg 1))), (p1, .inr (2, [v15, v16, v17, v18, v19, v20, v21, .int 0, v22, v23, v24, v25, v26, v27]))]) := by
  refine Met.ofW (cc := cX6_leastTillServed) (maxL := 4) (ret := (some .int)) (by decide) rfl ?_
  intro p e s m args below meth c s₁ B hml hv
  obtain ⟨rfl, hsz, hP, hX, hD0, hZ0⟩ := hv
  have hx := B.exec
  have hb := B.bytes
  have hr := B.returns
  have hts := atoms_spec (ws := wsX6_leastTillServed) B.pre
  have hown : s.vm.findClass RX6 = some m.cls := findClass_of_methodNamed B.named
  subst hsz
  have hD := hD0.self (sz := s.heap.size)
  have hZ := ZX.up hP hZ0
  generalize hAe : va_A [(p0, .inr (5, [.ref p1, v2, v3, .ref p4, .ref p5, v6, .int 2, v7, v8, v9, v10, v11, v12, v13, v14])), (p4, .inl (k 0, 1500, .inl (upd (upd (fun _ => 0) (0 : Int32).toNatClampNeg 268435455) (1 : Int32).toNatClampNeg 536870911))), (p1, .inr (2, [v15, v16, v17, v18, v19, v20, v21, .int 0, v22, v23, v24, v25, v26, v27])), (p5, .inl (k 0, 1500, .inl (upd (upd (fun _ => 0) (0 : Int32).toNatClampNeg 0) (1 : Int32).toNatClampNeg 1)))] s.heap.size = A at hD hZ ⊢
  have hA : ∀ q : Nat, s.heap.size ≤ q → A q := fun q h => by rw [← hAe]; exact Or.inr h
  have hS : va_S A s.heap s.heap [] := va_S.rf
  have hP : va_P G vwCl [(p0, .inr (5, [.ref p1, v2, v3, .ref p4, .ref p5, v6, .int 2, v7, v8, v9, v10, v11, v12, v13, v14])), (p4, .inl (k 0, 1500, .inl (upd (upd (fun _ => 0) (0 : Int32).toNatClampNeg 268435455) (1 : Int32).toNatClampNeg 536870911))), (p1, .inr (2, [v15, v16, v17, v18, v19, v20, v21, .int 0, v22, v23, v24, v25, v26, v27])), (p5, .inl (k 0, 1500, .inl (upd (upd (fun _ => 0) (0 : Int32).toNatClampNeg 0) (1 : Int32).toNatClampNeg 1)))] s.heap := hP
  have hl := lv_entry ([.ref p0]) (n := 4) (Nat.le_of_ble_eq_true rfl)
  rw [lg_entry_eq]
  generalize (lg_sl ([.ref p0]) ++ List.replicate (4 - (lg_sl ([.ref p0])).length) Slot.unset).toArray = ls at hl ⊢
  have hl : lv_has ls 4 [(0, .ref p0)] := hl
  have h0w := hts (.fieldLink RX6 22 "RopeTown$Search" "size" "I") (by decide +kernel)
  have h1w : ∀ w ∈ wsX60, w ∈ wsX6_leastTillServed := by decide +kernel
  have h2w := hts (.fieldLink RX6 9 "RopeTown$Search" "plan" "LRopeTown$Plan;") (by decide +kernel)
  have h3w := hts (.fieldLink RX6 32 "RopeTown$Search" "states" "[I") (by decide +kernel)
  have h4w := hts (.initialized RX3) (by decide +kernel)
  have h5w := hts (.instanceMethod yX3_isAllServed) (by decide +kernel)
  have h6w := hts (.selects RX3 yX3_isAllServed yX3_isAllServed) (by decide +kernel)
  have h7w := hts (.fieldLink RX6 36 "RopeTown$Search" "costs" "[I") (by decide +kernel)
  refine lv_iconst (v := (-1)) hx hb dX6_leastTillServed_0 (by decide +kernel) ?_
  refine lv_istore_n (lv' := [(1, .int (-1)), (0, .ref p0)]) hx hb dX6_leastTillServed_1 rfl hl (by decide) rfl (fun ls hl => ?_)
  refine lv_iconst (v := 0) hx hb dX6_leastTillServed_2 (by decide +kernel) ?_
  refine lv_istore_n (lv' := [(2, .int 0), (1, .int (-1)), (0, .ref p0)]) hx hb dX6_leastTillServed_3 rfl hl (by decide) rfl (fun ls hl => ?_)
  refine lv_iload_n hx hb dX6_leastTillServed_4 rfl (lv_at hl 0 rfl) ?_
  refine lv_aload_n hx hb dX6_leastTillServed_5 rfl (lv_at hl 2 rfl) ?_
  refine va_get (D := G) (ci := 5) (v := .int 2) (C := RX6) (T := TX6) (N := 15) (ref := RX6) hx hb hts h1w hown hX.1 hP 0 rfl rfl 6 (by decide) h0w (fun _ h9 => h9) rfl dX6_leastTillServed_6 ?_
  refine lv_icmp_ge (tgt := 66) hx hb dX6_leastTillServed_9 (by decide) (fun q => absurd (q) (by decide +kernel)) (fun _ => ?_)
  refine lv_iload_n hx hb dX6_leastTillServed_12 rfl (lv_at hl 1 rfl) ?_
  refine lv_iconst (v := (-1)) hx hb dX6_leastTillServed_13 (by decide +kernel) ?_
  refine lv_icmp_eq (tgt := 27) hx hb dX6_leastTillServed_14 (by decide) (fun _ => ?_) (fun q => absurd (by decide +kernel) (q))
  refine lv_iconst (v := 1) hx hb dX6_leastTillServed_27 (by decide +kernel) ?_
  refine lv_goto (tgt := 32) hx hb dX6_leastTillServed_28 (by decide) ?_
  refine lv_istore_n (lv' := [(3, .int 1), (2, .int 0), (1, .int (-1)), (0, .ref p0)]) hx hb dX6_leastTillServed_32 rfl hl (by decide) rfl (fun ls hl => ?_)
  refine lv_iload_n hx hb dX6_leastTillServed_33 rfl (lv_at hl 0 rfl) ?_
  refine lv_if_eq (tgt := 60) hx hb dX6_leastTillServed_34 (by decide) (fun q => absurd (q) (by decide +kernel)) (fun _ => ?_)
  refine lv_aload_n hx hb dX6_leastTillServed_37 rfl (lv_at hl 3 rfl) ?_
  refine va_get (D := G) (ci := 5) (v := .ref p1) (C := RX6) (T := TX6) (N := 15) (ref := RX6) hx hb hts h1w hown hX.1 hP 0 rfl rfl 0 (by decide) h2w (fun _ h9 => h9) rfl dX6_leastTillServed_38 ?_
  refine lv_aload_n hx hb dX6_leastTillServed_41 rfl (lv_at hl 3 rfl) ?_
  refine va_get (D := G) (ci := 5) (v := .ref p4) (C := RX6) (T := TX6) (N := 15) (ref := RX6) hx hb hts h1w hown hX.1 hP 0 rfl rfl 3 (by decide) h3w (fun _ h9 => h9) rfl dX6_leastTillServed_42 ?_
  refine lv_iload_n hx hb dX6_leastTillServed_45 rfl (lv_at hl 1 rfl) ?_
  refine va_iald hx hb hX.1 hP 1 0 rfl rfl (by unfold vp_in; decide +kernel) dX6_leastTillServed_46 ?_
  refine cz_ti (w := 268435455) (by rfl) ?_
  refine cz_i (wr := [(p0, .inr (5, [.ref p1, v2, v3, .ref p4, .ref p5, v6, .int 2, v7, v8, v9, v10, v11, v12, v13, v14])), (p4, .inl (k 0, 1500, .inl (upd (upd (fun _ => 0) (0 : Int32).toNatClampNeg 268435455) (1 : Int32).toNatClampNeg 536870911))), (p5, .inl (k 0, 1500, .inl (upd (upd (fun _ => 0) (0 : Int32).toNatClampNeg 0) (1 : Int32).toNatClampNeg 1)))]) (va_runVN (As := [.int 268435455]) (rest := []) ⟨hx, hb, hml, hown, hts⟩ (cX3_isAllServed_0 l G k p1 v15 v16 v17 v18 v19 v20 v21 v22 v23 v24 v25 v26 v27 s.heap.size) ⟨va_cnB 1 hts gX6_leastTillServed_X3_isAllServed_n152 rfl rfl rfl (nm_60 hX.2.2.1) h4w (by decide +kernel) ⟨Nat.le_of_ble_eq_true rfl, Nat.le_of_ble_eq_true rfl⟩, h5w, h6w⟩ (cz_preV hZ hS hX hP hD [2] rfl rfl (ci := 2) (q0 := 2) rfl rfl) rfl rfl hl.1 rfl (lv_room (Nat.le_of_ble_eq_true rfl)) dX6_leastTillServed_47 ⟨Nat.le_of_ble_eq_true rfl, Nat.le_of_ble_eq_true rfl⟩) hP hD hS hA [2] [0, 1, 3] rfl rfl (by decide) (by decide) (fun r u H locs hp hP hD hS => ?_)
  have hp : r = 1 := hp
  subst hp
  refine lv_if_eq (tgt := 60) hx hb dX6_leastTillServed_50 (by decide) (fun q => absurd (q) (by decide +kernel)) (fun _ => ?_)
  refine lv_aload_n hx hb dX6_leastTillServed_53 rfl (lv_at hl 3 rfl) ?_
  refine va_get (D := G) (ci := 5) (v := .ref p5) (C := RX6) (T := TX6) (N := 15) (ref := RX6) hx hb hts h1w hown hX.1 hP 0 rfl rfl 4 (by decide) h7w (fun _ h9 => h9) rfl dX6_leastTillServed_54 ?_
  refine lv_iload_n hx hb dX6_leastTillServed_57 rfl (lv_at hl 1 rfl) ?_
  refine va_iald hx hb hX.1 hP 2 0 rfl rfl (by unfold vp_in; decide +kernel) dX6_leastTillServed_58 ?_
  refine cz_ti (w := 0) (by rfl) ?_
  refine lv_istore_n (lv' := [(1, .int 0), (3, .int 1), (2, .int 0), (0, .ref p0)]) hx hb dX6_leastTillServed_59 rfl hl (by decide) rfl (fun ls hl => ?_)
  refine lv_iinc (v := 1) (lv' := [(2, .int 1), (1, .int 0), (3, .int 1), (0, .ref p0)]) hx hb dX6_leastTillServed_60 hl (k := 2) rfl (by decide +kernel) (by decide) rfl (fun ls hl => ?_)
  refine lv_goto (tgt := 4) hx hb dX6_leastTillServed_63 (by decide) ?_
  refine lv_iload_n hx hb dX6_leastTillServed_4 rfl (lv_at hl 0 rfl) ?_
  refine lv_aload_n hx hb dX6_leastTillServed_5 rfl (lv_at hl 3 rfl) ?_
  refine va_get (D := G) (ci := 5) (v := .int 2) (C := RX6) (T := TX6) (N := 15) (ref := RX6) hx hb hts h1w hown hX.1 hP 0 rfl rfl 6 (by decide) h0w (fun _ h9 => h9) rfl dX6_leastTillServed_6 ?_
  refine lv_icmp_ge (tgt := 66) hx hb dX6_leastTillServed_9 (by decide) (fun q => absurd (q) (by decide +kernel)) (fun _ => ?_)
  refine lv_iload_n hx hb dX6_leastTillServed_12 rfl (lv_at hl 1 rfl) ?_
  refine lv_iconst (v := (-1)) hx hb dX6_leastTillServed_13 (by decide +kernel) ?_
  refine lv_icmp_eq (tgt := 27) hx hb dX6_leastTillServed_14 (by decide) (fun q => absurd (q) (by decide +kernel)) (fun _ => ?_)
  refine lv_aload_n hx hb dX6_leastTillServed_17 rfl (lv_at hl 3 rfl) ?_
  refine va_get (D := G) (ci := 5) (v := .ref p5) (C := RX6) (T := TX6) (N := 15) (ref := RX6) hx hb hts h1w hown hX.1 hP 0 rfl rfl 4 (by decide) h7w (fun _ h9 => h9) rfl dX6_leastTillServed_18 ?_
  refine lv_iload_n hx hb dX6_leastTillServed_21 rfl (lv_at hl 0 rfl) ?_
  refine va_iald hx hb hX.1 hP 2 0 rfl rfl (by unfold vp_in; decide +kernel) dX6_leastTillServed_22 ?_
  refine cz_ti (w := 1) (by rfl) ?_
  refine lv_iload_n hx hb dX6_leastTillServed_23 rfl (lv_at hl 1 rfl) ?_
  refine lv_icmp_ge (tgt := 31) hx hb dX6_leastTillServed_24 (by decide) (fun _ => ?_) (fun q => absurd (by decide +kernel) (q))
  refine lv_iconst (v := 0) hx hb dX6_leastTillServed_31 (by decide +kernel) ?_
  refine lv_istore_n (lv' := [(3, .int 0), (2, .int 1), (1, .int 0), (0, .ref p0)]) hx hb dX6_leastTillServed_32 rfl hl (by decide) rfl (fun ls hl => ?_)
  refine lv_iload_n hx hb dX6_leastTillServed_33 rfl (lv_at hl 0 rfl) ?_
  refine lv_if_eq (tgt := 60) hx hb dX6_leastTillServed_34 (by decide) (fun _ => ?_) (fun q => absurd (by decide +kernel) (q))
  refine lv_iinc (v := 2) (lv' := [(2, .int 2), (3, .int 0), (1, .int 0), (0, .ref p0)]) hx hb dX6_leastTillServed_60 hl (k := 1) rfl (by decide +kernel) (by decide) rfl (fun ls hl => ?_)
  refine lv_goto (tgt := 4) hx hb dX6_leastTillServed_63 (by decide) ?_
  refine lv_iload_n hx hb dX6_leastTillServed_4 rfl (lv_at hl 0 rfl) ?_
  refine lv_aload_n hx hb dX6_leastTillServed_5 rfl (lv_at hl 3 rfl) ?_
  refine va_get (D := G) (ci := 5) (v := .int 2) (C := RX6) (T := TX6) (N := 15) (ref := RX6) hx hb hts h1w hown hX.1 hP 0 rfl rfl 6 (by decide) h0w (fun _ h9 => h9) rfl dX6_leastTillServed_6 ?_
  refine lv_icmp_ge (tgt := 66) hx hb dX6_leastTillServed_9 (by decide) (fun _ => ?_) (fun q => absurd (by decide +kernel) (q))
  refine lv_iload_n hx hb dX6_leastTillServed_66 rfl (lv_at hl 2 rfl) ?_
  have hP9 := hP.sub (ws' := [(p0, .inr (5, [.ref p1, v2, v3, .ref p4, .ref p5, v6, .int 2, v7, v8, v9, v10, v11, v12, v13, v14])), (p4, .inl (k 0, 1500, .inl (upd (upd (fun _ => 0) (0 : Int32).toNatClampNeg 268435455) (1 : Int32).toNatClampNeg 536870911))), (p5, .inl (k 0, 1500, .inl (upd (upd (fun _ => 0) (0 : Int32).toNatClampNeg 0) (1 : Int32).toNatClampNeg 1))), (p1, .inr (2, [v15, v16, v17, v18, v19, v20, v21, .int 0, v22, v23, v24, v25, v26, v27]))]) [0, 1, 2, 3] rfl
  have hD9 := hD.sub (ws' := [(p0, .inr (5, [.ref p1, v2, v3, .ref p4, .ref p5, v6, .int 2, v7, v8, v9, v10, v11, v12, v13, v14])), (p4, .inl (k 0, 1500, .inl (upd (upd (fun _ => 0) (0 : Int32).toNatClampNeg 268435455) (1 : Int32).toNatClampNeg 536870911))), (p5, .inl (k 0, 1500, .inl (upd (upd (fun _ => 0) (0 : Int32).toNatClampNeg 0) (1 : Int32).toNatClampNeg 1))), (p1, .inr (2, [v15, v16, v17, v18, v19, v20, v21, .int 0, v22, v23, v24, v25, v26, v27]))]) [0, 1, 2, 3] (by decide) rfl
  exact W.iret (v := 0) hx hb hr (fun t ht hW => ⟨⟨0, (), rfl, rfl, by rw [ht]; exact hP9, hD9⟩, hS.F ht⟩) hS.2.2 dX6_leastTillServed_67

