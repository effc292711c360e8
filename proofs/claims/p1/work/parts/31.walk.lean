set_option maxHeartbeats 4000000 in
set_option maxRecDepth 100000 in
theorem cX6_init_0 (l : Launch) (G : va_G) (k : Nat → ClassId) (p0 : Nat) (p1 : Nat) (v2 : Value) (v3 : Value) (v4 : Value) (v5 : Value) (v6 : Value) (v7 : Value) (v8 : Value) (v9 : Value) (v10 : Value) (v11 : Value) (v12 : Value) (v13 : Value) (v14 : Value) (v15 : Value) (v16 : Value) (sz : Nat) : CMv l G k yX6_init wsX6_init ({ frames := 1, cells := 9, slots := 11672, locals := 12 }) [.ref p0, .ref p1] sz [(p0, .inr (5, [v2, v3, v4, v5, v6, v7, v8, v9, v10, v11, v12, v13, v14, v15, v16]))] (fun (u : Nat × Nat × Nat × Nat × Nat × Nat × Nat × Nat × Nat) => True) (fun (u : Nat × Nat × Nat × Nat × Nat × Nat × Nat × Nat × Nat) => [(p0, .inr (5, [.ref p1, .int 0, .int 0, .ref u.1, .ref u.2.1, .ref u.2.2.1, .int 0, .ref u.2.2.2.1, .ref u.2.2.2.2.1, .ref u.2.2.2.2.2.1, .ref u.2.2.2.2.2.2.1, .int 0, .int (-1), .ref u.2.2.2.2.2.2.2.1, .ref u.2.2.2.2.2.2.2.2])), (u.1, .inl (k 0, 1500, .inl (fun _ => 0))), (u.2.1, .inl (k 0, 1500, .inl (fun _ => 0))), (u.2.2.1, .inl (k 0, 1500, .inl (fun _ => 0))), (u.2.2.2.1, .inl (k 0, 1024, .inl (fun _ => 0))), (u.2.2.2.2.1, .inl (k 0, 1500, .inl (fun _ => 0))), (u.2.2.2.2.2.1, .inl (k 0, 1500, .inl (fun _ => 0))), (u.2.2.2.2.2.2.1, .inl (k 0, 1500, .inl (fun _ => 0))), (u.2.2.2.2.2.2.2.1, .inl (k 0, 7, .inl (fun _ => 0))), (u.2.2.2.2.2.2.2.2, .inl (k 0, 1641, .inl (fun _ => 0)))]) := by
  refine Met.ofW (cc := cX6_init) (maxL := 2) (ret := none) (by decide) rfl ?_
  intro p e s m args below meth c s₁ B hml hv
  obtain ⟨rfl, hsz, hP, hX, hD0, hZ0⟩ := hv
  have hx := B.exec
  have hb := B.bytes
  have hr := B.returns
  have hts := atoms_spec (ws := wsX6_init) B.pre
  have hown : s.vm.findClass RX6 = some m.cls := findClass_of_methodNamed B.named
  have hin : meth.name = "<init>" := (name_of_methodNamed B.named B.method).1
  subst hsz
  have hD := hD0.self (sz := s.heap.size)
  have hZ := ZX.up hP hZ0
  generalize hAe : va_A [(p0, .inr (5, [v2, v3, v4, v5, v6, v7, v8, v9, v10, v11, v12, v13, v14, v15, v16]))] s.heap.size = A at hD hZ ⊢
  have hA : ∀ q : Nat, s.heap.size ≤ q → A q := fun q h => by rw [← hAe]; exact Or.inr h
  have hS : va_S A s.heap s.heap [] := va_S.rf
  have hP : va_P G vwCl [(p0, .inr (5, [v2, v3, v4, v5, v6, v7, v8, v9, v10, v11, v12, v13, v14, v15, v16]))] s.heap := hP
  have hl := lv_entry ([.ref p0, .ref p1]) (n := 2) (Nat.le_of_ble_eq_true rfl)
  rw [lg_entry_eq]
  generalize (lg_sl ([.ref p0, .ref p1]) ++ List.replicate (2 - (lg_sl ([.ref p0, .ref p1])).length) Slot.unset).toArray = ls at hl ⊢
  have hl : lv_has ls 2 [(0, .ref p0), (1, .ref p1)] := hl
  have h0w := hts (.methodLink RX6 3 objectInit) (by decide +kernel)
  have h1w := hts (.instanceMethod objectInit) (by decide +kernel)
  have h2w := hts (.code objectInit ⟨#[0xb1]⟩ 1 none) (by decide +kernel)
  have h3w := hts (.fieldLink RX6 9 "RopeTown$Search" "plan" "LRopeTown$Plan;") (by decide +kernel)
  have h4w : ∀ w ∈ wsX60, w ∈ wsX6_init := by decide +kernel
  have h5w := hts (.fieldLink RX6 15 "RopeTown$Search" "byHand" "Z") (by decide +kernel)
  have h6w := hts (.fieldLink RX6 19 "RopeTown$Search" "isSpent" "Z") (by decide +kernel)
  have h7w := hts (.fieldLink RX6 22 "RopeTown$Search" "size" "I") (by decide +kernel)
  have h8w := hts (.fieldLink RX6 26 "RopeTown$Search" "waiting" "I") (by decide +kernel)
  have h9w := hts (.fieldLink RX6 29 "RopeTown$Search" "current" "I") (by decide +kernel)
  have h10w := hts (.arrayClass .int) (by decide +kernel)
  have h11w := hts (.fieldLink RX6 32 "RopeTown$Search" "states" "[I") (by decide +kernel)
  have h12w := hts (.fieldLink RX6 36 "RopeTown$Search" "costs" "[I") (by decide +kernel)
  have h13w := hts (.fieldLink RX6 39 "RopeTown$Search" "parents" "[I") (by decide +kernel)
  have h14w := hts (.fieldLink RX6 42 "RopeTown$Search" "heads" "[I") (by decide +kernel)
  have h15w := hts (.fieldLink RX6 45 "RopeTown$Search" "links" "[I") (by decide +kernel)
  have h16w := hts (.fieldLink RX6 48 "RopeTown$Search" "heap" "[I") (by decide +kernel)
  have h17w := hts (.fieldLink RX6 51 "RopeTown$Search" "spots" "[I") (by decide +kernel)
  have h18w := hts (.fieldLink RX6 54 "RopeTown$Search" "doors" "[I") (by decide +kernel)
  have h19w := hts (.fieldLink RX6 57 "RopeTown$Search" "verdicts" "[I") (by decide +kernel)
  refine lv_aload_n hx hb dX6_init_0 rfl (lv_at hl 0 rfl) ?_
  refine W.objInit hx hb hown h0w h1w h2w rfl (by rw [hml]; exact hl.1) rfl dX6_init_1 (Nat.le_of_ble_eq_true rfl) (Nat.le_of_ble_eq_true rfl) ?_
  refine W.eq (g2 := F0 m 4 ls []) rfl ?_
  refine lv_aload_n hx hb dX6_init_4 rfl (lv_at hl 0 rfl) ?_
  refine lv_aload_n hx hb dX6_init_5 rfl (lv_at hl 1 rfl) ?_
  refine va_put (D := G) (ci := 5) (v := .ref p1) (ty := .object "RopeTown$Plan") (C := RX6) (T := TX6) (N := 15) (ref := RX6) hx hb hts h4w tyX6 tyX6_ok nmX6 hown hX.1 hP hD hS 0 rfl rfl 0 (by decide) h3w (fun _ h9 => h9) rfl (by decide +kernel) rfl rfl (Nat.le_of_ble_eq_true rfl) dX6_init_6 (fun H locs hP hD hS => ?_)
  refine lv_aload_n hx hb dX6_init_9 rfl (lv_at hl 0 rfl) ?_
  refine lv_iconst (v := 0) hx hb dX6_init_10 (by decide +kernel) ?_
  refine va_put (D := G) (ci := 5) (v := .int 0) (ty := .boolean) (C := RX6) (T := TX6) (N := 15) (ref := RX6) hx hb hts h4w tyX6 tyX6_ok nmX6 hown hX.1 hP hD hS 0 rfl rfl 1 (by decide) h5w (fun _ h9 => h9) rfl (by decide +kernel) (by decide +kernel) rfl (Nat.le_of_ble_eq_true rfl) dX6_init_11 (fun H locs hP hD hS => ?_)
  refine lv_aload_n hx hb dX6_init_14 rfl (lv_at hl 0 rfl) ?_
  refine lv_iconst (v := 0) hx hb dX6_init_15 (by decide +kernel) ?_
  refine va_put (D := G) (ci := 5) (v := .int 0) (ty := .boolean) (C := RX6) (T := TX6) (N := 15) (ref := RX6) hx hb hts h4w tyX6 tyX6_ok nmX6 hown hX.1 hP hD hS 0 rfl rfl 2 (by decide) h6w (fun _ h9 => h9) rfl (by decide +kernel) (by decide +kernel) rfl (Nat.le_of_ble_eq_true rfl) dX6_init_16 (fun H locs hP hD hS => ?_)
  refine lv_aload_n hx hb dX6_init_19 rfl (lv_at hl 0 rfl) ?_
  refine lv_iconst (v := 0) hx hb dX6_init_20 (by decide +kernel) ?_
  refine va_put (D := G) (ci := 5) (v := .int 0) (ty := .int) (C := RX6) (T := TX6) (N := 15) (ref := RX6) hx hb hts h4w tyX6 tyX6_ok nmX6 hown hX.1 hP hD hS 0 rfl rfl 6 (by decide) h7w (fun _ h9 => h9) rfl (by decide +kernel) rfl rfl (Nat.le_of_ble_eq_true rfl) dX6_init_21 (fun H locs hP hD hS => ?_)
  refine lv_aload_n hx hb dX6_init_24 rfl (lv_at hl 0 rfl) ?_
  refine lv_iconst (v := 0) hx hb dX6_init_25 (by decide +kernel) ?_
  refine va_put (D := G) (ci := 5) (v := .int 0) (ty := .int) (C := RX6) (T := TX6) (N := 15) (ref := RX6) hx hb hts h4w tyX6 tyX6_ok nmX6 hown hX.1 hP hD hS 0 rfl rfl 11 (by decide) h8w (fun _ h9 => h9) rfl (by decide +kernel) rfl rfl (Nat.le_of_ble_eq_true rfl) dX6_init_26 (fun H locs hP hD hS => ?_)
  refine lv_aload_n hx hb dX6_init_29 rfl (lv_at hl 0 rfl) ?_
  refine lv_iconst (v := (-1)) hx hb dX6_init_30 (by decide +kernel) ?_
  refine va_put (D := G) (ci := 5) (v := .int (-1)) (ty := .int) (C := RX6) (T := TX6) (N := 15) (ref := RX6) hx hb hts h4w tyX6 tyX6_ok nmX6 hown hX.1 hP hD hS 0 rfl rfl 12 (by decide) h9w (fun _ h9 => h9) rfl (by decide +kernel) rfl rfl (Nat.le_of_ble_eq_true rfl) dX6_init_31 (fun H locs hP hD hS => ?_)
  obtain ⟨hP, hD⟩ : va_P G vwCl [(p0, .inr (5, [.ref p1, .int 0, .int 0, v5, v6, v7, .int 0, v9, v10, v11, v12, .int 0, .int (-1), v15, v16]))] H ∧ va_D A [(p0, .inr (5, [.ref p1, .int 0, .int 0, v5, v6, v7, .int 0, v9, v10, v11, v12, .int 0, .int (-1), v15, v16]))] := ⟨hP, hD⟩
  refine lv_aload_n hx hb dX6_init_34 rfl (lv_at hl 0 rfl) ?_
  refine lv_sipush (v := 1500) hx hb dX6_init_35 (by decide +kernel) ?_
  refine cz_newa (atype := .int) (N' := 1500) (a0 := (1500, .inl (fun _ => 0))) (ty := .int) hx hb h10w rfl hX hP hD hS hA 0 (by decide +kernel) (ha_int 1500) (by decide +kernel) (by decide +kernel) (Nat.le_of_ble_eq_true rfl) (Nat.le_of_ble_eq_true rfl) (Nat.le_of_ble_eq_true rfl) dX6_init_38 (fun a38 H hP hD hS => ?_)
  refine W.widen (k := 1) (n := 1500) (Nat.le_of_ble_eq_true rfl) (Nat.le_of_ble_eq_true rfl) ?_
  refine va_putF (D := G) (ci := 5) (v := .ref a38) (ty := .array .int) (C := RX6) (T := TX6) (N := 15) (ref := RX6) hx hb hts h4w tyX6 tyX6_ok nmX6 hown hX.1 hP hD hS 0 rfl rfl 3 (by decide) h11w (fun _ h9 => h9) rfl hin rfl (by decide +kernel) rfl rfl (Nat.le_of_ble_eq_true rfl) dX6_init_40 (fun H locs hP hD hS => ?_)
  refine lv_aload_n hx hb dX6_init_43 rfl (lv_at hl 0 rfl) ?_
  refine lv_sipush (v := 1500) hx hb dX6_init_44 (by decide +kernel) ?_
  refine cz_newa (atype := .int) (N' := 1500) (a0 := (1500, .inl (fun _ => 0))) (ty := .int) hx hb h10w rfl hX hP hD hS hA 0 (by decide +kernel) (ha_int 1500) (by decide +kernel) (by decide +kernel) (Nat.le_of_ble_eq_true rfl) (Nat.le_of_ble_eq_true rfl) (Nat.le_of_ble_eq_true rfl) dX6_init_47 (fun a47 H hP hD hS => ?_)
  refine W.widen (k := 2) (n := 3000) (Nat.le_of_ble_eq_true rfl) (Nat.le_of_ble_eq_true rfl) ?_
  refine va_putF (D := G) (ci := 5) (v := .ref a47) (ty := .array .int) (C := RX6) (T := TX6) (N := 15) (ref := RX6) hx hb hts h4w tyX6 tyX6_ok nmX6 hown hX.1 hP hD hS 0 rfl rfl 4 (by decide) h12w (fun _ h9 => h9) rfl hin rfl (by decide +kernel) rfl rfl (Nat.le_of_ble_eq_true rfl) dX6_init_49 (fun H locs hP hD hS => ?_)
  refine lv_aload_n hx hb dX6_init_52 rfl (lv_at hl 0 rfl) ?_
  refine lv_sipush (v := 1500) hx hb dX6_init_53 (by decide +kernel) ?_
  refine cz_newa (atype := .int) (N' := 1500) (a0 := (1500, .inl (fun _ => 0))) (ty := .int) hx hb h10w rfl hX hP hD hS hA 0 (by decide +kernel) (ha_int 1500) (by decide +kernel) (by decide +kernel) (Nat.le_of_ble_eq_true rfl) (Nat.le_of_ble_eq_true rfl) (Nat.le_of_ble_eq_true rfl) dX6_init_56 (fun a56 H hP hD hS => ?_)
  refine W.widen (k := 3) (n := 4500) (Nat.le_of_ble_eq_true rfl) (Nat.le_of_ble_eq_true rfl) ?_
  refine va_putF (D := G) (ci := 5) (v := .ref a56) (ty := .array .int) (C := RX6) (T := TX6) (N := 15) (ref := RX6) hx hb hts h4w tyX6 tyX6_ok nmX6 hown hX.1 hP hD hS 0 rfl rfl 5 (by decide) h13w (fun _ h9 => h9) rfl hin rfl (by decide +kernel) rfl rfl (Nat.le_of_ble_eq_true rfl) dX6_init_58 (fun H locs hP hD hS => ?_)
  obtain ⟨hP, hD⟩ : va_P G vwCl [(p0, .inr (5, [.ref p1, .int 0, .int 0, .ref a38, .ref a47, .ref a56, .int 0, v9, v10, v11, v12, .int 0, .int (-1), v15, v16])), (a38, .inl (k 0, 1500, .inl (fun _ => 0))), (a47, .inl (k 0, 1500, .inl (fun _ => 0))), (a56, .inl (k 0, 1500, .inl (fun _ => 0)))] H ∧ va_D A [(p0, .inr (5, [.ref p1, .int 0, .int 0, .ref a38, .ref a47, .ref a56, .int 0, v9, v10, v11, v12, .int 0, .int (-1), v15, v16])), (a38, .inl (k 0, 1500, .inl (fun _ => 0))), (a47, .inl (k 0, 1500, .inl (fun _ => 0))), (a56, .inl (k 0, 1500, .inl (fun _ => 0)))] := ⟨hP, hD⟩
  refine lv_aload_n hx hb dX6_init_61 rfl (lv_at hl 0 rfl) ?_
  refine lv_sipush (v := 1024) hx hb dX6_init_62 (by decide +kernel) ?_
  refine cz_newa (atype := .int) (N' := 1024) (a0 := (1024, .inl (fun _ => 0))) (ty := .int) hx hb h10w rfl hX hP hD hS hA 0 (by decide +kernel) (ha_int 1024) (by decide +kernel) (by decide +kernel) (Nat.le_of_ble_eq_true rfl) (Nat.le_of_ble_eq_true rfl) (Nat.le_of_ble_eq_true rfl) dX6_init_65 (fun a65 H hP hD hS => ?_)
  refine W.widen (k := 4) (n := 5524) (Nat.le_of_ble_eq_true rfl) (Nat.le_of_ble_eq_true rfl) ?_
  refine va_putF (D := G) (ci := 5) (v := .ref a65) (ty := .array .int) (C := RX6) (T := TX6) (N := 15) (ref := RX6) hx hb hts h4w tyX6 tyX6_ok nmX6 hown hX.1 hP hD hS 0 rfl rfl 7 (by decide) h14w (fun _ h9 => h9) rfl hin rfl (by decide +kernel) rfl rfl (Nat.le_of_ble_eq_true rfl) dX6_init_67 (fun H locs hP hD hS => ?_)
  refine lv_aload_n hx hb dX6_init_70 rfl (lv_at hl 0 rfl) ?_
  refine lv_sipush (v := 1500) hx hb dX6_init_71 (by decide +kernel) ?_
  refine cz_newa (atype := .int) (N' := 1500) (a0 := (1500, .inl (fun _ => 0))) (ty := .int) hx hb h10w rfl hX hP hD hS hA 0 (by decide +kernel) (ha_int 1500) (by decide +kernel) (by decide +kernel) (Nat.le_of_ble_eq_true rfl) (Nat.le_of_ble_eq_true rfl) (Nat.le_of_ble_eq_true rfl) dX6_init_74 (fun a74 H hP hD hS => ?_)
  refine W.widen (k := 5) (n := 7024) (Nat.le_of_ble_eq_true rfl) (Nat.le_of_ble_eq_true rfl) ?_
  refine va_putF (D := G) (ci := 5) (v := .ref a74) (ty := .array .int) (C := RX6) (T := TX6) (N := 15) (ref := RX6) hx hb hts h4w tyX6 tyX6_ok nmX6 hown hX.1 hP hD hS 0 rfl rfl 8 (by decide) h15w (fun _ h9 => h9) rfl hin rfl (by decide +kernel) rfl rfl (Nat.le_of_ble_eq_true rfl) dX6_init_76 (fun H locs hP hD hS => ?_)
  refine lv_aload_n hx hb dX6_init_79 rfl (lv_at hl 0 rfl) ?_
  refine lv_sipush (v := 1500) hx hb dX6_init_80 (by decide +kernel) ?_
  refine cz_newa (atype := .int) (N' := 1500) (a0 := (1500, .inl (fun _ => 0))) (ty := .int) hx hb h10w rfl hX hP hD hS hA 0 (by decide +kernel) (ha_int 1500) (by decide +kernel) (by decide +kernel) (Nat.le_of_ble_eq_true rfl) (Nat.le_of_ble_eq_true rfl) (Nat.le_of_ble_eq_true rfl) dX6_init_83 (fun a83 H hP hD hS => ?_)
  refine W.widen (k := 6) (n := 8524) (Nat.le_of_ble_eq_true rfl) (Nat.le_of_ble_eq_true rfl) ?_
  refine va_putF (D := G) (ci := 5) (v := .ref a83) (ty := .array .int) (C := RX6) (T := TX6) (N := 15) (ref := RX6) hx hb hts h4w tyX6 tyX6_ok nmX6 hown hX.1 hP hD hS 0 rfl rfl 9 (by decide) h16w (fun _ h9 => h9) rfl hin rfl (by decide +kernel) rfl rfl (Nat.le_of_ble_eq_true rfl) dX6_init_85 (fun H locs hP hD hS => ?_)
  obtain ⟨hP, hD⟩ : va_P G vwCl [(p0, .inr (5, [.ref p1, .int 0, .int 0, .ref a38, .ref a47, .ref a56, .int 0, .ref a65, .ref a74, .ref a83, v12, .int 0, .int (-1), v15, v16])), (a38, .inl (k 0, 1500, .inl (fun _ => 0))), (a47, .inl (k 0, 1500, .inl (fun _ => 0))), (a56, .inl (k 0, 1500, .inl (fun _ => 0))), (a65, .inl (k 0, 1024, .inl (fun _ => 0))), (a74, .inl (k 0, 1500, .inl (fun _ => 0))), (a83, .inl (k 0, 1500, .inl (fun _ => 0)))] H ∧ va_D A [(p0, .inr (5, [.ref p1, .int 0, .int 0, .ref a38, .ref a47, .ref a56, .int 0, .ref a65, .ref a74, .ref a83, v12, .int 0, .int (-1), v15, v16])), (a38, .inl (k 0, 1500, .inl (fun _ => 0))), (a47, .inl (k 0, 1500, .inl (fun _ => 0))), (a56, .inl (k 0, 1500, .inl (fun _ => 0))), (a65, .inl (k 0, 1024, .inl (fun _ => 0))), (a74, .inl (k 0, 1500, .inl (fun _ => 0))), (a83, .inl (k 0, 1500, .inl (fun _ => 0)))] := ⟨hP, hD⟩
  refine lv_aload_n hx hb dX6_init_88 rfl (lv_at hl 0 rfl) ?_
  refine lv_sipush (v := 1500) hx hb dX6_init_89 (by decide +kernel) ?_
  refine cz_newa (atype := .int) (N' := 1500) (a0 := (1500, .inl (fun _ => 0))) (ty := .int) hx hb h10w rfl hX hP hD hS hA 0 (by decide +kernel) (ha_int 1500) (by decide +kernel) (by decide +kernel) (Nat.le_of_ble_eq_true rfl) (Nat.le_of_ble_eq_true rfl) (Nat.le_of_ble_eq_true rfl) dX6_init_92 (fun a92 H hP hD hS => ?_)
  refine W.widen (k := 7) (n := 10024) (Nat.le_of_ble_eq_true rfl) (Nat.le_of_ble_eq_true rfl) ?_
  refine va_putF (D := G) (ci := 5) (v := .ref a92) (ty := .array .int) (C := RX6) (T := TX6) (N := 15) (ref := RX6) hx hb hts h4w tyX6 tyX6_ok nmX6 hown hX.1 hP hD hS 0 rfl rfl 10 (by decide) h17w (fun _ h9 => h9) rfl hin rfl (by decide +kernel) rfl rfl (Nat.le_of_ble_eq_true rfl) dX6_init_94 (fun H locs hP hD hS => ?_)
  refine lv_aload_n hx hb dX6_init_97 rfl (lv_at hl 0 rfl) ?_
  refine lv_bipush (v := 7) hx hb dX6_init_98 (by decide +kernel) ?_
  refine cz_newa (atype := .int) (N' := 7) (a0 := (7, .inl (fun _ => 0))) (ty := .int) hx hb h10w rfl hX hP hD hS hA 0 (by decide +kernel) (ha_int 7) (by decide +kernel) (by decide +kernel) (Nat.le_of_ble_eq_true rfl) (Nat.le_of_ble_eq_true rfl) (Nat.le_of_ble_eq_true rfl) dX6_init_100 (fun a100 H hP hD hS => ?_)
  refine W.widen (k := 8) (n := 10031) (Nat.le_of_ble_eq_true rfl) (Nat.le_of_ble_eq_true rfl) ?_
  refine va_putF (D := G) (ci := 5) (v := .ref a100) (ty := .array .int) (C := RX6) (T := TX6) (N := 15) (ref := RX6) hx hb hts h4w tyX6 tyX6_ok nmX6 hown hX.1 hP hD hS 0 rfl rfl 13 (by decide) h18w (fun _ h9 => h9) rfl hin rfl (by decide +kernel) rfl rfl (Nat.le_of_ble_eq_true rfl) dX6_init_102 (fun H locs hP hD hS => ?_)
  refine lv_aload_n hx hb dX6_init_105 rfl (lv_at hl 0 rfl) ?_
  refine lv_sipush (v := 1641) hx hb dX6_init_106 (by decide +kernel) ?_
  refine cz_newa (atype := .int) (N' := 1641) (a0 := (1641, .inl (fun _ => 0))) (ty := .int) hx hb h10w rfl hX hP hD hS hA 0 (by decide +kernel) (ha_int 1641) (by decide +kernel) (by decide +kernel) (Nat.le_of_ble_eq_true rfl) (Nat.le_of_ble_eq_true rfl) (Nat.le_of_ble_eq_true rfl) dX6_init_109 (fun a109 H hP hD hS => ?_)
  refine W.widen (k := 9) (n := 11672) (Nat.le_of_ble_eq_true rfl) (Nat.le_of_ble_eq_true rfl) ?_
  refine va_putF (D := G) (ci := 5) (v := .ref a109) (ty := .array .int) (C := RX6) (T := TX6) (N := 15) (ref := RX6) hx hb hts h4w tyX6 tyX6_ok nmX6 hown hX.1 hP hD hS 0 rfl rfl 14 (by decide) h19w (fun _ h9 => h9) rfl hin rfl (by decide +kernel) rfl rfl (Nat.le_of_ble_eq_true rfl) dX6_init_111 (fun H locs hP hD hS => ?_)
  obtain ⟨hP, hD⟩ : va_P G vwCl [(p0, .inr (5, [.ref p1, .int 0, .int 0, .ref a38, .ref a47, .ref a56, .int 0, .ref a65, .ref a74, .ref a83, .ref a92, .int 0, .int (-1), .ref a100, .ref a109])), (a38, .inl (k 0, 1500, .inl (fun _ => 0))), (a47, .inl (k 0, 1500, .inl (fun _ => 0))), (a56, .inl (k 0, 1500, .inl (fun _ => 0))), (a65, .inl (k 0, 1024, .inl (fun _ => 0))), (a74, .inl (k 0, 1500, .inl (fun _ => 0))), (a83, .inl (k 0, 1500, .inl (fun _ => 0))), (a92, .inl (k 0, 1500, .inl (fun _ => 0))), (a100, .inl (k 0, 7, .inl (fun _ => 0))), (a109, .inl (k 0, 1641, .inl (fun _ => 0)))] H ∧ va_D A [(p0, .inr (5, [.ref p1, .int 0, .int 0, .ref a38, .ref a47, .ref a56, .int 0, .ref a65, .ref a74, .ref a83, .ref a92, .int 0, .int (-1), .ref a100, .ref a109])), (a38, .inl (k 0, 1500, .inl (fun _ => 0))), (a47, .inl (k 0, 1500, .inl (fun _ => 0))), (a56, .inl (k 0, 1500, .inl (fun _ => 0))), (a65, .inl (k 0, 1024, .inl (fun _ => 0))), (a74, .inl (k 0, 1500, .inl (fun _ => 0))), (a83, .inl (k 0, 1500, .inl (fun _ => 0))), (a92, .inl (k 0, 1500, .inl (fun _ => 0))), (a100, .inl (k 0, 7, .inl (fun _ => 0))), (a109, .inl (k 0, 1641, .inl (fun _ => 0)))] := ⟨hP, hD⟩
  have hP9 := hP.sub (ws' := [(p0, .inr (5, [.ref p1, .int 0, .int 0, .ref a38, .ref a47, .ref a56, .int 0, .ref a65, .ref a74, .ref a83, .ref a92, .int 0, .int (-1), .ref a100, .ref a109])), (a38, .inl (k 0, 1500, .inl (fun _ => 0))), (a47, .inl (k 0, 1500, .inl (fun _ => 0))), (a56, .inl (k 0, 1500, .inl (fun _ => 0))), (a65, .inl (k 0, 1024, .inl (fun _ => 0))), (a74, .inl (k 0, 1500, .inl (fun _ => 0))), (a83, .inl (k 0, 1500, .inl (fun _ => 0))), (a92, .inl (k 0, 1500, .inl (fun _ => 0))), (a100, .inl (k 0, 7, .inl (fun _ => 0))), (a109, .inl (k 0, 1641, .inl (fun _ => 0)))]) [0, 1, 2, 3, 4, 5, 6, 7, 8, 9] rfl
  have hD9 := hD.sub (ws' := [(p0, .inr (5, [.ref p1, .int 0, .int 0, .ref a38, .ref a47, .ref a56, .int 0, .ref a65, .ref a74, .ref a83, .ref a92, .int 0, .int (-1), .ref a100, .ref a109])), (a38, .inl (k 0, 1500, .inl (fun _ => 0))), (a47, .inl (k 0, 1500, .inl (fun _ => 0))), (a56, .inl (k 0, 1500, .inl (fun _ => 0))), (a65, .inl (k 0, 1024, .inl (fun _ => 0))), (a74, .inl (k 0, 1500, .inl (fun _ => 0))), (a83, .inl (k 0, 1500, .inl (fun _ => 0))), (a92, .inl (k 0, 1500, .inl (fun _ => 0))), (a100, .inl (k 0, 7, .inl (fun _ => 0))), (a109, .inl (k 0, 1641, .inl (fun _ => 0)))]) [0, 1, 2, 3, 4, 5, 6, 7, 8, 9] (by decide) rfl
  refine W.widen (k := 9) (n := 11672) (Nat.le_of_ble_eq_true rfl) (Nat.le_of_ble_eq_true rfl) ?_
  exact W.vret hx hb hr (fun t ht hW => ⟨⟨(a38, a47, a56, a65, a74, a83, a92, a100, a109), rfl, trivial, by rw [ht]; exact hP9, hD9⟩, hS.F ht⟩) hS.2.2 dX6_init_114

set_option maxHeartbeats 4000000 in
set_option maxRecDepth 100000 in
theorem cX7_move_0 (l : Launch) (G : va_G) (k : Nat → ClassId) (sz : Nat) : CMi l G k yX7_move wsX7_move ({ frames := 0, cells := 0, slots := 0, locals := 0 }) [.int 268435455, .int 0] sz [] (fun r (u : Unit) => r = 268435455) (fun (u : Unit) => []) := by
  refine Met.ofW (cc := cX7_move) (maxL := 2) (ret := (some .int)) (by decide) rfl ?_
  intro p e s m args below meth c s₁ B hml hv
  obtain ⟨rfl, hsz, hP, hX, hD0, hZ0⟩ := hv
  have hx := B.exec
  have hb := B.bytes
  have hr := B.returns
  have hts := atoms_spec (ws := wsX7_move) B.pre
  have hown : s.vm.findClass RX7 = some m.cls := findClass_of_methodNamed B.named
  subst hsz
  have hD := hD0.self (sz := s.heap.size)
  have hZ := ZX.up hP hZ0
  generalize hAe : va_A [] s.heap.size = A at hD hZ ⊢
  have hA : ∀ q : Nat, s.heap.size ≤ q → A q := fun q h => by rw [← hAe]; exact Or.inr h
  have hS : va_S A s.heap s.heap [] := va_S.rf
  have hP : va_P G vwCl [] s.heap := hP
  have hl := lv_entry ([.int 268435455, .int 0]) (n := 2) (Nat.le_of_ble_eq_true rfl)
  rw [lg_entry_eq]
  generalize (lg_sl ([.int 268435455, .int 0]) ++ List.replicate (2 - (lg_sl ([.int 268435455, .int 0])).length) Slot.unset).toArray = ls at hl ⊢
  have hl : lv_has ls 2 [(0, .int 268435455), (1, .int 0)] := hl
  have h0w := hts (.constant RX7 11 (268435455)) (by decide +kernel)
  refine lv_iload_n hx hb dX7_move_0 rfl (lv_at hl 0 rfl) ?_
  refine lv_ldc (v := 268435455) hx hb hown h0w dX7_move_1 ?_
  refine lv_iand hx hb dX7_move_3 ?_
  refine cz_ti (w := 268435455) (by decide +kernel) ?_
  refine lv_iload_n hx hb dX7_move_4 rfl (lv_at hl 1 rfl) ?_
  refine lv_bipush (v := 28) hx hb dX7_move_5 (by decide +kernel) ?_
  refine lv_ishl hx hb dX7_move_7 ?_
  refine cz_ti (w := 0) (by decide +kernel) ?_
  refine lv_ior hx hb dX7_move_8 ?_
  refine cz_ti (w := 268435455) (by decide +kernel) ?_
  have hP9 := hP.sub (ws' := []) [] rfl
  have hD9 := hD.sub (ws' := []) [] (by decide) rfl
  exact W.iret (v := 268435455) hx hb hr (fun t ht hW => ⟨⟨268435455, (), rfl, rfl, by rw [ht]; exact hP9, hD9⟩, hS.F ht⟩) hS.2.2 dX7_move_9

set_option maxHeartbeats 4000000 in
set_option maxRecDepth 100000 in
theorem cX3_firstState_0 (l : Launch) (G : va_G) (k : Nat → ClassId) (p0 : Nat) (v1 : Value) (v2 : Value) (v3 : Value) (v4 : Value) (v5 : Value) (v6 : Value) (v7 : Value) (v8 : Value) (v9 : Value) (v10 : Value) (v11 : Value) (v12 : Value) (sz : Nat) : CMi l G k yX3_firstState wsX3_firstState ({ frames := 1, cells := 0, slots := 0, locals := 21 }) [.ref p0] sz [(p0, .inr (2, [v1, .int 0, v2, v3, v4, v5, v6, .int 0, v7, v8, v9, v10, v11, v12]))] (fun r (u : Unit) => r = 268435455) (fun (u : Unit) => [(p0, .inr (2, [v1, .int 0, v2, v3, v4, v5, v6, .int 0, v7, v8, v9, v10, v11, v12]))]) := by
  refine Met.ofW (cc := cX3_firstState) (maxL := 3) (ret := (some .int)) (by decide) rfl ?_
  intro p e s m args below meth c s₁ B hml hv
  obtain ⟨rfl, hsz, hP, hX, hD0, hZ0⟩ := hv
  have hx := B.exec
  have hb := B.bytes
  have hr := B.returns
  have hts := atoms_spec (ws := wsX3_firstState) B.pre
  have hown : s.vm.findClass RX3 = some m.cls := findClass_of_methodNamed B.named
  subst hsz
  have hD := hD0.self (sz := s.heap.size)
  have hZ := ZX.up hP hZ0
  generalize hAe : va_A [(p0, .inr (2, [v1, .int 0, v2, v3, v4, v5, v6, .int 0, v7, v8, v9, v10, v11, v12]))] s.heap.size = A at hD hZ ⊢
  have hA : ∀ q : Nat, s.heap.size ≤ q → A q := fun q h => by rw [← hAe]; exact Or.inr h
  have hS : va_S A s.heap s.heap [] := va_S.rf
  have hP : va_P G vwCl [(p0, .inr (2, [v1, .int 0, v2, v3, v4, v5, v6, .int 0, v7, v8, v9, v10, v11, v12]))] s.heap := hP
  have hl := lv_entry ([.ref p0]) (n := 3) (Nat.le_of_ble_eq_true rfl)
  rw [lg_entry_eq]
  generalize (lg_sl ([.ref p0]) ++ List.replicate (3 - (lg_sl ([.ref p0])).length) Slot.unset).toArray = ls at hl ⊢
  have hl : lv_has ls 3 [(0, .ref p0)] := hl
  have h0w := hts (.constant RX3 65 (268435455)) (by decide +kernel)
  have h1w := hts (.fieldLink RX3 41 "RopeTown$Plan" "start" "I") (by decide +kernel)
  have h2w : ∀ w ∈ wsX30, w ∈ wsX3_firstState := by decide +kernel
  have h3w := hts (.initialized RX7) (by decide +kernel)
  have h4w := hts (.static yX7_move) (by decide +kernel)
  have h5w := hts (.fieldLink RX3 59 "RopeTown$Plan" "things" "I") (by decide +kernel)
  refine lv_ldc (v := 268435455) hx hb hown h0w dX3_firstState_0 ?_
  refine lv_aload_n hx hb dX3_firstState_2 rfl (lv_at hl 0 rfl) ?_
  refine va_get (D := G) (ci := 2) (v := .int 0) (C := RX3) (T := TX3) (N := 14) (ref := RX3) hx hb hts h2w hown hX.1 hP 0 rfl rfl 1 (by decide) h1w (fun _ h9 => h9) rfl dX3_firstState_3 ?_
  refine cz_i (wr := [(p0, .inr (2, [v1, .int 0, v2, v3, v4, v5, v6, .int 0, v7, v8, v9, v10, v11, v12]))]) (va_runSN (As := [.int 268435455, .int 0]) (rest := []) ⟨hx, hb, hml, hown, hts⟩ (cX7_move_0 l G k s.heap.size) ⟨va_cnB 2 hts gX3_firstState_X7_move_n66 rfl rfl rfl (nm_8 hX.2.2.1) h3w (by decide +kernel) ⟨Nat.le_of_ble_eq_true rfl, Nat.le_of_ble_eq_true rfl⟩, h4w, trivial⟩ (cz_preS hZ hS hX hP hD [] rfl rfl) rfl rfl hl.1 rfl (lv_room (Nat.le_of_ble_eq_true rfl)) dX3_firstState_6 ⟨Nat.le_of_ble_eq_true rfl, Nat.le_of_ble_eq_true rfl⟩) hP hD hS hA [] [0] rfl rfl (by decide) (by decide) (fun r u H locs hp hP hD hS => ?_)
  have hp : r = 268435455 := hp
  subst hp
  refine lv_istore_n (lv' := [(1, .int 268435455), (0, .ref p0)]) hx hb dX3_firstState_9 rfl hl (by decide) rfl (fun ls hl => ?_)
  refine lv_iconst (v := 0) hx hb dX3_firstState_10 (by decide +kernel) ?_
  refine lv_istore_n (lv' := [(2, .int 0), (1, .int 268435455), (0, .ref p0)]) hx hb dX3_firstState_11 rfl hl (by decide) rfl (fun ls hl => ?_)
  refine lv_iload_n hx hb dX3_firstState_12 rfl (lv_at hl 0 rfl) ?_
  refine lv_aload_n hx hb dX3_firstState_13 rfl (lv_at hl 2 rfl) ?_
  refine va_get (D := G) (ci := 2) (v := .int 0) (C := RX3) (T := TX3) (N := 14) (ref := RX3) hx hb hts h2w hown hX.1 hP 0 rfl rfl 7 (by decide) h5w (fun _ h9 => h9) rfl dX3_firstState_14 ?_
  refine lv_icmp_ge (tgt := 38) hx hb dX3_firstState_17 (by decide) (fun _ => ?_) (fun q => absurd (by decide +kernel) (q))
  refine lv_iload_n hx hb dX3_firstState_38 rfl (lv_at hl 1 rfl) ?_
  have hP9 := hP.sub (ws' := [(p0, .inr (2, [v1, .int 0, v2, v3, v4, v5, v6, .int 0, v7, v8, v9, v10, v11, v12]))]) [0] rfl
  have hD9 := hD.sub (ws' := [(p0, .inr (2, [v1, .int 0, v2, v3, v4, v5, v6, .int 0, v7, v8, v9, v10, v11, v12]))]) [0] (by decide) rfl
  exact W.iret (v := 268435455) hx hb hr (fun t ht hW => ⟨⟨268435455, (), rfl, rfl, by rw [ht]; exact hP9, hD9⟩, hS.F ht⟩) hS.2.2 dX3_firstState_39

set_option maxHeartbeats 4000000 in
set_option maxRecDepth 100000 in
theorem cX1_begin_0 (l : Launch) (G : va_G) (k : Nat → ClassId) (p0 : Nat) (v1 : Value) (v2 : Value) (v3 : Value) (v4 : Value) (v5 : Value) (v6 : Value) (v7 : Value) (v8 : Value) (v9 : Value) (v10 : Value) (v11 : Value) (v12 : Value) (sz : Nat) : CMv l G k yX1_begin wsX1_begin ({ frames := 0, cells := 0, slots := 0, locals := 0 }) [.ref p0, .int 268435455] sz [(p0, .inr (0, [v1, v2, v3, v4, v5, v6, v7, v8, v9, v10, v11, v12]))] (fun (u : Unit) => True) (fun (u : Unit) => [(p0, .inr (0, [.int 268435455, .int 0, .int 0, .int 0, .int 0, v6, v7, v8, v9, v10, v11, v12]))]) := by
  refine Met.ofW (cc := cX1_begin) (maxL := 2) (ret := none) (by decide) rfl ?_
  intro p e s m args below meth c s₁ B hml hv
  obtain ⟨rfl, hsz, hP, hX, hD0, hZ0⟩ := hv
  have hx := B.exec
  have hb := B.bytes
  have hr := B.returns
  have hts := atoms_spec (ws := wsX1_begin) B.pre
  have hown : s.vm.findClass RX1 = some m.cls := findClass_of_methodNamed B.named
  subst hsz
  have hD := hD0.self (sz := s.heap.size)
  have hZ := ZX.up hP hZ0
  generalize hAe : va_A [(p0, .inr (0, [v1, v2, v3, v4, v5, v6, v7, v8, v9, v10, v11, v12]))] s.heap.size = A at hD hZ ⊢
  have hA : ∀ q : Nat, s.heap.size ≤ q → A q := fun q h => by rw [← hAe]; exact Or.inr h
  have hS : va_S A s.heap s.heap [] := va_S.rf
  have hP : va_P G vwCl [(p0, .inr (0, [v1, v2, v3, v4, v5, v6, v7, v8, v9, v10, v11, v12]))] s.heap := hP
  have hl := lv_entry ([.ref p0, .int 268435455]) (n := 2) (Nat.le_of_ble_eq_true rfl)
  rw [lg_entry_eq]
  generalize (lg_sl ([.ref p0, .int 268435455]) ++ List.replicate (2 - (lg_sl ([.ref p0, .int 268435455])).length) Slot.unset).toArray = ls at hl ⊢
  have hl : lv_has ls 2 [(0, .ref p0), (1, .int 268435455)] := hl
  have h0w := hts (.fieldLink RX1 33 "RopeTown$Book" "state" "I") (by decide +kernel)
  have h1w : ∀ w ∈ wsX10, w ∈ wsX1_begin := by decide +kernel
  have h2w := hts (.fieldLink RX1 37 "RopeTown$Book" "moves" "I") (by decide +kernel)
  have h3w := hts (.fieldLink RX1 40 "RopeTown$Book" "rides" "I") (by decide +kernel)
  have h4w := hts (.fieldLink RX1 43 "RopeTown$Book" "cost" "I") (by decide +kernel)
  have h5w := hts (.fieldLink RX1 46 "RopeTown$Book" "days" "I") (by decide +kernel)
  refine lv_aload_n hx hb dX1_begin_0 rfl (lv_at hl 0 rfl) ?_
  refine lv_iload_n hx hb dX1_begin_1 rfl (lv_at hl 1 rfl) ?_
  refine va_put (D := G) (ci := 0) (v := .int 268435455) (ty := .int) (C := RX1) (T := TX1) (N := 12) (ref := RX1) hx hb hts h1w tyX1 tyX1_ok nmX1 hown hX.1 hP hD hS 0 rfl rfl 0 (by decide) h0w (fun _ h9 => h9) rfl (by decide +kernel) rfl rfl (Nat.le_of_ble_eq_true rfl) dX1_begin_2 (fun H locs hP hD hS => ?_)
  refine lv_aload_n hx hb dX1_begin_5 rfl (lv_at hl 0 rfl) ?_
  refine lv_iconst (v := 0) hx hb dX1_begin_6 (by decide +kernel) ?_
  refine va_put (D := G) (ci := 0) (v := .int 0) (ty := .int) (C := RX1) (T := TX1) (N := 12) (ref := RX1) hx hb hts h1w tyX1 tyX1_ok nmX1 hown hX.1 hP hD hS 0 rfl rfl 1 (by decide) h2w (fun _ h9 => h9) rfl (by decide +kernel) rfl rfl (Nat.le_of_ble_eq_true rfl) dX1_begin_7 (fun H locs hP hD hS => ?_)
  refine lv_aload_n hx hb dX1_begin_10 rfl (lv_at hl 0 rfl) ?_
  refine lv_iconst (v := 0) hx hb dX1_begin_11 (by decide +kernel) ?_
  refine va_put (D := G) (ci := 0) (v := .int 0) (ty := .int) (C := RX1) (T := TX1) (N := 12) (ref := RX1) hx hb hts h1w tyX1 tyX1_ok nmX1 hown hX.1 hP hD hS 0 rfl rfl 2 (by decide) h3w (fun _ h9 => h9) rfl (by decide +kernel) rfl rfl (Nat.le_of_ble_eq_true rfl) dX1_begin_12 (fun H locs hP hD hS => ?_)
  refine lv_aload_n hx hb dX1_begin_15 rfl (lv_at hl 0 rfl) ?_
  refine lv_iconst (v := 0) hx hb dX1_begin_16 (by decide +kernel) ?_
  refine va_put (D := G) (ci := 0) (v := .int 0) (ty := .int) (C := RX1) (T := TX1) (N := 12) (ref := RX1) hx hb hts h1w tyX1 tyX1_ok nmX1 hown hX.1 hP hD hS 0 rfl rfl 3 (by decide) h4w (fun _ h9 => h9) rfl (by decide +kernel) rfl rfl (Nat.le_of_ble_eq_true rfl) dX1_begin_17 (fun H locs hP hD hS => ?_)
  refine lv_aload_n hx hb dX1_begin_20 rfl (lv_at hl 0 rfl) ?_
  refine lv_iconst (v := 0) hx hb dX1_begin_21 (by decide +kernel) ?_
  refine va_put (D := G) (ci := 0) (v := .int 0) (ty := .int) (C := RX1) (T := TX1) (N := 12) (ref := RX1) hx hb hts h1w tyX1 tyX1_ok nmX1 hown hX.1 hP hD hS 0 rfl rfl 4 (by decide) h5w (fun _ h9 => h9) rfl (by decide +kernel) rfl rfl (Nat.le_of_ble_eq_true rfl) dX1_begin_22 (fun H locs hP hD hS => ?_)
  have hP9 := hP.sub (ws' := [(p0, .inr (0, [.int 268435455, .int 0, .int 0, .int 0, .int 0, v6, v7, v8, v9, v10, v11, v12]))]) [0] rfl
  have hD9 := hD.sub (ws' := [(p0, .inr (0, [.int 268435455, .int 0, .int 0, .int 0, .int 0, v6, v7, v8, v9, v10, v11, v12]))]) [0] (by decide) rfl
  exact W.vret hx hb hr (fun t ht hW => ⟨⟨(), rfl, trivial, by rw [ht]; exact hP9, hD9⟩, hS.F ht⟩) hS.2.2 dX1_begin_25

