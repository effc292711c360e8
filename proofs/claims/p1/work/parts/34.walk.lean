set_option maxHeartbeats 4000000 in
set_option maxRecDepth 100000 in
theorem cX9_append_4 (l : Launch) (G : va_G) (k : Nat → ClassId) (p0 : Nat) (i1 : Int32) (p2 : Nat) (v3 : Value) (v4 : Value) (v5 : Value) (v6 : Value) (v7 : Value) (v8 : Value) (v9 : Value) (v10 : Value) (v11 : Value) (f12 : Nat → Int32) (sz : Nat) : CMv l G k yX9_append wsX9_append ({ frames := 0, cells := 0, slots := 0, locals := 0 }) [.ref p0, .int i1] sz [(p0, .inr (6, [.ref p2, .int 16, v3, v4, v5, v6, v7, v8, v9, v10, v11])), (p2, .inl (k 1, 600, .inl f12))] (fun (u : (Nat → Int32)) => True) (fun (u : (Nat → Int32)) => [(p0, .inr (6, [.ref p2, .int 20, v3, v4, v5, v6, v7, v8, v9, v10, v11])), (p2, .inl (k 1, 600, .inl u))]) := by
  refine Met.ofW (cc := cX9_append) (maxL := 3) (ret := none) (by decide) rfl ?_
  intro p e s m args below meth c s₁ B hml hv
  obtain ⟨rfl, hsz, hP, hX, hD0, hZ0⟩ := hv
  have hx := B.exec
  have hb := B.bytes
  have hr := B.returns
  have hts := atoms_spec (ws := wsX9_append) B.pre
  have hown : s.vm.findClass RX9 = some m.cls := findClass_of_methodNamed B.named
  subst hsz
  have hD := hD0.self (sz := s.heap.size)
  have hZ := ZX.up hP hZ0
  generalize hAe : va_A [(p0, .inr (6, [.ref p2, .int 16, v3, v4, v5, v6, v7, v8, v9, v10, v11])), (p2, .inl (k 1, 600, .inl f12))] s.heap.size = A at hD hZ ⊢
  have hA : ∀ q : Nat, s.heap.size ≤ q → A q := fun q h => by rw [← hAe]; exact Or.inr h
  have hS : va_S A s.heap s.heap [] := va_S.rf
  have hP : va_P G vwCl [(p0, .inr (6, [.ref p2, .int 16, v3, v4, v5, v6, v7, v8, v9, v10, v11])), (p2, .inl (k 1, 600, .inl f12))] s.heap := hP
  have hl := lv_entry ([.ref p0, .int i1]) (n := 3) (Nat.le_of_ble_eq_true rfl)
  rw [lg_entry_eq]
  generalize (lg_sl ([.ref p0, .int i1]) ++ List.replicate (3 - (lg_sl ([.ref p0, .int i1])).length) Slot.unset).toArray = ls at hl ⊢
  have hl : lv_has ls 3 [(0, .ref p0), (1, .int i1)] := hl
  have h0w := hts (.fieldLink RX9 13 "RopeTown" "fed" "I") (by decide +kernel)
  have h1w : ∀ w ∈ wsX90, w ∈ wsX9_append := by decide +kernel
  have h2w := hts (.fieldLink RX9 9 "RopeTown" "tape" "[B") (by decide +kernel)
  refine lv_bipush (v := 24) hx hb dX9_append_0 (by decide +kernel) ?_
  refine lv_istore_n (lv' := [(2, .int 24), (0, .ref p0), (1, .int i1)]) hx hb dX9_append_2 rfl hl (by decide) rfl (fun ls hl => ?_)
  refine lv_iload_n hx hb dX9_append_3 rfl (lv_at hl 0 rfl) ?_
  refine lv_if_lt (tgt := 46) hx hb dX9_append_4 (by decide) (fun q => absurd (q) (by decide +kernel)) (fun _ => ?_)
  refine lv_aload_n hx hb dX9_append_7 rfl (lv_at hl 1 rfl) ?_
  refine va_get (D := G) (ci := 6) (v := .int 16) (C := RX9) (T := TX9) (N := 11) (ref := RX9) hx hb hts h1w hown hX.1 hP 0 rfl rfl 1 (by decide) h0w (fun _ h9 => h9) rfl dX9_append_8 ?_
  refine lv_sipush (v := 600) hx hb dX9_append_11 (by decide +kernel) ?_
  refine lv_icmp_ge (tgt := 46) hx hb dX9_append_14 (by decide) (fun q => absurd (q) (by decide +kernel)) (fun _ => ?_)
  refine lv_aload_n hx hb dX9_append_17 rfl (lv_at hl 1 rfl) ?_
  refine va_get (D := G) (ci := 6) (v := .ref p2) (C := RX9) (T := TX9) (N := 11) (ref := RX9) hx hb hts h1w hown hX.1 hP 0 rfl rfl 0 (by decide) h2w (fun _ h9 => h9) rfl dX9_append_18 ?_
  refine lv_aload_n hx hb dX9_append_21 rfl (lv_at hl 1 rfl) ?_
  refine va_get (D := G) (ci := 6) (v := .int 16) (C := RX9) (T := TX9) (N := 11) (ref := RX9) hx hb hts h1w hown hX.1 hP 0 rfl rfl 1 (by decide) h0w (fun _ h9 => h9) rfl dX9_append_22 ?_
  refine lv_iload_n hx hb dX9_append_25 rfl (lv_at hl 2 rfl) ?_
  refine lv_iload_n hx hb dX9_append_26 rfl (lv_at hl 0 rfl) ?_
  refine lv_ishr hx hb dX9_append_27 ?_
  refine lv_topi (fun x_1 ex_1 => ?_)
  obtain ⟨x_2, ex_2⟩ : ∃ z : Int32, (x_1 : Int32).toInt8.toInt32 = z := ⟨_, rfl⟩
  refine lv_i2b (v := x_2) hx hb dX9_append_28 ex_2 ?_
  refine va_bast hx hb hX.1 hP hD hS 1 1 rfl rfl (by unfold vp_in; decide +kernel) dX9_append_29 (fun H locs hP hD hS => ?_)
  refine lv_aload_n hx hb dX9_append_30 rfl (lv_at hl 1 rfl) ?_
  refine lv_dup hx hb dX9_append_31 rfl ?_
  refine va_get (D := G) (ci := 6) (v := .int 16) (C := RX9) (T := TX9) (N := 11) (ref := RX9) hx hb hts h1w hown hX.1 hP 0 rfl rfl 1 (by decide) h0w (fun _ h9 => h9) rfl dX9_append_32 ?_
  refine lv_iconst (v := 1) hx hb dX9_append_35 (by decide +kernel) ?_
  refine lv_iadd hx hb dX9_append_36 ?_
  refine cz_ti (w := 17) (by decide +kernel) ?_
  refine va_put (D := G) (ci := 6) (v := .int 17) (ty := .int) (C := RX9) (T := TX9) (N := 11) (ref := RX9) hx hb hts h1w tyX9 tyX9_ok nmX9 hown hX.1 hP hD hS 0 rfl rfl 1 (by decide) h0w (fun _ h9 => h9) rfl (by decide +kernel) rfl rfl (Nat.le_of_ble_eq_true rfl) dX9_append_37 (fun H locs hP hD hS => ?_)
  refine lv_iinc (v := 16) (lv' := [(2, .int 16), (0, .ref p0), (1, .int i1)]) hx hb dX9_append_40 hl (k := 0) rfl (by decide +kernel) (by decide) rfl (fun ls hl => ?_)
  refine lv_goto (tgt := 3) hx hb dX9_append_43 (by decide) ?_
  refine lv_iload_n hx hb dX9_append_3 rfl (lv_at hl 0 rfl) ?_
  refine lv_if_lt (tgt := 46) hx hb dX9_append_4 (by decide) (fun q => absurd (q) (by decide +kernel)) (fun _ => ?_)
  refine lv_aload_n hx hb dX9_append_7 rfl (lv_at hl 1 rfl) ?_
  refine va_get (D := G) (ci := 6) (v := .int 17) (C := RX9) (T := TX9) (N := 11) (ref := RX9) hx hb hts h1w hown hX.1 hP 0 rfl rfl 1 (by decide) h0w (fun _ h9 => h9) rfl dX9_append_8 ?_
  refine lv_sipush (v := 600) hx hb dX9_append_11 (by decide +kernel) ?_
  refine lv_icmp_ge (tgt := 46) hx hb dX9_append_14 (by decide) (fun q => absurd (q) (by decide +kernel)) (fun _ => ?_)
  refine lv_aload_n hx hb dX9_append_17 rfl (lv_at hl 1 rfl) ?_
  refine va_get (D := G) (ci := 6) (v := .ref p2) (C := RX9) (T := TX9) (N := 11) (ref := RX9) hx hb hts h1w hown hX.1 hP 0 rfl rfl 0 (by decide) h2w (fun _ h9 => h9) rfl dX9_append_18 ?_
  refine lv_aload_n hx hb dX9_append_21 rfl (lv_at hl 1 rfl) ?_
  refine va_get (D := G) (ci := 6) (v := .int 17) (C := RX9) (T := TX9) (N := 11) (ref := RX9) hx hb hts h1w hown hX.1 hP 0 rfl rfl 1 (by decide) h0w (fun _ h9 => h9) rfl dX9_append_22 ?_
  refine lv_iload_n hx hb dX9_append_25 rfl (lv_at hl 2 rfl) ?_
  refine lv_iload_n hx hb dX9_append_26 rfl (lv_at hl 0 rfl) ?_
  refine lv_ishr hx hb dX9_append_27 ?_
  refine lv_topi (fun x_3 ex_3 => ?_)
  obtain ⟨x_4, ex_4⟩ : ∃ z : Int32, (x_3 : Int32).toInt8.toInt32 = z := ⟨_, rfl⟩
  refine lv_i2b (v := x_4) hx hb dX9_append_28 ex_4 ?_
  refine va_bast hx hb hX.1 hP hD hS 1 1 rfl rfl (by unfold vp_in; decide +kernel) dX9_append_29 (fun H locs hP hD hS => ?_)
  refine lv_aload_n hx hb dX9_append_30 rfl (lv_at hl 1 rfl) ?_
  refine lv_dup hx hb dX9_append_31 rfl ?_
  refine va_get (D := G) (ci := 6) (v := .int 17) (C := RX9) (T := TX9) (N := 11) (ref := RX9) hx hb hts h1w hown hX.1 hP 0 rfl rfl 1 (by decide) h0w (fun _ h9 => h9) rfl dX9_append_32 ?_
  refine lv_iconst (v := 1) hx hb dX9_append_35 (by decide +kernel) ?_
  refine lv_iadd hx hb dX9_append_36 ?_
  refine cz_ti (w := 18) (by decide +kernel) ?_
  refine va_put (D := G) (ci := 6) (v := .int 18) (ty := .int) (C := RX9) (T := TX9) (N := 11) (ref := RX9) hx hb hts h1w tyX9 tyX9_ok nmX9 hown hX.1 hP hD hS 0 rfl rfl 1 (by decide) h0w (fun _ h9 => h9) rfl (by decide +kernel) rfl rfl (Nat.le_of_ble_eq_true rfl) dX9_append_37 (fun H locs hP hD hS => ?_)
  refine lv_iinc (v := 8) (lv' := [(2, .int 8), (0, .ref p0), (1, .int i1)]) hx hb dX9_append_40 hl (k := 0) rfl (by decide +kernel) (by decide) rfl (fun ls hl => ?_)
  refine lv_goto (tgt := 3) hx hb dX9_append_43 (by decide) ?_
  refine lv_iload_n hx hb dX9_append_3 rfl (lv_at hl 0 rfl) ?_
  refine lv_if_lt (tgt := 46) hx hb dX9_append_4 (by decide) (fun q => absurd (q) (by decide +kernel)) (fun _ => ?_)
  refine lv_aload_n hx hb dX9_append_7 rfl (lv_at hl 1 rfl) ?_
  refine va_get (D := G) (ci := 6) (v := .int 18) (C := RX9) (T := TX9) (N := 11) (ref := RX9) hx hb hts h1w hown hX.1 hP 0 rfl rfl 1 (by decide) h0w (fun _ h9 => h9) rfl dX9_append_8 ?_
  refine lv_sipush (v := 600) hx hb dX9_append_11 (by decide +kernel) ?_
  refine lv_icmp_ge (tgt := 46) hx hb dX9_append_14 (by decide) (fun q => absurd (q) (by decide +kernel)) (fun _ => ?_)
  refine lv_aload_n hx hb dX9_append_17 rfl (lv_at hl 1 rfl) ?_
  refine va_get (D := G) (ci := 6) (v := .ref p2) (C := RX9) (T := TX9) (N := 11) (ref := RX9) hx hb hts h1w hown hX.1 hP 0 rfl rfl 0 (by decide) h2w (fun _ h9 => h9) rfl dX9_append_18 ?_
  refine lv_aload_n hx hb dX9_append_21 rfl (lv_at hl 1 rfl) ?_
  refine va_get (D := G) (ci := 6) (v := .int 18) (C := RX9) (T := TX9) (N := 11) (ref := RX9) hx hb hts h1w hown hX.1 hP 0 rfl rfl 1 (by decide) h0w (fun _ h9 => h9) rfl dX9_append_22 ?_
  refine lv_iload_n hx hb dX9_append_25 rfl (lv_at hl 2 rfl) ?_
  refine lv_iload_n hx hb dX9_append_26 rfl (lv_at hl 0 rfl) ?_
  refine lv_ishr hx hb dX9_append_27 ?_
  refine lv_topi (fun x_5 ex_5 => ?_)
  obtain ⟨x_6, ex_6⟩ : ∃ z : Int32, (x_5 : Int32).toInt8.toInt32 = z := ⟨_, rfl⟩
  refine lv_i2b (v := x_6) hx hb dX9_append_28 ex_6 ?_
  refine va_bast hx hb hX.1 hP hD hS 1 1 rfl rfl (by unfold vp_in; decide +kernel) dX9_append_29 (fun H locs hP hD hS => ?_)
  refine lv_aload_n hx hb dX9_append_30 rfl (lv_at hl 1 rfl) ?_
  refine lv_dup hx hb dX9_append_31 rfl ?_
  refine va_get (D := G) (ci := 6) (v := .int 18) (C := RX9) (T := TX9) (N := 11) (ref := RX9) hx hb hts h1w hown hX.1 hP 0 rfl rfl 1 (by decide) h0w (fun _ h9 => h9) rfl dX9_append_32 ?_
  refine lv_iconst (v := 1) hx hb dX9_append_35 (by decide +kernel) ?_
  refine lv_iadd hx hb dX9_append_36 ?_
  refine cz_ti (w := 19) (by decide +kernel) ?_
  refine va_put (D := G) (ci := 6) (v := .int 19) (ty := .int) (C := RX9) (T := TX9) (N := 11) (ref := RX9) hx hb hts h1w tyX9 tyX9_ok nmX9 hown hX.1 hP hD hS 0 rfl rfl 1 (by decide) h0w (fun _ h9 => h9) rfl (by decide +kernel) rfl rfl (Nat.le_of_ble_eq_true rfl) dX9_append_37 (fun H locs hP hD hS => ?_)
  obtain ⟨hP, hD⟩ : va_P G vwCl [(p0, .inr (6, [.ref p2, .int 19, v3, v4, v5, v6, v7, v8, v9, v10, v11])), (p2, .inl (k 1, 600, .inl (upd (upd (upd f12 (16 : Int32).toNatClampNeg (vp_nar .byte x_2)) (17 : Int32).toNatClampNeg (vp_nar .byte x_4)) (18 : Int32).toNatClampNeg (vp_nar .byte x_6))))] H ∧ va_D A [(p0, .inr (6, [.ref p2, .int 19, v3, v4, v5, v6, v7, v8, v9, v10, v11])), (p2, .inl (k 1, 600, .inl (upd (upd (upd f12 (16 : Int32).toNatClampNeg (vp_nar .byte x_2)) (17 : Int32).toNatClampNeg (vp_nar .byte x_4)) (18 : Int32).toNatClampNeg (vp_nar .byte x_6))))] := ⟨hP, hD⟩
  refine lv_iinc (v := 0) (lv' := [(2, .int 0), (0, .ref p0), (1, .int i1)]) hx hb dX9_append_40 hl (k := 0) rfl (by decide +kernel) (by decide) rfl (fun ls hl => ?_)
  refine lv_goto (tgt := 3) hx hb dX9_append_43 (by decide) ?_
  refine lv_iload_n hx hb dX9_append_3 rfl (lv_at hl 0 rfl) ?_
  refine lv_if_lt (tgt := 46) hx hb dX9_append_4 (by decide) (fun q => absurd (q) (by decide +kernel)) (fun _ => ?_)
  refine lv_aload_n hx hb dX9_append_7 rfl (lv_at hl 1 rfl) ?_
  refine va_get (D := G) (ci := 6) (v := .int 19) (C := RX9) (T := TX9) (N := 11) (ref := RX9) hx hb hts h1w hown hX.1 hP 0 rfl rfl 1 (by decide) h0w (fun _ h9 => h9) rfl dX9_append_8 ?_
  refine lv_sipush (v := 600) hx hb dX9_append_11 (by decide +kernel) ?_
  refine lv_icmp_ge (tgt := 46) hx hb dX9_append_14 (by decide) (fun q => absurd (q) (by decide +kernel)) (fun _ => ?_)
  refine lv_aload_n hx hb dX9_append_17 rfl (lv_at hl 1 rfl) ?_
  refine va_get (D := G) (ci := 6) (v := .ref p2) (C := RX9) (T := TX9) (N := 11) (ref := RX9) hx hb hts h1w hown hX.1 hP 0 rfl rfl 0 (by decide) h2w (fun _ h9 => h9) rfl dX9_append_18 ?_
  refine lv_aload_n hx hb dX9_append_21 rfl (lv_at hl 1 rfl) ?_
  refine va_get (D := G) (ci := 6) (v := .int 19) (C := RX9) (T := TX9) (N := 11) (ref := RX9) hx hb hts h1w hown hX.1 hP 0 rfl rfl 1 (by decide) h0w (fun _ h9 => h9) rfl dX9_append_22 ?_
  refine lv_iload_n hx hb dX9_append_25 rfl (lv_at hl 2 rfl) ?_
  refine lv_iload_n hx hb dX9_append_26 rfl (lv_at hl 0 rfl) ?_
  refine lv_ishr hx hb dX9_append_27 ?_
  refine lv_topi (fun x_7 ex_7 => ?_)
  obtain ⟨x_8, ex_8⟩ : ∃ z : Int32, (x_7 : Int32).toInt8.toInt32 = z := ⟨_, rfl⟩
  refine lv_i2b (v := x_8) hx hb dX9_append_28 ex_8 ?_
  refine va_bast hx hb hX.1 hP hD hS 1 1 rfl rfl (by unfold vp_in; decide +kernel) dX9_append_29 (fun H locs hP hD hS => ?_)
  refine lv_aload_n hx hb dX9_append_30 rfl (lv_at hl 1 rfl) ?_
  refine lv_dup hx hb dX9_append_31 rfl ?_
  refine va_get (D := G) (ci := 6) (v := .int 19) (C := RX9) (T := TX9) (N := 11) (ref := RX9) hx hb hts h1w hown hX.1 hP 0 rfl rfl 1 (by decide) h0w (fun _ h9 => h9) rfl dX9_append_32 ?_
  refine lv_iconst (v := 1) hx hb dX9_append_35 (by decide +kernel) ?_
  refine lv_iadd hx hb dX9_append_36 ?_
  refine cz_ti (w := 20) (by decide +kernel) ?_
  refine va_put (D := G) (ci := 6) (v := .int 20) (ty := .int) (C := RX9) (T := TX9) (N := 11) (ref := RX9) hx hb hts h1w tyX9 tyX9_ok nmX9 hown hX.1 hP hD hS 0 rfl rfl 1 (by decide) h0w (fun _ h9 => h9) rfl (by decide +kernel) rfl rfl (Nat.le_of_ble_eq_true rfl) dX9_append_37 (fun H locs hP hD hS => ?_)
  refine lv_iinc (v := (-8)) (lv' := [(2, .int (-8)), (0, .ref p0), (1, .int i1)]) hx hb dX9_append_40 hl (k := 0) rfl (by decide +kernel) (by decide) rfl (fun ls hl => ?_)
  refine lv_goto (tgt := 3) hx hb dX9_append_43 (by decide) ?_
  refine lv_iload_n hx hb dX9_append_3 rfl (lv_at hl 0 rfl) ?_
  refine lv_if_lt (tgt := 46) hx hb dX9_append_4 (by decide) (fun _ => ?_) (fun q => absurd (by decide +kernel) (q))
  have hP9 := hP.sub (ws' := [(p0, .inr (6, [.ref p2, .int 20, v3, v4, v5, v6, v7, v8, v9, v10, v11])), (p2, .inl (k 1, 600, .inl (upd (upd (upd (upd f12 (16 : Int32).toNatClampNeg (vp_nar .byte x_2)) (17 : Int32).toNatClampNeg (vp_nar .byte x_4)) (18 : Int32).toNatClampNeg (vp_nar .byte x_6)) (19 : Int32).toNatClampNeg (vp_nar .byte x_8))))]) [0, 1] rfl
  have hD9 := hD.sub (ws' := [(p0, .inr (6, [.ref p2, .int 20, v3, v4, v5, v6, v7, v8, v9, v10, v11])), (p2, .inl (k 1, 600, .inl (upd (upd (upd (upd f12 (16 : Int32).toNatClampNeg (vp_nar .byte x_2)) (17 : Int32).toNatClampNeg (vp_nar .byte x_4)) (18 : Int32).toNatClampNeg (vp_nar .byte x_6)) (19 : Int32).toNatClampNeg (vp_nar .byte x_8))))]) [0, 1] (by decide) rfl
  exact W.vret hx hb hr (fun t ht hW => ⟨⟨((upd (upd (upd (upd f12 (16 : Int32).toNatClampNeg (vp_nar .byte x_2)) (17 : Int32).toNatClampNeg (vp_nar .byte x_4)) (18 : Int32).toNatClampNeg (vp_nar .byte x_6)) (19 : Int32).toNatClampNeg (vp_nar .byte x_8))), rfl, trivial, by rw [ht]; exact hP9, hD9⟩, hS.F ht⟩) hS.2.2 dX9_append_46

set_option maxHeartbeats 4000000 in
set_option maxRecDepth 100000 in
theorem cX9_feed_0 (l : Launch) (G : va_G) (k : Nat → ClassId) (p0 : Nat) (i1 : Int32) (i2 : Int32) (i3 : Int32) (i4 : Int32) (i5 : Int32) (p6 : Nat) (v7 : Value) (v8 : Value) (v9 : Value) (v10 : Value) (v11 : Value) (v12 : Value) (v13 : Value) (v14 : Value) (v15 : Value) (f16 : Nat → Int32) (sz : Nat) : CMi l G k yX9_feed wsX9_feed ({ frames := 1, cells := 0, slots := 0, locals := 22 }) [.ref p0, .int i1, .int i2, .int i3, .int i4, .int i5] sz [(p0, .inr (6, [.ref p6, .int 0, v7, v8, v9, v10, v11, v12, v13, v14, v15])), (p6, .inl (k 1, 600, .inl f16))] (fun r (u : (Nat → Int32)) => r = 20) (fun (u : (Nat → Int32)) => [(p0, .inr (6, [.ref p6, .int 20, v7, v8, v9, v10, v11, v12, v13, v14, v15])), (p6, .inl (k 1, 600, .inl u))]) := by
  refine Met.ofW (cc := cX9_feed) (maxL := 6) (ret := (some .int)) (by decide) rfl ?_
  intro p e s m args below meth c s₁ B hml hv
  obtain ⟨rfl, hsz, hP, hX, hD0, hZ0⟩ := hv
  have hx := B.exec
  have hb := B.bytes
  have hr := B.returns
  have hts := atoms_spec (ws := wsX9_feed) B.pre
  have hown : s.vm.findClass RX9 = some m.cls := findClass_of_methodNamed B.named
  subst hsz
  have hD := hD0.self (sz := s.heap.size)
  have hZ := ZX.up hP hZ0
  generalize hAe : va_A [(p0, .inr (6, [.ref p6, .int 0, v7, v8, v9, v10, v11, v12, v13, v14, v15])), (p6, .inl (k 1, 600, .inl f16))] s.heap.size = A at hD hZ ⊢
  have hA : ∀ q : Nat, s.heap.size ≤ q → A q := fun q h => by rw [← hAe]; exact Or.inr h
  have hS : va_S A s.heap s.heap [] := va_S.rf
  have hP : va_P G vwCl [(p0, .inr (6, [.ref p6, .int 0, v7, v8, v9, v10, v11, v12, v13, v14, v15])), (p6, .inl (k 1, 600, .inl f16))] s.heap := hP
  have hl := lv_entry ([.ref p0, .int i1, .int i2, .int i3, .int i4, .int i5]) (n := 6) (Nat.le_of_ble_eq_true rfl)
  rw [lg_entry_eq]
  generalize (lg_sl ([.ref p0, .int i1, .int i2, .int i3, .int i4, .int i5]) ++ List.replicate (6 - (lg_sl ([.ref p0, .int i1, .int i2, .int i3, .int i4, .int i5])).length) Slot.unset).toArray = ls at hl ⊢
  have hl : lv_has ls 6 [(0, .ref p0), (1, .int i1), (2, .int i2), (3, .int i3), (4, .int i4), (5, .int i5)] := hl
  have h0w := hts (.fieldLink RX9 13 "RopeTown" "fed" "I") (by decide +kernel)
  have h1w : ∀ w ∈ wsX90, w ∈ wsX9_feed := by decide +kernel
  refine lv_aload_n hx hb dX9_feed_0 rfl (lv_at hl 0 rfl) ?_
  refine va_get (D := G) (ci := 6) (v := .int 0) (C := RX9) (T := TX9) (N := 11) (ref := RX9) hx hb hts h1w hown hX.1 hP 0 rfl rfl 1 (by decide) h0w (fun _ h9 => h9) rfl dX9_feed_1 ?_
  refine lv_bipush (v := 20) hx hb dX9_feed_4 (by decide +kernel) ?_
  refine lv_iadd hx hb dX9_feed_6 ?_
  refine cz_ti (w := 20) (by decide +kernel) ?_
  refine lv_sipush (v := 600) hx hb dX9_feed_7 (by decide +kernel) ?_
  refine lv_icmp_le (tgt := 15) hx hb dX9_feed_10 (by decide) (fun _ => ?_) (fun q => absurd (by decide +kernel) (q))
  refine lv_aload_n hx hb dX9_feed_15 rfl (lv_at hl 0 rfl) ?_
  refine lv_iload_n hx hb dX9_feed_16 rfl (lv_at hl 1 rfl) ?_
  refine cz_v (wr := []) (va_runV (As := [.int i1]) (rest := []) ⟨hx, hb, hml, hown, hts⟩ (cX9_append_0 l G k p0 i1 p6 v7 v8 v9 v10 v11 v12 v13 v14 v15 f16 s.heap.size) (cwV 1 hts gX9_feed_X9_append rfl rfl rfl (by decide +kernel) ⟨Nat.le_of_ble_eq_true rfl, Nat.le_of_ble_eq_true rfl⟩) (cz_preV hZ hS hX hP hD [0, 1] rfl rfl (ci := 6) (q0 := 0) rfl rfl) rfl rfl hl.1 rfl (lv_room (Nat.le_of_ble_eq_true rfl)) dX9_feed_17 ⟨Nat.le_of_ble_eq_true rfl, Nat.le_of_ble_eq_true rfl⟩) hP hD hS hA [0, 1] [] rfl rfl (by decide) (by decide) (fun u H locs hp hP hD hS => ?_)
  obtain ⟨f_1, rfl⟩ : ∃ z, z = u := ⟨_, rfl⟩
  refine lv_aload_n hx hb dX9_feed_20 rfl (lv_at hl 0 rfl) ?_
  refine lv_iload_n hx hb dX9_feed_21 rfl (lv_at hl 2 rfl) ?_
  refine cz_v (wr := []) (va_runV (As := [.int i2]) (rest := []) ⟨hx, hb, hml, hown, hts⟩ (cX9_append_1 l G k p0 i2 p6 v7 v8 v9 v10 v11 v12 v13 v14 v15 f_1 H.size) (cwV 1 hts gX9_feed_X9_append rfl rfl rfl (by decide +kernel) ⟨Nat.le_of_ble_eq_true rfl, Nat.le_of_ble_eq_true rfl⟩) (cz_preV hZ hS hX hP hD [0, 1] rfl rfl (ci := 6) (q0 := 0) rfl rfl) rfl rfl hl.1 rfl (lv_room (Nat.le_of_ble_eq_true rfl)) dX9_feed_22 ⟨Nat.le_of_ble_eq_true rfl, Nat.le_of_ble_eq_true rfl⟩) hP hD hS hA [0, 1] [] rfl rfl (by decide) (by decide) (fun u H locs hp hP hD hS => ?_)
  obtain ⟨f_2, rfl⟩ : ∃ z, z = u := ⟨_, rfl⟩
  refine lv_aload_n hx hb dX9_feed_25 rfl (lv_at hl 0 rfl) ?_
  refine lv_iload_n hx hb dX9_feed_26 rfl (lv_at hl 3 rfl) ?_
  refine cz_v (wr := []) (va_runV (As := [.int i3]) (rest := []) ⟨hx, hb, hml, hown, hts⟩ (cX9_append_2 l G k p0 i3 p6 v7 v8 v9 v10 v11 v12 v13 v14 v15 f_2 H.size) (cwV 1 hts gX9_feed_X9_append rfl rfl rfl (by decide +kernel) ⟨Nat.le_of_ble_eq_true rfl, Nat.le_of_ble_eq_true rfl⟩) (cz_preV hZ hS hX hP hD [0, 1] rfl rfl (ci := 6) (q0 := 0) rfl rfl) rfl rfl hl.1 rfl (lv_room (Nat.le_of_ble_eq_true rfl)) dX9_feed_27 ⟨Nat.le_of_ble_eq_true rfl, Nat.le_of_ble_eq_true rfl⟩) hP hD hS hA [0, 1] [] rfl rfl (by decide) (by decide) (fun u H locs hp hP hD hS => ?_)
  obtain ⟨f_3, rfl⟩ : ∃ z, z = u := ⟨_, rfl⟩
  refine lv_aload_n hx hb dX9_feed_30 rfl (lv_at hl 0 rfl) ?_
  refine lv_iload hx hb dX9_feed_31 (lv_at hl 4 rfl) ?_
  refine cz_v (wr := []) (va_runV (As := [.int i4]) (rest := []) ⟨hx, hb, hml, hown, hts⟩ (cX9_append_3 l G k p0 i4 p6 v7 v8 v9 v10 v11 v12 v13 v14 v15 f_3 H.size) (cwV 1 hts gX9_feed_X9_append rfl rfl rfl (by decide +kernel) ⟨Nat.le_of_ble_eq_true rfl, Nat.le_of_ble_eq_true rfl⟩) (cz_preV hZ hS hX hP hD [0, 1] rfl rfl (ci := 6) (q0 := 0) rfl rfl) rfl rfl hl.1 rfl (lv_room (Nat.le_of_ble_eq_true rfl)) dX9_feed_33 ⟨Nat.le_of_ble_eq_true rfl, Nat.le_of_ble_eq_true rfl⟩) hP hD hS hA [0, 1] [] rfl rfl (by decide) (by decide) (fun u H locs hp hP hD hS => ?_)
  obtain ⟨f_4, rfl⟩ : ∃ z, z = u := ⟨_, rfl⟩
  refine lv_aload_n hx hb dX9_feed_36 rfl (lv_at hl 0 rfl) ?_
  refine lv_iload hx hb dX9_feed_37 (lv_at hl 5 rfl) ?_
  refine cz_v (wr := []) (va_runV (As := [.int i5]) (rest := []) ⟨hx, hb, hml, hown, hts⟩ (cX9_append_4 l G k p0 i5 p6 v7 v8 v9 v10 v11 v12 v13 v14 v15 f_4 H.size) (cwV 1 hts gX9_feed_X9_append rfl rfl rfl (by decide +kernel) ⟨Nat.le_of_ble_eq_true rfl, Nat.le_of_ble_eq_true rfl⟩) (cz_preV hZ hS hX hP hD [0, 1] rfl rfl (ci := 6) (q0 := 0) rfl rfl) rfl rfl hl.1 rfl (lv_room (Nat.le_of_ble_eq_true rfl)) dX9_feed_39 ⟨Nat.le_of_ble_eq_true rfl, Nat.le_of_ble_eq_true rfl⟩) hP hD hS hA [0, 1] [] rfl rfl (by decide) (by decide) (fun u H locs hp hP hD hS => ?_)
  obtain ⟨f_5, rfl⟩ : ∃ z, z = u := ⟨_, rfl⟩
  refine lv_aload_n hx hb dX9_feed_42 rfl (lv_at hl 0 rfl) ?_
  refine va_get (D := G) (ci := 6) (v := .int 20) (C := RX9) (T := TX9) (N := 11) (ref := RX9) hx hb hts h1w hown hX.1 hP 0 rfl rfl 1 (by decide) h0w (fun _ h9 => h9) rfl dX9_feed_43 ?_
  have hP9 := hP.sub (ws' := [(p0, .inr (6, [.ref p6, .int 20, v7, v8, v9, v10, v11, v12, v13, v14, v15])), (p6, .inl (k 1, 600, .inl f_5))]) [0, 1] rfl
  have hD9 := hD.sub (ws' := [(p0, .inr (6, [.ref p6, .int 20, v7, v8, v9, v10, v11, v12, v13, v14, v15])), (p6, .inl (k 1, 600, .inl f_5))]) [0, 1] (by decide) rfl
  exact W.iret (v := 20) hx hb hr (fun t ht hW => ⟨⟨20, (f_5), rfl, rfl, by rw [ht]; exact hP9, hD9⟩, hS.F ht⟩) hS.2.2 dX9_feed_46

set_option maxHeartbeats 4000000 in
set_option maxRecDepth 100000 in
theorem cX4_rowEnd_0 (l : Launch) (G : va_G) (k : Nat → ClassId) (p0 : Nat) (v1 : Value) (v2 : Value) (v3 : Value) (v4 : Value) (v5 : Value) (v6 : Value) (sz : Nat) : CMi l G k yX4_rowEnd wsX4_rowEnd ({ frames := 0, cells := 0, slots := 0, locals := 0 }) [.ref p0, .int 97, .int 122] sz [(p0, .inr (3, [v1, .int 0, .int 0, v2, v3, v4, v5, v6]))] (fun r (u : Unit) => r = 0) (fun (u : Unit) => [(p0, .inr (3, [v1, .int 0, .int 0, v2, v3, v4, v5, v6]))]) := by
  refine Met.ofW (cc := cX4_rowEnd) (maxL := 5) (ret := (some .int)) (by decide) rfl ?_
  intro p e s m args below meth c s₁ B hml hv
  obtain ⟨rfl, hsz, hP, hX, hD0, hZ0⟩ := hv
  have hx := B.exec
  have hb := B.bytes
  have hr := B.returns
  have hts := atoms_spec (ws := wsX4_rowEnd) B.pre
  have hown : s.vm.findClass RX4 = some m.cls := findClass_of_methodNamed B.named
  subst hsz
  have hD := hD0.self (sz := s.heap.size)
  have hZ := ZX.up hP hZ0
  generalize hAe : va_A [(p0, .inr (3, [v1, .int 0, .int 0, v2, v3, v4, v5, v6]))] s.heap.size = A at hD hZ ⊢
  have hA : ∀ q : Nat, s.heap.size ≤ q → A q := fun q h => by rw [← hAe]; exact Or.inr h
  have hS : va_S A s.heap s.heap [] := va_S.rf
  have hP : va_P G vwCl [(p0, .inr (3, [v1, .int 0, .int 0, v2, v3, v4, v5, v6]))] s.heap := hP
  have hl := lv_entry ([.ref p0, .int 97, .int 122]) (n := 5) (Nat.le_of_ble_eq_true rfl)
  rw [lg_entry_eq]
  generalize (lg_sl ([.ref p0, .int 97, .int 122]) ++ List.replicate (5 - (lg_sl ([.ref p0, .int 97, .int 122])).length) Slot.unset).toArray = ls at hl ⊢
  have hl : lv_has ls 5 [(0, .ref p0), (1, .int 97), (2, .int 122)] := hl
  have h0w := hts (.fieldLink RX4 19 "RopeTown$Reader" "start" "I") (by decide +kernel)
  have h1w : ∀ w ∈ wsX40, w ∈ wsX4_rowEnd := by decide +kernel
  have h2w := hts (.fieldLink RX4 15 "RopeTown$Reader" "length" "I") (by decide +kernel)
  refine lv_aload_n hx hb dX4_rowEnd_0 rfl (lv_at hl 0 rfl) ?_
  refine va_get (D := G) (ci := 3) (v := .int 0) (C := RX4) (T := TX4) (N := 8) (ref := RX4) hx hb hts h1w hown hX.1 hP 0 rfl rfl 2 (by decide) h0w (fun _ h9 => h9) rfl dX4_rowEnd_1 ?_
  refine lv_istore_n (lv' := [(3, .int 0), (0, .ref p0), (1, .int 97), (2, .int 122)]) hx hb dX4_rowEnd_4 rfl hl (by decide) rfl (fun ls hl => ?_)
  refine lv_aload_n hx hb dX4_rowEnd_5 rfl (lv_at hl 1 rfl) ?_
  refine va_get (D := G) (ci := 3) (v := .int 0) (C := RX4) (T := TX4) (N := 8) (ref := RX4) hx hb hts h1w hown hX.1 hP 0 rfl rfl 2 (by decide) h0w (fun _ h9 => h9) rfl dX4_rowEnd_6 ?_
  refine lv_istore (lv' := [(4, .int 0), (3, .int 0), (0, .ref p0), (1, .int 97), (2, .int 122)]) hx hb dX4_rowEnd_9 hl (by decide) rfl (fun ls hl => ?_)
  refine lv_iload hx hb dX4_rowEnd_11 (lv_at hl 0 rfl) ?_
  refine lv_aload_n hx hb dX4_rowEnd_13 rfl (lv_at hl 2 rfl) ?_
  refine va_get (D := G) (ci := 3) (v := .int 0) (C := RX4) (T := TX4) (N := 8) (ref := RX4) hx hb hts h1w hown hX.1 hP 0 rfl rfl 1 (by decide) h2w (fun _ h9 => h9) rfl dX4_rowEnd_14 ?_
  refine lv_icmp_ge (tgt := 53) hx hb dX4_rowEnd_17 (by decide) (fun _ => ?_) (fun q => absurd (by decide +kernel) (q))
  refine lv_iload_n hx hb dX4_rowEnd_53 rfl (lv_at hl 1 rfl) ?_
  have hP9 := hP.sub (ws' := [(p0, .inr (3, [v1, .int 0, .int 0, v2, v3, v4, v5, v6]))]) [0] rfl
  have hD9 := hD.sub (ws' := [(p0, .inr (3, [v1, .int 0, .int 0, v2, v3, v4, v5, v6]))]) [0] (by decide) rfl
  exact W.iret (v := 0) hx hb hr (fun t ht hW => ⟨⟨0, (), rfl, rfl, by rw [ht]; exact hP9, hD9⟩, hS.F ht⟩) hS.2.2 dX4_rowEnd_54

set_option maxHeartbeats 4000000 in
set_option maxRecDepth 100000 in
theorem cX4_rowEnd_1 (l : Launch) (G : va_G) (k : Nat → ClassId) (p0 : Nat) (v1 : Value) (v2 : Value) (v3 : Value) (v4 : Value) (v5 : Value) (v6 : Value) (sz : Nat) : CMi l G k yX4_rowEnd wsX4_rowEnd ({ frames := 0, cells := 0, slots := 0, locals := 0 }) [.ref p0, .int 48, .int 57] sz [(p0, .inr (3, [v1, .int 0, .int 0, v2, v3, v4, v5, v6]))] (fun r (u : Unit) => r = 0) (fun (u : Unit) => [(p0, .inr (3, [v1, .int 0, .int 0, v2, v3, v4, v5, v6]))]) := by
  refine Met.ofW (cc := cX4_rowEnd) (maxL := 5) (ret := (some .int)) (by decide) rfl ?_
  intro p e s m args below meth c s₁ B hml hv
  obtain ⟨rfl, hsz, hP, hX, hD0, hZ0⟩ := hv
  have hx := B.exec
  have hb := B.bytes
  have hr := B.returns
  have hts := atoms_spec (ws := wsX4_rowEnd) B.pre
  have hown : s.vm.findClass RX4 = some m.cls := findClass_of_methodNamed B.named
  subst hsz
  have hD := hD0.self (sz := s.heap.size)
  have hZ := ZX.up hP hZ0
  generalize hAe : va_A [(p0, .inr (3, [v1, .int 0, .int 0, v2, v3, v4, v5, v6]))] s.heap.size = A at hD hZ ⊢
  have hA : ∀ q : Nat, s.heap.size ≤ q → A q := fun q h => by rw [← hAe]; exact Or.inr h
  have hS : va_S A s.heap s.heap [] := va_S.rf
  have hP : va_P G vwCl [(p0, .inr (3, [v1, .int 0, .int 0, v2, v3, v4, v5, v6]))] s.heap := hP
  have hl := lv_entry ([.ref p0, .int 48, .int 57]) (n := 5) (Nat.le_of_ble_eq_true rfl)
  rw [lg_entry_eq]
  generalize (lg_sl ([.ref p0, .int 48, .int 57]) ++ List.replicate (5 - (lg_sl ([.ref p0, .int 48, .int 57])).length) Slot.unset).toArray = ls at hl ⊢
  have hl : lv_has ls 5 [(0, .ref p0), (1, .int 48), (2, .int 57)] := hl
  have h0w := hts (.fieldLink RX4 19 "RopeTown$Reader" "start" "I") (by decide +kernel)
  have h1w : ∀ w ∈ wsX40, w ∈ wsX4_rowEnd := by decide +kernel
  have h2w := hts (.fieldLink RX4 15 "RopeTown$Reader" "length" "I") (by decide +kernel)
  refine lv_aload_n hx hb dX4_rowEnd_0 rfl (lv_at hl 0 rfl) ?_
  refine va_get (D := G) (ci := 3) (v := .int 0) (C := RX4) (T := TX4) (N := 8) (ref := RX4) hx hb hts h1w hown hX.1 hP 0 rfl rfl 2 (by decide) h0w (fun _ h9 => h9) rfl dX4_rowEnd_1 ?_
  refine lv_istore_n (lv' := [(3, .int 0), (0, .ref p0), (1, .int 48), (2, .int 57)]) hx hb dX4_rowEnd_4 rfl hl (by decide) rfl (fun ls hl => ?_)
  refine lv_aload_n hx hb dX4_rowEnd_5 rfl (lv_at hl 1 rfl) ?_
  refine va_get (D := G) (ci := 3) (v := .int 0) (C := RX4) (T := TX4) (N := 8) (ref := RX4) hx hb hts h1w hown hX.1 hP 0 rfl rfl 2 (by decide) h0w (fun _ h9 => h9) rfl dX4_rowEnd_6 ?_
  refine lv_istore (lv' := [(4, .int 0), (3, .int 0), (0, .ref p0), (1, .int 48), (2, .int 57)]) hx hb dX4_rowEnd_9 hl (by decide) rfl (fun ls hl => ?_)
  refine lv_iload hx hb dX4_rowEnd_11 (lv_at hl 0 rfl) ?_
  refine lv_aload_n hx hb dX4_rowEnd_13 rfl (lv_at hl 2 rfl) ?_
  refine va_get (D := G) (ci := 3) (v := .int 0) (C := RX4) (T := TX4) (N := 8) (ref := RX4) hx hb hts h1w hown hX.1 hP 0 rfl rfl 1 (by decide) h2w (fun _ h9 => h9) rfl dX4_rowEnd_14 ?_
  refine lv_icmp_ge (tgt := 53) hx hb dX4_rowEnd_17 (by decide) (fun _ => ?_) (fun q => absurd (by decide +kernel) (q))
  refine lv_iload_n hx hb dX4_rowEnd_53 rfl (lv_at hl 1 rfl) ?_
  have hP9 := hP.sub (ws' := [(p0, .inr (3, [v1, .int 0, .int 0, v2, v3, v4, v5, v6]))]) [0] rfl
  have hD9 := hD.sub (ws' := [(p0, .inr (3, [v1, .int 0, .int 0, v2, v3, v4, v5, v6]))]) [0] (by decide) rfl
  exact W.iret (v := 0) hx hb hr (fun t ht hW => ⟨⟨0, (), rfl, rfl, by rw [ht]; exact hP9, hD9⟩, hS.F ht⟩) hS.2.2 dX4_rowEnd_54

set_option maxHeartbeats 4000000 in
set_option maxRecDepth 100000 in
theorem cX4_stop_0 (l : Launch) (G : va_G) (k : Nat → ClassId) (p0 : Nat) (v1 : Value) (v2 : Value) (v3 : Value) (v4 : Value) (v5 : Value) (v6 : Value) (v7 : Value) (sz : Nat) : CMv l G k yX4_stop wsX4_stop ({ frames := 0, cells := 0, slots := 0, locals := 0 }) [.ref p0] sz [(p0, .inr (3, [v1, .int 0, v2, v3, v4, v5, v6, v7]))] (fun (u : Unit) => True) (fun (u : Unit) => [(p0, .inr (3, [v1, .int 0, .int 0, .int 0, .int 0, .ref (k 9), v6, .int 0]))]) := by
  refine Met.ofW (cc := cX4_stop) (maxL := 1) (ret := none) (by decide) rfl ?_
  intro p e s m args below meth c s₁ B hml hv
  obtain ⟨rfl, hsz, hP, hX, hD0, hZ0⟩ := hv
  have hx := B.exec
  have hb := B.bytes
  have hr := B.returns
  have hts := atoms_spec (ws := wsX4_stop) B.pre
  have hown : s.vm.findClass RX4 = some m.cls := findClass_of_methodNamed B.named
  subst hsz
  have hD := hD0.self (sz := s.heap.size)
  have hZ := ZX.up hP hZ0
  generalize hAe : va_A [(p0, .inr (3, [v1, .int 0, v2, v3, v4, v5, v6, v7]))] s.heap.size = A at hD hZ ⊢
  have hA : ∀ q : Nat, s.heap.size ≤ q → A q := fun q h => by rw [← hAe]; exact Or.inr h
  have hS : va_S A s.heap s.heap [] := va_S.rf
  have hP : va_P G vwCl [(p0, .inr (3, [v1, .int 0, v2, v3, v4, v5, v6, v7]))] s.heap := hP
  have hl := lv_entry ([.ref p0]) (n := 1) (Nat.le_of_ble_eq_true rfl)
  rw [lg_entry_eq]
  generalize (lg_sl ([.ref p0]) ++ List.replicate (1 - (lg_sl ([.ref p0])).length) Slot.unset).toArray = ls at hl ⊢
  have hl : lv_has ls 1 [(0, .ref p0)] := hl
  have h0w := hts (.fieldLink RX4 25 "RopeTown$Reader" "kind" "I") (by decide +kernel)
  have h1w : ∀ w ∈ wsX40, w ∈ wsX4_stop := by decide +kernel
  have h2w := hts (.fieldLink RX4 15 "RopeTown$Reader" "length" "I") (by decide +kernel)
  have h3w := hts (.fieldLink RX4 19 "RopeTown$Reader" "start" "I") (by decide +kernel)
  have h4w := hts (.fieldLink RX4 22 "RopeTown$Reader" "next" "I") (by decide +kernel)
  have h5w := hts (.fieldLink RX4 28 "RopeTown$Word" "UNKNOWN" "LRopeTown$Word;") (by decide +kernel)
  have h6w := hts (.fieldLink RX4 34 "RopeTown$Reader" "word" "LRopeTown$Word;") (by decide +kernel)
  have h7w := hts (.fieldLink RX4 40 "RopeTown$Reader" "sign" "I") (by decide +kernel)
  refine lv_aload_n hx hb dX4_stop_0 rfl (lv_at hl 0 rfl) ?_
  refine lv_iconst (v := 0) hx hb dX4_stop_1 (by decide +kernel) ?_
  refine va_put (D := G) (ci := 3) (v := .int 0) (ty := .int) (C := RX4) (T := TX4) (N := 8) (ref := RX4) hx hb hts h1w tyX4 tyX4_ok nmX4 hown hX.1 hP hD hS 0 rfl rfl 4 (by decide) h0w (fun _ h9 => h9) rfl (by decide +kernel) rfl rfl (Nat.le_of_ble_eq_true rfl) dX4_stop_2 (fun H locs hP hD hS => ?_)
  refine lv_aload_n hx hb dX4_stop_5 rfl (lv_at hl 0 rfl) ?_
  refine lv_aload_n hx hb dX4_stop_6 rfl (lv_at hl 0 rfl) ?_
  refine va_get (D := G) (ci := 3) (v := .int 0) (C := RX4) (T := TX4) (N := 8) (ref := RX4) hx hb hts h1w hown hX.1 hP 0 rfl rfl 1 (by decide) h2w (fun _ h9 => h9) rfl dX4_stop_7 ?_
  refine va_put (D := G) (ci := 3) (v := .int 0) (ty := .int) (C := RX4) (T := TX4) (N := 8) (ref := RX4) hx hb hts h1w tyX4 tyX4_ok nmX4 hown hX.1 hP hD hS 0 rfl rfl 2 (by decide) h3w (fun _ h9 => h9) rfl (by decide +kernel) rfl rfl (Nat.le_of_ble_eq_true rfl) dX4_stop_10 (fun H locs hP hD hS => ?_)
  refine lv_aload_n hx hb dX4_stop_13 rfl (lv_at hl 0 rfl) ?_
  refine lv_aload_n hx hb dX4_stop_14 rfl (lv_at hl 0 rfl) ?_
  refine va_get (D := G) (ci := 3) (v := .int 0) (C := RX4) (T := TX4) (N := 8) (ref := RX4) hx hb hts h1w hown hX.1 hP 0 rfl rfl 1 (by decide) h2w (fun _ h9 => h9) rfl dX4_stop_15 ?_
  refine va_put (D := G) (ci := 3) (v := .int 0) (ty := .int) (C := RX4) (T := TX4) (N := 8) (ref := RX4) hx hb hts h1w tyX4 tyX4_ok nmX4 hown hX.1 hP hD hS 0 rfl rfl 3 (by decide) h4w (fun _ h9 => h9) rfl (by decide +kernel) rfl rfl (Nat.le_of_ble_eq_true rfl) dX4_stop_18 (fun H locs hP hD hS => ?_)
  refine lv_aload_n hx hb dX4_stop_21 rfl (lv_at hl 0 rfl) ?_
  refine va_gets hx hb hZ.1 hS hown h5w (fun _ h9 => h9) dX4_stop_22 ?_
  refine va_put (D := G) (ci := 3) (v := .ref (k 9)) (ty := .object "RopeTown$Word") (C := RX4) (T := TX4) (N := 8) (ref := RX4) hx hb hts h1w tyX4 tyX4_ok nmX4 hown hX.1 hP hD hS 0 rfl rfl 5 (by decide) h6w (fun _ h9 => h9) rfl (by decide +kernel) rfl rfl (Nat.le_of_ble_eq_true rfl) dX4_stop_25 (fun H locs hP hD hS => ?_)
  refine lv_aload_n hx hb dX4_stop_28 rfl (lv_at hl 0 rfl) ?_
  refine lv_iconst (v := 0) hx hb dX4_stop_29 (by decide +kernel) ?_
  refine va_put (D := G) (ci := 3) (v := .int 0) (ty := .int) (C := RX4) (T := TX4) (N := 8) (ref := RX4) hx hb hts h1w tyX4 tyX4_ok nmX4 hown hX.1 hP hD hS 0 rfl rfl 7 (by decide) h7w (fun _ h9 => h9) rfl (by decide +kernel) rfl rfl (Nat.le_of_ble_eq_true rfl) dX4_stop_30 (fun H locs hP hD hS => ?_)
  have hP9 := hP.sub (ws' := [(p0, .inr (3, [v1, .int 0, .int 0, .int 0, .int 0, .ref (k 9), v6, .int 0]))]) [0] rfl
  have hD9 := hD.sub (ws' := [(p0, .inr (3, [v1, .int 0, .int 0, .int 0, .int 0, .ref (k 9), v6, .int 0]))]) [0] (by decide) rfl
  exact W.vret hx hb hr (fun t ht hW => ⟨⟨(), rfl, trivial, by rw [ht]; exact hP9, hD9⟩, hS.F ht⟩) hS.2.2 dX4_stop_33

set_option maxHeartbeats 4000000 in
set_option maxRecDepth 100000 in
theorem cX4_advance_0 (l : Launch) (G : va_G) (k : Nat → ClassId) (p0 : Nat) (v1 : Value) (v2 : Value) (v3 : Value) (v4 : Value) (v5 : Value) (sz : Nat) : CMv l G k yX4_advance wsX4_advance ({ frames := 1, cells := 0, slots := 0, locals := 24 }) [.ref p0] sz [(p0, .inr (3, [v1, .int 0, .int 0, .int 0, v2, v3, v4, v5]))] (fun (u : Unit) => True) (fun (u : Unit) => [(p0, .inr (3, [v1, .int 0, .int 0, .int 0, .int 0, .ref (k 9), v4, .int 0]))]) := by
  refine Met.ofW (cc := cX4_advance) (maxL := 3) (ret := none) (by decide) rfl ?_
  intro p e s m args below meth c s₁ B hml hv
  obtain ⟨rfl, hsz, hP, hX, hD0, hZ0⟩ := hv
  have hx := B.exec
  have hb := B.bytes
  have hr := B.returns
  have hts := atoms_spec (ws := wsX4_advance) B.pre
  have hown : s.vm.findClass RX4 = some m.cls := findClass_of_methodNamed B.named
  subst hsz
  have hD := hD0.self (sz := s.heap.size)
  have hZ := ZX.up hP hZ0
  generalize hAe : va_A [(p0, .inr (3, [v1, .int 0, .int 0, .int 0, v2, v3, v4, v5]))] s.heap.size = A at hD hZ ⊢
  have hA : ∀ q : Nat, s.heap.size ≤ q → A q := fun q h => by rw [← hAe]; exact Or.inr h
  have hS : va_S A s.heap s.heap [] := va_S.rf
  have hP : va_P G vwCl [(p0, .inr (3, [v1, .int 0, .int 0, .int 0, v2, v3, v4, v5]))] s.heap := hP
  have hl := lv_entry ([.ref p0]) (n := 3) (Nat.le_of_ble_eq_true rfl)
  rw [lg_entry_eq]
  generalize (lg_sl ([.ref p0]) ++ List.replicate (3 - (lg_sl ([.ref p0])).length) Slot.unset).toArray = ls at hl ⊢
  have hl : lv_has ls 3 [(0, .ref p0)] := hl
  have h0w := hts (.fieldLink RX4 22 "RopeTown$Reader" "next" "I") (by decide +kernel)
  have h1w : ∀ w ∈ wsX40, w ∈ wsX4_advance := by decide +kernel
  have h2w := hts (.fieldLink RX4 19 "RopeTown$Reader" "start" "I") (by decide +kernel)
  have h3w := hts (.fieldLink RX4 15 "RopeTown$Reader" "length" "I") (by decide +kernel)
  have h4w := hts (.fieldLink RX4 28 "RopeTown$Word" "UNKNOWN" "LRopeTown$Word;") (by decide +kernel)
  have h5w := hts (.fieldLink RX4 34 "RopeTown$Reader" "word" "LRopeTown$Word;") (by decide +kernel)
  have h6w := hts (.fieldLink RX4 40 "RopeTown$Reader" "sign" "I") (by decide +kernel)
  refine lv_aload_n hx hb dX4_advance_0 rfl (lv_at hl 0 rfl) ?_
  refine lv_aload_n hx hb dX4_advance_1 rfl (lv_at hl 0 rfl) ?_
  refine va_get (D := G) (ci := 3) (v := .int 0) (C := RX4) (T := TX4) (N := 8) (ref := RX4) hx hb hts h1w hown hX.1 hP 0 rfl rfl 3 (by decide) h0w (fun _ h9 => h9) rfl dX4_advance_2 ?_
  refine va_put (D := G) (ci := 3) (v := .int 0) (ty := .int) (C := RX4) (T := TX4) (N := 8) (ref := RX4) hx hb hts h1w tyX4 tyX4_ok nmX4 hown hX.1 hP hD hS 0 rfl rfl 2 (by decide) h2w (fun _ h9 => h9) rfl (by decide +kernel) rfl rfl (Nat.le_of_ble_eq_true rfl) dX4_advance_5 (fun H locs hP hD hS => ?_)
  refine lv_aload_n hx hb dX4_advance_8 rfl (lv_at hl 0 rfl) ?_
  refine va_get (D := G) (ci := 3) (v := .int 0) (C := RX4) (T := TX4) (N := 8) (ref := RX4) hx hb hts h1w hown hX.1 hP 0 rfl rfl 3 (by decide) h0w (fun _ h9 => h9) rfl dX4_advance_9 ?_
  refine lv_istore_n (lv' := [(1, .int 0), (0, .ref p0)]) hx hb dX4_advance_12 rfl hl (by decide) rfl (fun ls hl => ?_)
  refine lv_iload_n hx hb dX4_advance_13 rfl (lv_at hl 0 rfl) ?_
  refine lv_aload_n hx hb dX4_advance_14 rfl (lv_at hl 1 rfl) ?_
  refine va_get (D := G) (ci := 3) (v := .int 0) (C := RX4) (T := TX4) (N := 8) (ref := RX4) hx hb hts h1w hown hX.1 hP 0 rfl rfl 1 (by decide) h3w (fun _ h9 => h9) rfl dX4_advance_15 ?_
  refine lv_icmp_ge (tgt := 56) hx hb dX4_advance_18 (by decide) (fun _ => ?_) (fun q => absurd (by decide +kernel) (q))
  refine lv_aload_n hx hb dX4_advance_56 rfl (lv_at hl 1 rfl) ?_
  refine va_gets hx hb hZ.1 hS hown h4w (fun _ h9 => h9) dX4_advance_57 ?_
  refine va_put (D := G) (ci := 3) (v := .ref (k 9)) (ty := .object "RopeTown$Word") (C := RX4) (T := TX4) (N := 8) (ref := RX4) hx hb hts h1w tyX4 tyX4_ok nmX4 hown hX.1 hP hD hS 0 rfl rfl 5 (by decide) h5w (fun _ h9 => h9) rfl (by decide +kernel) rfl rfl (Nat.le_of_ble_eq_true rfl) dX4_advance_60 (fun H locs hP hD hS => ?_)
  refine lv_aload_n hx hb dX4_advance_63 rfl (lv_at hl 1 rfl) ?_
  refine lv_iconst (v := 0) hx hb dX4_advance_64 (by decide +kernel) ?_
  refine va_put (D := G) (ci := 3) (v := .int 0) (ty := .int) (C := RX4) (T := TX4) (N := 8) (ref := RX4) hx hb hts h1w tyX4 tyX4_ok nmX4 hown hX.1 hP hD hS 0 rfl rfl 7 (by decide) h6w (fun _ h9 => h9) rfl (by decide +kernel) rfl rfl (Nat.le_of_ble_eq_true rfl) dX4_advance_65 (fun H locs hP hD hS => ?_)
  refine lv_aload_n hx hb dX4_advance_68 rfl (lv_at hl 1 rfl) ?_
  refine lv_bipush (v := 97) hx hb dX4_advance_69 (by decide +kernel) ?_
  refine lv_bipush (v := 122) hx hb dX4_advance_71 (by decide +kernel) ?_
  refine cz_i (wr := []) (va_runV (As := [.int 97, .int 122]) (rest := []) ⟨hx, hb, hml, hown, hts⟩ (cX4_rowEnd_0 l G k p0 v1 (.int 0) v2 (.ref (k 9)) v4 (.int 0) H.size) (cwV 2 hts gX4_advance_X4_rowEnd rfl rfl rfl (by decide +kernel) ⟨Nat.le_of_ble_eq_true rfl, Nat.le_of_ble_eq_true rfl⟩) (cz_preV hZ hS hX hP hD [0] rfl rfl (ci := 3) (q0 := 0) rfl rfl) rfl rfl hl.1 rfl (lv_room (Nat.le_of_ble_eq_true rfl)) dX4_advance_73 ⟨Nat.le_of_ble_eq_true rfl, Nat.le_of_ble_eq_true rfl⟩) hP hD hS hA [0] [] rfl rfl (by decide) (by decide) (fun r u H locs hp hP hD hS => ?_)
  have hp : r = 0 := hp
  subst hp
  refine lv_istore_n (lv' := [(1, .int 0), (0, .ref p0)]) hx hb dX4_advance_76 rfl hl (by decide) rfl (fun ls hl => ?_)
  refine lv_aload_n hx hb dX4_advance_77 rfl (lv_at hl 1 rfl) ?_
  refine lv_bipush (v := 48) hx hb dX4_advance_78 (by decide +kernel) ?_
  refine lv_bipush (v := 57) hx hb dX4_advance_80 (by decide +kernel) ?_
  refine cz_i (wr := []) (va_runV (As := [.int 48, .int 57]) (rest := []) ⟨hx, hb, hml, hown, hts⟩ (cX4_rowEnd_1 l G k p0 v1 (.int 0) v2 (.ref (k 9)) v4 (.int 0) H.size) (cwV 2 hts gX4_advance_X4_rowEnd rfl rfl rfl (by decide +kernel) ⟨Nat.le_of_ble_eq_true rfl, Nat.le_of_ble_eq_true rfl⟩) (cz_preV hZ hS hX hP hD [0] rfl rfl (ci := 3) (q0 := 0) rfl rfl) rfl rfl hl.1 rfl (lv_room (Nat.le_of_ble_eq_true rfl)) dX4_advance_82 ⟨Nat.le_of_ble_eq_true rfl, Nat.le_of_ble_eq_true rfl⟩) hP hD hS hA [0] [] rfl rfl (by decide) (by decide) (fun r u H locs hp hP hD hS => ?_)
  have hp : r = 0 := hp
  subst hp
  refine lv_istore_n (lv' := [(2, .int 0), (1, .int 0), (0, .ref p0)]) hx hb dX4_advance_85 rfl hl (by decide) rfl (fun ls hl => ?_)
  refine lv_aload_n hx hb dX4_advance_86 rfl (lv_at hl 2 rfl) ?_
  refine va_get (D := G) (ci := 3) (v := .int 0) (C := RX4) (T := TX4) (N := 8) (ref := RX4) hx hb hts h1w hown hX.1 hP 0 rfl rfl 2 (by decide) h2w (fun _ h9 => h9) rfl dX4_advance_87 ?_
  refine lv_aload_n hx hb dX4_advance_90 rfl (lv_at hl 2 rfl) ?_
  refine va_get (D := G) (ci := 3) (v := .int 0) (C := RX4) (T := TX4) (N := 8) (ref := RX4) hx hb hts h1w hown hX.1 hP 0 rfl rfl 1 (by decide) h3w (fun _ h9 => h9) rfl dX4_advance_91 ?_
  refine lv_icmp_lt (tgt := 104) hx hb dX4_advance_94 (by decide) (fun q => absurd (q) (by decide +kernel)) (fun _ => ?_)
  refine lv_aload_n hx hb dX4_advance_97 rfl (lv_at hl 2 rfl) ?_
  refine cz_v (wr := []) (va_runV (As := []) (rest := []) ⟨hx, hb, hml, hown, hts⟩ (cX4_stop_0 l G k p0 v1 (.int 0) (.int 0) v2 (.ref (k 9)) v4 (.int 0) H.size) (cwV 0 hts gX4_advance_X4_stop rfl rfl rfl (by decide +kernel) ⟨Nat.le_of_ble_eq_true rfl, Nat.le_of_ble_eq_true rfl⟩) (cz_preV hZ hS hX hP hD [0] rfl rfl (ci := 3) (q0 := 0) rfl rfl) rfl rfl hl.1 rfl (lv_room (Nat.le_of_ble_eq_true rfl)) dX4_advance_98 ⟨Nat.le_of_ble_eq_true rfl, Nat.le_of_ble_eq_true rfl⟩) hP hD hS hA [0] [] rfl rfl (by decide) (by decide) (fun u H locs hp hP hD hS => ?_)
  obtain ⟨hP, hD⟩ : va_P G vwCl [(p0, .inr (3, [v1, .int 0, .int 0, .int 0, .int 0, .ref (k 9), v4, .int 0]))] H ∧ va_D A [(p0, .inr (3, [v1, .int 0, .int 0, .int 0, .int 0, .ref (k 9), v4, .int 0]))] := ⟨hP, hD⟩
  refine lv_goto (tgt := 158) hx hb dX4_advance_101 (by decide) ?_
  have hP9 := hP.sub (ws' := [(p0, .inr (3, [v1, .int 0, .int 0, .int 0, .int 0, .ref (k 9), v4, .int 0]))]) [0] rfl
  have hD9 := hD.sub (ws' := [(p0, .inr (3, [v1, .int 0, .int 0, .int 0, .int 0, .ref (k 9), v4, .int 0]))]) [0] (by decide) rfl
  exact W.vret hx hb hr (fun t ht hW => ⟨⟨(), rfl, trivial, by rw [ht]; exact hP9, hD9⟩, hS.F ht⟩) hS.2.2 dX4_advance_158

set_option maxHeartbeats 4000000 in
set_option maxRecDepth 100000 in
theorem cX4_open_0 (l : Launch) (G : va_G) (k : Nat → ClassId) (p0 : Nat) (p1 : Nat) (v2 : Value) (v3 : Value) (v4 : Value) (v5 : Value) (v6 : Value) (f7 : Nat → Int32) (sz : Nat) : CMv l G k yX4_open wsX4_open ({ frames := 2, cells := 0, slots := 0, locals := 46 }) [.ref p0, .ref p1, .int 0] sz [(p0, .inr (3, [v2, .int 0, .int 0, .int 0, v3, v4, v5, v6])), (p1, .inl (k 1, 600, .inl f7))] (fun (u : Unit) => True) (fun (u : Unit) => [(p1, .inl (k 1, 600, .inl f7)), (p0, .inr (3, [.ref p1, .int 0, .int 0, .int 0, .int 0, .ref (k 9), v5, .int 0]))]) := by
  refine Met.ofW (cc := cX4_open) (maxL := 3) (ret := none) (by decide) rfl ?_
  intro p e s m args below meth c s₁ B hml hv
  obtain ⟨rfl, hsz, hP, hX, hD0, hZ0⟩ := hv
  have hx := B.exec
  have hb := B.bytes
  have hr := B.returns
  have hts := atoms_spec (ws := wsX4_open) B.pre
  have hown : s.vm.findClass RX4 = some m.cls := findClass_of_methodNamed B.named
  subst hsz
  have hD := hD0.self (sz := s.heap.size)
  have hZ := ZX.up hP hZ0
  generalize hAe : va_A [(p0, .inr (3, [v2, .int 0, .int 0, .int 0, v3, v4, v5, v6])), (p1, .inl (k 1, 600, .inl f7))] s.heap.size = A at hD hZ ⊢
  have hA : ∀ q : Nat, s.heap.size ≤ q → A q := fun q h => by rw [← hAe]; exact Or.inr h
  have hS : va_S A s.heap s.heap [] := va_S.rf
  have hP : va_P G vwCl [(p0, .inr (3, [v2, .int 0, .int 0, .int 0, v3, v4, v5, v6])), (p1, .inl (k 1, 600, .inl f7))] s.heap := hP
  have hl := lv_entry ([.ref p0, .ref p1, .int 0]) (n := 3) (Nat.le_of_ble_eq_true rfl)
  rw [lg_entry_eq]
  generalize (lg_sl ([.ref p0, .ref p1, .int 0]) ++ List.replicate (3 - (lg_sl ([.ref p0, .ref p1, .int 0])).length) Slot.unset).toArray = ls at hl ⊢
  have hl : lv_has ls 3 [(0, .ref p0), (1, .ref p1), (2, .int 0)] := hl
  have h0w := hts (.fieldLink RX4 9 "RopeTown$Reader" "text" "[B") (by decide +kernel)
  have h1w : ∀ w ∈ wsX40, w ∈ wsX4_open := by decide +kernel
  have h2w := hts (.fieldLink RX4 15 "RopeTown$Reader" "length" "I") (by decide +kernel)
  have h3w := hts (.fieldLink RX4 22 "RopeTown$Reader" "next" "I") (by decide +kernel)
  refine lv_aload_n hx hb dX4_open_0 rfl (lv_at hl 0 rfl) ?_
  refine lv_aload_n hx hb dX4_open_1 rfl (lv_at hl 1 rfl) ?_
  refine va_put (D := G) (ci := 3) (v := .ref p1) (ty := .array .byte) (C := RX4) (T := TX4) (N := 8) (ref := RX4) hx hb hts h1w tyX4 tyX4_ok nmX4 hown hX.1 hP hD hS 0 rfl rfl 0 (by decide) h0w (fun _ h9 => h9) rfl (by decide +kernel) rfl rfl (Nat.le_of_ble_eq_true rfl) dX4_open_2 (fun H locs hP hD hS => ?_)
  refine lv_aload_n hx hb dX4_open_5 rfl (lv_at hl 0 rfl) ?_
  refine lv_iload_n hx hb dX4_open_6 rfl (lv_at hl 2 rfl) ?_
  refine lv_aload_n hx hb dX4_open_7 rfl (lv_at hl 1 rfl) ?_
  refine va_alen (v := 600) hx hb hX.1 hP 1 1 rfl rfl (show Int32.ofNat 600 = 600 by decide +kernel) dX4_open_8 ?_
  refine lv_icmp_ge (tgt := 16) hx hb dX4_open_9 (by decide) (fun q => absurd (q) (by decide +kernel)) (fun _ => ?_)
  refine lv_iload_n hx hb dX4_open_12 rfl (lv_at hl 2 rfl) ?_
  refine lv_goto (tgt := 18) hx hb dX4_open_13 (by decide) ?_
  refine va_put (D := G) (ci := 3) (v := .int 0) (ty := .int) (C := RX4) (T := TX4) (N := 8) (ref := RX4) hx hb hts h1w tyX4 tyX4_ok nmX4 hown hX.1 hP hD hS 0 rfl rfl 1 (by decide) h2w (fun _ h9 => h9) rfl (by decide +kernel) rfl rfl (Nat.le_of_ble_eq_true rfl) dX4_open_18 (fun H locs hP hD hS => ?_)
  refine lv_aload_n hx hb dX4_open_21 rfl (lv_at hl 0 rfl) ?_
  refine lv_iconst (v := 0) hx hb dX4_open_22 (by decide +kernel) ?_
  refine va_put (D := G) (ci := 3) (v := .int 0) (ty := .int) (C := RX4) (T := TX4) (N := 8) (ref := RX4) hx hb hts h1w tyX4 tyX4_ok nmX4 hown hX.1 hP hD hS 0 rfl rfl 3 (by decide) h3w (fun _ h9 => h9) rfl (by decide +kernel) rfl rfl (Nat.le_of_ble_eq_true rfl) dX4_open_23 (fun H locs hP hD hS => ?_)
  refine lv_aload_n hx hb dX4_open_26 rfl (lv_at hl 0 rfl) ?_
  refine cz_v (wr := [(p1, .inl (k 1, 600, .inl f7))]) (va_runV (As := []) (rest := []) ⟨hx, hb, hml, hown, hts⟩ (cX4_advance_0 l G k p0 (.ref p1) v3 v4 v5 v6 H.size) (cwV 0 hts gX4_open_X4_advance rfl rfl rfl (by decide +kernel) ⟨Nat.le_of_ble_eq_true rfl, Nat.le_of_ble_eq_true rfl⟩) (cz_preV hZ hS hX hP hD [0] rfl rfl (ci := 3) (q0 := 0) rfl rfl) rfl rfl hl.1 rfl (lv_room (Nat.le_of_ble_eq_true rfl)) dX4_open_27 ⟨Nat.le_of_ble_eq_true rfl, Nat.le_of_ble_eq_true rfl⟩) hP hD hS hA [0] [1] rfl rfl (by decide) (by decide) (fun u H locs hp hP hD hS => ?_)
  have hP9 := hP.sub (ws' := [(p1, .inl (k 1, 600, .inl f7)), (p0, .inr (3, [.ref p1, .int 0, .int 0, .int 0, .int 0, .ref (k 9), v5, .int 0]))]) [0, 1] rfl
  have hD9 := hD.sub (ws' := [(p1, .inl (k 1, 600, .inl f7)), (p0, .inr (3, [.ref p1, .int 0, .int 0, .int 0, .int 0, .ref (k 9), v5, .int 0]))]) [0, 1] (by decide) rfl
  exact W.vret hx hb hr (fun t ht hW => ⟨⟨(), rfl, trivial, by rw [ht]; exact hP9, hD9⟩, hS.F ht⟩) hS.2.2 dX4_open_30

set_option maxHeartbeats 4000000 in
set_option maxRecDepth 100000 in
theorem cX2_read_0 (l : Launch) (G : va_G) (k : Nat → ClassId) (p0 : Nat) (p1 : Nat) (p2 : Nat) (p3 : Nat) (v4 : Value) (v5 : Value) (v6 : Value) (v7 : Value) (v8 : Value) (v9 : Value) (v10 : Value) (v11 : Value) (v12 : Value) (v13 : Value) (v14 : Value) (v15 : Value) (v16 : Value) (v17 : Value) (p18 : Nat) (v19 : Value) (v20 : Value) (v21 : Value) (v22 : Value) (v23 : Value) (v24 : Value) (v25 : Value) (v26 : Value) (v27 : Value) (v28 : Value) (f29 : Nat → Int32) (sz : Nat) : CMi l G k yX2_read wsX2_read ({ frames := 3, cells := 0, slots := 0, locals := 68 }) [.ref p0, .ref p1, .int 0, .ref p2] sz [(p0, .inr (1, [.ref p3, .ref p2, v4, .int 0, v5])), (p2, .inr (2, [v6, v7, v8, v9, v10, v11, v12, v13, v14, v15, v16, v17, .ref p18, v19])), (p18, .inr (4, [v20, v21, v22, v23, v24])), (p3, .inr (3, [v25, .int 0, .int 0, .int 0, .int 0, v26, v27, v28])), (p1, .inl (k 1, 600, .inl f29))] (fun r (u : Unit) => r = 0) (fun (u : Unit) => [(p0, .inr (1, [.ref p3, .ref p2, .int 0, .int 0, .int (-1)])), (p2, .inr (2, [.int 1, .int 0, .int 99, .int 0, .int 1, .int 20, .int 0, .int 0, v14, v15, v16, v17, .ref p18, v19])), (p18, .inr (4, [v20, v21, v22, .int 0, .int 0])), (p1, .inl (k 1, 600, .inl f29)), (p3, .inr (3, [.ref p1, .int 0, .int 0, .int 0, .int 0, .ref (k 9), v27, .int 0]))]) := by
  refine Met.ofW (cc := cX2_read) (maxL := 5) (ret := (some .int)) (by decide) rfl ?_
  intro p e s m args below meth c s₁ B hml hv
  obtain ⟨rfl, hsz, hP, hX, hD0, hZ0⟩ := hv
  have hx := B.exec
  have hb := B.bytes
  have hr := B.returns
  have hts := atoms_spec (ws := wsX2_read) B.pre
  have hown : s.vm.findClass RX2 = some m.cls := findClass_of_methodNamed B.named
  subst hsz
  have hD := hD0.self (sz := s.heap.size)
  have hZ := ZX.up hP hZ0
  generalize hAe : va_A [(p0, .inr (1, [.ref p3, .ref p2, v4, .int 0, v5])), (p2, .inr (2, [v6, v7, v8, v9, v10, v11, v12, v13, v14, v15, v16, v17, .ref p18, v19])), (p18, .inr (4, [v20, v21, v22, v23, v24])), (p3, .inr (3, [v25, .int 0, .int 0, .int 0, .int 0, v26, v27, v28])), (p1, .inl (k 1, 600, .inl f29))] s.heap.size = A at hD hZ ⊢
  have hA : ∀ q : Nat, s.heap.size ≤ q → A q := fun q h => by rw [← hAe]; exact Or.inr h
  have hS : va_S A s.heap s.heap [] := va_S.rf
  have hP : va_P G vwCl [(p0, .inr (1, [.ref p3, .ref p2, v4, .int 0, v5])), (p2, .inr (2, [v6, v7, v8, v9, v10, v11, v12, v13, v14, v15, v16, v17, .ref p18, v19])), (p18, .inr (4, [v20, v21, v22, v23, v24])), (p3, .inr (3, [v25, .int 0, .int 0, .int 0, .int 0, v26, v27, v28])), (p1, .inl (k 1, 600, .inl f29))] s.heap := hP
  have hl := lv_entry ([.ref p0, .ref p1, .int 0, .ref p2]) (n := 5) (Nat.le_of_ble_eq_true rfl)
  rw [lg_entry_eq]
  generalize (lg_sl ([.ref p0, .ref p1, .int 0, .ref p2]) ++ List.replicate (5 - (lg_sl ([.ref p0, .ref p1, .int 0, .ref p2])).length) Slot.unset).toArray = ls at hl ⊢
  have hl : lv_has ls 5 [(0, .ref p0), (1, .ref p1), (2, .int 0), (3, .ref p2)] := hl
  have h0w := hts (.fieldLink RX2 18 "RopeTown$Parser" "plan" "LRopeTown$Plan;") (by decide +kernel)
  have h1w : ∀ w ∈ wsX20, w ∈ wsX2_read := by decide +kernel
  have h2w := hts (.initialized RX3) (by decide +kernel)
  have h3w := hts (.instanceMethod yX3_clear) (by decide +kernel)
  have h4w := hts (.selects RX3 yX3_clear yX3_clear) (by decide +kernel)
  have h5w := hts (.fieldLink RX2 22 "RopeTown$Parser" "told" "I") (by decide +kernel)
  have h6w := hts (.fieldLink RX2 26 "RopeTown$Parser" "fault" "I") (by decide +kernel)
  have h7w := hts (.fieldLink RX2 29 "RopeTown$Parser" "faultPlace" "I") (by decide +kernel)
  have h8w := hts (.fieldLink RX2 12 "RopeTown$Parser" "reader" "LRopeTown$Reader;") (by decide +kernel)
  have h9w := hts (.initialized RX4) (by decide +kernel)
  have h10w := hts (.instanceMethod yX4_open) (by decide +kernel)
  have h11w := hts (.selects RX4 yX4_open yX4_open) (by decide +kernel)
  have h12w : ∀ w ∈ wsX40, w ∈ wsX2_read := by decide +kernel
  refine lv_aload_n hx hb dX2_read_0 rfl (lv_at hl 0 rfl) ?_
  refine lv_aload_n hx hb dX2_read_1 rfl (lv_at hl 3 rfl) ?_
  refine va_put (D := G) (ci := 1) (v := .ref p2) (ty := .object "RopeTown$Plan") (C := RX2) (T := TX2) (N := 5) (ref := RX2) hx hb hts h1w tyX2 tyX2_ok nmX2 hown hX.1 hP hD hS 0 rfl rfl 1 (by decide) h0w (fun _ h9 => h9) rfl (by decide +kernel) rfl rfl (Nat.le_of_ble_eq_true rfl) dX2_read_2 (fun H locs hP hD hS => ?_)
  refine lv_aload_n hx hb dX2_read_5 rfl (lv_at hl 0 rfl) ?_
  refine va_get (D := G) (ci := 1) (v := .ref p2) (C := RX2) (T := TX2) (N := 5) (ref := RX2) hx hb hts h1w hown hX.1 hP 0 rfl rfl 1 (by decide) h0w (fun _ h9 => h9) rfl dX2_read_6 ?_
  refine cz_v (wr := [(p0, .inr (1, [.ref p3, .ref p2, v4, .int 0, v5])), (p3, .inr (3, [v25, .int 0, .int 0, .int 0, .int 0, v26, v27, v28])), (p1, .inl (k 1, 600, .inl f29))]) (va_runVN (As := []) (rest := []) ⟨hx, hb, hml, hown, hts⟩ (cX3_clear_0 l G k p2 v6 v7 v8 v9 v10 v11 v12 v13 v14 v15 v16 v17 p18 v19 v20 v21 v22 v23 v24 H.size) ⟨va_cnB 0 hts gX2_read_X3_clear_n32 rfl rfl rfl (nm_29 hX.2.2.1) h2w (by decide +kernel) ⟨Nat.le_of_ble_eq_true rfl, Nat.le_of_ble_eq_true rfl⟩, h3w, h4w⟩ (cz_preV hZ hS hX hP hD [1, 2] rfl rfl (ci := 2) (q0 := 1) rfl rfl) rfl rfl hl.1 rfl (lv_room (Nat.le_of_ble_eq_true rfl)) dX2_read_9 ⟨Nat.le_of_ble_eq_true rfl, Nat.le_of_ble_eq_true rfl⟩) hP hD hS hA [1, 2] [0, 3, 4] rfl rfl (by decide) (by decide) (fun u H locs hp hP hD hS => ?_)
  refine lv_aload_n hx hb dX2_read_12 rfl (lv_at hl 0 rfl) ?_
  refine lv_iconst (v := 0) hx hb dX2_read_13 (by decide +kernel) ?_
  refine va_put (D := G) (ci := 1) (v := .int 0) (ty := .int) (C := RX2) (T := TX2) (N := 5) (ref := RX2) hx hb hts h1w tyX2 tyX2_ok nmX2 hown hX.1 hP hD hS 0 rfl rfl 2 (by decide) h5w (fun _ h9 => h9) rfl (by decide +kernel) rfl rfl (Nat.le_of_ble_eq_true rfl) dX2_read_14 (fun H locs hP hD hS => ?_)
  refine lv_aload_n hx hb dX2_read_17 rfl (lv_at hl 0 rfl) ?_
  refine lv_iconst (v := 0) hx hb dX2_read_18 (by decide +kernel) ?_
  refine va_put (D := G) (ci := 1) (v := .int 0) (ty := .int) (C := RX2) (T := TX2) (N := 5) (ref := RX2) hx hb hts h1w tyX2 tyX2_ok nmX2 hown hX.1 hP hD hS 0 rfl rfl 3 (by decide) h6w (fun _ h9 => h9) rfl (by decide +kernel) rfl rfl (Nat.le_of_ble_eq_true rfl) dX2_read_19 (fun H locs hP hD hS => ?_)
  refine lv_aload_n hx hb dX2_read_22 rfl (lv_at hl 0 rfl) ?_
  refine lv_iconst (v := (-1)) hx hb dX2_read_23 (by decide +kernel) ?_
  refine va_put (D := G) (ci := 1) (v := .int (-1)) (ty := .int) (C := RX2) (T := TX2) (N := 5) (ref := RX2) hx hb hts h1w tyX2 tyX2_ok nmX2 hown hX.1 hP hD hS 0 rfl rfl 4 (by decide) h7w (fun _ h9 => h9) rfl (by decide +kernel) rfl rfl (Nat.le_of_ble_eq_true rfl) dX2_read_24 (fun H locs hP hD hS => ?_)
  refine lv_aload_n hx hb dX2_read_27 rfl (lv_at hl 0 rfl) ?_
  refine va_get (D := G) (ci := 1) (v := .ref p3) (C := RX2) (T := TX2) (N := 5) (ref := RX2) hx hb hts h1w hown hX.1 hP 0 rfl rfl 0 (by decide) h8w (fun _ h9 => h9) rfl dX2_read_28 ?_
  refine lv_aload_n hx hb dX2_read_31 rfl (lv_at hl 1 rfl) ?_
  refine lv_iload_n hx hb dX2_read_32 rfl (lv_at hl 2 rfl) ?_
  refine cz_v (wr := [(p0, .inr (1, [.ref p3, .ref p2, .int 0, .int 0, .int (-1)])), (p2, .inr (2, [.int 1, .int 0, .int 99, .int 0, .int 1, .int 20, .int 0, .int 0, v14, v15, v16, v17, .ref p18, v19])), (p18, .inr (4, [v20, v21, v22, .int 0, .int 0]))]) (va_runVN (As := [.ref p1, .int 0]) (rest := []) ⟨hx, hb, hml, hown, hts⟩ (cX4_open_0 l G k p3 p1 v25 (.int 0) v26 v27 v28 f29 H.size) ⟨va_cnB 2 hts gX2_read_X4_open_n37 rfl rfl rfl (nm_30 hX.2.2.1) h9w (by decide +kernel) ⟨Nat.le_of_ble_eq_true rfl, Nat.le_of_ble_eq_true rfl⟩, h10w, h11w⟩ (cz_preV hZ hS hX hP hD [1, 2] rfl rfl (ci := 3) (q0 := 1) rfl rfl) rfl rfl hl.1 rfl (lv_room (Nat.le_of_ble_eq_true rfl)) dX2_read_33 ⟨Nat.le_of_ble_eq_true rfl, Nat.le_of_ble_eq_true rfl⟩) hP hD hS hA [1, 2] [0, 3, 4] rfl rfl (by decide) (by decide) (fun u H locs hp hP hD hS => ?_)
  obtain ⟨hP, hD⟩ : va_P G vwCl [(p0, .inr (1, [.ref p3, .ref p2, .int 0, .int 0, .int (-1)])), (p2, .inr (2, [.int 1, .int 0, .int 99, .int 0, .int 1, .int 20, .int 0, .int 0, v14, v15, v16, v17, .ref p18, v19])), (p18, .inr (4, [v20, v21, v22, .int 0, .int 0])), (p1, .inl (k 1, 600, .inl f29)), (p3, .inr (3, [.ref p1, .int 0, .int 0, .int 0, .int 0, .ref (k 9), v27, .int 0]))] H ∧ va_D A [(p0, .inr (1, [.ref p3, .ref p2, .int 0, .int 0, .int (-1)])), (p2, .inr (2, [.int 1, .int 0, .int 99, .int 0, .int 1, .int 20, .int 0, .int 0, v14, v15, v16, v17, .ref p18, v19])), (p18, .inr (4, [v20, v21, v22, .int 0, .int 0])), (p1, .inl (k 1, 600, .inl f29)), (p3, .inr (3, [.ref p1, .int 0, .int 0, .int 0, .int 0, .ref (k 9), v27, .int 0]))] := ⟨hP, hD⟩
  refine lv_iconst (v := 0) hx hb dX2_read_36 (by decide +kernel) ?_
  refine lv_istore (lv' := [(4, .int 0), (0, .ref p0), (1, .ref p1), (2, .int 0), (3, .ref p2)]) hx hb dX2_read_37 hl (by decide) rfl (fun ls hl => ?_)
  refine lv_iload hx hb dX2_read_39 (lv_at hl 0 rfl) ?_
  refine lv_sipush (v := 600) hx hb dX2_read_41 (by decide +kernel) ?_
  refine lv_icmp_ge (tgt := 77) hx hb dX2_read_44 (by decide) (fun q => absurd (q) (by decide +kernel)) (fun _ => ?_)
  refine lv_aload_n hx hb dX2_read_47 rfl (lv_at hl 1 rfl) ?_
  refine va_get (D := G) (ci := 1) (v := .ref p3) (C := RX2) (T := TX2) (N := 5) (ref := RX2) hx hb hts h1w hown hX.1 hP 0 rfl rfl 0 (by decide) h8w (fun _ h9 => h9) rfl dX2_read_48 ?_
  refine va_getN (D := G) (ci := 3) (v := .int 0) (C := RX4) (T := TX4) (N := 8) (ref := RX4) (host := RX9) hx hb hts h12w hown hX.1 hP 4 rfl rfl 4 (by decide) (nf_32 hX.2.2.1) (fun _ h9 => h9) rfl dX2_read_51 ?_
  refine lv_if_eq (tgt := 77) hx hb dX2_read_54 (by decide) (fun _ => ?_) (fun q => absurd (by decide +kernel) (q))
  refine lv_aload_n hx hb dX2_read_77 rfl (lv_at hl 1 rfl) ?_
  refine va_get (D := G) (ci := 1) (v := .int 0) (C := RX2) (T := TX2) (N := 5) (ref := RX2) hx hb hts h1w hown hX.1 hP 0 rfl rfl 3 (by decide) h6w (fun _ h9 => h9) rfl dX2_read_78 ?_
  have hP9 := hP.sub (ws' := [(p0, .inr (1, [.ref p3, .ref p2, .int 0, .int 0, .int (-1)])), (p2, .inr (2, [.int 1, .int 0, .int 99, .int 0, .int 1, .int 20, .int 0, .int 0, v14, v15, v16, v17, .ref p18, v19])), (p18, .inr (4, [v20, v21, v22, .int 0, .int 0])), (p1, .inl (k 1, 600, .inl f29)), (p3, .inr (3, [.ref p1, .int 0, .int 0, .int 0, .int 0, .ref (k 9), v27, .int 0]))]) [0, 1, 2, 3, 4] rfl
  have hD9 := hD.sub (ws' := [(p0, .inr (1, [.ref p3, .ref p2, .int 0, .int 0, .int (-1)])), (p2, .inr (2, [.int 1, .int 0, .int 99, .int 0, .int 1, .int 20, .int 0, .int 0, v14, v15, v16, v17, .ref p18, v19])), (p18, .inr (4, [v20, v21, v22, .int 0, .int 0])), (p1, .inl (k 1, 600, .inl f29)), (p3, .inr (3, [.ref p1, .int 0, .int 0, .int 0, .int 0, .ref (k 9), v27, .int 0]))]) [0, 1, 2, 3, 4] (by decide) rfl
  exact W.iret (v := 0) hx hb hr (fun t ht hW => ⟨⟨0, (), rfl, rfl, by rw [ht]; exact hP9, hD9⟩, hS.F ht⟩) hS.2.2 dX2_read_81

